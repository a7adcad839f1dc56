-- M_put
def f_M_put_55 (S : (Nat → Nat → Int32)) (s1 s2 : Int32) : Option (Nat → Nat → Int32) := some (qwr S 7 0 (s1 + s2))
def f_M_put (S : (Nat → Nat → Int32)) (a1 a2 a3 a4 a5 a6 : Int32) : Option (Nat → Nat → Int32) := qck (qin a1 9000) (qck (qin a1 9000) (qck (qin a1 9000) (qck (qin a1 9000) (qck (qin a1 9000) (if (150 : Int32) ≤ a1 then (f_M_put_55  (qwr (qwr (qwr (qwr (qwr S 9 a1.toNatClampNeg a2) 10 a1.toNatClampNeg a3) 11 a1.toNatClampNeg a4) 12 a1.toNatClampNeg a5) 13 a1.toNatClampNeg a6) ((qwr (qwr (qwr (qwr (qwr S 9 a1.toNatClampNeg a2) 10 a1.toNatClampNeg a3) 11 a1.toNatClampNeg a4) 12 a1.toNatClampNeg a5) 13 a1.toNatClampNeg a6) 7 0) (0 : Int32)) else (f_M_put_55  (qwr (qwr (qwr (qwr (qwr S 9 a1.toNatClampNeg a2) 10 a1.toNatClampNeg a3) 11 a1.toNatClampNeg a4) 12 a1.toNatClampNeg a5) 13 a1.toNatClampNeg a6) ((qwr (qwr (qwr (qwr (qwr S 9 a1.toNatClampNeg a2) 10 a1.toNatClampNeg a3) 11 a1.toNatClampNeg a4) 12 a1.toNatClampNeg a5) 13 a1.toNatClampNeg a6) 7 0) (1 : Int32)))))))
set_option maxRecDepth 100000 in
set_option maxHeartbeats 4000000 in
theorem t_M_put_55 {p : Program} {l : Launch} {e : Env} {R : Room} {s : State} {m : MethodId} {args : Array Value} {below : List Frame} {meth : Method} {c : Code} {Q : State → Prop} {D : va_G} {ad : Nat → Nat} {cI cZ : ClassId} {A : Nat → Prop} (F : CallFix p m c qb_M_put 7 s args qtb "CaptureSubtypesModel") (hR : 0 ≤ R.frames ∧ 0 ≤ R.locals) (hK : va_K D qcl [(cI, .int), (cZ, .boolean)] s) (hN : qnests mns s) (hA : ∀ q, s.heap.size ≤ q → A q) {res : (Nat → Nat → Int32)} (hQ : ∀ (H : Heap) (locs : List Loc) (pc : Nat) (ls : Array Slot), decode qb_M_put pc = .ok (.return_, 1) → mW D ad cI cZ A s.heap res H locs → W p l e R s m args below meth c H locs 0 0 Q (F0 m pc ls [])) (S : (Nat → Nat → Int32)) (s1 s2 : Int32) (hM : f_M_put_55 S s1 s2 = some res) {H : Heap} {locs : List Loc} {ls : Array Slot} (w : mW D ad cI cZ A s.heap S H locs) (hl : lv_has ls 7 [(0, .ref (ad 0))]) : W p l e R s m args below meth c H locs 0 0 Q (F0 m 55 ls [.int s2, .int s1, .ref (ad 0)]) := by
  unfold f_M_put_55 at hM
  refine lv_iadd F.1 F.2.1 qd_M_put_55 ?_
  refine mp_M_types F hK w qk_662 qd_M_put_56 (fun H locs w => ?_)
  cases hM
  exact hQ _ _ _ _ qd_M_put_59 w
set_option maxRecDepth 100000 in
set_option maxHeartbeats 4000000 in
theorem t_M_put {p : Program} {l : Launch} {e : Env} {R : Room} {s : State} {m : MethodId} {args : Array Value} {below : List Frame} {meth : Method} {c : Code} {Q : State → Prop} {D : va_G} {ad : Nat → Nat} {cI cZ : ClassId} {A : Nat → Prop} (F : CallFix p m c qb_M_put 7 s args qtb "CaptureSubtypesModel") (hR : 0 ≤ R.frames ∧ 0 ≤ R.locals) (hK : va_K D qcl [(cI, .int), (cZ, .boolean)] s) (hN : qnests mns s) (hA : ∀ q, s.heap.size ≤ q → A q) {res : (Nat → Nat → Int32)} (hQ : ∀ (H : Heap) (locs : List Loc) (pc : Nat) (ls : Array Slot), decode qb_M_put pc = .ok (.return_, 1) → mW D ad cI cZ A s.heap res H locs → W p l e R s m args below meth c H locs 0 0 Q (F0 m pc ls [])) (S : (Nat → Nat → Int32)) (a1 a2 a3 a4 a5 a6 : Int32) (hM : f_M_put S a1 a2 a3 a4 a5 a6 = some res) {H : Heap} {locs : List Loc} {ls : Array Slot} (w : mW D ad cI cZ A s.heap S H locs) (hl : lv_has ls 7 [(0, .ref (ad 0)), (1, .int a1), (2, .int a2), (3, .int a3), (4, .int a4), (5, .int a5), (6, .int a6)]) : W p l e R s m args below meth c H locs 0 0 Q (F0 m 0 ls []) := by
  unfold f_M_put at hM
  refine lv_aload_n F.1 F.2.1 qd_M_put_0 rfl (lv_at hl 0 rfl) ?_
  refine mg_M_sort F hK w qk_664 qd_M_put_1 ?_
  refine lv_iload_n F.1 F.2.1 qd_M_put_4 rfl (lv_at hl 1 rfl) ?_
  refine lv_iload_n F.1 F.2.1 qd_M_put_5 rfl (lv_at hl 2 rfl) ?_
  obtain ⟨hi1, hM⟩ := qck_ok hM
  refine ms_M_sort F hK w hi1 qd_M_put_6 (fun H locs w => ?_)
  refine lv_aload_n F.1 F.2.1 qd_M_put_7 rfl (lv_at hl 0 rfl) ?_
  refine mg_M_first F hK w qk_665 qd_M_put_8 ?_
  refine lv_iload_n F.1 F.2.1 qd_M_put_11 rfl (lv_at hl 1 rfl) ?_
  refine lv_iload_n F.1 F.2.1 qd_M_put_12 rfl (lv_at hl 3 rfl) ?_
  obtain ⟨hi2, hM⟩ := qck_ok hM
  refine ms_M_first F hK w hi2 qd_M_put_13 (fun H locs w => ?_)
  refine lv_aload_n F.1 F.2.1 qd_M_put_14 rfl (lv_at hl 0 rfl) ?_
  refine mg_M_second F hK w qk_666 qd_M_put_15 ?_
  refine lv_iload_n F.1 F.2.1 qd_M_put_18 rfl (lv_at hl 1 rfl) ?_
  refine lv_iload F.1 F.2.1 qd_M_put_19 (lv_at hl 4 rfl) ?_
  obtain ⟨hi3, hM⟩ := qck_ok hM
  refine ms_M_second F hK w hi3 qd_M_put_21 (fun H locs w => ?_)
  refine lv_aload_n F.1 F.2.1 qd_M_put_22 rfl (lv_at hl 0 rfl) ?_
  refine mg_M_third F hK w qk_667 qd_M_put_23 ?_
  refine lv_iload_n F.1 F.2.1 qd_M_put_26 rfl (lv_at hl 1 rfl) ?_
  refine lv_iload F.1 F.2.1 qd_M_put_27 (lv_at hl 5 rfl) ?_
  obtain ⟨hi4, hM⟩ := qck_ok hM
  refine ms_M_third F hK w hi4 qd_M_put_29 (fun H locs w => ?_)
  refine lv_aload_n F.1 F.2.1 qd_M_put_30 rfl (lv_at hl 0 rfl) ?_
  refine mg_M_deep F hK w qk_668 qd_M_put_31 ?_
  refine lv_iload_n F.1 F.2.1 qd_M_put_34 rfl (lv_at hl 1 rfl) ?_
  refine lv_iload F.1 F.2.1 qd_M_put_35 (lv_at hl 6 rfl) ?_
  obtain ⟨hi5, hM⟩ := qck_ok hM
  refine ms_M_deep F hK w hi5 qd_M_put_37 (fun H locs w => ?_)
  refine lv_aload_n F.1 F.2.1 qd_M_put_38 rfl (lv_at hl 0 rfl) ?_
  refine lv_dup F.1 F.2.1 qd_M_put_39 rfl ?_
  refine mg_M_types F hK w qk_662 qd_M_put_40 ?_
  refine lv_iload_n F.1 F.2.1 qd_M_put_43 rfl (lv_at hl 1 rfl) ?_
  refine lv_sipush (v := 150) F.1 F.2.1 qd_M_put_44 (by decide) ?_
  refine lv_icmp_ge (tgt := 54) F.1 F.2.1 qd_M_put_47 (by decide) (fun hc6 => ?_) (fun hc6 => ?_)
  · rw [if_pos hc6] at hM
    refine lv_iconst (v := 0) F.1 F.2.1 qd_M_put_54 (by decide) ?_
    exact t_M_put_55 F hR hK hN hA hQ  _ _ _ hM w (lv_sub hl [0] rfl)
  · rw [if_neg hc6] at hM
    refine lv_iconst (v := 1) F.1 F.2.1 qd_M_put_50 (by decide) ?_
    refine lv_goto (tgt := 55) F.1 F.2.1 qd_M_put_51 (by decide) ?_
    exact t_M_put_55 F hR hK hN hA hQ  _ _ _ hM w (lv_sub hl [0] rfl)
set_option maxRecDepth 100000 in
theorem c_M_put (l : Launch) (D : va_G) (ad : Nat → Nat) (cI cZ : ClassId) {S : (Nat → Nat → Int32)} {a1 a2 a3 a4 a5 a6 : Int32} {res : (Nat → Nat → Int32)} (hM : f_M_put S a1 a2 a3 a4 a5 a6 = some res) : mMv l qy_M_put qb_M_put 7 none { frames := 0, cells := 0, slots := 0, locals := 0 } D ad cI cZ S [.ref (ad 0), .int a1, .int a2, .int a3, .int a4, .int a5, .int a6] res := m_ofv (by decide +kernel) (Nat.le_of_ble_eq_true rfl) (fun p e s m args below meth c Q A ls F hK hN hA w hl hQ => t_M_put F ⟨Nat.le_refl _, Nat.le_refl _⟩ hK hN hA hQ S a1 a2 a3 a4 a5 a6 hM w hl)
-- M_fresh
def f_M_fresh (S : (Nat → Nat → Int32)) : Option (Nat → Nat → Int32) := some (qwr (qwr S 8 0 (150 : Int32)) 14 0 (0 : Int32))
set_option maxRecDepth 100000 in
set_option maxHeartbeats 4000000 in
theorem t_M_fresh {p : Program} {l : Launch} {e : Env} {R : Room} {s : State} {m : MethodId} {args : Array Value} {below : List Frame} {meth : Method} {c : Code} {Q : State → Prop} {D : va_G} {ad : Nat → Nat} {cI cZ : ClassId} {A : Nat → Prop} (F : CallFix p m c qb_M_fresh 1 s args qtb "CaptureSubtypesModel") (hR : 0 ≤ R.frames ∧ 0 ≤ R.locals) (hK : va_K D qcl [(cI, .int), (cZ, .boolean)] s) (hN : qnests mns s) (hA : ∀ q, s.heap.size ≤ q → A q) {res : (Nat → Nat → Int32)} (hQ : ∀ (H : Heap) (locs : List Loc) (pc : Nat) (ls : Array Slot), decode qb_M_fresh pc = .ok (.return_, 1) → mW D ad cI cZ A s.heap res H locs → W p l e R s m args below meth c H locs 0 0 Q (F0 m pc ls [])) (S : (Nat → Nat → Int32)) (hM : f_M_fresh S  = some res) {H : Heap} {locs : List Loc} {ls : Array Slot} (w : mW D ad cI cZ A s.heap S H locs) (hl : lv_has ls 1 [(0, .ref (ad 0))]) : W p l e R s m args below meth c H locs 0 0 Q (F0 m 0 ls []) := by
  unfold f_M_fresh at hM
  refine lv_aload_n F.1 F.2.1 qd_M_fresh_0 rfl (lv_at hl 0 rfl) ?_
  refine lv_sipush (v := 150) F.1 F.2.1 qd_M_fresh_1 (by decide) ?_
  refine mp_M_pool F hK w qk_663 qd_M_fresh_4 (fun H locs w => ?_)
  refine lv_aload_n F.1 F.2.1 qd_M_fresh_7 rfl (lv_at hl 0 rfl) ?_
  refine lv_iconst (v := 0) F.1 F.2.1 qd_M_fresh_8 (by decide) ?_
  refine mp_M_caught F hK w qk_669 qd_M_fresh_9 (fun H locs w => ?_)
  cases hM
  exact hQ _ _ _ _ qd_M_fresh_12 w
set_option maxRecDepth 100000 in
theorem c_M_fresh (l : Launch) (D : va_G) (ad : Nat → Nat) (cI cZ : ClassId) {S : (Nat → Nat → Int32)} {res : (Nat → Nat → Int32)} (hM : f_M_fresh S  = some res) : mMv l qy_M_fresh qb_M_fresh 1 none { frames := 0, cells := 0, slots := 0, locals := 0 } D ad cI cZ S [.ref (ad 0)] res := m_ofv (by decide +kernel) (Nat.le_of_ble_eq_true rfl) (fun p e s m args below meth c Q A ls F hK hN hA w hl hQ => t_M_fresh F ⟨Nat.le_refl _, Nat.le_refl _⟩ hK hN hA hQ S  hM w hl)
-- M_begin
def f_M_begin (S : (Nat → Nat → Int32)) : Option (Nat → Nat → Int32) := qck (qin (0 : Int32) 12) (qck (qin (0 : Int32) 12) (qck (qin (0 : Int32) 12) (qck (qin (0 : Int32) 36) ((f_M_put (qwr (qwr (qwr (qwr (qwr (qwr S 0 0 (1 : Int32)) 1 (0 : Int32).toNatClampNeg (0 : Int32)) 2 (0 : Int32).toNatClampNeg (0 : Int32)) 4 (0 : Int32).toNatClampNeg (0 : Int32)) 3 (0 : Int32).toNatClampNeg (-1 : Int32)) 7 0 (0 : Int32)) ((qwr (qwr (qwr (qwr (qwr (qwr S 0 0 (1 : Int32)) 1 (0 : Int32).toNatClampNeg (0 : Int32)) 2 (0 : Int32).toNatClampNeg (0 : Int32)) 4 (0 : Int32).toNatClampNeg (0 : Int32)) 3 (0 : Int32).toNatClampNeg (-1 : Int32)) 7 0 (0 : Int32)) 7 0) (0 : Int32) (0 : Int32) (-1 : Int32) (-1 : Int32) (1 : Int32)).bind (fun q5 => (f_M_put q5 (q5 7 0) (6 : Int32) (-1 : Int32) (-1 : Int32) (-1 : Int32) (1 : Int32)).bind (fun q7 => (f_M_put q7 (q7 7 0) (7 : Int32) (-1 : Int32) (-1 : Int32) (-1 : Int32) (1 : Int32)).bind (fun q9 => (f_M_fresh q9).bind (fun q11 => some q11))))))))
set_option maxRecDepth 100000 in
set_option maxHeartbeats 4000000 in
theorem t_M_begin {p : Program} {l : Launch} {e : Env} {R : Room} {s : State} {m : MethodId} {args : Array Value} {below : List Frame} {meth : Method} {c : Code} {Q : State → Prop} {D : va_G} {ad : Nat → Nat} {cI cZ : ClassId} {A : Nat → Prop} (F : CallFix p m c qb_M_begin 1 s args qtb "CaptureSubtypesModel") (hR : 1 ≤ R.frames ∧ 26 ≤ R.locals) (hK : va_K D qcl [(cI, .int), (cZ, .boolean)] s) (hN : qnests mns s) (hA : ∀ q, s.heap.size ≤ q → A q) {res : (Nat → Nat → Int32)} (hQ : ∀ (H : Heap) (locs : List Loc) (pc : Nat) (ls : Array Slot), decode qb_M_begin pc = .ok (.return_, 1) → mW D ad cI cZ A s.heap res H locs → W p l e R s m args below meth c H locs 0 0 Q (F0 m pc ls [])) (S : (Nat → Nat → Int32)) (hM : f_M_begin S  = some res) {H : Heap} {locs : List Loc} {ls : Array Slot} (w : mW D ad cI cZ A s.heap S H locs) (hl : lv_has ls 1 [(0, .ref (ad 0))]) : W p l e R s m args below meth c H locs 0 0 Q (F0 m 0 ls []) := by
  unfold f_M_begin at hM
  refine lv_aload_n F.1 F.2.1 qd_M_begin_0 rfl (lv_at hl 0 rfl) ?_
  refine lv_iconst (v := 1) F.1 F.2.1 qd_M_begin_1 (by decide) ?_
  refine mp_M_classes F hK w qk_655 qd_M_begin_2 (fun H locs w => ?_)
  refine lv_aload_n F.1 F.2.1 qd_M_begin_5 rfl (lv_at hl 0 rfl) ?_
  refine mg_M_kinds F hK w qk_656 qd_M_begin_6 ?_
  refine lv_iconst (v := 0) F.1 F.2.1 qd_M_begin_9 (by decide) ?_
  refine lv_iconst (v := 0) F.1 F.2.1 qd_M_begin_10 (by decide) ?_
  obtain ⟨hi1, hM⟩ := qck_ok hM
  refine ms_M_kinds F hK w hi1 qd_M_begin_11 (fun H locs w => ?_)
  refine lv_aload_n F.1 F.2.1 qd_M_begin_12 rfl (lv_at hl 0 rfl) ?_
  refine mg_M_parameters F hK w qk_657 qd_M_begin_13 ?_
  refine lv_iconst (v := 0) F.1 F.2.1 qd_M_begin_16 (by decide) ?_
  refine lv_iconst (v := 0) F.1 F.2.1 qd_M_begin_17 (by decide) ?_
  obtain ⟨hi2, hM⟩ := qck_ok hM
  refine ms_M_parameters F hK w hi2 qd_M_begin_18 (fun H locs w => ?_)
  refine lv_aload_n F.1 F.2.1 qd_M_begin_19 rfl (lv_at hl 0 rfl) ?_
  refine mg_M_others F hK w qk_659 qd_M_begin_20 ?_
  refine lv_iconst (v := 0) F.1 F.2.1 qd_M_begin_23 (by decide) ?_
  refine lv_iconst (v := 0) F.1 F.2.1 qd_M_begin_24 (by decide) ?_
  obtain ⟨hi3, hM⟩ := qck_ok hM
  refine ms_M_others F hK w hi3 qd_M_begin_25 (fun H locs w => ?_)
  refine lv_aload_n F.1 F.2.1 qd_M_begin_26 rfl (lv_at hl 0 rfl) ?_
  refine mg_M_supers F hK w qk_658 qd_M_begin_27 ?_
  refine lv_iconst (v := 0) F.1 F.2.1 qd_M_begin_30 (by decide) ?_
  refine lv_iconst (v := (-1)) F.1 F.2.1 qd_M_begin_31 (by decide) ?_
  obtain ⟨hi4, hM⟩ := qck_ok hM
  refine ms_M_supers F hK w hi4 qd_M_begin_32 (fun H locs w => ?_)
  refine lv_aload_n F.1 F.2.1 qd_M_begin_33 rfl (lv_at hl 0 rfl) ?_
  refine lv_iconst (v := 0) F.1 F.2.1 qd_M_begin_34 (by decide) ?_
  refine mp_M_types F hK w qk_662 qd_M_begin_35 (fun H locs w => ?_)
  refine lv_aload_n F.1 F.2.1 qd_M_begin_38 rfl (lv_at hl 0 rfl) ?_
  refine lv_aload_n F.1 F.2.1 qd_M_begin_39 rfl (lv_at hl 0 rfl) ?_
  refine mg_M_types F hK w qk_662 qd_M_begin_40 ?_
  refine lv_iconst (v := 0) F.1 F.2.1 qd_M_begin_43 (by decide) ?_
  refine lv_iconst (v := 0) F.1 F.2.1 qd_M_begin_44 (by decide) ?_
  refine lv_iconst (v := (-1)) F.1 F.2.1 qd_M_begin_45 (by decide) ?_
  refine lv_iconst (v := (-1)) F.1 F.2.1 qd_M_begin_46 (by decide) ?_
  refine lv_iconst (v := 1) F.1 F.2.1 qd_M_begin_47 (by decide) ?_
  obtain ⟨q5, hq6, hM⟩ := qbd hM
  refine m_callv F hK hN hA w (c_M_put l D ad cI cZ hq6) qk_647 qk_649 qs_M_put qk_8 qk_650 qv_M_put rfl rfl ⟨Nat.le_trans (by decide) hR.1, Nat.le_trans (by decide) hR.2⟩ (ci := 6) rfl (j := 0) rfl hl.1 rfl (Nat.le_of_ble_eq_true rfl) qd_M_begin_48 (fun H locs w => ?_)
  refine lv_aload_n F.1 F.2.1 qd_M_begin_51 rfl (lv_at hl 0 rfl) ?_
  refine lv_aload_n F.1 F.2.1 qd_M_begin_52 rfl (lv_at hl 0 rfl) ?_
  refine mg_M_types F hK w qk_662 qd_M_begin_53 ?_
  refine lv_bipush (v := 6) F.1 F.2.1 qd_M_begin_56 (by decide) ?_
  refine lv_iconst (v := (-1)) F.1 F.2.1 qd_M_begin_58 (by decide) ?_
  refine lv_iconst (v := (-1)) F.1 F.2.1 qd_M_begin_59 (by decide) ?_
  refine lv_iconst (v := (-1)) F.1 F.2.1 qd_M_begin_60 (by decide) ?_
  refine lv_iconst (v := 1) F.1 F.2.1 qd_M_begin_61 (by decide) ?_
  obtain ⟨q7, hq8, hM⟩ := qbd hM
  refine m_callv F hK hN hA w (c_M_put l D ad cI cZ hq8) qk_647 qk_649 qs_M_put qk_8 qk_650 qv_M_put rfl rfl ⟨Nat.le_trans (by decide) hR.1, Nat.le_trans (by decide) hR.2⟩ (ci := 6) rfl (j := 0) rfl hl.1 rfl (Nat.le_of_ble_eq_true rfl) qd_M_begin_62 (fun H locs w => ?_)
  refine lv_aload_n F.1 F.2.1 qd_M_begin_65 rfl (lv_at hl 0 rfl) ?_
  refine lv_aload_n F.1 F.2.1 qd_M_begin_66 rfl (lv_at hl 0 rfl) ?_
  refine mg_M_types F hK w qk_662 qd_M_begin_67 ?_
  refine lv_bipush (v := 7) F.1 F.2.1 qd_M_begin_70 (by decide) ?_
  refine lv_iconst (v := (-1)) F.1 F.2.1 qd_M_begin_72 (by decide) ?_
  refine lv_iconst (v := (-1)) F.1 F.2.1 qd_M_begin_73 (by decide) ?_
  refine lv_iconst (v := (-1)) F.1 F.2.1 qd_M_begin_74 (by decide) ?_
  refine lv_iconst (v := 1) F.1 F.2.1 qd_M_begin_75 (by decide) ?_
  obtain ⟨q9, hq10, hM⟩ := qbd hM
  refine m_callv F hK hN hA w (c_M_put l D ad cI cZ hq10) qk_647 qk_649 qs_M_put qk_8 qk_650 qv_M_put rfl rfl ⟨Nat.le_trans (by decide) hR.1, Nat.le_trans (by decide) hR.2⟩ (ci := 6) rfl (j := 0) rfl hl.1 rfl (Nat.le_of_ble_eq_true rfl) qd_M_begin_76 (fun H locs w => ?_)
  refine lv_aload_n F.1 F.2.1 qd_M_begin_79 rfl (lv_at hl 0 rfl) ?_
  obtain ⟨q11, hq12, hM⟩ := qbd hM
  refine m_callv F hK hN hA w (c_M_fresh l D ad cI cZ hq12) qk_651 qk_653 qs_M_fresh qk_8 qk_654 qv_M_fresh rfl rfl ⟨Nat.le_trans (by decide) hR.1, Nat.le_trans (by decide) hR.2⟩ (ci := 6) rfl (j := 0) rfl hl.1 rfl (Nat.le_of_ble_eq_true rfl) qd_M_begin_80 (fun H locs w => ?_)
  cases hM
  exact hQ _ _ _ _ qd_M_begin_83 w
set_option maxRecDepth 100000 in
theorem c_M_begin (l : Launch) (D : va_G) (ad : Nat → Nat) (cI cZ : ClassId) {S : (Nat → Nat → Int32)} {res : (Nat → Nat → Int32)} (hM : f_M_begin S  = some res) : mMv l qy_M_begin qb_M_begin 1 none { frames := 1, cells := 0, slots := 0, locals := 26 } D ad cI cZ S [.ref (ad 0)] res := m_ofv (by decide +kernel) (Nat.le_of_ble_eq_true rfl) (fun p e s m args below meth c Q A ls F hK hN hA w hl hQ => t_M_begin F ⟨Nat.le_refl _, Nat.le_refl _⟩ hK hN hA hQ S  hM w hl)
-- M_clear
def f_M_clear (S : (Nat → Nat → Int32)) : Option (Int32 × (Nat → Nat → Int32)) := (f_M_begin S).bind (fun q1 => some ((S 0 0), q1))
set_option maxRecDepth 100000 in
set_option maxHeartbeats 4000000 in
theorem t_M_clear {p : Program} {l : Launch} {e : Env} {R : Room} {s : State} {m : MethodId} {args : Array Value} {below : List Frame} {meth : Method} {c : Code} {Q : State → Prop} {D : va_G} {ad : Nat → Nat} {cI cZ : ClassId} {A : Nat → Prop} (F : CallFix p m c qb_M_clear 2 s args qtb "CaptureSubtypesModel") (hR : 2 ≤ R.frames ∧ 46 ≤ R.locals) (hK : va_K D qcl [(cI, .int), (cZ, .boolean)] s) (hN : qnests mns s) (hA : ∀ q, s.heap.size ≤ q → A q) {res : (Int32 × (Nat → Nat → Int32))} (hQ : ∀ (H : Heap) (locs : List Loc) (pc : Nat) (ls : Array Slot), decode qb_M_clear pc = .ok (.ireturn, 1) → mW D ad cI cZ A s.heap res.2 H locs → W p l e R s m args below meth c H locs 0 0 Q (F0 m pc ls [.int res.1])) (S : (Nat → Nat → Int32)) (hM : f_M_clear S  = some res) {H : Heap} {locs : List Loc} {ls : Array Slot} (w : mW D ad cI cZ A s.heap S H locs) (hl : lv_has ls 2 [(0, .ref (ad 0))]) : W p l e R s m args below meth c H locs 0 0 Q (F0 m 0 ls []) := by
  unfold f_M_clear at hM
  refine lv_aload_n F.1 F.2.1 qd_M_clear_0 rfl (lv_at hl 0 rfl) ?_
  refine mg_M_classes F hK w qk_655 qd_M_clear_1 ?_
  refine lv_istore_n (lv' := [(1, .int (S 0 0)), (0, .ref (ad 0))]) F.1 F.2.1 qd_M_clear_4 rfl hl (by decide) rfl (fun ls hl => ?_)
  refine lv_aload_n F.1 F.2.1 qd_M_clear_5 rfl (lv_at hl 1 rfl) ?_
  obtain ⟨q1, hq2, hM⟩ := qbd hM
  refine m_callv F hK hN hA w (c_M_begin l D ad cI cZ hq2) qk_643 qk_645 qs_M_begin qk_8 qk_646 qv_M_begin rfl rfl ⟨Nat.le_trans (by decide) hR.1, Nat.le_trans (by decide) hR.2⟩ (ci := 6) rfl (j := 0) rfl hl.1 rfl (Nat.le_of_ble_eq_true rfl) qd_M_clear_6 (fun H locs w => ?_)
  refine lv_iload_n F.1 F.2.1 qd_M_clear_9 rfl (lv_at hl 0 rfl) ?_
  cases hM
  exact hQ _ _ _ _ qd_M_clear_10 w
set_option maxRecDepth 100000 in
theorem c_M_clear (l : Launch) (D : va_G) (ad : Nat → Nat) (cI cZ : ClassId) {S : (Nat → Nat → Int32)} {res : (Int32 × (Nat → Nat → Int32))} (hM : f_M_clear S  = some res) : mMi l qy_M_clear qb_M_clear 2 (some .int) { frames := 2, cells := 0, slots := 0, locals := 46 } D ad cI cZ S [.ref (ad 0)] res.1 res.2 := m_ofi (by decide +kernel) (Nat.le_of_ble_eq_true rfl) (fun p e s m args below meth c Q A ls F hK hN hA w hl hQ => t_M_clear F ⟨Nat.le_refl _, Nat.le_refl _⟩ hK hN hA hQ S  hM w hl)
-- M_isIn
def f_M_isIn (S : (Nat → Nat → Int32)) (a1 a2 a3 : Int32) : Option Bool := if a1 < a2 then (some false) else (if a3 < a1 then (some false) else (some true))
set_option maxRecDepth 100000 in
set_option maxHeartbeats 4000000 in
theorem t_M_isIn {p : Program} {l : Launch} {e : Env} {R : Room} {s : State} {m : MethodId} {args : Array Value} {below : List Frame} {meth : Method} {c : Code} {Q : State → Prop} {D : va_G} {ad : Nat → Nat} {cI cZ : ClassId} {A : Nat → Prop} (F : CallFix p m c qb_M_isIn 3 s args qtb "CaptureSubtypesModel") (hR : 0 ≤ R.frames ∧ 0 ≤ R.locals) (hK : va_K D qcl [(cI, .int), (cZ, .boolean)] s) (hN : qnests mns s) (hA : ∀ q, s.heap.size ≤ q → A q) {res : Bool} {S : (Nat → Nat → Int32)} (hQ : ∀ (H : Heap) (locs : List Loc) (pc : Nat) (ls : Array Slot), decode qb_M_isIn pc = .ok (.ireturn, 1) → mW D ad cI cZ A s.heap S H locs → W p l e R s m args below meth c H locs 0 0 Q (F0 m pc ls [.int (qB res)])) (a1 a2 a3 : Int32) (hM : f_M_isIn S a1 a2 a3 = some res) {H : Heap} {locs : List Loc} {ls : Array Slot} (w : mW D ad cI cZ A s.heap S H locs) (hl : lv_has ls 3 [(0, .int a1), (1, .int a2), (2, .int a3)]) : W p l e R s m args below meth c H locs 0 0 Q (F0 m 0 ls []) := by
  unfold f_M_isIn at hM
  refine lv_iload_n F.1 F.2.1 qd_M_isIn_0 rfl (lv_at hl 0 rfl) ?_
  refine lv_iload_n F.1 F.2.1 qd_M_isIn_1 rfl (lv_at hl 1 rfl) ?_
  refine lv_icmp_lt (tgt := 14) F.1 F.2.1 qd_M_isIn_2 (by decide) (fun hc1 => ?_) (fun hc1 => ?_)
  · rw [if_pos hc1] at hM
    refine lv_iconst (v := 0) F.1 F.2.1 qd_M_isIn_14 (by decide) ?_
    cases hM
    exact hQ _ _ _ _ qd_M_isIn_15 w
  · rw [if_neg hc1] at hM
    refine lv_iload_n F.1 F.2.1 qd_M_isIn_5 rfl (lv_at hl 0 rfl) ?_
    refine lv_iload_n F.1 F.2.1 qd_M_isIn_6 rfl (lv_at hl 2 rfl) ?_
    refine lv_icmp_gt (tgt := 14) F.1 F.2.1 qd_M_isIn_7 (by decide) (fun hc2 => ?_) (fun hc2 => ?_)
    · rw [if_pos hc2] at hM
      refine lv_iconst (v := 0) F.1 F.2.1 qd_M_isIn_14 (by decide) ?_
      cases hM
      exact hQ _ _ _ _ qd_M_isIn_15 w
    · rw [if_neg hc2] at hM
      refine lv_iconst (v := 1) F.1 F.2.1 qd_M_isIn_10 (by decide) ?_
      refine lv_goto (tgt := 15) F.1 F.2.1 qd_M_isIn_11 (by decide) ?_
      cases hM
      exact hQ _ _ _ _ qd_M_isIn_15 w
set_option maxRecDepth 100000 in
theorem c_M_isIn (l : Launch) (D : va_G) (ad : Nat → Nat) (cI cZ : ClassId) {S : (Nat → Nat → Int32)} {a1 a2 a3 : Int32} {res : Bool} (hM : f_M_isIn S a1 a2 a3 = some res) : mMi l qy_M_isIn qb_M_isIn 3 (some .boolean) { frames := 0, cells := 0, slots := 0, locals := 0 } D ad cI cZ S [.int a1, .int a2, .int a3] (qB res) S := m_ofz (by decide +kernel) (Nat.le_of_ble_eq_true rfl) (fun p e s m args below meth c Q A ls F hK hN hA w hl hQ => t_M_isIn F ⟨Nat.le_refl _, Nat.le_refl _⟩ hK hN hA hQ a1 a2 a3 hM w hl)
-- M_declare
def f_M_declare (S : (Nat → Nat → Int32)) (a1 a2 : Int32) : Option (Int32 × (Nat → Nat → Int32)) := (f_M_isIn S a1 (0 : Int32) (4 : Int32)).bind (fun q1 => if (qB q1) = 0 then (some ((-2 : Int32), S)) else ((f_M_isIn S a2 (0 : Int32) (2 : Int32)).bind (fun q4 => if (qB q4) = 0 then (some ((-2 : Int32), S)) else (if (S 0 0) = (12 : Int32) then (some ((-3 : Int32), S)) else (qck (qin (S 0 0) 12) (qck (qin (S 0 0) 12) (qck (qin ((3 : Int32) * (S 0 0)) 36) (qck (qin (S 0 0) 12) (qck (qin ((2 : Int32) * (S 0 0)) 24) (qck (qin (((2 : Int32) * (S 0 0)) + (1 : Int32)) 24) (some ((S 0 0), (qwr (qwr (qwr (qwr (qwr (qwr (qwr S 1 (S 0 0).toNatClampNeg a1) 2 (S 0 0).toNatClampNeg a2) 3 ((3 : Int32) * (S 0 0)).toNatClampNeg (-1 : Int32)) 4 (S 0 0).toNatClampNeg (0 : Int32)) 6 ((2 : Int32) * (S 0 0)).toNatClampNeg (0 : Int32)) 6 (((2 : Int32) * (S 0 0)) + (1 : Int32)).toNatClampNeg (0 : Int32)) 0 0 (((qwr (qwr (qwr (qwr (qwr (qwr S 1 (S 0 0).toNatClampNeg a1) 2 (S 0 0).toNatClampNeg a2) 3 ((3 : Int32) * (S 0 0)).toNatClampNeg (-1 : Int32)) 4 (S 0 0).toNatClampNeg (0 : Int32)) 6 ((2 : Int32) * (S 0 0)).toNatClampNeg (0 : Int32)) 6 (((2 : Int32) * (S 0 0)) + (1 : Int32)).toNatClampNeg (0 : Int32)) 0 0) + (1 : Int32)))))))))))))))
set_option maxRecDepth 100000 in
set_option maxHeartbeats 4000000 in
theorem t_M_declare {p : Program} {l : Launch} {e : Env} {R : Room} {s : State} {m : MethodId} {args : Array Value} {below : List Frame} {meth : Method} {c : Code} {Q : State → Prop} {D : va_G} {ad : Nat → Nat} {cI cZ : ClassId} {A : Nat → Prop} (F : CallFix p m c qb_M_declare 4 s args qtb "CaptureSubtypesModel") (hR : 1 ≤ R.frames ∧ 22 ≤ R.locals) (hK : va_K D qcl [(cI, .int), (cZ, .boolean)] s) (hN : qnests mns s) (hA : ∀ q, s.heap.size ≤ q → A q) {res : (Int32 × (Nat → Nat → Int32))} (hQ : ∀ (H : Heap) (locs : List Loc) (pc : Nat) (ls : Array Slot), decode qb_M_declare pc = .ok (.ireturn, 1) → mW D ad cI cZ A s.heap res.2 H locs → W p l e R s m args below meth c H locs 0 0 Q (F0 m pc ls [.int res.1])) (S : (Nat → Nat → Int32)) (a1 a2 : Int32) (hM : f_M_declare S a1 a2 = some res) {H : Heap} {locs : List Loc} {ls : Array Slot} (w : mW D ad cI cZ A s.heap S H locs) (hl : lv_has ls 4 [(0, .ref (ad 0)), (1, .int a1), (2, .int a2)]) : W p l e R s m args below meth c H locs 0 0 Q (F0 m 0 ls []) := by
  unfold f_M_declare at hM
  refine lv_iload_n F.1 F.2.1 qd_M_declare_0 rfl (lv_at hl 1 rfl) ?_
  refine lv_iconst (v := 0) F.1 F.2.1 qd_M_declare_1 (by decide) ?_
  refine lv_iconst (v := 4) F.1 F.2.1 qd_M_declare_2 (by decide) ?_
  obtain ⟨q1, hq2, hM⟩ := qbd hM
  refine m_calliS F hK hN hA w (c_M_isIn l D ad cI cZ hq2) qk_761 qk_762 qk_8 qk_763 qv_M_isIn rfl rfl ⟨Nat.le_trans (by decide) hR.1, Nat.le_trans (by decide) hR.2⟩ hl.1 rfl (Nat.le_of_ble_eq_true rfl) qd_M_declare_3 (fun H locs w => ?_)
  refine lv_if_eq (tgt := 18) F.1 F.2.1 qd_M_declare_6 (by decide) (fun hc3 => ?_) (fun hc3 => ?_)
  · rw [if_pos hc3] at hM
    refine lv_bipush (v := (-2)) F.1 F.2.1 qd_M_declare_18 (by decide) ?_
    cases hM
    exact hQ _ _ _ _ qd_M_declare_20 w
  · rw [if_neg hc3] at hM
    refine lv_iload_n F.1 F.2.1 qd_M_declare_9 rfl (lv_at hl 2 rfl) ?_
    refine lv_iconst (v := 0) F.1 F.2.1 qd_M_declare_10 (by decide) ?_
    refine lv_iconst (v := 2) F.1 F.2.1 qd_M_declare_11 (by decide) ?_
    obtain ⟨q4, hq5, hM⟩ := qbd hM
    refine m_calliS F hK hN hA w (c_M_isIn l D ad cI cZ hq5) qk_761 qk_762 qk_8 qk_763 qv_M_isIn rfl rfl ⟨Nat.le_trans (by decide) hR.1, Nat.le_trans (by decide) hR.2⟩ hl.1 rfl (Nat.le_of_ble_eq_true rfl) qd_M_declare_12 (fun H locs w => ?_)
    refine lv_if_ne (tgt := 21) F.1 F.2.1 qd_M_declare_15 (by decide) (fun hc6 => ?_) (fun hc6 => ?_)
    · rw [if_neg hc6] at hM
      refine lv_aload_n F.1 F.2.1 qd_M_declare_21 rfl (lv_at hl 0 rfl) ?_
      refine mg_M_classes F hK w qk_655 qd_M_declare_22 ?_
      refine lv_bipush (v := 12) F.1 F.2.1 qd_M_declare_25 (by decide) ?_
      refine lv_icmp_ne (tgt := 33) F.1 F.2.1 qd_M_declare_27 (by decide) (fun hc7 => ?_) (fun hc7 => ?_)
      · rw [if_neg hc7] at hM
        refine lv_aload_n F.1 F.2.1 qd_M_declare_33 rfl (lv_at hl 0 rfl) ?_
        refine mg_M_classes F hK w qk_655 qd_M_declare_34 ?_
        refine lv_istore_n (lv' := [(3, .int (S 0 0)), (0, .ref (ad 0)), (1, .int a1), (2, .int a2)]) F.1 F.2.1 qd_M_declare_37 rfl hl (by decide) rfl (fun ls hl => ?_)
        refine lv_aload_n F.1 F.2.1 qd_M_declare_38 rfl (lv_at hl 1 rfl) ?_
        refine mg_M_kinds F hK w qk_656 qd_M_declare_39 ?_
        refine lv_iload_n F.1 F.2.1 qd_M_declare_42 rfl (lv_at hl 0 rfl) ?_
        refine lv_iload_n F.1 F.2.1 qd_M_declare_43 rfl (lv_at hl 2 rfl) ?_
        obtain ⟨hi8, hM⟩ := qck_ok hM
        refine ms_M_kinds F hK w hi8 qd_M_declare_44 (fun H locs w => ?_)
        refine lv_aload_n F.1 F.2.1 qd_M_declare_45 rfl (lv_at hl 1 rfl) ?_
        refine mg_M_parameters F hK w qk_657 qd_M_declare_46 ?_
        refine lv_iload_n F.1 F.2.1 qd_M_declare_49 rfl (lv_at hl 0 rfl) ?_
        refine lv_iload_n F.1 F.2.1 qd_M_declare_50 rfl (lv_at hl 3 rfl) ?_
        obtain ⟨hi9, hM⟩ := qck_ok hM
        refine ms_M_parameters F hK w hi9 qd_M_declare_51 (fun H locs w => ?_)
        refine lv_aload_n F.1 F.2.1 qd_M_declare_52 rfl (lv_at hl 1 rfl) ?_
        refine mg_M_supers F hK w qk_658 qd_M_declare_53 ?_
        refine lv_iconst (v := 3) F.1 F.2.1 qd_M_declare_56 (by decide) ?_
        refine lv_iload_n F.1 F.2.1 qd_M_declare_57 rfl (lv_at hl 0 rfl) ?_
        refine lv_imul F.1 F.2.1 qd_M_declare_58 ?_
        refine lv_iconst (v := (-1)) F.1 F.2.1 qd_M_declare_59 (by decide) ?_
        obtain ⟨hi10, hM⟩ := qck_ok hM
        refine ms_M_supers F hK w hi10 qd_M_declare_60 (fun H locs w => ?_)
        refine lv_aload_n F.1 F.2.1 qd_M_declare_61 rfl (lv_at hl 1 rfl) ?_
        refine mg_M_others F hK w qk_659 qd_M_declare_62 ?_
        refine lv_iload_n F.1 F.2.1 qd_M_declare_65 rfl (lv_at hl 0 rfl) ?_
        refine lv_iconst (v := 0) F.1 F.2.1 qd_M_declare_66 (by decide) ?_
        obtain ⟨hi11, hM⟩ := qck_ok hM
        refine ms_M_others F hK w hi11 qd_M_declare_67 (fun H locs w => ?_)
        refine lv_aload_n F.1 F.2.1 qd_M_declare_68 rfl (lv_at hl 1 rfl) ?_
        refine mg_M_bounds F hK w qk_661 qd_M_declare_69 ?_
        refine lv_iconst (v := 2) F.1 F.2.1 qd_M_declare_72 (by decide) ?_
        refine lv_iload_n F.1 F.2.1 qd_M_declare_73 rfl (lv_at hl 0 rfl) ?_
        refine lv_imul F.1 F.2.1 qd_M_declare_74 ?_
        refine lv_iconst (v := 0) F.1 F.2.1 qd_M_declare_75 (by decide) ?_
        obtain ⟨hi12, hM⟩ := qck_ok hM
        refine ms_M_bounds F hK w hi12 qd_M_declare_76 (fun H locs w => ?_)
        refine lv_aload_n F.1 F.2.1 qd_M_declare_77 rfl (lv_at hl 1 rfl) ?_
        refine mg_M_bounds F hK w qk_661 qd_M_declare_78 ?_
        refine lv_iconst (v := 2) F.1 F.2.1 qd_M_declare_81 (by decide) ?_
        refine lv_iload_n F.1 F.2.1 qd_M_declare_82 rfl (lv_at hl 0 rfl) ?_
        refine lv_imul F.1 F.2.1 qd_M_declare_83 ?_
        refine lv_iconst (v := 1) F.1 F.2.1 qd_M_declare_84 (by decide) ?_
        refine lv_iadd F.1 F.2.1 qd_M_declare_85 ?_
        refine lv_iconst (v := 0) F.1 F.2.1 qd_M_declare_86 (by decide) ?_
        obtain ⟨hi13, hM⟩ := qck_ok hM
        refine ms_M_bounds F hK w hi13 qd_M_declare_87 (fun H locs w => ?_)
        refine lv_aload_n F.1 F.2.1 qd_M_declare_88 rfl (lv_at hl 1 rfl) ?_
        refine lv_dup F.1 F.2.1 qd_M_declare_89 rfl ?_
        refine mg_M_classes F hK w qk_655 qd_M_declare_90 ?_
        refine lv_iconst (v := 1) F.1 F.2.1 qd_M_declare_93 (by decide) ?_
        refine lv_iadd F.1 F.2.1 qd_M_declare_94 ?_
        refine mp_M_classes F hK w qk_655 qd_M_declare_95 (fun H locs w => ?_)
        refine lv_iload_n F.1 F.2.1 qd_M_declare_98 rfl (lv_at hl 0 rfl) ?_
        cases hM
        exact hQ _ _ _ _ qd_M_declare_99 w
      · rw [if_pos hc7] at hM
        refine lv_bipush (v := (-3)) F.1 F.2.1 qd_M_declare_30 (by decide) ?_
        cases hM
        exact hQ _ _ _ _ qd_M_declare_32 w
    · rw [if_pos hc6] at hM
      refine lv_bipush (v := (-2)) F.1 F.2.1 qd_M_declare_18 (by decide) ?_
      cases hM
      exact hQ _ _ _ _ qd_M_declare_20 w
set_option maxRecDepth 100000 in
theorem c_M_declare (l : Launch) (D : va_G) (ad : Nat → Nat) (cI cZ : ClassId) {S : (Nat → Nat → Int32)} {a1 a2 : Int32} {res : (Int32 × (Nat → Nat → Int32))} (hM : f_M_declare S a1 a2 = some res) : mMi l qy_M_declare qb_M_declare 4 (some .int) { frames := 1, cells := 0, slots := 0, locals := 22 } D ad cI cZ S [.ref (ad 0), .int a1, .int a2] res.1 res.2 := m_ofi (by decide +kernel) (Nat.le_of_ble_eq_true rfl) (fun p e s m args below meth c Q A ls F hK hN hA w hl hQ => t_M_declare F ⟨Nat.le_refl _, Nat.le_refl _⟩ hK hN hA hQ S a1 a2 hM w hl)
-- M_isClass
def f_M_isClass (S : (Nat → Nat → Int32)) (a1 : Int32) : Option Bool := (f_M_isIn S a1 (0 : Int32) ((S 0 0) - (1 : Int32))).bind (fun q1 => some q1)
set_option maxRecDepth 100000 in
set_option maxHeartbeats 4000000 in
theorem t_M_isClass {p : Program} {l : Launch} {e : Env} {R : Room} {s : State} {m : MethodId} {args : Array Value} {below : List Frame} {meth : Method} {c : Code} {Q : State → Prop} {D : va_G} {ad : Nat → Nat} {cI cZ : ClassId} {A : Nat → Prop} (F : CallFix p m c qb_M_isClass 2 s args qtb "CaptureSubtypesModel") (hR : 1 ≤ R.frames ∧ 22 ≤ R.locals) (hK : va_K D qcl [(cI, .int), (cZ, .boolean)] s) (hN : qnests mns s) (hA : ∀ q, s.heap.size ≤ q → A q) {res : Bool} {S : (Nat → Nat → Int32)} (hQ : ∀ (H : Heap) (locs : List Loc) (pc : Nat) (ls : Array Slot), decode qb_M_isClass pc = .ok (.ireturn, 1) → mW D ad cI cZ A s.heap S H locs → W p l e R s m args below meth c H locs 0 0 Q (F0 m pc ls [.int (qB res)])) (a1 : Int32) (hM : f_M_isClass S a1 = some res) {H : Heap} {locs : List Loc} {ls : Array Slot} (w : mW D ad cI cZ A s.heap S H locs) (hl : lv_has ls 2 [(0, .ref (ad 0)), (1, .int a1)]) : W p l e R s m args below meth c H locs 0 0 Q (F0 m 0 ls []) := by
  unfold f_M_isClass at hM
  refine lv_iload_n F.1 F.2.1 qd_M_isClass_0 rfl (lv_at hl 1 rfl) ?_
  refine lv_iconst (v := 0) F.1 F.2.1 qd_M_isClass_1 (by decide) ?_
  refine lv_aload_n F.1 F.2.1 qd_M_isClass_2 rfl (lv_at hl 0 rfl) ?_
  refine mg_M_classes F hK w qk_655 qd_M_isClass_3 ?_
  refine lv_iconst (v := 1) F.1 F.2.1 qd_M_isClass_6 (by decide) ?_
  refine lv_isub F.1 F.2.1 qd_M_isClass_7 ?_
  obtain ⟨q1, hq2, hM⟩ := qbd hM
  refine m_calliS F hK hN hA w (c_M_isIn l D ad cI cZ hq2) qk_761 qk_762 qk_8 qk_763 qv_M_isIn rfl rfl ⟨Nat.le_trans (by decide) hR.1, Nat.le_trans (by decide) hR.2⟩ hl.1 rfl (Nat.le_of_ble_eq_true rfl) qd_M_isClass_8 (fun H locs w => ?_)
  cases hM
  exact hQ _ _ _ _ qd_M_isClass_11 w
set_option maxRecDepth 100000 in
theorem c_M_isClass (l : Launch) (D : va_G) (ad : Nat → Nat) (cI cZ : ClassId) {S : (Nat → Nat → Int32)} {a1 : Int32} {res : Bool} (hM : f_M_isClass S a1 = some res) : mMi l qy_M_isClass qb_M_isClass 2 (some .boolean) { frames := 1, cells := 0, slots := 0, locals := 22 } D ad cI cZ S [.ref (ad 0), .int a1] (qB res) S := m_ofz (by decide +kernel) (Nat.le_of_ble_eq_true rfl) (fun p e s m args below meth c Q A ls F hK hN hA w hl hQ => t_M_isClass F ⟨Nat.le_refl _, Nat.le_refl _⟩ hK hN hA hQ a1 hM w hl)
-- M_isLike
def f_M_isLike (S : (Nat → Nat → Int32)) (a1 a2 a3 a4 a5 : Int32) : Option Bool := qck (qin a1 9000) (if (S 9 a1.toNatClampNeg) = a2 then (qck (qin a1 9000) (if (S 10 a1.toNatClampNeg) = a3 then (qck (qin a1 9000) (if (S 11 a1.toNatClampNeg) = a4 then (qck (qin a1 9000) (if (S 12 a1.toNatClampNeg) = a5 then (some true) else (some false))) else (some false))) else (some false))) else (some false))
set_option maxRecDepth 100000 in
set_option maxHeartbeats 4000000 in
theorem t_M_isLike {p : Program} {l : Launch} {e : Env} {R : Room} {s : State} {m : MethodId} {args : Array Value} {below : List Frame} {meth : Method} {c : Code} {Q : State → Prop} {D : va_G} {ad : Nat → Nat} {cI cZ : ClassId} {A : Nat → Prop} (F : CallFix p m c qb_M_isLike 6 s args qtb "CaptureSubtypesModel") (hR : 0 ≤ R.frames ∧ 0 ≤ R.locals) (hK : va_K D qcl [(cI, .int), (cZ, .boolean)] s) (hN : qnests mns s) (hA : ∀ q, s.heap.size ≤ q → A q) {res : Bool} {S : (Nat → Nat → Int32)} (hQ : ∀ (H : Heap) (locs : List Loc) (pc : Nat) (ls : Array Slot), decode qb_M_isLike pc = .ok (.ireturn, 1) → mW D ad cI cZ A s.heap S H locs → W p l e R s m args below meth c H locs 0 0 Q (F0 m pc ls [.int (qB res)])) (a1 a2 a3 a4 a5 : Int32) (hM : f_M_isLike S a1 a2 a3 a4 a5 = some res) {H : Heap} {locs : List Loc} {ls : Array Slot} (w : mW D ad cI cZ A s.heap S H locs) (hl : lv_has ls 6 [(0, .ref (ad 0)), (1, .int a1), (2, .int a2), (3, .int a3), (4, .int a4), (5, .int a5)]) : W p l e R s m args below meth c H locs 0 0 Q (F0 m 0 ls []) := by
  unfold f_M_isLike at hM
  refine lv_aload_n F.1 F.2.1 qd_M_isLike_0 rfl (lv_at hl 0 rfl) ?_
  refine mg_M_sort F hK w qk_664 qd_M_isLike_1 ?_
  refine lv_iload_n F.1 F.2.1 qd_M_isLike_4 rfl (lv_at hl 1 rfl) ?_
  obtain ⟨hi1, hM⟩ := qck_ok hM
  refine ml_M_sort F hK w hi1 qd_M_isLike_5 ?_
  refine lv_iload_n F.1 F.2.1 qd_M_isLike_6 rfl (lv_at hl 2 rfl) ?_
  refine lv_icmp_ne (tgt := 46) F.1 F.2.1 qd_M_isLike_7 (by decide) (fun hc2 => ?_) (fun hc2 => ?_)
  · rw [if_neg hc2] at hM
    refine lv_iconst (v := 0) F.1 F.2.1 qd_M_isLike_46 (by decide) ?_
    cases hM
    exact hQ _ _ _ _ qd_M_isLike_47 w
  · rw [if_pos hc2] at hM
    refine lv_aload_n F.1 F.2.1 qd_M_isLike_10 rfl (lv_at hl 0 rfl) ?_
    refine mg_M_first F hK w qk_665 qd_M_isLike_11 ?_
    refine lv_iload_n F.1 F.2.1 qd_M_isLike_14 rfl (lv_at hl 1 rfl) ?_
    obtain ⟨hi3, hM⟩ := qck_ok hM
    refine ml_M_first F hK w hi3 qd_M_isLike_15 ?_
    refine lv_iload_n F.1 F.2.1 qd_M_isLike_16 rfl (lv_at hl 3 rfl) ?_
    refine lv_icmp_ne (tgt := 46) F.1 F.2.1 qd_M_isLike_17 (by decide) (fun hc4 => ?_) (fun hc4 => ?_)
    · rw [if_neg hc4] at hM
      refine lv_iconst (v := 0) F.1 F.2.1 qd_M_isLike_46 (by decide) ?_
      cases hM
      exact hQ _ _ _ _ qd_M_isLike_47 w
    · rw [if_pos hc4] at hM
      refine lv_aload_n F.1 F.2.1 qd_M_isLike_20 rfl (lv_at hl 0 rfl) ?_
      refine mg_M_second F hK w qk_666 qd_M_isLike_21 ?_
      refine lv_iload_n F.1 F.2.1 qd_M_isLike_24 rfl (lv_at hl 1 rfl) ?_
      obtain ⟨hi5, hM⟩ := qck_ok hM
      refine ml_M_second F hK w hi5 qd_M_isLike_25 ?_
      refine lv_iload F.1 F.2.1 qd_M_isLike_26 (lv_at hl 4 rfl) ?_
      refine lv_icmp_ne (tgt := 46) F.1 F.2.1 qd_M_isLike_28 (by decide) (fun hc6 => ?_) (fun hc6 => ?_)
      · rw [if_neg hc6] at hM
        refine lv_iconst (v := 0) F.1 F.2.1 qd_M_isLike_46 (by decide) ?_
        cases hM
        exact hQ _ _ _ _ qd_M_isLike_47 w
      · rw [if_pos hc6] at hM
        refine lv_aload_n F.1 F.2.1 qd_M_isLike_31 rfl (lv_at hl 0 rfl) ?_
        refine mg_M_third F hK w qk_667 qd_M_isLike_32 ?_
        refine lv_iload_n F.1 F.2.1 qd_M_isLike_35 rfl (lv_at hl 1 rfl) ?_
        obtain ⟨hi7, hM⟩ := qck_ok hM
        refine ml_M_third F hK w hi7 qd_M_isLike_36 ?_
        refine lv_iload F.1 F.2.1 qd_M_isLike_37 (lv_at hl 5 rfl) ?_
        refine lv_icmp_ne (tgt := 46) F.1 F.2.1 qd_M_isLike_39 (by decide) (fun hc8 => ?_) (fun hc8 => ?_)
        · rw [if_neg hc8] at hM
          refine lv_iconst (v := 0) F.1 F.2.1 qd_M_isLike_46 (by decide) ?_
          cases hM
          exact hQ _ _ _ _ qd_M_isLike_47 w
        · rw [if_pos hc8] at hM
          refine lv_iconst (v := 1) F.1 F.2.1 qd_M_isLike_42 (by decide) ?_
          refine lv_goto (tgt := 47) F.1 F.2.1 qd_M_isLike_43 (by decide) ?_
          cases hM
          exact hQ _ _ _ _ qd_M_isLike_47 w
set_option maxRecDepth 100000 in
theorem c_M_isLike (l : Launch) (D : va_G) (ad : Nat → Nat) (cI cZ : ClassId) {S : (Nat → Nat → Int32)} {a1 a2 a3 a4 a5 : Int32} {res : Bool} (hM : f_M_isLike S a1 a2 a3 a4 a5 = some res) : mMi l qy_M_isLike qb_M_isLike 6 (some .boolean) { frames := 0, cells := 0, slots := 0, locals := 0 } D ad cI cZ S [.ref (ad 0), .int a1, .int a2, .int a3, .int a4, .int a5] (qB res) S := m_ofz (by decide +kernel) (Nat.le_of_ble_eq_true rfl) (fun p e s m args below meth c Q A ls F hK hN hA w hl hQ => t_M_isLike F ⟨Nat.le_refl _, Nat.le_refl _⟩ hK hN hA hQ a1 a2 a3 a4 a5 hM w hl)
-- M_find
def fb_M_find_40 (k_40 : (Nat → Nat → Int32) → Int32 → Int32 → Int32 → Int32 → Int32 → Option Int32) (S : (Nat → Nat → Int32)) (v1 v2 v3 v4 v5 : Int32) : Option Int32 := if (S 8 0) ≤ v5 then (some (-1 : Int32)) else ((f_M_isLike S v5 v1 v2 v3 v4).bind (fun q2 => if (qB q2) = 0 then (k_40 S v1 v2 v3 v4 (v5 + (1 : Int32))) else (some v5)))
def f_M_find_40 : Nat → (Nat → Nat → Int32) → Int32 → Int32 → Int32 → Int32 → Int32 → Option Int32
  | 0 => fun _ _ _ _ _ _ => none
  | n + 1 => fun S v1 v2 v3 v4 v5 => fb_M_find_40 (f_M_find_40 n) S v1 v2 v3 v4 v5
def fb_M_find_3 (k_3 : (Nat → Nat → Int32) → Int32 → Int32 → Int32 → Int32 → Int32 → Option Int32) (S : (Nat → Nat → Int32)) (v1 v2 v3 v4 v5 : Int32) : Option Int32 := if (S 7 0) ≤ v5 then (f_M_find_40  qfu S v1 v2 v3 v4 (150 : Int32)) else ((f_M_isLike S v5 v1 v2 v3 v4).bind (fun q2 => if (qB q2) = 0 then (k_3 S v1 v2 v3 v4 (v5 + (1 : Int32))) else (some v5)))
def f_M_find_3 : Nat → (Nat → Nat → Int32) → Int32 → Int32 → Int32 → Int32 → Int32 → Option Int32
  | 0 => fun _ _ _ _ _ _ => none
  | n + 1 => fun S v1 v2 v3 v4 v5 => fb_M_find_3 (f_M_find_3 n) S v1 v2 v3 v4 v5
def f_M_find (S : (Nat → Nat → Int32)) (a1 a2 a3 a4 : Int32) : Option Int32 := f_M_find_3  qfu S a1 a2 a3 a4 (0 : Int32)
set_option maxRecDepth 100000 in
set_option maxHeartbeats 4000000 in
theorem tb_M_find_40 {p : Program} {l : Launch} {e : Env} {R : Room} {s : State} {m : MethodId} {args : Array Value} {below : List Frame} {meth : Method} {c : Code} {Q : State → Prop} {D : va_G} {ad : Nat → Nat} {cI cZ : ClassId} {A : Nat → Prop} (F : CallFix p m c qb_M_find 6 s args qtb "CaptureSubtypesModel") (hR : 1 ≤ R.frames ∧ 25 ≤ R.locals) (hK : va_K D qcl [(cI, .int), (cZ, .boolean)] s) (hN : qnests mns s) (hA : ∀ q, s.heap.size ≤ q → A q) {res : Int32} {S : (Nat → Nat → Int32)} (hQ : ∀ (H : Heap) (locs : List Loc) (pc : Nat) (ls : Array Slot), decode qb_M_find pc = .ok (.ireturn, 1) → mW D ad cI cZ A s.heap S H locs → W p l e R s m args below meth c H locs 0 0 Q (F0 m pc ls [.int res])) {k_40 : (Nat → Nat → Int32) → Int32 → Int32 → Int32 → Int32 → Int32 → Option Int32} (hk_40 : ∀  (v1 v2 v3 v4 v5 : Int32), k_40 S v1 v2 v3 v4 v5 = some res → ∀ {H : Heap} {locs : List Loc} {ls : Array Slot}, mW D ad cI cZ A s.heap S H locs → lv_has ls 6 [(0, .ref (ad 0)), (1, .int v1), (2, .int v2), (3, .int v3), (4, .int v4), (5, .int v5)] → W p l e R s m args below meth c H locs 0 0 Q (F0 m 40 ls [])) (v1 v2 v3 v4 v5 : Int32) (hM : fb_M_find_40 k_40 S v1 v2 v3 v4 v5 = some res) {H : Heap} {locs : List Loc} {ls : Array Slot} (w : mW D ad cI cZ A s.heap S H locs) (hl : lv_has ls 6 [(0, .ref (ad 0)), (1, .int v1), (2, .int v2), (3, .int v3), (4, .int v4), (5, .int v5)]) : W p l e R s m args below meth c H locs 0 0 Q (F0 m 40 ls []) := by
  unfold fb_M_find_40 at hM
  refine lv_iload F.1 F.2.1 qd_M_find_40 (lv_at hl 5 rfl) ?_
  refine lv_aload_n F.1 F.2.1 qd_M_find_42 rfl (lv_at hl 0 rfl) ?_
  refine mg_M_pool F hK w qk_663 qd_M_find_43 ?_
  refine lv_icmp_ge (tgt := 72) F.1 F.2.1 qd_M_find_46 (by decide) (fun hc1 => ?_) (fun hc1 => ?_)
  · rw [if_pos hc1] at hM
    refine lv_iconst (v := (-1)) F.1 F.2.1 qd_M_find_72 (by decide) ?_
    cases hM
    exact hQ _ _ _ _ qd_M_find_73 w
  · rw [if_neg hc1] at hM
    refine lv_aload_n F.1 F.2.1 qd_M_find_49 rfl (lv_at hl 0 rfl) ?_
    refine lv_iload F.1 F.2.1 qd_M_find_50 (lv_at hl 5 rfl) ?_
    refine lv_iload_n F.1 F.2.1 qd_M_find_52 rfl (lv_at hl 1 rfl) ?_
    refine lv_iload_n F.1 F.2.1 qd_M_find_53 rfl (lv_at hl 2 rfl) ?_
    refine lv_iload_n F.1 F.2.1 qd_M_find_54 rfl (lv_at hl 3 rfl) ?_
    refine lv_iload F.1 F.2.1 qd_M_find_55 (lv_at hl 4 rfl) ?_
    obtain ⟨q2, hq3, hM⟩ := qbd hM
    refine m_calli F hK hN hA w (c_M_isLike l D ad cI cZ hq3) qk_780 qk_782 qs_M_isLike qk_8 qk_783 qv_M_isLike rfl rfl ⟨Nat.le_trans (by decide) hR.1, Nat.le_trans (by decide) hR.2⟩ (ci := 6) rfl (j := 0) rfl hl.1 rfl (Nat.le_of_ble_eq_true rfl) qd_M_find_57 (fun H locs w => ?_)
    refine lv_if_eq (tgt := 66) F.1 F.2.1 qd_M_find_60 (by decide) (fun hc4 => ?_) (fun hc4 => ?_)
    · rw [if_pos hc4] at hM
      refine lv_iinc (v := (v5 + (1 : Int32))) (lv' := [(5, .int (v5 + (1 : Int32))), (0, .ref (ad 0)), (1, .int v1), (2, .int v2), (3, .int v3), (4, .int v4)]) F.1 F.2.1 qd_M_find_66 hl (k := 5) rfl rfl (by decide) rfl (fun ls hl => ?_)
      refine lv_goto (tgt := 40) F.1 F.2.1 qd_M_find_69 (by decide) ?_
      exact hk_40 _ _ _ _ _ hM w (lv_sub hl [1, 2, 3, 4, 5, 0] rfl)
    · rw [if_neg hc4] at hM
      refine lv_iload F.1 F.2.1 qd_M_find_63 (lv_at hl 5 rfl) ?_
      cases hM
      exact hQ _ _ _ _ qd_M_find_65 w
set_option maxRecDepth 100000 in
set_option maxHeartbeats 4000000 in
theorem t_M_find_40 {p : Program} {l : Launch} {e : Env} {R : Room} {s : State} {m : MethodId} {args : Array Value} {below : List Frame} {meth : Method} {c : Code} {Q : State → Prop} {D : va_G} {ad : Nat → Nat} {cI cZ : ClassId} {A : Nat → Prop} (F : CallFix p m c qb_M_find 6 s args qtb "CaptureSubtypesModel") (hR : 1 ≤ R.frames ∧ 25 ≤ R.locals) (hK : va_K D qcl [(cI, .int), (cZ, .boolean)] s) (hN : qnests mns s) (hA : ∀ q, s.heap.size ≤ q → A q) {res : Int32} {S : (Nat → Nat → Int32)} (hQ : ∀ (H : Heap) (locs : List Loc) (pc : Nat) (ls : Array Slot), decode qb_M_find pc = .ok (.ireturn, 1) → mW D ad cI cZ A s.heap S H locs → W p l e R s m args below meth c H locs 0 0 Q (F0 m pc ls [.int res])) : ∀ (n : Nat) (v1 v2 v3 v4 v5 : Int32) (hM : f_M_find_40 n S v1 v2 v3 v4 v5 = some res) {H : Heap} {locs : List Loc} {ls : Array Slot} (w : mW D ad cI cZ A s.heap S H locs) (hl : lv_has ls 6 [(0, .ref (ad 0)), (1, .int v1), (2, .int v2), (3, .int v3), (4, .int v4), (5, .int v5)]), W p l e R s m args below meth c H locs 0 0 Q (F0 m 40 ls []) := by
  intro n
  induction n with
  | zero => intro v1 v2 v3 v4 v5 hM; exact absurd hM (by simp [f_M_find_40])
  | succ n ih => intro v1 v2 v3 v4 v5 hM H locs ls w hl; exact tb_M_find_40 F hR hK hN hA hQ (k_40 := f_M_find_40 n) (fun v1 v2 v3 v4 v5 hM H locs ls w hl => ih v1 v2 v3 v4 v5 hM w hl) v1 v2 v3 v4 v5 hM w hl
set_option maxRecDepth 100000 in
set_option maxHeartbeats 4000000 in
theorem tb_M_find_3 {p : Program} {l : Launch} {e : Env} {R : Room} {s : State} {m : MethodId} {args : Array Value} {below : List Frame} {meth : Method} {c : Code} {Q : State → Prop} {D : va_G} {ad : Nat → Nat} {cI cZ : ClassId} {A : Nat → Prop} (F : CallFix p m c qb_M_find 6 s args qtb "CaptureSubtypesModel") (hR : 1 ≤ R.frames ∧ 25 ≤ R.locals) (hK : va_K D qcl [(cI, .int), (cZ, .boolean)] s) (hN : qnests mns s) (hA : ∀ q, s.heap.size ≤ q → A q) {res : Int32} {S : (Nat → Nat → Int32)} (hQ : ∀ (H : Heap) (locs : List Loc) (pc : Nat) (ls : Array Slot), decode qb_M_find pc = .ok (.ireturn, 1) → mW D ad cI cZ A s.heap S H locs → W p l e R s m args below meth c H locs 0 0 Q (F0 m pc ls [.int res])) {k_3 : (Nat → Nat → Int32) → Int32 → Int32 → Int32 → Int32 → Int32 → Option Int32} (hk_3 : ∀  (v1 v2 v3 v4 v5 : Int32), k_3 S v1 v2 v3 v4 v5 = some res → ∀ {H : Heap} {locs : List Loc} {ls : Array Slot}, mW D ad cI cZ A s.heap S H locs → lv_has ls 6 [(0, .ref (ad 0)), (1, .int v1), (2, .int v2), (3, .int v3), (4, .int v4), (5, .int v5)] → W p l e R s m args below meth c H locs 0 0 Q (F0 m 3 ls [])) (v1 v2 v3 v4 v5 : Int32) (hM : fb_M_find_3 k_3 S v1 v2 v3 v4 v5 = some res) {H : Heap} {locs : List Loc} {ls : Array Slot} (w : mW D ad cI cZ A s.heap S H locs) (hl : lv_has ls 6 [(0, .ref (ad 0)), (1, .int v1), (2, .int v2), (3, .int v3), (4, .int v4), (5, .int v5)]) : W p l e R s m args below meth c H locs 0 0 Q (F0 m 3 ls []) := by
  unfold fb_M_find_3 at hM
  refine lv_iload F.1 F.2.1 qd_M_find_3 (lv_at hl 5 rfl) ?_
  refine lv_aload_n F.1 F.2.1 qd_M_find_5 rfl (lv_at hl 0 rfl) ?_
  refine mg_M_types F hK w qk_662 qd_M_find_6 ?_
  refine lv_icmp_ge (tgt := 35) F.1 F.2.1 qd_M_find_9 (by decide) (fun hc1 => ?_) (fun hc1 => ?_)
  · rw [if_pos hc1] at hM
    refine lv_sipush (v := 150) F.1 F.2.1 qd_M_find_35 (by decide) ?_
    refine lv_istore (lv' := [(5, .int (150 : Int32)), (0, .ref (ad 0)), (1, .int v1), (2, .int v2), (3, .int v3), (4, .int v4)]) F.1 F.2.1 qd_M_find_38 hl (by decide) rfl (fun ls hl => ?_)
    exact t_M_find_40 F hR hK hN hA hQ  qfu _ _ _ _ _ hM w (lv_sub hl [1, 2, 3, 4, 5, 0] rfl)
  · rw [if_neg hc1] at hM
    refine lv_aload_n F.1 F.2.1 qd_M_find_12 rfl (lv_at hl 0 rfl) ?_
    refine lv_iload F.1 F.2.1 qd_M_find_13 (lv_at hl 5 rfl) ?_
    refine lv_iload_n F.1 F.2.1 qd_M_find_15 rfl (lv_at hl 1 rfl) ?_
    refine lv_iload_n F.1 F.2.1 qd_M_find_16 rfl (lv_at hl 2 rfl) ?_
    refine lv_iload_n F.1 F.2.1 qd_M_find_17 rfl (lv_at hl 3 rfl) ?_
    refine lv_iload F.1 F.2.1 qd_M_find_18 (lv_at hl 4 rfl) ?_
    obtain ⟨q2, hq3, hM⟩ := qbd hM
    refine m_calli F hK hN hA w (c_M_isLike l D ad cI cZ hq3) qk_780 qk_782 qs_M_isLike qk_8 qk_783 qv_M_isLike rfl rfl ⟨Nat.le_trans (by decide) hR.1, Nat.le_trans (by decide) hR.2⟩ (ci := 6) rfl (j := 0) rfl hl.1 rfl (Nat.le_of_ble_eq_true rfl) qd_M_find_20 (fun H locs w => ?_)
    refine lv_if_eq (tgt := 29) F.1 F.2.1 qd_M_find_23 (by decide) (fun hc4 => ?_) (fun hc4 => ?_)
    · rw [if_pos hc4] at hM
      refine lv_iinc (v := (v5 + (1 : Int32))) (lv' := [(5, .int (v5 + (1 : Int32))), (0, .ref (ad 0)), (1, .int v1), (2, .int v2), (3, .int v3), (4, .int v4)]) F.1 F.2.1 qd_M_find_29 hl (k := 5) rfl rfl (by decide) rfl (fun ls hl => ?_)
      refine lv_goto (tgt := 3) F.1 F.2.1 qd_M_find_32 (by decide) ?_
      exact hk_3 _ _ _ _ _ hM w (lv_sub hl [1, 2, 3, 4, 5, 0] rfl)
    · rw [if_neg hc4] at hM
      refine lv_iload F.1 F.2.1 qd_M_find_26 (lv_at hl 5 rfl) ?_
      cases hM
      exact hQ _ _ _ _ qd_M_find_28 w
set_option maxRecDepth 100000 in
set_option maxHeartbeats 4000000 in
theorem t_M_find_3 {p : Program} {l : Launch} {e : Env} {R : Room} {s : State} {m : MethodId} {args : Array Value} {below : List Frame} {meth : Method} {c : Code} {Q : State → Prop} {D : va_G} {ad : Nat → Nat} {cI cZ : ClassId} {A : Nat → Prop} (F : CallFix p m c qb_M_find 6 s args qtb "CaptureSubtypesModel") (hR : 1 ≤ R.frames ∧ 25 ≤ R.locals) (hK : va_K D qcl [(cI, .int), (cZ, .boolean)] s) (hN : qnests mns s) (hA : ∀ q, s.heap.size ≤ q → A q) {res : Int32} {S : (Nat → Nat → Int32)} (hQ : ∀ (H : Heap) (locs : List Loc) (pc : Nat) (ls : Array Slot), decode qb_M_find pc = .ok (.ireturn, 1) → mW D ad cI cZ A s.heap S H locs → W p l e R s m args below meth c H locs 0 0 Q (F0 m pc ls [.int res])) : ∀ (n : Nat) (v1 v2 v3 v4 v5 : Int32) (hM : f_M_find_3 n S v1 v2 v3 v4 v5 = some res) {H : Heap} {locs : List Loc} {ls : Array Slot} (w : mW D ad cI cZ A s.heap S H locs) (hl : lv_has ls 6 [(0, .ref (ad 0)), (1, .int v1), (2, .int v2), (3, .int v3), (4, .int v4), (5, .int v5)]), W p l e R s m args below meth c H locs 0 0 Q (F0 m 3 ls []) := by
  intro n
  induction n with
  | zero => intro v1 v2 v3 v4 v5 hM; exact absurd hM (by simp [f_M_find_3])
  | succ n ih => intro v1 v2 v3 v4 v5 hM H locs ls w hl; exact tb_M_find_3 F hR hK hN hA hQ (k_3 := f_M_find_3 n) (fun v1 v2 v3 v4 v5 hM H locs ls w hl => ih v1 v2 v3 v4 v5 hM w hl) v1 v2 v3 v4 v5 hM w hl
set_option maxRecDepth 100000 in
set_option maxHeartbeats 4000000 in
theorem t_M_find {p : Program} {l : Launch} {e : Env} {R : Room} {s : State} {m : MethodId} {args : Array Value} {below : List Frame} {meth : Method} {c : Code} {Q : State → Prop} {D : va_G} {ad : Nat → Nat} {cI cZ : ClassId} {A : Nat → Prop} (F : CallFix p m c qb_M_find 6 s args qtb "CaptureSubtypesModel") (hR : 1 ≤ R.frames ∧ 25 ≤ R.locals) (hK : va_K D qcl [(cI, .int), (cZ, .boolean)] s) (hN : qnests mns s) (hA : ∀ q, s.heap.size ≤ q → A q) {res : Int32} {S : (Nat → Nat → Int32)} (hQ : ∀ (H : Heap) (locs : List Loc) (pc : Nat) (ls : Array Slot), decode qb_M_find pc = .ok (.ireturn, 1) → mW D ad cI cZ A s.heap S H locs → W p l e R s m args below meth c H locs 0 0 Q (F0 m pc ls [.int res])) (a1 a2 a3 a4 : Int32) (hM : f_M_find S a1 a2 a3 a4 = some res) {H : Heap} {locs : List Loc} {ls : Array Slot} (w : mW D ad cI cZ A s.heap S H locs) (hl : lv_has ls 6 [(0, .ref (ad 0)), (1, .int a1), (2, .int a2), (3, .int a3), (4, .int a4)]) : W p l e R s m args below meth c H locs 0 0 Q (F0 m 0 ls []) := by
  unfold f_M_find at hM
  refine lv_iconst (v := 0) F.1 F.2.1 qd_M_find_0 (by decide) ?_
  refine lv_istore (lv' := [(5, .int (0 : Int32)), (0, .ref (ad 0)), (1, .int a1), (2, .int a2), (3, .int a3), (4, .int a4)]) F.1 F.2.1 qd_M_find_1 hl (by decide) rfl (fun ls hl => ?_)
  exact t_M_find_3 F hR hK hN hA hQ  qfu _ _ _ _ _ hM w (lv_sub hl [1, 2, 3, 4, 5, 0] rfl)
set_option maxRecDepth 100000 in
theorem c_M_find (l : Launch) (D : va_G) (ad : Nat → Nat) (cI cZ : ClassId) {S : (Nat → Nat → Int32)} {a1 a2 a3 a4 : Int32} {res : Int32} (hM : f_M_find S a1 a2 a3 a4 = some res) : mMi l qy_M_find qb_M_find 6 (some .int) { frames := 1, cells := 0, slots := 0, locals := 25 } D ad cI cZ S [.ref (ad 0), .int a1, .int a2, .int a3, .int a4] res S := m_ofi (by decide +kernel) (Nat.le_of_ble_eq_true rfl) (fun p e s m args below meth c Q A ls F hK hN hA w hl hQ => t_M_find F ⟨Nat.le_refl _, Nat.le_refl _⟩ hK hN hA hQ a1 a2 a3 a4 hM w hl)
-- M_enter
def f_M_enter (S : (Nat → Nat → Int32)) (a1 a2 a3 a4 a5 : Int32) : Option (Int32 × (Nat → Nat → Int32)) := (f_M_fresh S).bind (fun q1 => (f_M_find q1 a1 a2 a3 a4).bind (fun q3 => if q3 = (-1 : Int32) then (if (q1 7 0) = (150 : Int32) then (some ((-3 : Int32), q1)) else (if a5 ≤ (6 : Int32) then ((f_M_put q1 (q1 7 0) a1 a2 a3 a4 a5).bind (fun q8 => some (((q8 7 0) - (1 : Int32)), q8))) else (some ((-4 : Int32), q1)))) else (some (q3, q1))))
set_option maxRecDepth 100000 in
set_option maxHeartbeats 4000000 in
theorem t_M_enter {p : Program} {l : Launch} {e : Env} {R : Room} {s : State} {m : MethodId} {args : Array Value} {below : List Frame} {meth : Method} {c : Code} {Q : State → Prop} {D : va_G} {ad : Nat → Nat} {cI cZ : ClassId} {A : Nat → Prop} (F : CallFix p m c qb_M_enter 7 s args qtb "CaptureSubtypesModel") (hR : 2 ≤ R.frames ∧ 50 ≤ R.locals) (hK : va_K D qcl [(cI, .int), (cZ, .boolean)] s) (hN : qnests mns s) (hA : ∀ q, s.heap.size ≤ q → A q) {res : (Int32 × (Nat → Nat → Int32))} (hQ : ∀ (H : Heap) (locs : List Loc) (pc : Nat) (ls : Array Slot), decode qb_M_enter pc = .ok (.ireturn, 1) → mW D ad cI cZ A s.heap res.2 H locs → W p l e R s m args below meth c H locs 0 0 Q (F0 m pc ls [.int res.1])) (S : (Nat → Nat → Int32)) (a1 a2 a3 a4 a5 : Int32) (hM : f_M_enter S a1 a2 a3 a4 a5 = some res) {H : Heap} {locs : List Loc} {ls : Array Slot} (w : mW D ad cI cZ A s.heap S H locs) (hl : lv_has ls 7 [(0, .ref (ad 0)), (1, .int a1), (2, .int a2), (3, .int a3), (4, .int a4), (5, .int a5)]) : W p l e R s m args below meth c H locs 0 0 Q (F0 m 0 ls []) := by
  unfold f_M_enter at hM
  refine lv_aload_n F.1 F.2.1 qd_M_enter_0 rfl (lv_at hl 0 rfl) ?_
  obtain ⟨q1, hq2, hM⟩ := qbd hM
  refine m_callv F hK hN hA w (c_M_fresh l D ad cI cZ hq2) qk_651 qk_653 qs_M_fresh qk_8 qk_654 qv_M_fresh rfl rfl ⟨Nat.le_trans (by decide) hR.1, Nat.le_trans (by decide) hR.2⟩ (ci := 6) rfl (j := 0) rfl hl.1 rfl (Nat.le_of_ble_eq_true rfl) qd_M_enter_1 (fun H locs w => ?_)
  refine lv_aload_n F.1 F.2.1 qd_M_enter_4 rfl (lv_at hl 0 rfl) ?_
  refine lv_iload_n F.1 F.2.1 qd_M_enter_5 rfl (lv_at hl 1 rfl) ?_
  refine lv_iload_n F.1 F.2.1 qd_M_enter_6 rfl (lv_at hl 2 rfl) ?_
  refine lv_iload_n F.1 F.2.1 qd_M_enter_7 rfl (lv_at hl 3 rfl) ?_
  refine lv_iload F.1 F.2.1 qd_M_enter_8 (lv_at hl 4 rfl) ?_
  obtain ⟨q3, hq4, hM⟩ := qbd hM
  refine m_calli F hK hN hA w (c_M_find l D ad cI cZ hq4) qk_776 qk_778 qs_M_find qk_8 qk_779 qv_M_find rfl rfl ⟨Nat.le_trans (by decide) hR.1, Nat.le_trans (by decide) hR.2⟩ (ci := 6) rfl (j := 0) rfl hl.1 rfl (Nat.le_of_ble_eq_true rfl) qd_M_enter_10 (fun H locs w => ?_)
  refine lv_istore (lv' := [(6, .int q3), (0, .ref (ad 0)), (1, .int a1), (2, .int a2), (3, .int a3), (4, .int a4), (5, .int a5)]) F.1 F.2.1 qd_M_enter_13 hl (by decide) rfl (fun ls hl => ?_)
  refine lv_iload F.1 F.2.1 qd_M_enter_15 (lv_at hl 0 rfl) ?_
  refine lv_iconst (v := (-1)) F.1 F.2.1 qd_M_enter_17 (by decide) ?_
  refine lv_icmp_eq (tgt := 24) F.1 F.2.1 qd_M_enter_18 (by decide) (fun hc5 => ?_) (fun hc5 => ?_)
  · rw [if_pos hc5] at hM
    refine lv_aload_n F.1 F.2.1 qd_M_enter_24 rfl (lv_at hl 1 rfl) ?_
    refine mg_M_types F hK w qk_662 qd_M_enter_25 ?_
    refine lv_sipush (v := 150) F.1 F.2.1 qd_M_enter_28 (by decide) ?_
    refine lv_icmp_ne (tgt := 37) F.1 F.2.1 qd_M_enter_31 (by decide) (fun hc6 => ?_) (fun hc6 => ?_)
    · rw [if_neg hc6] at hM
      refine lv_iload F.1 F.2.1 qd_M_enter_37 (lv_at hl 6 rfl) ?_
      refine lv_bipush (v := 6) F.1 F.2.1 qd_M_enter_39 (by decide) ?_
      refine lv_icmp_le (tgt := 47) F.1 F.2.1 qd_M_enter_41 (by decide) (fun hc7 => ?_) (fun hc7 => ?_)
      · rw [if_pos hc7] at hM
        refine lv_aload_n F.1 F.2.1 qd_M_enter_47 rfl (lv_at hl 1 rfl) ?_
        refine lv_aload_n F.1 F.2.1 qd_M_enter_48 rfl (lv_at hl 1 rfl) ?_
        refine mg_M_types F hK w qk_662 qd_M_enter_49 ?_
        refine lv_iload_n F.1 F.2.1 qd_M_enter_52 rfl (lv_at hl 2 rfl) ?_
        refine lv_iload_n F.1 F.2.1 qd_M_enter_53 rfl (lv_at hl 3 rfl) ?_
        refine lv_iload_n F.1 F.2.1 qd_M_enter_54 rfl (lv_at hl 4 rfl) ?_
        refine lv_iload F.1 F.2.1 qd_M_enter_55 (lv_at hl 5 rfl) ?_
        refine lv_iload F.1 F.2.1 qd_M_enter_57 (lv_at hl 6 rfl) ?_
        obtain ⟨q8, hq9, hM⟩ := qbd hM
        refine m_callv F hK hN hA w (c_M_put l D ad cI cZ hq9) qk_647 qk_649 qs_M_put qk_8 qk_650 qv_M_put rfl rfl ⟨Nat.le_trans (by decide) hR.1, Nat.le_trans (by decide) hR.2⟩ (ci := 6) rfl (j := 0) rfl hl.1 rfl (Nat.le_of_ble_eq_true rfl) qd_M_enter_59 (fun H locs w => ?_)
        refine lv_aload_n F.1 F.2.1 qd_M_enter_62 rfl (lv_at hl 1 rfl) ?_
        refine mg_M_types F hK w qk_662 qd_M_enter_63 ?_
        refine lv_iconst (v := 1) F.1 F.2.1 qd_M_enter_66 (by decide) ?_
        refine lv_isub F.1 F.2.1 qd_M_enter_67 ?_
        cases hM
        exact hQ _ _ _ _ qd_M_enter_68 w
      · rw [if_neg hc7] at hM
        refine lv_bipush (v := (-4)) F.1 F.2.1 qd_M_enter_44 (by decide) ?_
        cases hM
        exact hQ _ _ _ _ qd_M_enter_46 w
    · rw [if_pos hc6] at hM
      refine lv_bipush (v := (-3)) F.1 F.2.1 qd_M_enter_34 (by decide) ?_
      cases hM
      exact hQ _ _ _ _ qd_M_enter_36 w
  · rw [if_neg hc5] at hM
    refine lv_iload F.1 F.2.1 qd_M_enter_21 (lv_at hl 0 rfl) ?_
    cases hM
    exact hQ _ _ _ _ qd_M_enter_23 w
set_option maxRecDepth 100000 in
theorem c_M_enter (l : Launch) (D : va_G) (ad : Nat → Nat) (cI cZ : ClassId) {S : (Nat → Nat → Int32)} {a1 a2 a3 a4 a5 : Int32} {res : (Int32 × (Nat → Nat → Int32))} (hM : f_M_enter S a1 a2 a3 a4 a5 = some res) : mMi l qy_M_enter qb_M_enter 7 (some .int) { frames := 2, cells := 0, slots := 0, locals := 50 } D ad cI cZ S [.ref (ad 0), .int a1, .int a2, .int a3, .int a4, .int a5] res.1 res.2 := m_ofi (by decide +kernel) (Nat.le_of_ble_eq_true rfl) (fun p e s m args below meth c Q A ls F hK hN hA w hl hQ => t_M_enter F ⟨Nat.le_refl _, Nat.le_refl _⟩ hK hN hA hQ S a1 a2 a3 a4 a5 hM w hl)
-- M_plain
def f_M_plain_26 (S : (Nat → Nat → Int32)) (v1 s1 : Int32) : Option (Int32 × (Nat → Nat → Int32)) := (f_M_enter S s1 v1 (-1 : Int32) (-1 : Int32) (1 : Int32)).bind (fun q1 => some (q1.1, q1.2))
def f_M_plain (S : (Nat → Nat → Int32)) (a1 : Int32) : Option (Int32 × (Nat → Nat → Int32)) := (f_M_isClass S a1).bind (fun q1 => if (qB q1) = 0 then (some ((-2 : Int32), S)) else (qck (qin a1 12) (if (S 2 a1.toNatClampNeg) = 0 then (f_M_plain_26  S a1 (0 : Int32)) else (f_M_plain_26  S a1 (1 : Int32)))))
set_option maxRecDepth 100000 in
set_option maxHeartbeats 4000000 in
theorem t_M_plain_26 {p : Program} {l : Launch} {e : Env} {R : Room} {s : State} {m : MethodId} {args : Array Value} {below : List Frame} {meth : Method} {c : Code} {Q : State → Prop} {D : va_G} {ad : Nat → Nat} {cI cZ : ClassId} {A : Nat → Prop} (F : CallFix p m c qb_M_plain 2 s args qtb "CaptureSubtypesModel") (hR : 3 ≤ R.frames ∧ 76 ≤ R.locals) (hK : va_K D qcl [(cI, .int), (cZ, .boolean)] s) (hN : qnests mns s) (hA : ∀ q, s.heap.size ≤ q → A q) {res : (Int32 × (Nat → Nat → Int32))} (hQ : ∀ (H : Heap) (locs : List Loc) (pc : Nat) (ls : Array Slot), decode qb_M_plain pc = .ok (.ireturn, 1) → mW D ad cI cZ A s.heap res.2 H locs → W p l e R s m args below meth c H locs 0 0 Q (F0 m pc ls [.int res.1])) (S : (Nat → Nat → Int32)) (v1 s1 : Int32) (hM : f_M_plain_26 S v1 s1 = some res) {H : Heap} {locs : List Loc} {ls : Array Slot} (w : mW D ad cI cZ A s.heap S H locs) (hl : lv_has ls 2 [(0, .ref (ad 0)), (1, .int v1)]) : W p l e R s m args below meth c H locs 0 0 Q (F0 m 26 ls [.int s1, .ref (ad 0)]) := by
  unfold f_M_plain_26 at hM
  refine lv_iload_n F.1 F.2.1 qd_M_plain_26 rfl (lv_at hl 1 rfl) ?_
  refine lv_iconst (v := (-1)) F.1 F.2.1 qd_M_plain_27 (by decide) ?_
  refine lv_iconst (v := (-1)) F.1 F.2.1 qd_M_plain_28 (by decide) ?_
  refine lv_iconst (v := 1) F.1 F.2.1 qd_M_plain_29 (by decide) ?_
  obtain ⟨q1, hq2, hM⟩ := qbd hM
  refine m_calli F hK hN hA w (c_M_enter l D ad cI cZ hq2) qk_772 qk_774 qs_M_enter qk_8 qk_775 qv_M_enter rfl rfl ⟨Nat.le_trans (by decide) hR.1, Nat.le_trans (by decide) hR.2⟩ (ci := 6) rfl (j := 0) rfl hl.1 rfl (Nat.le_of_ble_eq_true rfl) qd_M_plain_30 (fun H locs w => ?_)
  cases hM
  exact hQ _ _ _ _ qd_M_plain_33 w
set_option maxRecDepth 100000 in
set_option maxHeartbeats 4000000 in
theorem t_M_plain {p : Program} {l : Launch} {e : Env} {R : Room} {s : State} {m : MethodId} {args : Array Value} {below : List Frame} {meth : Method} {c : Code} {Q : State → Prop} {D : va_G} {ad : Nat → Nat} {cI cZ : ClassId} {A : Nat → Prop} (F : CallFix p m c qb_M_plain 2 s args qtb "CaptureSubtypesModel") (hR : 3 ≤ R.frames ∧ 76 ≤ R.locals) (hK : va_K D qcl [(cI, .int), (cZ, .boolean)] s) (hN : qnests mns s) (hA : ∀ q, s.heap.size ≤ q → A q) {res : (Int32 × (Nat → Nat → Int32))} (hQ : ∀ (H : Heap) (locs : List Loc) (pc : Nat) (ls : Array Slot), decode qb_M_plain pc = .ok (.ireturn, 1) → mW D ad cI cZ A s.heap res.2 H locs → W p l e R s m args below meth c H locs 0 0 Q (F0 m pc ls [.int res.1])) (S : (Nat → Nat → Int32)) (a1 : Int32) (hM : f_M_plain S a1 = some res) {H : Heap} {locs : List Loc} {ls : Array Slot} (w : mW D ad cI cZ A s.heap S H locs) (hl : lv_has ls 2 [(0, .ref (ad 0)), (1, .int a1)]) : W p l e R s m args below meth c H locs 0 0 Q (F0 m 0 ls []) := by
  unfold f_M_plain at hM
  refine lv_aload_n F.1 F.2.1 qd_M_plain_0 rfl (lv_at hl 0 rfl) ?_
  refine lv_iload_n F.1 F.2.1 qd_M_plain_1 rfl (lv_at hl 1 rfl) ?_
  obtain ⟨q1, hq2, hM⟩ := qbd hM
  refine m_calli F hK hN hA w (c_M_isClass l D ad cI cZ hq2) qk_768 qk_770 qs_M_isClass qk_8 qk_771 qv_M_isClass rfl rfl ⟨Nat.le_trans (by decide) hR.1, Nat.le_trans (by decide) hR.2⟩ (ci := 6) rfl (j := 0) rfl hl.1 rfl (Nat.le_of_ble_eq_true rfl) qd_M_plain_2 (fun H locs w => ?_)
  refine lv_if_ne (tgt := 11) F.1 F.2.1 qd_M_plain_5 (by decide) (fun hc3 => ?_) (fun hc3 => ?_)
  · rw [if_neg hc3] at hM
    refine lv_aload_n F.1 F.2.1 qd_M_plain_11 rfl (lv_at hl 0 rfl) ?_
    refine lv_aload_n F.1 F.2.1 qd_M_plain_12 rfl (lv_at hl 0 rfl) ?_
    refine mg_M_parameters F hK w qk_657 qd_M_plain_13 ?_
    refine lv_iload_n F.1 F.2.1 qd_M_plain_16 rfl (lv_at hl 1 rfl) ?_
    obtain ⟨hi4, hM⟩ := qck_ok hM
    refine ml_M_parameters F hK w hi4 qd_M_plain_17 ?_
    refine lv_if_ne (tgt := 25) F.1 F.2.1 qd_M_plain_18 (by decide) (fun hc5 => ?_) (fun hc5 => ?_)
    · rw [if_neg hc5] at hM
      refine lv_iconst (v := 1) F.1 F.2.1 qd_M_plain_25 (by decide) ?_
      exact t_M_plain_26 F hR hK hN hA hQ  _ _ _ hM w (lv_sub hl [0, 1] rfl)
    · rw [if_pos hc5] at hM
      refine lv_iconst (v := 0) F.1 F.2.1 qd_M_plain_21 (by decide) ?_
      refine lv_goto (tgt := 26) F.1 F.2.1 qd_M_plain_22 (by decide) ?_
      exact t_M_plain_26 F hR hK hN hA hQ  _ _ _ hM w (lv_sub hl [0, 1] rfl)
  · rw [if_pos hc3] at hM
    refine lv_bipush (v := (-2)) F.1 F.2.1 qd_M_plain_8 (by decide) ?_
    cases hM
    exact hQ _ _ _ _ qd_M_plain_10 w
set_option maxRecDepth 100000 in
theorem c_M_plain (l : Launch) (D : va_G) (ad : Nat → Nat) (cI cZ : ClassId) {S : (Nat → Nat → Int32)} {a1 : Int32} {res : (Int32 × (Nat → Nat → Int32))} (hM : f_M_plain S a1 = some res) : mMi l qy_M_plain qb_M_plain 2 (some .int) { frames := 3, cells := 0, slots := 0, locals := 76 } D ad cI cZ S [.ref (ad 0), .int a1] res.1 res.2 := m_ofi (by decide +kernel) (Nat.le_of_ble_eq_true rfl) (fun p e s m args below meth c Q A ls F hK hN hA w hl hQ => t_M_plain F ⟨Nat.le_refl _, Nat.le_refl _⟩ hK hN hA hQ S a1 hM w hl)
-- M_isType
def f_M_isType (S : (Nat → Nat → Int32)) (a1 : Int32) : Option Bool := (f_M_isIn S a1 (0 : Int32) ((S 7 0) - (1 : Int32))).bind (fun q1 => some q1)
set_option maxRecDepth 100000 in
set_option maxHeartbeats 4000000 in
theorem t_M_isType {p : Program} {l : Launch} {e : Env} {R : Room} {s : State} {m : MethodId} {args : Array Value} {below : List Frame} {meth : Method} {c : Code} {Q : State → Prop} {D : va_G} {ad : Nat → Nat} {cI cZ : ClassId} {A : Nat → Prop} (F : CallFix p m c qb_M_isType 2 s args qtb "CaptureSubtypesModel") (hR : 1 ≤ R.frames ∧ 22 ≤ R.locals) (hK : va_K D qcl [(cI, .int), (cZ, .boolean)] s) (hN : qnests mns s) (hA : ∀ q, s.heap.size ≤ q → A q) {res : Bool} {S : (Nat → Nat → Int32)} (hQ : ∀ (H : Heap) (locs : List Loc) (pc : Nat) (ls : Array Slot), decode qb_M_isType pc = .ok (.ireturn, 1) → mW D ad cI cZ A s.heap S H locs → W p l e R s m args below meth c H locs 0 0 Q (F0 m pc ls [.int (qB res)])) (a1 : Int32) (hM : f_M_isType S a1 = some res) {H : Heap} {locs : List Loc} {ls : Array Slot} (w : mW D ad cI cZ A s.heap S H locs) (hl : lv_has ls 2 [(0, .ref (ad 0)), (1, .int a1)]) : W p l e R s m args below meth c H locs 0 0 Q (F0 m 0 ls []) := by
  unfold f_M_isType at hM
  refine lv_iload_n F.1 F.2.1 qd_M_isType_0 rfl (lv_at hl 1 rfl) ?_
  refine lv_iconst (v := 0) F.1 F.2.1 qd_M_isType_1 (by decide) ?_
  refine lv_aload_n F.1 F.2.1 qd_M_isType_2 rfl (lv_at hl 0 rfl) ?_
  refine mg_M_types F hK w qk_662 qd_M_isType_3 ?_
  refine lv_iconst (v := 1) F.1 F.2.1 qd_M_isType_6 (by decide) ?_
  refine lv_isub F.1 F.2.1 qd_M_isType_7 ?_
  obtain ⟨q1, hq2, hM⟩ := qbd hM
  refine m_calliS F hK hN hA w (c_M_isIn l D ad cI cZ hq2) qk_761 qk_762 qk_8 qk_763 qv_M_isIn rfl rfl ⟨Nat.le_trans (by decide) hR.1, Nat.le_trans (by decide) hR.2⟩ hl.1 rfl (Nat.le_of_ble_eq_true rfl) qd_M_isType_8 (fun H locs w => ?_)
  cases hM
  exact hQ _ _ _ _ qd_M_isType_11 w
set_option maxRecDepth 100000 in
theorem c_M_isType (l : Launch) (D : va_G) (ad : Nat → Nat) (cI cZ : ClassId) {S : (Nat → Nat → Int32)} {a1 : Int32} {res : Bool} (hM : f_M_isType S a1 = some res) : mMi l qy_M_isType qb_M_isType 2 (some .boolean) { frames := 1, cells := 0, slots := 0, locals := 22 } D ad cI cZ S [.ref (ad 0), .int a1] (qB res) S := m_ofz (by decide +kernel) (Nat.le_of_ble_eq_true rfl) (fun p e s m args below meth c Q A ls F hK hN hA w hl hQ => t_M_isType F ⟨Nat.le_refl _, Nat.le_refl _⟩ hK hN hA hQ a1 hM w hl)
-- M_isArgument
def f_M_isArgument (S : (Nat → Nat → Int32)) (a1 : Int32) : Option Bool := (f_M_isType S a1).bind (fun q1 => if (qB q1) = 0 then (some false) else (if a1 = (1 : Int32) then (some false) else (if a1 = (2 : Int32) then (some false) else (some true))))
set_option maxRecDepth 100000 in
set_option maxHeartbeats 4000000 in
theorem t_M_isArgument {p : Program} {l : Launch} {e : Env} {R : Room} {s : State} {m : MethodId} {args : Array Value} {below : List Frame} {meth : Method} {c : Code} {Q : State → Prop} {D : va_G} {ad : Nat → Nat} {cI cZ : ClassId} {A : Nat → Prop} (F : CallFix p m c qb_M_isArgument 2 s args qtb "CaptureSubtypesModel") (hR : 2 ≤ R.frames ∧ 43 ≤ R.locals) (hK : va_K D qcl [(cI, .int), (cZ, .boolean)] s) (hN : qnests mns s) (hA : ∀ q, s.heap.size ≤ q → A q) {res : Bool} {S : (Nat → Nat → Int32)} (hQ : ∀ (H : Heap) (locs : List Loc) (pc : Nat) (ls : Array Slot), decode qb_M_isArgument pc = .ok (.ireturn, 1) → mW D ad cI cZ A s.heap S H locs → W p l e R s m args below meth c H locs 0 0 Q (F0 m pc ls [.int (qB res)])) (a1 : Int32) (hM : f_M_isArgument S a1 = some res) {H : Heap} {locs : List Loc} {ls : Array Slot} (w : mW D ad cI cZ A s.heap S H locs) (hl : lv_has ls 2 [(0, .ref (ad 0)), (1, .int a1)]) : W p l e R s m args below meth c H locs 0 0 Q (F0 m 0 ls []) := by
  unfold f_M_isArgument at hM
  refine lv_aload_n F.1 F.2.1 qd_M_isArgument_0 rfl (lv_at hl 0 rfl) ?_
  refine lv_iload_n F.1 F.2.1 qd_M_isArgument_1 rfl (lv_at hl 1 rfl) ?_
  obtain ⟨q1, hq2, hM⟩ := qbd hM
  refine m_calli F hK hN hA w (c_M_isType l D ad cI cZ hq2) qk_792 qk_794 qs_M_isType qk_8 qk_795 qv_M_isType rfl rfl ⟨Nat.le_trans (by decide) hR.1, Nat.le_trans (by decide) hR.2⟩ (ci := 6) rfl (j := 0) rfl hl.1 rfl (Nat.le_of_ble_eq_true rfl) qd_M_isArgument_2 (fun H locs w => ?_)
  refine lv_if_eq (tgt := 22) F.1 F.2.1 qd_M_isArgument_5 (by decide) (fun hc3 => ?_) (fun hc3 => ?_)
  · rw [if_pos hc3] at hM
    refine lv_iconst (v := 0) F.1 F.2.1 qd_M_isArgument_22 (by decide) ?_
    cases hM
    exact hQ _ _ _ _ qd_M_isArgument_23 w
  · rw [if_neg hc3] at hM
    refine lv_iload_n F.1 F.2.1 qd_M_isArgument_8 rfl (lv_at hl 1 rfl) ?_
    refine lv_iconst (v := 1) F.1 F.2.1 qd_M_isArgument_9 (by decide) ?_
    refine lv_icmp_eq (tgt := 22) F.1 F.2.1 qd_M_isArgument_10 (by decide) (fun hc4 => ?_) (fun hc4 => ?_)
    · rw [if_pos hc4] at hM
      refine lv_iconst (v := 0) F.1 F.2.1 qd_M_isArgument_22 (by decide) ?_
      cases hM
      exact hQ _ _ _ _ qd_M_isArgument_23 w
    · rw [if_neg hc4] at hM
      refine lv_iload_n F.1 F.2.1 qd_M_isArgument_13 rfl (lv_at hl 1 rfl) ?_
      refine lv_iconst (v := 2) F.1 F.2.1 qd_M_isArgument_14 (by decide) ?_
      refine lv_icmp_eq (tgt := 22) F.1 F.2.1 qd_M_isArgument_15 (by decide) (fun hc5 => ?_) (fun hc5 => ?_)
      · rw [if_pos hc5] at hM
        refine lv_iconst (v := 0) F.1 F.2.1 qd_M_isArgument_22 (by decide) ?_
        cases hM
        exact hQ _ _ _ _ qd_M_isArgument_23 w
      · rw [if_neg hc5] at hM
        refine lv_iconst (v := 1) F.1 F.2.1 qd_M_isArgument_18 (by decide) ?_
        refine lv_goto (tgt := 23) F.1 F.2.1 qd_M_isArgument_19 (by decide) ?_
        cases hM
        exact hQ _ _ _ _ qd_M_isArgument_23 w
set_option maxRecDepth 100000 in
theorem c_M_isArgument (l : Launch) (D : va_G) (ad : Nat → Nat) (cI cZ : ClassId) {S : (Nat → Nat → Int32)} {a1 : Int32} {res : Bool} (hM : f_M_isArgument S a1 = some res) : mMi l qy_M_isArgument qb_M_isArgument 2 (some .boolean) { frames := 2, cells := 0, slots := 0, locals := 43 } D ad cI cZ S [.ref (ad 0), .int a1] (qB res) S := m_ofz (by decide +kernel) (Nat.le_of_ble_eq_true rfl) (fun p e s m args below meth c Q A ls F hK hN hA w hl hQ => t_M_isArgument F ⟨Nat.le_refl _, Nat.le_refl _⟩ hK hN hA hQ a1 hM w hl)
-- M_of
def f_M_of_101 (S : (Nat → Nat → Int32)) (v1 v2 v4 s1 : Int32) : Option (Int32 × (Nat → Nat → Int32)) := (f_M_enter S (2 : Int32) v1 v2 v4 (s1 + (1 : Int32))).bind (fun q1 => some (q1.1, q1.2))
def f_M_of_99 (S : (Nat → Nat → Int32)) (v1 v2 v4 v5 : Int32) : Option (Int32 × (Nat → Nat → Int32)) := f_M_of_101  S v1 v2 v4 v5
def f_M_of_61 (S : (Nat → Nat → Int32)) (v1 v2 s1 : Int32) : Option (Int32 × (Nat → Nat → Int32)) := qck (qin v2 9000) (if s1 = (-1 : Int32) then (f_M_of_99  S v1 v2 s1 (S 13 v2.toNatClampNeg)) else (qck (qin s1 9000) (if (S 13 s1.toNatClampNeg) ≤ (S 13 v2.toNatClampNeg) then (f_M_of_99  S v1 v2 s1 (S 13 v2.toNatClampNeg)) else (qck (qin s1 9000) (f_M_of_101  S v1 v2 s1 (S 13 s1.toNatClampNeg))))))
def f_M_of_46 (S : (Nat → Nat → Int32)) (v1 v2 v3 : Int32) : Option (Int32 × (Nat → Nat → Int32)) := qck (qin v1 12) (if (S 2 v1.toNatClampNeg) = (2 : Int32) then (f_M_of_61  S v1 v2 v3) else (f_M_of_61  S v1 v2 (-1 : Int32)))
def f_M_of (S : (Nat → Nat → Int32)) (a1 a2 a3 : Int32) : Option (Int32 × (Nat → Nat → Int32)) := (f_M_isClass S a1).bind (fun q1 => if (qB q1) = 0 then (some ((-2 : Int32), S)) else (qck (qin a1 12) (if (S 2 a1.toNatClampNeg) = 0 then (some ((-2 : Int32), S)) else ((f_M_isArgument S a2).bind (fun q6 => if (qB q6) = 0 then (some ((-2 : Int32), S)) else (qck (qin a1 12) (if (S 2 a1.toNatClampNeg) = (2 : Int32) then ((f_M_isArgument S a3).bind (fun q11 => if (qB q11) = 0 then (some ((-2 : Int32), S)) else (f_M_of_46  S a1 a2 a3))) else (f_M_of_46  S a1 a2 a3))))))))
set_option maxRecDepth 100000 in
set_option maxHeartbeats 4000000 in
theorem t_M_of_101 {p : Program} {l : Launch} {e : Env} {R : Room} {s : State} {m : MethodId} {args : Array Value} {below : List Frame} {meth : Method} {c : Code} {Q : State → Prop} {D : va_G} {ad : Nat → Nat} {cI cZ : ClassId} {A : Nat → Prop} (F : CallFix p m c qb_M_of 6 s args qtb "CaptureSubtypesModel") (hR : 3 ≤ R.frames ∧ 76 ≤ R.locals) (hK : va_K D qcl [(cI, .int), (cZ, .boolean)] s) (hN : qnests mns s) (hA : ∀ q, s.heap.size ≤ q → A q) {res : (Int32 × (Nat → Nat → Int32))} (hQ : ∀ (H : Heap) (locs : List Loc) (pc : Nat) (ls : Array Slot), decode qb_M_of pc = .ok (.ireturn, 1) → mW D ad cI cZ A s.heap res.2 H locs → W p l e R s m args below meth c H locs 0 0 Q (F0 m pc ls [.int res.1])) (S : (Nat → Nat → Int32)) (v1 v2 v4 s1 : Int32) (hM : f_M_of_101 S v1 v2 v4 s1 = some res) {H : Heap} {locs : List Loc} {ls : Array Slot} (w : mW D ad cI cZ A s.heap S H locs) (hl : lv_has ls 6 [(0, .ref (ad 0)), (1, .int v1), (2, .int v2), (4, .int v4)]) : W p l e R s m args below meth c H locs 0 0 Q (F0 m 101 ls [.int s1]) := by
  unfold f_M_of_101 at hM
  refine lv_istore (lv' := [(5, .int s1), (0, .ref (ad 0)), (1, .int v1), (2, .int v2), (4, .int v4)]) F.1 F.2.1 qd_M_of_101 hl (by decide) rfl (fun ls hl => ?_)
  refine lv_aload_n F.1 F.2.1 qd_M_of_103 rfl (lv_at hl 1 rfl) ?_
  refine lv_iconst (v := 2) F.1 F.2.1 qd_M_of_104 (by decide) ?_
  refine lv_iload_n F.1 F.2.1 qd_M_of_105 rfl (lv_at hl 2 rfl) ?_
  refine lv_iload_n F.1 F.2.1 qd_M_of_106 rfl (lv_at hl 3 rfl) ?_
  refine lv_iload F.1 F.2.1 qd_M_of_107 (lv_at hl 4 rfl) ?_
  refine lv_iload F.1 F.2.1 qd_M_of_109 (lv_at hl 0 rfl) ?_
  refine lv_iconst (v := 1) F.1 F.2.1 qd_M_of_111 (by decide) ?_
  refine lv_iadd F.1 F.2.1 qd_M_of_112 ?_
  obtain ⟨q1, hq2, hM⟩ := qbd hM
  refine m_calli F hK hN hA w (c_M_enter l D ad cI cZ hq2) qk_772 qk_774 qs_M_enter qk_8 qk_775 qv_M_enter rfl rfl ⟨Nat.le_trans (by decide) hR.1, Nat.le_trans (by decide) hR.2⟩ (ci := 6) rfl (j := 0) rfl hl.1 rfl (Nat.le_of_ble_eq_true rfl) qd_M_of_113 (fun H locs w => ?_)
  cases hM
  exact hQ _ _ _ _ qd_M_of_116 w
set_option maxRecDepth 100000 in
set_option maxHeartbeats 4000000 in
theorem t_M_of_99 {p : Program} {l : Launch} {e : Env} {R : Room} {s : State} {m : MethodId} {args : Array Value} {below : List Frame} {meth : Method} {c : Code} {Q : State → Prop} {D : va_G} {ad : Nat → Nat} {cI cZ : ClassId} {A : Nat → Prop} (F : CallFix p m c qb_M_of 6 s args qtb "CaptureSubtypesModel") (hR : 3 ≤ R.frames ∧ 76 ≤ R.locals) (hK : va_K D qcl [(cI, .int), (cZ, .boolean)] s) (hN : qnests mns s) (hA : ∀ q, s.heap.size ≤ q → A q) {res : (Int32 × (Nat → Nat → Int32))} (hQ : ∀ (H : Heap) (locs : List Loc) (pc : Nat) (ls : Array Slot), decode qb_M_of pc = .ok (.ireturn, 1) → mW D ad cI cZ A s.heap res.2 H locs → W p l e R s m args below meth c H locs 0 0 Q (F0 m pc ls [.int res.1])) (S : (Nat → Nat → Int32)) (v1 v2 v4 v5 : Int32) (hM : f_M_of_99 S v1 v2 v4 v5 = some res) {H : Heap} {locs : List Loc} {ls : Array Slot} (w : mW D ad cI cZ A s.heap S H locs) (hl : lv_has ls 6 [(0, .ref (ad 0)), (1, .int v1), (2, .int v2), (4, .int v4), (5, .int v5)]) : W p l e R s m args below meth c H locs 0 0 Q (F0 m 99 ls []) := by
  unfold f_M_of_99 at hM
  refine lv_iload F.1 F.2.1 qd_M_of_99 (lv_at hl 4 rfl) ?_
  exact t_M_of_101 F hR hK hN hA hQ  _ _ _ _ _ hM w (lv_sub hl [0, 1, 2, 3] rfl)
set_option maxRecDepth 100000 in
set_option maxHeartbeats 4000000 in
theorem t_M_of_61 {p : Program} {l : Launch} {e : Env} {R : Room} {s : State} {m : MethodId} {args : Array Value} {below : List Frame} {meth : Method} {c : Code} {Q : State → Prop} {D : va_G} {ad : Nat → Nat} {cI cZ : ClassId} {A : Nat → Prop} (F : CallFix p m c qb_M_of 6 s args qtb "CaptureSubtypesModel") (hR : 3 ≤ R.frames ∧ 76 ≤ R.locals) (hK : va_K D qcl [(cI, .int), (cZ, .boolean)] s) (hN : qnests mns s) (hA : ∀ q, s.heap.size ≤ q → A q) {res : (Int32 × (Nat → Nat → Int32))} (hQ : ∀ (H : Heap) (locs : List Loc) (pc : Nat) (ls : Array Slot), decode qb_M_of pc = .ok (.ireturn, 1) → mW D ad cI cZ A s.heap res.2 H locs → W p l e R s m args below meth c H locs 0 0 Q (F0 m pc ls [.int res.1])) (S : (Nat → Nat → Int32)) (v1 v2 s1 : Int32) (hM : f_M_of_61 S v1 v2 s1 = some res) {H : Heap} {locs : List Loc} {ls : Array Slot} (w : mW D ad cI cZ A s.heap S H locs) (hl : lv_has ls 6 [(0, .ref (ad 0)), (1, .int v1), (2, .int v2)]) : W p l e R s m args below meth c H locs 0 0 Q (F0 m 61 ls [.int s1]) := by
  unfold f_M_of_61 at hM
  refine lv_istore (lv' := [(4, .int s1), (0, .ref (ad 0)), (1, .int v1), (2, .int v2)]) F.1 F.2.1 qd_M_of_61 hl (by decide) rfl (fun ls hl => ?_)
  refine lv_aload_n F.1 F.2.1 qd_M_of_63 rfl (lv_at hl 1 rfl) ?_
  refine mg_M_deep F hK w qk_668 qd_M_of_64 ?_
  refine lv_iload_n F.1 F.2.1 qd_M_of_67 rfl (lv_at hl 3 rfl) ?_
  obtain ⟨hi1, hM⟩ := qck_ok hM
  refine ml_M_deep F hK w hi1 qd_M_of_68 ?_
  refine lv_istore (lv' := [(5, .int (S 13 v2.toNatClampNeg)), (4, .int s1), (0, .ref (ad 0)), (1, .int v1), (2, .int v2)]) F.1 F.2.1 qd_M_of_69 hl (by decide) rfl (fun ls hl => ?_)
  refine lv_iload F.1 F.2.1 qd_M_of_71 (lv_at hl 1 rfl) ?_
  refine lv_iconst (v := (-1)) F.1 F.2.1 qd_M_of_73 (by decide) ?_
  refine lv_icmp_eq (tgt := 99) F.1 F.2.1 qd_M_of_74 (by decide) (fun hc2 => ?_) (fun hc2 => ?_)
  · rw [if_pos hc2] at hM
    exact t_M_of_99 F hR hK hN hA hQ  _ _ _ _ _ hM w (lv_sub hl [2, 3, 4, 1, 0] rfl)
  · rw [if_neg hc2] at hM
    refine lv_aload_n F.1 F.2.1 qd_M_of_77 rfl (lv_at hl 2 rfl) ?_
    refine mg_M_deep F hK w qk_668 qd_M_of_78 ?_
    refine lv_iload F.1 F.2.1 qd_M_of_81 (lv_at hl 1 rfl) ?_
    obtain ⟨hi3, hM⟩ := qck_ok hM
    refine ml_M_deep F hK w hi3 qd_M_of_83 ?_
    refine lv_iload F.1 F.2.1 qd_M_of_84 (lv_at hl 0 rfl) ?_
    refine lv_icmp_le (tgt := 99) F.1 F.2.1 qd_M_of_86 (by decide) (fun hc4 => ?_) (fun hc4 => ?_)
    · rw [if_pos hc4] at hM
      exact t_M_of_99 F hR hK hN hA hQ  _ _ _ _ _ hM w (lv_sub hl [2, 3, 4, 1, 0] rfl)
    · rw [if_neg hc4] at hM
      refine lv_aload_n F.1 F.2.1 qd_M_of_89 rfl (lv_at hl 2 rfl) ?_
      refine mg_M_deep F hK w qk_668 qd_M_of_90 ?_
      refine lv_iload F.1 F.2.1 qd_M_of_93 (lv_at hl 1 rfl) ?_
      obtain ⟨hi5, hM⟩ := qck_ok hM
      refine ml_M_deep F hK w hi5 qd_M_of_95 ?_
      refine lv_goto (tgt := 101) F.1 F.2.1 qd_M_of_96 (by decide) ?_
      exact t_M_of_101 F hR hK hN hA hQ  _ _ _ _ _ hM w (lv_sub hl [2, 3, 4, 1] rfl)
set_option maxRecDepth 100000 in
set_option maxHeartbeats 4000000 in
theorem t_M_of_46 {p : Program} {l : Launch} {e : Env} {R : Room} {s : State} {m : MethodId} {args : Array Value} {below : List Frame} {meth : Method} {c : Code} {Q : State → Prop} {D : va_G} {ad : Nat → Nat} {cI cZ : ClassId} {A : Nat → Prop} (F : CallFix p m c qb_M_of 6 s args qtb "CaptureSubtypesModel") (hR : 3 ≤ R.frames ∧ 76 ≤ R.locals) (hK : va_K D qcl [(cI, .int), (cZ, .boolean)] s) (hN : qnests mns s) (hA : ∀ q, s.heap.size ≤ q → A q) {res : (Int32 × (Nat → Nat → Int32))} (hQ : ∀ (H : Heap) (locs : List Loc) (pc : Nat) (ls : Array Slot), decode qb_M_of pc = .ok (.ireturn, 1) → mW D ad cI cZ A s.heap res.2 H locs → W p l e R s m args below meth c H locs 0 0 Q (F0 m pc ls [.int res.1])) (S : (Nat → Nat → Int32)) (v1 v2 v3 : Int32) (hM : f_M_of_46 S v1 v2 v3 = some res) {H : Heap} {locs : List Loc} {ls : Array Slot} (w : mW D ad cI cZ A s.heap S H locs) (hl : lv_has ls 6 [(0, .ref (ad 0)), (1, .int v1), (2, .int v2), (3, .int v3)]) : W p l e R s m args below meth c H locs 0 0 Q (F0 m 46 ls []) := by
  unfold f_M_of_46 at hM
  refine lv_aload_n F.1 F.2.1 qd_M_of_46 rfl (lv_at hl 0 rfl) ?_
  refine mg_M_parameters F hK w qk_657 qd_M_of_47 ?_
  refine lv_iload_n F.1 F.2.1 qd_M_of_50 rfl (lv_at hl 1 rfl) ?_
  obtain ⟨hi1, hM⟩ := qck_ok hM
  refine ml_M_parameters F hK w hi1 qd_M_of_51 ?_
  refine lv_iconst (v := 2) F.1 F.2.1 qd_M_of_52 (by decide) ?_
  refine lv_icmp_ne (tgt := 60) F.1 F.2.1 qd_M_of_53 (by decide) (fun hc2 => ?_) (fun hc2 => ?_)
  · rw [if_neg hc2] at hM
    refine lv_iconst (v := (-1)) F.1 F.2.1 qd_M_of_60 (by decide) ?_
    exact t_M_of_61 F hR hK hN hA hQ  _ _ _ _ hM w (lv_sub hl [0, 1, 2] rfl)
  · rw [if_pos hc2] at hM
    refine lv_iload_n F.1 F.2.1 qd_M_of_56 rfl (lv_at hl 3 rfl) ?_
    refine lv_goto (tgt := 61) F.1 F.2.1 qd_M_of_57 (by decide) ?_
    exact t_M_of_61 F hR hK hN hA hQ  _ _ _ _ hM w (lv_sub hl [0, 1, 2] rfl)
set_option maxRecDepth 100000 in
set_option maxHeartbeats 4000000 in
theorem t_M_of {p : Program} {l : Launch} {e : Env} {R : Room} {s : State} {m : MethodId} {args : Array Value} {below : List Frame} {meth : Method} {c : Code} {Q : State → Prop} {D : va_G} {ad : Nat → Nat} {cI cZ : ClassId} {A : Nat → Prop} (F : CallFix p m c qb_M_of 6 s args qtb "CaptureSubtypesModel") (hR : 3 ≤ R.frames ∧ 76 ≤ R.locals) (hK : va_K D qcl [(cI, .int), (cZ, .boolean)] s) (hN : qnests mns s) (hA : ∀ q, s.heap.size ≤ q → A q) {res : (Int32 × (Nat → Nat → Int32))} (hQ : ∀ (H : Heap) (locs : List Loc) (pc : Nat) (ls : Array Slot), decode qb_M_of pc = .ok (.ireturn, 1) → mW D ad cI cZ A s.heap res.2 H locs → W p l e R s m args below meth c H locs 0 0 Q (F0 m pc ls [.int res.1])) (S : (Nat → Nat → Int32)) (a1 a2 a3 : Int32) (hM : f_M_of S a1 a2 a3 = some res) {H : Heap} {locs : List Loc} {ls : Array Slot} (w : mW D ad cI cZ A s.heap S H locs) (hl : lv_has ls 6 [(0, .ref (ad 0)), (1, .int a1), (2, .int a2), (3, .int a3)]) : W p l e R s m args below meth c H locs 0 0 Q (F0 m 0 ls []) := by
  unfold f_M_of at hM
  refine lv_aload_n F.1 F.2.1 qd_M_of_0 rfl (lv_at hl 0 rfl) ?_
  refine lv_iload_n F.1 F.2.1 qd_M_of_1 rfl (lv_at hl 1 rfl) ?_
  obtain ⟨q1, hq2, hM⟩ := qbd hM
  refine m_calli F hK hN hA w (c_M_isClass l D ad cI cZ hq2) qk_768 qk_770 qs_M_isClass qk_8 qk_771 qv_M_isClass rfl rfl ⟨Nat.le_trans (by decide) hR.1, Nat.le_trans (by decide) hR.2⟩ (ci := 6) rfl (j := 0) rfl hl.1 rfl (Nat.le_of_ble_eq_true rfl) qd_M_of_2 (fun H locs w => ?_)
  refine lv_if_eq (tgt := 43) F.1 F.2.1 qd_M_of_5 (by decide) (fun hc3 => ?_) (fun hc3 => ?_)
  · rw [if_pos hc3] at hM
    refine lv_bipush (v := (-2)) F.1 F.2.1 qd_M_of_43 (by decide) ?_
    cases hM
    exact hQ _ _ _ _ qd_M_of_45 w
  · rw [if_neg hc3] at hM
    refine lv_aload_n F.1 F.2.1 qd_M_of_8 rfl (lv_at hl 0 rfl) ?_
    refine mg_M_parameters F hK w qk_657 qd_M_of_9 ?_
    refine lv_iload_n F.1 F.2.1 qd_M_of_12 rfl (lv_at hl 1 rfl) ?_
    obtain ⟨hi4, hM⟩ := qck_ok hM
    refine ml_M_parameters F hK w hi4 qd_M_of_13 ?_
    refine lv_if_eq (tgt := 43) F.1 F.2.1 qd_M_of_14 (by decide) (fun hc5 => ?_) (fun hc5 => ?_)
    · rw [if_pos hc5] at hM
      refine lv_bipush (v := (-2)) F.1 F.2.1 qd_M_of_43 (by decide) ?_
      cases hM
      exact hQ _ _ _ _ qd_M_of_45 w
    · rw [if_neg hc5] at hM
      refine lv_aload_n F.1 F.2.1 qd_M_of_17 rfl (lv_at hl 0 rfl) ?_
      refine lv_iload_n F.1 F.2.1 qd_M_of_18 rfl (lv_at hl 2 rfl) ?_
      obtain ⟨q6, hq7, hM⟩ := qbd hM
      refine m_calli F hK hN hA w (c_M_isArgument l D ad cI cZ hq7) qk_788 qk_790 qs_M_isArgument qk_8 qk_791 qv_M_isArgument rfl rfl ⟨Nat.le_trans (by decide) hR.1, Nat.le_trans (by decide) hR.2⟩ (ci := 6) rfl (j := 0) rfl hl.1 rfl (Nat.le_of_ble_eq_true rfl) qd_M_of_19 (fun H locs w => ?_)
      refine lv_if_eq (tgt := 43) F.1 F.2.1 qd_M_of_22 (by decide) (fun hc8 => ?_) (fun hc8 => ?_)
      · rw [if_pos hc8] at hM
        refine lv_bipush (v := (-2)) F.1 F.2.1 qd_M_of_43 (by decide) ?_
        cases hM
        exact hQ _ _ _ _ qd_M_of_45 w
      · rw [if_neg hc8] at hM
        refine lv_aload_n F.1 F.2.1 qd_M_of_25 rfl (lv_at hl 0 rfl) ?_
        refine mg_M_parameters F hK w qk_657 qd_M_of_26 ?_
        refine lv_iload_n F.1 F.2.1 qd_M_of_29 rfl (lv_at hl 1 rfl) ?_
        obtain ⟨hi9, hM⟩ := qck_ok hM
        refine ml_M_parameters F hK w hi9 qd_M_of_30 ?_
        refine lv_iconst (v := 2) F.1 F.2.1 qd_M_of_31 (by decide) ?_
        refine lv_icmp_ne (tgt := 46) F.1 F.2.1 qd_M_of_32 (by decide) (fun hc10 => ?_) (fun hc10 => ?_)
        · rw [if_neg hc10] at hM
          exact t_M_of_46 F hR hK hN hA hQ  _ _ _ _ hM w (lv_sub hl [0, 1, 2, 3] rfl)
        · rw [if_pos hc10] at hM
          refine lv_aload_n F.1 F.2.1 qd_M_of_35 rfl (lv_at hl 0 rfl) ?_
          refine lv_iload_n F.1 F.2.1 qd_M_of_36 rfl (lv_at hl 3 rfl) ?_
          obtain ⟨q11, hq12, hM⟩ := qbd hM
          refine m_calli F hK hN hA w (c_M_isArgument l D ad cI cZ hq12) qk_788 qk_790 qs_M_isArgument qk_8 qk_791 qv_M_isArgument rfl rfl ⟨Nat.le_trans (by decide) hR.1, Nat.le_trans (by decide) hR.2⟩ (ci := 6) rfl (j := 0) rfl hl.1 rfl (Nat.le_of_ble_eq_true rfl) qd_M_of_37 (fun H locs w => ?_)
          refine lv_if_ne (tgt := 46) F.1 F.2.1 qd_M_of_40 (by decide) (fun hc13 => ?_) (fun hc13 => ?_)
          · rw [if_neg hc13] at hM
            exact t_M_of_46 F hR hK hN hA hQ  _ _ _ _ hM w (lv_sub hl [0, 1, 2, 3] rfl)
          · rw [if_pos hc13] at hM
            refine lv_bipush (v := (-2)) F.1 F.2.1 qd_M_of_43 (by decide) ?_
            cases hM
            exact hQ _ _ _ _ qd_M_of_45 w
set_option maxRecDepth 100000 in
theorem c_M_of (l : Launch) (D : va_G) (ad : Nat → Nat) (cI cZ : ClassId) {S : (Nat → Nat → Int32)} {a1 a2 a3 : Int32} {res : (Int32 × (Nat → Nat → Int32))} (hM : f_M_of S a1 a2 a3 = some res) : mMi l qy_M_of qb_M_of 6 (some .int) { frames := 3, cells := 0, slots := 0, locals := 76 } D ad cI cZ S [.ref (ad 0), .int a1, .int a2, .int a3] res.1 res.2 := m_ofi (by decide +kernel) (Nat.le_of_ble_eq_true rfl) (fun p e s m args below meth c Q A ls F hK hN hA w hl hQ => t_M_of F ⟨Nat.le_refl _, Nat.le_refl _⟩ hK hN hA hQ S a1 a2 a3 hM w hl)
-- M_wild
def f_M_wild_34 (S : (Nat → Nat → Int32)) (v1 v2 : Int32) : Option (Int32 × (Nat → Nat → Int32)) := if v1 = 0 then ((f_M_enter S (5 : Int32) (0 : Int32) (-1 : Int32) (-1 : Int32) (1 : Int32)).bind (fun q5 => some (q5.1, q5.2))) else (qck (qin v2 9000) ((f_M_enter S (5 : Int32) v1 v2 (-1 : Int32) ((S 13 v2.toNatClampNeg) + (1 : Int32))).bind (fun q3 => some (q3.1, q3.2))))
def f_M_wild (S : (Nat → Nat → Int32)) (a1 a2 : Int32) : Option (Int32 × (Nat → Nat → Int32)) := (f_M_isIn S a1 (0 : Int32) (2 : Int32)).bind (fun q1 => if (qB q1) = 0 then (some ((-2 : Int32), S)) else (if a1 ≤ 0 then (f_M_wild_34  S a1 a2) else ((f_M_isArgument S a2).bind (fun q5 => if (qB q5) = 0 then (some ((-2 : Int32), S)) else (qck (qin a2 9000) (if (S 9 a2.toNatClampNeg) = (5 : Int32) then (some ((-2 : Int32), S)) else (f_M_wild_34  S a1 a2)))))))
set_option maxRecDepth 100000 in
set_option maxHeartbeats 4000000 in
theorem t_M_wild_34 {p : Program} {l : Launch} {e : Env} {R : Room} {s : State} {m : MethodId} {args : Array Value} {below : List Frame} {meth : Method} {c : Code} {Q : State → Prop} {D : va_G} {ad : Nat → Nat} {cI cZ : ClassId} {A : Nat → Prop} (F : CallFix p m c qb_M_wild 3 s args qtb "CaptureSubtypesModel") (hR : 3 ≤ R.frames ∧ 76 ≤ R.locals) (hK : va_K D qcl [(cI, .int), (cZ, .boolean)] s) (hN : qnests mns s) (hA : ∀ q, s.heap.size ≤ q → A q) {res : (Int32 × (Nat → Nat → Int32))} (hQ : ∀ (H : Heap) (locs : List Loc) (pc : Nat) (ls : Array Slot), decode qb_M_wild pc = .ok (.ireturn, 1) → mW D ad cI cZ A s.heap res.2 H locs → W p l e R s m args below meth c H locs 0 0 Q (F0 m pc ls [.int res.1])) (S : (Nat → Nat → Int32)) (v1 v2 : Int32) (hM : f_M_wild_34 S v1 v2 = some res) {H : Heap} {locs : List Loc} {ls : Array Slot} (w : mW D ad cI cZ A s.heap S H locs) (hl : lv_has ls 3 [(0, .ref (ad 0)), (1, .int v1), (2, .int v2)]) : W p l e R s m args below meth c H locs 0 0 Q (F0 m 34 ls []) := by
  unfold f_M_wild_34 at hM
  refine lv_iload_n F.1 F.2.1 qd_M_wild_34 rfl (lv_at hl 1 rfl) ?_
  refine lv_if_ne (tgt := 50) F.1 F.2.1 qd_M_wild_35 (by decide) (fun hc1 => ?_) (fun hc1 => ?_)
  · rw [if_neg hc1] at hM
    refine lv_aload_n F.1 F.2.1 qd_M_wild_50 rfl (lv_at hl 0 rfl) ?_
    refine lv_iconst (v := 5) F.1 F.2.1 qd_M_wild_51 (by decide) ?_
    refine lv_iload_n F.1 F.2.1 qd_M_wild_52 rfl (lv_at hl 1 rfl) ?_
    refine lv_iload_n F.1 F.2.1 qd_M_wild_53 rfl (lv_at hl 2 rfl) ?_
    refine lv_iconst (v := (-1)) F.1 F.2.1 qd_M_wild_54 (by decide) ?_
    refine lv_aload_n F.1 F.2.1 qd_M_wild_55 rfl (lv_at hl 0 rfl) ?_
    refine mg_M_deep F hK w qk_668 qd_M_wild_56 ?_
    refine lv_iload_n F.1 F.2.1 qd_M_wild_59 rfl (lv_at hl 2 rfl) ?_
    obtain ⟨hi2, hM⟩ := qck_ok hM
    refine ml_M_deep F hK w hi2 qd_M_wild_60 ?_
    refine lv_iconst (v := 1) F.1 F.2.1 qd_M_wild_61 (by decide) ?_
    refine lv_iadd F.1 F.2.1 qd_M_wild_62 ?_
    obtain ⟨q3, hq4, hM⟩ := qbd hM
    refine m_calli F hK hN hA w (c_M_enter l D ad cI cZ hq4) qk_772 qk_774 qs_M_enter qk_8 qk_775 qv_M_enter rfl rfl ⟨Nat.le_trans (by decide) hR.1, Nat.le_trans (by decide) hR.2⟩ (ci := 6) rfl (j := 0) rfl hl.1 rfl (Nat.le_of_ble_eq_true rfl) qd_M_wild_63 (fun H locs w => ?_)
    cases hM
    exact hQ _ _ _ _ qd_M_wild_66 w
  · rw [if_pos hc1] at hM
    refine lv_aload_n F.1 F.2.1 qd_M_wild_38 rfl (lv_at hl 0 rfl) ?_
    refine lv_iconst (v := 5) F.1 F.2.1 qd_M_wild_39 (by decide) ?_
    refine lv_iconst (v := 0) F.1 F.2.1 qd_M_wild_40 (by decide) ?_
    refine lv_iconst (v := (-1)) F.1 F.2.1 qd_M_wild_41 (by decide) ?_
    refine lv_iconst (v := (-1)) F.1 F.2.1 qd_M_wild_42 (by decide) ?_
    refine lv_iconst (v := 1) F.1 F.2.1 qd_M_wild_43 (by decide) ?_
    obtain ⟨q5, hq6, hM⟩ := qbd hM
    refine m_calli F hK hN hA w (c_M_enter l D ad cI cZ hq6) qk_772 qk_774 qs_M_enter qk_8 qk_775 qv_M_enter rfl rfl ⟨Nat.le_trans (by decide) hR.1, Nat.le_trans (by decide) hR.2⟩ (ci := 6) rfl (j := 0) rfl hl.1 rfl (Nat.le_of_ble_eq_true rfl) qd_M_wild_44 (fun H locs w => ?_)
    refine lv_goto (tgt := 66) F.1 F.2.1 qd_M_wild_47 (by decide) ?_
    cases hM
    exact hQ _ _ _ _ qd_M_wild_66 w
set_option maxRecDepth 100000 in
set_option maxHeartbeats 4000000 in
theorem t_M_wild {p : Program} {l : Launch} {e : Env} {R : Room} {s : State} {m : MethodId} {args : Array Value} {below : List Frame} {meth : Method} {c : Code} {Q : State → Prop} {D : va_G} {ad : Nat → Nat} {cI cZ : ClassId} {A : Nat → Prop} (F : CallFix p m c qb_M_wild 3 s args qtb "CaptureSubtypesModel") (hR : 3 ≤ R.frames ∧ 76 ≤ R.locals) (hK : va_K D qcl [(cI, .int), (cZ, .boolean)] s) (hN : qnests mns s) (hA : ∀ q, s.heap.size ≤ q → A q) {res : (Int32 × (Nat → Nat → Int32))} (hQ : ∀ (H : Heap) (locs : List Loc) (pc : Nat) (ls : Array Slot), decode qb_M_wild pc = .ok (.ireturn, 1) → mW D ad cI cZ A s.heap res.2 H locs → W p l e R s m args below meth c H locs 0 0 Q (F0 m pc ls [.int res.1])) (S : (Nat → Nat → Int32)) (a1 a2 : Int32) (hM : f_M_wild S a1 a2 = some res) {H : Heap} {locs : List Loc} {ls : Array Slot} (w : mW D ad cI cZ A s.heap S H locs) (hl : lv_has ls 3 [(0, .ref (ad 0)), (1, .int a1), (2, .int a2)]) : W p l e R s m args below meth c H locs 0 0 Q (F0 m 0 ls []) := by
  unfold f_M_wild at hM
  refine lv_iload_n F.1 F.2.1 qd_M_wild_0 rfl (lv_at hl 1 rfl) ?_
  refine lv_iconst (v := 0) F.1 F.2.1 qd_M_wild_1 (by decide) ?_
  refine lv_iconst (v := 2) F.1 F.2.1 qd_M_wild_2 (by decide) ?_
  obtain ⟨q1, hq2, hM⟩ := qbd hM
  refine m_calliS F hK hN hA w (c_M_isIn l D ad cI cZ hq2) qk_761 qk_762 qk_8 qk_763 qv_M_isIn rfl rfl ⟨Nat.le_trans (by decide) hR.1, Nat.le_trans (by decide) hR.2⟩ hl.1 rfl (Nat.le_of_ble_eq_true rfl) qd_M_wild_3 (fun H locs w => ?_)
  refine lv_if_eq (tgt := 31) F.1 F.2.1 qd_M_wild_6 (by decide) (fun hc3 => ?_) (fun hc3 => ?_)
  · rw [if_pos hc3] at hM
    refine lv_bipush (v := (-2)) F.1 F.2.1 qd_M_wild_31 (by decide) ?_
    cases hM
    exact hQ _ _ _ _ qd_M_wild_33 w
  · rw [if_neg hc3] at hM
    refine lv_iload_n F.1 F.2.1 qd_M_wild_9 rfl (lv_at hl 1 rfl) ?_
    refine lv_if_le (tgt := 34) F.1 F.2.1 qd_M_wild_10 (by decide) (fun hc4 => ?_) (fun hc4 => ?_)
    · rw [if_pos hc4] at hM
      exact t_M_wild_34 F hR hK hN hA hQ  _ _ _ hM w (lv_sub hl [0, 1, 2] rfl)
    · rw [if_neg hc4] at hM
      refine lv_aload_n F.1 F.2.1 qd_M_wild_13 rfl (lv_at hl 0 rfl) ?_
      refine lv_iload_n F.1 F.2.1 qd_M_wild_14 rfl (lv_at hl 2 rfl) ?_
      obtain ⟨q5, hq6, hM⟩ := qbd hM
      refine m_calli F hK hN hA w (c_M_isArgument l D ad cI cZ hq6) qk_788 qk_790 qs_M_isArgument qk_8 qk_791 qv_M_isArgument rfl rfl ⟨Nat.le_trans (by decide) hR.1, Nat.le_trans (by decide) hR.2⟩ (ci := 6) rfl (j := 0) rfl hl.1 rfl (Nat.le_of_ble_eq_true rfl) qd_M_wild_15 (fun H locs w => ?_)
      refine lv_if_eq (tgt := 31) F.1 F.2.1 qd_M_wild_18 (by decide) (fun hc7 => ?_) (fun hc7 => ?_)
      · rw [if_pos hc7] at hM
        refine lv_bipush (v := (-2)) F.1 F.2.1 qd_M_wild_31 (by decide) ?_
        cases hM
        exact hQ _ _ _ _ qd_M_wild_33 w
      · rw [if_neg hc7] at hM
        refine lv_aload_n F.1 F.2.1 qd_M_wild_21 rfl (lv_at hl 0 rfl) ?_
        refine mg_M_sort F hK w qk_664 qd_M_wild_22 ?_
        refine lv_iload_n F.1 F.2.1 qd_M_wild_25 rfl (lv_at hl 2 rfl) ?_
        obtain ⟨hi8, hM⟩ := qck_ok hM
        refine ml_M_sort F hK w hi8 qd_M_wild_26 ?_
        refine lv_iconst (v := 5) F.1 F.2.1 qd_M_wild_27 (by decide) ?_
        refine lv_icmp_ne (tgt := 34) F.1 F.2.1 qd_M_wild_28 (by decide) (fun hc9 => ?_) (fun hc9 => ?_)
        · rw [if_neg hc9] at hM
          exact t_M_wild_34 F hR hK hN hA hQ  _ _ _ hM w (lv_sub hl [0, 1, 2] rfl)
        · rw [if_pos hc9] at hM
          refine lv_bipush (v := (-2)) F.1 F.2.1 qd_M_wild_31 (by decide) ?_
          cases hM
          exact hQ _ _ _ _ qd_M_wild_33 w
set_option maxRecDepth 100000 in
theorem c_M_wild (l : Launch) (D : va_G) (ad : Nat → Nat) (cI cZ : ClassId) {S : (Nat → Nat → Int32)} {a1 a2 : Int32} {res : (Int32 × (Nat → Nat → Int32))} (hM : f_M_wild S a1 a2 = some res) : mMi l qy_M_wild qb_M_wild 3 (some .int) { frames := 3, cells := 0, slots := 0, locals := 76 } D ad cI cZ S [.ref (ad 0), .int a1, .int a2] res.1 res.2 := m_ofi (by decide +kernel) (Nat.le_of_ble_eq_true rfl) (fun p e s m args below meth c Q A ls F hK hN hA w hl hQ => t_M_wild F ⟨Nat.le_refl _, Nat.le_refl _⟩ hK hN hA hQ S a1 a2 hM w hl)
-- M_variable
def f_M_variable (S : (Nat → Nat → Int32)) (a1 a2 : Int32) : Option (Int32 × (Nat → Nat → Int32)) := (f_M_isClass S a1).bind (fun q1 => if (qB q1) = 0 then (some ((-2 : Int32), S)) else (qck (qin a1 12) ((f_M_isIn S a2 (0 : Int32) ((S 2 a1.toNatClampNeg) - (1 : Int32))).bind (fun q5 => if (qB q5) = 0 then (some ((-2 : Int32), S)) else ((f_M_enter S (3 : Int32) a1 a2 (-1 : Int32) (1 : Int32)).bind (fun q8 => some (q8.1, q8.2)))))))
set_option maxRecDepth 100000 in
set_option maxHeartbeats 4000000 in
theorem t_M_variable {p : Program} {l : Launch} {e : Env} {R : Room} {s : State} {m : MethodId} {args : Array Value} {below : List Frame} {meth : Method} {c : Code} {Q : State → Prop} {D : va_G} {ad : Nat → Nat} {cI cZ : ClassId} {A : Nat → Prop} (F : CallFix p m c qb_M_variable 3 s args qtb "CaptureSubtypesModel") (hR : 3 ≤ R.frames ∧ 76 ≤ R.locals) (hK : va_K D qcl [(cI, .int), (cZ, .boolean)] s) (hN : qnests mns s) (hA : ∀ q, s.heap.size ≤ q → A q) {res : (Int32 × (Nat → Nat → Int32))} (hQ : ∀ (H : Heap) (locs : List Loc) (pc : Nat) (ls : Array Slot), decode qb_M_variable pc = .ok (.ireturn, 1) → mW D ad cI cZ A s.heap res.2 H locs → W p l e R s m args below meth c H locs 0 0 Q (F0 m pc ls [.int res.1])) (S : (Nat → Nat → Int32)) (a1 a2 : Int32) (hM : f_M_variable S a1 a2 = some res) {H : Heap} {locs : List Loc} {ls : Array Slot} (w : mW D ad cI cZ A s.heap S H locs) (hl : lv_has ls 3 [(0, .ref (ad 0)), (1, .int a1), (2, .int a2)]) : W p l e R s m args below meth c H locs 0 0 Q (F0 m 0 ls []) := by
  unfold f_M_variable at hM
  refine lv_aload_n F.1 F.2.1 qd_M_variable_0 rfl (lv_at hl 0 rfl) ?_
  refine lv_iload_n F.1 F.2.1 qd_M_variable_1 rfl (lv_at hl 1 rfl) ?_
  obtain ⟨q1, hq2, hM⟩ := qbd hM
  refine m_calli F hK hN hA w (c_M_isClass l D ad cI cZ hq2) qk_768 qk_770 qs_M_isClass qk_8 qk_771 qv_M_isClass rfl rfl ⟨Nat.le_trans (by decide) hR.1, Nat.le_trans (by decide) hR.2⟩ (ci := 6) rfl (j := 0) rfl hl.1 rfl (Nat.le_of_ble_eq_true rfl) qd_M_variable_2 (fun H locs w => ?_)
  refine lv_if_eq (tgt := 24) F.1 F.2.1 qd_M_variable_5 (by decide) (fun hc3 => ?_) (fun hc3 => ?_)
  · rw [if_pos hc3] at hM
    refine lv_bipush (v := (-2)) F.1 F.2.1 qd_M_variable_24 (by decide) ?_
    cases hM
    exact hQ _ _ _ _ qd_M_variable_26 w
  · rw [if_neg hc3] at hM
    refine lv_iload_n F.1 F.2.1 qd_M_variable_8 rfl (lv_at hl 2 rfl) ?_
    refine lv_iconst (v := 0) F.1 F.2.1 qd_M_variable_9 (by decide) ?_
    refine lv_aload_n F.1 F.2.1 qd_M_variable_10 rfl (lv_at hl 0 rfl) ?_
    refine mg_M_parameters F hK w qk_657 qd_M_variable_11 ?_
    refine lv_iload_n F.1 F.2.1 qd_M_variable_14 rfl (lv_at hl 1 rfl) ?_
    obtain ⟨hi4, hM⟩ := qck_ok hM
    refine ml_M_parameters F hK w hi4 qd_M_variable_15 ?_
    refine lv_iconst (v := 1) F.1 F.2.1 qd_M_variable_16 (by decide) ?_
    refine lv_isub F.1 F.2.1 qd_M_variable_17 ?_
    obtain ⟨q5, hq6, hM⟩ := qbd hM
    refine m_calliS F hK hN hA w (c_M_isIn l D ad cI cZ hq6) qk_761 qk_762 qk_8 qk_763 qv_M_isIn rfl rfl ⟨Nat.le_trans (by decide) hR.1, Nat.le_trans (by decide) hR.2⟩ hl.1 rfl (Nat.le_of_ble_eq_true rfl) qd_M_variable_18 (fun H locs w => ?_)
    refine lv_if_ne (tgt := 27) F.1 F.2.1 qd_M_variable_21 (by decide) (fun hc7 => ?_) (fun hc7 => ?_)
    · rw [if_neg hc7] at hM
      refine lv_aload_n F.1 F.2.1 qd_M_variable_27 rfl (lv_at hl 0 rfl) ?_
      refine lv_iconst (v := 3) F.1 F.2.1 qd_M_variable_28 (by decide) ?_
      refine lv_iload_n F.1 F.2.1 qd_M_variable_29 rfl (lv_at hl 1 rfl) ?_
      refine lv_iload_n F.1 F.2.1 qd_M_variable_30 rfl (lv_at hl 2 rfl) ?_
      refine lv_iconst (v := (-1)) F.1 F.2.1 qd_M_variable_31 (by decide) ?_
      refine lv_iconst (v := 1) F.1 F.2.1 qd_M_variable_32 (by decide) ?_
      obtain ⟨q8, hq9, hM⟩ := qbd hM
      refine m_calli F hK hN hA w (c_M_enter l D ad cI cZ hq9) qk_772 qk_774 qs_M_enter qk_8 qk_775 qv_M_enter rfl rfl ⟨Nat.le_trans (by decide) hR.1, Nat.le_trans (by decide) hR.2⟩ (ci := 6) rfl (j := 0) rfl hl.1 rfl (Nat.le_of_ble_eq_true rfl) qd_M_variable_33 (fun H locs w => ?_)
      cases hM
      exact hQ _ _ _ _ qd_M_variable_36 w
    · rw [if_pos hc7] at hM
      refine lv_bipush (v := (-2)) F.1 F.2.1 qd_M_variable_24 (by decide) ?_
      cases hM
      exact hQ _ _ _ _ qd_M_variable_26 w
set_option maxRecDepth 100000 in
theorem c_M_variable (l : Launch) (D : va_G) (ad : Nat → Nat) (cI cZ : ClassId) {S : (Nat → Nat → Int32)} {a1 a2 : Int32} {res : (Int32 × (Nat → Nat → Int32))} (hM : f_M_variable S a1 a2 = some res) : mMi l qy_M_variable qb_M_variable 3 (some .int) { frames := 3, cells := 0, slots := 0, locals := 76 } D ad cI cZ S [.ref (ad 0), .int a1, .int a2] res.1 res.2 := m_ofi (by decide +kernel) (Nat.le_of_ble_eq_true rfl) (fun p e s m args below meth c Q A ls F hK hN hA w hl hQ => t_M_variable F ⟨Nat.le_refl _, Nat.le_refl _⟩ hK hN hA hQ S a1 a2 hM w hl)
-- M_row
def f_M_row (S : (Nat → Nat → Int32)) (a1 : Int32) : Option (Int32 × (Nat → Nat → Int32)) := (f_M_isType S a1).bind (fun q1 => if (qB q1) = 0 then (some ((-2 : Int32), S)) else (if a1 = (2 : Int32) then (some ((-2 : Int32), S)) else (qck (qin a1 9000) (if (S 9 a1.toNatClampNeg) = (5 : Int32) then (some ((-2 : Int32), S)) else (qck (qin a1 9000) ((f_M_enter S (4 : Int32) (-1 : Int32) a1 (-1 : Int32) ((S 13 a1.toNatClampNeg) + (1 : Int32))).bind (fun q8 => some (q8.1, q8.2))))))))
set_option maxRecDepth 100000 in
set_option maxHeartbeats 4000000 in
theorem t_M_row {p : Program} {l : Launch} {e : Env} {R : Room} {s : State} {m : MethodId} {args : Array Value} {below : List Frame} {meth : Method} {c : Code} {Q : State → Prop} {D : va_G} {ad : Nat → Nat} {cI cZ : ClassId} {A : Nat → Prop} (F : CallFix p m c qb_M_row 2 s args qtb "CaptureSubtypesModel") (hR : 3 ≤ R.frames ∧ 76 ≤ R.locals) (hK : va_K D qcl [(cI, .int), (cZ, .boolean)] s) (hN : qnests mns s) (hA : ∀ q, s.heap.size ≤ q → A q) {res : (Int32 × (Nat → Nat → Int32))} (hQ : ∀ (H : Heap) (locs : List Loc) (pc : Nat) (ls : Array Slot), decode qb_M_row pc = .ok (.ireturn, 1) → mW D ad cI cZ A s.heap res.2 H locs → W p l e R s m args below meth c H locs 0 0 Q (F0 m pc ls [.int res.1])) (S : (Nat → Nat → Int32)) (a1 : Int32) (hM : f_M_row S a1 = some res) {H : Heap} {locs : List Loc} {ls : Array Slot} (w : mW D ad cI cZ A s.heap S H locs) (hl : lv_has ls 2 [(0, .ref (ad 0)), (1, .int a1)]) : W p l e R s m args below meth c H locs 0 0 Q (F0 m 0 ls []) := by
  unfold f_M_row at hM
  refine lv_aload_n F.1 F.2.1 qd_M_row_0 rfl (lv_at hl 0 rfl) ?_
  refine lv_iload_n F.1 F.2.1 qd_M_row_1 rfl (lv_at hl 1 rfl) ?_
  obtain ⟨q1, hq2, hM⟩ := qbd hM
  refine m_calli F hK hN hA w (c_M_isType l D ad cI cZ hq2) qk_792 qk_794 qs_M_isType qk_8 qk_795 qv_M_isType rfl rfl ⟨Nat.le_trans (by decide) hR.1, Nat.le_trans (by decide) hR.2⟩ (ci := 6) rfl (j := 0) rfl hl.1 rfl (Nat.le_of_ble_eq_true rfl) qd_M_row_2 (fun H locs w => ?_)
  refine lv_if_eq (tgt := 23) F.1 F.2.1 qd_M_row_5 (by decide) (fun hc3 => ?_) (fun hc3 => ?_)
  · rw [if_pos hc3] at hM
    refine lv_bipush (v := (-2)) F.1 F.2.1 qd_M_row_23 (by decide) ?_
    cases hM
    exact hQ _ _ _ _ qd_M_row_25 w
  · rw [if_neg hc3] at hM
    refine lv_iload_n F.1 F.2.1 qd_M_row_8 rfl (lv_at hl 1 rfl) ?_
    refine lv_iconst (v := 2) F.1 F.2.1 qd_M_row_9 (by decide) ?_
    refine lv_icmp_eq (tgt := 23) F.1 F.2.1 qd_M_row_10 (by decide) (fun hc4 => ?_) (fun hc4 => ?_)
    · rw [if_pos hc4] at hM
      refine lv_bipush (v := (-2)) F.1 F.2.1 qd_M_row_23 (by decide) ?_
      cases hM
      exact hQ _ _ _ _ qd_M_row_25 w
    · rw [if_neg hc4] at hM
      refine lv_aload_n F.1 F.2.1 qd_M_row_13 rfl (lv_at hl 0 rfl) ?_
      refine mg_M_sort F hK w qk_664 qd_M_row_14 ?_
      refine lv_iload_n F.1 F.2.1 qd_M_row_17 rfl (lv_at hl 1 rfl) ?_
      obtain ⟨hi5, hM⟩ := qck_ok hM
      refine ml_M_sort F hK w hi5 qd_M_row_18 ?_
      refine lv_iconst (v := 5) F.1 F.2.1 qd_M_row_19 (by decide) ?_
      refine lv_icmp_ne (tgt := 26) F.1 F.2.1 qd_M_row_20 (by decide) (fun hc6 => ?_) (fun hc6 => ?_)
      · rw [if_neg hc6] at hM
        refine lv_aload_n F.1 F.2.1 qd_M_row_26 rfl (lv_at hl 0 rfl) ?_
        refine lv_iconst (v := 4) F.1 F.2.1 qd_M_row_27 (by decide) ?_
        refine lv_iconst (v := (-1)) F.1 F.2.1 qd_M_row_28 (by decide) ?_
        refine lv_iload_n F.1 F.2.1 qd_M_row_29 rfl (lv_at hl 1 rfl) ?_
        refine lv_iconst (v := (-1)) F.1 F.2.1 qd_M_row_30 (by decide) ?_
        refine lv_aload_n F.1 F.2.1 qd_M_row_31 rfl (lv_at hl 0 rfl) ?_
        refine mg_M_deep F hK w qk_668 qd_M_row_32 ?_
        refine lv_iload_n F.1 F.2.1 qd_M_row_35 rfl (lv_at hl 1 rfl) ?_
        obtain ⟨hi7, hM⟩ := qck_ok hM
        refine ml_M_deep F hK w hi7 qd_M_row_36 ?_
        refine lv_iconst (v := 1) F.1 F.2.1 qd_M_row_37 (by decide) ?_
        refine lv_iadd F.1 F.2.1 qd_M_row_38 ?_
        obtain ⟨q8, hq9, hM⟩ := qbd hM
        refine m_calli F hK hN hA w (c_M_enter l D ad cI cZ hq9) qk_772 qk_774 qs_M_enter qk_8 qk_775 qv_M_enter rfl rfl ⟨Nat.le_trans (by decide) hR.1, Nat.le_trans (by decide) hR.2⟩ (ci := 6) rfl (j := 0) rfl hl.1 rfl (Nat.le_of_ble_eq_true rfl) qd_M_row_39 (fun H locs w => ?_)
        cases hM
        exact hQ _ _ _ _ qd_M_row_42 w
      · rw [if_pos hc6] at hM
        refine lv_bipush (v := (-2)) F.1 F.2.1 qd_M_row_23 (by decide) ?_
        cases hM
        exact hQ _ _ _ _ qd_M_row_25 w
set_option maxRecDepth 100000 in
theorem c_M_row (l : Launch) (D : va_G) (ad : Nat → Nat) (cI cZ : ClassId) {S : (Nat → Nat → Int32)} {a1 : Int32} {res : (Int32 × (Nat → Nat → Int32))} (hM : f_M_row S a1 = some res) : mMi l qy_M_row qb_M_row 2 (some .int) { frames := 3, cells := 0, slots := 0, locals := 76 } D ad cI cZ S [.ref (ad 0), .int a1] res.1 res.2 := m_ofi (by decide +kernel) (Nat.le_of_ble_eq_true rfl) (fun p e s m args below meth c Q A ls F hK hN hA w hl hQ => t_M_row F ⟨Nat.le_refl _, Nat.le_refl _⟩ hK hN hA hQ S a1 hM w hl)
-- M_count
def f_M_count (S : (Nat → Nat → Int32)) (a1 : Int32) : Option Int32 := if a1 = 0 then (some (S 0 0)) else (if a1 = (1 : Int32) then (some (S 7 0)) else (some (-2 : Int32)))
set_option maxRecDepth 100000 in
set_option maxHeartbeats 4000000 in
theorem t_M_count {p : Program} {l : Launch} {e : Env} {R : Room} {s : State} {m : MethodId} {args : Array Value} {below : List Frame} {meth : Method} {c : Code} {Q : State → Prop} {D : va_G} {ad : Nat → Nat} {cI cZ : ClassId} {A : Nat → Prop} (F : CallFix p m c qb_M_count 2 s args qtb "CaptureSubtypesModel") (hR : 0 ≤ R.frames ∧ 0 ≤ R.locals) (hK : va_K D qcl [(cI, .int), (cZ, .boolean)] s) (hN : qnests mns s) (hA : ∀ q, s.heap.size ≤ q → A q) {res : Int32} {S : (Nat → Nat → Int32)} (hQ : ∀ (H : Heap) (locs : List Loc) (pc : Nat) (ls : Array Slot), decode qb_M_count pc = .ok (.ireturn, 1) → mW D ad cI cZ A s.heap S H locs → W p l e R s m args below meth c H locs 0 0 Q (F0 m pc ls [.int res])) (a1 : Int32) (hM : f_M_count S a1 = some res) {H : Heap} {locs : List Loc} {ls : Array Slot} (w : mW D ad cI cZ A s.heap S H locs) (hl : lv_has ls 2 [(0, .ref (ad 0)), (1, .int a1)]) : W p l e R s m args below meth c H locs 0 0 Q (F0 m 0 ls []) := by
  unfold f_M_count at hM
  refine lv_iload_n F.1 F.2.1 qd_M_count_0 rfl (lv_at hl 1 rfl) ?_
  refine lv_if_ne (tgt := 11) F.1 F.2.1 qd_M_count_1 (by decide) (fun hc1 => ?_) (fun hc1 => ?_)
  · rw [if_neg hc1] at hM
    refine lv_iload_n F.1 F.2.1 qd_M_count_11 rfl (lv_at hl 1 rfl) ?_
    refine lv_iconst (v := 1) F.1 F.2.1 qd_M_count_12 (by decide) ?_
    refine lv_icmp_ne (tgt := 23) F.1 F.2.1 qd_M_count_13 (by decide) (fun hc2 => ?_) (fun hc2 => ?_)
    · rw [if_neg hc2] at hM
      refine lv_bipush (v := (-2)) F.1 F.2.1 qd_M_count_23 (by decide) ?_
      cases hM
      exact hQ _ _ _ _ qd_M_count_25 w
    · rw [if_pos hc2] at hM
      refine lv_aload_n F.1 F.2.1 qd_M_count_16 rfl (lv_at hl 0 rfl) ?_
      refine mg_M_types F hK w qk_662 qd_M_count_17 ?_
      refine lv_goto (tgt := 25) F.1 F.2.1 qd_M_count_20 (by decide) ?_
      cases hM
      exact hQ _ _ _ _ qd_M_count_25 w
  · rw [if_pos hc1] at hM
    refine lv_aload_n F.1 F.2.1 qd_M_count_4 rfl (lv_at hl 0 rfl) ?_
    refine mg_M_classes F hK w qk_655 qd_M_count_5 ?_
    refine lv_goto (tgt := 25) F.1 F.2.1 qd_M_count_8 (by decide) ?_
    cases hM
    exact hQ _ _ _ _ qd_M_count_25 w
set_option maxRecDepth 100000 in
theorem c_M_count (l : Launch) (D : va_G) (ad : Nat → Nat) (cI cZ : ClassId) {S : (Nat → Nat → Int32)} {a1 : Int32} {res : Int32} (hM : f_M_count S a1 = some res) : mMi l qy_M_count qb_M_count 2 (some .int) { frames := 0, cells := 0, slots := 0, locals := 0 } D ad cI cZ S [.ref (ad 0), .int a1] res S := m_ofi (by decide +kernel) (Nat.le_of_ble_eq_true rfl) (fun p e s m args below meth c Q A ls F hK hN hA w hl hQ => t_M_count F ⟨Nat.le_refl _, Nat.le_refl _⟩ hK hN hA hQ a1 hM w hl)
-- M_told
def f_M_told (S : (Nat → Nat → Int32)) (a1 a2 : Int32) : Option Int32 := (f_M_isType S a1).bind (fun q1 => if (qB q1) = 0 then (some (-2 : Int32)) else ((f_M_isIn S a2 (0 : Int32) (4 : Int32)).bind (fun q4 => if (qB q4) = 0 then (some (-2 : Int32)) else (if a2 = 0 then (qck (qin a1 9000) (some (S 9 a1.toNatClampNeg))) else (if a2 = 1 then (qck (qin a1 9000) (some (S 10 a1.toNatClampNeg))) else (if a2 = 2 then (qck (qin a1 9000) (some (S 11 a1.toNatClampNeg))) else (if a2 = 3 then (qck (qin a1 9000) (some (S 12 a1.toNatClampNeg))) else (qck (qin a1 9000) (some (S 13 a1.toNatClampNeg))))))))))
set_option maxRecDepth 100000 in
set_option maxHeartbeats 4000000 in
theorem t_M_told {p : Program} {l : Launch} {e : Env} {R : Room} {s : State} {m : MethodId} {args : Array Value} {below : List Frame} {meth : Method} {c : Code} {Q : State → Prop} {D : va_G} {ad : Nat → Nat} {cI cZ : ClassId} {A : Nat → Prop} (F : CallFix p m c qb_M_told 3 s args qtb "CaptureSubtypesModel") (hR : 2 ≤ R.frames ∧ 43 ≤ R.locals) (hK : va_K D qcl [(cI, .int), (cZ, .boolean)] s) (hN : qnests mns s) (hA : ∀ q, s.heap.size ≤ q → A q) {res : Int32} {S : (Nat → Nat → Int32)} (hQ : ∀ (H : Heap) (locs : List Loc) (pc : Nat) (ls : Array Slot), decode qb_M_told pc = .ok (.ireturn, 1) → mW D ad cI cZ A s.heap S H locs → W p l e R s m args below meth c H locs 0 0 Q (F0 m pc ls [.int res])) (a1 a2 : Int32) (hM : f_M_told S a1 a2 = some res) {H : Heap} {locs : List Loc} {ls : Array Slot} (w : mW D ad cI cZ A s.heap S H locs) (hl : lv_has ls 3 [(0, .ref (ad 0)), (1, .int a1), (2, .int a2)]) : W p l e R s m args below meth c H locs 0 0 Q (F0 m 0 ls []) := by
  unfold f_M_told at hM
  refine lv_aload_n F.1 F.2.1 qd_M_told_0 rfl (lv_at hl 0 rfl) ?_
  refine lv_iload_n F.1 F.2.1 qd_M_told_1 rfl (lv_at hl 1 rfl) ?_
  obtain ⟨q1, hq2, hM⟩ := qbd hM
  refine m_calli F hK hN hA w (c_M_isType l D ad cI cZ hq2) qk_792 qk_794 qs_M_isType qk_8 qk_795 qv_M_isType rfl rfl ⟨Nat.le_trans (by decide) hR.1, Nat.le_trans (by decide) hR.2⟩ (ci := 6) rfl (j := 0) rfl hl.1 rfl (Nat.le_of_ble_eq_true rfl) qd_M_told_2 (fun H locs w => ?_)
  refine lv_if_eq (tgt := 17) F.1 F.2.1 qd_M_told_5 (by decide) (fun hc3 => ?_) (fun hc3 => ?_)
  · rw [if_pos hc3] at hM
    refine lv_bipush (v := (-2)) F.1 F.2.1 qd_M_told_17 (by decide) ?_
    cases hM
    exact hQ _ _ _ _ qd_M_told_19 w
  · rw [if_neg hc3] at hM
    refine lv_iload_n F.1 F.2.1 qd_M_told_8 rfl (lv_at hl 2 rfl) ?_
    refine lv_iconst (v := 0) F.1 F.2.1 qd_M_told_9 (by decide) ?_
    refine lv_iconst (v := 4) F.1 F.2.1 qd_M_told_10 (by decide) ?_
    obtain ⟨q4, hq5, hM⟩ := qbd hM
    refine m_calliS F hK hN hA w (c_M_isIn l D ad cI cZ hq5) qk_761 qk_762 qk_8 qk_763 qv_M_isIn rfl rfl ⟨Nat.le_trans (by decide) hR.1, Nat.le_trans (by decide) hR.2⟩ hl.1 rfl (Nat.le_of_ble_eq_true rfl) qd_M_told_11 (fun H locs w => ?_)
    refine lv_if_ne (tgt := 20) F.1 F.2.1 qd_M_told_14 (by decide) (fun hc6 => ?_) (fun hc6 => ?_)
    · rw [if_neg hc6] at hM
      refine lv_iload_n F.1 F.2.1 qd_M_told_20 rfl (lv_at hl 2 rfl) ?_
      by_cases hs7 : a2 = 0
      · rw [if_pos hs7] at hM
        rw [hs7]
        refine lv_tableIn (tgt := 52) F.1 F.2.1 qd_M_told_21 (by decide) (by decide) rfl (by decide) ?_
        refine lv_aload_n F.1 F.2.1 qd_M_told_52 rfl (lv_at hl 0 rfl) ?_
        refine mg_M_sort F hK w qk_664 qd_M_told_53 ?_
        refine lv_iload_n F.1 F.2.1 qd_M_told_56 rfl (lv_at hl 1 rfl) ?_
        obtain ⟨hi8, hM⟩ := qck_ok hM
        refine ml_M_sort F hK w hi8 qd_M_told_57 ?_
        cases hM
        exact hQ _ _ _ _ qd_M_told_58 w
      · rw [if_neg hs7] at hM
        by_cases hs9 : a2 = 1
        · rw [if_pos hs9] at hM
          rw [hs9]
          refine lv_tableIn (tgt := 59) F.1 F.2.1 qd_M_told_21 (by decide) (by decide) rfl (by decide) ?_
          refine lv_aload_n F.1 F.2.1 qd_M_told_59 rfl (lv_at hl 0 rfl) ?_
          refine mg_M_first F hK w qk_665 qd_M_told_60 ?_
          refine lv_iload_n F.1 F.2.1 qd_M_told_63 rfl (lv_at hl 1 rfl) ?_
          obtain ⟨hi10, hM⟩ := qck_ok hM
          refine ml_M_first F hK w hi10 qd_M_told_64 ?_
          cases hM
          exact hQ _ _ _ _ qd_M_told_65 w
        · rw [if_neg hs9] at hM
          by_cases hs11 : a2 = 2
          · rw [if_pos hs11] at hM
            rw [hs11]
            refine lv_tableIn (tgt := 66) F.1 F.2.1 qd_M_told_21 (by decide) (by decide) rfl (by decide) ?_
            refine lv_aload_n F.1 F.2.1 qd_M_told_66 rfl (lv_at hl 0 rfl) ?_
            refine mg_M_second F hK w qk_666 qd_M_told_67 ?_
            refine lv_iload_n F.1 F.2.1 qd_M_told_70 rfl (lv_at hl 1 rfl) ?_
            obtain ⟨hi12, hM⟩ := qck_ok hM
            refine ml_M_second F hK w hi12 qd_M_told_71 ?_
            cases hM
            exact hQ _ _ _ _ qd_M_told_72 w
          · rw [if_neg hs11] at hM
            by_cases hs13 : a2 = 3
            · rw [if_pos hs13] at hM
              rw [hs13]
              refine lv_tableIn (tgt := 73) F.1 F.2.1 qd_M_told_21 (by decide) (by decide) rfl (by decide) ?_
              refine lv_aload_n F.1 F.2.1 qd_M_told_73 rfl (lv_at hl 0 rfl) ?_
              refine mg_M_third F hK w qk_667 qd_M_told_74 ?_
              refine lv_iload_n F.1 F.2.1 qd_M_told_77 rfl (lv_at hl 1 rfl) ?_
              obtain ⟨hi14, hM⟩ := qck_ok hM
              refine ml_M_third F hK w hi14 qd_M_told_78 ?_
              cases hM
              exact hQ _ _ _ _ qd_M_told_79 w
            · rw [if_neg hs13] at hM
              refine lv_tableOut (tgt := 80) F.1 F.2.1 qd_M_told_21 (by have z0 := lv_neT hs7 (a := 0) rfl; have z1 := lv_neT hs9 (a := 1) rfl; have z2 := lv_neT hs11 (a := 2) rfl; have z3 := lv_neT hs13 (a := 3) rfl; omega) (by decide) ?_
              refine lv_aload_n F.1 F.2.1 qd_M_told_80 rfl (lv_at hl 0 rfl) ?_
              refine mg_M_deep F hK w qk_668 qd_M_told_81 ?_
              refine lv_iload_n F.1 F.2.1 qd_M_told_84 rfl (lv_at hl 1 rfl) ?_
              obtain ⟨hi15, hM⟩ := qck_ok hM
              refine ml_M_deep F hK w hi15 qd_M_told_85 ?_
              cases hM
              exact hQ _ _ _ _ qd_M_told_86 w
    · rw [if_pos hc6] at hM
      refine lv_bipush (v := (-2)) F.1 F.2.1 qd_M_told_17 (by decide) ?_
      cases hM
      exact hQ _ _ _ _ qd_M_told_19 w
set_option maxRecDepth 100000 in
theorem c_M_told (l : Launch) (D : va_G) (ad : Nat → Nat) (cI cZ : ClassId) {S : (Nat → Nat → Int32)} {a1 a2 : Int32} {res : Int32} (hM : f_M_told S a1 a2 = some res) : mMi l qy_M_told qb_M_told 3 (some .int) { frames := 2, cells := 0, slots := 0, locals := 43 } D ad cI cZ S [.ref (ad 0), .int a1, .int a2] res S := m_ofi (by decide +kernel) (Nat.le_of_ble_eq_true rfl) (fun p e s m args below meth c Q A ls F hK hN hA w hl hQ => t_M_told F ⟨Nat.le_refl _, Nat.le_refl _⟩ hK hN hA hQ a1 a2 hM w hl)
-- M_superCount
def f_M_superCount (S : (Nat → Nat → Int32)) (a1 : Int32) : Option Int32 := qck (qin a1 12) (some ((1 : Int32) + (S 4 a1.toNatClampNeg)))
set_option maxRecDepth 100000 in
set_option maxHeartbeats 4000000 in
theorem t_M_superCount {p : Program} {l : Launch} {e : Env} {R : Room} {s : State} {m : MethodId} {args : Array Value} {below : List Frame} {meth : Method} {c : Code} {Q : State → Prop} {D : va_G} {ad : Nat → Nat} {cI cZ : ClassId} {A : Nat → Prop} (F : CallFix p m c qb_M_superCount 2 s args qtb "CaptureSubtypesModel") (hR : 0 ≤ R.frames ∧ 0 ≤ R.locals) (hK : va_K D qcl [(cI, .int), (cZ, .boolean)] s) (hN : qnests mns s) (hA : ∀ q, s.heap.size ≤ q → A q) {res : Int32} {S : (Nat → Nat → Int32)} (hQ : ∀ (H : Heap) (locs : List Loc) (pc : Nat) (ls : Array Slot), decode qb_M_superCount pc = .ok (.ireturn, 1) → mW D ad cI cZ A s.heap S H locs → W p l e R s m args below meth c H locs 0 0 Q (F0 m pc ls [.int res])) (a1 : Int32) (hM : f_M_superCount S a1 = some res) {H : Heap} {locs : List Loc} {ls : Array Slot} (w : mW D ad cI cZ A s.heap S H locs) (hl : lv_has ls 2 [(0, .ref (ad 0)), (1, .int a1)]) : W p l e R s m args below meth c H locs 0 0 Q (F0 m 0 ls []) := by
  unfold f_M_superCount at hM
  refine lv_iconst (v := 1) F.1 F.2.1 qd_M_superCount_0 (by decide) ?_
  refine lv_aload_n F.1 F.2.1 qd_M_superCount_1 rfl (lv_at hl 0 rfl) ?_
  refine mg_M_others F hK w qk_659 qd_M_superCount_2 ?_
  refine lv_iload_n F.1 F.2.1 qd_M_superCount_5 rfl (lv_at hl 1 rfl) ?_
  obtain ⟨hi1, hM⟩ := qck_ok hM
  refine ml_M_others F hK w hi1 qd_M_superCount_6 ?_
  refine lv_iadd F.1 F.2.1 qd_M_superCount_7 ?_
  cases hM
  exact hQ _ _ _ _ qd_M_superCount_8 w
set_option maxRecDepth 100000 in
theorem c_M_superCount (l : Launch) (D : va_G) (ad : Nat → Nat) (cI cZ : ClassId) {S : (Nat → Nat → Int32)} {a1 : Int32} {res : Int32} (hM : f_M_superCount S a1 = some res) : mMi l qy_M_superCount qb_M_superCount 2 (some .int) { frames := 0, cells := 0, slots := 0, locals := 0 } D ad cI cZ S [.ref (ad 0), .int a1] res S := m_ofi (by decide +kernel) (Nat.le_of_ble_eq_true rfl) (fun p e s m args below meth c Q A ls F hK hN hA w hl hQ => t_M_superCount F ⟨Nat.le_refl _, Nat.le_refl _⟩ hK hN hA hQ a1 hM w hl)
-- M_superOf
def f_M_superOf (S : (Nat → Nat → Int32)) (a1 a2 : Int32) : Option Int32 := if a2 ≤ 0 then (qck (qin ((3 : Int32) * a1) 36) (if (S 3 ((3 : Int32) * a1).toNatClampNeg) = (-1 : Int32) then (if a1 = 0 then (some (-1 : Int32)) else (qck (qin a1 12) (if (S 1 a1.toNatClampNeg) ≤ (2 : Int32) then (some (0 : Int32)) else (some (-1 : Int32))))) else (qck (qin ((3 : Int32) * a1) 36) (some (S 3 ((3 : Int32) * a1).toNatClampNeg))))) else (qck (qin (((3 : Int32) * a1) + a2) 36) (some (S 3 (((3 : Int32) * a1) + a2).toNatClampNeg)))
set_option maxRecDepth 100000 in
set_option maxHeartbeats 4000000 in
theorem t_M_superOf {p : Program} {l : Launch} {e : Env} {R : Room} {s : State} {m : MethodId} {args : Array Value} {below : List Frame} {meth : Method} {c : Code} {Q : State → Prop} {D : va_G} {ad : Nat → Nat} {cI cZ : ClassId} {A : Nat → Prop} (F : CallFix p m c qb_M_superOf 3 s args qtb "CaptureSubtypesModel") (hR : 0 ≤ R.frames ∧ 0 ≤ R.locals) (hK : va_K D qcl [(cI, .int), (cZ, .boolean)] s) (hN : qnests mns s) (hA : ∀ q, s.heap.size ≤ q → A q) {res : Int32} {S : (Nat → Nat → Int32)} (hQ : ∀ (H : Heap) (locs : List Loc) (pc : Nat) (ls : Array Slot), decode qb_M_superOf pc = .ok (.ireturn, 1) → mW D ad cI cZ A s.heap S H locs → W p l e R s m args below meth c H locs 0 0 Q (F0 m pc ls [.int res])) (a1 a2 : Int32) (hM : f_M_superOf S a1 a2 = some res) {H : Heap} {locs : List Loc} {ls : Array Slot} (w : mW D ad cI cZ A s.heap S H locs) (hl : lv_has ls 3 [(0, .ref (ad 0)), (1, .int a1), (2, .int a2)]) : W p l e R s m args below meth c H locs 0 0 Q (F0 m 0 ls []) := by
  unfold f_M_superOf at hM
  refine lv_iload_n F.1 F.2.1 qd_M_superOf_0 rfl (lv_at hl 2 rfl) ?_
  refine lv_if_le (tgt := 15) F.1 F.2.1 qd_M_superOf_1 (by decide) (fun hc1 => ?_) (fun hc1 => ?_)
  · rw [if_pos hc1] at hM
    refine lv_aload_n F.1 F.2.1 qd_M_superOf_15 rfl (lv_at hl 0 rfl) ?_
    refine mg_M_supers F hK w qk_658 qd_M_superOf_16 ?_
    refine lv_iconst (v := 3) F.1 F.2.1 qd_M_superOf_19 (by decide) ?_
    refine lv_iload_n F.1 F.2.1 qd_M_superOf_20 rfl (lv_at hl 1 rfl) ?_
    refine lv_imul F.1 F.2.1 qd_M_superOf_21 ?_
    obtain ⟨hi2, hM⟩ := qck_ok hM
    refine ml_M_supers F hK w hi2 qd_M_superOf_22 ?_
    refine lv_iconst (v := (-1)) F.1 F.2.1 qd_M_superOf_23 (by decide) ?_
    refine lv_icmp_eq (tgt := 38) F.1 F.2.1 qd_M_superOf_24 (by decide) (fun hc3 => ?_) (fun hc3 => ?_)
    · rw [if_pos hc3] at hM
      refine lv_iload_n F.1 F.2.1 qd_M_superOf_38 rfl (lv_at hl 1 rfl) ?_
      refine lv_if_eq (tgt := 52) F.1 F.2.1 qd_M_superOf_39 (by decide) (fun hc4 => ?_) (fun hc4 => ?_)
      · rw [if_pos hc4] at hM
        refine lv_iconst (v := (-1)) F.1 F.2.1 qd_M_superOf_52 (by decide) ?_
        refine lv_goto (tgt := 57) F.1 F.2.1 qd_M_superOf_53 (by decide) ?_
        cases hM
        exact hQ _ _ _ _ qd_M_superOf_57 w
      · rw [if_neg hc4] at hM
        refine lv_aload_n F.1 F.2.1 qd_M_superOf_42 rfl (lv_at hl 0 rfl) ?_
        refine mg_M_kinds F hK w qk_656 qd_M_superOf_43 ?_
        refine lv_iload_n F.1 F.2.1 qd_M_superOf_46 rfl (lv_at hl 1 rfl) ?_
        obtain ⟨hi5, hM⟩ := qck_ok hM
        refine ml_M_kinds F hK w hi5 qd_M_superOf_47 ?_
        refine lv_iconst (v := 2) F.1 F.2.1 qd_M_superOf_48 (by decide) ?_
        refine lv_icmp_le (tgt := 56) F.1 F.2.1 qd_M_superOf_49 (by decide) (fun hc6 => ?_) (fun hc6 => ?_)
        · rw [if_pos hc6] at hM
          refine lv_iconst (v := 0) F.1 F.2.1 qd_M_superOf_56 (by decide) ?_
          cases hM
          exact hQ _ _ _ _ qd_M_superOf_57 w
        · rw [if_neg hc6] at hM
          refine lv_iconst (v := (-1)) F.1 F.2.1 qd_M_superOf_52 (by decide) ?_
          refine lv_goto (tgt := 57) F.1 F.2.1 qd_M_superOf_53 (by decide) ?_
          cases hM
          exact hQ _ _ _ _ qd_M_superOf_57 w
    · rw [if_neg hc3] at hM
      refine lv_aload_n F.1 F.2.1 qd_M_superOf_27 rfl (lv_at hl 0 rfl) ?_
      refine mg_M_supers F hK w qk_658 qd_M_superOf_28 ?_
      refine lv_iconst (v := 3) F.1 F.2.1 qd_M_superOf_31 (by decide) ?_
      refine lv_iload_n F.1 F.2.1 qd_M_superOf_32 rfl (lv_at hl 1 rfl) ?_
      refine lv_imul F.1 F.2.1 qd_M_superOf_33 ?_
      obtain ⟨hi7, hM⟩ := qck_ok hM
      refine ml_M_supers F hK w hi7 qd_M_superOf_34 ?_
      refine lv_goto (tgt := 57) F.1 F.2.1 qd_M_superOf_35 (by decide) ?_
      cases hM
      exact hQ _ _ _ _ qd_M_superOf_57 w
  · rw [if_neg hc1] at hM
    refine lv_aload_n F.1 F.2.1 qd_M_superOf_4 rfl (lv_at hl 0 rfl) ?_
    refine mg_M_supers F hK w qk_658 qd_M_superOf_5 ?_
    refine lv_iconst (v := 3) F.1 F.2.1 qd_M_superOf_8 (by decide) ?_
    refine lv_iload_n F.1 F.2.1 qd_M_superOf_9 rfl (lv_at hl 1 rfl) ?_
    refine lv_imul F.1 F.2.1 qd_M_superOf_10 ?_
    refine lv_iload_n F.1 F.2.1 qd_M_superOf_11 rfl (lv_at hl 2 rfl) ?_
    refine lv_iadd F.1 F.2.1 qd_M_superOf_12 ?_
    obtain ⟨hi8, hM⟩ := qck_ok hM
    refine ml_M_supers F hK w hi8 qd_M_superOf_13 ?_
    cases hM
    exact hQ _ _ _ _ qd_M_superOf_14 w
set_option maxRecDepth 100000 in
theorem c_M_superOf (l : Launch) (D : va_G) (ad : Nat → Nat) (cI cZ : ClassId) {S : (Nat → Nat → Int32)} {a1 a2 : Int32} {res : Int32} (hM : f_M_superOf S a1 a2 = some res) : mMi l qy_M_superOf qb_M_superOf 3 (some .int) { frames := 0, cells := 0, slots := 0, locals := 0 } D ad cI cZ S [.ref (ad 0), .int a1, .int a2] res S := m_ofi (by decide +kernel) (Nat.le_of_ble_eq_true rfl) (fun p e s m args below meth c Q A ls F hK hN hA w hl hQ => t_M_superOf F ⟨Nat.le_refl _, Nat.le_refl _⟩ hK hN hA hQ a1 a2 hM w hl)
-- M_order
def fb_M_order_38 (k_2 : (Nat → Nat → Int32) → Int32 → Option (Nat → Nat → Int32)) (k_12 : (Nat → Nat → Int32) → Int32 → Int32 → Option (Nat → Nat → Int32)) (k_38 : (Nat → Nat → Int32) → Int32 → Int32 → Int32 → Int32 → Option (Nat → Nat → Int32)) (S : (Nat → Nat → Int32)) (v1 v2 v3 v4 : Int32) : Option (Nat → Nat → Int32) := (f_M_superCount S v1).bind (fun q1 => if q1 ≤ v4 then (qck (qin (((12 : Int32) * v1) + v2) 144) (k_12 (qwr S 18 (((12 : Int32) * v1) + v2).toNatClampNeg (vp_nar .boolean v3)) v1 (v2 + (1 : Int32)))) else ((f_M_superOf S v1 v4).bind (fun q5 => if v3 = 0 then (if q5 = (-1 : Int32) then (k_38 S v1 v2 (0 : Int32) (v4 + (1 : Int32))) else (qck (qin q5 9000) (qck (qin (((12 : Int32) * (S 10 q5.toNatClampNeg)) + v2) 144) (if (S 18 (((12 : Int32) * (S 10 q5.toNatClampNeg)) + v2).toNatClampNeg) = 0 then (k_38 S v1 v2 (0 : Int32) (v4 + (1 : Int32))) else (k_38 S v1 v2 (1 : Int32) (v4 + (1 : Int32))))))) else (k_38 S v1 v2 (1 : Int32) (v4 + (1 : Int32))))))
def f_M_order_38 (k_2 : (Nat → Nat → Int32) → Int32 → Option (Nat → Nat → Int32)) (k_12 : (Nat → Nat → Int32) → Int32 → Int32 → Option (Nat → Nat → Int32)) : Nat → (Nat → Nat → Int32) → Int32 → Int32 → Int32 → Int32 → Option (Nat → Nat → Int32)
  | 0 => fun _ _ _ _ _ => none
  | n + 1 => fun S v1 v2 v3 v4 => fb_M_order_38 k_2 k_12 (f_M_order_38 k_2 k_12 n) S v1 v2 v3 v4
def fb_M_order_12 (k_2 : (Nat → Nat → Int32) → Int32 → Option (Nat → Nat → Int32)) (k_12 : (Nat → Nat → Int32) → Int32 → Int32 → Option (Nat → Nat → Int32)) (S : (Nat → Nat → Int32)) (v1 v2 : Int32) : Option (Nat → Nat → Int32) := if (S 0 0) ≤ v2 then (k_2 S (v1 + (1 : Int32))) else (if v1 = v2 then (f_M_order_38 k_2 k_12 qfu S v1 v2 (1 : Int32) (0 : Int32)) else (if v2 = 0 then (f_M_order_38 k_2 k_12 qfu S v1 v2 (1 : Int32) (0 : Int32)) else (f_M_order_38 k_2 k_12 qfu S v1 v2 (0 : Int32) (0 : Int32))))
def f_M_order_12 (k_2 : (Nat → Nat → Int32) → Int32 → Option (Nat → Nat → Int32)) : Nat → (Nat → Nat → Int32) → Int32 → Int32 → Option (Nat → Nat → Int32)
  | 0 => fun _ _ _ => none
  | n + 1 => fun S v1 v2 => fb_M_order_12 k_2 (f_M_order_12 k_2 n) S v1 v2
def fb_M_order_2 (k_2 : (Nat → Nat → Int32) → Int32 → Option (Nat → Nat → Int32)) (S : (Nat → Nat → Int32)) (v1 : Int32) : Option (Nat → Nat → Int32) := if (S 0 0) ≤ v1 then (some S) else (f_M_order_12 k_2 qfu S v1 (0 : Int32))
def f_M_order_2 : Nat → (Nat → Nat → Int32) → Int32 → Option (Nat → Nat → Int32)
  | 0 => fun _ _ => none
  | n + 1 => fun S v1 => fb_M_order_2 (f_M_order_2 n) S v1
def f_M_order (S : (Nat → Nat → Int32)) : Option (Nat → Nat → Int32) := f_M_order_2  qfu S (0 : Int32)
set_option maxRecDepth 100000 in
set_option maxHeartbeats 4000000 in
theorem tb_M_order_38 {p : Program} {l : Launch} {e : Env} {R : Room} {s : State} {m : MethodId} {args : Array Value} {below : List Frame} {meth : Method} {c : Code} {Q : State → Prop} {D : va_G} {ad : Nat → Nat} {cI cZ : ClassId} {A : Nat → Prop} (F : CallFix p m c qb_M_order 6 s args qtb "CaptureSubtypesModel") (hR : 1 ≤ R.frames ∧ 22 ≤ R.locals) (hK : va_K D qcl [(cI, .int), (cZ, .boolean)] s) (hN : qnests mns s) (hA : ∀ q, s.heap.size ≤ q → A q) {res : (Nat → Nat → Int32)} (hQ : ∀ (H : Heap) (locs : List Loc) (pc : Nat) (ls : Array Slot), decode qb_M_order pc = .ok (.return_, 1) → mW D ad cI cZ A s.heap res H locs → W p l e R s m args below meth c H locs 0 0 Q (F0 m pc ls [])) {k_2 : (Nat → Nat → Int32) → Int32 → Option (Nat → Nat → Int32)} {k_12 : (Nat → Nat → Int32) → Int32 → Int32 → Option (Nat → Nat → Int32)} (hk_2 : ∀ (S : Nat → Nat → Int32) (v1 : Int32), k_2 S v1 = some res → ∀ {H : Heap} {locs : List Loc} {ls : Array Slot}, mW D ad cI cZ A s.heap S H locs → lv_has ls 6 [(0, .ref (ad 0)), (1, .int v1)] → W p l e R s m args below meth c H locs 0 0 Q (F0 m 2 ls [])) (hk_12 : ∀ (S : Nat → Nat → Int32) (v1 v2 : Int32), k_12 S v1 v2 = some res → ∀ {H : Heap} {locs : List Loc} {ls : Array Slot}, mW D ad cI cZ A s.heap S H locs → lv_has ls 6 [(0, .ref (ad 0)), (1, .int v1), (2, .int v2)] → W p l e R s m args below meth c H locs 0 0 Q (F0 m 12 ls [])) {k_38 : (Nat → Nat → Int32) → Int32 → Int32 → Int32 → Int32 → Option (Nat → Nat → Int32)} (hk_38 : ∀ (S : Nat → Nat → Int32) (v1 v2 v3 v4 : Int32), k_38 S v1 v2 v3 v4 = some res → ∀ {H : Heap} {locs : List Loc} {ls : Array Slot}, mW D ad cI cZ A s.heap S H locs → lv_has ls 6 [(0, .ref (ad 0)), (1, .int v1), (2, .int v2), (3, .int v3), (4, .int v4)] → W p l e R s m args below meth c H locs 0 0 Q (F0 m 38 ls [])) (S : (Nat → Nat → Int32)) (v1 v2 v3 v4 : Int32) (hM : fb_M_order_38 k_2 k_12 k_38 S v1 v2 v3 v4 = some res) {H : Heap} {locs : List Loc} {ls : Array Slot} (w : mW D ad cI cZ A s.heap S H locs) (hl : lv_has ls 6 [(0, .ref (ad 0)), (1, .int v1), (2, .int v2), (3, .int v3), (4, .int v4)]) : W p l e R s m args below meth c H locs 0 0 Q (F0 m 38 ls []) := by
  unfold fb_M_order_38 at hM
  refine lv_iload F.1 F.2.1 qd_M_order_38 (lv_at hl 4 rfl) ?_
  refine lv_aload_n F.1 F.2.1 qd_M_order_40 rfl (lv_at hl 0 rfl) ?_
  refine lv_iload_n F.1 F.2.1 qd_M_order_41 rfl (lv_at hl 1 rfl) ?_
  obtain ⟨q1, hq2, hM⟩ := qbd hM
  refine m_calli F hK hN hA w (c_M_superCount l D ad cI cZ hq2) qk_824 qk_826 qs_M_superCount qk_8 qk_827 qv_M_superCount rfl rfl ⟨Nat.le_trans (by decide) hR.1, Nat.le_trans (by decide) hR.2⟩ (ci := 6) rfl (j := 0) rfl hl.1 rfl (Nat.le_of_ble_eq_true rfl) qd_M_order_42 (fun H locs w => ?_)
  refine lv_icmp_ge (tgt := 99) F.1 F.2.1 qd_M_order_45 (by decide) (fun hc3 => ?_) (fun hc3 => ?_)
  · rw [if_pos hc3] at hM
    refine lv_aload_n F.1 F.2.1 qd_M_order_99 rfl (lv_at hl 0 rfl) ?_
    refine mg_M_isBelow F hK w qk_673 qd_M_order_100 ?_
    refine lv_bipush (v := 12) F.1 F.2.1 qd_M_order_103 (by decide) ?_
    refine lv_iload_n F.1 F.2.1 qd_M_order_105 rfl (lv_at hl 1 rfl) ?_
    refine lv_imul F.1 F.2.1 qd_M_order_106 ?_
    refine lv_iload_n F.1 F.2.1 qd_M_order_107 rfl (lv_at hl 2 rfl) ?_
    refine lv_iadd F.1 F.2.1 qd_M_order_108 ?_
    refine lv_iload_n F.1 F.2.1 qd_M_order_109 rfl (lv_at hl 3 rfl) ?_
    obtain ⟨hi4, hM⟩ := qck_ok hM
    refine ms_M_isBelow F hK w hi4 qd_M_order_110 (fun H locs w => ?_)
    refine lv_iinc (v := (v2 + (1 : Int32))) (lv' := [(2, .int (v2 + (1 : Int32))), (0, .ref (ad 0)), (1, .int v1), (3, .int v3), (4, .int v4)]) F.1 F.2.1 qd_M_order_111 hl (k := 2) rfl rfl (by decide) rfl (fun ls hl => ?_)
    refine lv_goto (tgt := 12) F.1 F.2.1 qd_M_order_114 (by decide) ?_
    exact hk_12 _ _ _ hM w (lv_sub hl [1, 2, 0] rfl)
  · rw [if_neg hc3] at hM
    refine lv_aload_n F.1 F.2.1 qd_M_order_48 rfl (lv_at hl 0 rfl) ?_
    refine lv_iload_n F.1 F.2.1 qd_M_order_49 rfl (lv_at hl 1 rfl) ?_
    refine lv_iload F.1 F.2.1 qd_M_order_50 (lv_at hl 4 rfl) ?_
    obtain ⟨q5, hq6, hM⟩ := qbd hM
    refine m_calli F hK hN hA w (c_M_superOf l D ad cI cZ hq6) qk_828 qk_830 qs_M_superOf qk_8 qk_831 qv_M_superOf rfl rfl ⟨Nat.le_trans (by decide) hR.1, Nat.le_trans (by decide) hR.2⟩ (ci := 6) rfl (j := 0) rfl hl.1 rfl (Nat.le_of_ble_eq_true rfl) qd_M_order_52 (fun H locs w => ?_)
    refine lv_istore (lv' := [(5, .int q5), (0, .ref (ad 0)), (1, .int v1), (2, .int v2), (3, .int v3), (4, .int v4)]) F.1 F.2.1 qd_M_order_55 hl (by decide) rfl (fun ls hl => ?_)
    refine lv_iload_n F.1 F.2.1 qd_M_order_57 rfl (lv_at hl 4 rfl) ?_
    refine lv_if_ne (tgt := 87) F.1 F.2.1 qd_M_order_58 (by decide) (fun hc7 => ?_) (fun hc7 => ?_)
    · rw [if_neg hc7] at hM
      refine lv_iconst (v := 1) F.1 F.2.1 qd_M_order_87 (by decide) ?_
      refine lv_goto (tgt := 92) F.1 F.2.1 qd_M_order_88 (by decide) ?_
      refine lv_istore_n (lv' := [(3, .int (1 : Int32)), (5, .int q5), (0, .ref (ad 0)), (1, .int v1), (2, .int v2), (4, .int v4)]) F.1 F.2.1 qd_M_order_92 rfl hl (by decide) rfl (fun ls hl => ?_)
      refine lv_iinc (v := (v4 + (1 : Int32))) (lv' := [(4, .int (v4 + (1 : Int32))), (3, .int (1 : Int32)), (5, .int q5), (0, .ref (ad 0)), (1, .int v1), (2, .int v2)]) F.1 F.2.1 qd_M_order_93 hl (k := 5) rfl rfl (by decide) rfl (fun ls hl => ?_)
      refine lv_goto (tgt := 38) F.1 F.2.1 qd_M_order_96 (by decide) ?_
      exact hk_38 _ _ _ _ _ hM w (lv_sub hl [3, 4, 5, 1, 0] rfl)
    · rw [if_pos hc7] at hM
      refine lv_iload F.1 F.2.1 qd_M_order_61 (lv_at hl 0 rfl) ?_
      refine lv_iconst (v := (-1)) F.1 F.2.1 qd_M_order_63 (by decide) ?_
      refine lv_icmp_eq (tgt := 91) F.1 F.2.1 qd_M_order_64 (by decide) (fun hc8 => ?_) (fun hc8 => ?_)
      · rw [if_pos hc8] at hM
        refine lv_iconst (v := 0) F.1 F.2.1 qd_M_order_91 (by decide) ?_
        refine lv_istore_n (lv' := [(3, .int (0 : Int32)), (5, .int q5), (0, .ref (ad 0)), (1, .int v1), (2, .int v2), (4, .int v4)]) F.1 F.2.1 qd_M_order_92 rfl hl (by decide) rfl (fun ls hl => ?_)
        refine lv_iinc (v := (v4 + (1 : Int32))) (lv' := [(4, .int (v4 + (1 : Int32))), (3, .int (0 : Int32)), (5, .int q5), (0, .ref (ad 0)), (1, .int v1), (2, .int v2)]) F.1 F.2.1 qd_M_order_93 hl (k := 5) rfl rfl (by decide) rfl (fun ls hl => ?_)
        refine lv_goto (tgt := 38) F.1 F.2.1 qd_M_order_96 (by decide) ?_
        exact hk_38 _ _ _ _ _ hM w (lv_sub hl [3, 4, 5, 1, 0] rfl)
      · rw [if_neg hc8] at hM
        refine lv_aload_n F.1 F.2.1 qd_M_order_67 rfl (lv_at hl 1 rfl) ?_
        refine mg_M_isBelow F hK w qk_673 qd_M_order_68 ?_
        refine lv_bipush (v := 12) F.1 F.2.1 qd_M_order_71 (by decide) ?_
        refine lv_aload_n F.1 F.2.1 qd_M_order_73 rfl (lv_at hl 1 rfl) ?_
        refine mg_M_first F hK w qk_665 qd_M_order_74 ?_
        refine lv_iload F.1 F.2.1 qd_M_order_77 (lv_at hl 0 rfl) ?_
        obtain ⟨hi9, hM⟩ := qck_ok hM
        refine ml_M_first F hK w hi9 qd_M_order_79 ?_
        refine lv_imul F.1 F.2.1 qd_M_order_80 ?_
        refine lv_iload_n F.1 F.2.1 qd_M_order_81 rfl (lv_at hl 3 rfl) ?_
        refine lv_iadd F.1 F.2.1 qd_M_order_82 ?_
        obtain ⟨hi10, hM⟩ := qck_ok hM
        refine ml_M_isBelow F hK w hi10 qd_M_order_83 ?_
        refine lv_if_eq (tgt := 91) F.1 F.2.1 qd_M_order_84 (by decide) (fun hc11 => ?_) (fun hc11 => ?_)
        · rw [if_pos hc11] at hM
          refine lv_iconst (v := 0) F.1 F.2.1 qd_M_order_91 (by decide) ?_
          refine lv_istore_n (lv' := [(3, .int (0 : Int32)), (5, .int q5), (0, .ref (ad 0)), (1, .int v1), (2, .int v2), (4, .int v4)]) F.1 F.2.1 qd_M_order_92 rfl hl (by decide) rfl (fun ls hl => ?_)
          refine lv_iinc (v := (v4 + (1 : Int32))) (lv' := [(4, .int (v4 + (1 : Int32))), (3, .int (0 : Int32)), (5, .int q5), (0, .ref (ad 0)), (1, .int v1), (2, .int v2)]) F.1 F.2.1 qd_M_order_93 hl (k := 5) rfl rfl (by decide) rfl (fun ls hl => ?_)
          refine lv_goto (tgt := 38) F.1 F.2.1 qd_M_order_96 (by decide) ?_
          exact hk_38 _ _ _ _ _ hM w (lv_sub hl [3, 4, 5, 1, 0] rfl)
        · rw [if_neg hc11] at hM
          refine lv_iconst (v := 1) F.1 F.2.1 qd_M_order_87 (by decide) ?_
          refine lv_goto (tgt := 92) F.1 F.2.1 qd_M_order_88 (by decide) ?_
          refine lv_istore_n (lv' := [(3, .int (1 : Int32)), (5, .int q5), (0, .ref (ad 0)), (1, .int v1), (2, .int v2), (4, .int v4)]) F.1 F.2.1 qd_M_order_92 rfl hl (by decide) rfl (fun ls hl => ?_)
          refine lv_iinc (v := (v4 + (1 : Int32))) (lv' := [(4, .int (v4 + (1 : Int32))), (3, .int (1 : Int32)), (5, .int q5), (0, .ref (ad 0)), (1, .int v1), (2, .int v2)]) F.1 F.2.1 qd_M_order_93 hl (k := 5) rfl rfl (by decide) rfl (fun ls hl => ?_)
          refine lv_goto (tgt := 38) F.1 F.2.1 qd_M_order_96 (by decide) ?_
          exact hk_38 _ _ _ _ _ hM w (lv_sub hl [3, 4, 5, 1, 0] rfl)
set_option maxRecDepth 100000 in
set_option maxHeartbeats 4000000 in
theorem t_M_order_38 {p : Program} {l : Launch} {e : Env} {R : Room} {s : State} {m : MethodId} {args : Array Value} {below : List Frame} {meth : Method} {c : Code} {Q : State → Prop} {D : va_G} {ad : Nat → Nat} {cI cZ : ClassId} {A : Nat → Prop} (F : CallFix p m c qb_M_order 6 s args qtb "CaptureSubtypesModel") (hR : 1 ≤ R.frames ∧ 22 ≤ R.locals) (hK : va_K D qcl [(cI, .int), (cZ, .boolean)] s) (hN : qnests mns s) (hA : ∀ q, s.heap.size ≤ q → A q) {res : (Nat → Nat → Int32)} (hQ : ∀ (H : Heap) (locs : List Loc) (pc : Nat) (ls : Array Slot), decode qb_M_order pc = .ok (.return_, 1) → mW D ad cI cZ A s.heap res H locs → W p l e R s m args below meth c H locs 0 0 Q (F0 m pc ls [])) {k_2 : (Nat → Nat → Int32) → Int32 → Option (Nat → Nat → Int32)} {k_12 : (Nat → Nat → Int32) → Int32 → Int32 → Option (Nat → Nat → Int32)} (hk_2 : ∀ (S : Nat → Nat → Int32) (v1 : Int32), k_2 S v1 = some res → ∀ {H : Heap} {locs : List Loc} {ls : Array Slot}, mW D ad cI cZ A s.heap S H locs → lv_has ls 6 [(0, .ref (ad 0)), (1, .int v1)] → W p l e R s m args below meth c H locs 0 0 Q (F0 m 2 ls [])) (hk_12 : ∀ (S : Nat → Nat → Int32) (v1 v2 : Int32), k_12 S v1 v2 = some res → ∀ {H : Heap} {locs : List Loc} {ls : Array Slot}, mW D ad cI cZ A s.heap S H locs → lv_has ls 6 [(0, .ref (ad 0)), (1, .int v1), (2, .int v2)] → W p l e R s m args below meth c H locs 0 0 Q (F0 m 12 ls [])) : ∀ (n : Nat) (S : (Nat → Nat → Int32)) (v1 v2 v3 v4 : Int32) (hM : f_M_order_38 k_2 k_12 n S v1 v2 v3 v4 = some res) {H : Heap} {locs : List Loc} {ls : Array Slot} (w : mW D ad cI cZ A s.heap S H locs) (hl : lv_has ls 6 [(0, .ref (ad 0)), (1, .int v1), (2, .int v2), (3, .int v3), (4, .int v4)]), W p l e R s m args below meth c H locs 0 0 Q (F0 m 38 ls []) := by
  intro n
  induction n with
  | zero => intro S v1 v2 v3 v4 hM; exact absurd hM (by simp [f_M_order_38])
  | succ n ih => intro S v1 v2 v3 v4 hM H locs ls w hl; exact tb_M_order_38 F hR hK hN hA hQ hk_2 hk_12 (k_38 := f_M_order_38 k_2 k_12 n) (fun S v1 v2 v3 v4 hM H locs ls w hl => ih S v1 v2 v3 v4 hM w hl) S v1 v2 v3 v4 hM w hl
set_option maxRecDepth 100000 in
set_option maxHeartbeats 4000000 in
theorem tb_M_order_12 {p : Program} {l : Launch} {e : Env} {R : Room} {s : State} {m : MethodId} {args : Array Value} {below : List Frame} {meth : Method} {c : Code} {Q : State → Prop} {D : va_G} {ad : Nat → Nat} {cI cZ : ClassId} {A : Nat → Prop} (F : CallFix p m c qb_M_order 6 s args qtb "CaptureSubtypesModel") (hR : 1 ≤ R.frames ∧ 22 ≤ R.locals) (hK : va_K D qcl [(cI, .int), (cZ, .boolean)] s) (hN : qnests mns s) (hA : ∀ q, s.heap.size ≤ q → A q) {res : (Nat → Nat → Int32)} (hQ : ∀ (H : Heap) (locs : List Loc) (pc : Nat) (ls : Array Slot), decode qb_M_order pc = .ok (.return_, 1) → mW D ad cI cZ A s.heap res H locs → W p l e R s m args below meth c H locs 0 0 Q (F0 m pc ls [])) {k_2 : (Nat → Nat → Int32) → Int32 → Option (Nat → Nat → Int32)} (hk_2 : ∀ (S : Nat → Nat → Int32) (v1 : Int32), k_2 S v1 = some res → ∀ {H : Heap} {locs : List Loc} {ls : Array Slot}, mW D ad cI cZ A s.heap S H locs → lv_has ls 6 [(0, .ref (ad 0)), (1, .int v1)] → W p l e R s m args below meth c H locs 0 0 Q (F0 m 2 ls [])) {k_12 : (Nat → Nat → Int32) → Int32 → Int32 → Option (Nat → Nat → Int32)} (hk_12 : ∀ (S : Nat → Nat → Int32) (v1 v2 : Int32), k_12 S v1 v2 = some res → ∀ {H : Heap} {locs : List Loc} {ls : Array Slot}, mW D ad cI cZ A s.heap S H locs → lv_has ls 6 [(0, .ref (ad 0)), (1, .int v1), (2, .int v2)] → W p l e R s m args below meth c H locs 0 0 Q (F0 m 12 ls [])) (S : (Nat → Nat → Int32)) (v1 v2 : Int32) (hM : fb_M_order_12 k_2 k_12 S v1 v2 = some res) {H : Heap} {locs : List Loc} {ls : Array Slot} (w : mW D ad cI cZ A s.heap S H locs) (hl : lv_has ls 6 [(0, .ref (ad 0)), (1, .int v1), (2, .int v2)]) : W p l e R s m args below meth c H locs 0 0 Q (F0 m 12 ls []) := by
  unfold fb_M_order_12 at hM
  refine lv_iload_n F.1 F.2.1 qd_M_order_12 rfl (lv_at hl 2 rfl) ?_
  refine lv_aload_n F.1 F.2.1 qd_M_order_13 rfl (lv_at hl 0 rfl) ?_
  refine mg_M_classes F hK w qk_655 qd_M_order_14 ?_
  refine lv_icmp_ge (tgt := 117) F.1 F.2.1 qd_M_order_17 (by decide) (fun hc1 => ?_) (fun hc1 => ?_)
  · rw [if_pos hc1] at hM
    refine lv_iinc (v := (v1 + (1 : Int32))) (lv' := [(1, .int (v1 + (1 : Int32))), (0, .ref (ad 0)), (2, .int v2)]) F.1 F.2.1 qd_M_order_117 hl (k := 1) rfl rfl (by decide) rfl (fun ls hl => ?_)
    refine lv_goto (tgt := 2) F.1 F.2.1 qd_M_order_120 (by decide) ?_
    exact hk_2 _ _ hM w (lv_sub hl [1, 0] rfl)
  · rw [if_neg hc1] at hM
    refine lv_iload_n F.1 F.2.1 qd_M_order_20 rfl (lv_at hl 1 rfl) ?_
    refine lv_iload_n F.1 F.2.1 qd_M_order_21 rfl (lv_at hl 2 rfl) ?_
    refine lv_icmp_eq (tgt := 29) F.1 F.2.1 qd_M_order_22 (by decide) (fun hc2 => ?_) (fun hc2 => ?_)
    · rw [if_pos hc2] at hM
      refine lv_iconst (v := 1) F.1 F.2.1 qd_M_order_29 (by decide) ?_
      refine lv_goto (tgt := 34) F.1 F.2.1 qd_M_order_30 (by decide) ?_
      refine lv_istore_n (lv' := [(3, .int (1 : Int32)), (0, .ref (ad 0)), (1, .int v1), (2, .int v2)]) F.1 F.2.1 qd_M_order_34 rfl hl (by decide) rfl (fun ls hl => ?_)
      refine lv_iconst (v := 0) F.1 F.2.1 qd_M_order_35 (by decide) ?_
      refine lv_istore (lv' := [(4, .int (0 : Int32)), (3, .int (1 : Int32)), (0, .ref (ad 0)), (1, .int v1), (2, .int v2)]) F.1 F.2.1 qd_M_order_36 hl (by decide) rfl (fun ls hl => ?_)
      exact t_M_order_38 F hR hK hN hA hQ hk_2 hk_12 qfu _ _ _ _ _ hM w (lv_sub hl [2, 3, 4, 1, 0] rfl)
    · rw [if_neg hc2] at hM
      refine lv_iload_n F.1 F.2.1 qd_M_order_25 rfl (lv_at hl 2 rfl) ?_
      refine lv_if_ne (tgt := 33) F.1 F.2.1 qd_M_order_26 (by decide) (fun hc3 => ?_) (fun hc3 => ?_)
      · rw [if_neg hc3] at hM
        refine lv_iconst (v := 0) F.1 F.2.1 qd_M_order_33 (by decide) ?_
        refine lv_istore_n (lv' := [(3, .int (0 : Int32)), (0, .ref (ad 0)), (1, .int v1), (2, .int v2)]) F.1 F.2.1 qd_M_order_34 rfl hl (by decide) rfl (fun ls hl => ?_)
        refine lv_iconst (v := 0) F.1 F.2.1 qd_M_order_35 (by decide) ?_
        refine lv_istore (lv' := [(4, .int (0 : Int32)), (3, .int (0 : Int32)), (0, .ref (ad 0)), (1, .int v1), (2, .int v2)]) F.1 F.2.1 qd_M_order_36 hl (by decide) rfl (fun ls hl => ?_)
        exact t_M_order_38 F hR hK hN hA hQ hk_2 hk_12 qfu _ _ _ _ _ hM w (lv_sub hl [2, 3, 4, 1, 0] rfl)
      · rw [if_pos hc3] at hM
        refine lv_iconst (v := 1) F.1 F.2.1 qd_M_order_29 (by decide) ?_
        refine lv_goto (tgt := 34) F.1 F.2.1 qd_M_order_30 (by decide) ?_
        refine lv_istore_n (lv' := [(3, .int (1 : Int32)), (0, .ref (ad 0)), (1, .int v1), (2, .int v2)]) F.1 F.2.1 qd_M_order_34 rfl hl (by decide) rfl (fun ls hl => ?_)
        refine lv_iconst (v := 0) F.1 F.2.1 qd_M_order_35 (by decide) ?_
        refine lv_istore (lv' := [(4, .int (0 : Int32)), (3, .int (1 : Int32)), (0, .ref (ad 0)), (1, .int v1), (2, .int v2)]) F.1 F.2.1 qd_M_order_36 hl (by decide) rfl (fun ls hl => ?_)
        exact t_M_order_38 F hR hK hN hA hQ hk_2 hk_12 qfu _ _ _ _ _ hM w (lv_sub hl [2, 3, 4, 1, 0] rfl)
set_option maxRecDepth 100000 in
set_option maxHeartbeats 4000000 in
theorem t_M_order_12 {p : Program} {l : Launch} {e : Env} {R : Room} {s : State} {m : MethodId} {args : Array Value} {below : List Frame} {meth : Method} {c : Code} {Q : State → Prop} {D : va_G} {ad : Nat → Nat} {cI cZ : ClassId} {A : Nat → Prop} (F : CallFix p m c qb_M_order 6 s args qtb "CaptureSubtypesModel") (hR : 1 ≤ R.frames ∧ 22 ≤ R.locals) (hK : va_K D qcl [(cI, .int), (cZ, .boolean)] s) (hN : qnests mns s) (hA : ∀ q, s.heap.size ≤ q → A q) {res : (Nat → Nat → Int32)} (hQ : ∀ (H : Heap) (locs : List Loc) (pc : Nat) (ls : Array Slot), decode qb_M_order pc = .ok (.return_, 1) → mW D ad cI cZ A s.heap res H locs → W p l e R s m args below meth c H locs 0 0 Q (F0 m pc ls [])) {k_2 : (Nat → Nat → Int32) → Int32 → Option (Nat → Nat → Int32)} (hk_2 : ∀ (S : Nat → Nat → Int32) (v1 : Int32), k_2 S v1 = some res → ∀ {H : Heap} {locs : List Loc} {ls : Array Slot}, mW D ad cI cZ A s.heap S H locs → lv_has ls 6 [(0, .ref (ad 0)), (1, .int v1)] → W p l e R s m args below meth c H locs 0 0 Q (F0 m 2 ls [])) : ∀ (n : Nat) (S : (Nat → Nat → Int32)) (v1 v2 : Int32) (hM : f_M_order_12 k_2 n S v1 v2 = some res) {H : Heap} {locs : List Loc} {ls : Array Slot} (w : mW D ad cI cZ A s.heap S H locs) (hl : lv_has ls 6 [(0, .ref (ad 0)), (1, .int v1), (2, .int v2)]), W p l e R s m args below meth c H locs 0 0 Q (F0 m 12 ls []) := by
  intro n
  induction n with
  | zero => intro S v1 v2 hM; exact absurd hM (by simp [f_M_order_12])
  | succ n ih => intro S v1 v2 hM H locs ls w hl; exact tb_M_order_12 F hR hK hN hA hQ hk_2 (k_12 := f_M_order_12 k_2 n) (fun S v1 v2 hM H locs ls w hl => ih S v1 v2 hM w hl) S v1 v2 hM w hl
set_option maxRecDepth 100000 in
set_option maxHeartbeats 4000000 in
theorem tb_M_order_2 {p : Program} {l : Launch} {e : Env} {R : Room} {s : State} {m : MethodId} {args : Array Value} {below : List Frame} {meth : Method} {c : Code} {Q : State → Prop} {D : va_G} {ad : Nat → Nat} {cI cZ : ClassId} {A : Nat → Prop} (F : CallFix p m c qb_M_order 6 s args qtb "CaptureSubtypesModel") (hR : 1 ≤ R.frames ∧ 22 ≤ R.locals) (hK : va_K D qcl [(cI, .int), (cZ, .boolean)] s) (hN : qnests mns s) (hA : ∀ q, s.heap.size ≤ q → A q) {res : (Nat → Nat → Int32)} (hQ : ∀ (H : Heap) (locs : List Loc) (pc : Nat) (ls : Array Slot), decode qb_M_order pc = .ok (.return_, 1) → mW D ad cI cZ A s.heap res H locs → W p l e R s m args below meth c H locs 0 0 Q (F0 m pc ls [])) {k_2 : (Nat → Nat → Int32) → Int32 → Option (Nat → Nat → Int32)} (hk_2 : ∀ (S : Nat → Nat → Int32) (v1 : Int32), k_2 S v1 = some res → ∀ {H : Heap} {locs : List Loc} {ls : Array Slot}, mW D ad cI cZ A s.heap S H locs → lv_has ls 6 [(0, .ref (ad 0)), (1, .int v1)] → W p l e R s m args below meth c H locs 0 0 Q (F0 m 2 ls [])) (S : (Nat → Nat → Int32)) (v1 : Int32) (hM : fb_M_order_2 k_2 S v1 = some res) {H : Heap} {locs : List Loc} {ls : Array Slot} (w : mW D ad cI cZ A s.heap S H locs) (hl : lv_has ls 6 [(0, .ref (ad 0)), (1, .int v1)]) : W p l e R s m args below meth c H locs 0 0 Q (F0 m 2 ls []) := by
  unfold fb_M_order_2 at hM
  refine lv_iload_n F.1 F.2.1 qd_M_order_2 rfl (lv_at hl 1 rfl) ?_
  refine lv_aload_n F.1 F.2.1 qd_M_order_3 rfl (lv_at hl 0 rfl) ?_
  refine mg_M_classes F hK w qk_655 qd_M_order_4 ?_
  refine lv_icmp_ge (tgt := 123) F.1 F.2.1 qd_M_order_7 (by decide) (fun hc1 => ?_) (fun hc1 => ?_)
  · rw [if_pos hc1] at hM
    cases hM
    exact hQ _ _ _ _ qd_M_order_123 w
  · rw [if_neg hc1] at hM
    refine lv_iconst (v := 0) F.1 F.2.1 qd_M_order_10 (by decide) ?_
    refine lv_istore_n (lv' := [(2, .int (0 : Int32)), (0, .ref (ad 0)), (1, .int v1)]) F.1 F.2.1 qd_M_order_11 rfl hl (by decide) rfl (fun ls hl => ?_)
    exact t_M_order_12 F hR hK hN hA hQ hk_2 qfu _ _ _ hM w (lv_sub hl [1, 2, 0] rfl)
set_option maxRecDepth 100000 in
set_option maxHeartbeats 4000000 in
theorem t_M_order_2 {p : Program} {l : Launch} {e : Env} {R : Room} {s : State} {m : MethodId} {args : Array Value} {below : List Frame} {meth : Method} {c : Code} {Q : State → Prop} {D : va_G} {ad : Nat → Nat} {cI cZ : ClassId} {A : Nat → Prop} (F : CallFix p m c qb_M_order 6 s args qtb "CaptureSubtypesModel") (hR : 1 ≤ R.frames ∧ 22 ≤ R.locals) (hK : va_K D qcl [(cI, .int), (cZ, .boolean)] s) (hN : qnests mns s) (hA : ∀ q, s.heap.size ≤ q → A q) {res : (Nat → Nat → Int32)} (hQ : ∀ (H : Heap) (locs : List Loc) (pc : Nat) (ls : Array Slot), decode qb_M_order pc = .ok (.return_, 1) → mW D ad cI cZ A s.heap res H locs → W p l e R s m args below meth c H locs 0 0 Q (F0 m pc ls [])) : ∀ (n : Nat) (S : (Nat → Nat → Int32)) (v1 : Int32) (hM : f_M_order_2 n S v1 = some res) {H : Heap} {locs : List Loc} {ls : Array Slot} (w : mW D ad cI cZ A s.heap S H locs) (hl : lv_has ls 6 [(0, .ref (ad 0)), (1, .int v1)]), W p l e R s m args below meth c H locs 0 0 Q (F0 m 2 ls []) := by
  intro n
  induction n with
  | zero => intro S v1 hM; exact absurd hM (by simp [f_M_order_2])
  | succ n ih => intro S v1 hM H locs ls w hl; exact tb_M_order_2 F hR hK hN hA hQ (k_2 := f_M_order_2 n) (fun S v1 hM H locs ls w hl => ih S v1 hM w hl) S v1 hM w hl
set_option maxRecDepth 100000 in
set_option maxHeartbeats 4000000 in
theorem t_M_order {p : Program} {l : Launch} {e : Env} {R : Room} {s : State} {m : MethodId} {args : Array Value} {below : List Frame} {meth : Method} {c : Code} {Q : State → Prop} {D : va_G} {ad : Nat → Nat} {cI cZ : ClassId} {A : Nat → Prop} (F : CallFix p m c qb_M_order 6 s args qtb "CaptureSubtypesModel") (hR : 1 ≤ R.frames ∧ 22 ≤ R.locals) (hK : va_K D qcl [(cI, .int), (cZ, .boolean)] s) (hN : qnests mns s) (hA : ∀ q, s.heap.size ≤ q → A q) {res : (Nat → Nat → Int32)} (hQ : ∀ (H : Heap) (locs : List Loc) (pc : Nat) (ls : Array Slot), decode qb_M_order pc = .ok (.return_, 1) → mW D ad cI cZ A s.heap res H locs → W p l e R s m args below meth c H locs 0 0 Q (F0 m pc ls [])) (S : (Nat → Nat → Int32)) (hM : f_M_order S  = some res) {H : Heap} {locs : List Loc} {ls : Array Slot} (w : mW D ad cI cZ A s.heap S H locs) (hl : lv_has ls 6 [(0, .ref (ad 0))]) : W p l e R s m args below meth c H locs 0 0 Q (F0 m 0 ls []) := by
  unfold f_M_order at hM
  refine lv_iconst (v := 0) F.1 F.2.1 qd_M_order_0 (by decide) ?_
  refine lv_istore_n (lv' := [(1, .int (0 : Int32)), (0, .ref (ad 0))]) F.1 F.2.1 qd_M_order_1 rfl hl (by decide) rfl (fun ls hl => ?_)
  exact t_M_order_2 F hR hK hN hA hQ  qfu _ _ hM w (lv_sub hl [1, 0] rfl)
set_option maxRecDepth 100000 in
theorem c_M_order (l : Launch) (D : va_G) (ad : Nat → Nat) (cI cZ : ClassId) {S : (Nat → Nat → Int32)} {res : (Nat → Nat → Int32)} (hM : f_M_order S  = some res) : mMv l qy_M_order qb_M_order 6 none { frames := 1, cells := 0, slots := 0, locals := 22 } D ad cI cZ S [.ref (ad 0)] res := m_ofv (by decide +kernel) (Nat.le_of_ble_eq_true rfl) (fun p e s m args below meth c Q A ls F hK hN hA w hl hQ => t_M_order F ⟨Nat.le_refl _, Nat.le_refl _⟩ hK hN hA hQ S  hM w hl)
-- M_isHeir
def fb_M_isHeir_5 (k_5 : (Nat → Nat → Int32) → Int32 → Int32 → Int32 → Int32 → Option Bool) (S : (Nat → Nat → Int32)) (v1 v2 v3 v4 : Int32) : Option Bool := (f_M_superCount S v1).bind (fun q1 => if q1 ≤ v4 then (qck (q01 v3) (some (decide (v3 = 1)))) else ((f_M_superOf S v1 v4).bind (fun q4 => if v3 = 0 then (if q4 = (-1 : Int32) then (k_5 S v1 v2 (0 : Int32) (v4 + (1 : Int32))) else (qck (qin q4 9000) (if (S 10 q4.toNatClampNeg) = v2 then (k_5 S v1 v2 (1 : Int32) (v4 + (1 : Int32))) else (k_5 S v1 v2 (0 : Int32) (v4 + (1 : Int32)))))) else (k_5 S v1 v2 (1 : Int32) (v4 + (1 : Int32))))))
def f_M_isHeir_5 : Nat → (Nat → Nat → Int32) → Int32 → Int32 → Int32 → Int32 → Option Bool
  | 0 => fun _ _ _ _ _ => none
  | n + 1 => fun S v1 v2 v3 v4 => fb_M_isHeir_5 (f_M_isHeir_5 n) S v1 v2 v3 v4
def f_M_isHeir (S : (Nat → Nat → Int32)) (a1 a2 : Int32) : Option Bool := f_M_isHeir_5  qfu S a1 a2 (0 : Int32) (0 : Int32)
set_option maxRecDepth 100000 in
set_option maxHeartbeats 4000000 in
theorem tb_M_isHeir_5 {p : Program} {l : Launch} {e : Env} {R : Room} {s : State} {m : MethodId} {args : Array Value} {below : List Frame} {meth : Method} {c : Code} {Q : State → Prop} {D : va_G} {ad : Nat → Nat} {cI cZ : ClassId} {A : Nat → Prop} (F : CallFix p m c qb_M_isHeir 6 s args qtb "CaptureSubtypesModel") (hR : 1 ≤ R.frames ∧ 22 ≤ R.locals) (hK : va_K D qcl [(cI, .int), (cZ, .boolean)] s) (hN : qnests mns s) (hA : ∀ q, s.heap.size ≤ q → A q) {res : Bool} {S : (Nat → Nat → Int32)} (hQ : ∀ (H : Heap) (locs : List Loc) (pc : Nat) (ls : Array Slot), decode qb_M_isHeir pc = .ok (.ireturn, 1) → mW D ad cI cZ A s.heap S H locs → W p l e R s m args below meth c H locs 0 0 Q (F0 m pc ls [.int (qB res)])) {k_5 : (Nat → Nat → Int32) → Int32 → Int32 → Int32 → Int32 → Option Bool} (hk_5 : ∀  (v1 v2 v3 v4 : Int32), k_5 S v1 v2 v3 v4 = some res → ∀ {H : Heap} {locs : List Loc} {ls : Array Slot}, mW D ad cI cZ A s.heap S H locs → lv_has ls 6 [(0, .ref (ad 0)), (1, .int v1), (2, .int v2), (3, .int v3), (4, .int v4)] → W p l e R s m args below meth c H locs 0 0 Q (F0 m 5 ls [])) (v1 v2 v3 v4 : Int32) (hM : fb_M_isHeir_5 k_5 S v1 v2 v3 v4 = some res) {H : Heap} {locs : List Loc} {ls : Array Slot} (w : mW D ad cI cZ A s.heap S H locs) (hl : lv_has ls 6 [(0, .ref (ad 0)), (1, .int v1), (2, .int v2), (3, .int v3), (4, .int v4)]) : W p l e R s m args below meth c H locs 0 0 Q (F0 m 5 ls []) := by
  unfold fb_M_isHeir_5 at hM
  refine lv_iload F.1 F.2.1 qd_M_isHeir_5 (lv_at hl 4 rfl) ?_
  refine lv_aload_n F.1 F.2.1 qd_M_isHeir_7 rfl (lv_at hl 0 rfl) ?_
  refine lv_iload_n F.1 F.2.1 qd_M_isHeir_8 rfl (lv_at hl 1 rfl) ?_
  obtain ⟨q1, hq2, hM⟩ := qbd hM
  refine m_calli F hK hN hA w (c_M_superCount l D ad cI cZ hq2) qk_824 qk_826 qs_M_superCount qk_8 qk_827 qv_M_superCount rfl rfl ⟨Nat.le_trans (by decide) hR.1, Nat.le_trans (by decide) hR.2⟩ (ci := 6) rfl (j := 0) rfl hl.1 rfl (Nat.le_of_ble_eq_true rfl) qd_M_isHeir_9 (fun H locs w => ?_)
  refine lv_icmp_ge (tgt := 57) F.1 F.2.1 qd_M_isHeir_12 (by decide) (fun hc3 => ?_) (fun hc3 => ?_)
  · rw [if_pos hc3] at hM
    refine lv_iload_n F.1 F.2.1 qd_M_isHeir_57 rfl (lv_at hl 3 rfl) ?_
    obtain ⟨h01, hM⟩ := qck_ok hM
    cases hM
    have hz := hQ _ _ _ ls qd_M_isHeir_58 w
    rw [q01_B h01] at hz
    exact hz
  · rw [if_neg hc3] at hM
    refine lv_aload_n F.1 F.2.1 qd_M_isHeir_15 rfl (lv_at hl 0 rfl) ?_
    refine lv_iload_n F.1 F.2.1 qd_M_isHeir_16 rfl (lv_at hl 1 rfl) ?_
    refine lv_iload F.1 F.2.1 qd_M_isHeir_17 (lv_at hl 4 rfl) ?_
    obtain ⟨q4, hq5, hM⟩ := qbd hM
    refine m_calli F hK hN hA w (c_M_superOf l D ad cI cZ hq5) qk_828 qk_830 qs_M_superOf qk_8 qk_831 qv_M_superOf rfl rfl ⟨Nat.le_trans (by decide) hR.1, Nat.le_trans (by decide) hR.2⟩ (ci := 6) rfl (j := 0) rfl hl.1 rfl (Nat.le_of_ble_eq_true rfl) qd_M_isHeir_19 (fun H locs w => ?_)
    refine lv_istore (lv' := [(5, .int q4), (0, .ref (ad 0)), (1, .int v1), (2, .int v2), (3, .int v3), (4, .int v4)]) F.1 F.2.1 qd_M_isHeir_22 hl (by decide) rfl (fun ls hl => ?_)
    refine lv_iload_n F.1 F.2.1 qd_M_isHeir_24 rfl (lv_at hl 4 rfl) ?_
    refine lv_if_ne (tgt := 45) F.1 F.2.1 qd_M_isHeir_25 (by decide) (fun hc6 => ?_) (fun hc6 => ?_)
    · rw [if_neg hc6] at hM
      refine lv_iconst (v := 1) F.1 F.2.1 qd_M_isHeir_45 (by decide) ?_
      refine lv_goto (tgt := 50) F.1 F.2.1 qd_M_isHeir_46 (by decide) ?_
      refine lv_istore_n (lv' := [(3, .int (1 : Int32)), (5, .int q4), (0, .ref (ad 0)), (1, .int v1), (2, .int v2), (4, .int v4)]) F.1 F.2.1 qd_M_isHeir_50 rfl hl (by decide) rfl (fun ls hl => ?_)
      refine lv_iinc (v := (v4 + (1 : Int32))) (lv' := [(4, .int (v4 + (1 : Int32))), (3, .int (1 : Int32)), (5, .int q4), (0, .ref (ad 0)), (1, .int v1), (2, .int v2)]) F.1 F.2.1 qd_M_isHeir_51 hl (k := 5) rfl rfl (by decide) rfl (fun ls hl => ?_)
      refine lv_goto (tgt := 5) F.1 F.2.1 qd_M_isHeir_54 (by decide) ?_
      exact hk_5 _ _ _ _ hM w (lv_sub hl [3, 4, 5, 1, 0] rfl)
    · rw [if_pos hc6] at hM
      refine lv_iload F.1 F.2.1 qd_M_isHeir_28 (lv_at hl 0 rfl) ?_
      refine lv_iconst (v := (-1)) F.1 F.2.1 qd_M_isHeir_30 (by decide) ?_
      refine lv_icmp_eq (tgt := 49) F.1 F.2.1 qd_M_isHeir_31 (by decide) (fun hc7 => ?_) (fun hc7 => ?_)
      · rw [if_pos hc7] at hM
        refine lv_iconst (v := 0) F.1 F.2.1 qd_M_isHeir_49 (by decide) ?_
        refine lv_istore_n (lv' := [(3, .int (0 : Int32)), (5, .int q4), (0, .ref (ad 0)), (1, .int v1), (2, .int v2), (4, .int v4)]) F.1 F.2.1 qd_M_isHeir_50 rfl hl (by decide) rfl (fun ls hl => ?_)
        refine lv_iinc (v := (v4 + (1 : Int32))) (lv' := [(4, .int (v4 + (1 : Int32))), (3, .int (0 : Int32)), (5, .int q4), (0, .ref (ad 0)), (1, .int v1), (2, .int v2)]) F.1 F.2.1 qd_M_isHeir_51 hl (k := 5) rfl rfl (by decide) rfl (fun ls hl => ?_)
        refine lv_goto (tgt := 5) F.1 F.2.1 qd_M_isHeir_54 (by decide) ?_
        exact hk_5 _ _ _ _ hM w (lv_sub hl [3, 4, 5, 1, 0] rfl)
      · rw [if_neg hc7] at hM
        refine lv_aload_n F.1 F.2.1 qd_M_isHeir_34 rfl (lv_at hl 1 rfl) ?_
        refine mg_M_first F hK w qk_665 qd_M_isHeir_35 ?_
        refine lv_iload F.1 F.2.1 qd_M_isHeir_38 (lv_at hl 0 rfl) ?_
        obtain ⟨hi8, hM⟩ := qck_ok hM
        refine ml_M_first F hK w hi8 qd_M_isHeir_40 ?_
        refine lv_iload_n F.1 F.2.1 qd_M_isHeir_41 rfl (lv_at hl 3 rfl) ?_
        refine lv_icmp_ne (tgt := 49) F.1 F.2.1 qd_M_isHeir_42 (by decide) (fun hc9 => ?_) (fun hc9 => ?_)
        · rw [if_neg hc9] at hM
          refine lv_iconst (v := 0) F.1 F.2.1 qd_M_isHeir_49 (by decide) ?_
          refine lv_istore_n (lv' := [(3, .int (0 : Int32)), (5, .int q4), (0, .ref (ad 0)), (1, .int v1), (2, .int v2), (4, .int v4)]) F.1 F.2.1 qd_M_isHeir_50 rfl hl (by decide) rfl (fun ls hl => ?_)
          refine lv_iinc (v := (v4 + (1 : Int32))) (lv' := [(4, .int (v4 + (1 : Int32))), (3, .int (0 : Int32)), (5, .int q4), (0, .ref (ad 0)), (1, .int v1), (2, .int v2)]) F.1 F.2.1 qd_M_isHeir_51 hl (k := 5) rfl rfl (by decide) rfl (fun ls hl => ?_)
          refine lv_goto (tgt := 5) F.1 F.2.1 qd_M_isHeir_54 (by decide) ?_
          exact hk_5 _ _ _ _ hM w (lv_sub hl [3, 4, 5, 1, 0] rfl)
        · rw [if_pos hc9] at hM
          refine lv_iconst (v := 1) F.1 F.2.1 qd_M_isHeir_45 (by decide) ?_
          refine lv_goto (tgt := 50) F.1 F.2.1 qd_M_isHeir_46 (by decide) ?_
          refine lv_istore_n (lv' := [(3, .int (1 : Int32)), (5, .int q4), (0, .ref (ad 0)), (1, .int v1), (2, .int v2), (4, .int v4)]) F.1 F.2.1 qd_M_isHeir_50 rfl hl (by decide) rfl (fun ls hl => ?_)
          refine lv_iinc (v := (v4 + (1 : Int32))) (lv' := [(4, .int (v4 + (1 : Int32))), (3, .int (1 : Int32)), (5, .int q4), (0, .ref (ad 0)), (1, .int v1), (2, .int v2)]) F.1 F.2.1 qd_M_isHeir_51 hl (k := 5) rfl rfl (by decide) rfl (fun ls hl => ?_)
          refine lv_goto (tgt := 5) F.1 F.2.1 qd_M_isHeir_54 (by decide) ?_
          exact hk_5 _ _ _ _ hM w (lv_sub hl [3, 4, 5, 1, 0] rfl)
set_option maxRecDepth 100000 in
set_option maxHeartbeats 4000000 in
theorem t_M_isHeir_5 {p : Program} {l : Launch} {e : Env} {R : Room} {s : State} {m : MethodId} {args : Array Value} {below : List Frame} {meth : Method} {c : Code} {Q : State → Prop} {D : va_G} {ad : Nat → Nat} {cI cZ : ClassId} {A : Nat → Prop} (F : CallFix p m c qb_M_isHeir 6 s args qtb "CaptureSubtypesModel") (hR : 1 ≤ R.frames ∧ 22 ≤ R.locals) (hK : va_K D qcl [(cI, .int), (cZ, .boolean)] s) (hN : qnests mns s) (hA : ∀ q, s.heap.size ≤ q → A q) {res : Bool} {S : (Nat → Nat → Int32)} (hQ : ∀ (H : Heap) (locs : List Loc) (pc : Nat) (ls : Array Slot), decode qb_M_isHeir pc = .ok (.ireturn, 1) → mW D ad cI cZ A s.heap S H locs → W p l e R s m args below meth c H locs 0 0 Q (F0 m pc ls [.int (qB res)])) : ∀ (n : Nat) (v1 v2 v3 v4 : Int32) (hM : f_M_isHeir_5 n S v1 v2 v3 v4 = some res) {H : Heap} {locs : List Loc} {ls : Array Slot} (w : mW D ad cI cZ A s.heap S H locs) (hl : lv_has ls 6 [(0, .ref (ad 0)), (1, .int v1), (2, .int v2), (3, .int v3), (4, .int v4)]), W p l e R s m args below meth c H locs 0 0 Q (F0 m 5 ls []) := by
  intro n
  induction n with
  | zero => intro v1 v2 v3 v4 hM; exact absurd hM (by simp [f_M_isHeir_5])
  | succ n ih => intro v1 v2 v3 v4 hM H locs ls w hl; exact tb_M_isHeir_5 F hR hK hN hA hQ (k_5 := f_M_isHeir_5 n) (fun v1 v2 v3 v4 hM H locs ls w hl => ih v1 v2 v3 v4 hM w hl) v1 v2 v3 v4 hM w hl
set_option maxRecDepth 100000 in
set_option maxHeartbeats 4000000 in
theorem t_M_isHeir {p : Program} {l : Launch} {e : Env} {R : Room} {s : State} {m : MethodId} {args : Array Value} {below : List Frame} {meth : Method} {c : Code} {Q : State → Prop} {D : va_G} {ad : Nat → Nat} {cI cZ : ClassId} {A : Nat → Prop} (F : CallFix p m c qb_M_isHeir 6 s args qtb "CaptureSubtypesModel") (hR : 1 ≤ R.frames ∧ 22 ≤ R.locals) (hK : va_K D qcl [(cI, .int), (cZ, .boolean)] s) (hN : qnests mns s) (hA : ∀ q, s.heap.size ≤ q → A q) {res : Bool} {S : (Nat → Nat → Int32)} (hQ : ∀ (H : Heap) (locs : List Loc) (pc : Nat) (ls : Array Slot), decode qb_M_isHeir pc = .ok (.ireturn, 1) → mW D ad cI cZ A s.heap S H locs → W p l e R s m args below meth c H locs 0 0 Q (F0 m pc ls [.int (qB res)])) (a1 a2 : Int32) (hM : f_M_isHeir S a1 a2 = some res) {H : Heap} {locs : List Loc} {ls : Array Slot} (w : mW D ad cI cZ A s.heap S H locs) (hl : lv_has ls 6 [(0, .ref (ad 0)), (1, .int a1), (2, .int a2)]) : W p l e R s m args below meth c H locs 0 0 Q (F0 m 0 ls []) := by
  unfold f_M_isHeir at hM
  refine lv_iconst (v := 0) F.1 F.2.1 qd_M_isHeir_0 (by decide) ?_
  refine lv_istore_n (lv' := [(3, .int (0 : Int32)), (0, .ref (ad 0)), (1, .int a1), (2, .int a2)]) F.1 F.2.1 qd_M_isHeir_1 rfl hl (by decide) rfl (fun ls hl => ?_)
  refine lv_iconst (v := 0) F.1 F.2.1 qd_M_isHeir_2 (by decide) ?_
  refine lv_istore (lv' := [(4, .int (0 : Int32)), (3, .int (0 : Int32)), (0, .ref (ad 0)), (1, .int a1), (2, .int a2)]) F.1 F.2.1 qd_M_isHeir_3 hl (by decide) rfl (fun ls hl => ?_)
  exact t_M_isHeir_5 F hR hK hN hA hQ  qfu _ _ _ _ hM w (lv_sub hl [2, 3, 4, 1, 0] rfl)
set_option maxRecDepth 100000 in
theorem c_M_isHeir (l : Launch) (D : va_G) (ad : Nat → Nat) (cI cZ : ClassId) {S : (Nat → Nat → Int32)} {a1 a2 : Int32} {res : Bool} (hM : f_M_isHeir S a1 a2 = some res) : mMi l qy_M_isHeir qb_M_isHeir 6 (some .boolean) { frames := 1, cells := 0, slots := 0, locals := 22 } D ad cI cZ S [.ref (ad 0), .int a1, .int a2] (qB res) S := m_ofz (by decide +kernel) (Nat.le_of_ble_eq_true rfl) (fun p e s m args below meth c Q A ls F hK hN hA w hl hQ => t_M_isHeir F ⟨Nat.le_refl _, Nat.le_refl _⟩ hK hN hA hQ a1 a2 hM w hl)
-- M_known
def fb_M_known_29 (k_29 : (Nat → Nat → Int32) → Int32 → Int32 → Int32 → Int32 → Option (Int32 × (Nat → Nat → Int32))) (S : (Nat → Nat → Int32)) (v1 v2 v3 v4 : Int32) : Option (Int32 × (Nat → Nat → Int32)) := if (S 0 0) ≤ v4 then (if v2 = 0 then (qck (qin v1 12) (some ((S 1 v1.toNatClampNeg), S))) else (if v2 = (1 : Int32) then (qck (qin v1 12) (some ((S 2 v1.toNatClampNeg), S))) else (some (v3, S)))) else (if v2 = (2 : Int32) then ((f_M_isHeir S v4 v1).bind (fun q9 => if (qB q9) = 0 then (k_29 S v1 v2 (v3 + (0 : Int32)) (v4 + (1 : Int32))) else (k_29 S v1 v2 (v3 + (1 : Int32)) (v4 + (1 : Int32))))) else (qck (qin (((12 : Int32) * v4) + v1) 144) (if (S 18 (((12 : Int32) * v4) + v1).toNatClampNeg) = 0 then (k_29 S v1 v2 (v3 + (0 : Int32)) (v4 + (1 : Int32))) else (k_29 S v1 v2 (v3 + (1 : Int32)) (v4 + (1 : Int32))))))
def f_M_known_29 : Nat → (Nat → Nat → Int32) → Int32 → Int32 → Int32 → Int32 → Option (Int32 × (Nat → Nat → Int32))
  | 0 => fun _ _ _ _ _ => none
  | n + 1 => fun S v1 v2 v3 v4 => fb_M_known_29 (f_M_known_29 n) S v1 v2 v3 v4
def f_M_known (S : (Nat → Nat → Int32)) (a1 a2 : Int32) : Option (Int32 × (Nat → Nat → Int32)) := (f_M_isClass S a1).bind (fun q1 => if (qB q1) = 0 then (some ((-2 : Int32), S)) else ((f_M_isIn S a2 (0 : Int32) (3 : Int32)).bind (fun q4 => if (qB q4) = 0 then (some ((-2 : Int32), S)) else ((f_M_order S).bind (fun q7 => f_M_known_29  qfu q7 a1 a2 (0 : Int32) (0 : Int32))))))
set_option maxRecDepth 100000 in
set_option maxHeartbeats 4000000 in
theorem tb_M_known_29 {p : Program} {l : Launch} {e : Env} {R : Room} {s : State} {m : MethodId} {args : Array Value} {below : List Frame} {meth : Method} {c : Code} {Q : State → Prop} {D : va_G} {ad : Nat → Nat} {cI cZ : ClassId} {A : Nat → Prop} (F : CallFix p m c qb_M_known 5 s args qtb "CaptureSubtypesModel") (hR : 2 ≤ R.frames ∧ 47 ≤ R.locals) (hK : va_K D qcl [(cI, .int), (cZ, .boolean)] s) (hN : qnests mns s) (hA : ∀ q, s.heap.size ≤ q → A q) {res : (Int32 × (Nat → Nat → Int32))} (hQ : ∀ (H : Heap) (locs : List Loc) (pc : Nat) (ls : Array Slot), decode qb_M_known pc = .ok (.ireturn, 1) → mW D ad cI cZ A s.heap res.2 H locs → W p l e R s m args below meth c H locs 0 0 Q (F0 m pc ls [.int res.1])) {k_29 : (Nat → Nat → Int32) → Int32 → Int32 → Int32 → Int32 → Option (Int32 × (Nat → Nat → Int32))} (hk_29 : ∀ (S : Nat → Nat → Int32) (v1 v2 v3 v4 : Int32), k_29 S v1 v2 v3 v4 = some res → ∀ {H : Heap} {locs : List Loc} {ls : Array Slot}, mW D ad cI cZ A s.heap S H locs → lv_has ls 5 [(0, .ref (ad 0)), (1, .int v1), (2, .int v2), (3, .int v3), (4, .int v4)] → W p l e R s m args below meth c H locs 0 0 Q (F0 m 29 ls [])) (S : (Nat → Nat → Int32)) (v1 v2 v3 v4 : Int32) (hM : fb_M_known_29 k_29 S v1 v2 v3 v4 = some res) {H : Heap} {locs : List Loc} {ls : Array Slot} (w : mW D ad cI cZ A s.heap S H locs) (hl : lv_has ls 5 [(0, .ref (ad 0)), (1, .int v1), (2, .int v2), (3, .int v3), (4, .int v4)]) : W p l e R s m args below meth c H locs 0 0 Q (F0 m 29 ls []) := by
  unfold fb_M_known_29 at hM
  refine lv_iload F.1 F.2.1 qd_M_known_29 (lv_at hl 4 rfl) ?_
  refine lv_aload_n F.1 F.2.1 qd_M_known_31 rfl (lv_at hl 0 rfl) ?_
  refine mg_M_classes F hK w qk_655 qd_M_known_32 ?_
  refine lv_icmp_ge (tgt := 90) F.1 F.2.1 qd_M_known_35 (by decide) (fun hc1 => ?_) (fun hc1 => ?_)
  · rw [if_pos hc1] at hM
    refine lv_iload_n F.1 F.2.1 qd_M_known_90 rfl (lv_at hl 2 rfl) ?_
    refine lv_if_ne (tgt := 103) F.1 F.2.1 qd_M_known_91 (by decide) (fun hc2 => ?_) (fun hc2 => ?_)
    · rw [if_neg hc2] at hM
      refine lv_iload_n F.1 F.2.1 qd_M_known_103 rfl (lv_at hl 2 rfl) ?_
      refine lv_iconst (v := 1) F.1 F.2.1 qd_M_known_104 (by decide) ?_
      refine lv_icmp_ne (tgt := 117) F.1 F.2.1 qd_M_known_105 (by decide) (fun hc3 => ?_) (fun hc3 => ?_)
      · rw [if_neg hc3] at hM
        refine lv_iload_n F.1 F.2.1 qd_M_known_117 rfl (lv_at hl 3 rfl) ?_
        cases hM
        exact hQ _ _ _ _ qd_M_known_118 w
      · rw [if_pos hc3] at hM
        refine lv_aload_n F.1 F.2.1 qd_M_known_108 rfl (lv_at hl 0 rfl) ?_
        refine mg_M_parameters F hK w qk_657 qd_M_known_109 ?_
        refine lv_iload_n F.1 F.2.1 qd_M_known_112 rfl (lv_at hl 1 rfl) ?_
        obtain ⟨hi4, hM⟩ := qck_ok hM
        refine ml_M_parameters F hK w hi4 qd_M_known_113 ?_
        refine lv_goto (tgt := 118) F.1 F.2.1 qd_M_known_114 (by decide) ?_
        cases hM
        exact hQ _ _ _ _ qd_M_known_118 w
    · rw [if_pos hc2] at hM
      refine lv_aload_n F.1 F.2.1 qd_M_known_94 rfl (lv_at hl 0 rfl) ?_
      refine mg_M_kinds F hK w qk_656 qd_M_known_95 ?_
      refine lv_iload_n F.1 F.2.1 qd_M_known_98 rfl (lv_at hl 1 rfl) ?_
      obtain ⟨hi5, hM⟩ := qck_ok hM
      refine ml_M_kinds F hK w hi5 qd_M_known_99 ?_
      refine lv_goto (tgt := 118) F.1 F.2.1 qd_M_known_100 (by decide) ?_
      cases hM
      exact hQ _ _ _ _ qd_M_known_118 w
  · rw [if_neg hc1] at hM
    refine lv_iload_n F.1 F.2.1 qd_M_known_38 rfl (lv_at hl 3 rfl) ?_
    refine lv_iload_n F.1 F.2.1 qd_M_known_39 rfl (lv_at hl 2 rfl) ?_
    refine lv_iconst (v := 2) F.1 F.2.1 qd_M_known_40 (by decide) ?_
    refine lv_icmp_ne (tgt := 62) F.1 F.2.1 qd_M_known_41 (by decide) (fun hc6 => ?_) (fun hc6 => ?_)
    · rw [if_neg hc6] at hM
      refine lv_aload_n F.1 F.2.1 qd_M_known_62 rfl (lv_at hl 0 rfl) ?_
      refine mg_M_isBelow F hK w qk_673 qd_M_known_63 ?_
      refine lv_bipush (v := 12) F.1 F.2.1 qd_M_known_66 (by decide) ?_
      refine lv_iload F.1 F.2.1 qd_M_known_68 (lv_at hl 4 rfl) ?_
      refine lv_imul F.1 F.2.1 qd_M_known_70 ?_
      refine lv_iload_n F.1 F.2.1 qd_M_known_71 rfl (lv_at hl 1 rfl) ?_
      refine lv_iadd F.1 F.2.1 qd_M_known_72 ?_
      obtain ⟨hi7, hM⟩ := qck_ok hM
      refine ml_M_isBelow F hK w hi7 qd_M_known_73 ?_
      refine lv_if_eq (tgt := 81) F.1 F.2.1 qd_M_known_74 (by decide) (fun hc8 => ?_) (fun hc8 => ?_)
      · rw [if_pos hc8] at hM
        refine lv_iconst (v := 0) F.1 F.2.1 qd_M_known_81 (by decide) ?_
        refine lv_iadd F.1 F.2.1 qd_M_known_82 ?_
        refine lv_istore_n (lv' := [(3, .int (v3 + (0 : Int32))), (0, .ref (ad 0)), (1, .int v1), (2, .int v2), (4, .int v4)]) F.1 F.2.1 qd_M_known_83 rfl hl (by decide) rfl (fun ls hl => ?_)
        refine lv_iinc (v := (v4 + (1 : Int32))) (lv' := [(4, .int (v4 + (1 : Int32))), (3, .int (v3 + (0 : Int32))), (0, .ref (ad 0)), (1, .int v1), (2, .int v2)]) F.1 F.2.1 qd_M_known_84 hl (k := 4) rfl rfl (by decide) rfl (fun ls hl => ?_)
        refine lv_goto (tgt := 29) F.1 F.2.1 qd_M_known_87 (by decide) ?_
        exact hk_29 _ _ _ _ _ hM w (lv_sub hl [2, 3, 4, 1, 0] rfl)
      · rw [if_neg hc8] at hM
        refine lv_iconst (v := 1) F.1 F.2.1 qd_M_known_77 (by decide) ?_
        refine lv_goto (tgt := 82) F.1 F.2.1 qd_M_known_78 (by decide) ?_
        refine lv_iadd F.1 F.2.1 qd_M_known_82 ?_
        refine lv_istore_n (lv' := [(3, .int (v3 + (1 : Int32))), (0, .ref (ad 0)), (1, .int v1), (2, .int v2), (4, .int v4)]) F.1 F.2.1 qd_M_known_83 rfl hl (by decide) rfl (fun ls hl => ?_)
        refine lv_iinc (v := (v4 + (1 : Int32))) (lv' := [(4, .int (v4 + (1 : Int32))), (3, .int (v3 + (1 : Int32))), (0, .ref (ad 0)), (1, .int v1), (2, .int v2)]) F.1 F.2.1 qd_M_known_84 hl (k := 4) rfl rfl (by decide) rfl (fun ls hl => ?_)
        refine lv_goto (tgt := 29) F.1 F.2.1 qd_M_known_87 (by decide) ?_
        exact hk_29 _ _ _ _ _ hM w (lv_sub hl [2, 3, 4, 1, 0] rfl)
    · rw [if_pos hc6] at hM
      refine lv_aload_n F.1 F.2.1 qd_M_known_44 rfl (lv_at hl 0 rfl) ?_
      refine lv_iload F.1 F.2.1 qd_M_known_45 (lv_at hl 4 rfl) ?_
      refine lv_iload_n F.1 F.2.1 qd_M_known_47 rfl (lv_at hl 1 rfl) ?_
      obtain ⟨q9, hq10, hM⟩ := qbd hM
      refine m_calli F hK hN hA w (c_M_isHeir l D ad cI cZ hq10) qk_832 qk_834 qs_M_isHeir qk_8 qk_835 qv_M_isHeir rfl rfl ⟨Nat.le_trans (by decide) hR.1, Nat.le_trans (by decide) hR.2⟩ (ci := 6) rfl (j := 0) rfl hl.1 rfl (Nat.le_of_ble_eq_true rfl) qd_M_known_48 (fun H locs w => ?_)
      refine lv_if_eq (tgt := 58) F.1 F.2.1 qd_M_known_51 (by decide) (fun hc11 => ?_) (fun hc11 => ?_)
      · rw [if_pos hc11] at hM
        refine lv_iconst (v := 0) F.1 F.2.1 qd_M_known_58 (by decide) ?_
        refine lv_goto (tgt := 82) F.1 F.2.1 qd_M_known_59 (by decide) ?_
        refine lv_iadd F.1 F.2.1 qd_M_known_82 ?_
        refine lv_istore_n (lv' := [(3, .int (v3 + (0 : Int32))), (0, .ref (ad 0)), (1, .int v1), (2, .int v2), (4, .int v4)]) F.1 F.2.1 qd_M_known_83 rfl hl (by decide) rfl (fun ls hl => ?_)
        refine lv_iinc (v := (v4 + (1 : Int32))) (lv' := [(4, .int (v4 + (1 : Int32))), (3, .int (v3 + (0 : Int32))), (0, .ref (ad 0)), (1, .int v1), (2, .int v2)]) F.1 F.2.1 qd_M_known_84 hl (k := 4) rfl rfl (by decide) rfl (fun ls hl => ?_)
        refine lv_goto (tgt := 29) F.1 F.2.1 qd_M_known_87 (by decide) ?_
        exact hk_29 _ _ _ _ _ hM w (lv_sub hl [2, 3, 4, 1, 0] rfl)
      · rw [if_neg hc11] at hM
        refine lv_iconst (v := 1) F.1 F.2.1 qd_M_known_54 (by decide) ?_
        refine lv_goto (tgt := 82) F.1 F.2.1 qd_M_known_55 (by decide) ?_
        refine lv_iadd F.1 F.2.1 qd_M_known_82 ?_
        refine lv_istore_n (lv' := [(3, .int (v3 + (1 : Int32))), (0, .ref (ad 0)), (1, .int v1), (2, .int v2), (4, .int v4)]) F.1 F.2.1 qd_M_known_83 rfl hl (by decide) rfl (fun ls hl => ?_)
        refine lv_iinc (v := (v4 + (1 : Int32))) (lv' := [(4, .int (v4 + (1 : Int32))), (3, .int (v3 + (1 : Int32))), (0, .ref (ad 0)), (1, .int v1), (2, .int v2)]) F.1 F.2.1 qd_M_known_84 hl (k := 4) rfl rfl (by decide) rfl (fun ls hl => ?_)
        refine lv_goto (tgt := 29) F.1 F.2.1 qd_M_known_87 (by decide) ?_
        exact hk_29 _ _ _ _ _ hM w (lv_sub hl [2, 3, 4, 1, 0] rfl)
set_option maxRecDepth 100000 in
set_option maxHeartbeats 4000000 in
theorem t_M_known_29 {p : Program} {l : Launch} {e : Env} {R : Room} {s : State} {m : MethodId} {args : Array Value} {below : List Frame} {meth : Method} {c : Code} {Q : State → Prop} {D : va_G} {ad : Nat → Nat} {cI cZ : ClassId} {A : Nat → Prop} (F : CallFix p m c qb_M_known 5 s args qtb "CaptureSubtypesModel") (hR : 2 ≤ R.frames ∧ 47 ≤ R.locals) (hK : va_K D qcl [(cI, .int), (cZ, .boolean)] s) (hN : qnests mns s) (hA : ∀ q, s.heap.size ≤ q → A q) {res : (Int32 × (Nat → Nat → Int32))} (hQ : ∀ (H : Heap) (locs : List Loc) (pc : Nat) (ls : Array Slot), decode qb_M_known pc = .ok (.ireturn, 1) → mW D ad cI cZ A s.heap res.2 H locs → W p l e R s m args below meth c H locs 0 0 Q (F0 m pc ls [.int res.1])) : ∀ (n : Nat) (S : (Nat → Nat → Int32)) (v1 v2 v3 v4 : Int32) (hM : f_M_known_29 n S v1 v2 v3 v4 = some res) {H : Heap} {locs : List Loc} {ls : Array Slot} (w : mW D ad cI cZ A s.heap S H locs) (hl : lv_has ls 5 [(0, .ref (ad 0)), (1, .int v1), (2, .int v2), (3, .int v3), (4, .int v4)]), W p l e R s m args below meth c H locs 0 0 Q (F0 m 29 ls []) := by
  intro n
  induction n with
  | zero => intro S v1 v2 v3 v4 hM; exact absurd hM (by simp [f_M_known_29])
  | succ n ih => intro S v1 v2 v3 v4 hM H locs ls w hl; exact tb_M_known_29 F hR hK hN hA hQ (k_29 := f_M_known_29 n) (fun S v1 v2 v3 v4 hM H locs ls w hl => ih S v1 v2 v3 v4 hM w hl) S v1 v2 v3 v4 hM w hl
set_option maxRecDepth 100000 in
set_option maxHeartbeats 4000000 in
theorem t_M_known {p : Program} {l : Launch} {e : Env} {R : Room} {s : State} {m : MethodId} {args : Array Value} {below : List Frame} {meth : Method} {c : Code} {Q : State → Prop} {D : va_G} {ad : Nat → Nat} {cI cZ : ClassId} {A : Nat → Prop} (F : CallFix p m c qb_M_known 5 s args qtb "CaptureSubtypesModel") (hR : 2 ≤ R.frames ∧ 47 ≤ R.locals) (hK : va_K D qcl [(cI, .int), (cZ, .boolean)] s) (hN : qnests mns s) (hA : ∀ q, s.heap.size ≤ q → A q) {res : (Int32 × (Nat → Nat → Int32))} (hQ : ∀ (H : Heap) (locs : List Loc) (pc : Nat) (ls : Array Slot), decode qb_M_known pc = .ok (.ireturn, 1) → mW D ad cI cZ A s.heap res.2 H locs → W p l e R s m args below meth c H locs 0 0 Q (F0 m pc ls [.int res.1])) (S : (Nat → Nat → Int32)) (a1 a2 : Int32) (hM : f_M_known S a1 a2 = some res) {H : Heap} {locs : List Loc} {ls : Array Slot} (w : mW D ad cI cZ A s.heap S H locs) (hl : lv_has ls 5 [(0, .ref (ad 0)), (1, .int a1), (2, .int a2)]) : W p l e R s m args below meth c H locs 0 0 Q (F0 m 0 ls []) := by
  unfold f_M_known at hM
  refine lv_aload_n F.1 F.2.1 qd_M_known_0 rfl (lv_at hl 0 rfl) ?_
  refine lv_iload_n F.1 F.2.1 qd_M_known_1 rfl (lv_at hl 1 rfl) ?_
  obtain ⟨q1, hq2, hM⟩ := qbd hM
  refine m_calli F hK hN hA w (c_M_isClass l D ad cI cZ hq2) qk_768 qk_770 qs_M_isClass qk_8 qk_771 qv_M_isClass rfl rfl ⟨Nat.le_trans (by decide) hR.1, Nat.le_trans (by decide) hR.2⟩ (ci := 6) rfl (j := 0) rfl hl.1 rfl (Nat.le_of_ble_eq_true rfl) qd_M_known_2 (fun H locs w => ?_)
  refine lv_if_eq (tgt := 17) F.1 F.2.1 qd_M_known_5 (by decide) (fun hc3 => ?_) (fun hc3 => ?_)
  · rw [if_pos hc3] at hM
    refine lv_bipush (v := (-2)) F.1 F.2.1 qd_M_known_17 (by decide) ?_
    cases hM
    exact hQ _ _ _ _ qd_M_known_19 w
  · rw [if_neg hc3] at hM
    refine lv_iload_n F.1 F.2.1 qd_M_known_8 rfl (lv_at hl 2 rfl) ?_
    refine lv_iconst (v := 0) F.1 F.2.1 qd_M_known_9 (by decide) ?_
    refine lv_iconst (v := 3) F.1 F.2.1 qd_M_known_10 (by decide) ?_
    obtain ⟨q4, hq5, hM⟩ := qbd hM
    refine m_calliS F hK hN hA w (c_M_isIn l D ad cI cZ hq5) qk_761 qk_762 qk_8 qk_763 qv_M_isIn rfl rfl ⟨Nat.le_trans (by decide) hR.1, Nat.le_trans (by decide) hR.2⟩ hl.1 rfl (Nat.le_of_ble_eq_true rfl) qd_M_known_11 (fun H locs w => ?_)
    refine lv_if_ne (tgt := 20) F.1 F.2.1 qd_M_known_14 (by decide) (fun hc6 => ?_) (fun hc6 => ?_)
    · rw [if_neg hc6] at hM
      refine lv_aload_n F.1 F.2.1 qd_M_known_20 rfl (lv_at hl 0 rfl) ?_
      obtain ⟨q7, hq8, hM⟩ := qbd hM
      refine m_callv F hK hN hA w (c_M_order l D ad cI cZ hq8) qk_820 qk_822 qs_M_order qk_8 qk_823 qv_M_order rfl rfl ⟨Nat.le_trans (by decide) hR.1, Nat.le_trans (by decide) hR.2⟩ (ci := 6) rfl (j := 0) rfl hl.1 rfl (Nat.le_of_ble_eq_true rfl) qd_M_known_21 (fun H locs w => ?_)
      refine lv_iconst (v := 0) F.1 F.2.1 qd_M_known_24 (by decide) ?_
      refine lv_istore_n (lv' := [(3, .int (0 : Int32)), (0, .ref (ad 0)), (1, .int a1), (2, .int a2)]) F.1 F.2.1 qd_M_known_25 rfl hl (by decide) rfl (fun ls hl => ?_)
      refine lv_iconst (v := 0) F.1 F.2.1 qd_M_known_26 (by decide) ?_
      refine lv_istore (lv' := [(4, .int (0 : Int32)), (3, .int (0 : Int32)), (0, .ref (ad 0)), (1, .int a1), (2, .int a2)]) F.1 F.2.1 qd_M_known_27 hl (by decide) rfl (fun ls hl => ?_)
      exact t_M_known_29 F hR hK hN hA hQ  qfu _ _ _ _ _ hM w (lv_sub hl [2, 3, 4, 1, 0] rfl)
    · rw [if_pos hc6] at hM
      refine lv_bipush (v := (-2)) F.1 F.2.1 qd_M_known_17 (by decide) ?_
      cases hM
      exact hQ _ _ _ _ qd_M_known_19 w
set_option maxRecDepth 100000 in
theorem c_M_known (l : Launch) (D : va_G) (ad : Nat → Nat) (cI cZ : ClassId) {S : (Nat → Nat → Int32)} {a1 a2 : Int32} {res : (Int32 × (Nat → Nat → Int32))} (hM : f_M_known S a1 a2 = some res) : mMi l qy_M_known qb_M_known 5 (some .int) { frames := 2, cells := 0, slots := 0, locals := 47 } D ad cI cZ S [.ref (ad 0), .int a1, .int a2] res.1 res.2 := m_ofi (by decide +kernel) (Nat.le_of_ble_eq_true rfl) (fun p e s m args below meth c Q A ls F hK hN hA w hl hQ => t_M_known F ⟨Nat.le_refl _, Nat.le_refl _⟩ hK hN hA hQ S a1 a2 hM w hl)
-- M_below
def f_M_below (S : (Nat → Nat → Int32)) (a1 a2 : Int32) : Option (Int32 × (Nat → Nat → Int32)) := (f_M_isClass S a1).bind (fun q1 => if (qB q1) = 0 then (some ((-2 : Int32), S)) else ((f_M_isClass S a2).bind (fun q4 => if (qB q4) = 0 then (some ((-2 : Int32), S)) else ((f_M_order S).bind (fun q7 => qck (qin (((12 : Int32) * a1) + a2) 144) (if (q7 18 (((12 : Int32) * a1) + a2).toNatClampNeg) = 0 then (some ((0 : Int32), q7)) else (some ((1 : Int32), q7))))))))
set_option maxRecDepth 100000 in
set_option maxHeartbeats 4000000 in
theorem t_M_below {p : Program} {l : Launch} {e : Env} {R : Room} {s : State} {m : MethodId} {args : Array Value} {below : List Frame} {meth : Method} {c : Code} {Q : State → Prop} {D : va_G} {ad : Nat → Nat} {cI cZ : ClassId} {A : Nat → Prop} (F : CallFix p m c qb_M_below 3 s args qtb "CaptureSubtypesModel") (hR : 2 ≤ R.frames ∧ 47 ≤ R.locals) (hK : va_K D qcl [(cI, .int), (cZ, .boolean)] s) (hN : qnests mns s) (hA : ∀ q, s.heap.size ≤ q → A q) {res : (Int32 × (Nat → Nat → Int32))} (hQ : ∀ (H : Heap) (locs : List Loc) (pc : Nat) (ls : Array Slot), decode qb_M_below pc = .ok (.ireturn, 1) → mW D ad cI cZ A s.heap res.2 H locs → W p l e R s m args below meth c H locs 0 0 Q (F0 m pc ls [.int res.1])) (S : (Nat → Nat → Int32)) (a1 a2 : Int32) (hM : f_M_below S a1 a2 = some res) {H : Heap} {locs : List Loc} {ls : Array Slot} (w : mW D ad cI cZ A s.heap S H locs) (hl : lv_has ls 3 [(0, .ref (ad 0)), (1, .int a1), (2, .int a2)]) : W p l e R s m args below meth c H locs 0 0 Q (F0 m 0 ls []) := by
  unfold f_M_below at hM
  refine lv_aload_n F.1 F.2.1 qd_M_below_0 rfl (lv_at hl 0 rfl) ?_
  refine lv_iload_n F.1 F.2.1 qd_M_below_1 rfl (lv_at hl 1 rfl) ?_
  obtain ⟨q1, hq2, hM⟩ := qbd hM
  refine m_calli F hK hN hA w (c_M_isClass l D ad cI cZ hq2) qk_768 qk_770 qs_M_isClass qk_8 qk_771 qv_M_isClass rfl rfl ⟨Nat.le_trans (by decide) hR.1, Nat.le_trans (by decide) hR.2⟩ (ci := 6) rfl (j := 0) rfl hl.1 rfl (Nat.le_of_ble_eq_true rfl) qd_M_below_2 (fun H locs w => ?_)
  refine lv_if_eq (tgt := 16) F.1 F.2.1 qd_M_below_5 (by decide) (fun hc3 => ?_) (fun hc3 => ?_)
  · rw [if_pos hc3] at hM
    refine lv_bipush (v := (-2)) F.1 F.2.1 qd_M_below_16 (by decide) ?_
    cases hM
    exact hQ _ _ _ _ qd_M_below_18 w
  · rw [if_neg hc3] at hM
    refine lv_aload_n F.1 F.2.1 qd_M_below_8 rfl (lv_at hl 0 rfl) ?_
    refine lv_iload_n F.1 F.2.1 qd_M_below_9 rfl (lv_at hl 2 rfl) ?_
    obtain ⟨q4, hq5, hM⟩ := qbd hM
    refine m_calli F hK hN hA w (c_M_isClass l D ad cI cZ hq5) qk_768 qk_770 qs_M_isClass qk_8 qk_771 qv_M_isClass rfl rfl ⟨Nat.le_trans (by decide) hR.1, Nat.le_trans (by decide) hR.2⟩ (ci := 6) rfl (j := 0) rfl hl.1 rfl (Nat.le_of_ble_eq_true rfl) qd_M_below_10 (fun H locs w => ?_)
    refine lv_if_ne (tgt := 19) F.1 F.2.1 qd_M_below_13 (by decide) (fun hc6 => ?_) (fun hc6 => ?_)
    · rw [if_neg hc6] at hM
      refine lv_aload_n F.1 F.2.1 qd_M_below_19 rfl (lv_at hl 0 rfl) ?_
      obtain ⟨q7, hq8, hM⟩ := qbd hM
      refine m_callv F hK hN hA w (c_M_order l D ad cI cZ hq8) qk_820 qk_822 qs_M_order qk_8 qk_823 qv_M_order rfl rfl ⟨Nat.le_trans (by decide) hR.1, Nat.le_trans (by decide) hR.2⟩ (ci := 6) rfl (j := 0) rfl hl.1 rfl (Nat.le_of_ble_eq_true rfl) qd_M_below_20 (fun H locs w => ?_)
      refine lv_aload_n F.1 F.2.1 qd_M_below_23 rfl (lv_at hl 0 rfl) ?_
      refine mg_M_isBelow F hK w qk_673 qd_M_below_24 ?_
      refine lv_bipush (v := 12) F.1 F.2.1 qd_M_below_27 (by decide) ?_
      refine lv_iload_n F.1 F.2.1 qd_M_below_29 rfl (lv_at hl 1 rfl) ?_
      refine lv_imul F.1 F.2.1 qd_M_below_30 ?_
      refine lv_iload_n F.1 F.2.1 qd_M_below_31 rfl (lv_at hl 2 rfl) ?_
      refine lv_iadd F.1 F.2.1 qd_M_below_32 ?_
      obtain ⟨hi9, hM⟩ := qck_ok hM
      refine ml_M_isBelow F hK w hi9 qd_M_below_33 ?_
      refine lv_if_eq (tgt := 41) F.1 F.2.1 qd_M_below_34 (by decide) (fun hc10 => ?_) (fun hc10 => ?_)
      · rw [if_pos hc10] at hM
        refine lv_iconst (v := 0) F.1 F.2.1 qd_M_below_41 (by decide) ?_
        cases hM
        exact hQ _ _ _ _ qd_M_below_42 w
      · rw [if_neg hc10] at hM
        refine lv_iconst (v := 1) F.1 F.2.1 qd_M_below_37 (by decide) ?_
        refine lv_goto (tgt := 42) F.1 F.2.1 qd_M_below_38 (by decide) ?_
        cases hM
        exact hQ _ _ _ _ qd_M_below_42 w
    · rw [if_pos hc6] at hM
      refine lv_bipush (v := (-2)) F.1 F.2.1 qd_M_below_16 (by decide) ?_
      cases hM
      exact hQ _ _ _ _ qd_M_below_18 w
set_option maxRecDepth 100000 in
theorem c_M_below (l : Launch) (D : va_G) (ad : Nat → Nat) (cI cZ : ClassId) {S : (Nat → Nat → Int32)} {a1 a2 : Int32} {res : (Int32 × (Nat → Nat → Int32))} (hM : f_M_below S a1 a2 = some res) : mMi l qy_M_below qb_M_below 3 (some .int) { frames := 2, cells := 0, slots := 0, locals := 47 } D ad cI cZ S [.ref (ad 0), .int a1, .int a2] res.1 res.2 := m_ofi (by decide +kernel) (Nat.le_of_ble_eq_true rfl) (fun p e s m args below meth c Q A ls F hK hN hA w hl hQ => t_M_below F ⟨Nat.le_refl _, Nat.le_refl _⟩ hK hN hA hQ S a1 a2 hM w hl)
-- M_isSealed
def f_M_isSealed (S : (Nat → Nat → Int32)) (a1 : Int32) : Option Bool := qck (qin a1 12) (if (S 1 a1.toNatClampNeg) = (2 : Int32) then (some true) else (qck (qin a1 12) (if (S 1 a1.toNatClampNeg) = (4 : Int32) then (some true) else (some false))))
set_option maxRecDepth 100000 in
set_option maxHeartbeats 4000000 in
theorem t_M_isSealed {p : Program} {l : Launch} {e : Env} {R : Room} {s : State} {m : MethodId} {args : Array Value} {below : List Frame} {meth : Method} {c : Code} {Q : State → Prop} {D : va_G} {ad : Nat → Nat} {cI cZ : ClassId} {A : Nat → Prop} (F : CallFix p m c qb_M_isSealed 2 s args qtb "CaptureSubtypesModel") (hR : 0 ≤ R.frames ∧ 0 ≤ R.locals) (hK : va_K D qcl [(cI, .int), (cZ, .boolean)] s) (hN : qnests mns s) (hA : ∀ q, s.heap.size ≤ q → A q) {res : Bool} {S : (Nat → Nat → Int32)} (hQ : ∀ (H : Heap) (locs : List Loc) (pc : Nat) (ls : Array Slot), decode qb_M_isSealed pc = .ok (.ireturn, 1) → mW D ad cI cZ A s.heap S H locs → W p l e R s m args below meth c H locs 0 0 Q (F0 m pc ls [.int (qB res)])) (a1 : Int32) (hM : f_M_isSealed S a1 = some res) {H : Heap} {locs : List Loc} {ls : Array Slot} (w : mW D ad cI cZ A s.heap S H locs) (hl : lv_has ls 2 [(0, .ref (ad 0)), (1, .int a1)]) : W p l e R s m args below meth c H locs 0 0 Q (F0 m 0 ls []) := by
  unfold f_M_isSealed at hM
  refine lv_aload_n F.1 F.2.1 qd_M_isSealed_0 rfl (lv_at hl 0 rfl) ?_
  refine mg_M_kinds F hK w qk_656 qd_M_isSealed_1 ?_
  refine lv_iload_n F.1 F.2.1 qd_M_isSealed_4 rfl (lv_at hl 1 rfl) ?_
  obtain ⟨hi1, hM⟩ := qck_ok hM
  refine ml_M_kinds F hK w hi1 qd_M_isSealed_5 ?_
  refine lv_iconst (v := 2) F.1 F.2.1 qd_M_isSealed_6 (by decide) ?_
  refine lv_icmp_eq (tgt := 20) F.1 F.2.1 qd_M_isSealed_7 (by decide) (fun hc2 => ?_) (fun hc2 => ?_)
  · rw [if_pos hc2] at hM
    refine lv_iconst (v := 1) F.1 F.2.1 qd_M_isSealed_20 (by decide) ?_
    refine lv_goto (tgt := 25) F.1 F.2.1 qd_M_isSealed_21 (by decide) ?_
    cases hM
    exact hQ _ _ _ _ qd_M_isSealed_25 w
  · rw [if_neg hc2] at hM
    refine lv_aload_n F.1 F.2.1 qd_M_isSealed_10 rfl (lv_at hl 0 rfl) ?_
    refine mg_M_kinds F hK w qk_656 qd_M_isSealed_11 ?_
    refine lv_iload_n F.1 F.2.1 qd_M_isSealed_14 rfl (lv_at hl 1 rfl) ?_
    obtain ⟨hi3, hM⟩ := qck_ok hM
    refine ml_M_kinds F hK w hi3 qd_M_isSealed_15 ?_
    refine lv_iconst (v := 4) F.1 F.2.1 qd_M_isSealed_16 (by decide) ?_
    refine lv_icmp_ne (tgt := 24) F.1 F.2.1 qd_M_isSealed_17 (by decide) (fun hc4 => ?_) (fun hc4 => ?_)
    · rw [if_neg hc4] at hM
      refine lv_iconst (v := 0) F.1 F.2.1 qd_M_isSealed_24 (by decide) ?_
      cases hM
      exact hQ _ _ _ _ qd_M_isSealed_25 w
    · rw [if_pos hc4] at hM
      refine lv_iconst (v := 1) F.1 F.2.1 qd_M_isSealed_20 (by decide) ?_
      refine lv_goto (tgt := 25) F.1 F.2.1 qd_M_isSealed_21 (by decide) ?_
      cases hM
      exact hQ _ _ _ _ qd_M_isSealed_25 w
set_option maxRecDepth 100000 in
theorem c_M_isSealed (l : Launch) (D : va_G) (ad : Nat → Nat) (cI cZ : ClassId) {S : (Nat → Nat → Int32)} {a1 : Int32} {res : Bool} (hM : f_M_isSealed S a1 = some res) : mMi l qy_M_isSealed qb_M_isSealed 2 (some .boolean) { frames := 0, cells := 0, slots := 0, locals := 0 } D ad cI cZ S [.ref (ad 0), .int a1] (qB res) S := m_ofz (by decide +kernel) (Nat.le_of_ble_eq_true rfl) (fun p e s m args below meth c Q A ls F hK hN hA w hl hQ => t_M_isSealed F ⟨Nat.le_refl _, Nat.le_refl _⟩ hK hN hA hQ a1 hM w hl)
-- M_areHeirsApart
def fb_M_areHeirsApart_8 (k_8 : (Nat → Nat → Int32) → Int32 → Int32 → Int32 → Int32 → Int32 → Option Bool) (S : (Nat → Nat → Int32)) (v1 v2 v3 v4 v5 : Int32) : Option Bool := if (S 0 0) ≤ v5 then (qck (q01 v4) (some (decide (v4 = 1)))) else (if v4 = 0 then (k_8 S v1 v2 v3 (0 : Int32) (v5 + (1 : Int32))) else ((f_M_isHeir S v5 v1).bind (fun q3 => if (qB q3) = 0 then (k_8 S v1 v2 v3 (1 : Int32) (v5 + (1 : Int32))) else (if v3 = 0 then (qck (qin (((12 : Int32) * v2) + v5) 144) (if (S 19 (((12 : Int32) * v2) + v5).toNatClampNeg) = 0 then (k_8 S v1 v2 v3 (0 : Int32) (v5 + (1 : Int32))) else (k_8 S v1 v2 v3 (1 : Int32) (v5 + (1 : Int32))))) else (qck (qin (((12 : Int32) * v5) + v2) 144) (if (S 19 (((12 : Int32) * v5) + v2).toNatClampNeg) = 0 then (k_8 S v1 v2 v3 (0 : Int32) (v5 + (1 : Int32))) else (k_8 S v1 v2 v3 (1 : Int32) (v5 + (1 : Int32)))))))))
def f_M_areHeirsApart_8 : Nat → (Nat → Nat → Int32) → Int32 → Int32 → Int32 → Int32 → Int32 → Option Bool
  | 0 => fun _ _ _ _ _ _ => none
  | n + 1 => fun S v1 v2 v3 v4 v5 => fb_M_areHeirsApart_8 (f_M_areHeirsApart_8 n) S v1 v2 v3 v4 v5
def f_M_areHeirsApart (S : (Nat → Nat → Int32)) (a1 a2 a3 : Int32) : Option Bool := f_M_areHeirsApart_8  qfu S a1 a2 a3 (1 : Int32) (a1 + (1 : Int32))
set_option maxRecDepth 100000 in
set_option maxHeartbeats 4000000 in
theorem tb_M_areHeirsApart_8 {p : Program} {l : Launch} {e : Env} {R : Room} {s : State} {m : MethodId} {args : Array Value} {below : List Frame} {meth : Method} {c : Code} {Q : State → Prop} {D : va_G} {ad : Nat → Nat} {cI cZ : ClassId} {A : Nat → Prop} (F : CallFix p m c qb_M_areHeirsApart 6 s args qtb "CaptureSubtypesModel") (hR : 2 ≤ R.frames ∧ 47 ≤ R.locals) (hK : va_K D qcl [(cI, .int), (cZ, .boolean)] s) (hN : qnests mns s) (hA : ∀ q, s.heap.size ≤ q → A q) {res : Bool} {S : (Nat → Nat → Int32)} (hQ : ∀ (H : Heap) (locs : List Loc) (pc : Nat) (ls : Array Slot), decode qb_M_areHeirsApart pc = .ok (.ireturn, 1) → mW D ad cI cZ A s.heap S H locs → W p l e R s m args below meth c H locs 0 0 Q (F0 m pc ls [.int (qB res)])) {k_8 : (Nat → Nat → Int32) → Int32 → Int32 → Int32 → Int32 → Int32 → Option Bool} (hk_8 : ∀  (v1 v2 v3 v4 v5 : Int32), k_8 S v1 v2 v3 v4 v5 = some res → ∀ {H : Heap} {locs : List Loc} {ls : Array Slot}, mW D ad cI cZ A s.heap S H locs → lv_has ls 6 [(0, .ref (ad 0)), (1, .int v1), (2, .int v2), (3, .int v3), (4, .int v4), (5, .int v5)] → W p l e R s m args below meth c H locs 0 0 Q (F0 m 8 ls [])) (v1 v2 v3 v4 v5 : Int32) (hM : fb_M_areHeirsApart_8 k_8 S v1 v2 v3 v4 v5 = some res) {H : Heap} {locs : List Loc} {ls : Array Slot} (w : mW D ad cI cZ A s.heap S H locs) (hl : lv_has ls 6 [(0, .ref (ad 0)), (1, .int v1), (2, .int v2), (3, .int v3), (4, .int v4), (5, .int v5)]) : W p l e R s m args below meth c H locs 0 0 Q (F0 m 8 ls []) := by
  unfold fb_M_areHeirsApart_8 at hM
  refine lv_iload F.1 F.2.1 qd_M_areHeirsApart_8 (lv_at hl 5 rfl) ?_
  refine lv_aload_n F.1 F.2.1 qd_M_areHeirsApart_10 rfl (lv_at hl 0 rfl) ?_
  refine mg_M_classes F hK w qk_655 qd_M_areHeirsApart_11 ?_
  refine lv_icmp_ge (tgt := 82) F.1 F.2.1 qd_M_areHeirsApart_14 (by decide) (fun hc1 => ?_) (fun hc1 => ?_)
  · rw [if_pos hc1] at hM
    refine lv_iload F.1 F.2.1 qd_M_areHeirsApart_82 (lv_at hl 4 rfl) ?_
    obtain ⟨h01, hM⟩ := qck_ok hM
    cases hM
    have hz := hQ _ _ _ ls qd_M_areHeirsApart_84 w
    rw [q01_B h01] at hz
    exact hz
  · rw [if_neg hc1] at hM
    refine lv_iload F.1 F.2.1 qd_M_areHeirsApart_17 (lv_at hl 4 rfl) ?_
    refine lv_if_eq (tgt := 73) F.1 F.2.1 qd_M_areHeirsApart_19 (by decide) (fun hc2 => ?_) (fun hc2 => ?_)
    · rw [if_pos hc2] at hM
      refine lv_iconst (v := 0) F.1 F.2.1 qd_M_areHeirsApart_73 (by decide) ?_
      refine lv_istore (lv' := [(4, .int (0 : Int32)), (0, .ref (ad 0)), (1, .int v1), (2, .int v2), (3, .int v3), (5, .int v5)]) F.1 F.2.1 qd_M_areHeirsApart_74 hl (by decide) rfl (fun ls hl => ?_)
      refine lv_iinc (v := (v5 + (1 : Int32))) (lv' := [(5, .int (v5 + (1 : Int32))), (4, .int (0 : Int32)), (0, .ref (ad 0)), (1, .int v1), (2, .int v2), (3, .int v3)]) F.1 F.2.1 qd_M_areHeirsApart_76 hl (k := 5) rfl rfl (by decide) rfl (fun ls hl => ?_)
      refine lv_goto (tgt := 8) F.1 F.2.1 qd_M_areHeirsApart_79 (by decide) ?_
      exact hk_8 _ _ _ _ _ hM w (lv_sub hl [2, 3, 4, 5, 1, 0] rfl)
    · rw [if_neg hc2] at hM
      refine lv_aload_n F.1 F.2.1 qd_M_areHeirsApart_22 rfl (lv_at hl 0 rfl) ?_
      refine lv_iload F.1 F.2.1 qd_M_areHeirsApart_23 (lv_at hl 5 rfl) ?_
      refine lv_iload_n F.1 F.2.1 qd_M_areHeirsApart_25 rfl (lv_at hl 1 rfl) ?_
      obtain ⟨q3, hq4, hM⟩ := qbd hM
      refine m_calli F hK hN hA w (c_M_isHeir l D ad cI cZ hq4) qk_832 qk_834 qs_M_isHeir qk_8 qk_835 qv_M_isHeir rfl rfl ⟨Nat.le_trans (by decide) hR.1, Nat.le_trans (by decide) hR.2⟩ (ci := 6) rfl (j := 0) rfl hl.1 rfl (Nat.le_of_ble_eq_true rfl) qd_M_areHeirsApart_26 (fun H locs w => ?_)
      refine lv_if_eq (tgt := 69) F.1 F.2.1 qd_M_areHeirsApart_29 (by decide) (fun hc5 => ?_) (fun hc5 => ?_)
      · rw [if_pos hc5] at hM
        refine lv_iconst (v := 1) F.1 F.2.1 qd_M_areHeirsApart_69 (by decide) ?_
        refine lv_goto (tgt := 74) F.1 F.2.1 qd_M_areHeirsApart_70 (by decide) ?_
        refine lv_istore (lv' := [(4, .int (1 : Int32)), (0, .ref (ad 0)), (1, .int v1), (2, .int v2), (3, .int v3), (5, .int v5)]) F.1 F.2.1 qd_M_areHeirsApart_74 hl (by decide) rfl (fun ls hl => ?_)
        refine lv_iinc (v := (v5 + (1 : Int32))) (lv' := [(5, .int (v5 + (1 : Int32))), (4, .int (1 : Int32)), (0, .ref (ad 0)), (1, .int v1), (2, .int v2), (3, .int v3)]) F.1 F.2.1 qd_M_areHeirsApart_76 hl (k := 5) rfl rfl (by decide) rfl (fun ls hl => ?_)
        refine lv_goto (tgt := 8) F.1 F.2.1 qd_M_areHeirsApart_79 (by decide) ?_
        exact hk_8 _ _ _ _ _ hM w (lv_sub hl [2, 3, 4, 5, 1, 0] rfl)
      · rw [if_neg hc5] at hM
        refine lv_iload_n F.1 F.2.1 qd_M_areHeirsApart_32 rfl (lv_at hl 3 rfl) ?_
        refine lv_if_eq (tgt := 54) F.1 F.2.1 qd_M_areHeirsApart_33 (by decide) (fun hc6 => ?_) (fun hc6 => ?_)
        · rw [if_pos hc6] at hM
          refine lv_aload_n F.1 F.2.1 qd_M_areHeirsApart_54 rfl (lv_at hl 0 rfl) ?_
          refine mg_M_isApart F hK w qk_674 qd_M_areHeirsApart_55 ?_
          refine lv_bipush (v := 12) F.1 F.2.1 qd_M_areHeirsApart_58 (by decide) ?_
          refine lv_iload_n F.1 F.2.1 qd_M_areHeirsApart_60 rfl (lv_at hl 2 rfl) ?_
          refine lv_imul F.1 F.2.1 qd_M_areHeirsApart_61 ?_
          refine lv_iload F.1 F.2.1 qd_M_areHeirsApart_62 (lv_at hl 5 rfl) ?_
          refine lv_iadd F.1 F.2.1 qd_M_areHeirsApart_64 ?_
          obtain ⟨hi7, hM⟩ := qck_ok hM
          refine ml_M_isApart F hK w hi7 qd_M_areHeirsApart_65 ?_
          refine lv_if_eq (tgt := 73) F.1 F.2.1 qd_M_areHeirsApart_66 (by decide) (fun hc8 => ?_) (fun hc8 => ?_)
          · rw [if_pos hc8] at hM
            refine lv_iconst (v := 0) F.1 F.2.1 qd_M_areHeirsApart_73 (by decide) ?_
            refine lv_istore (lv' := [(4, .int (0 : Int32)), (0, .ref (ad 0)), (1, .int v1), (2, .int v2), (3, .int v3), (5, .int v5)]) F.1 F.2.1 qd_M_areHeirsApart_74 hl (by decide) rfl (fun ls hl => ?_)
            refine lv_iinc (v := (v5 + (1 : Int32))) (lv' := [(5, .int (v5 + (1 : Int32))), (4, .int (0 : Int32)), (0, .ref (ad 0)), (1, .int v1), (2, .int v2), (3, .int v3)]) F.1 F.2.1 qd_M_areHeirsApart_76 hl (k := 5) rfl rfl (by decide) rfl (fun ls hl => ?_)
            refine lv_goto (tgt := 8) F.1 F.2.1 qd_M_areHeirsApart_79 (by decide) ?_
            exact hk_8 _ _ _ _ _ hM w (lv_sub hl [2, 3, 4, 5, 1, 0] rfl)
          · rw [if_neg hc8] at hM
            refine lv_iconst (v := 1) F.1 F.2.1 qd_M_areHeirsApart_69 (by decide) ?_
            refine lv_goto (tgt := 74) F.1 F.2.1 qd_M_areHeirsApart_70 (by decide) ?_
            refine lv_istore (lv' := [(4, .int (1 : Int32)), (0, .ref (ad 0)), (1, .int v1), (2, .int v2), (3, .int v3), (5, .int v5)]) F.1 F.2.1 qd_M_areHeirsApart_74 hl (by decide) rfl (fun ls hl => ?_)
            refine lv_iinc (v := (v5 + (1 : Int32))) (lv' := [(5, .int (v5 + (1 : Int32))), (4, .int (1 : Int32)), (0, .ref (ad 0)), (1, .int v1), (2, .int v2), (3, .int v3)]) F.1 F.2.1 qd_M_areHeirsApart_76 hl (k := 5) rfl rfl (by decide) rfl (fun ls hl => ?_)
            refine lv_goto (tgt := 8) F.1 F.2.1 qd_M_areHeirsApart_79 (by decide) ?_
            exact hk_8 _ _ _ _ _ hM w (lv_sub hl [2, 3, 4, 5, 1, 0] rfl)
        · rw [if_neg hc6] at hM
          refine lv_aload_n F.1 F.2.1 qd_M_areHeirsApart_36 rfl (lv_at hl 0 rfl) ?_
          refine mg_M_isApart F hK w qk_674 qd_M_areHeirsApart_37 ?_
          refine lv_bipush (v := 12) F.1 F.2.1 qd_M_areHeirsApart_40 (by decide) ?_
          refine lv_iload F.1 F.2.1 qd_M_areHeirsApart_42 (lv_at hl 5 rfl) ?_
          refine lv_imul F.1 F.2.1 qd_M_areHeirsApart_44 ?_
          refine lv_iload_n F.1 F.2.1 qd_M_areHeirsApart_45 rfl (lv_at hl 2 rfl) ?_
          refine lv_iadd F.1 F.2.1 qd_M_areHeirsApart_46 ?_
          obtain ⟨hi9, hM⟩ := qck_ok hM
          refine ml_M_isApart F hK w hi9 qd_M_areHeirsApart_47 ?_
          refine lv_if_eq (tgt := 73) F.1 F.2.1 qd_M_areHeirsApart_48 (by decide) (fun hc10 => ?_) (fun hc10 => ?_)
          · rw [if_pos hc10] at hM
            refine lv_iconst (v := 0) F.1 F.2.1 qd_M_areHeirsApart_73 (by decide) ?_
            refine lv_istore (lv' := [(4, .int (0 : Int32)), (0, .ref (ad 0)), (1, .int v1), (2, .int v2), (3, .int v3), (5, .int v5)]) F.1 F.2.1 qd_M_areHeirsApart_74 hl (by decide) rfl (fun ls hl => ?_)
            refine lv_iinc (v := (v5 + (1 : Int32))) (lv' := [(5, .int (v5 + (1 : Int32))), (4, .int (0 : Int32)), (0, .ref (ad 0)), (1, .int v1), (2, .int v2), (3, .int v3)]) F.1 F.2.1 qd_M_areHeirsApart_76 hl (k := 5) rfl rfl (by decide) rfl (fun ls hl => ?_)
            refine lv_goto (tgt := 8) F.1 F.2.1 qd_M_areHeirsApart_79 (by decide) ?_
            exact hk_8 _ _ _ _ _ hM w (lv_sub hl [2, 3, 4, 5, 1, 0] rfl)
          · rw [if_neg hc10] at hM
            refine lv_goto (tgt := 69) F.1 F.2.1 qd_M_areHeirsApart_51 (by decide) ?_
            refine lv_iconst (v := 1) F.1 F.2.1 qd_M_areHeirsApart_69 (by decide) ?_
            refine lv_goto (tgt := 74) F.1 F.2.1 qd_M_areHeirsApart_70 (by decide) ?_
            refine lv_istore (lv' := [(4, .int (1 : Int32)), (0, .ref (ad 0)), (1, .int v1), (2, .int v2), (3, .int v3), (5, .int v5)]) F.1 F.2.1 qd_M_areHeirsApart_74 hl (by decide) rfl (fun ls hl => ?_)
            refine lv_iinc (v := (v5 + (1 : Int32))) (lv' := [(5, .int (v5 + (1 : Int32))), (4, .int (1 : Int32)), (0, .ref (ad 0)), (1, .int v1), (2, .int v2), (3, .int v3)]) F.1 F.2.1 qd_M_areHeirsApart_76 hl (k := 5) rfl rfl (by decide) rfl (fun ls hl => ?_)
            refine lv_goto (tgt := 8) F.1 F.2.1 qd_M_areHeirsApart_79 (by decide) ?_
            exact hk_8 _ _ _ _ _ hM w (lv_sub hl [2, 3, 4, 5, 1, 0] rfl)
set_option maxRecDepth 100000 in
set_option maxHeartbeats 4000000 in
theorem t_M_areHeirsApart_8 {p : Program} {l : Launch} {e : Env} {R : Room} {s : State} {m : MethodId} {args : Array Value} {below : List Frame} {meth : Method} {c : Code} {Q : State → Prop} {D : va_G} {ad : Nat → Nat} {cI cZ : ClassId} {A : Nat → Prop} (F : CallFix p m c qb_M_areHeirsApart 6 s args qtb "CaptureSubtypesModel") (hR : 2 ≤ R.frames ∧ 47 ≤ R.locals) (hK : va_K D qcl [(cI, .int), (cZ, .boolean)] s) (hN : qnests mns s) (hA : ∀ q, s.heap.size ≤ q → A q) {res : Bool} {S : (Nat → Nat → Int32)} (hQ : ∀ (H : Heap) (locs : List Loc) (pc : Nat) (ls : Array Slot), decode qb_M_areHeirsApart pc = .ok (.ireturn, 1) → mW D ad cI cZ A s.heap S H locs → W p l e R s m args below meth c H locs 0 0 Q (F0 m pc ls [.int (qB res)])) : ∀ (n : Nat) (v1 v2 v3 v4 v5 : Int32) (hM : f_M_areHeirsApart_8 n S v1 v2 v3 v4 v5 = some res) {H : Heap} {locs : List Loc} {ls : Array Slot} (w : mW D ad cI cZ A s.heap S H locs) (hl : lv_has ls 6 [(0, .ref (ad 0)), (1, .int v1), (2, .int v2), (3, .int v3), (4, .int v4), (5, .int v5)]), W p l e R s m args below meth c H locs 0 0 Q (F0 m 8 ls []) := by
  intro n
  induction n with
  | zero => intro v1 v2 v3 v4 v5 hM; exact absurd hM (by simp [f_M_areHeirsApart_8])
  | succ n ih => intro v1 v2 v3 v4 v5 hM H locs ls w hl; exact tb_M_areHeirsApart_8 F hR hK hN hA hQ (k_8 := f_M_areHeirsApart_8 n) (fun v1 v2 v3 v4 v5 hM H locs ls w hl => ih v1 v2 v3 v4 v5 hM w hl) v1 v2 v3 v4 v5 hM w hl
set_option maxRecDepth 100000 in
set_option maxHeartbeats 4000000 in
theorem t_M_areHeirsApart {p : Program} {l : Launch} {e : Env} {R : Room} {s : State} {m : MethodId} {args : Array Value} {below : List Frame} {meth : Method} {c : Code} {Q : State → Prop} {D : va_G} {ad : Nat → Nat} {cI cZ : ClassId} {A : Nat → Prop} (F : CallFix p m c qb_M_areHeirsApart 6 s args qtb "CaptureSubtypesModel") (hR : 2 ≤ R.frames ∧ 47 ≤ R.locals) (hK : va_K D qcl [(cI, .int), (cZ, .boolean)] s) (hN : qnests mns s) (hA : ∀ q, s.heap.size ≤ q → A q) {res : Bool} {S : (Nat → Nat → Int32)} (hQ : ∀ (H : Heap) (locs : List Loc) (pc : Nat) (ls : Array Slot), decode qb_M_areHeirsApart pc = .ok (.ireturn, 1) → mW D ad cI cZ A s.heap S H locs → W p l e R s m args below meth c H locs 0 0 Q (F0 m pc ls [.int (qB res)])) (a1 a2 a3 : Int32) (hM : f_M_areHeirsApart S a1 a2 a3 = some res) {H : Heap} {locs : List Loc} {ls : Array Slot} (w : mW D ad cI cZ A s.heap S H locs) (hl : lv_has ls 6 [(0, .ref (ad 0)), (1, .int a1), (2, .int a2), (3, .int a3)]) : W p l e R s m args below meth c H locs 0 0 Q (F0 m 0 ls []) := by
  unfold f_M_areHeirsApart at hM
  refine lv_iconst (v := 1) F.1 F.2.1 qd_M_areHeirsApart_0 (by decide) ?_
  refine lv_istore (lv' := [(4, .int (1 : Int32)), (0, .ref (ad 0)), (1, .int a1), (2, .int a2), (3, .int a3)]) F.1 F.2.1 qd_M_areHeirsApart_1 hl (by decide) rfl (fun ls hl => ?_)
  refine lv_iload_n F.1 F.2.1 qd_M_areHeirsApart_3 rfl (lv_at hl 2 rfl) ?_
  refine lv_iconst (v := 1) F.1 F.2.1 qd_M_areHeirsApart_4 (by decide) ?_
  refine lv_iadd F.1 F.2.1 qd_M_areHeirsApart_5 ?_
  refine lv_istore (lv' := [(5, .int (a1 + (1 : Int32))), (4, .int (1 : Int32)), (0, .ref (ad 0)), (1, .int a1), (2, .int a2), (3, .int a3)]) F.1 F.2.1 qd_M_areHeirsApart_6 hl (by decide) rfl (fun ls hl => ?_)
  exact t_M_areHeirsApart_8 F hR hK hN hA hQ  qfu _ _ _ _ _ hM w (lv_sub hl [2, 3, 4, 5, 1, 0] rfl)
set_option maxRecDepth 100000 in
theorem c_M_areHeirsApart (l : Launch) (D : va_G) (ad : Nat → Nat) (cI cZ : ClassId) {S : (Nat → Nat → Int32)} {a1 a2 a3 : Int32} {res : Bool} (hM : f_M_areHeirsApart S a1 a2 a3 = some res) : mMi l qy_M_areHeirsApart qb_M_areHeirsApart 6 (some .boolean) { frames := 2, cells := 0, slots := 0, locals := 47 } D ad cI cZ S [.ref (ad 0), .int a1, .int a2, .int a3] (qB res) S := m_ofz (by decide +kernel) (Nat.le_of_ble_eq_true rfl) (fun p e s m args below meth c Q A ls F hK hN hA w hl hQ => t_M_areHeirsApart F ⟨Nat.le_refl _, Nat.le_refl _⟩ hK hN hA hQ a1 a2 a3 hM w hl)
-- M_part
def f_M_part_148 (k_11 : (Nat → Nat → Int32) → Int32 → Option (Nat → Nat → Int32)) (k_22 : (Nat → Nat → Int32) → Int32 → Int32 → Option (Nat → Nat → Int32)) (S : (Nat → Nat → Int32)) (v1 v2 v3 : Int32) : Option (Nat → Nat → Int32) := qck (qin (((12 : Int32) * v1) + v2) 144) (k_22 (qwr S 19 (((12 : Int32) * v1) + v2).toNatClampNeg (vp_nar .boolean v3)) v1 (v2 + (-1 : Int32)))
def f_M_part_147 (k_11 : (Nat → Nat → Int32) → Int32 → Option (Nat → Nat → Int32)) (k_22 : (Nat → Nat → Int32) → Int32 → Int32 → Option (Nat → Nat → Int32)) (S : (Nat → Nat → Int32)) (v1 v2 s1 : Int32) : Option (Nat → Nat → Int32) := f_M_part_148 k_11 k_22 S v1 v2 s1
def f_M_part_146 (k_11 : (Nat → Nat → Int32) → Int32 → Option (Nat → Nat → Int32)) (k_22 : (Nat → Nat → Int32) → Int32 → Int32 → Option (Nat → Nat → Int32)) (S : (Nat → Nat → Int32)) (v1 v2 : Int32) : Option (Nat → Nat → Int32) := f_M_part_147 k_11 k_22 S v1 v2 (0 : Int32)
def f_M_part_142 (k_11 : (Nat → Nat → Int32) → Int32 → Option (Nat → Nat → Int32)) (k_22 : (Nat → Nat → Int32) → Int32 → Int32 → Option (Nat → Nat → Int32)) (S : (Nat → Nat → Int32)) (v1 v2 : Int32) : Option (Nat → Nat → Int32) := f_M_part_147 k_11 k_22 S v1 v2 (1 : Int32)
def f_M_part_124 (k_11 : (Nat → Nat → Int32) → Int32 → Option (Nat → Nat → Int32)) (k_22 : (Nat → Nat → Int32) → Int32 → Int32 → Option (Nat → Nat → Int32)) (S : (Nat → Nat → Int32)) (v1 v2 : Int32) : Option (Nat → Nat → Int32) := (f_M_isSealed S v2).bind (fun q1 => if (qB q1) = 0 then (f_M_part_146 k_11 k_22 S v1 v2) else ((f_M_areHeirsApart S v2 v1 (0 : Int32)).bind (fun q4 => if (qB q4) = 0 then (f_M_part_146 k_11 k_22 S v1 v2) else (f_M_part_142 k_11 k_22 S v1 v2))))
def f_M_part_101 (k_11 : (Nat → Nat → Int32) → Int32 → Option (Nat → Nat → Int32)) (k_22 : (Nat → Nat → Int32) → Int32 → Int32 → Option (Nat → Nat → Int32)) (S : (Nat → Nat → Int32)) (v1 v2 s1 : Int32) : Option (Nat → Nat → Int32) := if s1 = 0 then ((f_M_isSealed S v1).bind (fun q2 => if (qB q2) = 0 then (f_M_part_124 k_11 k_22 S v1 v2) else ((f_M_areHeirsApart S v1 v2 (1 : Int32)).bind (fun q5 => if (qB q5) = 0 then (f_M_part_124 k_11 k_22 S v1 v2) else (f_M_part_142 k_11 k_22 S v1 v2))))) else (f_M_part_142 k_11 k_22 S v1 v2)
def f_M_part_96 (k_11 : (Nat → Nat → Int32) → Int32 → Option (Nat → Nat → Int32)) (k_22 : (Nat → Nat → Int32) → Int32 → Int32 → Option (Nat → Nat → Int32)) (S : (Nat → Nat → Int32)) (v1 v2 : Int32) : Option (Nat → Nat → Int32) := f_M_part_101 k_11 k_22 S v1 v2 (1 : Int32)
def f_M_part_76 (k_11 : (Nat → Nat → Int32) → Int32 → Option (Nat → Nat → Int32)) (k_22 : (Nat → Nat → Int32) → Int32 → Int32 → Option (Nat → Nat → Int32)) (S : (Nat → Nat → Int32)) (v1 v2 : Int32) : Option (Nat → Nat → Int32) := qck (qin v1 12) (if (S 1 v1.toNatClampNeg) = (1 : Int32) then (f_M_part_96 k_11 k_22 S v1 v2) else (qck (qin v2 12) (if (S 1 v2.toNatClampNeg) = (1 : Int32) then (f_M_part_96 k_11 k_22 S v1 v2) else (f_M_part_101 k_11 k_22 S v1 v2 (0 : Int32)))))
def fb_M_part_22 (k_11 : (Nat → Nat → Int32) → Int32 → Option (Nat → Nat → Int32)) (k_22 : (Nat → Nat → Int32) → Int32 → Int32 → Option (Nat → Nat → Int32)) (S : (Nat → Nat → Int32)) (v1 v2 : Int32) : Option (Nat → Nat → Int32) := if v2 < 0 then (k_11 S (v1 + (-1 : Int32))) else (qck (qin (((12 : Int32) * v1) + v2) 144) (if (S 18 (((12 : Int32) * v1) + v2).toNatClampNeg) = 0 then (qck (qin (((12 : Int32) * v2) + v1) 144) (if (S 18 (((12 : Int32) * v2) + v1).toNatClampNeg) = 0 then (qck (qin v1 12) (if (3 : Int32) ≤ (S 1 v1.toNatClampNeg) then (f_M_part_76 k_11 k_22 S v1 v2) else (qck (qin v2 12) (if (S 1 v2.toNatClampNeg) < (3 : Int32) then (f_M_part_96 k_11 k_22 S v1 v2) else (f_M_part_76 k_11 k_22 S v1 v2))))) else (f_M_part_148 k_11 k_22 S v1 v2 (0 : Int32)))) else (f_M_part_148 k_11 k_22 S v1 v2 (0 : Int32))))
def f_M_part_22 (k_11 : (Nat → Nat → Int32) → Int32 → Option (Nat → Nat → Int32)) : Nat → (Nat → Nat → Int32) → Int32 → Int32 → Option (Nat → Nat → Int32)
  | 0 => fun _ _ _ => none
  | n + 1 => fun S v1 v2 => fb_M_part_22 k_11 (f_M_part_22 k_11 n) S v1 v2
def fb_M_part_11 (k_11 : (Nat → Nat → Int32) → Int32 → Option (Nat → Nat → Int32)) (S : (Nat → Nat → Int32)) (v1 : Int32) : Option (Nat → Nat → Int32) := if v1 < 0 then (some S) else (f_M_part_22 k_11 qfu S v1 ((S 0 0) - (1 : Int32)))
def f_M_part_11 : Nat → (Nat → Nat → Int32) → Int32 → Option (Nat → Nat → Int32)
  | 0 => fun _ _ => none
  | n + 1 => fun S v1 => fb_M_part_11 (f_M_part_11 n) S v1
def f_M_part (S : (Nat → Nat → Int32)) : Option (Nat → Nat → Int32) := (f_M_order S).bind (fun q1 => f_M_part_11  qfu q1 ((q1 0 0) - (1 : Int32)))
set_option maxRecDepth 100000 in
set_option maxHeartbeats 4000000 in
theorem t_M_part_148 {p : Program} {l : Launch} {e : Env} {R : Room} {s : State} {m : MethodId} {args : Array Value} {below : List Frame} {meth : Method} {c : Code} {Q : State → Prop} {D : va_G} {ad : Nat → Nat} {cI cZ : ClassId} {A : Nat → Prop} (F : CallFix p m c qb_M_part 4 s args qtb "CaptureSubtypesModel") (hR : 3 ≤ R.frames ∧ 72 ≤ R.locals) (hK : va_K D qcl [(cI, .int), (cZ, .boolean)] s) (hN : qnests mns s) (hA : ∀ q, s.heap.size ≤ q → A q) {res : (Nat → Nat → Int32)} (hQ : ∀ (H : Heap) (locs : List Loc) (pc : Nat) (ls : Array Slot), decode qb_M_part pc = .ok (.return_, 1) → mW D ad cI cZ A s.heap res H locs → W p l e R s m args below meth c H locs 0 0 Q (F0 m pc ls [])) {k_11 : (Nat → Nat → Int32) → Int32 → Option (Nat → Nat → Int32)} {k_22 : (Nat → Nat → Int32) → Int32 → Int32 → Option (Nat → Nat → Int32)} (hk_11 : ∀ (S : Nat → Nat → Int32) (v1 : Int32), k_11 S v1 = some res → ∀ {H : Heap} {locs : List Loc} {ls : Array Slot}, mW D ad cI cZ A s.heap S H locs → lv_has ls 4 [(0, .ref (ad 0)), (1, .int v1)] → W p l e R s m args below meth c H locs 0 0 Q (F0 m 11 ls [])) (hk_22 : ∀ (S : Nat → Nat → Int32) (v1 v2 : Int32), k_22 S v1 v2 = some res → ∀ {H : Heap} {locs : List Loc} {ls : Array Slot}, mW D ad cI cZ A s.heap S H locs → lv_has ls 4 [(0, .ref (ad 0)), (1, .int v1), (2, .int v2)] → W p l e R s m args below meth c H locs 0 0 Q (F0 m 22 ls [])) (S : (Nat → Nat → Int32)) (v1 v2 v3 : Int32) (hM : f_M_part_148 k_11 k_22 S v1 v2 v3 = some res) {H : Heap} {locs : List Loc} {ls : Array Slot} (w : mW D ad cI cZ A s.heap S H locs) (hl : lv_has ls 4 [(0, .ref (ad 0)), (1, .int v1), (2, .int v2), (3, .int v3)]) : W p l e R s m args below meth c H locs 0 0 Q (F0 m 148 ls []) := by
  unfold f_M_part_148 at hM
  refine lv_aload_n F.1 F.2.1 qd_M_part_148 rfl (lv_at hl 0 rfl) ?_
  refine mg_M_isApart F hK w qk_674 qd_M_part_149 ?_
  refine lv_bipush (v := 12) F.1 F.2.1 qd_M_part_152 (by decide) ?_
  refine lv_iload_n F.1 F.2.1 qd_M_part_154 rfl (lv_at hl 1 rfl) ?_
  refine lv_imul F.1 F.2.1 qd_M_part_155 ?_
  refine lv_iload_n F.1 F.2.1 qd_M_part_156 rfl (lv_at hl 2 rfl) ?_
  refine lv_iadd F.1 F.2.1 qd_M_part_157 ?_
  refine lv_iload_n F.1 F.2.1 qd_M_part_158 rfl (lv_at hl 3 rfl) ?_
  obtain ⟨hi1, hM⟩ := qck_ok hM
  refine ms_M_isApart F hK w hi1 qd_M_part_159 (fun H locs w => ?_)
  refine lv_iinc (v := (v2 + (-1 : Int32))) (lv' := [(2, .int (v2 + (-1 : Int32))), (0, .ref (ad 0)), (1, .int v1), (3, .int v3)]) F.1 F.2.1 qd_M_part_160 hl (k := 2) rfl rfl (by decide) rfl (fun ls hl => ?_)
  refine lv_goto (tgt := 22) F.1 F.2.1 qd_M_part_163 (by decide) ?_
  exact hk_22 _ _ _ hM w (lv_sub hl [1, 2, 0] rfl)
set_option maxRecDepth 100000 in
set_option maxHeartbeats 4000000 in
theorem t_M_part_147 {p : Program} {l : Launch} {e : Env} {R : Room} {s : State} {m : MethodId} {args : Array Value} {below : List Frame} {meth : Method} {c : Code} {Q : State → Prop} {D : va_G} {ad : Nat → Nat} {cI cZ : ClassId} {A : Nat → Prop} (F : CallFix p m c qb_M_part 4 s args qtb "CaptureSubtypesModel") (hR : 3 ≤ R.frames ∧ 72 ≤ R.locals) (hK : va_K D qcl [(cI, .int), (cZ, .boolean)] s) (hN : qnests mns s) (hA : ∀ q, s.heap.size ≤ q → A q) {res : (Nat → Nat → Int32)} (hQ : ∀ (H : Heap) (locs : List Loc) (pc : Nat) (ls : Array Slot), decode qb_M_part pc = .ok (.return_, 1) → mW D ad cI cZ A s.heap res H locs → W p l e R s m args below meth c H locs 0 0 Q (F0 m pc ls [])) {k_11 : (Nat → Nat → Int32) → Int32 → Option (Nat → Nat → Int32)} {k_22 : (Nat → Nat → Int32) → Int32 → Int32 → Option (Nat → Nat → Int32)} (hk_11 : ∀ (S : Nat → Nat → Int32) (v1 : Int32), k_11 S v1 = some res → ∀ {H : Heap} {locs : List Loc} {ls : Array Slot}, mW D ad cI cZ A s.heap S H locs → lv_has ls 4 [(0, .ref (ad 0)), (1, .int v1)] → W p l e R s m args below meth c H locs 0 0 Q (F0 m 11 ls [])) (hk_22 : ∀ (S : Nat → Nat → Int32) (v1 v2 : Int32), k_22 S v1 v2 = some res → ∀ {H : Heap} {locs : List Loc} {ls : Array Slot}, mW D ad cI cZ A s.heap S H locs → lv_has ls 4 [(0, .ref (ad 0)), (1, .int v1), (2, .int v2)] → W p l e R s m args below meth c H locs 0 0 Q (F0 m 22 ls [])) (S : (Nat → Nat → Int32)) (v1 v2 s1 : Int32) (hM : f_M_part_147 k_11 k_22 S v1 v2 s1 = some res) {H : Heap} {locs : List Loc} {ls : Array Slot} (w : mW D ad cI cZ A s.heap S H locs) (hl : lv_has ls 4 [(0, .ref (ad 0)), (1, .int v1), (2, .int v2)]) : W p l e R s m args below meth c H locs 0 0 Q (F0 m 147 ls [.int s1]) := by
  unfold f_M_part_147 at hM
  refine lv_istore_n (lv' := [(3, .int s1), (0, .ref (ad 0)), (1, .int v1), (2, .int v2)]) F.1 F.2.1 qd_M_part_147 rfl hl (by decide) rfl (fun ls hl => ?_)
  exact t_M_part_148 F hR hK hN hA hQ hk_11 hk_22 _ _ _ _ hM w (lv_sub hl [1, 2, 3, 0] rfl)
set_option maxRecDepth 100000 in
set_option maxHeartbeats 4000000 in
theorem t_M_part_146 {p : Program} {l : Launch} {e : Env} {R : Room} {s : State} {m : MethodId} {args : Array Value} {below : List Frame} {meth : Method} {c : Code} {Q : State → Prop} {D : va_G} {ad : Nat → Nat} {cI cZ : ClassId} {A : Nat → Prop} (F : CallFix p m c qb_M_part 4 s args qtb "CaptureSubtypesModel") (hR : 3 ≤ R.frames ∧ 72 ≤ R.locals) (hK : va_K D qcl [(cI, .int), (cZ, .boolean)] s) (hN : qnests mns s) (hA : ∀ q, s.heap.size ≤ q → A q) {res : (Nat → Nat → Int32)} (hQ : ∀ (H : Heap) (locs : List Loc) (pc : Nat) (ls : Array Slot), decode qb_M_part pc = .ok (.return_, 1) → mW D ad cI cZ A s.heap res H locs → W p l e R s m args below meth c H locs 0 0 Q (F0 m pc ls [])) {k_11 : (Nat → Nat → Int32) → Int32 → Option (Nat → Nat → Int32)} {k_22 : (Nat → Nat → Int32) → Int32 → Int32 → Option (Nat → Nat → Int32)} (hk_11 : ∀ (S : Nat → Nat → Int32) (v1 : Int32), k_11 S v1 = some res → ∀ {H : Heap} {locs : List Loc} {ls : Array Slot}, mW D ad cI cZ A s.heap S H locs → lv_has ls 4 [(0, .ref (ad 0)), (1, .int v1)] → W p l e R s m args below meth c H locs 0 0 Q (F0 m 11 ls [])) (hk_22 : ∀ (S : Nat → Nat → Int32) (v1 v2 : Int32), k_22 S v1 v2 = some res → ∀ {H : Heap} {locs : List Loc} {ls : Array Slot}, mW D ad cI cZ A s.heap S H locs → lv_has ls 4 [(0, .ref (ad 0)), (1, .int v1), (2, .int v2)] → W p l e R s m args below meth c H locs 0 0 Q (F0 m 22 ls [])) (S : (Nat → Nat → Int32)) (v1 v2 : Int32) (hM : f_M_part_146 k_11 k_22 S v1 v2 = some res) {H : Heap} {locs : List Loc} {ls : Array Slot} (w : mW D ad cI cZ A s.heap S H locs) (hl : lv_has ls 4 [(0, .ref (ad 0)), (1, .int v1), (2, .int v2)]) : W p l e R s m args below meth c H locs 0 0 Q (F0 m 146 ls []) := by
  unfold f_M_part_146 at hM
  refine lv_iconst (v := 0) F.1 F.2.1 qd_M_part_146 (by decide) ?_
  exact t_M_part_147 F hR hK hN hA hQ hk_11 hk_22 _ _ _ _ hM w (lv_sub hl [0, 1, 2] rfl)
set_option maxRecDepth 100000 in
set_option maxHeartbeats 4000000 in
theorem t_M_part_142 {p : Program} {l : Launch} {e : Env} {R : Room} {s : State} {m : MethodId} {args : Array Value} {below : List Frame} {meth : Method} {c : Code} {Q : State → Prop} {D : va_G} {ad : Nat → Nat} {cI cZ : ClassId} {A : Nat → Prop} (F : CallFix p m c qb_M_part 4 s args qtb "CaptureSubtypesModel") (hR : 3 ≤ R.frames ∧ 72 ≤ R.locals) (hK : va_K D qcl [(cI, .int), (cZ, .boolean)] s) (hN : qnests mns s) (hA : ∀ q, s.heap.size ≤ q → A q) {res : (Nat → Nat → Int32)} (hQ : ∀ (H : Heap) (locs : List Loc) (pc : Nat) (ls : Array Slot), decode qb_M_part pc = .ok (.return_, 1) → mW D ad cI cZ A s.heap res H locs → W p l e R s m args below meth c H locs 0 0 Q (F0 m pc ls [])) {k_11 : (Nat → Nat → Int32) → Int32 → Option (Nat → Nat → Int32)} {k_22 : (Nat → Nat → Int32) → Int32 → Int32 → Option (Nat → Nat → Int32)} (hk_11 : ∀ (S : Nat → Nat → Int32) (v1 : Int32), k_11 S v1 = some res → ∀ {H : Heap} {locs : List Loc} {ls : Array Slot}, mW D ad cI cZ A s.heap S H locs → lv_has ls 4 [(0, .ref (ad 0)), (1, .int v1)] → W p l e R s m args below meth c H locs 0 0 Q (F0 m 11 ls [])) (hk_22 : ∀ (S : Nat → Nat → Int32) (v1 v2 : Int32), k_22 S v1 v2 = some res → ∀ {H : Heap} {locs : List Loc} {ls : Array Slot}, mW D ad cI cZ A s.heap S H locs → lv_has ls 4 [(0, .ref (ad 0)), (1, .int v1), (2, .int v2)] → W p l e R s m args below meth c H locs 0 0 Q (F0 m 22 ls [])) (S : (Nat → Nat → Int32)) (v1 v2 : Int32) (hM : f_M_part_142 k_11 k_22 S v1 v2 = some res) {H : Heap} {locs : List Loc} {ls : Array Slot} (w : mW D ad cI cZ A s.heap S H locs) (hl : lv_has ls 4 [(0, .ref (ad 0)), (1, .int v1), (2, .int v2)]) : W p l e R s m args below meth c H locs 0 0 Q (F0 m 142 ls []) := by
  unfold f_M_part_142 at hM
  refine lv_iconst (v := 1) F.1 F.2.1 qd_M_part_142 (by decide) ?_
  refine lv_goto (tgt := 147) F.1 F.2.1 qd_M_part_143 (by decide) ?_
  exact t_M_part_147 F hR hK hN hA hQ hk_11 hk_22 _ _ _ _ hM w (lv_sub hl [0, 1, 2] rfl)
set_option maxRecDepth 100000 in
set_option maxHeartbeats 4000000 in
theorem t_M_part_124 {p : Program} {l : Launch} {e : Env} {R : Room} {s : State} {m : MethodId} {args : Array Value} {below : List Frame} {meth : Method} {c : Code} {Q : State → Prop} {D : va_G} {ad : Nat → Nat} {cI cZ : ClassId} {A : Nat → Prop} (F : CallFix p m c qb_M_part 4 s args qtb "CaptureSubtypesModel") (hR : 3 ≤ R.frames ∧ 72 ≤ R.locals) (hK : va_K D qcl [(cI, .int), (cZ, .boolean)] s) (hN : qnests mns s) (hA : ∀ q, s.heap.size ≤ q → A q) {res : (Nat → Nat → Int32)} (hQ : ∀ (H : Heap) (locs : List Loc) (pc : Nat) (ls : Array Slot), decode qb_M_part pc = .ok (.return_, 1) → mW D ad cI cZ A s.heap res H locs → W p l e R s m args below meth c H locs 0 0 Q (F0 m pc ls [])) {k_11 : (Nat → Nat → Int32) → Int32 → Option (Nat → Nat → Int32)} {k_22 : (Nat → Nat → Int32) → Int32 → Int32 → Option (Nat → Nat → Int32)} (hk_11 : ∀ (S : Nat → Nat → Int32) (v1 : Int32), k_11 S v1 = some res → ∀ {H : Heap} {locs : List Loc} {ls : Array Slot}, mW D ad cI cZ A s.heap S H locs → lv_has ls 4 [(0, .ref (ad 0)), (1, .int v1)] → W p l e R s m args below meth c H locs 0 0 Q (F0 m 11 ls [])) (hk_22 : ∀ (S : Nat → Nat → Int32) (v1 v2 : Int32), k_22 S v1 v2 = some res → ∀ {H : Heap} {locs : List Loc} {ls : Array Slot}, mW D ad cI cZ A s.heap S H locs → lv_has ls 4 [(0, .ref (ad 0)), (1, .int v1), (2, .int v2)] → W p l e R s m args below meth c H locs 0 0 Q (F0 m 22 ls [])) (S : (Nat → Nat → Int32)) (v1 v2 : Int32) (hM : f_M_part_124 k_11 k_22 S v1 v2 = some res) {H : Heap} {locs : List Loc} {ls : Array Slot} (w : mW D ad cI cZ A s.heap S H locs) (hl : lv_has ls 4 [(0, .ref (ad 0)), (1, .int v1), (2, .int v2)]) : W p l e R s m args below meth c H locs 0 0 Q (F0 m 124 ls []) := by
  unfold f_M_part_124 at hM
  refine lv_aload_n F.1 F.2.1 qd_M_part_124 rfl (lv_at hl 0 rfl) ?_
  refine lv_iload_n F.1 F.2.1 qd_M_part_125 rfl (lv_at hl 2 rfl) ?_
  obtain ⟨q1, hq2, hM⟩ := qbd hM
  refine m_calli F hK hN hA w (c_M_isSealed l D ad cI cZ hq2) qk_848 qk_850 qs_M_isSealed qk_8 qk_851 qv_M_isSealed rfl rfl ⟨Nat.le_trans (by decide) hR.1, Nat.le_trans (by decide) hR.2⟩ (ci := 6) rfl (j := 0) rfl hl.1 rfl (Nat.le_of_ble_eq_true rfl) qd_M_part_126 (fun H locs w => ?_)
  refine lv_if_eq (tgt := 146) F.1 F.2.1 qd_M_part_129 (by decide) (fun hc3 => ?_) (fun hc3 => ?_)
  · rw [if_pos hc3] at hM
    exact t_M_part_146 F hR hK hN hA hQ hk_11 hk_22 _ _ _ hM w (lv_sub hl [0, 1, 2] rfl)
  · rw [if_neg hc3] at hM
    refine lv_aload_n F.1 F.2.1 qd_M_part_132 rfl (lv_at hl 0 rfl) ?_
    refine lv_iload_n F.1 F.2.1 qd_M_part_133 rfl (lv_at hl 2 rfl) ?_
    refine lv_iload_n F.1 F.2.1 qd_M_part_134 rfl (lv_at hl 1 rfl) ?_
    refine lv_iconst (v := 0) F.1 F.2.1 qd_M_part_135 (by decide) ?_
    obtain ⟨q4, hq5, hM⟩ := qbd hM
    refine m_calli F hK hN hA w (c_M_areHeirsApart l D ad cI cZ hq5) qk_852 qk_854 qs_M_areHeirsApart qk_8 qk_855 qv_M_areHeirsApart rfl rfl ⟨Nat.le_trans (by decide) hR.1, Nat.le_trans (by decide) hR.2⟩ (ci := 6) rfl (j := 0) rfl hl.1 rfl (Nat.le_of_ble_eq_true rfl) qd_M_part_136 (fun H locs w => ?_)
    refine lv_if_eq (tgt := 146) F.1 F.2.1 qd_M_part_139 (by decide) (fun hc6 => ?_) (fun hc6 => ?_)
    · rw [if_pos hc6] at hM
      exact t_M_part_146 F hR hK hN hA hQ hk_11 hk_22 _ _ _ hM w (lv_sub hl [0, 1, 2] rfl)
    · rw [if_neg hc6] at hM
      exact t_M_part_142 F hR hK hN hA hQ hk_11 hk_22 _ _ _ hM w (lv_sub hl [0, 1, 2] rfl)
set_option maxRecDepth 100000 in
set_option maxHeartbeats 4000000 in
theorem t_M_part_101 {p : Program} {l : Launch} {e : Env} {R : Room} {s : State} {m : MethodId} {args : Array Value} {below : List Frame} {meth : Method} {c : Code} {Q : State → Prop} {D : va_G} {ad : Nat → Nat} {cI cZ : ClassId} {A : Nat → Prop} (F : CallFix p m c qb_M_part 4 s args qtb "CaptureSubtypesModel") (hR : 3 ≤ R.frames ∧ 72 ≤ R.locals) (hK : va_K D qcl [(cI, .int), (cZ, .boolean)] s) (hN : qnests mns s) (hA : ∀ q, s.heap.size ≤ q → A q) {res : (Nat → Nat → Int32)} (hQ : ∀ (H : Heap) (locs : List Loc) (pc : Nat) (ls : Array Slot), decode qb_M_part pc = .ok (.return_, 1) → mW D ad cI cZ A s.heap res H locs → W p l e R s m args below meth c H locs 0 0 Q (F0 m pc ls [])) {k_11 : (Nat → Nat → Int32) → Int32 → Option (Nat → Nat → Int32)} {k_22 : (Nat → Nat → Int32) → Int32 → Int32 → Option (Nat → Nat → Int32)} (hk_11 : ∀ (S : Nat → Nat → Int32) (v1 : Int32), k_11 S v1 = some res → ∀ {H : Heap} {locs : List Loc} {ls : Array Slot}, mW D ad cI cZ A s.heap S H locs → lv_has ls 4 [(0, .ref (ad 0)), (1, .int v1)] → W p l e R s m args below meth c H locs 0 0 Q (F0 m 11 ls [])) (hk_22 : ∀ (S : Nat → Nat → Int32) (v1 v2 : Int32), k_22 S v1 v2 = some res → ∀ {H : Heap} {locs : List Loc} {ls : Array Slot}, mW D ad cI cZ A s.heap S H locs → lv_has ls 4 [(0, .ref (ad 0)), (1, .int v1), (2, .int v2)] → W p l e R s m args below meth c H locs 0 0 Q (F0 m 22 ls [])) (S : (Nat → Nat → Int32)) (v1 v2 s1 : Int32) (hM : f_M_part_101 k_11 k_22 S v1 v2 s1 = some res) {H : Heap} {locs : List Loc} {ls : Array Slot} (w : mW D ad cI cZ A s.heap S H locs) (hl : lv_has ls 4 [(0, .ref (ad 0)), (1, .int v1), (2, .int v2)]) : W p l e R s m args below meth c H locs 0 0 Q (F0 m 101 ls [.int s1]) := by
  unfold f_M_part_101 at hM
  refine lv_istore_n (lv' := [(3, .int s1), (0, .ref (ad 0)), (1, .int v1), (2, .int v2)]) F.1 F.2.1 qd_M_part_101 rfl hl (by decide) rfl (fun ls hl => ?_)
  refine lv_iload_n F.1 F.2.1 qd_M_part_102 rfl (lv_at hl 0 rfl) ?_
  refine lv_if_ne (tgt := 142) F.1 F.2.1 qd_M_part_103 (by decide) (fun hc1 => ?_) (fun hc1 => ?_)
  · rw [if_neg hc1] at hM
    exact t_M_part_142 F hR hK hN hA hQ hk_11 hk_22 _ _ _ hM w (lv_sub hl [1, 2, 3] rfl)
  · rw [if_pos hc1] at hM
    refine lv_aload_n F.1 F.2.1 qd_M_part_106 rfl (lv_at hl 1 rfl) ?_
    refine lv_iload_n F.1 F.2.1 qd_M_part_107 rfl (lv_at hl 2 rfl) ?_
    obtain ⟨q2, hq3, hM⟩ := qbd hM
    refine m_calli F hK hN hA w (c_M_isSealed l D ad cI cZ hq3) qk_848 qk_850 qs_M_isSealed qk_8 qk_851 qv_M_isSealed rfl rfl ⟨Nat.le_trans (by decide) hR.1, Nat.le_trans (by decide) hR.2⟩ (ci := 6) rfl (j := 0) rfl hl.1 rfl (Nat.le_of_ble_eq_true rfl) qd_M_part_108 (fun H locs w => ?_)
    refine lv_if_eq (tgt := 124) F.1 F.2.1 qd_M_part_111 (by decide) (fun hc4 => ?_) (fun hc4 => ?_)
    · rw [if_pos hc4] at hM
      exact t_M_part_124 F hR hK hN hA hQ hk_11 hk_22 _ _ _ hM w (lv_sub hl [1, 2, 3] rfl)
    · rw [if_neg hc4] at hM
      refine lv_aload_n F.1 F.2.1 qd_M_part_114 rfl (lv_at hl 1 rfl) ?_
      refine lv_iload_n F.1 F.2.1 qd_M_part_115 rfl (lv_at hl 2 rfl) ?_
      refine lv_iload_n F.1 F.2.1 qd_M_part_116 rfl (lv_at hl 3 rfl) ?_
      refine lv_iconst (v := 1) F.1 F.2.1 qd_M_part_117 (by decide) ?_
      obtain ⟨q5, hq6, hM⟩ := qbd hM
      refine m_calli F hK hN hA w (c_M_areHeirsApart l D ad cI cZ hq6) qk_852 qk_854 qs_M_areHeirsApart qk_8 qk_855 qv_M_areHeirsApart rfl rfl ⟨Nat.le_trans (by decide) hR.1, Nat.le_trans (by decide) hR.2⟩ (ci := 6) rfl (j := 0) rfl hl.1 rfl (Nat.le_of_ble_eq_true rfl) qd_M_part_118 (fun H locs w => ?_)
      refine lv_if_ne (tgt := 142) F.1 F.2.1 qd_M_part_121 (by decide) (fun hc7 => ?_) (fun hc7 => ?_)
      · rw [if_neg hc7] at hM
        exact t_M_part_142 F hR hK hN hA hQ hk_11 hk_22 _ _ _ hM w (lv_sub hl [1, 2, 3] rfl)
      · rw [if_pos hc7] at hM
        exact t_M_part_124 F hR hK hN hA hQ hk_11 hk_22 _ _ _ hM w (lv_sub hl [1, 2, 3] rfl)
set_option maxRecDepth 100000 in
set_option maxHeartbeats 4000000 in
theorem t_M_part_96 {p : Program} {l : Launch} {e : Env} {R : Room} {s : State} {m : MethodId} {args : Array Value} {below : List Frame} {meth : Method} {c : Code} {Q : State → Prop} {D : va_G} {ad : Nat → Nat} {cI cZ : ClassId} {A : Nat → Prop} (F : CallFix p m c qb_M_part 4 s args qtb "CaptureSubtypesModel") (hR : 3 ≤ R.frames ∧ 72 ≤ R.locals) (hK : va_K D qcl [(cI, .int), (cZ, .boolean)] s) (hN : qnests mns s) (hA : ∀ q, s.heap.size ≤ q → A q) {res : (Nat → Nat → Int32)} (hQ : ∀ (H : Heap) (locs : List Loc) (pc : Nat) (ls : Array Slot), decode qb_M_part pc = .ok (.return_, 1) → mW D ad cI cZ A s.heap res H locs → W p l e R s m args below meth c H locs 0 0 Q (F0 m pc ls [])) {k_11 : (Nat → Nat → Int32) → Int32 → Option (Nat → Nat → Int32)} {k_22 : (Nat → Nat → Int32) → Int32 → Int32 → Option (Nat → Nat → Int32)} (hk_11 : ∀ (S : Nat → Nat → Int32) (v1 : Int32), k_11 S v1 = some res → ∀ {H : Heap} {locs : List Loc} {ls : Array Slot}, mW D ad cI cZ A s.heap S H locs → lv_has ls 4 [(0, .ref (ad 0)), (1, .int v1)] → W p l e R s m args below meth c H locs 0 0 Q (F0 m 11 ls [])) (hk_22 : ∀ (S : Nat → Nat → Int32) (v1 v2 : Int32), k_22 S v1 v2 = some res → ∀ {H : Heap} {locs : List Loc} {ls : Array Slot}, mW D ad cI cZ A s.heap S H locs → lv_has ls 4 [(0, .ref (ad 0)), (1, .int v1), (2, .int v2)] → W p l e R s m args below meth c H locs 0 0 Q (F0 m 22 ls [])) (S : (Nat → Nat → Int32)) (v1 v2 : Int32) (hM : f_M_part_96 k_11 k_22 S v1 v2 = some res) {H : Heap} {locs : List Loc} {ls : Array Slot} (w : mW D ad cI cZ A s.heap S H locs) (hl : lv_has ls 4 [(0, .ref (ad 0)), (1, .int v1), (2, .int v2)]) : W p l e R s m args below meth c H locs 0 0 Q (F0 m 96 ls []) := by
  unfold f_M_part_96 at hM
  refine lv_iconst (v := 1) F.1 F.2.1 qd_M_part_96 (by decide) ?_
  refine lv_goto (tgt := 101) F.1 F.2.1 qd_M_part_97 (by decide) ?_
  exact t_M_part_101 F hR hK hN hA hQ hk_11 hk_22 _ _ _ _ hM w (lv_sub hl [0, 1, 2] rfl)
set_option maxRecDepth 100000 in
set_option maxHeartbeats 4000000 in
theorem t_M_part_76 {p : Program} {l : Launch} {e : Env} {R : Room} {s : State} {m : MethodId} {args : Array Value} {below : List Frame} {meth : Method} {c : Code} {Q : State → Prop} {D : va_G} {ad : Nat → Nat} {cI cZ : ClassId} {A : Nat → Prop} (F : CallFix p m c qb_M_part 4 s args qtb "CaptureSubtypesModel") (hR : 3 ≤ R.frames ∧ 72 ≤ R.locals) (hK : va_K D qcl [(cI, .int), (cZ, .boolean)] s) (hN : qnests mns s) (hA : ∀ q, s.heap.size ≤ q → A q) {res : (Nat → Nat → Int32)} (hQ : ∀ (H : Heap) (locs : List Loc) (pc : Nat) (ls : Array Slot), decode qb_M_part pc = .ok (.return_, 1) → mW D ad cI cZ A s.heap res H locs → W p l e R s m args below meth c H locs 0 0 Q (F0 m pc ls [])) {k_11 : (Nat → Nat → Int32) → Int32 → Option (Nat → Nat → Int32)} {k_22 : (Nat → Nat → Int32) → Int32 → Int32 → Option (Nat → Nat → Int32)} (hk_11 : ∀ (S : Nat → Nat → Int32) (v1 : Int32), k_11 S v1 = some res → ∀ {H : Heap} {locs : List Loc} {ls : Array Slot}, mW D ad cI cZ A s.heap S H locs → lv_has ls 4 [(0, .ref (ad 0)), (1, .int v1)] → W p l e R s m args below meth c H locs 0 0 Q (F0 m 11 ls [])) (hk_22 : ∀ (S : Nat → Nat → Int32) (v1 v2 : Int32), k_22 S v1 v2 = some res → ∀ {H : Heap} {locs : List Loc} {ls : Array Slot}, mW D ad cI cZ A s.heap S H locs → lv_has ls 4 [(0, .ref (ad 0)), (1, .int v1), (2, .int v2)] → W p l e R s m args below meth c H locs 0 0 Q (F0 m 22 ls [])) (S : (Nat → Nat → Int32)) (v1 v2 : Int32) (hM : f_M_part_76 k_11 k_22 S v1 v2 = some res) {H : Heap} {locs : List Loc} {ls : Array Slot} (w : mW D ad cI cZ A s.heap S H locs) (hl : lv_has ls 4 [(0, .ref (ad 0)), (1, .int v1), (2, .int v2)]) : W p l e R s m args below meth c H locs 0 0 Q (F0 m 76 ls []) := by
  unfold f_M_part_76 at hM
  refine lv_aload_n F.1 F.2.1 qd_M_part_76 rfl (lv_at hl 0 rfl) ?_
  refine mg_M_kinds F hK w qk_656 qd_M_part_77 ?_
  refine lv_iload_n F.1 F.2.1 qd_M_part_80 rfl (lv_at hl 1 rfl) ?_
  obtain ⟨hi1, hM⟩ := qck_ok hM
  refine ml_M_kinds F hK w hi1 qd_M_part_81 ?_
  refine lv_iconst (v := 1) F.1 F.2.1 qd_M_part_82 (by decide) ?_
  refine lv_icmp_eq (tgt := 96) F.1 F.2.1 qd_M_part_83 (by decide) (fun hc2 => ?_) (fun hc2 => ?_)
  · rw [if_pos hc2] at hM
    exact t_M_part_96 F hR hK hN hA hQ hk_11 hk_22 _ _ _ hM w (lv_sub hl [0, 1, 2] rfl)
  · rw [if_neg hc2] at hM
    refine lv_aload_n F.1 F.2.1 qd_M_part_86 rfl (lv_at hl 0 rfl) ?_
    refine mg_M_kinds F hK w qk_656 qd_M_part_87 ?_
    refine lv_iload_n F.1 F.2.1 qd_M_part_90 rfl (lv_at hl 2 rfl) ?_
    obtain ⟨hi3, hM⟩ := qck_ok hM
    refine ml_M_kinds F hK w hi3 qd_M_part_91 ?_
    refine lv_iconst (v := 1) F.1 F.2.1 qd_M_part_92 (by decide) ?_
    refine lv_icmp_ne (tgt := 100) F.1 F.2.1 qd_M_part_93 (by decide) (fun hc4 => ?_) (fun hc4 => ?_)
    · rw [if_neg hc4] at hM
      refine lv_iconst (v := 0) F.1 F.2.1 qd_M_part_100 (by decide) ?_
      exact t_M_part_101 F hR hK hN hA hQ hk_11 hk_22 _ _ _ _ hM w (lv_sub hl [0, 1, 2] rfl)
    · rw [if_pos hc4] at hM
      exact t_M_part_96 F hR hK hN hA hQ hk_11 hk_22 _ _ _ hM w (lv_sub hl [0, 1, 2] rfl)
set_option maxRecDepth 100000 in
set_option maxHeartbeats 4000000 in
theorem tb_M_part_22 {p : Program} {l : Launch} {e : Env} {R : Room} {s : State} {m : MethodId} {args : Array Value} {below : List Frame} {meth : Method} {c : Code} {Q : State → Prop} {D : va_G} {ad : Nat → Nat} {cI cZ : ClassId} {A : Nat → Prop} (F : CallFix p m c qb_M_part 4 s args qtb "CaptureSubtypesModel") (hR : 3 ≤ R.frames ∧ 72 ≤ R.locals) (hK : va_K D qcl [(cI, .int), (cZ, .boolean)] s) (hN : qnests mns s) (hA : ∀ q, s.heap.size ≤ q → A q) {res : (Nat → Nat → Int32)} (hQ : ∀ (H : Heap) (locs : List Loc) (pc : Nat) (ls : Array Slot), decode qb_M_part pc = .ok (.return_, 1) → mW D ad cI cZ A s.heap res H locs → W p l e R s m args below meth c H locs 0 0 Q (F0 m pc ls [])) {k_11 : (Nat → Nat → Int32) → Int32 → Option (Nat → Nat → Int32)} (hk_11 : ∀ (S : Nat → Nat → Int32) (v1 : Int32), k_11 S v1 = some res → ∀ {H : Heap} {locs : List Loc} {ls : Array Slot}, mW D ad cI cZ A s.heap S H locs → lv_has ls 4 [(0, .ref (ad 0)), (1, .int v1)] → W p l e R s m args below meth c H locs 0 0 Q (F0 m 11 ls [])) {k_22 : (Nat → Nat → Int32) → Int32 → Int32 → Option (Nat → Nat → Int32)} (hk_22 : ∀ (S : Nat → Nat → Int32) (v1 v2 : Int32), k_22 S v1 v2 = some res → ∀ {H : Heap} {locs : List Loc} {ls : Array Slot}, mW D ad cI cZ A s.heap S H locs → lv_has ls 4 [(0, .ref (ad 0)), (1, .int v1), (2, .int v2)] → W p l e R s m args below meth c H locs 0 0 Q (F0 m 22 ls [])) (S : (Nat → Nat → Int32)) (v1 v2 : Int32) (hM : fb_M_part_22 k_11 k_22 S v1 v2 = some res) {H : Heap} {locs : List Loc} {ls : Array Slot} (w : mW D ad cI cZ A s.heap S H locs) (hl : lv_has ls 4 [(0, .ref (ad 0)), (1, .int v1), (2, .int v2)]) : W p l e R s m args below meth c H locs 0 0 Q (F0 m 22 ls []) := by
  unfold fb_M_part_22 at hM
  refine lv_iload_n F.1 F.2.1 qd_M_part_22 rfl (lv_at hl 2 rfl) ?_
  refine lv_if_lt (tgt := 166) F.1 F.2.1 qd_M_part_23 (by decide) (fun hc1 => ?_) (fun hc1 => ?_)
  · rw [if_pos hc1] at hM
    refine lv_iinc (v := (v1 + (-1 : Int32))) (lv' := [(1, .int (v1 + (-1 : Int32))), (0, .ref (ad 0)), (2, .int v2)]) F.1 F.2.1 qd_M_part_166 hl (k := 1) rfl rfl (by decide) rfl (fun ls hl => ?_)
    refine lv_goto (tgt := 11) F.1 F.2.1 qd_M_part_169 (by decide) ?_
    exact hk_11 _ _ hM w (lv_sub hl [1, 0] rfl)
  · rw [if_neg hc1] at hM
    refine lv_iconst (v := 0) F.1 F.2.1 qd_M_part_26 (by decide) ?_
    refine lv_istore_n (lv' := [(3, .int (0 : Int32)), (0, .ref (ad 0)), (1, .int v1), (2, .int v2)]) F.1 F.2.1 qd_M_part_27 rfl hl (by decide) rfl (fun ls hl => ?_)
    refine lv_aload_n F.1 F.2.1 qd_M_part_28 rfl (lv_at hl 1 rfl) ?_
    refine mg_M_isBelow F hK w qk_673 qd_M_part_29 ?_
    refine lv_bipush (v := 12) F.1 F.2.1 qd_M_part_32 (by decide) ?_
    refine lv_iload_n F.1 F.2.1 qd_M_part_34 rfl (lv_at hl 2 rfl) ?_
    refine lv_imul F.1 F.2.1 qd_M_part_35 ?_
    refine lv_iload_n F.1 F.2.1 qd_M_part_36 rfl (lv_at hl 3 rfl) ?_
    refine lv_iadd F.1 F.2.1 qd_M_part_37 ?_
    obtain ⟨hi2, hM⟩ := qck_ok hM
    refine ml_M_isBelow F hK w hi2 qd_M_part_38 ?_
    refine lv_if_ne (tgt := 148) F.1 F.2.1 qd_M_part_39 (by decide) (fun hc3 => ?_) (fun hc3 => ?_)
    · rw [if_neg hc3] at hM
      exact t_M_part_148 F hR hK hN hA hQ hk_11 hk_22 _ _ _ _ hM w (lv_sub hl [1, 2, 3, 0] rfl)
    · rw [if_pos hc3] at hM
      refine lv_aload_n F.1 F.2.1 qd_M_part_42 rfl (lv_at hl 1 rfl) ?_
      refine mg_M_isBelow F hK w qk_673 qd_M_part_43 ?_
      refine lv_bipush (v := 12) F.1 F.2.1 qd_M_part_46 (by decide) ?_
      refine lv_iload_n F.1 F.2.1 qd_M_part_48 rfl (lv_at hl 3 rfl) ?_
      refine lv_imul F.1 F.2.1 qd_M_part_49 ?_
      refine lv_iload_n F.1 F.2.1 qd_M_part_50 rfl (lv_at hl 2 rfl) ?_
      refine lv_iadd F.1 F.2.1 qd_M_part_51 ?_
      obtain ⟨hi4, hM⟩ := qck_ok hM
      refine ml_M_isBelow F hK w hi4 qd_M_part_52 ?_
      refine lv_if_ne (tgt := 148) F.1 F.2.1 qd_M_part_53 (by decide) (fun hc5 => ?_) (fun hc5 => ?_)
      · rw [if_neg hc5] at hM
        exact t_M_part_148 F hR hK hN hA hQ hk_11 hk_22 _ _ _ _ hM w (lv_sub hl [1, 2, 3, 0] rfl)
      · rw [if_pos hc5] at hM
        refine lv_aload_n F.1 F.2.1 qd_M_part_56 rfl (lv_at hl 1 rfl) ?_
        refine mg_M_kinds F hK w qk_656 qd_M_part_57 ?_
        refine lv_iload_n F.1 F.2.1 qd_M_part_60 rfl (lv_at hl 2 rfl) ?_
        obtain ⟨hi6, hM⟩ := qck_ok hM
        refine ml_M_kinds F hK w hi6 qd_M_part_61 ?_
        refine lv_iconst (v := 3) F.1 F.2.1 qd_M_part_62 (by decide) ?_
        refine lv_icmp_ge (tgt := 76) F.1 F.2.1 qd_M_part_63 (by decide) (fun hc7 => ?_) (fun hc7 => ?_)
        · rw [if_pos hc7] at hM
          exact t_M_part_76 F hR hK hN hA hQ hk_11 hk_22 _ _ _ hM w (lv_sub hl [1, 2, 3] rfl)
        · rw [if_neg hc7] at hM
          refine lv_aload_n F.1 F.2.1 qd_M_part_66 rfl (lv_at hl 1 rfl) ?_
          refine mg_M_kinds F hK w qk_656 qd_M_part_67 ?_
          refine lv_iload_n F.1 F.2.1 qd_M_part_70 rfl (lv_at hl 3 rfl) ?_
          obtain ⟨hi8, hM⟩ := qck_ok hM
          refine ml_M_kinds F hK w hi8 qd_M_part_71 ?_
          refine lv_iconst (v := 3) F.1 F.2.1 qd_M_part_72 (by decide) ?_
          refine lv_icmp_lt (tgt := 96) F.1 F.2.1 qd_M_part_73 (by decide) (fun hc9 => ?_) (fun hc9 => ?_)
          · rw [if_pos hc9] at hM
            exact t_M_part_96 F hR hK hN hA hQ hk_11 hk_22 _ _ _ hM w (lv_sub hl [1, 2, 3] rfl)
          · rw [if_neg hc9] at hM
            exact t_M_part_76 F hR hK hN hA hQ hk_11 hk_22 _ _ _ hM w (lv_sub hl [1, 2, 3] rfl)
set_option maxRecDepth 100000 in
set_option maxHeartbeats 4000000 in
theorem t_M_part_22 {p : Program} {l : Launch} {e : Env} {R : Room} {s : State} {m : MethodId} {args : Array Value} {below : List Frame} {meth : Method} {c : Code} {Q : State → Prop} {D : va_G} {ad : Nat → Nat} {cI cZ : ClassId} {A : Nat → Prop} (F : CallFix p m c qb_M_part 4 s args qtb "CaptureSubtypesModel") (hR : 3 ≤ R.frames ∧ 72 ≤ R.locals) (hK : va_K D qcl [(cI, .int), (cZ, .boolean)] s) (hN : qnests mns s) (hA : ∀ q, s.heap.size ≤ q → A q) {res : (Nat → Nat → Int32)} (hQ : ∀ (H : Heap) (locs : List Loc) (pc : Nat) (ls : Array Slot), decode qb_M_part pc = .ok (.return_, 1) → mW D ad cI cZ A s.heap res H locs → W p l e R s m args below meth c H locs 0 0 Q (F0 m pc ls [])) {k_11 : (Nat → Nat → Int32) → Int32 → Option (Nat → Nat → Int32)} (hk_11 : ∀ (S : Nat → Nat → Int32) (v1 : Int32), k_11 S v1 = some res → ∀ {H : Heap} {locs : List Loc} {ls : Array Slot}, mW D ad cI cZ A s.heap S H locs → lv_has ls 4 [(0, .ref (ad 0)), (1, .int v1)] → W p l e R s m args below meth c H locs 0 0 Q (F0 m 11 ls [])) : ∀ (n : Nat) (S : (Nat → Nat → Int32)) (v1 v2 : Int32) (hM : f_M_part_22 k_11 n S v1 v2 = some res) {H : Heap} {locs : List Loc} {ls : Array Slot} (w : mW D ad cI cZ A s.heap S H locs) (hl : lv_has ls 4 [(0, .ref (ad 0)), (1, .int v1), (2, .int v2)]), W p l e R s m args below meth c H locs 0 0 Q (F0 m 22 ls []) := by
  intro n
  induction n with
  | zero => intro S v1 v2 hM; exact absurd hM (by simp [f_M_part_22])
  | succ n ih => intro S v1 v2 hM H locs ls w hl; exact tb_M_part_22 F hR hK hN hA hQ hk_11 (k_22 := f_M_part_22 k_11 n) (fun S v1 v2 hM H locs ls w hl => ih S v1 v2 hM w hl) S v1 v2 hM w hl
set_option maxRecDepth 100000 in
set_option maxHeartbeats 4000000 in
theorem tb_M_part_11 {p : Program} {l : Launch} {e : Env} {R : Room} {s : State} {m : MethodId} {args : Array Value} {below : List Frame} {meth : Method} {c : Code} {Q : State → Prop} {D : va_G} {ad : Nat → Nat} {cI cZ : ClassId} {A : Nat → Prop} (F : CallFix p m c qb_M_part 4 s args qtb "CaptureSubtypesModel") (hR : 3 ≤ R.frames ∧ 72 ≤ R.locals) (hK : va_K D qcl [(cI, .int), (cZ, .boolean)] s) (hN : qnests mns s) (hA : ∀ q, s.heap.size ≤ q → A q) {res : (Nat → Nat → Int32)} (hQ : ∀ (H : Heap) (locs : List Loc) (pc : Nat) (ls : Array Slot), decode qb_M_part pc = .ok (.return_, 1) → mW D ad cI cZ A s.heap res H locs → W p l e R s m args below meth c H locs 0 0 Q (F0 m pc ls [])) {k_11 : (Nat → Nat → Int32) → Int32 → Option (Nat → Nat → Int32)} (hk_11 : ∀ (S : Nat → Nat → Int32) (v1 : Int32), k_11 S v1 = some res → ∀ {H : Heap} {locs : List Loc} {ls : Array Slot}, mW D ad cI cZ A s.heap S H locs → lv_has ls 4 [(0, .ref (ad 0)), (1, .int v1)] → W p l e R s m args below meth c H locs 0 0 Q (F0 m 11 ls [])) (S : (Nat → Nat → Int32)) (v1 : Int32) (hM : fb_M_part_11 k_11 S v1 = some res) {H : Heap} {locs : List Loc} {ls : Array Slot} (w : mW D ad cI cZ A s.heap S H locs) (hl : lv_has ls 4 [(0, .ref (ad 0)), (1, .int v1)]) : W p l e R s m args below meth c H locs 0 0 Q (F0 m 11 ls []) := by
  unfold fb_M_part_11 at hM
  refine lv_iload_n F.1 F.2.1 qd_M_part_11 rfl (lv_at hl 1 rfl) ?_
  refine lv_if_lt (tgt := 172) F.1 F.2.1 qd_M_part_12 (by decide) (fun hc1 => ?_) (fun hc1 => ?_)
  · rw [if_pos hc1] at hM
    cases hM
    exact hQ _ _ _ _ qd_M_part_172 w
  · rw [if_neg hc1] at hM
    refine lv_aload_n F.1 F.2.1 qd_M_part_15 rfl (lv_at hl 0 rfl) ?_
    refine mg_M_classes F hK w qk_655 qd_M_part_16 ?_
    refine lv_iconst (v := 1) F.1 F.2.1 qd_M_part_19 (by decide) ?_
    refine lv_isub F.1 F.2.1 qd_M_part_20 ?_
    refine lv_istore_n (lv' := [(2, .int ((S 0 0) - (1 : Int32))), (0, .ref (ad 0)), (1, .int v1)]) F.1 F.2.1 qd_M_part_21 rfl hl (by decide) rfl (fun ls hl => ?_)
    exact t_M_part_22 F hR hK hN hA hQ hk_11 qfu _ _ _ hM w (lv_sub hl [1, 2, 0] rfl)
set_option maxRecDepth 100000 in
set_option maxHeartbeats 4000000 in
theorem t_M_part_11 {p : Program} {l : Launch} {e : Env} {R : Room} {s : State} {m : MethodId} {args : Array Value} {below : List Frame} {meth : Method} {c : Code} {Q : State → Prop} {D : va_G} {ad : Nat → Nat} {cI cZ : ClassId} {A : Nat → Prop} (F : CallFix p m c qb_M_part 4 s args qtb "CaptureSubtypesModel") (hR : 3 ≤ R.frames ∧ 72 ≤ R.locals) (hK : va_K D qcl [(cI, .int), (cZ, .boolean)] s) (hN : qnests mns s) (hA : ∀ q, s.heap.size ≤ q → A q) {res : (Nat → Nat → Int32)} (hQ : ∀ (H : Heap) (locs : List Loc) (pc : Nat) (ls : Array Slot), decode qb_M_part pc = .ok (.return_, 1) → mW D ad cI cZ A s.heap res H locs → W p l e R s m args below meth c H locs 0 0 Q (F0 m pc ls [])) : ∀ (n : Nat) (S : (Nat → Nat → Int32)) (v1 : Int32) (hM : f_M_part_11 n S v1 = some res) {H : Heap} {locs : List Loc} {ls : Array Slot} (w : mW D ad cI cZ A s.heap S H locs) (hl : lv_has ls 4 [(0, .ref (ad 0)), (1, .int v1)]), W p l e R s m args below meth c H locs 0 0 Q (F0 m 11 ls []) := by
  intro n
  induction n with
  | zero => intro S v1 hM; exact absurd hM (by simp [f_M_part_11])
  | succ n ih => intro S v1 hM H locs ls w hl; exact tb_M_part_11 F hR hK hN hA hQ (k_11 := f_M_part_11 n) (fun S v1 hM H locs ls w hl => ih S v1 hM w hl) S v1 hM w hl
set_option maxRecDepth 100000 in
set_option maxHeartbeats 4000000 in
theorem t_M_part {p : Program} {l : Launch} {e : Env} {R : Room} {s : State} {m : MethodId} {args : Array Value} {below : List Frame} {meth : Method} {c : Code} {Q : State → Prop} {D : va_G} {ad : Nat → Nat} {cI cZ : ClassId} {A : Nat → Prop} (F : CallFix p m c qb_M_part 4 s args qtb "CaptureSubtypesModel") (hR : 3 ≤ R.frames ∧ 72 ≤ R.locals) (hK : va_K D qcl [(cI, .int), (cZ, .boolean)] s) (hN : qnests mns s) (hA : ∀ q, s.heap.size ≤ q → A q) {res : (Nat → Nat → Int32)} (hQ : ∀ (H : Heap) (locs : List Loc) (pc : Nat) (ls : Array Slot), decode qb_M_part pc = .ok (.return_, 1) → mW D ad cI cZ A s.heap res H locs → W p l e R s m args below meth c H locs 0 0 Q (F0 m pc ls [])) (S : (Nat → Nat → Int32)) (hM : f_M_part S  = some res) {H : Heap} {locs : List Loc} {ls : Array Slot} (w : mW D ad cI cZ A s.heap S H locs) (hl : lv_has ls 4 [(0, .ref (ad 0))]) : W p l e R s m args below meth c H locs 0 0 Q (F0 m 0 ls []) := by
  unfold f_M_part at hM
  refine lv_aload_n F.1 F.2.1 qd_M_part_0 rfl (lv_at hl 0 rfl) ?_
  obtain ⟨q1, hq2, hM⟩ := qbd hM
  refine m_callv F hK hN hA w (c_M_order l D ad cI cZ hq2) qk_820 qk_822 qs_M_order qk_8 qk_823 qv_M_order rfl rfl ⟨Nat.le_trans (by decide) hR.1, Nat.le_trans (by decide) hR.2⟩ (ci := 6) rfl (j := 0) rfl hl.1 rfl (Nat.le_of_ble_eq_true rfl) qd_M_part_1 (fun H locs w => ?_)
  refine lv_aload_n F.1 F.2.1 qd_M_part_4 rfl (lv_at hl 0 rfl) ?_
  refine mg_M_classes F hK w qk_655 qd_M_part_5 ?_
  refine lv_iconst (v := 1) F.1 F.2.1 qd_M_part_8 (by decide) ?_
  refine lv_isub F.1 F.2.1 qd_M_part_9 ?_
  refine lv_istore_n (lv' := [(1, .int ((q1 0 0) - (1 : Int32))), (0, .ref (ad 0))]) F.1 F.2.1 qd_M_part_10 rfl hl (by decide) rfl (fun ls hl => ?_)
  exact t_M_part_11 F hR hK hN hA hQ  qfu _ _ hM w (lv_sub hl [1, 0] rfl)
set_option maxRecDepth 100000 in
theorem c_M_part (l : Launch) (D : va_G) (ad : Nat → Nat) (cI cZ : ClassId) {S : (Nat → Nat → Int32)} {res : (Nat → Nat → Int32)} (hM : f_M_part S  = some res) : mMv l qy_M_part qb_M_part 4 none { frames := 3, cells := 0, slots := 0, locals := 72 } D ad cI cZ S [.ref (ad 0)] res := m_ofv (by decide +kernel) (Nat.le_of_ble_eq_true rfl) (fun p e s m args below meth c Q A ls F hK hN hA w hl hQ => t_M_part F ⟨Nat.le_refl _, Nat.le_refl _⟩ hK hN hA hQ S  hM w hl)
-- M_apart
def f_M_apart (S : (Nat → Nat → Int32)) (a1 a2 : Int32) : Option (Int32 × (Nat → Nat → Int32)) := (f_M_isClass S a1).bind (fun q1 => if (qB q1) = 0 then (some ((-2 : Int32), S)) else ((f_M_isClass S a2).bind (fun q4 => if (qB q4) = 0 then (some ((-2 : Int32), S)) else ((f_M_part S).bind (fun q7 => qck (qin (((12 : Int32) * a1) + a2) 144) (if (q7 19 (((12 : Int32) * a1) + a2).toNatClampNeg) = 0 then (some ((0 : Int32), q7)) else (some ((1 : Int32), q7))))))))
set_option maxRecDepth 100000 in
set_option maxHeartbeats 4000000 in
theorem t_M_apart {p : Program} {l : Launch} {e : Env} {R : Room} {s : State} {m : MethodId} {args : Array Value} {below : List Frame} {meth : Method} {c : Code} {Q : State → Prop} {D : va_G} {ad : Nat → Nat} {cI cZ : ClassId} {A : Nat → Prop} (F : CallFix p m c qb_M_apart 3 s args qtb "CaptureSubtypesModel") (hR : 4 ≤ R.frames ∧ 95 ≤ R.locals) (hK : va_K D qcl [(cI, .int), (cZ, .boolean)] s) (hN : qnests mns s) (hA : ∀ q, s.heap.size ≤ q → A q) {res : (Int32 × (Nat → Nat → Int32))} (hQ : ∀ (H : Heap) (locs : List Loc) (pc : Nat) (ls : Array Slot), decode qb_M_apart pc = .ok (.ireturn, 1) → mW D ad cI cZ A s.heap res.2 H locs → W p l e R s m args below meth c H locs 0 0 Q (F0 m pc ls [.int res.1])) (S : (Nat → Nat → Int32)) (a1 a2 : Int32) (hM : f_M_apart S a1 a2 = some res) {H : Heap} {locs : List Loc} {ls : Array Slot} (w : mW D ad cI cZ A s.heap S H locs) (hl : lv_has ls 3 [(0, .ref (ad 0)), (1, .int a1), (2, .int a2)]) : W p l e R s m args below meth c H locs 0 0 Q (F0 m 0 ls []) := by
  unfold f_M_apart at hM
  refine lv_aload_n F.1 F.2.1 qd_M_apart_0 rfl (lv_at hl 0 rfl) ?_
  refine lv_iload_n F.1 F.2.1 qd_M_apart_1 rfl (lv_at hl 1 rfl) ?_
  obtain ⟨q1, hq2, hM⟩ := qbd hM
  refine m_calli F hK hN hA w (c_M_isClass l D ad cI cZ hq2) qk_768 qk_770 qs_M_isClass qk_8 qk_771 qv_M_isClass rfl rfl ⟨Nat.le_trans (by decide) hR.1, Nat.le_trans (by decide) hR.2⟩ (ci := 6) rfl (j := 0) rfl hl.1 rfl (Nat.le_of_ble_eq_true rfl) qd_M_apart_2 (fun H locs w => ?_)
  refine lv_if_eq (tgt := 16) F.1 F.2.1 qd_M_apart_5 (by decide) (fun hc3 => ?_) (fun hc3 => ?_)
  · rw [if_pos hc3] at hM
    refine lv_bipush (v := (-2)) F.1 F.2.1 qd_M_apart_16 (by decide) ?_
    cases hM
    exact hQ _ _ _ _ qd_M_apart_18 w
  · rw [if_neg hc3] at hM
    refine lv_aload_n F.1 F.2.1 qd_M_apart_8 rfl (lv_at hl 0 rfl) ?_
    refine lv_iload_n F.1 F.2.1 qd_M_apart_9 rfl (lv_at hl 2 rfl) ?_
    obtain ⟨q4, hq5, hM⟩ := qbd hM
    refine m_calli F hK hN hA w (c_M_isClass l D ad cI cZ hq5) qk_768 qk_770 qs_M_isClass qk_8 qk_771 qv_M_isClass rfl rfl ⟨Nat.le_trans (by decide) hR.1, Nat.le_trans (by decide) hR.2⟩ (ci := 6) rfl (j := 0) rfl hl.1 rfl (Nat.le_of_ble_eq_true rfl) qd_M_apart_10 (fun H locs w => ?_)
    refine lv_if_ne (tgt := 19) F.1 F.2.1 qd_M_apart_13 (by decide) (fun hc6 => ?_) (fun hc6 => ?_)
    · rw [if_neg hc6] at hM
      refine lv_aload_n F.1 F.2.1 qd_M_apart_19 rfl (lv_at hl 0 rfl) ?_
      obtain ⟨q7, hq8, hM⟩ := qbd hM
      refine m_callv F hK hN hA w (c_M_part l D ad cI cZ hq8) qk_844 qk_846 qs_M_part qk_8 qk_847 qv_M_part rfl rfl ⟨Nat.le_trans (by decide) hR.1, Nat.le_trans (by decide) hR.2⟩ (ci := 6) rfl (j := 0) rfl hl.1 rfl (Nat.le_of_ble_eq_true rfl) qd_M_apart_20 (fun H locs w => ?_)
      refine lv_aload_n F.1 F.2.1 qd_M_apart_23 rfl (lv_at hl 0 rfl) ?_
      refine mg_M_isApart F hK w qk_674 qd_M_apart_24 ?_
      refine lv_bipush (v := 12) F.1 F.2.1 qd_M_apart_27 (by decide) ?_
      refine lv_iload_n F.1 F.2.1 qd_M_apart_29 rfl (lv_at hl 1 rfl) ?_
      refine lv_imul F.1 F.2.1 qd_M_apart_30 ?_
      refine lv_iload_n F.1 F.2.1 qd_M_apart_31 rfl (lv_at hl 2 rfl) ?_
      refine lv_iadd F.1 F.2.1 qd_M_apart_32 ?_
      obtain ⟨hi9, hM⟩ := qck_ok hM
      refine ml_M_isApart F hK w hi9 qd_M_apart_33 ?_
      refine lv_if_eq (tgt := 41) F.1 F.2.1 qd_M_apart_34 (by decide) (fun hc10 => ?_) (fun hc10 => ?_)
      · rw [if_pos hc10] at hM
        refine lv_iconst (v := 0) F.1 F.2.1 qd_M_apart_41 (by decide) ?_
        cases hM
        exact hQ _ _ _ _ qd_M_apart_42 w
      · rw [if_neg hc10] at hM
        refine lv_iconst (v := 1) F.1 F.2.1 qd_M_apart_37 (by decide) ?_
        refine lv_goto (tgt := 42) F.1 F.2.1 qd_M_apart_38 (by decide) ?_
        cases hM
        exact hQ _ _ _ _ qd_M_apart_42 w
    · rw [if_pos hc6] at hM
      refine lv_bipush (v := (-2)) F.1 F.2.1 qd_M_apart_16 (by decide) ?_
      cases hM
      exact hQ _ _ _ _ qd_M_apart_18 w
set_option maxRecDepth 100000 in
theorem c_M_apart (l : Launch) (D : va_G) (ad : Nat → Nat) (cI cZ : ClassId) {S : (Nat → Nat → Int32)} {a1 a2 : Int32} {res : (Int32 × (Nat → Nat → Int32))} (hM : f_M_apart S a1 a2 = some res) : mMi l qy_M_apart qb_M_apart 3 (some .int) { frames := 4, cells := 0, slots := 0, locals := 95 } D ad cI cZ S [.ref (ad 0), .int a1, .int a2] res.1 res.2 := m_ofi (by decide +kernel) (Nat.le_of_ble_eq_true rfl) (fun p e s m args below meth c Q A ls F hK hN hA w hl hQ => t_M_apart F ⟨Nat.le_refl _, Nat.le_refl _⟩ hK hN hA hQ S a1 a2 hM w hl)
-- M_isAsked
def f_M_isAsked (S : (Nat → Nat → Int32)) (a1 : Int32) : Option Bool := (f_M_isType S a1).bind (fun q1 => if (qB q1) = 0 then (some false) else (qck (qin a1 9000) (if (S 9 a1.toNatClampNeg) = (5 : Int32) then (some false) else (some true))))
set_option maxRecDepth 100000 in
set_option maxHeartbeats 4000000 in
theorem t_M_isAsked {p : Program} {l : Launch} {e : Env} {R : Room} {s : State} {m : MethodId} {args : Array Value} {below : List Frame} {meth : Method} {c : Code} {Q : State → Prop} {D : va_G} {ad : Nat → Nat} {cI cZ : ClassId} {A : Nat → Prop} (F : CallFix p m c qb_M_isAsked 2 s args qtb "CaptureSubtypesModel") (hR : 2 ≤ R.frames ∧ 43 ≤ R.locals) (hK : va_K D qcl [(cI, .int), (cZ, .boolean)] s) (hN : qnests mns s) (hA : ∀ q, s.heap.size ≤ q → A q) {res : Bool} {S : (Nat → Nat → Int32)} (hQ : ∀ (H : Heap) (locs : List Loc) (pc : Nat) (ls : Array Slot), decode qb_M_isAsked pc = .ok (.ireturn, 1) → mW D ad cI cZ A s.heap S H locs → W p l e R s m args below meth c H locs 0 0 Q (F0 m pc ls [.int (qB res)])) (a1 : Int32) (hM : f_M_isAsked S a1 = some res) {H : Heap} {locs : List Loc} {ls : Array Slot} (w : mW D ad cI cZ A s.heap S H locs) (hl : lv_has ls 2 [(0, .ref (ad 0)), (1, .int a1)]) : W p l e R s m args below meth c H locs 0 0 Q (F0 m 0 ls []) := by
  unfold f_M_isAsked at hM
  refine lv_aload_n F.1 F.2.1 qd_M_isAsked_0 rfl (lv_at hl 0 rfl) ?_
  refine lv_iload_n F.1 F.2.1 qd_M_isAsked_1 rfl (lv_at hl 1 rfl) ?_
  obtain ⟨q1, hq2, hM⟩ := qbd hM
  refine m_calli F hK hN hA w (c_M_isType l D ad cI cZ hq2) qk_792 qk_794 qs_M_isType qk_8 qk_795 qv_M_isType rfl rfl ⟨Nat.le_trans (by decide) hR.1, Nat.le_trans (by decide) hR.2⟩ (ci := 6) rfl (j := 0) rfl hl.1 rfl (Nat.le_of_ble_eq_true rfl) qd_M_isAsked_2 (fun H locs w => ?_)
  refine lv_if_eq (tgt := 22) F.1 F.2.1 qd_M_isAsked_5 (by decide) (fun hc3 => ?_) (fun hc3 => ?_)
  · rw [if_pos hc3] at hM
    refine lv_iconst (v := 0) F.1 F.2.1 qd_M_isAsked_22 (by decide) ?_
    cases hM
    exact hQ _ _ _ _ qd_M_isAsked_23 w
  · rw [if_neg hc3] at hM
    refine lv_aload_n F.1 F.2.1 qd_M_isAsked_8 rfl (lv_at hl 0 rfl) ?_
    refine mg_M_sort F hK w qk_664 qd_M_isAsked_9 ?_
    refine lv_iload_n F.1 F.2.1 qd_M_isAsked_12 rfl (lv_at hl 1 rfl) ?_
    obtain ⟨hi4, hM⟩ := qck_ok hM
    refine ml_M_sort F hK w hi4 qd_M_isAsked_13 ?_
    refine lv_iconst (v := 5) F.1 F.2.1 qd_M_isAsked_14 (by decide) ?_
    refine lv_icmp_eq (tgt := 22) F.1 F.2.1 qd_M_isAsked_15 (by decide) (fun hc5 => ?_) (fun hc5 => ?_)
    · rw [if_pos hc5] at hM
      refine lv_iconst (v := 0) F.1 F.2.1 qd_M_isAsked_22 (by decide) ?_
      cases hM
      exact hQ _ _ _ _ qd_M_isAsked_23 w
    · rw [if_neg hc5] at hM
      refine lv_iconst (v := 1) F.1 F.2.1 qd_M_isAsked_18 (by decide) ?_
      refine lv_goto (tgt := 23) F.1 F.2.1 qd_M_isAsked_19 (by decide) ?_
      cases hM
      exact hQ _ _ _ _ qd_M_isAsked_23 w
set_option maxRecDepth 100000 in
theorem c_M_isAsked (l : Launch) (D : va_G) (ad : Nat → Nat) (cI cZ : ClassId) {S : (Nat → Nat → Int32)} {a1 : Int32} {res : Bool} (hM : f_M_isAsked S a1 = some res) : mMi l qy_M_isAsked qb_M_isAsked 2 (some .boolean) { frames := 2, cells := 0, slots := 0, locals := 43 } D ad cI cZ S [.ref (ad 0), .int a1] (qB res) S := m_ofz (by decide +kernel) (Nat.le_of_ble_eq_true rfl) (fun p e s m args below meth c Q A ls F hK hN hA w hl hQ => t_M_isAsked F ⟨Nat.le_refl _, Nat.le_refl _⟩ hK hN hA hQ a1 hM w hl)
-- M_ask
def f_M_ask (S : (Nat → Nat → Int32)) (a1 a2 : Int32) : Option (Nat → Nat → Int32) := qck (qin (S 28 0) 3000) (qck (qin ((qwr S 23 (S 28 0).toNatClampNeg a1) 28 0) 3000) (qck (qin ((qwr (qwr S 23 (S 28 0).toNatClampNeg a1) 24 ((qwr S 23 (S 28 0).toNatClampNeg a1) 28 0).toNatClampNeg a2) 28 0) 3000) (qck (qin ((qwr (qwr (qwr S 23 (S 28 0).toNatClampNeg a1) 24 ((qwr S 23 (S 28 0).toNatClampNeg a1) 28 0).toNatClampNeg a2) 25 ((qwr (qwr S 23 (S 28 0).toNatClampNeg a1) 24 ((qwr S 23 (S 28 0).toNatClampNeg a1) 28 0).toNatClampNeg a2) 28 0).toNatClampNeg (0 : Int32)) 28 0) 3000) (some (qwr (qwr (qwr (qwr (qwr S 23 (S 28 0).toNatClampNeg a1) 24 ((qwr S 23 (S 28 0).toNatClampNeg a1) 28 0).toNatClampNeg a2) 25 ((qwr (qwr S 23 (S 28 0).toNatClampNeg a1) 24 ((qwr S 23 (S 28 0).toNatClampNeg a1) 28 0).toNatClampNeg a2) 28 0).toNatClampNeg (0 : Int32)) 26 ((qwr (qwr (qwr S 23 (S 28 0).toNatClampNeg a1) 24 ((qwr S 23 (S 28 0).toNatClampNeg a1) 28 0).toNatClampNeg a2) 25 ((qwr (qwr S 23 (S 28 0).toNatClampNeg a1) 24 ((qwr S 23 (S 28 0).toNatClampNeg a1) 28 0).toNatClampNeg a2) 28 0).toNatClampNeg (0 : Int32)) 28 0).toNatClampNeg (0 : Int32)) 28 0 (((qwr (qwr (qwr (qwr S 23 (S 28 0).toNatClampNeg a1) 24 ((qwr S 23 (S 28 0).toNatClampNeg a1) 28 0).toNatClampNeg a2) 25 ((qwr (qwr S 23 (S 28 0).toNatClampNeg a1) 24 ((qwr S 23 (S 28 0).toNatClampNeg a1) 28 0).toNatClampNeg a2) 28 0).toNatClampNeg (0 : Int32)) 26 ((qwr (qwr (qwr S 23 (S 28 0).toNatClampNeg a1) 24 ((qwr S 23 (S 28 0).toNatClampNeg a1) 28 0).toNatClampNeg a2) 25 ((qwr (qwr S 23 (S 28 0).toNatClampNeg a1) 24 ((qwr S 23 (S 28 0).toNatClampNeg a1) 28 0).toNatClampNeg a2) 28 0).toNatClampNeg (0 : Int32)) 28 0).toNatClampNeg (0 : Int32)) 28 0) + (1 : Int32)))))))
set_option maxRecDepth 100000 in
set_option maxHeartbeats 4000000 in
theorem t_M_ask {p : Program} {l : Launch} {e : Env} {R : Room} {s : State} {m : MethodId} {args : Array Value} {below : List Frame} {meth : Method} {c : Code} {Q : State → Prop} {D : va_G} {ad : Nat → Nat} {cI cZ : ClassId} {A : Nat → Prop} (F : CallFix p m c qb_M_ask 3 s args qtb "CaptureSubtypesModel") (hR : 0 ≤ R.frames ∧ 0 ≤ R.locals) (hK : va_K D qcl [(cI, .int), (cZ, .boolean)] s) (hN : qnests mns s) (hA : ∀ q, s.heap.size ≤ q → A q) {res : (Nat → Nat → Int32)} (hQ : ∀ (H : Heap) (locs : List Loc) (pc : Nat) (ls : Array Slot), decode qb_M_ask pc = .ok (.return_, 1) → mW D ad cI cZ A s.heap res H locs → W p l e R s m args below meth c H locs 0 0 Q (F0 m pc ls [])) (S : (Nat → Nat → Int32)) (a1 a2 : Int32) (hM : f_M_ask S a1 a2 = some res) {H : Heap} {locs : List Loc} {ls : Array Slot} (w : mW D ad cI cZ A s.heap S H locs) (hl : lv_has ls 3 [(0, .ref (ad 0)), (1, .int a1), (2, .int a2)]) : W p l e R s m args below meth c H locs 0 0 Q (F0 m 0 ls []) := by
  unfold f_M_ask at hM
  refine lv_aload_n F.1 F.2.1 qd_M_ask_0 rfl (lv_at hl 0 rfl) ?_
  refine mg_M_askS F hK w qk_678 qd_M_ask_1 ?_
  refine lv_aload_n F.1 F.2.1 qd_M_ask_4 rfl (lv_at hl 0 rfl) ?_
  refine mg_M_asked F hK w qk_683 qd_M_ask_5 ?_
  refine lv_iload_n F.1 F.2.1 qd_M_ask_8 rfl (lv_at hl 1 rfl) ?_
  obtain ⟨hi1, hM⟩ := qck_ok hM
  refine ms_M_askS F hK w hi1 qd_M_ask_9 (fun H locs w => ?_)
  refine lv_aload_n F.1 F.2.1 qd_M_ask_10 rfl (lv_at hl 0 rfl) ?_
  refine mg_M_askT F hK w qk_679 qd_M_ask_11 ?_
  refine lv_aload_n F.1 F.2.1 qd_M_ask_14 rfl (lv_at hl 0 rfl) ?_
  refine mg_M_asked F hK w qk_683 qd_M_ask_15 ?_
  refine lv_iload_n F.1 F.2.1 qd_M_ask_18 rfl (lv_at hl 2 rfl) ?_
  obtain ⟨hi2, hM⟩ := qck_ok hM
  refine ms_M_askT F hK w hi2 qd_M_ask_19 (fun H locs w => ?_)
  refine lv_aload_n F.1 F.2.1 qd_M_ask_20 rfl (lv_at hl 0 rfl) ?_
  refine mg_M_askState F hK w qk_680 qd_M_ask_21 ?_
  refine lv_aload_n F.1 F.2.1 qd_M_ask_24 rfl (lv_at hl 0 rfl) ?_
  refine mg_M_asked F hK w qk_683 qd_M_ask_25 ?_
  refine lv_iconst (v := 0) F.1 F.2.1 qd_M_ask_28 (by decide) ?_
  obtain ⟨hi3, hM⟩ := qck_ok hM
  refine ms_M_askState F hK w hi3 qd_M_ask_29 (fun H locs w => ?_)
  refine lv_aload_n F.1 F.2.1 qd_M_ask_30 rfl (lv_at hl 0 rfl) ?_
  refine mg_M_askStep F hK w qk_681 qd_M_ask_31 ?_
  refine lv_aload_n F.1 F.2.1 qd_M_ask_34 rfl (lv_at hl 0 rfl) ?_
  refine mg_M_asked F hK w qk_683 qd_M_ask_35 ?_
  refine lv_iconst (v := 0) F.1 F.2.1 qd_M_ask_38 (by decide) ?_
  obtain ⟨hi4, hM⟩ := qck_ok hM
  refine ms_M_askStep F hK w hi4 qd_M_ask_39 (fun H locs w => ?_)
  refine lv_aload_n F.1 F.2.1 qd_M_ask_40 rfl (lv_at hl 0 rfl) ?_
  refine lv_dup F.1 F.2.1 qd_M_ask_41 rfl ?_
  refine mg_M_asked F hK w qk_683 qd_M_ask_42 ?_
  refine lv_iconst (v := 1) F.1 F.2.1 qd_M_ask_45 (by decide) ?_
  refine lv_iadd F.1 F.2.1 qd_M_ask_46 ?_
  refine mp_M_asked F hK w qk_683 qd_M_ask_47 (fun H locs w => ?_)
  cases hM
  exact hQ _ _ _ _ qd_M_ask_50 w
set_option maxRecDepth 100000 in
theorem c_M_ask (l : Launch) (D : va_G) (ad : Nat → Nat) (cI cZ : ClassId) {S : (Nat → Nat → Int32)} {a1 a2 : Int32} {res : (Nat → Nat → Int32)} (hM : f_M_ask S a1 a2 = some res) : mMv l qy_M_ask qb_M_ask 3 none { frames := 0, cells := 0, slots := 0, locals := 0 } D ad cI cZ S [.ref (ad 0), .int a1, .int a2] res := m_ofv (by decide +kernel) (Nat.le_of_ble_eq_true rfl) (fun p e s m args below meth c Q A ls F hK hN hA w hl hQ => t_M_ask F ⟨Nat.le_refl _, Nat.le_refl _⟩ hK hN hA hQ S a1 a2 hM w hl)
-- M_boundCount
def f_M_boundCount_44 (S : (Nat → Nat → Int32)) (s1 : Int32) : Option Int32 := if s1 = 0 then (some (1 : Int32)) else (some s1)
def f_M_boundCount (S : (Nat → Nat → Int32)) (a1 : Int32) : Option Int32 := qck (qin a1 9000) (if (S 10 a1.toNatClampNeg) = (-1 : Int32) then (qck (qin a1 9000) (qck (qin (S 11 a1.toNatClampNeg) 3000) (f_M_boundCount_44  S (S 16 (S 11 a1.toNatClampNeg).toNatClampNeg)))) else (qck (qin a1 9000) (qck (qin a1 9000) (qck (qin (((2 : Int32) * (S 10 a1.toNatClampNeg)) + (S 11 a1.toNatClampNeg)) 24) (f_M_boundCount_44  S (S 6 (((2 : Int32) * (S 10 a1.toNatClampNeg)) + (S 11 a1.toNatClampNeg)).toNatClampNeg))))))
set_option maxRecDepth 100000 in
set_option maxHeartbeats 4000000 in
theorem t_M_boundCount_44 {p : Program} {l : Launch} {e : Env} {R : Room} {s : State} {m : MethodId} {args : Array Value} {below : List Frame} {meth : Method} {c : Code} {Q : State → Prop} {D : va_G} {ad : Nat → Nat} {cI cZ : ClassId} {A : Nat → Prop} (F : CallFix p m c qb_M_boundCount 3 s args qtb "CaptureSubtypesModel") (hR : 0 ≤ R.frames ∧ 0 ≤ R.locals) (hK : va_K D qcl [(cI, .int), (cZ, .boolean)] s) (hN : qnests mns s) (hA : ∀ q, s.heap.size ≤ q → A q) {res : Int32} {S : (Nat → Nat → Int32)} (hQ : ∀ (H : Heap) (locs : List Loc) (pc : Nat) (ls : Array Slot), decode qb_M_boundCount pc = .ok (.ireturn, 1) → mW D ad cI cZ A s.heap S H locs → W p l e R s m args below meth c H locs 0 0 Q (F0 m pc ls [.int res])) (s1 : Int32) (hM : f_M_boundCount_44 S s1 = some res) {H : Heap} {locs : List Loc} {ls : Array Slot} (w : mW D ad cI cZ A s.heap S H locs) (hl : lv_has ls 3 [(0, .ref (ad 0))]) : W p l e R s m args below meth c H locs 0 0 Q (F0 m 44 ls [.int s1]) := by
  unfold f_M_boundCount_44 at hM
  refine lv_istore_n (lv' := [(2, .int s1), (0, .ref (ad 0))]) F.1 F.2.1 qd_M_boundCount_44 rfl hl (by decide) rfl (fun ls hl => ?_)
  refine lv_iload_n F.1 F.2.1 qd_M_boundCount_45 rfl (lv_at hl 0 rfl) ?_
  refine lv_if_ne (tgt := 53) F.1 F.2.1 qd_M_boundCount_46 (by decide) (fun hc1 => ?_) (fun hc1 => ?_)
  · rw [if_neg hc1] at hM
    refine lv_iload_n F.1 F.2.1 qd_M_boundCount_53 rfl (lv_at hl 0 rfl) ?_
    cases hM
    exact hQ _ _ _ _ qd_M_boundCount_54 w
  · rw [if_pos hc1] at hM
    refine lv_iconst (v := 1) F.1 F.2.1 qd_M_boundCount_49 (by decide) ?_
    refine lv_goto (tgt := 54) F.1 F.2.1 qd_M_boundCount_50 (by decide) ?_
    cases hM
    exact hQ _ _ _ _ qd_M_boundCount_54 w
set_option maxRecDepth 100000 in
set_option maxHeartbeats 4000000 in
theorem t_M_boundCount {p : Program} {l : Launch} {e : Env} {R : Room} {s : State} {m : MethodId} {args : Array Value} {below : List Frame} {meth : Method} {c : Code} {Q : State → Prop} {D : va_G} {ad : Nat → Nat} {cI cZ : ClassId} {A : Nat → Prop} (F : CallFix p m c qb_M_boundCount 3 s args qtb "CaptureSubtypesModel") (hR : 0 ≤ R.frames ∧ 0 ≤ R.locals) (hK : va_K D qcl [(cI, .int), (cZ, .boolean)] s) (hN : qnests mns s) (hA : ∀ q, s.heap.size ≤ q → A q) {res : Int32} {S : (Nat → Nat → Int32)} (hQ : ∀ (H : Heap) (locs : List Loc) (pc : Nat) (ls : Array Slot), decode qb_M_boundCount pc = .ok (.ireturn, 1) → mW D ad cI cZ A s.heap S H locs → W p l e R s m args below meth c H locs 0 0 Q (F0 m pc ls [.int res])) (a1 : Int32) (hM : f_M_boundCount S a1 = some res) {H : Heap} {locs : List Loc} {ls : Array Slot} (w : mW D ad cI cZ A s.heap S H locs) (hl : lv_has ls 3 [(0, .ref (ad 0)), (1, .int a1)]) : W p l e R s m args below meth c H locs 0 0 Q (F0 m 0 ls []) := by
  unfold f_M_boundCount at hM
  refine lv_aload_n F.1 F.2.1 qd_M_boundCount_0 rfl (lv_at hl 0 rfl) ?_
  refine mg_M_first F hK w qk_665 qd_M_boundCount_1 ?_
  refine lv_iload_n F.1 F.2.1 qd_M_boundCount_4 rfl (lv_at hl 1 rfl) ?_
  obtain ⟨hi1, hM⟩ := qck_ok hM
  refine ml_M_first F hK w hi1 qd_M_boundCount_5 ?_
  refine lv_iconst (v := (-1)) F.1 F.2.1 qd_M_boundCount_6 (by decide) ?_
  refine lv_icmp_ne (tgt := 24) F.1 F.2.1 qd_M_boundCount_7 (by decide) (fun hc2 => ?_) (fun hc2 => ?_)
  · rw [if_neg hc2] at hM
    refine lv_aload_n F.1 F.2.1 qd_M_boundCount_24 rfl (lv_at hl 0 rfl) ?_
    refine mg_M_bounds F hK w qk_661 qd_M_boundCount_25 ?_
    refine lv_iconst (v := 2) F.1 F.2.1 qd_M_boundCount_28 (by decide) ?_
    refine lv_aload_n F.1 F.2.1 qd_M_boundCount_29 rfl (lv_at hl 0 rfl) ?_
    refine mg_M_first F hK w qk_665 qd_M_boundCount_30 ?_
    refine lv_iload_n F.1 F.2.1 qd_M_boundCount_33 rfl (lv_at hl 1 rfl) ?_
    obtain ⟨hi3, hM⟩ := qck_ok hM
    refine ml_M_first F hK w hi3 qd_M_boundCount_34 ?_
    refine lv_imul F.1 F.2.1 qd_M_boundCount_35 ?_
    refine lv_aload_n F.1 F.2.1 qd_M_boundCount_36 rfl (lv_at hl 0 rfl) ?_
    refine mg_M_second F hK w qk_666 qd_M_boundCount_37 ?_
    refine lv_iload_n F.1 F.2.1 qd_M_boundCount_40 rfl (lv_at hl 1 rfl) ?_
    obtain ⟨hi4, hM⟩ := qck_ok hM
    refine ml_M_second F hK w hi4 qd_M_boundCount_41 ?_
    refine lv_iadd F.1 F.2.1 qd_M_boundCount_42 ?_
    obtain ⟨hi5, hM⟩ := qck_ok hM
    refine ml_M_bounds F hK w hi5 qd_M_boundCount_43 ?_
    exact t_M_boundCount_44 F hR hK hN hA hQ  _ hM w (lv_sub hl [0] rfl)
  · rw [if_pos hc2] at hM
    refine lv_aload_n F.1 F.2.1 qd_M_boundCount_10 rfl (lv_at hl 0 rfl) ?_
    refine mg_M_caughtBounds F hK w qk_671 qd_M_boundCount_11 ?_
    refine lv_aload_n F.1 F.2.1 qd_M_boundCount_14 rfl (lv_at hl 0 rfl) ?_
    refine mg_M_second F hK w qk_666 qd_M_boundCount_15 ?_
    refine lv_iload_n F.1 F.2.1 qd_M_boundCount_18 rfl (lv_at hl 1 rfl) ?_
    obtain ⟨hi6, hM⟩ := qck_ok hM
    refine ml_M_second F hK w hi6 qd_M_boundCount_19 ?_
    obtain ⟨hi7, hM⟩ := qck_ok hM
    refine ml_M_caughtBounds F hK w hi7 qd_M_boundCount_20 ?_
    refine lv_goto (tgt := 44) F.1 F.2.1 qd_M_boundCount_21 (by decide) ?_
    exact t_M_boundCount_44 F hR hK hN hA hQ  _ hM w (lv_sub hl [0] rfl)
set_option maxRecDepth 100000 in
theorem c_M_boundCount (l : Launch) (D : va_G) (ad : Nat → Nat) (cI cZ : ClassId) {S : (Nat → Nat → Int32)} {a1 : Int32} {res : Int32} (hM : f_M_boundCount S a1 = some res) : mMi l qy_M_boundCount qb_M_boundCount 3 (some .int) { frames := 0, cells := 0, slots := 0, locals := 0 } D ad cI cZ S [.ref (ad 0), .int a1] res S := m_ofi (by decide +kernel) (Nat.le_of_ble_eq_true rfl) (fun p e s m args below meth c Q A ls F hK hN hA w hl hQ => t_M_boundCount F ⟨Nat.le_refl _, Nat.le_refl _⟩ hK hN hA hQ a1 hM w hl)
-- M_boundOf
def f_M_boundOf_44 (S : (Nat → Nat → Int32)) (v1 v2 s1 : Int32) : Option Int32 := if s1 = 0 then (some (0 : Int32)) else (qck (qin v1 9000) (if (S 10 v1.toNatClampNeg) = (-1 : Int32) then (qck (qin v1 9000) (qck (qin (((3 : Int32) * (S 11 v1.toNatClampNeg)) + v2) 9000) (some (S 15 (((3 : Int32) * (S 11 v1.toNatClampNeg)) + v2).toNatClampNeg)))) else (qck (qin v1 9000) (qck (qin v1 9000) (qck (qin (((2 : Int32) * (((2 : Int32) * (S 10 v1.toNatClampNeg)) + (S 11 v1.toNatClampNeg))) + v2) 48) (some (S 5 (((2 : Int32) * (((2 : Int32) * (S 10 v1.toNatClampNeg)) + (S 11 v1.toNatClampNeg))) + v2).toNatClampNeg)))))))
def f_M_boundOf (S : (Nat → Nat → Int32)) (a1 a2 : Int32) : Option Int32 := qck (qin a1 9000) (if (S 10 a1.toNatClampNeg) = (-1 : Int32) then (qck (qin a1 9000) (qck (qin (S 11 a1.toNatClampNeg) 3000) (f_M_boundOf_44  S a1 a2 (S 16 (S 11 a1.toNatClampNeg).toNatClampNeg)))) else (qck (qin a1 9000) (qck (qin a1 9000) (qck (qin (((2 : Int32) * (S 10 a1.toNatClampNeg)) + (S 11 a1.toNatClampNeg)) 24) (f_M_boundOf_44  S a1 a2 (S 6 (((2 : Int32) * (S 10 a1.toNatClampNeg)) + (S 11 a1.toNatClampNeg)).toNatClampNeg))))))
set_option maxRecDepth 100000 in
set_option maxHeartbeats 4000000 in
theorem t_M_boundOf_44 {p : Program} {l : Launch} {e : Env} {R : Room} {s : State} {m : MethodId} {args : Array Value} {below : List Frame} {meth : Method} {c : Code} {Q : State → Prop} {D : va_G} {ad : Nat → Nat} {cI cZ : ClassId} {A : Nat → Prop} (F : CallFix p m c qb_M_boundOf 4 s args qtb "CaptureSubtypesModel") (hR : 0 ≤ R.frames ∧ 0 ≤ R.locals) (hK : va_K D qcl [(cI, .int), (cZ, .boolean)] s) (hN : qnests mns s) (hA : ∀ q, s.heap.size ≤ q → A q) {res : Int32} {S : (Nat → Nat → Int32)} (hQ : ∀ (H : Heap) (locs : List Loc) (pc : Nat) (ls : Array Slot), decode qb_M_boundOf pc = .ok (.ireturn, 1) → mW D ad cI cZ A s.heap S H locs → W p l e R s m args below meth c H locs 0 0 Q (F0 m pc ls [.int res])) (v1 v2 s1 : Int32) (hM : f_M_boundOf_44 S v1 v2 s1 = some res) {H : Heap} {locs : List Loc} {ls : Array Slot} (w : mW D ad cI cZ A s.heap S H locs) (hl : lv_has ls 4 [(0, .ref (ad 0)), (1, .int v1), (2, .int v2)]) : W p l e R s m args below meth c H locs 0 0 Q (F0 m 44 ls [.int s1]) := by
  unfold f_M_boundOf_44 at hM
  refine lv_istore_n (lv' := [(3, .int s1), (0, .ref (ad 0)), (1, .int v1), (2, .int v2)]) F.1 F.2.1 qd_M_boundOf_44 rfl hl (by decide) rfl (fun ls hl => ?_)
  refine lv_iload_n F.1 F.2.1 qd_M_boundOf_45 rfl (lv_at hl 0 rfl) ?_
  refine lv_if_ne (tgt := 53) F.1 F.2.1 qd_M_boundOf_46 (by decide) (fun hc1 => ?_) (fun hc1 => ?_)
  · rw [if_neg hc1] at hM
    refine lv_aload_n F.1 F.2.1 qd_M_boundOf_53 rfl (lv_at hl 1 rfl) ?_
    refine mg_M_first F hK w qk_665 qd_M_boundOf_54 ?_
    refine lv_iload_n F.1 F.2.1 qd_M_boundOf_57 rfl (lv_at hl 2 rfl) ?_
    obtain ⟨hi2, hM⟩ := qck_ok hM
    refine ml_M_first F hK w hi2 qd_M_boundOf_58 ?_
    refine lv_iconst (v := (-1)) F.1 F.2.1 qd_M_boundOf_59 (by decide) ?_
    refine lv_icmp_ne (tgt := 81) F.1 F.2.1 qd_M_boundOf_60 (by decide) (fun hc3 => ?_) (fun hc3 => ?_)
    · rw [if_neg hc3] at hM
      refine lv_aload_n F.1 F.2.1 qd_M_boundOf_81 rfl (lv_at hl 1 rfl) ?_
      refine mg_M_bound F hK w qk_660 qd_M_boundOf_82 ?_
      refine lv_iconst (v := 2) F.1 F.2.1 qd_M_boundOf_85 (by decide) ?_
      refine lv_iconst (v := 2) F.1 F.2.1 qd_M_boundOf_86 (by decide) ?_
      refine lv_aload_n F.1 F.2.1 qd_M_boundOf_87 rfl (lv_at hl 1 rfl) ?_
      refine mg_M_first F hK w qk_665 qd_M_boundOf_88 ?_
      refine lv_iload_n F.1 F.2.1 qd_M_boundOf_91 rfl (lv_at hl 2 rfl) ?_
      obtain ⟨hi4, hM⟩ := qck_ok hM
      refine ml_M_first F hK w hi4 qd_M_boundOf_92 ?_
      refine lv_imul F.1 F.2.1 qd_M_boundOf_93 ?_
      refine lv_aload_n F.1 F.2.1 qd_M_boundOf_94 rfl (lv_at hl 1 rfl) ?_
      refine mg_M_second F hK w qk_666 qd_M_boundOf_95 ?_
      refine lv_iload_n F.1 F.2.1 qd_M_boundOf_98 rfl (lv_at hl 2 rfl) ?_
      obtain ⟨hi5, hM⟩ := qck_ok hM
      refine ml_M_second F hK w hi5 qd_M_boundOf_99 ?_
      refine lv_iadd F.1 F.2.1 qd_M_boundOf_100 ?_
      refine lv_imul F.1 F.2.1 qd_M_boundOf_101 ?_
      refine lv_iload_n F.1 F.2.1 qd_M_boundOf_102 rfl (lv_at hl 3 rfl) ?_
      refine lv_iadd F.1 F.2.1 qd_M_boundOf_103 ?_
      obtain ⟨hi6, hM⟩ := qck_ok hM
      refine ml_M_bound F hK w hi6 qd_M_boundOf_104 ?_
      cases hM
      exact hQ _ _ _ _ qd_M_boundOf_105 w
    · rw [if_pos hc3] at hM
      refine lv_aload_n F.1 F.2.1 qd_M_boundOf_63 rfl (lv_at hl 1 rfl) ?_
      refine mg_M_caughtBound F hK w qk_670 qd_M_boundOf_64 ?_
      refine lv_iconst (v := 3) F.1 F.2.1 qd_M_boundOf_67 (by decide) ?_
      refine lv_aload_n F.1 F.2.1 qd_M_boundOf_68 rfl (lv_at hl 1 rfl) ?_
      refine mg_M_second F hK w qk_666 qd_M_boundOf_69 ?_
      refine lv_iload_n F.1 F.2.1 qd_M_boundOf_72 rfl (lv_at hl 2 rfl) ?_
      obtain ⟨hi7, hM⟩ := qck_ok hM
      refine ml_M_second F hK w hi7 qd_M_boundOf_73 ?_
      refine lv_imul F.1 F.2.1 qd_M_boundOf_74 ?_
      refine lv_iload_n F.1 F.2.1 qd_M_boundOf_75 rfl (lv_at hl 3 rfl) ?_
      refine lv_iadd F.1 F.2.1 qd_M_boundOf_76 ?_
      obtain ⟨hi8, hM⟩ := qck_ok hM
      refine ml_M_caughtBound F hK w hi8 qd_M_boundOf_77 ?_
      refine lv_goto (tgt := 105) F.1 F.2.1 qd_M_boundOf_78 (by decide) ?_
      cases hM
      exact hQ _ _ _ _ qd_M_boundOf_105 w
  · rw [if_pos hc1] at hM
    refine lv_iconst (v := 0) F.1 F.2.1 qd_M_boundOf_49 (by decide) ?_
    refine lv_goto (tgt := 105) F.1 F.2.1 qd_M_boundOf_50 (by decide) ?_
    cases hM
    exact hQ _ _ _ _ qd_M_boundOf_105 w
set_option maxRecDepth 100000 in
set_option maxHeartbeats 4000000 in
theorem t_M_boundOf {p : Program} {l : Launch} {e : Env} {R : Room} {s : State} {m : MethodId} {args : Array Value} {below : List Frame} {meth : Method} {c : Code} {Q : State → Prop} {D : va_G} {ad : Nat → Nat} {cI cZ : ClassId} {A : Nat → Prop} (F : CallFix p m c qb_M_boundOf 4 s args qtb "CaptureSubtypesModel") (hR : 0 ≤ R.frames ∧ 0 ≤ R.locals) (hK : va_K D qcl [(cI, .int), (cZ, .boolean)] s) (hN : qnests mns s) (hA : ∀ q, s.heap.size ≤ q → A q) {res : Int32} {S : (Nat → Nat → Int32)} (hQ : ∀ (H : Heap) (locs : List Loc) (pc : Nat) (ls : Array Slot), decode qb_M_boundOf pc = .ok (.ireturn, 1) → mW D ad cI cZ A s.heap S H locs → W p l e R s m args below meth c H locs 0 0 Q (F0 m pc ls [.int res])) (a1 a2 : Int32) (hM : f_M_boundOf S a1 a2 = some res) {H : Heap} {locs : List Loc} {ls : Array Slot} (w : mW D ad cI cZ A s.heap S H locs) (hl : lv_has ls 4 [(0, .ref (ad 0)), (1, .int a1), (2, .int a2)]) : W p l e R s m args below meth c H locs 0 0 Q (F0 m 0 ls []) := by
  unfold f_M_boundOf at hM
  refine lv_aload_n F.1 F.2.1 qd_M_boundOf_0 rfl (lv_at hl 0 rfl) ?_
  refine mg_M_first F hK w qk_665 qd_M_boundOf_1 ?_
  refine lv_iload_n F.1 F.2.1 qd_M_boundOf_4 rfl (lv_at hl 1 rfl) ?_
  obtain ⟨hi1, hM⟩ := qck_ok hM
  refine ml_M_first F hK w hi1 qd_M_boundOf_5 ?_
  refine lv_iconst (v := (-1)) F.1 F.2.1 qd_M_boundOf_6 (by decide) ?_
  refine lv_icmp_ne (tgt := 24) F.1 F.2.1 qd_M_boundOf_7 (by decide) (fun hc2 => ?_) (fun hc2 => ?_)
  · rw [if_neg hc2] at hM
    refine lv_aload_n F.1 F.2.1 qd_M_boundOf_24 rfl (lv_at hl 0 rfl) ?_
    refine mg_M_bounds F hK w qk_661 qd_M_boundOf_25 ?_
    refine lv_iconst (v := 2) F.1 F.2.1 qd_M_boundOf_28 (by decide) ?_
    refine lv_aload_n F.1 F.2.1 qd_M_boundOf_29 rfl (lv_at hl 0 rfl) ?_
    refine mg_M_first F hK w qk_665 qd_M_boundOf_30 ?_
    refine lv_iload_n F.1 F.2.1 qd_M_boundOf_33 rfl (lv_at hl 1 rfl) ?_
    obtain ⟨hi3, hM⟩ := qck_ok hM
    refine ml_M_first F hK w hi3 qd_M_boundOf_34 ?_
    refine lv_imul F.1 F.2.1 qd_M_boundOf_35 ?_
    refine lv_aload_n F.1 F.2.1 qd_M_boundOf_36 rfl (lv_at hl 0 rfl) ?_
    refine mg_M_second F hK w qk_666 qd_M_boundOf_37 ?_
    refine lv_iload_n F.1 F.2.1 qd_M_boundOf_40 rfl (lv_at hl 1 rfl) ?_
    obtain ⟨hi4, hM⟩ := qck_ok hM
    refine ml_M_second F hK w hi4 qd_M_boundOf_41 ?_
    refine lv_iadd F.1 F.2.1 qd_M_boundOf_42 ?_
    obtain ⟨hi5, hM⟩ := qck_ok hM
    refine ml_M_bounds F hK w hi5 qd_M_boundOf_43 ?_
    exact t_M_boundOf_44 F hR hK hN hA hQ  _ _ _ hM w (lv_sub hl [0, 1, 2] rfl)
  · rw [if_pos hc2] at hM
    refine lv_aload_n F.1 F.2.1 qd_M_boundOf_10 rfl (lv_at hl 0 rfl) ?_
    refine mg_M_caughtBounds F hK w qk_671 qd_M_boundOf_11 ?_
    refine lv_aload_n F.1 F.2.1 qd_M_boundOf_14 rfl (lv_at hl 0 rfl) ?_
    refine mg_M_second F hK w qk_666 qd_M_boundOf_15 ?_
    refine lv_iload_n F.1 F.2.1 qd_M_boundOf_18 rfl (lv_at hl 1 rfl) ?_
    obtain ⟨hi6, hM⟩ := qck_ok hM
    refine ml_M_second F hK w hi6 qd_M_boundOf_19 ?_
    obtain ⟨hi7, hM⟩ := qck_ok hM
    refine ml_M_caughtBounds F hK w hi7 qd_M_boundOf_20 ?_
    refine lv_goto (tgt := 44) F.1 F.2.1 qd_M_boundOf_21 (by decide) ?_
    exact t_M_boundOf_44 F hR hK hN hA hQ  _ _ _ hM w (lv_sub hl [0, 1, 2] rfl)
set_option maxRecDepth 100000 in
theorem c_M_boundOf (l : Launch) (D : va_G) (ad : Nat → Nat) (cI cZ : ClassId) {S : (Nat → Nat → Int32)} {a1 a2 : Int32} {res : Int32} (hM : f_M_boundOf S a1 a2 = some res) : mMi l qy_M_boundOf qb_M_boundOf 4 (some .int) { frames := 0, cells := 0, slots := 0, locals := 0 } D ad cI cZ S [.ref (ad 0), .int a1, .int a2] res S := m_ofi (by decide +kernel) (Nat.le_of_ble_eq_true rfl) (fun p e s m args below meth c Q A ls F hK hN hA w hl hQ => t_M_boundOf F ⟨Nat.le_refl _, Nat.le_refl _⟩ hK hN hA hQ a1 a2 hM w hl)
-- M_stepBounds
def f_M_stepBounds_73 (S : (Nat → Nat → Int32)) (v1 : Int32) : Option (Int32 × (Nat → Nat → Int32)) := qck (qin v1 3000) (qck (qin v1 3000) (some ((2 : Int32), (qwr (qwr S 25 v1.toNatClampNeg (2 : Int32)) 26 v1.toNatClampNeg (0 : Int32)))))
def f_M_stepBounds_17 (S : (Nat → Nat → Int32)) (v1 v2 v3 : Int32) : Option (Int32 × (Nat → Nat → Int32)) := qck (qin v2 9000) (if (S 9 v2.toNatClampNeg) = (3 : Int32) then (qck (qin v1 3000) ((f_M_boundCount S v2).bind (fun q4 => if q4 ≤ (S 26 v1.toNatClampNeg) then (f_M_stepBounds_73  S v1) else (qck (qin v1 3000) ((f_M_boundOf S v2 (S 26 v1.toNatClampNeg)).bind (fun q8 => qck (qin v1 3000) (qck (qin v1 3000) ((f_M_ask (qwr S 26 v1.toNatClampNeg ((S 26 v1.toNatClampNeg) + (1 : Int32))) q8 v3).bind (fun q12 => some ((2 : Int32), q12)))))))))) else (f_M_stepBounds_73  S v1))
def f_M_stepBounds (S : (Nat → Nat → Int32)) (a1 a2 a3 a4 : Int32) : Option (Int32 × (Nat → Nat → Int32)) := if a4 = (1 : Int32) then (qck (qin a1 3000) (if (S 26 a1.toNatClampNeg) ≤ 0 then (f_M_stepBounds_17  S a1 a2 a3) else (some ((1 : Int32), S)))) else (f_M_stepBounds_17  S a1 a2 a3)
set_option maxRecDepth 100000 in
set_option maxHeartbeats 4000000 in
theorem t_M_stepBounds_73 {p : Program} {l : Launch} {e : Env} {R : Room} {s : State} {m : MethodId} {args : Array Value} {below : List Frame} {meth : Method} {c : Code} {Q : State → Prop} {D : va_G} {ad : Nat → Nat} {cI cZ : ClassId} {A : Nat → Prop} (F : CallFix p m c qb_M_stepBounds 6 s args qtb "CaptureSubtypesModel") (hR : 1 ≤ R.frames ∧ 23 ≤ R.locals) (hK : va_K D qcl [(cI, .int), (cZ, .boolean)] s) (hN : qnests mns s) (hA : ∀ q, s.heap.size ≤ q → A q) {res : (Int32 × (Nat → Nat → Int32))} (hQ : ∀ (H : Heap) (locs : List Loc) (pc : Nat) (ls : Array Slot), decode qb_M_stepBounds pc = .ok (.ireturn, 1) → mW D ad cI cZ A s.heap res.2 H locs → W p l e R s m args below meth c H locs 0 0 Q (F0 m pc ls [.int res.1])) (S : (Nat → Nat → Int32)) (v1 : Int32) (hM : f_M_stepBounds_73 S v1 = some res) {H : Heap} {locs : List Loc} {ls : Array Slot} (w : mW D ad cI cZ A s.heap S H locs) (hl : lv_has ls 6 [(0, .ref (ad 0)), (1, .int v1)]) : W p l e R s m args below meth c H locs 0 0 Q (F0 m 73 ls []) := by
  unfold f_M_stepBounds_73 at hM
  refine lv_aload_n F.1 F.2.1 qd_M_stepBounds_73 rfl (lv_at hl 0 rfl) ?_
  refine mg_M_askState F hK w qk_680 qd_M_stepBounds_74 ?_
  refine lv_iload_n F.1 F.2.1 qd_M_stepBounds_77 rfl (lv_at hl 1 rfl) ?_
  refine lv_iconst (v := 2) F.1 F.2.1 qd_M_stepBounds_78 (by decide) ?_
  obtain ⟨hi1, hM⟩ := qck_ok hM
  refine ms_M_askState F hK w hi1 qd_M_stepBounds_79 (fun H locs w => ?_)
  refine lv_aload_n F.1 F.2.1 qd_M_stepBounds_80 rfl (lv_at hl 0 rfl) ?_
  refine mg_M_askStep F hK w qk_681 qd_M_stepBounds_81 ?_
  refine lv_iload_n F.1 F.2.1 qd_M_stepBounds_84 rfl (lv_at hl 1 rfl) ?_
  refine lv_iconst (v := 0) F.1 F.2.1 qd_M_stepBounds_85 (by decide) ?_
  obtain ⟨hi2, hM⟩ := qck_ok hM
  refine ms_M_askStep F hK w hi2 qd_M_stepBounds_86 (fun H locs w => ?_)
  refine lv_iconst (v := 2) F.1 F.2.1 qd_M_stepBounds_87 (by decide) ?_
  cases hM
  exact hQ _ _ _ _ qd_M_stepBounds_88 w
set_option maxRecDepth 100000 in
set_option maxHeartbeats 4000000 in
theorem t_M_stepBounds_17 {p : Program} {l : Launch} {e : Env} {R : Room} {s : State} {m : MethodId} {args : Array Value} {below : List Frame} {meth : Method} {c : Code} {Q : State → Prop} {D : va_G} {ad : Nat → Nat} {cI cZ : ClassId} {A : Nat → Prop} (F : CallFix p m c qb_M_stepBounds 6 s args qtb "CaptureSubtypesModel") (hR : 1 ≤ R.frames ∧ 23 ≤ R.locals) (hK : va_K D qcl [(cI, .int), (cZ, .boolean)] s) (hN : qnests mns s) (hA : ∀ q, s.heap.size ≤ q → A q) {res : (Int32 × (Nat → Nat → Int32))} (hQ : ∀ (H : Heap) (locs : List Loc) (pc : Nat) (ls : Array Slot), decode qb_M_stepBounds pc = .ok (.ireturn, 1) → mW D ad cI cZ A s.heap res.2 H locs → W p l e R s m args below meth c H locs 0 0 Q (F0 m pc ls [.int res.1])) (S : (Nat → Nat → Int32)) (v1 v2 v3 : Int32) (hM : f_M_stepBounds_17 S v1 v2 v3 = some res) {H : Heap} {locs : List Loc} {ls : Array Slot} (w : mW D ad cI cZ A s.heap S H locs) (hl : lv_has ls 6 [(0, .ref (ad 0)), (1, .int v1), (2, .int v2), (3, .int v3)]) : W p l e R s m args below meth c H locs 0 0 Q (F0 m 17 ls []) := by
  unfold f_M_stepBounds_17 at hM
  refine lv_aload_n F.1 F.2.1 qd_M_stepBounds_17 rfl (lv_at hl 0 rfl) ?_
  refine mg_M_sort F hK w qk_664 qd_M_stepBounds_18 ?_
  refine lv_iload_n F.1 F.2.1 qd_M_stepBounds_21 rfl (lv_at hl 2 rfl) ?_
  obtain ⟨hi1, hM⟩ := qck_ok hM
  refine ml_M_sort F hK w hi1 qd_M_stepBounds_22 ?_
  refine lv_iconst (v := 3) F.1 F.2.1 qd_M_stepBounds_23 (by decide) ?_
  refine lv_icmp_ne (tgt := 73) F.1 F.2.1 qd_M_stepBounds_24 (by decide) (fun hc2 => ?_) (fun hc2 => ?_)
  · rw [if_neg hc2] at hM
    exact t_M_stepBounds_73 F hR hK hN hA hQ  _ _ hM w (lv_sub hl [0, 1] rfl)
  · rw [if_pos hc2] at hM
    refine lv_aload_n F.1 F.2.1 qd_M_stepBounds_27 rfl (lv_at hl 0 rfl) ?_
    refine mg_M_askStep F hK w qk_681 qd_M_stepBounds_28 ?_
    refine lv_iload_n F.1 F.2.1 qd_M_stepBounds_31 rfl (lv_at hl 1 rfl) ?_
    obtain ⟨hi3, hM⟩ := qck_ok hM
    refine ml_M_askStep F hK w hi3 qd_M_stepBounds_32 ?_
    refine lv_aload_n F.1 F.2.1 qd_M_stepBounds_33 rfl (lv_at hl 0 rfl) ?_
    refine lv_iload_n F.1 F.2.1 qd_M_stepBounds_34 rfl (lv_at hl 2 rfl) ?_
    obtain ⟨q4, hq5, hM⟩ := qbd hM
    refine m_calli F hK hN hA w (c_M_boundCount l D ad cI cZ hq5) qk_880 qk_882 qs_M_boundCount qk_8 qk_883 qv_M_boundCount rfl rfl ⟨Nat.le_trans (by decide) hR.1, Nat.le_trans (by decide) hR.2⟩ (ci := 6) rfl (j := 0) rfl hl.1 rfl (Nat.le_of_ble_eq_true rfl) qd_M_stepBounds_35 (fun H locs w => ?_)
    refine lv_icmp_ge (tgt := 73) F.1 F.2.1 qd_M_stepBounds_38 (by decide) (fun hc6 => ?_) (fun hc6 => ?_)
    · rw [if_pos hc6] at hM
      exact t_M_stepBounds_73 F hR hK hN hA hQ  _ _ hM w (lv_sub hl [0, 1] rfl)
    · rw [if_neg hc6] at hM
      refine lv_aload_n F.1 F.2.1 qd_M_stepBounds_41 rfl (lv_at hl 0 rfl) ?_
      refine lv_iload_n F.1 F.2.1 qd_M_stepBounds_42 rfl (lv_at hl 2 rfl) ?_
      refine lv_aload_n F.1 F.2.1 qd_M_stepBounds_43 rfl (lv_at hl 0 rfl) ?_
      refine mg_M_askStep F hK w qk_681 qd_M_stepBounds_44 ?_
      refine lv_iload_n F.1 F.2.1 qd_M_stepBounds_47 rfl (lv_at hl 1 rfl) ?_
      obtain ⟨hi7, hM⟩ := qck_ok hM
      refine ml_M_askStep F hK w hi7 qd_M_stepBounds_48 ?_
      obtain ⟨q8, hq9, hM⟩ := qbd hM
      refine m_calli F hK hN hA w (c_M_boundOf l D ad cI cZ hq9) qk_884 qk_886 qs_M_boundOf qk_8 qk_887 qv_M_boundOf rfl rfl ⟨Nat.le_trans (by decide) hR.1, Nat.le_trans (by decide) hR.2⟩ (ci := 6) rfl (j := 0) rfl hl.1 rfl (Nat.le_of_ble_eq_true rfl) qd_M_stepBounds_49 (fun H locs w => ?_)
      refine lv_istore (lv' := [(5, .int q8), (0, .ref (ad 0)), (1, .int v1), (2, .int v2), (3, .int v3)]) F.1 F.2.1 qd_M_stepBounds_52 hl (by decide) rfl (fun ls hl => ?_)
      refine lv_aload_n F.1 F.2.1 qd_M_stepBounds_54 rfl (lv_at hl 1 rfl) ?_
      refine mg_M_askStep F hK w qk_681 qd_M_stepBounds_55 ?_
      refine lv_iload_n F.1 F.2.1 qd_M_stepBounds_58 rfl (lv_at hl 2 rfl) ?_
      refine lv_dup2_11 F.1 F.2.1 qd_M_stepBounds_59 rfl rfl ?_
      obtain ⟨hi10, hM⟩ := qck_ok hM
      refine ml_M_askStep F hK w hi10 qd_M_stepBounds_60 ?_
      refine lv_iconst (v := 1) F.1 F.2.1 qd_M_stepBounds_61 (by decide) ?_
      refine lv_iadd F.1 F.2.1 qd_M_stepBounds_62 ?_
      obtain ⟨hi11, hM⟩ := qck_ok hM
      refine ms_M_askStep F hK w hi11 qd_M_stepBounds_63 (fun H locs w => ?_)
      refine lv_aload_n F.1 F.2.1 qd_M_stepBounds_64 rfl (lv_at hl 1 rfl) ?_
      refine lv_iload F.1 F.2.1 qd_M_stepBounds_65 (lv_at hl 0 rfl) ?_
      refine lv_iload_n F.1 F.2.1 qd_M_stepBounds_67 rfl (lv_at hl 4 rfl) ?_
      obtain ⟨q12, hq13, hM⟩ := qbd hM
      refine m_callv F hK hN hA w (c_M_ask l D ad cI cZ hq13) qk_868 qk_870 qs_M_ask qk_8 qk_871 qv_M_ask rfl rfl ⟨Nat.le_trans (by decide) hR.1, Nat.le_trans (by decide) hR.2⟩ (ci := 6) rfl (j := 0) rfl hl.1 rfl (Nat.le_of_ble_eq_true rfl) qd_M_stepBounds_68 (fun H locs w => ?_)
      refine lv_iconst (v := 2) F.1 F.2.1 qd_M_stepBounds_71 (by decide) ?_
      cases hM
      exact hQ _ _ _ _ qd_M_stepBounds_72 w
set_option maxRecDepth 100000 in
set_option maxHeartbeats 4000000 in
theorem t_M_stepBounds {p : Program} {l : Launch} {e : Env} {R : Room} {s : State} {m : MethodId} {args : Array Value} {below : List Frame} {meth : Method} {c : Code} {Q : State → Prop} {D : va_G} {ad : Nat → Nat} {cI cZ : ClassId} {A : Nat → Prop} (F : CallFix p m c qb_M_stepBounds 6 s args qtb "CaptureSubtypesModel") (hR : 1 ≤ R.frames ∧ 23 ≤ R.locals) (hK : va_K D qcl [(cI, .int), (cZ, .boolean)] s) (hN : qnests mns s) (hA : ∀ q, s.heap.size ≤ q → A q) {res : (Int32 × (Nat → Nat → Int32))} (hQ : ∀ (H : Heap) (locs : List Loc) (pc : Nat) (ls : Array Slot), decode qb_M_stepBounds pc = .ok (.ireturn, 1) → mW D ad cI cZ A s.heap res.2 H locs → W p l e R s m args below meth c H locs 0 0 Q (F0 m pc ls [.int res.1])) (S : (Nat → Nat → Int32)) (a1 a2 a3 a4 : Int32) (hM : f_M_stepBounds S a1 a2 a3 a4 = some res) {H : Heap} {locs : List Loc} {ls : Array Slot} (w : mW D ad cI cZ A s.heap S H locs) (hl : lv_has ls 6 [(0, .ref (ad 0)), (1, .int a1), (2, .int a2), (3, .int a3), (4, .int a4)]) : W p l e R s m args below meth c H locs 0 0 Q (F0 m 0 ls []) := by
  unfold f_M_stepBounds at hM
  refine lv_iload F.1 F.2.1 qd_M_stepBounds_0 (lv_at hl 4 rfl) ?_
  refine lv_iconst (v := 1) F.1 F.2.1 qd_M_stepBounds_2 (by decide) ?_
  refine lv_icmp_ne (tgt := 17) F.1 F.2.1 qd_M_stepBounds_3 (by decide) (fun hc1 => ?_) (fun hc1 => ?_)
  · rw [if_neg hc1] at hM
    exact t_M_stepBounds_17 F hR hK hN hA hQ  _ _ _ _ hM w (lv_sub hl [0, 1, 2, 3] rfl)
  · rw [if_pos hc1] at hM
    refine lv_aload_n F.1 F.2.1 qd_M_stepBounds_6 rfl (lv_at hl 0 rfl) ?_
    refine mg_M_askStep F hK w qk_681 qd_M_stepBounds_7 ?_
    refine lv_iload_n F.1 F.2.1 qd_M_stepBounds_10 rfl (lv_at hl 1 rfl) ?_
    obtain ⟨hi2, hM⟩ := qck_ok hM
    refine ml_M_askStep F hK w hi2 qd_M_stepBounds_11 ?_
    refine lv_if_le (tgt := 17) F.1 F.2.1 qd_M_stepBounds_12 (by decide) (fun hc3 => ?_) (fun hc3 => ?_)
    · rw [if_pos hc3] at hM
      exact t_M_stepBounds_17 F hR hK hN hA hQ  _ _ _ _ hM w (lv_sub hl [0, 1, 2, 3] rfl)
    · rw [if_neg hc3] at hM
      refine lv_iconst (v := 1) F.1 F.2.1 qd_M_stepBounds_15 (by decide) ?_
      cases hM
      exact hQ _ _ _ _ qd_M_stepBounds_16 w
set_option maxRecDepth 100000 in
theorem c_M_stepBounds (l : Launch) (D : va_G) (ad : Nat → Nat) (cI cZ : ClassId) {S : (Nat → Nat → Int32)} {a1 a2 a3 a4 : Int32} {res : (Int32 × (Nat → Nat → Int32))} (hM : f_M_stepBounds S a1 a2 a3 a4 = some res) : mMi l qy_M_stepBounds qb_M_stepBounds 6 (some .int) { frames := 1, cells := 0, slots := 0, locals := 23 } D ad cI cZ S [.ref (ad 0), .int a1, .int a2, .int a3, .int a4] res.1 res.2 := m_ofi (by decide +kernel) (Nat.le_of_ble_eq_true rfl) (fun p e s m args below meth c Q A ls F hK hN hA w hl hQ => t_M_stepBounds F ⟨Nat.le_refl _, Nat.le_refl _⟩ hK hN hA hQ S a1 a2 a3 a4 hM w hl)
-- M_lowOf
def f_M_lowOf (S : (Nat → Nat → Int32)) (a1 : Int32) : Option Int32 := qck (qin a1 9000) (if (S 10 a1.toNatClampNeg) = (-1 : Int32) then (qck (qin a1 9000) (qck (qin (S 11 a1.toNatClampNeg) 3000) (some (S 17 (S 11 a1.toNatClampNeg).toNatClampNeg)))) else (some (-1 : Int32)))
set_option maxRecDepth 100000 in
set_option maxHeartbeats 4000000 in
theorem t_M_lowOf {p : Program} {l : Launch} {e : Env} {R : Room} {s : State} {m : MethodId} {args : Array Value} {below : List Frame} {meth : Method} {c : Code} {Q : State → Prop} {D : va_G} {ad : Nat → Nat} {cI cZ : ClassId} {A : Nat → Prop} (F : CallFix p m c qb_M_lowOf 2 s args qtb "CaptureSubtypesModel") (hR : 0 ≤ R.frames ∧ 0 ≤ R.locals) (hK : va_K D qcl [(cI, .int), (cZ, .boolean)] s) (hN : qnests mns s) (hA : ∀ q, s.heap.size ≤ q → A q) {res : Int32} {S : (Nat → Nat → Int32)} (hQ : ∀ (H : Heap) (locs : List Loc) (pc : Nat) (ls : Array Slot), decode qb_M_lowOf pc = .ok (.ireturn, 1) → mW D ad cI cZ A s.heap S H locs → W p l e R s m args below meth c H locs 0 0 Q (F0 m pc ls [.int res])) (a1 : Int32) (hM : f_M_lowOf S a1 = some res) {H : Heap} {locs : List Loc} {ls : Array Slot} (w : mW D ad cI cZ A s.heap S H locs) (hl : lv_has ls 2 [(0, .ref (ad 0)), (1, .int a1)]) : W p l e R s m args below meth c H locs 0 0 Q (F0 m 0 ls []) := by
  unfold f_M_lowOf at hM
  refine lv_aload_n F.1 F.2.1 qd_M_lowOf_0 rfl (lv_at hl 0 rfl) ?_
  refine mg_M_first F hK w qk_665 qd_M_lowOf_1 ?_
  refine lv_iload_n F.1 F.2.1 qd_M_lowOf_4 rfl (lv_at hl 1 rfl) ?_
  obtain ⟨hi1, hM⟩ := qck_ok hM
  refine ml_M_first F hK w hi1 qd_M_lowOf_5 ?_
  refine lv_iconst (v := (-1)) F.1 F.2.1 qd_M_lowOf_6 (by decide) ?_
  refine lv_icmp_ne (tgt := 24) F.1 F.2.1 qd_M_lowOf_7 (by decide) (fun hc2 => ?_) (fun hc2 => ?_)
  · rw [if_neg hc2] at hM
    refine lv_iconst (v := (-1)) F.1 F.2.1 qd_M_lowOf_24 (by decide) ?_
    cases hM
    exact hQ _ _ _ _ qd_M_lowOf_25 w
  · rw [if_pos hc2] at hM
    refine lv_aload_n F.1 F.2.1 qd_M_lowOf_10 rfl (lv_at hl 0 rfl) ?_
    refine mg_M_caughtLow F hK w qk_672 qd_M_lowOf_11 ?_
    refine lv_aload_n F.1 F.2.1 qd_M_lowOf_14 rfl (lv_at hl 0 rfl) ?_
    refine mg_M_second F hK w qk_666 qd_M_lowOf_15 ?_
    refine lv_iload_n F.1 F.2.1 qd_M_lowOf_18 rfl (lv_at hl 1 rfl) ?_
    obtain ⟨hi3, hM⟩ := qck_ok hM
    refine ml_M_second F hK w hi3 qd_M_lowOf_19 ?_
    obtain ⟨hi4, hM⟩ := qck_ok hM
    refine ml_M_caughtLow F hK w hi4 qd_M_lowOf_20 ?_
    refine lv_goto (tgt := 25) F.1 F.2.1 qd_M_lowOf_21 (by decide) ?_
    cases hM
    exact hQ _ _ _ _ qd_M_lowOf_25 w
set_option maxRecDepth 100000 in
theorem c_M_lowOf (l : Launch) (D : va_G) (ad : Nat → Nat) (cI cZ : ClassId) {S : (Nat → Nat → Int32)} {a1 : Int32} {res : Int32} (hM : f_M_lowOf S a1 = some res) : mMi l qy_M_lowOf qb_M_lowOf 2 (some .int) { frames := 0, cells := 0, slots := 0, locals := 0 } D ad cI cZ S [.ref (ad 0), .int a1] res S := m_ofi (by decide +kernel) (Nat.le_of_ble_eq_true rfl) (fun p e s m args below meth c Q A ls F hK hN hA w hl hQ => t_M_lowOf F ⟨Nat.le_refl _, Nat.le_refl _⟩ hK hN hA hQ a1 hM w hl)
-- M_stepLow
def f_M_stepLow_64 (S : (Nat → Nat → Int32)) (v1 : Int32) : Option (Int32 × (Nat → Nat → Int32)) := qck (qin v1 3000) (qck (qin v1 3000) (some ((2 : Int32), (qwr (qwr S 25 v1.toNatClampNeg (3 : Int32)) 26 v1.toNatClampNeg (0 : Int32)))))
def f_M_stepLow_17 (S : (Nat → Nat → Int32)) (v1 v2 v3 : Int32) : Option (Int32 × (Nat → Nat → Int32)) := qck (qin v1 3000) (if (S 26 v1.toNatClampNeg) = 0 then (qck (qin v3 9000) (if (S 9 v3.toNatClampNeg) = (3 : Int32) then ((f_M_lowOf S v3).bind (fun q5 => if q5 = (-1 : Int32) then (f_M_stepLow_64  S v1) else (qck (qin v1 3000) ((f_M_lowOf (qwr S 26 v1.toNatClampNeg (1 : Int32)) v3).bind (fun q9 => (f_M_ask (qwr S 26 v1.toNatClampNeg (1 : Int32)) v2 q9).bind (fun q11 => some ((2 : Int32), q11))))))) else (f_M_stepLow_64  S v1))) else (f_M_stepLow_64  S v1))
def f_M_stepLow (S : (Nat → Nat → Int32)) (a1 a2 a3 a4 : Int32) : Option (Int32 × (Nat → Nat → Int32)) := qck (qin a1 3000) (if (S 26 a1.toNatClampNeg) ≤ 0 then (f_M_stepLow_17  S a1 a2 a3) else (if a4 = (1 : Int32) then (some ((1 : Int32), S)) else (f_M_stepLow_17  S a1 a2 a3)))
set_option maxRecDepth 100000 in
set_option maxHeartbeats 4000000 in
theorem t_M_stepLow_64 {p : Program} {l : Launch} {e : Env} {R : Room} {s : State} {m : MethodId} {args : Array Value} {below : List Frame} {meth : Method} {c : Code} {Q : State → Prop} {D : va_G} {ad : Nat → Nat} {cI cZ : ClassId} {A : Nat → Prop} (F : CallFix p m c qb_M_stepLow 5 s args qtb "CaptureSubtypesModel") (hR : 1 ≤ R.frames ∧ 22 ≤ R.locals) (hK : va_K D qcl [(cI, .int), (cZ, .boolean)] s) (hN : qnests mns s) (hA : ∀ q, s.heap.size ≤ q → A q) {res : (Int32 × (Nat → Nat → Int32))} (hQ : ∀ (H : Heap) (locs : List Loc) (pc : Nat) (ls : Array Slot), decode qb_M_stepLow pc = .ok (.ireturn, 1) → mW D ad cI cZ A s.heap res.2 H locs → W p l e R s m args below meth c H locs 0 0 Q (F0 m pc ls [.int res.1])) (S : (Nat → Nat → Int32)) (v1 : Int32) (hM : f_M_stepLow_64 S v1 = some res) {H : Heap} {locs : List Loc} {ls : Array Slot} (w : mW D ad cI cZ A s.heap S H locs) (hl : lv_has ls 5 [(0, .ref (ad 0)), (1, .int v1)]) : W p l e R s m args below meth c H locs 0 0 Q (F0 m 64 ls []) := by
  unfold f_M_stepLow_64 at hM
  refine lv_aload_n F.1 F.2.1 qd_M_stepLow_64 rfl (lv_at hl 0 rfl) ?_
  refine mg_M_askState F hK w qk_680 qd_M_stepLow_65 ?_
  refine lv_iload_n F.1 F.2.1 qd_M_stepLow_68 rfl (lv_at hl 1 rfl) ?_
  refine lv_iconst (v := 3) F.1 F.2.1 qd_M_stepLow_69 (by decide) ?_
  obtain ⟨hi1, hM⟩ := qck_ok hM
  refine ms_M_askState F hK w hi1 qd_M_stepLow_70 (fun H locs w => ?_)
  refine lv_aload_n F.1 F.2.1 qd_M_stepLow_71 rfl (lv_at hl 0 rfl) ?_
  refine mg_M_askStep F hK w qk_681 qd_M_stepLow_72 ?_
  refine lv_iload_n F.1 F.2.1 qd_M_stepLow_75 rfl (lv_at hl 1 rfl) ?_
  refine lv_iconst (v := 0) F.1 F.2.1 qd_M_stepLow_76 (by decide) ?_
  obtain ⟨hi2, hM⟩ := qck_ok hM
  refine ms_M_askStep F hK w hi2 qd_M_stepLow_77 (fun H locs w => ?_)
  refine lv_iconst (v := 2) F.1 F.2.1 qd_M_stepLow_78 (by decide) ?_
  cases hM
  exact hQ _ _ _ _ qd_M_stepLow_79 w
set_option maxRecDepth 100000 in
set_option maxHeartbeats 4000000 in
theorem t_M_stepLow_17 {p : Program} {l : Launch} {e : Env} {R : Room} {s : State} {m : MethodId} {args : Array Value} {below : List Frame} {meth : Method} {c : Code} {Q : State → Prop} {D : va_G} {ad : Nat → Nat} {cI cZ : ClassId} {A : Nat → Prop} (F : CallFix p m c qb_M_stepLow 5 s args qtb "CaptureSubtypesModel") (hR : 1 ≤ R.frames ∧ 22 ≤ R.locals) (hK : va_K D qcl [(cI, .int), (cZ, .boolean)] s) (hN : qnests mns s) (hA : ∀ q, s.heap.size ≤ q → A q) {res : (Int32 × (Nat → Nat → Int32))} (hQ : ∀ (H : Heap) (locs : List Loc) (pc : Nat) (ls : Array Slot), decode qb_M_stepLow pc = .ok (.ireturn, 1) → mW D ad cI cZ A s.heap res.2 H locs → W p l e R s m args below meth c H locs 0 0 Q (F0 m pc ls [.int res.1])) (S : (Nat → Nat → Int32)) (v1 v2 v3 : Int32) (hM : f_M_stepLow_17 S v1 v2 v3 = some res) {H : Heap} {locs : List Loc} {ls : Array Slot} (w : mW D ad cI cZ A s.heap S H locs) (hl : lv_has ls 5 [(0, .ref (ad 0)), (1, .int v1), (2, .int v2), (3, .int v3)]) : W p l e R s m args below meth c H locs 0 0 Q (F0 m 17 ls []) := by
  unfold f_M_stepLow_17 at hM
  refine lv_aload_n F.1 F.2.1 qd_M_stepLow_17 rfl (lv_at hl 0 rfl) ?_
  refine mg_M_askStep F hK w qk_681 qd_M_stepLow_18 ?_
  refine lv_iload_n F.1 F.2.1 qd_M_stepLow_21 rfl (lv_at hl 1 rfl) ?_
  obtain ⟨hi1, hM⟩ := qck_ok hM
  refine ml_M_askStep F hK w hi1 qd_M_stepLow_22 ?_
  refine lv_if_ne (tgt := 64) F.1 F.2.1 qd_M_stepLow_23 (by decide) (fun hc2 => ?_) (fun hc2 => ?_)
  · rw [if_neg hc2] at hM
    exact t_M_stepLow_64 F hR hK hN hA hQ  _ _ hM w (lv_sub hl [0, 1] rfl)
  · rw [if_pos hc2] at hM
    refine lv_aload_n F.1 F.2.1 qd_M_stepLow_26 rfl (lv_at hl 0 rfl) ?_
    refine mg_M_sort F hK w qk_664 qd_M_stepLow_27 ?_
    refine lv_iload_n F.1 F.2.1 qd_M_stepLow_30 rfl (lv_at hl 3 rfl) ?_
    obtain ⟨hi3, hM⟩ := qck_ok hM
    refine ml_M_sort F hK w hi3 qd_M_stepLow_31 ?_
    refine lv_iconst (v := 3) F.1 F.2.1 qd_M_stepLow_32 (by decide) ?_
    refine lv_icmp_ne (tgt := 64) F.1 F.2.1 qd_M_stepLow_33 (by decide) (fun hc4 => ?_) (fun hc4 => ?_)
    · rw [if_neg hc4] at hM
      exact t_M_stepLow_64 F hR hK hN hA hQ  _ _ hM w (lv_sub hl [0, 1] rfl)
    · rw [if_pos hc4] at hM
      refine lv_aload_n F.1 F.2.1 qd_M_stepLow_36 rfl (lv_at hl 0 rfl) ?_
      refine lv_iload_n F.1 F.2.1 qd_M_stepLow_37 rfl (lv_at hl 3 rfl) ?_
      obtain ⟨q5, hq6, hM⟩ := qbd hM
      refine m_calli F hK hN hA w (c_M_lowOf l D ad cI cZ hq6) qk_892 qk_894 qs_M_lowOf qk_8 qk_895 qv_M_lowOf rfl rfl ⟨Nat.le_trans (by decide) hR.1, Nat.le_trans (by decide) hR.2⟩ (ci := 6) rfl (j := 0) rfl hl.1 rfl (Nat.le_of_ble_eq_true rfl) qd_M_stepLow_38 (fun H locs w => ?_)
      refine lv_iconst (v := (-1)) F.1 F.2.1 qd_M_stepLow_41 (by decide) ?_
      refine lv_icmp_eq (tgt := 64) F.1 F.2.1 qd_M_stepLow_42 (by decide) (fun hc7 => ?_) (fun hc7 => ?_)
      · rw [if_pos hc7] at hM
        exact t_M_stepLow_64 F hR hK hN hA hQ  _ _ hM w (lv_sub hl [0, 1] rfl)
      · rw [if_neg hc7] at hM
        refine lv_aload_n F.1 F.2.1 qd_M_stepLow_45 rfl (lv_at hl 0 rfl) ?_
        refine mg_M_askStep F hK w qk_681 qd_M_stepLow_46 ?_
        refine lv_iload_n F.1 F.2.1 qd_M_stepLow_49 rfl (lv_at hl 1 rfl) ?_
        refine lv_iconst (v := 1) F.1 F.2.1 qd_M_stepLow_50 (by decide) ?_
        obtain ⟨hi8, hM⟩ := qck_ok hM
        refine ms_M_askStep F hK w hi8 qd_M_stepLow_51 (fun H locs w => ?_)
        refine lv_aload_n F.1 F.2.1 qd_M_stepLow_52 rfl (lv_at hl 0 rfl) ?_
        refine lv_iload_n F.1 F.2.1 qd_M_stepLow_53 rfl (lv_at hl 2 rfl) ?_
        refine lv_aload_n F.1 F.2.1 qd_M_stepLow_54 rfl (lv_at hl 0 rfl) ?_
        refine lv_iload_n F.1 F.2.1 qd_M_stepLow_55 rfl (lv_at hl 3 rfl) ?_
        obtain ⟨q9, hq10, hM⟩ := qbd hM
        refine m_calli F hK hN hA w (c_M_lowOf l D ad cI cZ hq10) qk_892 qk_894 qs_M_lowOf qk_8 qk_895 qv_M_lowOf rfl rfl ⟨Nat.le_trans (by decide) hR.1, Nat.le_trans (by decide) hR.2⟩ (ci := 6) rfl (j := 0) rfl hl.1 rfl (Nat.le_of_ble_eq_true rfl) qd_M_stepLow_56 (fun H locs w => ?_)
        obtain ⟨q11, hq12, hM⟩ := qbd hM
        refine m_callv F hK hN hA w (c_M_ask l D ad cI cZ hq12) qk_868 qk_870 qs_M_ask qk_8 qk_871 qv_M_ask rfl rfl ⟨Nat.le_trans (by decide) hR.1, Nat.le_trans (by decide) hR.2⟩ (ci := 6) rfl (j := 0) rfl hl.1 rfl (Nat.le_of_ble_eq_true rfl) qd_M_stepLow_59 (fun H locs w => ?_)
        refine lv_iconst (v := 2) F.1 F.2.1 qd_M_stepLow_62 (by decide) ?_
        cases hM
        exact hQ _ _ _ _ qd_M_stepLow_63 w
set_option maxRecDepth 100000 in
set_option maxHeartbeats 4000000 in
theorem t_M_stepLow {p : Program} {l : Launch} {e : Env} {R : Room} {s : State} {m : MethodId} {args : Array Value} {below : List Frame} {meth : Method} {c : Code} {Q : State → Prop} {D : va_G} {ad : Nat → Nat} {cI cZ : ClassId} {A : Nat → Prop} (F : CallFix p m c qb_M_stepLow 5 s args qtb "CaptureSubtypesModel") (hR : 1 ≤ R.frames ∧ 22 ≤ R.locals) (hK : va_K D qcl [(cI, .int), (cZ, .boolean)] s) (hN : qnests mns s) (hA : ∀ q, s.heap.size ≤ q → A q) {res : (Int32 × (Nat → Nat → Int32))} (hQ : ∀ (H : Heap) (locs : List Loc) (pc : Nat) (ls : Array Slot), decode qb_M_stepLow pc = .ok (.ireturn, 1) → mW D ad cI cZ A s.heap res.2 H locs → W p l e R s m args below meth c H locs 0 0 Q (F0 m pc ls [.int res.1])) (S : (Nat → Nat → Int32)) (a1 a2 a3 a4 : Int32) (hM : f_M_stepLow S a1 a2 a3 a4 = some res) {H : Heap} {locs : List Loc} {ls : Array Slot} (w : mW D ad cI cZ A s.heap S H locs) (hl : lv_has ls 5 [(0, .ref (ad 0)), (1, .int a1), (2, .int a2), (3, .int a3), (4, .int a4)]) : W p l e R s m args below meth c H locs 0 0 Q (F0 m 0 ls []) := by
  unfold f_M_stepLow at hM
  refine lv_aload_n F.1 F.2.1 qd_M_stepLow_0 rfl (lv_at hl 0 rfl) ?_
  refine mg_M_askStep F hK w qk_681 qd_M_stepLow_1 ?_
  refine lv_iload_n F.1 F.2.1 qd_M_stepLow_4 rfl (lv_at hl 1 rfl) ?_
  obtain ⟨hi1, hM⟩ := qck_ok hM
  refine ml_M_askStep F hK w hi1 qd_M_stepLow_5 ?_
  refine lv_if_le (tgt := 17) F.1 F.2.1 qd_M_stepLow_6 (by decide) (fun hc2 => ?_) (fun hc2 => ?_)
  · rw [if_pos hc2] at hM
    exact t_M_stepLow_17 F hR hK hN hA hQ  _ _ _ _ hM w (lv_sub hl [0, 1, 2, 3] rfl)
  · rw [if_neg hc2] at hM
    refine lv_iload F.1 F.2.1 qd_M_stepLow_9 (lv_at hl 4 rfl) ?_
    refine lv_iconst (v := 1) F.1 F.2.1 qd_M_stepLow_11 (by decide) ?_
    refine lv_icmp_ne (tgt := 17) F.1 F.2.1 qd_M_stepLow_12 (by decide) (fun hc3 => ?_) (fun hc3 => ?_)
    · rw [if_neg hc3] at hM
      exact t_M_stepLow_17 F hR hK hN hA hQ  _ _ _ _ hM w (lv_sub hl [0, 1, 2, 3] rfl)
    · rw [if_pos hc3] at hM
      refine lv_iconst (v := 1) F.1 F.2.1 qd_M_stepLow_15 (by decide) ?_
      cases hM
      exact hQ _ _ _ _ qd_M_stepLow_16 w
set_option maxRecDepth 100000 in
theorem c_M_stepLow (l : Launch) (D : va_G) (ad : Nat → Nat) (cI cZ : ClassId) {S : (Nat → Nat → Int32)} {a1 a2 a3 a4 : Int32} {res : (Int32 × (Nat → Nat → Int32))} (hM : f_M_stepLow S a1 a2 a3 a4 = some res) : mMi l qy_M_stepLow qb_M_stepLow 5 (some .int) { frames := 1, cells := 0, slots := 0, locals := 22 } D ad cI cZ S [.ref (ad 0), .int a1, .int a2, .int a3, .int a4] res.1 res.2 := m_ofi (by decide +kernel) (Nat.le_of_ble_eq_true rfl) (fun p e s m args below meth c Q A ls F hK hN hA w hl hQ => t_M_stepLow F ⟨Nat.le_refl _, Nat.le_refl _⟩ hK hN hA hQ S a1 a2 a3 a4 hM w hl)
-- M_isOfClass
def f_M_isOfClass (S : (Nat → Nat → Int32)) (a1 : Int32) : Option Bool := qck (qin a1 9000) (if (2 : Int32) < (S 9 a1.toNatClampNeg) then (some false) else (some true))
set_option maxRecDepth 100000 in
set_option maxHeartbeats 4000000 in
theorem t_M_isOfClass {p : Program} {l : Launch} {e : Env} {R : Room} {s : State} {m : MethodId} {args : Array Value} {below : List Frame} {meth : Method} {c : Code} {Q : State → Prop} {D : va_G} {ad : Nat → Nat} {cI cZ : ClassId} {A : Nat → Prop} (F : CallFix p m c qb_M_isOfClass 2 s args qtb "CaptureSubtypesModel") (hR : 0 ≤ R.frames ∧ 0 ≤ R.locals) (hK : va_K D qcl [(cI, .int), (cZ, .boolean)] s) (hN : qnests mns s) (hA : ∀ q, s.heap.size ≤ q → A q) {res : Bool} {S : (Nat → Nat → Int32)} (hQ : ∀ (H : Heap) (locs : List Loc) (pc : Nat) (ls : Array Slot), decode qb_M_isOfClass pc = .ok (.ireturn, 1) → mW D ad cI cZ A s.heap S H locs → W p l e R s m args below meth c H locs 0 0 Q (F0 m pc ls [.int (qB res)])) (a1 : Int32) (hM : f_M_isOfClass S a1 = some res) {H : Heap} {locs : List Loc} {ls : Array Slot} (w : mW D ad cI cZ A s.heap S H locs) (hl : lv_has ls 2 [(0, .ref (ad 0)), (1, .int a1)]) : W p l e R s m args below meth c H locs 0 0 Q (F0 m 0 ls []) := by
  unfold f_M_isOfClass at hM
  refine lv_aload_n F.1 F.2.1 qd_M_isOfClass_0 rfl (lv_at hl 0 rfl) ?_
  refine mg_M_sort F hK w qk_664 qd_M_isOfClass_1 ?_
  refine lv_iload_n F.1 F.2.1 qd_M_isOfClass_4 rfl (lv_at hl 1 rfl) ?_
  obtain ⟨hi1, hM⟩ := qck_ok hM
  refine ml_M_sort F hK w hi1 qd_M_isOfClass_5 ?_
  refine lv_iconst (v := 2) F.1 F.2.1 qd_M_isOfClass_6 (by decide) ?_
  refine lv_icmp_gt (tgt := 14) F.1 F.2.1 qd_M_isOfClass_7 (by decide) (fun hc2 => ?_) (fun hc2 => ?_)
  · rw [if_pos hc2] at hM
    refine lv_iconst (v := 0) F.1 F.2.1 qd_M_isOfClass_14 (by decide) ?_
    cases hM
    exact hQ _ _ _ _ qd_M_isOfClass_15 w
  · rw [if_neg hc2] at hM
    refine lv_iconst (v := 1) F.1 F.2.1 qd_M_isOfClass_10 (by decide) ?_
    refine lv_goto (tgt := 15) F.1 F.2.1 qd_M_isOfClass_11 (by decide) ?_
    cases hM
    exact hQ _ _ _ _ qd_M_isOfClass_15 w
set_option maxRecDepth 100000 in
theorem c_M_isOfClass (l : Launch) (D : va_G) (ad : Nat → Nat) (cI cZ : ClassId) {S : (Nat → Nat → Int32)} {a1 : Int32} {res : Bool} (hM : f_M_isOfClass S a1 = some res) : mMi l qy_M_isOfClass qb_M_isOfClass 2 (some .boolean) { frames := 0, cells := 0, slots := 0, locals := 0 } D ad cI cZ S [.ref (ad 0), .int a1] (qB res) S := m_ofz (by decide +kernel) (Nat.le_of_ble_eq_true rfl) (fun p e s m args below meth c Q A ls F hK hN hA w hl hQ => t_M_isOfClass F ⟨Nat.le_refl _, Nat.le_refl _⟩ hK hN hA hQ a1 hM w hl)
-- M_hasWild
def f_M_hasWild (S : (Nat → Nat → Int32)) (a1 : Int32) : Option Bool := qck (qin a1 9000) (if (S 9 a1.toNatClampNeg) = (2 : Int32) then (qck (qin a1 9000) (qck (qin (S 11 a1.toNatClampNeg) 9000) (if (S 9 (S 11 a1.toNatClampNeg).toNatClampNeg) = (5 : Int32) then (some true) else (qck (qin a1 9000) (if (S 12 a1.toNatClampNeg) = (-1 : Int32) then (some false) else (qck (qin a1 9000) (qck (qin (S 12 a1.toNatClampNeg) 9000) (if (S 9 (S 12 a1.toNatClampNeg).toNatClampNeg) = (5 : Int32) then (some true) else (some false))))))))) else (some false))
set_option maxRecDepth 100000 in
set_option maxHeartbeats 4000000 in
theorem t_M_hasWild {p : Program} {l : Launch} {e : Env} {R : Room} {s : State} {m : MethodId} {args : Array Value} {below : List Frame} {meth : Method} {c : Code} {Q : State → Prop} {D : va_G} {ad : Nat → Nat} {cI cZ : ClassId} {A : Nat → Prop} (F : CallFix p m c qb_M_hasWild 2 s args qtb "CaptureSubtypesModel") (hR : 0 ≤ R.frames ∧ 0 ≤ R.locals) (hK : va_K D qcl [(cI, .int), (cZ, .boolean)] s) (hN : qnests mns s) (hA : ∀ q, s.heap.size ≤ q → A q) {res : Bool} {S : (Nat → Nat → Int32)} (hQ : ∀ (H : Heap) (locs : List Loc) (pc : Nat) (ls : Array Slot), decode qb_M_hasWild pc = .ok (.ireturn, 1) → mW D ad cI cZ A s.heap S H locs → W p l e R s m args below meth c H locs 0 0 Q (F0 m pc ls [.int (qB res)])) (a1 : Int32) (hM : f_M_hasWild S a1 = some res) {H : Heap} {locs : List Loc} {ls : Array Slot} (w : mW D ad cI cZ A s.heap S H locs) (hl : lv_has ls 2 [(0, .ref (ad 0)), (1, .int a1)]) : W p l e R s m args below meth c H locs 0 0 Q (F0 m 0 ls []) := by
  unfold f_M_hasWild at hM
  refine lv_aload_n F.1 F.2.1 qd_M_hasWild_0 rfl (lv_at hl 0 rfl) ?_
  refine mg_M_sort F hK w qk_664 qd_M_hasWild_1 ?_
  refine lv_iload_n F.1 F.2.1 qd_M_hasWild_4 rfl (lv_at hl 1 rfl) ?_
  obtain ⟨hi1, hM⟩ := qck_ok hM
  refine ml_M_sort F hK w hi1 qd_M_hasWild_5 ?_
  refine lv_iconst (v := 2) F.1 F.2.1 qd_M_hasWild_6 (by decide) ?_
  refine lv_icmp_ne (tgt := 54) F.1 F.2.1 qd_M_hasWild_7 (by decide) (fun hc2 => ?_) (fun hc2 => ?_)
  · rw [if_neg hc2] at hM
    refine lv_iconst (v := 0) F.1 F.2.1 qd_M_hasWild_54 (by decide) ?_
    cases hM
    exact hQ _ _ _ _ qd_M_hasWild_55 w
  · rw [if_pos hc2] at hM
    refine lv_aload_n F.1 F.2.1 qd_M_hasWild_10 rfl (lv_at hl 0 rfl) ?_
    refine mg_M_sort F hK w qk_664 qd_M_hasWild_11 ?_
    refine lv_aload_n F.1 F.2.1 qd_M_hasWild_14 rfl (lv_at hl 0 rfl) ?_
    refine mg_M_second F hK w qk_666 qd_M_hasWild_15 ?_
    refine lv_iload_n F.1 F.2.1 qd_M_hasWild_18 rfl (lv_at hl 1 rfl) ?_
    obtain ⟨hi3, hM⟩ := qck_ok hM
    refine ml_M_second F hK w hi3 qd_M_hasWild_19 ?_
    obtain ⟨hi4, hM⟩ := qck_ok hM
    refine ml_M_sort F hK w hi4 qd_M_hasWild_20 ?_
    refine lv_iconst (v := 5) F.1 F.2.1 qd_M_hasWild_21 (by decide) ?_
    refine lv_icmp_eq (tgt := 50) F.1 F.2.1 qd_M_hasWild_22 (by decide) (fun hc5 => ?_) (fun hc5 => ?_)
    · rw [if_pos hc5] at hM
      refine lv_iconst (v := 1) F.1 F.2.1 qd_M_hasWild_50 (by decide) ?_
      refine lv_goto (tgt := 55) F.1 F.2.1 qd_M_hasWild_51 (by decide) ?_
      cases hM
      exact hQ _ _ _ _ qd_M_hasWild_55 w
    · rw [if_neg hc5] at hM
      refine lv_aload_n F.1 F.2.1 qd_M_hasWild_25 rfl (lv_at hl 0 rfl) ?_
      refine mg_M_third F hK w qk_667 qd_M_hasWild_26 ?_
      refine lv_iload_n F.1 F.2.1 qd_M_hasWild_29 rfl (lv_at hl 1 rfl) ?_
      obtain ⟨hi6, hM⟩ := qck_ok hM
      refine ml_M_third F hK w hi6 qd_M_hasWild_30 ?_
      refine lv_iconst (v := (-1)) F.1 F.2.1 qd_M_hasWild_31 (by decide) ?_
      refine lv_icmp_eq (tgt := 54) F.1 F.2.1 qd_M_hasWild_32 (by decide) (fun hc7 => ?_) (fun hc7 => ?_)
      · rw [if_pos hc7] at hM
        refine lv_iconst (v := 0) F.1 F.2.1 qd_M_hasWild_54 (by decide) ?_
        cases hM
        exact hQ _ _ _ _ qd_M_hasWild_55 w
      · rw [if_neg hc7] at hM
        refine lv_aload_n F.1 F.2.1 qd_M_hasWild_35 rfl (lv_at hl 0 rfl) ?_
        refine mg_M_sort F hK w qk_664 qd_M_hasWild_36 ?_
        refine lv_aload_n F.1 F.2.1 qd_M_hasWild_39 rfl (lv_at hl 0 rfl) ?_
        refine mg_M_third F hK w qk_667 qd_M_hasWild_40 ?_
        refine lv_iload_n F.1 F.2.1 qd_M_hasWild_43 rfl (lv_at hl 1 rfl) ?_
        obtain ⟨hi8, hM⟩ := qck_ok hM
        refine ml_M_third F hK w hi8 qd_M_hasWild_44 ?_
        obtain ⟨hi9, hM⟩ := qck_ok hM
        refine ml_M_sort F hK w hi9 qd_M_hasWild_45 ?_
        refine lv_iconst (v := 5) F.1 F.2.1 qd_M_hasWild_46 (by decide) ?_
        refine lv_icmp_ne (tgt := 54) F.1 F.2.1 qd_M_hasWild_47 (by decide) (fun hc10 => ?_) (fun hc10 => ?_)
        · rw [if_neg hc10] at hM
          refine lv_iconst (v := 0) F.1 F.2.1 qd_M_hasWild_54 (by decide) ?_
          cases hM
          exact hQ _ _ _ _ qd_M_hasWild_55 w
        · rw [if_pos hc10] at hM
          refine lv_iconst (v := 1) F.1 F.2.1 qd_M_hasWild_50 (by decide) ?_
          refine lv_goto (tgt := 55) F.1 F.2.1 qd_M_hasWild_51 (by decide) ?_
          cases hM
          exact hQ _ _ _ _ qd_M_hasWild_55 w
set_option maxRecDepth 100000 in
theorem c_M_hasWild (l : Launch) (D : va_G) (ad : Nat → Nat) (cI cZ : ClassId) {S : (Nat → Nat → Int32)} {a1 : Int32} {res : Bool} (hM : f_M_hasWild S a1 = some res) : mMi l qy_M_hasWild qb_M_hasWild 2 (some .boolean) { frames := 0, cells := 0, slots := 0, locals := 0 } D ad cI cZ S [.ref (ad 0), .int a1] (qB res) S := m_ofz (by decide +kernel) (Nat.le_of_ble_eq_true rfl) (fun p e s m args below meth c Q A ls F hK hN hA w hl hQ => t_M_hasWild F ⟨Nat.le_refl _, Nat.le_refl _⟩ hK hN hA hQ a1 hM w hl)
-- M_come
def f_M_come (S : (Nat → Nat → Int32)) (a1 a2 a3 a4 : Int32) : Option (Int32 × (Nat → Nat → Int32)) := (f_M_find S a1 a2 a3 a4).bind (fun q1 => if q1 = (-1 : Int32) then ((f_M_put S (S 8 0) a1 a2 a3 a4 (0 : Int32)).bind (fun q4 => some ((S 8 0), (qwr q4 8 0 ((q4 8 0) + (1 : Int32)))))) else (some (q1, S)))
set_option maxRecDepth 100000 in
set_option maxHeartbeats 4000000 in
theorem t_M_come {p : Program} {l : Launch} {e : Env} {R : Room} {s : State} {m : MethodId} {args : Array Value} {below : List Frame} {meth : Method} {c : Code} {Q : State → Prop} {D : va_G} {ad : Nat → Nat} {cI cZ : ClassId} {A : Nat → Prop} (F : CallFix p m c qb_M_come 6 s args qtb "CaptureSubtypesModel") (hR : 2 ≤ R.frames ∧ 50 ≤ R.locals) (hK : va_K D qcl [(cI, .int), (cZ, .boolean)] s) (hN : qnests mns s) (hA : ∀ q, s.heap.size ≤ q → A q) {res : (Int32 × (Nat → Nat → Int32))} (hQ : ∀ (H : Heap) (locs : List Loc) (pc : Nat) (ls : Array Slot), decode qb_M_come pc = .ok (.ireturn, 1) → mW D ad cI cZ A s.heap res.2 H locs → W p l e R s m args below meth c H locs 0 0 Q (F0 m pc ls [.int res.1])) (S : (Nat → Nat → Int32)) (a1 a2 a3 a4 : Int32) (hM : f_M_come S a1 a2 a3 a4 = some res) {H : Heap} {locs : List Loc} {ls : Array Slot} (w : mW D ad cI cZ A s.heap S H locs) (hl : lv_has ls 6 [(0, .ref (ad 0)), (1, .int a1), (2, .int a2), (3, .int a3), (4, .int a4)]) : W p l e R s m args below meth c H locs 0 0 Q (F0 m 0 ls []) := by
  unfold f_M_come at hM
  refine lv_aload_n F.1 F.2.1 qd_M_come_0 rfl (lv_at hl 0 rfl) ?_
  refine lv_iload_n F.1 F.2.1 qd_M_come_1 rfl (lv_at hl 1 rfl) ?_
  refine lv_iload_n F.1 F.2.1 qd_M_come_2 rfl (lv_at hl 2 rfl) ?_
  refine lv_iload_n F.1 F.2.1 qd_M_come_3 rfl (lv_at hl 3 rfl) ?_
  refine lv_iload F.1 F.2.1 qd_M_come_4 (lv_at hl 4 rfl) ?_
  obtain ⟨q1, hq2, hM⟩ := qbd hM
  refine m_calli F hK hN hA w (c_M_find l D ad cI cZ hq2) qk_776 qk_778 qs_M_find qk_8 qk_779 qv_M_find rfl rfl ⟨Nat.le_trans (by decide) hR.1, Nat.le_trans (by decide) hR.2⟩ (ci := 6) rfl (j := 0) rfl hl.1 rfl (Nat.le_of_ble_eq_true rfl) qd_M_come_6 (fun H locs w => ?_)
  refine lv_istore (lv' := [(5, .int q1), (0, .ref (ad 0)), (1, .int a1), (2, .int a2), (3, .int a3), (4, .int a4)]) F.1 F.2.1 qd_M_come_9 hl (by decide) rfl (fun ls hl => ?_)
  refine lv_iload F.1 F.2.1 qd_M_come_11 (lv_at hl 0 rfl) ?_
  refine lv_iconst (v := (-1)) F.1 F.2.1 qd_M_come_13 (by decide) ?_
  refine lv_icmp_ne (tgt := 45) F.1 F.2.1 qd_M_come_14 (by decide) (fun hc3 => ?_) (fun hc3 => ?_)
  · rw [if_neg hc3] at hM
    refine lv_iload F.1 F.2.1 qd_M_come_45 (lv_at hl 0 rfl) ?_
    cases hM
    exact hQ _ _ _ _ qd_M_come_47 w
  · rw [if_pos hc3] at hM
    refine lv_aload_n F.1 F.2.1 qd_M_come_17 rfl (lv_at hl 1 rfl) ?_
    refine mg_M_pool F hK w qk_663 qd_M_come_18 ?_
    refine lv_istore (lv' := [(5, .int (S 8 0)), (0, .ref (ad 0)), (1, .int a1), (2, .int a2), (3, .int a3), (4, .int a4)]) F.1 F.2.1 qd_M_come_21 hl (by decide) rfl (fun ls hl => ?_)
    refine lv_aload_n F.1 F.2.1 qd_M_come_23 rfl (lv_at hl 1 rfl) ?_
    refine lv_iload F.1 F.2.1 qd_M_come_24 (lv_at hl 0 rfl) ?_
    refine lv_iload_n F.1 F.2.1 qd_M_come_26 rfl (lv_at hl 2 rfl) ?_
    refine lv_iload_n F.1 F.2.1 qd_M_come_27 rfl (lv_at hl 3 rfl) ?_
    refine lv_iload_n F.1 F.2.1 qd_M_come_28 rfl (lv_at hl 4 rfl) ?_
    refine lv_iload F.1 F.2.1 qd_M_come_29 (lv_at hl 5 rfl) ?_
    refine lv_iconst (v := 0) F.1 F.2.1 qd_M_come_31 (by decide) ?_
    obtain ⟨q4, hq5, hM⟩ := qbd hM
    refine m_callv F hK hN hA w (c_M_put l D ad cI cZ hq5) qk_647 qk_649 qs_M_put qk_8 qk_650 qv_M_put rfl rfl ⟨Nat.le_trans (by decide) hR.1, Nat.le_trans (by decide) hR.2⟩ (ci := 6) rfl (j := 0) rfl hl.1 rfl (Nat.le_of_ble_eq_true rfl) qd_M_come_32 (fun H locs w => ?_)
    refine lv_aload_n F.1 F.2.1 qd_M_come_35 rfl (lv_at hl 1 rfl) ?_
    refine lv_dup F.1 F.2.1 qd_M_come_36 rfl ?_
    refine mg_M_pool F hK w qk_663 qd_M_come_37 ?_
    refine lv_iconst (v := 1) F.1 F.2.1 qd_M_come_40 (by decide) ?_
    refine lv_iadd F.1 F.2.1 qd_M_come_41 ?_
    refine mp_M_pool F hK w qk_663 qd_M_come_42 (fun H locs w => ?_)
    refine lv_iload F.1 F.2.1 qd_M_come_45 (lv_at hl 0 rfl) ?_
    cases hM
    exact hQ _ _ _ _ qd_M_come_47 w
set_option maxRecDepth 100000 in
theorem c_M_come (l : Launch) (D : va_G) (ad : Nat → Nat) (cI cZ : ClassId) {S : (Nat → Nat → Int32)} {a1 a2 a3 a4 : Int32} {res : (Int32 × (Nat → Nat → Int32))} (hM : f_M_come S a1 a2 a3 a4 = some res) : mMi l qy_M_come qb_M_come 6 (some .int) { frames := 2, cells := 0, slots := 0, locals := 50 } D ad cI cZ S [.ref (ad 0), .int a1, .int a2, .int a3, .int a4] res.1 res.2 := m_ofi (by decide +kernel) (Nat.le_of_ble_eq_true rfl) (fun p e s m args below meth c Q A ls F hK hN hA w hl hQ => t_M_come F ⟨Nat.le_refl _, Nat.le_refl _⟩ hK hN hA hQ S a1 a2 a3 a4 hM w hl)
-- M_hasFirst
def f_M_hasFirst (S : (Nat → Nat → Int32)) (a1 : Int32) : Option Bool := qck (qin a1 9000) (if (S 9 a1.toNatClampNeg) = (2 : Int32) then (some true) else (qck (qin a1 9000) (if (S 9 a1.toNatClampNeg) = (4 : Int32) then (some true) else (qck (qin a1 9000) (if (S 9 a1.toNatClampNeg) = (5 : Int32) then (qck (qin a1 9000) (if (S 10 a1.toNatClampNeg) ≤ 0 then (some false) else (some true))) else (some false))))))
set_option maxRecDepth 100000 in
set_option maxHeartbeats 4000000 in
theorem t_M_hasFirst {p : Program} {l : Launch} {e : Env} {R : Room} {s : State} {m : MethodId} {args : Array Value} {below : List Frame} {meth : Method} {c : Code} {Q : State → Prop} {D : va_G} {ad : Nat → Nat} {cI cZ : ClassId} {A : Nat → Prop} (F : CallFix p m c qb_M_hasFirst 2 s args qtb "CaptureSubtypesModel") (hR : 0 ≤ R.frames ∧ 0 ≤ R.locals) (hK : va_K D qcl [(cI, .int), (cZ, .boolean)] s) (hN : qnests mns s) (hA : ∀ q, s.heap.size ≤ q → A q) {res : Bool} {S : (Nat → Nat → Int32)} (hQ : ∀ (H : Heap) (locs : List Loc) (pc : Nat) (ls : Array Slot), decode qb_M_hasFirst pc = .ok (.ireturn, 1) → mW D ad cI cZ A s.heap S H locs → W p l e R s m args below meth c H locs 0 0 Q (F0 m pc ls [.int (qB res)])) (a1 : Int32) (hM : f_M_hasFirst S a1 = some res) {H : Heap} {locs : List Loc} {ls : Array Slot} (w : mW D ad cI cZ A s.heap S H locs) (hl : lv_has ls 2 [(0, .ref (ad 0)), (1, .int a1)]) : W p l e R s m args below meth c H locs 0 0 Q (F0 m 0 ls []) := by
  unfold f_M_hasFirst at hM
  refine lv_aload_n F.1 F.2.1 qd_M_hasFirst_0 rfl (lv_at hl 0 rfl) ?_
  refine mg_M_sort F hK w qk_664 qd_M_hasFirst_1 ?_
  refine lv_iload_n F.1 F.2.1 qd_M_hasFirst_4 rfl (lv_at hl 1 rfl) ?_
  obtain ⟨hi1, hM⟩ := qck_ok hM
  refine ml_M_sort F hK w hi1 qd_M_hasFirst_5 ?_
  refine lv_iconst (v := 2) F.1 F.2.1 qd_M_hasFirst_6 (by decide) ?_
  refine lv_icmp_eq (tgt := 39) F.1 F.2.1 qd_M_hasFirst_7 (by decide) (fun hc2 => ?_) (fun hc2 => ?_)
  · rw [if_pos hc2] at hM
    refine lv_iconst (v := 1) F.1 F.2.1 qd_M_hasFirst_39 (by decide) ?_
    refine lv_goto (tgt := 44) F.1 F.2.1 qd_M_hasFirst_40 (by decide) ?_
    cases hM
    exact hQ _ _ _ _ qd_M_hasFirst_44 w
  · rw [if_neg hc2] at hM
    refine lv_aload_n F.1 F.2.1 qd_M_hasFirst_10 rfl (lv_at hl 0 rfl) ?_
    refine mg_M_sort F hK w qk_664 qd_M_hasFirst_11 ?_
    refine lv_iload_n F.1 F.2.1 qd_M_hasFirst_14 rfl (lv_at hl 1 rfl) ?_
    obtain ⟨hi3, hM⟩ := qck_ok hM
    refine ml_M_sort F hK w hi3 qd_M_hasFirst_15 ?_
    refine lv_iconst (v := 4) F.1 F.2.1 qd_M_hasFirst_16 (by decide) ?_
    refine lv_icmp_eq (tgt := 39) F.1 F.2.1 qd_M_hasFirst_17 (by decide) (fun hc4 => ?_) (fun hc4 => ?_)
    · rw [if_pos hc4] at hM
      refine lv_iconst (v := 1) F.1 F.2.1 qd_M_hasFirst_39 (by decide) ?_
      refine lv_goto (tgt := 44) F.1 F.2.1 qd_M_hasFirst_40 (by decide) ?_
      cases hM
      exact hQ _ _ _ _ qd_M_hasFirst_44 w
    · rw [if_neg hc4] at hM
      refine lv_aload_n F.1 F.2.1 qd_M_hasFirst_20 rfl (lv_at hl 0 rfl) ?_
      refine mg_M_sort F hK w qk_664 qd_M_hasFirst_21 ?_
      refine lv_iload_n F.1 F.2.1 qd_M_hasFirst_24 rfl (lv_at hl 1 rfl) ?_
      obtain ⟨hi5, hM⟩ := qck_ok hM
      refine ml_M_sort F hK w hi5 qd_M_hasFirst_25 ?_
      refine lv_iconst (v := 5) F.1 F.2.1 qd_M_hasFirst_26 (by decide) ?_
      refine lv_icmp_ne (tgt := 43) F.1 F.2.1 qd_M_hasFirst_27 (by decide) (fun hc6 => ?_) (fun hc6 => ?_)
      · rw [if_neg hc6] at hM
        refine lv_iconst (v := 0) F.1 F.2.1 qd_M_hasFirst_43 (by decide) ?_
        cases hM
        exact hQ _ _ _ _ qd_M_hasFirst_44 w
      · rw [if_pos hc6] at hM
        refine lv_aload_n F.1 F.2.1 qd_M_hasFirst_30 rfl (lv_at hl 0 rfl) ?_
        refine mg_M_first F hK w qk_665 qd_M_hasFirst_31 ?_
        refine lv_iload_n F.1 F.2.1 qd_M_hasFirst_34 rfl (lv_at hl 1 rfl) ?_
        obtain ⟨hi7, hM⟩ := qck_ok hM
        refine ml_M_first F hK w hi7 qd_M_hasFirst_35 ?_
        refine lv_if_le (tgt := 43) F.1 F.2.1 qd_M_hasFirst_36 (by decide) (fun hc8 => ?_) (fun hc8 => ?_)
        · rw [if_pos hc8] at hM
          refine lv_iconst (v := 0) F.1 F.2.1 qd_M_hasFirst_43 (by decide) ?_
          cases hM
          exact hQ _ _ _ _ qd_M_hasFirst_44 w
        · rw [if_neg hc8] at hM
          refine lv_iconst (v := 1) F.1 F.2.1 qd_M_hasFirst_39 (by decide) ?_
          refine lv_goto (tgt := 44) F.1 F.2.1 qd_M_hasFirst_40 (by decide) ?_
          cases hM
          exact hQ _ _ _ _ qd_M_hasFirst_44 w
set_option maxRecDepth 100000 in
theorem c_M_hasFirst (l : Launch) (D : va_G) (ad : Nat → Nat) (cI cZ : ClassId) {S : (Nat → Nat → Int32)} {a1 : Int32} {res : Bool} (hM : f_M_hasFirst S a1 = some res) : mMi l qy_M_hasFirst qb_M_hasFirst 2 (some .boolean) { frames := 0, cells := 0, slots := 0, locals := 0 } D ad cI cZ S [.ref (ad 0), .int a1] (qB res) S := m_ofz (by decide +kernel) (Nat.le_of_ble_eq_true rfl) (fun p e s m args below meth c Q A ls F hK hN hA w hl hQ => t_M_hasFirst F ⟨Nat.le_refl _, Nat.le_refl _⟩ hK hN hA hQ a1 hM w hl)
-- M_replace
def f_M_replace_270 (k_117 : (Nat → Nat → Int32) → Int32 → Int32 → Int32 → Int32 → Int32 → Option (Int32 × (Nat → Nat → Int32))) (S : (Nat → Nat → Int32)) (v1 v2 v3 v4 v5 s1 s2 s3 s4 s5 : Int32) : Option (Int32 × (Nat → Nat → Int32)) := (f_M_come S s2 s3 s4 s5).bind (fun q1 => qck (qin s1 9000) (k_117 (qwr q1.2 20 s1.toNatClampNeg q1.1) v1 v2 v3 v4 (v5 + (1 : Int32))))
def f_M_replace_269 (k_117 : (Nat → Nat → Int32) → Int32 → Int32 → Int32 → Int32 → Int32 → Option (Int32 × (Nat → Nat → Int32))) (S : (Nat → Nat → Int32)) (v1 v2 v3 v4 v5 s1 s2 s3 s4 : Int32) : Option (Int32 × (Nat → Nat → Int32)) := f_M_replace_270 k_117 S v1 v2 v3 v4 v5 s1 s2 s3 s4 (-1 : Int32)
def f_M_replace_190 (k_117 : (Nat → Nat → Int32) → Int32 → Int32 → Int32 → Int32 → Int32 → Option (Int32 × (Nat → Nat → Int32))) (S : (Nat → Nat → Int32)) (v1 v2 v3 v4 v5 : Int32) : Option (Int32 × (Nat → Nat → Int32)) := (f_M_hasFirst S v5).bind (fun q1 => if (qB q1) = 0 then (k_117 S v1 v2 v3 v4 (v5 + (1 : Int32))) else (qck (qin v5 9000) (qck (qin v5 9000) (qck (qin v5 9000) (qck (qin (S 11 v5.toNatClampNeg) 9000) (qck (qin v5 9000) (if (S 9 v5.toNatClampNeg) = (2 : Int32) then (qck (qin v5 9000) (if (S 12 v5.toNatClampNeg) = (-1 : Int32) then (f_M_replace_269 k_117 S v1 v2 v3 v4 v5 v5 (S 9 v5.toNatClampNeg) (S 10 v5.toNatClampNeg) (S 20 (S 11 v5.toNatClampNeg).toNatClampNeg)) else (qck (qin v5 9000) (qck (qin (S 12 v5.toNatClampNeg) 9000) (f_M_replace_270 k_117 S v1 v2 v3 v4 v5 v5 (S 9 v5.toNatClampNeg) (S 10 v5.toNatClampNeg) (S 20 (S 11 v5.toNatClampNeg).toNatClampNeg) (S 20 (S 12 v5.toNatClampNeg).toNatClampNeg)))))) else (f_M_replace_269 k_117 S v1 v2 v3 v4 v5 v5 (S 9 v5.toNatClampNeg) (S 10 v5.toNatClampNeg) (S 20 (S 11 v5.toNatClampNeg).toNatClampNeg)))))))))
def f_M_replace_186 (k_117 : (Nat → Nat → Int32) → Int32 → Int32 → Int32 → Int32 → Int32 → Option (Int32 × (Nat → Nat → Int32))) (S : (Nat → Nat → Int32)) (v1 v2 v3 v4 v5 s1 s2 : Int32) : Option (Int32 × (Nat → Nat → Int32)) := qck (qin s1 9000) (k_117 (qwr S 20 s1.toNatClampNeg s2) v1 v2 v3 v4 (v5 + (1 : Int32)))
def fb_M_replace_117 (k_117 : (Nat → Nat → Int32) → Int32 → Int32 → Int32 → Int32 → Int32 → Option (Int32 × (Nat → Nat → Int32))) (S : (Nat → Nat → Int32)) (v1 v2 v3 v4 v5 : Int32) : Option (Int32 × (Nat → Nat → Int32)) := if v1 < v5 then (qck (qin v1 9000) (some ((S 20 v1.toNatClampNeg), S))) else (qck (qin v5 9000) (if (S 21 v5.toNatClampNeg) = 0 then (k_117 S v1 v2 v3 v4 (v5 + (1 : Int32))) else (qck (qin v5 9000) (qck (qin v5 9000) (if ((qwr S 20 v5.toNatClampNeg v5) 9 v5.toNatClampNeg) = (3 : Int32) then (qck (qin v5 9000) (if ((qwr S 20 v5.toNatClampNeg v5) 10 v5.toNatClampNeg) = v2 then (qck (qin v5 9000) (if ((qwr S 20 v5.toNatClampNeg v5) 11 v5.toNatClampNeg) = 0 then (f_M_replace_186 k_117 (qwr S 20 v5.toNatClampNeg v5) v1 v2 v3 v4 v5 v5 v3) else (f_M_replace_186 k_117 (qwr S 20 v5.toNatClampNeg v5) v1 v2 v3 v4 v5 v5 v4))) else (f_M_replace_190 k_117 (qwr S 20 v5.toNatClampNeg v5) v1 v2 v3 v4 v5))) else (f_M_replace_190 k_117 (qwr S 20 v5.toNatClampNeg v5) v1 v2 v3 v4 v5))))))
def f_M_replace_117 : Nat → (Nat → Nat → Int32) → Int32 → Int32 → Int32 → Int32 → Int32 → Option (Int32 × (Nat → Nat → Int32))
  | 0 => fun _ _ _ _ _ _ => none
  | n + 1 => fun S v1 v2 v3 v4 v5 => fb_M_replace_117 (f_M_replace_117 n) S v1 v2 v3 v4 v5
def f_M_replace_73 (k_36 : (Nat → Nat → Int32) → Int32 → Int32 → Int32 → Int32 → Int32 → Option (Int32 × (Nat → Nat → Int32))) (S : (Nat → Nat → Int32)) (v1 v2 v3 v4 v5 : Int32) : Option (Int32 × (Nat → Nat → Int32)) := qck (qin v5 9000) (if (S 9 v5.toNatClampNeg) = (2 : Int32) then (qck (qin v5 9000) (if (S 12 v5.toNatClampNeg) = (-1 : Int32) then (k_36 S v1 v2 v3 v4 (v5 + (-1 : Int32))) else (qck (qin v5 9000) (qck (qin (S 12 v5.toNatClampNeg) 9000) (k_36 (qwr S 21 (S 12 v5.toNatClampNeg).toNatClampNeg (vp_nar .boolean (1 : Int32))) v1 v2 v3 v4 (v5 + (-1 : Int32))))))) else (k_36 S v1 v2 v3 v4 (v5 + (-1 : Int32))))
def fb_M_replace_36 (k_36 : (Nat → Nat → Int32) → Int32 → Int32 → Int32 → Int32 → Int32 → Option (Int32 × (Nat → Nat → Int32))) (S : (Nat → Nat → Int32)) (v1 v2 v3 v4 v5 : Int32) : Option (Int32 × (Nat → Nat → Int32)) := if v5 < 0 then (f_M_replace_117  qfu S v1 v2 v3 v4 (0 : Int32)) else (qck (qin v5 9000) (if (S 21 v5.toNatClampNeg) = 0 then (k_36 S v1 v2 v3 v4 (v5 + (-1 : Int32))) else ((f_M_hasFirst S v5).bind (fun q4 => if (qB q4) = 0 then (f_M_replace_73 k_36 S v1 v2 v3 v4 v5) else (qck (qin v5 9000) (qck (qin (S 11 v5.toNatClampNeg) 9000) (f_M_replace_73 k_36 (qwr S 21 (S 11 v5.toNatClampNeg).toNatClampNeg (vp_nar .boolean (1 : Int32))) v1 v2 v3 v4 v5)))))))
def f_M_replace_36 : Nat → (Nat → Nat → Int32) → Int32 → Int32 → Int32 → Int32 → Int32 → Option (Int32 × (Nat → Nat → Int32))
  | 0 => fun _ _ _ _ _ _ => none
  | n + 1 => fun S v1 v2 v3 v4 v5 => fb_M_replace_36 (f_M_replace_36 n) S v1 v2 v3 v4 v5
def f_M_replace_26 (k_3 : (Nat → Nat → Int32) → Int32 → Int32 → Int32 → Int32 → Int32 → Option (Int32 × (Nat → Nat → Int32))) (S : (Nat → Nat → Int32)) (v1 v2 v3 v4 v5 s1 s2 : Int32) : Option (Int32 × (Nat → Nat → Int32)) := qck (qin s1 9000) (k_3 (qwr S 21 s1.toNatClampNeg (vp_nar .boolean s2)) v1 v2 v3 v4 (v5 + (1 : Int32)))
def fb_M_replace_3 (k_3 : (Nat → Nat → Int32) → Int32 → Int32 → Int32 → Int32 → Int32 → Option (Int32 × (Nat → Nat → Int32))) (S : (Nat → Nat → Int32)) (v1 v2 v3 v4 v5 : Int32) : Option (Int32 × (Nat → Nat → Int32)) := if v1 < v5 then (f_M_replace_36  qfu S v1 v2 v3 v4 v1) else (if v5 = v1 then (f_M_replace_26 k_3 S v1 v2 v3 v4 v5 v5 (1 : Int32)) else (f_M_replace_26 k_3 S v1 v2 v3 v4 v5 v5 (0 : Int32)))
def f_M_replace_3 : Nat → (Nat → Nat → Int32) → Int32 → Int32 → Int32 → Int32 → Int32 → Option (Int32 × (Nat → Nat → Int32))
  | 0 => fun _ _ _ _ _ _ => none
  | n + 1 => fun S v1 v2 v3 v4 v5 => fb_M_replace_3 (f_M_replace_3 n) S v1 v2 v3 v4 v5
def f_M_replace (S : (Nat → Nat → Int32)) (a1 a2 a3 a4 : Int32) : Option (Int32 × (Nat → Nat → Int32)) := f_M_replace_3  qfu S a1 a2 a3 a4 (0 : Int32)
set_option maxRecDepth 100000 in
set_option maxHeartbeats 4000000 in
theorem t_M_replace_270 {p : Program} {l : Launch} {e : Env} {R : Room} {s : State} {m : MethodId} {args : Array Value} {below : List Frame} {meth : Method} {c : Code} {Q : State → Prop} {D : va_G} {ad : Nat → Nat} {cI cZ : ClassId} {A : Nat → Prop} (F : CallFix p m c qb_M_replace 6 s args qtb "CaptureSubtypesModel") (hR : 3 ≤ R.frames ∧ 75 ≤ R.locals) (hK : va_K D qcl [(cI, .int), (cZ, .boolean)] s) (hN : qnests mns s) (hA : ∀ q, s.heap.size ≤ q → A q) {res : (Int32 × (Nat → Nat → Int32))} (hQ : ∀ (H : Heap) (locs : List Loc) (pc : Nat) (ls : Array Slot), decode qb_M_replace pc = .ok (.ireturn, 1) → mW D ad cI cZ A s.heap res.2 H locs → W p l e R s m args below meth c H locs 0 0 Q (F0 m pc ls [.int res.1])) {k_117 : (Nat → Nat → Int32) → Int32 → Int32 → Int32 → Int32 → Int32 → Option (Int32 × (Nat → Nat → Int32))} (hk_117 : ∀ (S : Nat → Nat → Int32) (v1 v2 v3 v4 v5 : Int32), k_117 S v1 v2 v3 v4 v5 = some res → ∀ {H : Heap} {locs : List Loc} {ls : Array Slot}, mW D ad cI cZ A s.heap S H locs → lv_has ls 6 [(0, .ref (ad 0)), (1, .int v1), (2, .int v2), (3, .int v3), (4, .int v4), (5, .int v5)] → W p l e R s m args below meth c H locs 0 0 Q (F0 m 117 ls [])) (S : (Nat → Nat → Int32)) (v1 v2 v3 v4 v5 s1 s2 s3 s4 s5 : Int32) (hM : f_M_replace_270 k_117 S v1 v2 v3 v4 v5 s1 s2 s3 s4 s5 = some res) {H : Heap} {locs : List Loc} {ls : Array Slot} (w : mW D ad cI cZ A s.heap S H locs) (hl : lv_has ls 6 [(0, .ref (ad 0)), (1, .int v1), (2, .int v2), (3, .int v3), (4, .int v4), (5, .int v5)]) : W p l e R s m args below meth c H locs 0 0 Q (F0 m 270 ls [.int s5, .int s4, .int s3, .int s2, .ref (ad 0), .int s1, .ref (ad 17)]) := by
  unfold f_M_replace_270 at hM
  obtain ⟨q1, hq2, hM⟩ := qbd hM
  refine m_calli F hK hN hA w (c_M_come l D ad cI cZ hq2) qk_916 qk_918 qs_M_come qk_8 qk_919 qv_M_come rfl rfl ⟨Nat.le_trans (by decide) hR.1, Nat.le_trans (by decide) hR.2⟩ (ci := 6) rfl (j := 0) rfl hl.1 rfl (Nat.le_of_ble_eq_true rfl) qd_M_replace_270 (fun H locs w => ?_)
  obtain ⟨hi3, hM⟩ := qck_ok hM
  refine ms_M_become F hK w hi3 qd_M_replace_273 (fun H locs w => ?_)
  refine lv_iinc (v := (v5 + (1 : Int32))) (lv' := [(5, .int (v5 + (1 : Int32))), (0, .ref (ad 0)), (1, .int v1), (2, .int v2), (3, .int v3), (4, .int v4)]) F.1 F.2.1 qd_M_replace_274 hl (k := 5) rfl rfl (by decide) rfl (fun ls hl => ?_)
  refine lv_goto (tgt := 117) F.1 F.2.1 qd_M_replace_277 (by decide) ?_
  exact hk_117 _ _ _ _ _ _ hM w (lv_sub hl [1, 2, 3, 4, 5, 0] rfl)
set_option maxRecDepth 100000 in
set_option maxHeartbeats 4000000 in
theorem t_M_replace_269 {p : Program} {l : Launch} {e : Env} {R : Room} {s : State} {m : MethodId} {args : Array Value} {below : List Frame} {meth : Method} {c : Code} {Q : State → Prop} {D : va_G} {ad : Nat → Nat} {cI cZ : ClassId} {A : Nat → Prop} (F : CallFix p m c qb_M_replace 6 s args qtb "CaptureSubtypesModel") (hR : 3 ≤ R.frames ∧ 75 ≤ R.locals) (hK : va_K D qcl [(cI, .int), (cZ, .boolean)] s) (hN : qnests mns s) (hA : ∀ q, s.heap.size ≤ q → A q) {res : (Int32 × (Nat → Nat → Int32))} (hQ : ∀ (H : Heap) (locs : List Loc) (pc : Nat) (ls : Array Slot), decode qb_M_replace pc = .ok (.ireturn, 1) → mW D ad cI cZ A s.heap res.2 H locs → W p l e R s m args below meth c H locs 0 0 Q (F0 m pc ls [.int res.1])) {k_117 : (Nat → Nat → Int32) → Int32 → Int32 → Int32 → Int32 → Int32 → Option (Int32 × (Nat → Nat → Int32))} (hk_117 : ∀ (S : Nat → Nat → Int32) (v1 v2 v3 v4 v5 : Int32), k_117 S v1 v2 v3 v4 v5 = some res → ∀ {H : Heap} {locs : List Loc} {ls : Array Slot}, mW D ad cI cZ A s.heap S H locs → lv_has ls 6 [(0, .ref (ad 0)), (1, .int v1), (2, .int v2), (3, .int v3), (4, .int v4), (5, .int v5)] → W p l e R s m args below meth c H locs 0 0 Q (F0 m 117 ls [])) (S : (Nat → Nat → Int32)) (v1 v2 v3 v4 v5 s1 s2 s3 s4 : Int32) (hM : f_M_replace_269 k_117 S v1 v2 v3 v4 v5 s1 s2 s3 s4 = some res) {H : Heap} {locs : List Loc} {ls : Array Slot} (w : mW D ad cI cZ A s.heap S H locs) (hl : lv_has ls 6 [(0, .ref (ad 0)), (1, .int v1), (2, .int v2), (3, .int v3), (4, .int v4), (5, .int v5)]) : W p l e R s m args below meth c H locs 0 0 Q (F0 m 269 ls [.int s4, .int s3, .int s2, .ref (ad 0), .int s1, .ref (ad 17)]) := by
  unfold f_M_replace_269 at hM
  refine lv_iconst (v := (-1)) F.1 F.2.1 qd_M_replace_269 (by decide) ?_
  exact t_M_replace_270 F hR hK hN hA hQ hk_117 _ _ _ _ _ _ _ _ _ _ _ hM w (lv_sub hl [0, 1, 2, 3, 4, 5] rfl)
set_option maxRecDepth 100000 in
set_option maxHeartbeats 4000000 in
theorem t_M_replace_190 {p : Program} {l : Launch} {e : Env} {R : Room} {s : State} {m : MethodId} {args : Array Value} {below : List Frame} {meth : Method} {c : Code} {Q : State → Prop} {D : va_G} {ad : Nat → Nat} {cI cZ : ClassId} {A : Nat → Prop} (F : CallFix p m c qb_M_replace 6 s args qtb "CaptureSubtypesModel") (hR : 3 ≤ R.frames ∧ 75 ≤ R.locals) (hK : va_K D qcl [(cI, .int), (cZ, .boolean)] s) (hN : qnests mns s) (hA : ∀ q, s.heap.size ≤ q → A q) {res : (Int32 × (Nat → Nat → Int32))} (hQ : ∀ (H : Heap) (locs : List Loc) (pc : Nat) (ls : Array Slot), decode qb_M_replace pc = .ok (.ireturn, 1) → mW D ad cI cZ A s.heap res.2 H locs → W p l e R s m args below meth c H locs 0 0 Q (F0 m pc ls [.int res.1])) {k_117 : (Nat → Nat → Int32) → Int32 → Int32 → Int32 → Int32 → Int32 → Option (Int32 × (Nat → Nat → Int32))} (hk_117 : ∀ (S : Nat → Nat → Int32) (v1 v2 v3 v4 v5 : Int32), k_117 S v1 v2 v3 v4 v5 = some res → ∀ {H : Heap} {locs : List Loc} {ls : Array Slot}, mW D ad cI cZ A s.heap S H locs → lv_has ls 6 [(0, .ref (ad 0)), (1, .int v1), (2, .int v2), (3, .int v3), (4, .int v4), (5, .int v5)] → W p l e R s m args below meth c H locs 0 0 Q (F0 m 117 ls [])) (S : (Nat → Nat → Int32)) (v1 v2 v3 v4 v5 : Int32) (hM : f_M_replace_190 k_117 S v1 v2 v3 v4 v5 = some res) {H : Heap} {locs : List Loc} {ls : Array Slot} (w : mW D ad cI cZ A s.heap S H locs) (hl : lv_has ls 6 [(0, .ref (ad 0)), (1, .int v1), (2, .int v2), (3, .int v3), (4, .int v4), (5, .int v5)]) : W p l e R s m args below meth c H locs 0 0 Q (F0 m 190 ls []) := by
  unfold f_M_replace_190 at hM
  refine lv_aload_n F.1 F.2.1 qd_M_replace_190 rfl (lv_at hl 0 rfl) ?_
  refine lv_iload F.1 F.2.1 qd_M_replace_191 (lv_at hl 5 rfl) ?_
  obtain ⟨q1, hq2, hM⟩ := qbd hM
  refine m_calli F hK hN hA w (c_M_hasFirst l D ad cI cZ hq2) qk_924 qk_926 qs_M_hasFirst qk_8 qk_927 qv_M_hasFirst rfl rfl ⟨Nat.le_trans (by decide) hR.1, Nat.le_trans (by decide) hR.2⟩ (ci := 6) rfl (j := 0) rfl hl.1 rfl (Nat.le_of_ble_eq_true rfl) qd_M_replace_193 (fun H locs w => ?_)
  refine lv_if_eq (tgt := 274) F.1 F.2.1 qd_M_replace_196 (by decide) (fun hc3 => ?_) (fun hc3 => ?_)
  · rw [if_pos hc3] at hM
    refine lv_iinc (v := (v5 + (1 : Int32))) (lv' := [(5, .int (v5 + (1 : Int32))), (0, .ref (ad 0)), (1, .int v1), (2, .int v2), (3, .int v3), (4, .int v4)]) F.1 F.2.1 qd_M_replace_274 hl (k := 5) rfl rfl (by decide) rfl (fun ls hl => ?_)
    refine lv_goto (tgt := 117) F.1 F.2.1 qd_M_replace_277 (by decide) ?_
    exact hk_117 _ _ _ _ _ _ hM w (lv_sub hl [1, 2, 3, 4, 5, 0] rfl)
  · rw [if_neg hc3] at hM
    refine lv_aload_n F.1 F.2.1 qd_M_replace_199 rfl (lv_at hl 0 rfl) ?_
    refine mg_M_become F hK w qk_675 qd_M_replace_200 ?_
    refine lv_iload F.1 F.2.1 qd_M_replace_203 (lv_at hl 5 rfl) ?_
    refine lv_aload_n F.1 F.2.1 qd_M_replace_205 rfl (lv_at hl 0 rfl) ?_
    refine lv_aload_n F.1 F.2.1 qd_M_replace_206 rfl (lv_at hl 0 rfl) ?_
    refine mg_M_sort F hK w qk_664 qd_M_replace_207 ?_
    refine lv_iload F.1 F.2.1 qd_M_replace_210 (lv_at hl 5 rfl) ?_
    obtain ⟨hi4, hM⟩ := qck_ok hM
    refine ml_M_sort F hK w hi4 qd_M_replace_212 ?_
    refine lv_aload_n F.1 F.2.1 qd_M_replace_213 rfl (lv_at hl 0 rfl) ?_
    refine mg_M_first F hK w qk_665 qd_M_replace_214 ?_
    refine lv_iload F.1 F.2.1 qd_M_replace_217 (lv_at hl 5 rfl) ?_
    obtain ⟨hi5, hM⟩ := qck_ok hM
    refine ml_M_first F hK w hi5 qd_M_replace_219 ?_
    refine lv_aload_n F.1 F.2.1 qd_M_replace_220 rfl (lv_at hl 0 rfl) ?_
    refine mg_M_become F hK w qk_675 qd_M_replace_221 ?_
    refine lv_aload_n F.1 F.2.1 qd_M_replace_224 rfl (lv_at hl 0 rfl) ?_
    refine mg_M_second F hK w qk_666 qd_M_replace_225 ?_
    refine lv_iload F.1 F.2.1 qd_M_replace_228 (lv_at hl 5 rfl) ?_
    obtain ⟨hi6, hM⟩ := qck_ok hM
    refine ml_M_second F hK w hi6 qd_M_replace_230 ?_
    obtain ⟨hi7, hM⟩ := qck_ok hM
    refine ml_M_become F hK w hi7 qd_M_replace_231 ?_
    refine lv_aload_n F.1 F.2.1 qd_M_replace_232 rfl (lv_at hl 0 rfl) ?_
    refine mg_M_sort F hK w qk_664 qd_M_replace_233 ?_
    refine lv_iload F.1 F.2.1 qd_M_replace_236 (lv_at hl 5 rfl) ?_
    obtain ⟨hi8, hM⟩ := qck_ok hM
    refine ml_M_sort F hK w hi8 qd_M_replace_238 ?_
    refine lv_iconst (v := 2) F.1 F.2.1 qd_M_replace_239 (by decide) ?_
    refine lv_icmp_ne (tgt := 269) F.1 F.2.1 qd_M_replace_240 (by decide) (fun hc9 => ?_) (fun hc9 => ?_)
    · rw [if_neg hc9] at hM
      exact t_M_replace_269 F hR hK hN hA hQ hk_117 _ _ _ _ _ _ _ _ _ _ hM w (lv_sub hl [0, 1, 2, 3, 4, 5] rfl)
    · rw [if_pos hc9] at hM
      refine lv_aload_n F.1 F.2.1 qd_M_replace_243 rfl (lv_at hl 0 rfl) ?_
      refine mg_M_third F hK w qk_667 qd_M_replace_244 ?_
      refine lv_iload F.1 F.2.1 qd_M_replace_247 (lv_at hl 5 rfl) ?_
      obtain ⟨hi10, hM⟩ := qck_ok hM
      refine ml_M_third F hK w hi10 qd_M_replace_249 ?_
      refine lv_iconst (v := (-1)) F.1 F.2.1 qd_M_replace_250 (by decide) ?_
      refine lv_icmp_eq (tgt := 269) F.1 F.2.1 qd_M_replace_251 (by decide) (fun hc11 => ?_) (fun hc11 => ?_)
      · rw [if_pos hc11] at hM
        exact t_M_replace_269 F hR hK hN hA hQ hk_117 _ _ _ _ _ _ _ _ _ _ hM w (lv_sub hl [0, 1, 2, 3, 4, 5] rfl)
      · rw [if_neg hc11] at hM
        refine lv_aload_n F.1 F.2.1 qd_M_replace_254 rfl (lv_at hl 0 rfl) ?_
        refine mg_M_become F hK w qk_675 qd_M_replace_255 ?_
        refine lv_aload_n F.1 F.2.1 qd_M_replace_258 rfl (lv_at hl 0 rfl) ?_
        refine mg_M_third F hK w qk_667 qd_M_replace_259 ?_
        refine lv_iload F.1 F.2.1 qd_M_replace_262 (lv_at hl 5 rfl) ?_
        obtain ⟨hi12, hM⟩ := qck_ok hM
        refine ml_M_third F hK w hi12 qd_M_replace_264 ?_
        obtain ⟨hi13, hM⟩ := qck_ok hM
        refine ml_M_become F hK w hi13 qd_M_replace_265 ?_
        refine lv_goto (tgt := 270) F.1 F.2.1 qd_M_replace_266 (by decide) ?_
        exact t_M_replace_270 F hR hK hN hA hQ hk_117 _ _ _ _ _ _ _ _ _ _ _ hM w (lv_sub hl [0, 1, 2, 3, 4, 5] rfl)
set_option maxRecDepth 100000 in
set_option maxHeartbeats 4000000 in
theorem t_M_replace_186 {p : Program} {l : Launch} {e : Env} {R : Room} {s : State} {m : MethodId} {args : Array Value} {below : List Frame} {meth : Method} {c : Code} {Q : State → Prop} {D : va_G} {ad : Nat → Nat} {cI cZ : ClassId} {A : Nat → Prop} (F : CallFix p m c qb_M_replace 6 s args qtb "CaptureSubtypesModel") (hR : 3 ≤ R.frames ∧ 75 ≤ R.locals) (hK : va_K D qcl [(cI, .int), (cZ, .boolean)] s) (hN : qnests mns s) (hA : ∀ q, s.heap.size ≤ q → A q) {res : (Int32 × (Nat → Nat → Int32))} (hQ : ∀ (H : Heap) (locs : List Loc) (pc : Nat) (ls : Array Slot), decode qb_M_replace pc = .ok (.ireturn, 1) → mW D ad cI cZ A s.heap res.2 H locs → W p l e R s m args below meth c H locs 0 0 Q (F0 m pc ls [.int res.1])) {k_117 : (Nat → Nat → Int32) → Int32 → Int32 → Int32 → Int32 → Int32 → Option (Int32 × (Nat → Nat → Int32))} (hk_117 : ∀ (S : Nat → Nat → Int32) (v1 v2 v3 v4 v5 : Int32), k_117 S v1 v2 v3 v4 v5 = some res → ∀ {H : Heap} {locs : List Loc} {ls : Array Slot}, mW D ad cI cZ A s.heap S H locs → lv_has ls 6 [(0, .ref (ad 0)), (1, .int v1), (2, .int v2), (3, .int v3), (4, .int v4), (5, .int v5)] → W p l e R s m args below meth c H locs 0 0 Q (F0 m 117 ls [])) (S : (Nat → Nat → Int32)) (v1 v2 v3 v4 v5 s1 s2 : Int32) (hM : f_M_replace_186 k_117 S v1 v2 v3 v4 v5 s1 s2 = some res) {H : Heap} {locs : List Loc} {ls : Array Slot} (w : mW D ad cI cZ A s.heap S H locs) (hl : lv_has ls 6 [(0, .ref (ad 0)), (1, .int v1), (2, .int v2), (3, .int v3), (4, .int v4), (5, .int v5)]) : W p l e R s m args below meth c H locs 0 0 Q (F0 m 186 ls [.int s2, .int s1, .ref (ad 17)]) := by
  unfold f_M_replace_186 at hM
  obtain ⟨hi1, hM⟩ := qck_ok hM
  refine ms_M_become F hK w hi1 qd_M_replace_186 (fun H locs w => ?_)
  refine lv_goto (tgt := 274) F.1 F.2.1 qd_M_replace_187 (by decide) ?_
  refine lv_iinc (v := (v5 + (1 : Int32))) (lv' := [(5, .int (v5 + (1 : Int32))), (0, .ref (ad 0)), (1, .int v1), (2, .int v2), (3, .int v3), (4, .int v4)]) F.1 F.2.1 qd_M_replace_274 hl (k := 5) rfl rfl (by decide) rfl (fun ls hl => ?_)
  refine lv_goto (tgt := 117) F.1 F.2.1 qd_M_replace_277 (by decide) ?_
  exact hk_117 _ _ _ _ _ _ hM w (lv_sub hl [1, 2, 3, 4, 5, 0] rfl)
set_option maxRecDepth 100000 in
set_option maxHeartbeats 4000000 in
theorem tb_M_replace_117 {p : Program} {l : Launch} {e : Env} {R : Room} {s : State} {m : MethodId} {args : Array Value} {below : List Frame} {meth : Method} {c : Code} {Q : State → Prop} {D : va_G} {ad : Nat → Nat} {cI cZ : ClassId} {A : Nat → Prop} (F : CallFix p m c qb_M_replace 6 s args qtb "CaptureSubtypesModel") (hR : 3 ≤ R.frames ∧ 75 ≤ R.locals) (hK : va_K D qcl [(cI, .int), (cZ, .boolean)] s) (hN : qnests mns s) (hA : ∀ q, s.heap.size ≤ q → A q) {res : (Int32 × (Nat → Nat → Int32))} (hQ : ∀ (H : Heap) (locs : List Loc) (pc : Nat) (ls : Array Slot), decode qb_M_replace pc = .ok (.ireturn, 1) → mW D ad cI cZ A s.heap res.2 H locs → W p l e R s m args below meth c H locs 0 0 Q (F0 m pc ls [.int res.1])) {k_117 : (Nat → Nat → Int32) → Int32 → Int32 → Int32 → Int32 → Int32 → Option (Int32 × (Nat → Nat → Int32))} (hk_117 : ∀ (S : Nat → Nat → Int32) (v1 v2 v3 v4 v5 : Int32), k_117 S v1 v2 v3 v4 v5 = some res → ∀ {H : Heap} {locs : List Loc} {ls : Array Slot}, mW D ad cI cZ A s.heap S H locs → lv_has ls 6 [(0, .ref (ad 0)), (1, .int v1), (2, .int v2), (3, .int v3), (4, .int v4), (5, .int v5)] → W p l e R s m args below meth c H locs 0 0 Q (F0 m 117 ls [])) (S : (Nat → Nat → Int32)) (v1 v2 v3 v4 v5 : Int32) (hM : fb_M_replace_117 k_117 S v1 v2 v3 v4 v5 = some res) {H : Heap} {locs : List Loc} {ls : Array Slot} (w : mW D ad cI cZ A s.heap S H locs) (hl : lv_has ls 6 [(0, .ref (ad 0)), (1, .int v1), (2, .int v2), (3, .int v3), (4, .int v4), (5, .int v5)]) : W p l e R s m args below meth c H locs 0 0 Q (F0 m 117 ls []) := by
  unfold fb_M_replace_117 at hM
  refine lv_iload F.1 F.2.1 qd_M_replace_117 (lv_at hl 5 rfl) ?_
  refine lv_iload_n F.1 F.2.1 qd_M_replace_119 rfl (lv_at hl 1 rfl) ?_
  refine lv_icmp_gt (tgt := 280) F.1 F.2.1 qd_M_replace_120 (by decide) (fun hc1 => ?_) (fun hc1 => ?_)
  · rw [if_pos hc1] at hM
    refine lv_aload_n F.1 F.2.1 qd_M_replace_280 rfl (lv_at hl 0 rfl) ?_
    refine mg_M_become F hK w qk_675 qd_M_replace_281 ?_
    refine lv_iload_n F.1 F.2.1 qd_M_replace_284 rfl (lv_at hl 1 rfl) ?_
    obtain ⟨hi2, hM⟩ := qck_ok hM
    refine ml_M_become F hK w hi2 qd_M_replace_285 ?_
    cases hM
    exact hQ _ _ _ _ qd_M_replace_286 w
  · rw [if_neg hc1] at hM
    refine lv_aload_n F.1 F.2.1 qd_M_replace_123 rfl (lv_at hl 0 rfl) ?_
    refine mg_M_isNeeded F hK w qk_676 qd_M_replace_124 ?_
    refine lv_iload F.1 F.2.1 qd_M_replace_127 (lv_at hl 5 rfl) ?_
    obtain ⟨hi3, hM⟩ := qck_ok hM
    refine ml_M_isNeeded F hK w hi3 qd_M_replace_129 ?_
    refine lv_if_eq (tgt := 274) F.1 F.2.1 qd_M_replace_130 (by decide) (fun hc4 => ?_) (fun hc4 => ?_)
    · rw [if_pos hc4] at hM
      refine lv_iinc (v := (v5 + (1 : Int32))) (lv' := [(5, .int (v5 + (1 : Int32))), (0, .ref (ad 0)), (1, .int v1), (2, .int v2), (3, .int v3), (4, .int v4)]) F.1 F.2.1 qd_M_replace_274 hl (k := 5) rfl rfl (by decide) rfl (fun ls hl => ?_)
      refine lv_goto (tgt := 117) F.1 F.2.1 qd_M_replace_277 (by decide) ?_
      exact hk_117 _ _ _ _ _ _ hM w (lv_sub hl [1, 2, 3, 4, 5, 0] rfl)
    · rw [if_neg hc4] at hM
      refine lv_aload_n F.1 F.2.1 qd_M_replace_133 rfl (lv_at hl 0 rfl) ?_
      refine mg_M_become F hK w qk_675 qd_M_replace_134 ?_
      refine lv_iload F.1 F.2.1 qd_M_replace_137 (lv_at hl 5 rfl) ?_
      refine lv_iload F.1 F.2.1 qd_M_replace_139 (lv_at hl 5 rfl) ?_
      obtain ⟨hi5, hM⟩ := qck_ok hM
      refine ms_M_become F hK w hi5 qd_M_replace_141 (fun H locs w => ?_)
      refine lv_aload_n F.1 F.2.1 qd_M_replace_142 rfl (lv_at hl 0 rfl) ?_
      refine mg_M_sort F hK w qk_664 qd_M_replace_143 ?_
      refine lv_iload F.1 F.2.1 qd_M_replace_146 (lv_at hl 5 rfl) ?_
      obtain ⟨hi6, hM⟩ := qck_ok hM
      refine ml_M_sort F hK w hi6 qd_M_replace_148 ?_
      refine lv_iconst (v := 3) F.1 F.2.1 qd_M_replace_149 (by decide) ?_
      refine lv_icmp_ne (tgt := 190) F.1 F.2.1 qd_M_replace_150 (by decide) (fun hc7 => ?_) (fun hc7 => ?_)
      · rw [if_neg hc7] at hM
        exact t_M_replace_190 F hR hK hN hA hQ hk_117 _ _ _ _ _ _ hM w (lv_sub hl [0, 1, 2, 3, 4, 5] rfl)
      · rw [if_pos hc7] at hM
        refine lv_aload_n F.1 F.2.1 qd_M_replace_153 rfl (lv_at hl 0 rfl) ?_
        refine mg_M_first F hK w qk_665 qd_M_replace_154 ?_
        refine lv_iload F.1 F.2.1 qd_M_replace_157 (lv_at hl 5 rfl) ?_
        obtain ⟨hi8, hM⟩ := qck_ok hM
        refine ml_M_first F hK w hi8 qd_M_replace_159 ?_
        refine lv_iload_n F.1 F.2.1 qd_M_replace_160 rfl (lv_at hl 2 rfl) ?_
        refine lv_icmp_ne (tgt := 190) F.1 F.2.1 qd_M_replace_161 (by decide) (fun hc9 => ?_) (fun hc9 => ?_)
        · rw [if_neg hc9] at hM
          exact t_M_replace_190 F hR hK hN hA hQ hk_117 _ _ _ _ _ _ hM w (lv_sub hl [0, 1, 2, 3, 4, 5] rfl)
        · rw [if_pos hc9] at hM
          refine lv_aload_n F.1 F.2.1 qd_M_replace_164 rfl (lv_at hl 0 rfl) ?_
          refine mg_M_become F hK w qk_675 qd_M_replace_165 ?_
          refine lv_iload F.1 F.2.1 qd_M_replace_168 (lv_at hl 5 rfl) ?_
          refine lv_aload_n F.1 F.2.1 qd_M_replace_170 rfl (lv_at hl 0 rfl) ?_
          refine mg_M_second F hK w qk_666 qd_M_replace_171 ?_
          refine lv_iload F.1 F.2.1 qd_M_replace_174 (lv_at hl 5 rfl) ?_
          obtain ⟨hi10, hM⟩ := qck_ok hM
          refine ml_M_second F hK w hi10 qd_M_replace_176 ?_
          refine lv_if_ne (tgt := 184) F.1 F.2.1 qd_M_replace_177 (by decide) (fun hc11 => ?_) (fun hc11 => ?_)
          · rw [if_neg hc11] at hM
            refine lv_iload F.1 F.2.1 qd_M_replace_184 (lv_at hl 4 rfl) ?_
            exact t_M_replace_186 F hR hK hN hA hQ hk_117 _ _ _ _ _ _ _ _ hM w (lv_sub hl [0, 1, 2, 3, 4, 5] rfl)
          · rw [if_pos hc11] at hM
            refine lv_iload_n F.1 F.2.1 qd_M_replace_180 rfl (lv_at hl 3 rfl) ?_
            refine lv_goto (tgt := 186) F.1 F.2.1 qd_M_replace_181 (by decide) ?_
            exact t_M_replace_186 F hR hK hN hA hQ hk_117 _ _ _ _ _ _ _ _ hM w (lv_sub hl [0, 1, 2, 3, 4, 5] rfl)
set_option maxRecDepth 100000 in
set_option maxHeartbeats 4000000 in
theorem t_M_replace_117 {p : Program} {l : Launch} {e : Env} {R : Room} {s : State} {m : MethodId} {args : Array Value} {below : List Frame} {meth : Method} {c : Code} {Q : State → Prop} {D : va_G} {ad : Nat → Nat} {cI cZ : ClassId} {A : Nat → Prop} (F : CallFix p m c qb_M_replace 6 s args qtb "CaptureSubtypesModel") (hR : 3 ≤ R.frames ∧ 75 ≤ R.locals) (hK : va_K D qcl [(cI, .int), (cZ, .boolean)] s) (hN : qnests mns s) (hA : ∀ q, s.heap.size ≤ q → A q) {res : (Int32 × (Nat → Nat → Int32))} (hQ : ∀ (H : Heap) (locs : List Loc) (pc : Nat) (ls : Array Slot), decode qb_M_replace pc = .ok (.ireturn, 1) → mW D ad cI cZ A s.heap res.2 H locs → W p l e R s m args below meth c H locs 0 0 Q (F0 m pc ls [.int res.1])) : ∀ (n : Nat) (S : (Nat → Nat → Int32)) (v1 v2 v3 v4 v5 : Int32) (hM : f_M_replace_117 n S v1 v2 v3 v4 v5 = some res) {H : Heap} {locs : List Loc} {ls : Array Slot} (w : mW D ad cI cZ A s.heap S H locs) (hl : lv_has ls 6 [(0, .ref (ad 0)), (1, .int v1), (2, .int v2), (3, .int v3), (4, .int v4), (5, .int v5)]), W p l e R s m args below meth c H locs 0 0 Q (F0 m 117 ls []) := by
  intro n
  induction n with
  | zero => intro S v1 v2 v3 v4 v5 hM; exact absurd hM (by simp [f_M_replace_117])
  | succ n ih => intro S v1 v2 v3 v4 v5 hM H locs ls w hl; exact tb_M_replace_117 F hR hK hN hA hQ (k_117 := f_M_replace_117 n) (fun S v1 v2 v3 v4 v5 hM H locs ls w hl => ih S v1 v2 v3 v4 v5 hM w hl) S v1 v2 v3 v4 v5 hM w hl
set_option maxRecDepth 100000 in
set_option maxHeartbeats 4000000 in
theorem t_M_replace_73 {p : Program} {l : Launch} {e : Env} {R : Room} {s : State} {m : MethodId} {args : Array Value} {below : List Frame} {meth : Method} {c : Code} {Q : State → Prop} {D : va_G} {ad : Nat → Nat} {cI cZ : ClassId} {A : Nat → Prop} (F : CallFix p m c qb_M_replace 6 s args qtb "CaptureSubtypesModel") (hR : 3 ≤ R.frames ∧ 75 ≤ R.locals) (hK : va_K D qcl [(cI, .int), (cZ, .boolean)] s) (hN : qnests mns s) (hA : ∀ q, s.heap.size ≤ q → A q) {res : (Int32 × (Nat → Nat → Int32))} (hQ : ∀ (H : Heap) (locs : List Loc) (pc : Nat) (ls : Array Slot), decode qb_M_replace pc = .ok (.ireturn, 1) → mW D ad cI cZ A s.heap res.2 H locs → W p l e R s m args below meth c H locs 0 0 Q (F0 m pc ls [.int res.1])) {k_36 : (Nat → Nat → Int32) → Int32 → Int32 → Int32 → Int32 → Int32 → Option (Int32 × (Nat → Nat → Int32))} (hk_36 : ∀ (S : Nat → Nat → Int32) (v1 v2 v3 v4 v5 : Int32), k_36 S v1 v2 v3 v4 v5 = some res → ∀ {H : Heap} {locs : List Loc} {ls : Array Slot}, mW D ad cI cZ A s.heap S H locs → lv_has ls 6 [(0, .ref (ad 0)), (1, .int v1), (2, .int v2), (3, .int v3), (4, .int v4), (5, .int v5)] → W p l e R s m args below meth c H locs 0 0 Q (F0 m 36 ls [])) (S : (Nat → Nat → Int32)) (v1 v2 v3 v4 v5 : Int32) (hM : f_M_replace_73 k_36 S v1 v2 v3 v4 v5 = some res) {H : Heap} {locs : List Loc} {ls : Array Slot} (w : mW D ad cI cZ A s.heap S H locs) (hl : lv_has ls 6 [(0, .ref (ad 0)), (1, .int v1), (2, .int v2), (3, .int v3), (4, .int v4), (5, .int v5)]) : W p l e R s m args below meth c H locs 0 0 Q (F0 m 73 ls []) := by
  unfold f_M_replace_73 at hM
  refine lv_aload_n F.1 F.2.1 qd_M_replace_73 rfl (lv_at hl 0 rfl) ?_
  refine mg_M_sort F hK w qk_664 qd_M_replace_74 ?_
  refine lv_iload F.1 F.2.1 qd_M_replace_77 (lv_at hl 5 rfl) ?_
  obtain ⟨hi1, hM⟩ := qck_ok hM
  refine ml_M_sort F hK w hi1 qd_M_replace_79 ?_
  refine lv_iconst (v := 2) F.1 F.2.1 qd_M_replace_80 (by decide) ?_
  refine lv_icmp_ne (tgt := 108) F.1 F.2.1 qd_M_replace_81 (by decide) (fun hc2 => ?_) (fun hc2 => ?_)
  · rw [if_neg hc2] at hM
    refine lv_iinc (v := (v5 + (-1 : Int32))) (lv' := [(5, .int (v5 + (-1 : Int32))), (0, .ref (ad 0)), (1, .int v1), (2, .int v2), (3, .int v3), (4, .int v4)]) F.1 F.2.1 qd_M_replace_108 hl (k := 5) rfl rfl (by decide) rfl (fun ls hl => ?_)
    refine lv_goto (tgt := 36) F.1 F.2.1 qd_M_replace_111 (by decide) ?_
    exact hk_36 _ _ _ _ _ _ hM w (lv_sub hl [1, 2, 3, 4, 5, 0] rfl)
  · rw [if_pos hc2] at hM
    refine lv_aload_n F.1 F.2.1 qd_M_replace_84 rfl (lv_at hl 0 rfl) ?_
    refine mg_M_third F hK w qk_667 qd_M_replace_85 ?_
    refine lv_iload F.1 F.2.1 qd_M_replace_88 (lv_at hl 5 rfl) ?_
    obtain ⟨hi3, hM⟩ := qck_ok hM
    refine ml_M_third F hK w hi3 qd_M_replace_90 ?_
    refine lv_iconst (v := (-1)) F.1 F.2.1 qd_M_replace_91 (by decide) ?_
    refine lv_icmp_eq (tgt := 108) F.1 F.2.1 qd_M_replace_92 (by decide) (fun hc4 => ?_) (fun hc4 => ?_)
    · rw [if_pos hc4] at hM
      refine lv_iinc (v := (v5 + (-1 : Int32))) (lv' := [(5, .int (v5 + (-1 : Int32))), (0, .ref (ad 0)), (1, .int v1), (2, .int v2), (3, .int v3), (4, .int v4)]) F.1 F.2.1 qd_M_replace_108 hl (k := 5) rfl rfl (by decide) rfl (fun ls hl => ?_)
      refine lv_goto (tgt := 36) F.1 F.2.1 qd_M_replace_111 (by decide) ?_
      exact hk_36 _ _ _ _ _ _ hM w (lv_sub hl [1, 2, 3, 4, 5, 0] rfl)
    · rw [if_neg hc4] at hM
      refine lv_aload_n F.1 F.2.1 qd_M_replace_95 rfl (lv_at hl 0 rfl) ?_
      refine mg_M_isNeeded F hK w qk_676 qd_M_replace_96 ?_
      refine lv_aload_n F.1 F.2.1 qd_M_replace_99 rfl (lv_at hl 0 rfl) ?_
      refine mg_M_third F hK w qk_667 qd_M_replace_100 ?_
      refine lv_iload F.1 F.2.1 qd_M_replace_103 (lv_at hl 5 rfl) ?_
      obtain ⟨hi5, hM⟩ := qck_ok hM
      refine ml_M_third F hK w hi5 qd_M_replace_105 ?_
      refine lv_iconst (v := 1) F.1 F.2.1 qd_M_replace_106 (by decide) ?_
      obtain ⟨hi6, hM⟩ := qck_ok hM
      refine ms_M_isNeeded F hK w hi6 qd_M_replace_107 (fun H locs w => ?_)
      refine lv_iinc (v := (v5 + (-1 : Int32))) (lv' := [(5, .int (v5 + (-1 : Int32))), (0, .ref (ad 0)), (1, .int v1), (2, .int v2), (3, .int v3), (4, .int v4)]) F.1 F.2.1 qd_M_replace_108 hl (k := 5) rfl rfl (by decide) rfl (fun ls hl => ?_)
      refine lv_goto (tgt := 36) F.1 F.2.1 qd_M_replace_111 (by decide) ?_
      exact hk_36 _ _ _ _ _ _ hM w (lv_sub hl [1, 2, 3, 4, 5, 0] rfl)
set_option maxRecDepth 100000 in
set_option maxHeartbeats 4000000 in
theorem tb_M_replace_36 {p : Program} {l : Launch} {e : Env} {R : Room} {s : State} {m : MethodId} {args : Array Value} {below : List Frame} {meth : Method} {c : Code} {Q : State → Prop} {D : va_G} {ad : Nat → Nat} {cI cZ : ClassId} {A : Nat → Prop} (F : CallFix p m c qb_M_replace 6 s args qtb "CaptureSubtypesModel") (hR : 3 ≤ R.frames ∧ 75 ≤ R.locals) (hK : va_K D qcl [(cI, .int), (cZ, .boolean)] s) (hN : qnests mns s) (hA : ∀ q, s.heap.size ≤ q → A q) {res : (Int32 × (Nat → Nat → Int32))} (hQ : ∀ (H : Heap) (locs : List Loc) (pc : Nat) (ls : Array Slot), decode qb_M_replace pc = .ok (.ireturn, 1) → mW D ad cI cZ A s.heap res.2 H locs → W p l e R s m args below meth c H locs 0 0 Q (F0 m pc ls [.int res.1])) {k_36 : (Nat → Nat → Int32) → Int32 → Int32 → Int32 → Int32 → Int32 → Option (Int32 × (Nat → Nat → Int32))} (hk_36 : ∀ (S : Nat → Nat → Int32) (v1 v2 v3 v4 v5 : Int32), k_36 S v1 v2 v3 v4 v5 = some res → ∀ {H : Heap} {locs : List Loc} {ls : Array Slot}, mW D ad cI cZ A s.heap S H locs → lv_has ls 6 [(0, .ref (ad 0)), (1, .int v1), (2, .int v2), (3, .int v3), (4, .int v4), (5, .int v5)] → W p l e R s m args below meth c H locs 0 0 Q (F0 m 36 ls [])) (S : (Nat → Nat → Int32)) (v1 v2 v3 v4 v5 : Int32) (hM : fb_M_replace_36 k_36 S v1 v2 v3 v4 v5 = some res) {H : Heap} {locs : List Loc} {ls : Array Slot} (w : mW D ad cI cZ A s.heap S H locs) (hl : lv_has ls 6 [(0, .ref (ad 0)), (1, .int v1), (2, .int v2), (3, .int v3), (4, .int v4), (5, .int v5)]) : W p l e R s m args below meth c H locs 0 0 Q (F0 m 36 ls []) := by
  unfold fb_M_replace_36 at hM
  refine lv_iload F.1 F.2.1 qd_M_replace_36 (lv_at hl 5 rfl) ?_
  refine lv_if_lt (tgt := 114) F.1 F.2.1 qd_M_replace_38 (by decide) (fun hc1 => ?_) (fun hc1 => ?_)
  · rw [if_pos hc1] at hM
    refine lv_iconst (v := 0) F.1 F.2.1 qd_M_replace_114 (by decide) ?_
    refine lv_istore (lv' := [(5, .int (0 : Int32)), (0, .ref (ad 0)), (1, .int v1), (2, .int v2), (3, .int v3), (4, .int v4)]) F.1 F.2.1 qd_M_replace_115 hl (by decide) rfl (fun ls hl => ?_)
    exact t_M_replace_117 F hR hK hN hA hQ  qfu _ _ _ _ _ _ hM w (lv_sub hl [1, 2, 3, 4, 5, 0] rfl)
  · rw [if_neg hc1] at hM
    refine lv_aload_n F.1 F.2.1 qd_M_replace_41 rfl (lv_at hl 0 rfl) ?_
    refine mg_M_isNeeded F hK w qk_676 qd_M_replace_42 ?_
    refine lv_iload F.1 F.2.1 qd_M_replace_45 (lv_at hl 5 rfl) ?_
    obtain ⟨hi2, hM⟩ := qck_ok hM
    refine ml_M_isNeeded F hK w hi2 qd_M_replace_47 ?_
    refine lv_if_eq (tgt := 108) F.1 F.2.1 qd_M_replace_48 (by decide) (fun hc3 => ?_) (fun hc3 => ?_)
    · rw [if_pos hc3] at hM
      refine lv_iinc (v := (v5 + (-1 : Int32))) (lv' := [(5, .int (v5 + (-1 : Int32))), (0, .ref (ad 0)), (1, .int v1), (2, .int v2), (3, .int v3), (4, .int v4)]) F.1 F.2.1 qd_M_replace_108 hl (k := 5) rfl rfl (by decide) rfl (fun ls hl => ?_)
      refine lv_goto (tgt := 36) F.1 F.2.1 qd_M_replace_111 (by decide) ?_
      exact hk_36 _ _ _ _ _ _ hM w (lv_sub hl [1, 2, 3, 4, 5, 0] rfl)
    · rw [if_neg hc3] at hM
      refine lv_aload_n F.1 F.2.1 qd_M_replace_51 rfl (lv_at hl 0 rfl) ?_
      refine lv_iload F.1 F.2.1 qd_M_replace_52 (lv_at hl 5 rfl) ?_
      obtain ⟨q4, hq5, hM⟩ := qbd hM
      refine m_calli F hK hN hA w (c_M_hasFirst l D ad cI cZ hq5) qk_924 qk_926 qs_M_hasFirst qk_8 qk_927 qv_M_hasFirst rfl rfl ⟨Nat.le_trans (by decide) hR.1, Nat.le_trans (by decide) hR.2⟩ (ci := 6) rfl (j := 0) rfl hl.1 rfl (Nat.le_of_ble_eq_true rfl) qd_M_replace_54 (fun H locs w => ?_)
      refine lv_if_eq (tgt := 73) F.1 F.2.1 qd_M_replace_57 (by decide) (fun hc6 => ?_) (fun hc6 => ?_)
      · rw [if_pos hc6] at hM
        exact t_M_replace_73 F hR hK hN hA hQ hk_36 _ _ _ _ _ _ hM w (lv_sub hl [0, 1, 2, 3, 4, 5] rfl)
      · rw [if_neg hc6] at hM
        refine lv_aload_n F.1 F.2.1 qd_M_replace_60 rfl (lv_at hl 0 rfl) ?_
        refine mg_M_isNeeded F hK w qk_676 qd_M_replace_61 ?_
        refine lv_aload_n F.1 F.2.1 qd_M_replace_64 rfl (lv_at hl 0 rfl) ?_
        refine mg_M_second F hK w qk_666 qd_M_replace_65 ?_
        refine lv_iload F.1 F.2.1 qd_M_replace_68 (lv_at hl 5 rfl) ?_
        obtain ⟨hi7, hM⟩ := qck_ok hM
        refine ml_M_second F hK w hi7 qd_M_replace_70 ?_
        refine lv_iconst (v := 1) F.1 F.2.1 qd_M_replace_71 (by decide) ?_
        obtain ⟨hi8, hM⟩ := qck_ok hM
        refine ms_M_isNeeded F hK w hi8 qd_M_replace_72 (fun H locs w => ?_)
        exact t_M_replace_73 F hR hK hN hA hQ hk_36 _ _ _ _ _ _ hM w (lv_sub hl [0, 1, 2, 3, 4, 5] rfl)
set_option maxRecDepth 100000 in
set_option maxHeartbeats 4000000 in
theorem t_M_replace_36 {p : Program} {l : Launch} {e : Env} {R : Room} {s : State} {m : MethodId} {args : Array Value} {below : List Frame} {meth : Method} {c : Code} {Q : State → Prop} {D : va_G} {ad : Nat → Nat} {cI cZ : ClassId} {A : Nat → Prop} (F : CallFix p m c qb_M_replace 6 s args qtb "CaptureSubtypesModel") (hR : 3 ≤ R.frames ∧ 75 ≤ R.locals) (hK : va_K D qcl [(cI, .int), (cZ, .boolean)] s) (hN : qnests mns s) (hA : ∀ q, s.heap.size ≤ q → A q) {res : (Int32 × (Nat → Nat → Int32))} (hQ : ∀ (H : Heap) (locs : List Loc) (pc : Nat) (ls : Array Slot), decode qb_M_replace pc = .ok (.ireturn, 1) → mW D ad cI cZ A s.heap res.2 H locs → W p l e R s m args below meth c H locs 0 0 Q (F0 m pc ls [.int res.1])) : ∀ (n : Nat) (S : (Nat → Nat → Int32)) (v1 v2 v3 v4 v5 : Int32) (hM : f_M_replace_36 n S v1 v2 v3 v4 v5 = some res) {H : Heap} {locs : List Loc} {ls : Array Slot} (w : mW D ad cI cZ A s.heap S H locs) (hl : lv_has ls 6 [(0, .ref (ad 0)), (1, .int v1), (2, .int v2), (3, .int v3), (4, .int v4), (5, .int v5)]), W p l e R s m args below meth c H locs 0 0 Q (F0 m 36 ls []) := by
  intro n
  induction n with
  | zero => intro S v1 v2 v3 v4 v5 hM; exact absurd hM (by simp [f_M_replace_36])
  | succ n ih => intro S v1 v2 v3 v4 v5 hM H locs ls w hl; exact tb_M_replace_36 F hR hK hN hA hQ (k_36 := f_M_replace_36 n) (fun S v1 v2 v3 v4 v5 hM H locs ls w hl => ih S v1 v2 v3 v4 v5 hM w hl) S v1 v2 v3 v4 v5 hM w hl
set_option maxRecDepth 100000 in
set_option maxHeartbeats 4000000 in
theorem t_M_replace_26 {p : Program} {l : Launch} {e : Env} {R : Room} {s : State} {m : MethodId} {args : Array Value} {below : List Frame} {meth : Method} {c : Code} {Q : State → Prop} {D : va_G} {ad : Nat → Nat} {cI cZ : ClassId} {A : Nat → Prop} (F : CallFix p m c qb_M_replace 6 s args qtb "CaptureSubtypesModel") (hR : 3 ≤ R.frames ∧ 75 ≤ R.locals) (hK : va_K D qcl [(cI, .int), (cZ, .boolean)] s) (hN : qnests mns s) (hA : ∀ q, s.heap.size ≤ q → A q) {res : (Int32 × (Nat → Nat → Int32))} (hQ : ∀ (H : Heap) (locs : List Loc) (pc : Nat) (ls : Array Slot), decode qb_M_replace pc = .ok (.ireturn, 1) → mW D ad cI cZ A s.heap res.2 H locs → W p l e R s m args below meth c H locs 0 0 Q (F0 m pc ls [.int res.1])) {k_3 : (Nat → Nat → Int32) → Int32 → Int32 → Int32 → Int32 → Int32 → Option (Int32 × (Nat → Nat → Int32))} (hk_3 : ∀ (S : Nat → Nat → Int32) (v1 v2 v3 v4 v5 : Int32), k_3 S v1 v2 v3 v4 v5 = some res → ∀ {H : Heap} {locs : List Loc} {ls : Array Slot}, mW D ad cI cZ A s.heap S H locs → lv_has ls 6 [(0, .ref (ad 0)), (1, .int v1), (2, .int v2), (3, .int v3), (4, .int v4), (5, .int v5)] → W p l e R s m args below meth c H locs 0 0 Q (F0 m 3 ls [])) (S : (Nat → Nat → Int32)) (v1 v2 v3 v4 v5 s1 s2 : Int32) (hM : f_M_replace_26 k_3 S v1 v2 v3 v4 v5 s1 s2 = some res) {H : Heap} {locs : List Loc} {ls : Array Slot} (w : mW D ad cI cZ A s.heap S H locs) (hl : lv_has ls 6 [(0, .ref (ad 0)), (1, .int v1), (2, .int v2), (3, .int v3), (4, .int v4), (5, .int v5)]) : W p l e R s m args below meth c H locs 0 0 Q (F0 m 26 ls [.int s2, .int s1, .ref (ad 18)]) := by
  unfold f_M_replace_26 at hM
  obtain ⟨hi1, hM⟩ := qck_ok hM
  refine ms_M_isNeeded F hK w hi1 qd_M_replace_26 (fun H locs w => ?_)
  refine lv_iinc (v := (v5 + (1 : Int32))) (lv' := [(5, .int (v5 + (1 : Int32))), (0, .ref (ad 0)), (1, .int v1), (2, .int v2), (3, .int v3), (4, .int v4)]) F.1 F.2.1 qd_M_replace_27 hl (k := 5) rfl rfl (by decide) rfl (fun ls hl => ?_)
  refine lv_goto (tgt := 3) F.1 F.2.1 qd_M_replace_30 (by decide) ?_
  exact hk_3 _ _ _ _ _ _ hM w (lv_sub hl [1, 2, 3, 4, 5, 0] rfl)
set_option maxRecDepth 100000 in
set_option maxHeartbeats 4000000 in
theorem tb_M_replace_3 {p : Program} {l : Launch} {e : Env} {R : Room} {s : State} {m : MethodId} {args : Array Value} {below : List Frame} {meth : Method} {c : Code} {Q : State → Prop} {D : va_G} {ad : Nat → Nat} {cI cZ : ClassId} {A : Nat → Prop} (F : CallFix p m c qb_M_replace 6 s args qtb "CaptureSubtypesModel") (hR : 3 ≤ R.frames ∧ 75 ≤ R.locals) (hK : va_K D qcl [(cI, .int), (cZ, .boolean)] s) (hN : qnests mns s) (hA : ∀ q, s.heap.size ≤ q → A q) {res : (Int32 × (Nat → Nat → Int32))} (hQ : ∀ (H : Heap) (locs : List Loc) (pc : Nat) (ls : Array Slot), decode qb_M_replace pc = .ok (.ireturn, 1) → mW D ad cI cZ A s.heap res.2 H locs → W p l e R s m args below meth c H locs 0 0 Q (F0 m pc ls [.int res.1])) {k_3 : (Nat → Nat → Int32) → Int32 → Int32 → Int32 → Int32 → Int32 → Option (Int32 × (Nat → Nat → Int32))} (hk_3 : ∀ (S : Nat → Nat → Int32) (v1 v2 v3 v4 v5 : Int32), k_3 S v1 v2 v3 v4 v5 = some res → ∀ {H : Heap} {locs : List Loc} {ls : Array Slot}, mW D ad cI cZ A s.heap S H locs → lv_has ls 6 [(0, .ref (ad 0)), (1, .int v1), (2, .int v2), (3, .int v3), (4, .int v4), (5, .int v5)] → W p l e R s m args below meth c H locs 0 0 Q (F0 m 3 ls [])) (S : (Nat → Nat → Int32)) (v1 v2 v3 v4 v5 : Int32) (hM : fb_M_replace_3 k_3 S v1 v2 v3 v4 v5 = some res) {H : Heap} {locs : List Loc} {ls : Array Slot} (w : mW D ad cI cZ A s.heap S H locs) (hl : lv_has ls 6 [(0, .ref (ad 0)), (1, .int v1), (2, .int v2), (3, .int v3), (4, .int v4), (5, .int v5)]) : W p l e R s m args below meth c H locs 0 0 Q (F0 m 3 ls []) := by
  unfold fb_M_replace_3 at hM
  refine lv_iload F.1 F.2.1 qd_M_replace_3 (lv_at hl 5 rfl) ?_
  refine lv_iload_n F.1 F.2.1 qd_M_replace_5 rfl (lv_at hl 1 rfl) ?_
  refine lv_icmp_gt (tgt := 33) F.1 F.2.1 qd_M_replace_6 (by decide) (fun hc1 => ?_) (fun hc1 => ?_)
  · rw [if_pos hc1] at hM
    refine lv_iload_n F.1 F.2.1 qd_M_replace_33 rfl (lv_at hl 1 rfl) ?_
    refine lv_istore (lv' := [(5, .int v1), (0, .ref (ad 0)), (1, .int v1), (2, .int v2), (3, .int v3), (4, .int v4)]) F.1 F.2.1 qd_M_replace_34 hl (by decide) rfl (fun ls hl => ?_)
    exact t_M_replace_36 F hR hK hN hA hQ  qfu _ _ _ _ _ _ hM w (lv_sub hl [1, 2, 3, 4, 5, 0] rfl)
  · rw [if_neg hc1] at hM
    refine lv_aload_n F.1 F.2.1 qd_M_replace_9 rfl (lv_at hl 0 rfl) ?_
    refine mg_M_isNeeded F hK w qk_676 qd_M_replace_10 ?_
    refine lv_iload F.1 F.2.1 qd_M_replace_13 (lv_at hl 5 rfl) ?_
    refine lv_iload F.1 F.2.1 qd_M_replace_15 (lv_at hl 5 rfl) ?_
    refine lv_iload_n F.1 F.2.1 qd_M_replace_17 rfl (lv_at hl 1 rfl) ?_
    refine lv_icmp_ne (tgt := 25) F.1 F.2.1 qd_M_replace_18 (by decide) (fun hc2 => ?_) (fun hc2 => ?_)
    · rw [if_neg hc2] at hM
      refine lv_iconst (v := 0) F.1 F.2.1 qd_M_replace_25 (by decide) ?_
      exact t_M_replace_26 F hR hK hN hA hQ hk_3 _ _ _ _ _ _ _ _ hM w (lv_sub hl [0, 1, 2, 3, 4, 5] rfl)
    · rw [if_pos hc2] at hM
      refine lv_iconst (v := 1) F.1 F.2.1 qd_M_replace_21 (by decide) ?_
      refine lv_goto (tgt := 26) F.1 F.2.1 qd_M_replace_22 (by decide) ?_
      exact t_M_replace_26 F hR hK hN hA hQ hk_3 _ _ _ _ _ _ _ _ hM w (lv_sub hl [0, 1, 2, 3, 4, 5] rfl)
set_option maxRecDepth 100000 in
set_option maxHeartbeats 4000000 in
theorem t_M_replace_3 {p : Program} {l : Launch} {e : Env} {R : Room} {s : State} {m : MethodId} {args : Array Value} {below : List Frame} {meth : Method} {c : Code} {Q : State → Prop} {D : va_G} {ad : Nat → Nat} {cI cZ : ClassId} {A : Nat → Prop} (F : CallFix p m c qb_M_replace 6 s args qtb "CaptureSubtypesModel") (hR : 3 ≤ R.frames ∧ 75 ≤ R.locals) (hK : va_K D qcl [(cI, .int), (cZ, .boolean)] s) (hN : qnests mns s) (hA : ∀ q, s.heap.size ≤ q → A q) {res : (Int32 × (Nat → Nat → Int32))} (hQ : ∀ (H : Heap) (locs : List Loc) (pc : Nat) (ls : Array Slot), decode qb_M_replace pc = .ok (.ireturn, 1) → mW D ad cI cZ A s.heap res.2 H locs → W p l e R s m args below meth c H locs 0 0 Q (F0 m pc ls [.int res.1])) : ∀ (n : Nat) (S : (Nat → Nat → Int32)) (v1 v2 v3 v4 v5 : Int32) (hM : f_M_replace_3 n S v1 v2 v3 v4 v5 = some res) {H : Heap} {locs : List Loc} {ls : Array Slot} (w : mW D ad cI cZ A s.heap S H locs) (hl : lv_has ls 6 [(0, .ref (ad 0)), (1, .int v1), (2, .int v2), (3, .int v3), (4, .int v4), (5, .int v5)]), W p l e R s m args below meth c H locs 0 0 Q (F0 m 3 ls []) := by
  intro n
  induction n with
  | zero => intro S v1 v2 v3 v4 v5 hM; exact absurd hM (by simp [f_M_replace_3])
  | succ n ih => intro S v1 v2 v3 v4 v5 hM H locs ls w hl; exact tb_M_replace_3 F hR hK hN hA hQ (k_3 := f_M_replace_3 n) (fun S v1 v2 v3 v4 v5 hM H locs ls w hl => ih S v1 v2 v3 v4 v5 hM w hl) S v1 v2 v3 v4 v5 hM w hl
set_option maxRecDepth 100000 in
set_option maxHeartbeats 4000000 in
theorem t_M_replace {p : Program} {l : Launch} {e : Env} {R : Room} {s : State} {m : MethodId} {args : Array Value} {below : List Frame} {meth : Method} {c : Code} {Q : State → Prop} {D : va_G} {ad : Nat → Nat} {cI cZ : ClassId} {A : Nat → Prop} (F : CallFix p m c qb_M_replace 6 s args qtb "CaptureSubtypesModel") (hR : 3 ≤ R.frames ∧ 75 ≤ R.locals) (hK : va_K D qcl [(cI, .int), (cZ, .boolean)] s) (hN : qnests mns s) (hA : ∀ q, s.heap.size ≤ q → A q) {res : (Int32 × (Nat → Nat → Int32))} (hQ : ∀ (H : Heap) (locs : List Loc) (pc : Nat) (ls : Array Slot), decode qb_M_replace pc = .ok (.ireturn, 1) → mW D ad cI cZ A s.heap res.2 H locs → W p l e R s m args below meth c H locs 0 0 Q (F0 m pc ls [.int res.1])) (S : (Nat → Nat → Int32)) (a1 a2 a3 a4 : Int32) (hM : f_M_replace S a1 a2 a3 a4 = some res) {H : Heap} {locs : List Loc} {ls : Array Slot} (w : mW D ad cI cZ A s.heap S H locs) (hl : lv_has ls 6 [(0, .ref (ad 0)), (1, .int a1), (2, .int a2), (3, .int a3), (4, .int a4)]) : W p l e R s m args below meth c H locs 0 0 Q (F0 m 0 ls []) := by
  unfold f_M_replace at hM
  refine lv_iconst (v := 0) F.1 F.2.1 qd_M_replace_0 (by decide) ?_
  refine lv_istore (lv' := [(5, .int (0 : Int32)), (0, .ref (ad 0)), (1, .int a1), (2, .int a2), (3, .int a3), (4, .int a4)]) F.1 F.2.1 qd_M_replace_1 hl (by decide) rfl (fun ls hl => ?_)
  exact t_M_replace_3 F hR hK hN hA hQ  qfu _ _ _ _ _ _ hM w (lv_sub hl [1, 2, 3, 4, 5, 0] rfl)
set_option maxRecDepth 100000 in
theorem c_M_replace (l : Launch) (D : va_G) (ad : Nat → Nat) (cI cZ : ClassId) {S : (Nat → Nat → Int32)} {a1 a2 a3 a4 : Int32} {res : (Int32 × (Nat → Nat → Int32))} (hM : f_M_replace S a1 a2 a3 a4 = some res) : mMi l qy_M_replace qb_M_replace 6 (some .int) { frames := 3, cells := 0, slots := 0, locals := 75 } D ad cI cZ S [.ref (ad 0), .int a1, .int a2, .int a3, .int a4] res.1 res.2 := m_ofi (by decide +kernel) (Nat.le_of_ble_eq_true rfl) (fun p e s m args below meth c Q A ls F hK hN hA w hl hQ => t_M_replace F ⟨Nat.le_refl _, Nat.le_refl _⟩ hK hN hA hQ S a1 a2 a3 a4 hM w hl)
-- M_catchIt
def fb_M_catchIt_275 (k_175 : (Nat → Nat → Int32) → Int32 → Int32 → Int32 → Int32 → Int32 → Option (Int32 × (Nat → Nat → Int32))) (k_275 : (Nat → Nat → Int32) → Int32 → Int32 → Int32 → Int32 → Int32 → Int32 → Int32 → Option (Int32 × (Nat → Nat → Int32))) (S : (Nat → Nat → Int32)) (v1 v2 v3 v4 v5 v7 v8 : Int32) : Option (Int32 × (Nat → Nat → Int32)) := qck (qin (((2 : Int32) * v2) + v5) 24) (if (S 6 (((2 : Int32) * v2) + v5).toNatClampNeg) ≤ v8 then (k_175 S v1 v2 v3 v4 (v5 + (1 : Int32))) else (qck (qin v7 3000) (qck (qin (((2 : Int32) * (((2 : Int32) * v2) + v5)) + v8) 48) ((f_M_replace S (S 5 (((2 : Int32) * (((2 : Int32) * v2) + v5)) + v8).toNatClampNeg) v2 v3 v4).bind (fun q5 => qck (qin (((3 : Int32) * v7) + (S 16 v7.toNatClampNeg)) 9000) (qck (qin v7 3000) (qck (qin v7 3000) (k_275 (qwr (qwr q5.2 15 (((3 : Int32) * v7) + (S 16 v7.toNatClampNeg)).toNatClampNeg q5.1) 16 v7.toNatClampNeg (((qwr q5.2 15 (((3 : Int32) * v7) + (S 16 v7.toNatClampNeg)).toNatClampNeg q5.1) 16 v7.toNatClampNeg) + (1 : Int32))) v1 v2 v3 v4 v5 v7 (v8 + (1 : Int32))))))))))
def f_M_catchIt_275 (k_175 : (Nat → Nat → Int32) → Int32 → Int32 → Int32 → Int32 → Int32 → Option (Int32 × (Nat → Nat → Int32))) : Nat → (Nat → Nat → Int32) → Int32 → Int32 → Int32 → Int32 → Int32 → Int32 → Int32 → Option (Int32 × (Nat → Nat → Int32))
  | 0 => fun _ _ _ _ _ _ _ _ => none
  | n + 1 => fun S v1 v2 v3 v4 v5 v7 v8 => fb_M_catchIt_275 k_175 (f_M_catchIt_275 k_175 n) S v1 v2 v3 v4 v5 v7 v8
def f_M_catchIt_234 (k_175 : (Nat → Nat → Int32) → Int32 → Int32 → Int32 → Int32 → Int32 → Option (Int32 × (Nat → Nat → Int32))) (S : (Nat → Nat → Int32)) (v1 v2 v3 v4 v5 v6 s1 : Int32) : Option (Int32 × (Nat → Nat → Int32)) := qck (qin s1 9000) (qck (qin v6 9000) (if (S 10 v6.toNatClampNeg) = (1 : Int32) then (qck (qin v6 9000) (qck (qin ((3 : Int32) * (S 11 s1.toNatClampNeg)) 9000) (qck (qin (S 11 s1.toNatClampNeg) 3000) (f_M_catchIt_275 k_175 qfu (qwr (qwr S 15 ((3 : Int32) * (S 11 s1.toNatClampNeg)).toNatClampNeg (S 11 v6.toNatClampNeg)) 16 (S 11 s1.toNatClampNeg).toNatClampNeg (1 : Int32)) v1 v2 v3 v4 v5 (S 11 s1.toNatClampNeg) (0 : Int32))))) else (f_M_catchIt_275 k_175 qfu S v1 v2 v3 v4 v5 (S 11 s1.toNatClampNeg) (0 : Int32))))
def f_M_catchIt_206 (k_175 : (Nat → Nat → Int32) → Int32 → Int32 → Int32 → Int32 → Int32 → Option (Int32 × (Nat → Nat → Int32))) (S : (Nat → Nat → Int32)) (v1 v2 v3 v4 v5 s1 : Int32) : Option (Int32 × (Nat → Nat → Int32)) := qck (qin s1 9000) (if (S 9 s1.toNatClampNeg) = (5 : Int32) then (if v5 = 0 then (f_M_catchIt_234 k_175 S v1 v2 v3 v4 v5 s1 v3) else (f_M_catchIt_234 k_175 S v1 v2 v3 v4 v5 s1 v4)) else (k_175 S v1 v2 v3 v4 (v5 + (1 : Int32))))
def fb_M_catchIt_175 (k_175 : (Nat → Nat → Int32) → Int32 → Int32 → Int32 → Int32 → Int32 → Option (Int32 × (Nat → Nat → Int32))) (S : (Nat → Nat → Int32)) (v1 v2 v3 v4 v5 : Int32) : Option (Int32 × (Nat → Nat → Int32)) := qck (qin v2 12) (if (S 2 v2.toNatClampNeg) ≤ v5 then ((f_M_come S (2 : Int32) v2 v3 v4).bind (fun q3 => some (q3.1, q3.2))) else (if v5 = 0 then (qck (qin v1 9000) (f_M_catchIt_206 k_175 S v1 v2 v3 v4 v5 (S 11 v1.toNatClampNeg))) else (qck (qin v1 9000) (f_M_catchIt_206 k_175 S v1 v2 v3 v4 v5 (S 12 v1.toNatClampNeg)))))
def f_M_catchIt_175 : Nat → (Nat → Nat → Int32) → Int32 → Int32 → Int32 → Int32 → Int32 → Option (Int32 × (Nat → Nat → Int32))
  | 0 => fun _ _ _ _ _ _ => none
  | n + 1 => fun S v1 v2 v3 v4 v5 => fb_M_catchIt_175 (f_M_catchIt_175 n) S v1 v2 v3 v4 v5
def f_M_catchIt_109 (k_19 : (Nat → Nat → Int32) → Int32 → Int32 → Int32 → Option (Int32 × (Nat → Nat → Int32))) (S : (Nat → Nat → Int32)) (v1 v2 v3 s1 s2 : Int32) : Option (Int32 × (Nat → Nat → Int32)) := qck (qin s1 3000) ((f_M_come (qwr S 17 s1.toNatClampNeg s2) (3 : Int32) (-1 : Int32) ((qwr S 17 s1.toNatClampNeg s2) 14 0) (-1 : Int32)).bind (fun q2 => qck (qin v3 2) (k_19 (qwr (qwr q2.2 22 v3.toNatClampNeg q2.1) 14 0 (((qwr q2.2 22 v3.toNatClampNeg q2.1) 14 0) + (1 : Int32))) v1 v2 (v3 + (1 : Int32)))))
def f_M_catchIt_48 (k_19 : (Nat → Nat → Int32) → Int32 → Int32 → Int32 → Option (Int32 × (Nat → Nat → Int32))) (S : (Nat → Nat → Int32)) (v1 v2 v3 s1 : Int32) : Option (Int32 × (Nat → Nat → Int32)) := qck (qin v3 2) (qck (qin s1 9000) (if ((qwr S 22 v3.toNatClampNeg s1) 9 s1.toNatClampNeg) = (5 : Int32) then (qck (qin ((qwr S 22 v3.toNatClampNeg s1) 14 0) 3000) (qck (qin s1 9000) (if ((qwr (qwr S 22 v3.toNatClampNeg s1) 16 ((qwr S 22 v3.toNatClampNeg s1) 14 0).toNatClampNeg (0 : Int32)) 10 s1.toNatClampNeg) = (2 : Int32) then (qck (qin s1 9000) (f_M_catchIt_109 k_19 (qwr (qwr S 22 v3.toNatClampNeg s1) 16 ((qwr S 22 v3.toNatClampNeg s1) 14 0).toNatClampNeg (0 : Int32)) v1 v2 v3 ((qwr (qwr S 22 v3.toNatClampNeg s1) 16 ((qwr S 22 v3.toNatClampNeg s1) 14 0).toNatClampNeg (0 : Int32)) 14 0) ((qwr (qwr S 22 v3.toNatClampNeg s1) 16 ((qwr S 22 v3.toNatClampNeg s1) 14 0).toNatClampNeg (0 : Int32)) 11 s1.toNatClampNeg))) else (f_M_catchIt_109 k_19 (qwr (qwr S 22 v3.toNatClampNeg s1) 16 ((qwr S 22 v3.toNatClampNeg s1) 14 0).toNatClampNeg (0 : Int32)) v1 v2 v3 ((qwr (qwr S 22 v3.toNatClampNeg s1) 16 ((qwr S 22 v3.toNatClampNeg s1) 14 0).toNatClampNeg (0 : Int32)) 14 0) (-1 : Int32))))) else (k_19 (qwr S 22 v3.toNatClampNeg s1) v1 v2 (v3 + (1 : Int32)))))
def fb_M_catchIt_19 (k_19 : (Nat → Nat → Int32) → Int32 → Int32 → Int32 → Option (Int32 × (Nat → Nat → Int32))) (S : (Nat → Nat → Int32)) (v1 v2 v3 : Int32) : Option (Int32 × (Nat → Nat → Int32)) := qck (qin v2 12) (if (S 2 v2.toNatClampNeg) ≤ v3 then (qck (qin (0 : Int32) 2) (qck (qin v2 12) (if (S 2 v2.toNatClampNeg) = (2 : Int32) then (qck (qin (1 : Int32) 2) (f_M_catchIt_175  qfu S v1 v2 (S 22 (0 : Int32).toNatClampNeg) (S 22 (1 : Int32).toNatClampNeg) (0 : Int32))) else (f_M_catchIt_175  qfu S v1 v2 (S 22 (0 : Int32).toNatClampNeg) (-1 : Int32) (0 : Int32))))) else (if v3 = 0 then (qck (qin v1 9000) (f_M_catchIt_48 k_19 S v1 v2 v3 (S 11 v1.toNatClampNeg))) else (qck (qin v1 9000) (f_M_catchIt_48 k_19 S v1 v2 v3 (S 12 v1.toNatClampNeg)))))
def f_M_catchIt_19 : Nat → (Nat → Nat → Int32) → Int32 → Int32 → Int32 → Option (Int32 × (Nat → Nat → Int32))
  | 0 => fun _ _ _ _ => none
  | n + 1 => fun S v1 v2 v3 => fb_M_catchIt_19 (f_M_catchIt_19 n) S v1 v2 v3
def f_M_catchIt (S : (Nat → Nat → Int32)) (a1 : Int32) : Option (Int32 × (Nat → Nat → Int32)) := (f_M_hasWild S a1).bind (fun q1 => if (qB q1) = 0 then (some (a1, S)) else (qck (qin a1 9000) (f_M_catchIt_19  qfu S a1 (S 10 a1.toNatClampNeg) (0 : Int32))))
set_option maxRecDepth 100000 in
set_option maxHeartbeats 4000000 in
theorem tb_M_catchIt_275 {p : Program} {l : Launch} {e : Env} {R : Room} {s : State} {m : MethodId} {args : Array Value} {below : List Frame} {meth : Method} {c : Code} {Q : State → Prop} {D : va_G} {ad : Nat → Nat} {cI cZ : ClassId} {A : Nat → Prop} (F : CallFix p m c qb_M_catchIt 9 s args qtb "CaptureSubtypesModel") (hR : 4 ≤ R.frames ∧ 100 ≤ R.locals) (hK : va_K D qcl [(cI, .int), (cZ, .boolean)] s) (hN : qnests mns s) (hA : ∀ q, s.heap.size ≤ q → A q) {res : (Int32 × (Nat → Nat → Int32))} (hQ : ∀ (H : Heap) (locs : List Loc) (pc : Nat) (ls : Array Slot), decode qb_M_catchIt pc = .ok (.ireturn, 1) → mW D ad cI cZ A s.heap res.2 H locs → W p l e R s m args below meth c H locs 0 0 Q (F0 m pc ls [.int res.1])) {k_175 : (Nat → Nat → Int32) → Int32 → Int32 → Int32 → Int32 → Int32 → Option (Int32 × (Nat → Nat → Int32))} (hk_175 : ∀ (S : Nat → Nat → Int32) (v1 v2 v3 v4 v5 : Int32), k_175 S v1 v2 v3 v4 v5 = some res → ∀ {H : Heap} {locs : List Loc} {ls : Array Slot}, mW D ad cI cZ A s.heap S H locs → lv_has ls 9 [(0, .ref (ad 0)), (1, .int v1), (2, .int v2), (3, .int v3), (4, .int v4), (5, .int v5)] → W p l e R s m args below meth c H locs 0 0 Q (F0 m 175 ls [])) {k_275 : (Nat → Nat → Int32) → Int32 → Int32 → Int32 → Int32 → Int32 → Int32 → Int32 → Option (Int32 × (Nat → Nat → Int32))} (hk_275 : ∀ (S : Nat → Nat → Int32) (v1 v2 v3 v4 v5 v7 v8 : Int32), k_275 S v1 v2 v3 v4 v5 v7 v8 = some res → ∀ {H : Heap} {locs : List Loc} {ls : Array Slot}, mW D ad cI cZ A s.heap S H locs → lv_has ls 9 [(0, .ref (ad 0)), (1, .int v1), (2, .int v2), (3, .int v3), (4, .int v4), (5, .int v5), (7, .int v7), (8, .int v8)] → W p l e R s m args below meth c H locs 0 0 Q (F0 m 275 ls [])) (S : (Nat → Nat → Int32)) (v1 v2 v3 v4 v5 v7 v8 : Int32) (hM : fb_M_catchIt_275 k_175 k_275 S v1 v2 v3 v4 v5 v7 v8 = some res) {H : Heap} {locs : List Loc} {ls : Array Slot} (w : mW D ad cI cZ A s.heap S H locs) (hl : lv_has ls 9 [(0, .ref (ad 0)), (1, .int v1), (2, .int v2), (3, .int v3), (4, .int v4), (5, .int v5), (7, .int v7), (8, .int v8)]) : W p l e R s m args below meth c H locs 0 0 Q (F0 m 275 ls []) := by
  unfold fb_M_catchIt_275 at hM
  refine lv_iload F.1 F.2.1 qd_M_catchIt_275 (lv_at hl 7 rfl) ?_
  refine lv_aload_n F.1 F.2.1 qd_M_catchIt_277 rfl (lv_at hl 0 rfl) ?_
  refine mg_M_bounds F hK w qk_661 qd_M_catchIt_278 ?_
  refine lv_iconst (v := 2) F.1 F.2.1 qd_M_catchIt_281 (by decide) ?_
  refine lv_iload_n F.1 F.2.1 qd_M_catchIt_282 rfl (lv_at hl 2 rfl) ?_
  refine lv_imul F.1 F.2.1 qd_M_catchIt_283 ?_
  refine lv_iload F.1 F.2.1 qd_M_catchIt_284 (lv_at hl 5 rfl) ?_
  refine lv_iadd F.1 F.2.1 qd_M_catchIt_286 ?_
  obtain ⟨hi1, hM⟩ := qck_ok hM
  refine ml_M_bounds F hK w hi1 qd_M_catchIt_287 ?_
  refine lv_icmp_ge (tgt := 349) F.1 F.2.1 qd_M_catchIt_288 (by decide) (fun hc2 => ?_) (fun hc2 => ?_)
  · rw [if_pos hc2] at hM
    refine lv_iinc (v := (v5 + (1 : Int32))) (lv' := [(5, .int (v5 + (1 : Int32))), (0, .ref (ad 0)), (1, .int v1), (2, .int v2), (3, .int v3), (4, .int v4), (7, .int v7), (8, .int v8)]) F.1 F.2.1 qd_M_catchIt_349 hl (k := 5) rfl rfl (by decide) rfl (fun ls hl => ?_)
    refine lv_goto (tgt := 175) F.1 F.2.1 qd_M_catchIt_352 (by decide) ?_
    exact hk_175 _ _ _ _ _ _ hM w (lv_sub hl [1, 2, 3, 4, 5, 0] rfl)
  · rw [if_neg hc2] at hM
    refine lv_aload_n F.1 F.2.1 qd_M_catchIt_291 rfl (lv_at hl 0 rfl) ?_
    refine mg_M_caughtBound F hK w qk_670 qd_M_catchIt_292 ?_
    refine lv_iconst (v := 3) F.1 F.2.1 qd_M_catchIt_295 (by decide) ?_
    refine lv_iload F.1 F.2.1 qd_M_catchIt_296 (lv_at hl 6 rfl) ?_
    refine lv_imul F.1 F.2.1 qd_M_catchIt_298 ?_
    refine lv_aload_n F.1 F.2.1 qd_M_catchIt_299 rfl (lv_at hl 0 rfl) ?_
    refine mg_M_caughtBounds F hK w qk_671 qd_M_catchIt_300 ?_
    refine lv_iload F.1 F.2.1 qd_M_catchIt_303 (lv_at hl 6 rfl) ?_
    obtain ⟨hi3, hM⟩ := qck_ok hM
    refine ml_M_caughtBounds F hK w hi3 qd_M_catchIt_305 ?_
    refine lv_iadd F.1 F.2.1 qd_M_catchIt_306 ?_
    refine lv_aload_n F.1 F.2.1 qd_M_catchIt_307 rfl (lv_at hl 0 rfl) ?_
    refine lv_aload_n F.1 F.2.1 qd_M_catchIt_308 rfl (lv_at hl 0 rfl) ?_
    refine mg_M_bound F hK w qk_660 qd_M_catchIt_309 ?_
    refine lv_iconst (v := 2) F.1 F.2.1 qd_M_catchIt_312 (by decide) ?_
    refine lv_iconst (v := 2) F.1 F.2.1 qd_M_catchIt_313 (by decide) ?_
    refine lv_iload_n F.1 F.2.1 qd_M_catchIt_314 rfl (lv_at hl 2 rfl) ?_
    refine lv_imul F.1 F.2.1 qd_M_catchIt_315 ?_
    refine lv_iload F.1 F.2.1 qd_M_catchIt_316 (lv_at hl 5 rfl) ?_
    refine lv_iadd F.1 F.2.1 qd_M_catchIt_318 ?_
    refine lv_imul F.1 F.2.1 qd_M_catchIt_319 ?_
    refine lv_iload F.1 F.2.1 qd_M_catchIt_320 (lv_at hl 7 rfl) ?_
    refine lv_iadd F.1 F.2.1 qd_M_catchIt_322 ?_
    obtain ⟨hi4, hM⟩ := qck_ok hM
    refine ml_M_bound F hK w hi4 qd_M_catchIt_323 ?_
    refine lv_iload_n F.1 F.2.1 qd_M_catchIt_324 rfl (lv_at hl 2 rfl) ?_
    refine lv_iload_n F.1 F.2.1 qd_M_catchIt_325 rfl (lv_at hl 3 rfl) ?_
    refine lv_iload F.1 F.2.1 qd_M_catchIt_326 (lv_at hl 4 rfl) ?_
    obtain ⟨q5, hq6, hM⟩ := qbd hM
    refine m_calli F hK hN hA w (c_M_replace l D ad cI cZ hq6) qk_920 qk_922 qs_M_replace qk_8 qk_923 qv_M_replace rfl rfl ⟨Nat.le_trans (by decide) hR.1, Nat.le_trans (by decide) hR.2⟩ (ci := 6) rfl (j := 0) rfl hl.1 rfl (Nat.le_of_ble_eq_true rfl) qd_M_catchIt_328 (fun H locs w => ?_)
    obtain ⟨hi7, hM⟩ := qck_ok hM
    refine ms_M_caughtBound F hK w hi7 qd_M_catchIt_331 (fun H locs w => ?_)
    refine lv_aload_n F.1 F.2.1 qd_M_catchIt_332 rfl (lv_at hl 0 rfl) ?_
    refine mg_M_caughtBounds F hK w qk_671 qd_M_catchIt_333 ?_
    refine lv_iload F.1 F.2.1 qd_M_catchIt_336 (lv_at hl 6 rfl) ?_
    refine lv_dup2_11 F.1 F.2.1 qd_M_catchIt_338 rfl rfl ?_
    obtain ⟨hi8, hM⟩ := qck_ok hM
    refine ml_M_caughtBounds F hK w hi8 qd_M_catchIt_339 ?_
    refine lv_iconst (v := 1) F.1 F.2.1 qd_M_catchIt_340 (by decide) ?_
    refine lv_iadd F.1 F.2.1 qd_M_catchIt_341 ?_
    obtain ⟨hi9, hM⟩ := qck_ok hM
    refine ms_M_caughtBounds F hK w hi9 qd_M_catchIt_342 (fun H locs w => ?_)
    refine lv_iinc (v := (v8 + (1 : Int32))) (lv' := [(8, .int (v8 + (1 : Int32))), (0, .ref (ad 0)), (1, .int v1), (2, .int v2), (3, .int v3), (4, .int v4), (5, .int v5), (7, .int v7)]) F.1 F.2.1 qd_M_catchIt_343 hl (k := 7) rfl rfl (by decide) rfl (fun ls hl => ?_)
    refine lv_goto (tgt := 275) F.1 F.2.1 qd_M_catchIt_346 (by decide) ?_
    exact hk_275 _ _ _ _ _ _ _ _ hM w (lv_sub hl [1, 2, 3, 4, 5, 6, 7, 0] rfl)
set_option maxRecDepth 100000 in
set_option maxHeartbeats 4000000 in
theorem t_M_catchIt_275 {p : Program} {l : Launch} {e : Env} {R : Room} {s : State} {m : MethodId} {args : Array Value} {below : List Frame} {meth : Method} {c : Code} {Q : State → Prop} {D : va_G} {ad : Nat → Nat} {cI cZ : ClassId} {A : Nat → Prop} (F : CallFix p m c qb_M_catchIt 9 s args qtb "CaptureSubtypesModel") (hR : 4 ≤ R.frames ∧ 100 ≤ R.locals) (hK : va_K D qcl [(cI, .int), (cZ, .boolean)] s) (hN : qnests mns s) (hA : ∀ q, s.heap.size ≤ q → A q) {res : (Int32 × (Nat → Nat → Int32))} (hQ : ∀ (H : Heap) (locs : List Loc) (pc : Nat) (ls : Array Slot), decode qb_M_catchIt pc = .ok (.ireturn, 1) → mW D ad cI cZ A s.heap res.2 H locs → W p l e R s m args below meth c H locs 0 0 Q (F0 m pc ls [.int res.1])) {k_175 : (Nat → Nat → Int32) → Int32 → Int32 → Int32 → Int32 → Int32 → Option (Int32 × (Nat → Nat → Int32))} (hk_175 : ∀ (S : Nat → Nat → Int32) (v1 v2 v3 v4 v5 : Int32), k_175 S v1 v2 v3 v4 v5 = some res → ∀ {H : Heap} {locs : List Loc} {ls : Array Slot}, mW D ad cI cZ A s.heap S H locs → lv_has ls 9 [(0, .ref (ad 0)), (1, .int v1), (2, .int v2), (3, .int v3), (4, .int v4), (5, .int v5)] → W p l e R s m args below meth c H locs 0 0 Q (F0 m 175 ls [])) : ∀ (n : Nat) (S : (Nat → Nat → Int32)) (v1 v2 v3 v4 v5 v7 v8 : Int32) (hM : f_M_catchIt_275 k_175 n S v1 v2 v3 v4 v5 v7 v8 = some res) {H : Heap} {locs : List Loc} {ls : Array Slot} (w : mW D ad cI cZ A s.heap S H locs) (hl : lv_has ls 9 [(0, .ref (ad 0)), (1, .int v1), (2, .int v2), (3, .int v3), (4, .int v4), (5, .int v5), (7, .int v7), (8, .int v8)]), W p l e R s m args below meth c H locs 0 0 Q (F0 m 275 ls []) := by
  intro n
  induction n with
  | zero => intro S v1 v2 v3 v4 v5 v7 v8 hM; exact absurd hM (by simp [f_M_catchIt_275])
  | succ n ih => intro S v1 v2 v3 v4 v5 v7 v8 hM H locs ls w hl; exact tb_M_catchIt_275 F hR hK hN hA hQ hk_175 (k_275 := f_M_catchIt_275 k_175 n) (fun S v1 v2 v3 v4 v5 v7 v8 hM H locs ls w hl => ih S v1 v2 v3 v4 v5 v7 v8 hM w hl) S v1 v2 v3 v4 v5 v7 v8 hM w hl
set_option maxRecDepth 100000 in
set_option maxHeartbeats 4000000 in
theorem t_M_catchIt_234 {p : Program} {l : Launch} {e : Env} {R : Room} {s : State} {m : MethodId} {args : Array Value} {below : List Frame} {meth : Method} {c : Code} {Q : State → Prop} {D : va_G} {ad : Nat → Nat} {cI cZ : ClassId} {A : Nat → Prop} (F : CallFix p m c qb_M_catchIt 9 s args qtb "CaptureSubtypesModel") (hR : 4 ≤ R.frames ∧ 100 ≤ R.locals) (hK : va_K D qcl [(cI, .int), (cZ, .boolean)] s) (hN : qnests mns s) (hA : ∀ q, s.heap.size ≤ q → A q) {res : (Int32 × (Nat → Nat → Int32))} (hQ : ∀ (H : Heap) (locs : List Loc) (pc : Nat) (ls : Array Slot), decode qb_M_catchIt pc = .ok (.ireturn, 1) → mW D ad cI cZ A s.heap res.2 H locs → W p l e R s m args below meth c H locs 0 0 Q (F0 m pc ls [.int res.1])) {k_175 : (Nat → Nat → Int32) → Int32 → Int32 → Int32 → Int32 → Int32 → Option (Int32 × (Nat → Nat → Int32))} (hk_175 : ∀ (S : Nat → Nat → Int32) (v1 v2 v3 v4 v5 : Int32), k_175 S v1 v2 v3 v4 v5 = some res → ∀ {H : Heap} {locs : List Loc} {ls : Array Slot}, mW D ad cI cZ A s.heap S H locs → lv_has ls 9 [(0, .ref (ad 0)), (1, .int v1), (2, .int v2), (3, .int v3), (4, .int v4), (5, .int v5)] → W p l e R s m args below meth c H locs 0 0 Q (F0 m 175 ls [])) (S : (Nat → Nat → Int32)) (v1 v2 v3 v4 v5 v6 s1 : Int32) (hM : f_M_catchIt_234 k_175 S v1 v2 v3 v4 v5 v6 s1 = some res) {H : Heap} {locs : List Loc} {ls : Array Slot} (w : mW D ad cI cZ A s.heap S H locs) (hl : lv_has ls 9 [(0, .ref (ad 0)), (1, .int v1), (2, .int v2), (3, .int v3), (4, .int v4), (5, .int v5), (6, .int v6)]) : W p l e R s m args below meth c H locs 0 0 Q (F0 m 234 ls [.int s1, .ref (ad 9)]) := by
  unfold f_M_catchIt_234 at hM
  obtain ⟨hi1, hM⟩ := qck_ok hM
  refine ml_M_second F hK w hi1 qd_M_catchIt_234 ?_
  refine lv_istore (lv' := [(7, .int (S 11 s1.toNatClampNeg)), (0, .ref (ad 0)), (1, .int v1), (2, .int v2), (3, .int v3), (4, .int v4), (5, .int v5), (6, .int v6)]) F.1 F.2.1 qd_M_catchIt_235 hl (by decide) rfl (fun ls hl => ?_)
  refine lv_aload_n F.1 F.2.1 qd_M_catchIt_237 rfl (lv_at hl 1 rfl) ?_
  refine mg_M_first F hK w qk_665 qd_M_catchIt_238 ?_
  refine lv_iload F.1 F.2.1 qd_M_catchIt_241 (lv_at hl 7 rfl) ?_
  obtain ⟨hi2, hM⟩ := qck_ok hM
  refine ml_M_first F hK w hi2 qd_M_catchIt_243 ?_
  refine lv_iconst (v := 1) F.1 F.2.1 qd_M_catchIt_244 (by decide) ?_
  refine lv_icmp_ne (tgt := 272) F.1 F.2.1 qd_M_catchIt_245 (by decide) (fun hc3 => ?_) (fun hc3 => ?_)
  · rw [if_neg hc3] at hM
    refine lv_iconst (v := 0) F.1 F.2.1 qd_M_catchIt_272 (by decide) ?_
    refine lv_istore (lv' := [(8, .int (0 : Int32)), (7, .int (S 11 s1.toNatClampNeg)), (0, .ref (ad 0)), (1, .int v1), (2, .int v2), (3, .int v3), (4, .int v4), (5, .int v5), (6, .int v6)]) F.1 F.2.1 qd_M_catchIt_273 hl (by decide) rfl (fun ls hl => ?_)
    exact t_M_catchIt_275 F hR hK hN hA hQ hk_175 qfu _ _ _ _ _ _ _ _ hM w (lv_sub hl [2, 3, 4, 5, 6, 7, 1, 0] rfl)
  · rw [if_pos hc3] at hM
    refine lv_aload_n F.1 F.2.1 qd_M_catchIt_248 rfl (lv_at hl 1 rfl) ?_
    refine mg_M_caughtBound F hK w qk_670 qd_M_catchIt_249 ?_
    refine lv_iconst (v := 3) F.1 F.2.1 qd_M_catchIt_252 (by decide) ?_
    refine lv_iload F.1 F.2.1 qd_M_catchIt_253 (lv_at hl 0 rfl) ?_
    refine lv_imul F.1 F.2.1 qd_M_catchIt_255 ?_
    refine lv_aload_n F.1 F.2.1 qd_M_catchIt_256 rfl (lv_at hl 1 rfl) ?_
    refine mg_M_second F hK w qk_666 qd_M_catchIt_257 ?_
    refine lv_iload F.1 F.2.1 qd_M_catchIt_260 (lv_at hl 7 rfl) ?_
    obtain ⟨hi4, hM⟩ := qck_ok hM
    refine ml_M_second F hK w hi4 qd_M_catchIt_262 ?_
    obtain ⟨hi5, hM⟩ := qck_ok hM
    refine ms_M_caughtBound F hK w hi5 qd_M_catchIt_263 (fun H locs w => ?_)
    refine lv_aload_n F.1 F.2.1 qd_M_catchIt_264 rfl (lv_at hl 1 rfl) ?_
    refine mg_M_caughtBounds F hK w qk_671 qd_M_catchIt_265 ?_
    refine lv_iload F.1 F.2.1 qd_M_catchIt_268 (lv_at hl 0 rfl) ?_
    refine lv_iconst (v := 1) F.1 F.2.1 qd_M_catchIt_270 (by decide) ?_
    obtain ⟨hi6, hM⟩ := qck_ok hM
    refine ms_M_caughtBounds F hK w hi6 qd_M_catchIt_271 (fun H locs w => ?_)
    refine lv_iconst (v := 0) F.1 F.2.1 qd_M_catchIt_272 (by decide) ?_
    refine lv_istore (lv' := [(8, .int (0 : Int32)), (7, .int (S 11 s1.toNatClampNeg)), (0, .ref (ad 0)), (1, .int v1), (2, .int v2), (3, .int v3), (4, .int v4), (5, .int v5), (6, .int v6)]) F.1 F.2.1 qd_M_catchIt_273 hl (by decide) rfl (fun ls hl => ?_)
    exact t_M_catchIt_275 F hR hK hN hA hQ hk_175 qfu _ _ _ _ _ _ _ _ hM w (lv_sub hl [2, 3, 4, 5, 6, 7, 1, 0] rfl)
set_option maxRecDepth 100000 in
set_option maxHeartbeats 4000000 in
theorem t_M_catchIt_206 {p : Program} {l : Launch} {e : Env} {R : Room} {s : State} {m : MethodId} {args : Array Value} {below : List Frame} {meth : Method} {c : Code} {Q : State → Prop} {D : va_G} {ad : Nat → Nat} {cI cZ : ClassId} {A : Nat → Prop} (F : CallFix p m c qb_M_catchIt 9 s args qtb "CaptureSubtypesModel") (hR : 4 ≤ R.frames ∧ 100 ≤ R.locals) (hK : va_K D qcl [(cI, .int), (cZ, .boolean)] s) (hN : qnests mns s) (hA : ∀ q, s.heap.size ≤ q → A q) {res : (Int32 × (Nat → Nat → Int32))} (hQ : ∀ (H : Heap) (locs : List Loc) (pc : Nat) (ls : Array Slot), decode qb_M_catchIt pc = .ok (.ireturn, 1) → mW D ad cI cZ A s.heap res.2 H locs → W p l e R s m args below meth c H locs 0 0 Q (F0 m pc ls [.int res.1])) {k_175 : (Nat → Nat → Int32) → Int32 → Int32 → Int32 → Int32 → Int32 → Option (Int32 × (Nat → Nat → Int32))} (hk_175 : ∀ (S : Nat → Nat → Int32) (v1 v2 v3 v4 v5 : Int32), k_175 S v1 v2 v3 v4 v5 = some res → ∀ {H : Heap} {locs : List Loc} {ls : Array Slot}, mW D ad cI cZ A s.heap S H locs → lv_has ls 9 [(0, .ref (ad 0)), (1, .int v1), (2, .int v2), (3, .int v3), (4, .int v4), (5, .int v5)] → W p l e R s m args below meth c H locs 0 0 Q (F0 m 175 ls [])) (S : (Nat → Nat → Int32)) (v1 v2 v3 v4 v5 s1 : Int32) (hM : f_M_catchIt_206 k_175 S v1 v2 v3 v4 v5 s1 = some res) {H : Heap} {locs : List Loc} {ls : Array Slot} (w : mW D ad cI cZ A s.heap S H locs) (hl : lv_has ls 9 [(0, .ref (ad 0)), (1, .int v1), (2, .int v2), (3, .int v3), (4, .int v4), (5, .int v5)]) : W p l e R s m args below meth c H locs 0 0 Q (F0 m 206 ls [.int s1]) := by
  unfold f_M_catchIt_206 at hM
  refine lv_istore (lv' := [(6, .int s1), (0, .ref (ad 0)), (1, .int v1), (2, .int v2), (3, .int v3), (4, .int v4), (5, .int v5)]) F.1 F.2.1 qd_M_catchIt_206 hl (by decide) rfl (fun ls hl => ?_)
  refine lv_aload_n F.1 F.2.1 qd_M_catchIt_208 rfl (lv_at hl 1 rfl) ?_
  refine mg_M_sort F hK w qk_664 qd_M_catchIt_209 ?_
  refine lv_iload F.1 F.2.1 qd_M_catchIt_212 (lv_at hl 0 rfl) ?_
  obtain ⟨hi1, hM⟩ := qck_ok hM
  refine ml_M_sort F hK w hi1 qd_M_catchIt_214 ?_
  refine lv_iconst (v := 5) F.1 F.2.1 qd_M_catchIt_215 (by decide) ?_
  refine lv_icmp_ne (tgt := 349) F.1 F.2.1 qd_M_catchIt_216 (by decide) (fun hc2 => ?_) (fun hc2 => ?_)
  · rw [if_neg hc2] at hM
    refine lv_iinc (v := (v5 + (1 : Int32))) (lv' := [(5, .int (v5 + (1 : Int32))), (6, .int s1), (0, .ref (ad 0)), (1, .int v1), (2, .int v2), (3, .int v3), (4, .int v4)]) F.1 F.2.1 qd_M_catchIt_349 hl (k := 6) rfl rfl (by decide) rfl (fun ls hl => ?_)
    refine lv_goto (tgt := 175) F.1 F.2.1 qd_M_catchIt_352 (by decide) ?_
    exact hk_175 _ _ _ _ _ _ hM w (lv_sub hl [2, 3, 4, 5, 6, 0] rfl)
  · rw [if_pos hc2] at hM
    refine lv_aload_n F.1 F.2.1 qd_M_catchIt_219 rfl (lv_at hl 1 rfl) ?_
    refine mg_M_second F hK w qk_666 qd_M_catchIt_220 ?_
    refine lv_iload F.1 F.2.1 qd_M_catchIt_223 (lv_at hl 6 rfl) ?_
    refine lv_if_ne (tgt := 232) F.1 F.2.1 qd_M_catchIt_225 (by decide) (fun hc3 => ?_) (fun hc3 => ?_)
    · rw [if_neg hc3] at hM
      refine lv_iload F.1 F.2.1 qd_M_catchIt_232 (lv_at hl 5 rfl) ?_
      exact t_M_catchIt_234 F hR hK hN hA hQ hk_175 _ _ _ _ _ _ _ _ hM w (lv_sub hl [1, 2, 3, 4, 5, 6, 0] rfl)
    · rw [if_pos hc3] at hM
      refine lv_iload_n F.1 F.2.1 qd_M_catchIt_228 rfl (lv_at hl 4 rfl) ?_
      refine lv_goto (tgt := 234) F.1 F.2.1 qd_M_catchIt_229 (by decide) ?_
      exact t_M_catchIt_234 F hR hK hN hA hQ hk_175 _ _ _ _ _ _ _ _ hM w (lv_sub hl [1, 2, 3, 4, 5, 6, 0] rfl)
set_option maxRecDepth 100000 in
set_option maxHeartbeats 4000000 in
theorem tb_M_catchIt_175 {p : Program} {l : Launch} {e : Env} {R : Room} {s : State} {m : MethodId} {args : Array Value} {below : List Frame} {meth : Method} {c : Code} {Q : State → Prop} {D : va_G} {ad : Nat → Nat} {cI cZ : ClassId} {A : Nat → Prop} (F : CallFix p m c qb_M_catchIt 9 s args qtb "CaptureSubtypesModel") (hR : 4 ≤ R.frames ∧ 100 ≤ R.locals) (hK : va_K D qcl [(cI, .int), (cZ, .boolean)] s) (hN : qnests mns s) (hA : ∀ q, s.heap.size ≤ q → A q) {res : (Int32 × (Nat → Nat → Int32))} (hQ : ∀ (H : Heap) (locs : List Loc) (pc : Nat) (ls : Array Slot), decode qb_M_catchIt pc = .ok (.ireturn, 1) → mW D ad cI cZ A s.heap res.2 H locs → W p l e R s m args below meth c H locs 0 0 Q (F0 m pc ls [.int res.1])) {k_175 : (Nat → Nat → Int32) → Int32 → Int32 → Int32 → Int32 → Int32 → Option (Int32 × (Nat → Nat → Int32))} (hk_175 : ∀ (S : Nat → Nat → Int32) (v1 v2 v3 v4 v5 : Int32), k_175 S v1 v2 v3 v4 v5 = some res → ∀ {H : Heap} {locs : List Loc} {ls : Array Slot}, mW D ad cI cZ A s.heap S H locs → lv_has ls 9 [(0, .ref (ad 0)), (1, .int v1), (2, .int v2), (3, .int v3), (4, .int v4), (5, .int v5)] → W p l e R s m args below meth c H locs 0 0 Q (F0 m 175 ls [])) (S : (Nat → Nat → Int32)) (v1 v2 v3 v4 v5 : Int32) (hM : fb_M_catchIt_175 k_175 S v1 v2 v3 v4 v5 = some res) {H : Heap} {locs : List Loc} {ls : Array Slot} (w : mW D ad cI cZ A s.heap S H locs) (hl : lv_has ls 9 [(0, .ref (ad 0)), (1, .int v1), (2, .int v2), (3, .int v3), (4, .int v4), (5, .int v5)]) : W p l e R s m args below meth c H locs 0 0 Q (F0 m 175 ls []) := by
  unfold fb_M_catchIt_175 at hM
  refine lv_iload F.1 F.2.1 qd_M_catchIt_175 (lv_at hl 5 rfl) ?_
  refine lv_aload_n F.1 F.2.1 qd_M_catchIt_177 rfl (lv_at hl 0 rfl) ?_
  refine mg_M_parameters F hK w qk_657 qd_M_catchIt_178 ?_
  refine lv_iload_n F.1 F.2.1 qd_M_catchIt_181 rfl (lv_at hl 2 rfl) ?_
  obtain ⟨hi1, hM⟩ := qck_ok hM
  refine ml_M_parameters F hK w hi1 qd_M_catchIt_182 ?_
  refine lv_icmp_ge (tgt := 355) F.1 F.2.1 qd_M_catchIt_183 (by decide) (fun hc2 => ?_) (fun hc2 => ?_)
  · rw [if_pos hc2] at hM
    refine lv_aload_n F.1 F.2.1 qd_M_catchIt_355 rfl (lv_at hl 0 rfl) ?_
    refine lv_iconst (v := 2) F.1 F.2.1 qd_M_catchIt_356 (by decide) ?_
    refine lv_iload_n F.1 F.2.1 qd_M_catchIt_357 rfl (lv_at hl 2 rfl) ?_
    refine lv_iload_n F.1 F.2.1 qd_M_catchIt_358 rfl (lv_at hl 3 rfl) ?_
    refine lv_iload F.1 F.2.1 qd_M_catchIt_359 (lv_at hl 4 rfl) ?_
    obtain ⟨q3, hq4, hM⟩ := qbd hM
    refine m_calli F hK hN hA w (c_M_come l D ad cI cZ hq4) qk_916 qk_918 qs_M_come qk_8 qk_919 qv_M_come rfl rfl ⟨Nat.le_trans (by decide) hR.1, Nat.le_trans (by decide) hR.2⟩ (ci := 6) rfl (j := 0) rfl hl.1 rfl (Nat.le_of_ble_eq_true rfl) qd_M_catchIt_361 (fun H locs w => ?_)
    cases hM
    exact hQ _ _ _ _ qd_M_catchIt_364 w
  · rw [if_neg hc2] at hM
    refine lv_iload F.1 F.2.1 qd_M_catchIt_186 (lv_at hl 5 rfl) ?_
    refine lv_if_ne (tgt := 200) F.1 F.2.1 qd_M_catchIt_188 (by decide) (fun hc5 => ?_) (fun hc5 => ?_)
    · rw [if_neg hc5] at hM
      refine lv_aload_n F.1 F.2.1 qd_M_catchIt_200 rfl (lv_at hl 0 rfl) ?_
      refine mg_M_third F hK w qk_667 qd_M_catchIt_201 ?_
      refine lv_iload_n F.1 F.2.1 qd_M_catchIt_204 rfl (lv_at hl 1 rfl) ?_
      obtain ⟨hi6, hM⟩ := qck_ok hM
      refine ml_M_third F hK w hi6 qd_M_catchIt_205 ?_
      exact t_M_catchIt_206 F hR hK hN hA hQ hk_175 _ _ _ _ _ _ _ hM w (lv_sub hl [0, 1, 2, 3, 4, 5] rfl)
    · rw [if_pos hc5] at hM
      refine lv_aload_n F.1 F.2.1 qd_M_catchIt_191 rfl (lv_at hl 0 rfl) ?_
      refine mg_M_second F hK w qk_666 qd_M_catchIt_192 ?_
      refine lv_iload_n F.1 F.2.1 qd_M_catchIt_195 rfl (lv_at hl 1 rfl) ?_
      obtain ⟨hi7, hM⟩ := qck_ok hM
      refine ml_M_second F hK w hi7 qd_M_catchIt_196 ?_
      refine lv_goto (tgt := 206) F.1 F.2.1 qd_M_catchIt_197 (by decide) ?_
      exact t_M_catchIt_206 F hR hK hN hA hQ hk_175 _ _ _ _ _ _ _ hM w (lv_sub hl [0, 1, 2, 3, 4, 5] rfl)
set_option maxRecDepth 100000 in
set_option maxHeartbeats 4000000 in
theorem t_M_catchIt_175 {p : Program} {l : Launch} {e : Env} {R : Room} {s : State} {m : MethodId} {args : Array Value} {below : List Frame} {meth : Method} {c : Code} {Q : State → Prop} {D : va_G} {ad : Nat → Nat} {cI cZ : ClassId} {A : Nat → Prop} (F : CallFix p m c qb_M_catchIt 9 s args qtb "CaptureSubtypesModel") (hR : 4 ≤ R.frames ∧ 100 ≤ R.locals) (hK : va_K D qcl [(cI, .int), (cZ, .boolean)] s) (hN : qnests mns s) (hA : ∀ q, s.heap.size ≤ q → A q) {res : (Int32 × (Nat → Nat → Int32))} (hQ : ∀ (H : Heap) (locs : List Loc) (pc : Nat) (ls : Array Slot), decode qb_M_catchIt pc = .ok (.ireturn, 1) → mW D ad cI cZ A s.heap res.2 H locs → W p l e R s m args below meth c H locs 0 0 Q (F0 m pc ls [.int res.1])) : ∀ (n : Nat) (S : (Nat → Nat → Int32)) (v1 v2 v3 v4 v5 : Int32) (hM : f_M_catchIt_175 n S v1 v2 v3 v4 v5 = some res) {H : Heap} {locs : List Loc} {ls : Array Slot} (w : mW D ad cI cZ A s.heap S H locs) (hl : lv_has ls 9 [(0, .ref (ad 0)), (1, .int v1), (2, .int v2), (3, .int v3), (4, .int v4), (5, .int v5)]), W p l e R s m args below meth c H locs 0 0 Q (F0 m 175 ls []) := by
  intro n
  induction n with
  | zero => intro S v1 v2 v3 v4 v5 hM; exact absurd hM (by simp [f_M_catchIt_175])
  | succ n ih => intro S v1 v2 v3 v4 v5 hM H locs ls w hl; exact tb_M_catchIt_175 F hR hK hN hA hQ (k_175 := f_M_catchIt_175 n) (fun S v1 v2 v3 v4 v5 hM H locs ls w hl => ih S v1 v2 v3 v4 v5 hM w hl) S v1 v2 v3 v4 v5 hM w hl
set_option maxRecDepth 100000 in
set_option maxHeartbeats 4000000 in
theorem t_M_catchIt_109 {p : Program} {l : Launch} {e : Env} {R : Room} {s : State} {m : MethodId} {args : Array Value} {below : List Frame} {meth : Method} {c : Code} {Q : State → Prop} {D : va_G} {ad : Nat → Nat} {cI cZ : ClassId} {A : Nat → Prop} (F : CallFix p m c qb_M_catchIt 9 s args qtb "CaptureSubtypesModel") (hR : 4 ≤ R.frames ∧ 100 ≤ R.locals) (hK : va_K D qcl [(cI, .int), (cZ, .boolean)] s) (hN : qnests mns s) (hA : ∀ q, s.heap.size ≤ q → A q) {res : (Int32 × (Nat → Nat → Int32))} (hQ : ∀ (H : Heap) (locs : List Loc) (pc : Nat) (ls : Array Slot), decode qb_M_catchIt pc = .ok (.ireturn, 1) → mW D ad cI cZ A s.heap res.2 H locs → W p l e R s m args below meth c H locs 0 0 Q (F0 m pc ls [.int res.1])) {k_19 : (Nat → Nat → Int32) → Int32 → Int32 → Int32 → Option (Int32 × (Nat → Nat → Int32))} (hk_19 : ∀ (S : Nat → Nat → Int32) (v1 v2 v3 : Int32), k_19 S v1 v2 v3 = some res → ∀ {H : Heap} {locs : List Loc} {ls : Array Slot}, mW D ad cI cZ A s.heap S H locs → lv_has ls 9 [(0, .ref (ad 0)), (1, .int v1), (2, .int v2), (3, .int v3)] → W p l e R s m args below meth c H locs 0 0 Q (F0 m 19 ls [])) (S : (Nat → Nat → Int32)) (v1 v2 v3 s1 s2 : Int32) (hM : f_M_catchIt_109 k_19 S v1 v2 v3 s1 s2 = some res) {H : Heap} {locs : List Loc} {ls : Array Slot} (w : mW D ad cI cZ A s.heap S H locs) (hl : lv_has ls 9 [(0, .ref (ad 0)), (1, .int v1), (2, .int v2), (3, .int v3)]) : W p l e R s m args below meth c H locs 0 0 Q (F0 m 109 ls [.int s2, .int s1, .ref (ad 14)]) := by
  unfold f_M_catchIt_109 at hM
  obtain ⟨hi1, hM⟩ := qck_ok hM
  refine ms_M_caughtLow F hK w hi1 qd_M_catchIt_109 (fun H locs w => ?_)
  refine lv_aload_n F.1 F.2.1 qd_M_catchIt_110 rfl (lv_at hl 0 rfl) ?_
  refine mg_M_caughtNow F hK w qk_677 qd_M_catchIt_111 ?_
  refine lv_iload_n F.1 F.2.1 qd_M_catchIt_114 rfl (lv_at hl 3 rfl) ?_
  refine lv_aload_n F.1 F.2.1 qd_M_catchIt_115 rfl (lv_at hl 0 rfl) ?_
  refine lv_iconst (v := 3) F.1 F.2.1 qd_M_catchIt_116 (by decide) ?_
  refine lv_iconst (v := (-1)) F.1 F.2.1 qd_M_catchIt_117 (by decide) ?_
  refine lv_aload_n F.1 F.2.1 qd_M_catchIt_118 rfl (lv_at hl 0 rfl) ?_
  refine mg_M_caught F hK w qk_669 qd_M_catchIt_119 ?_
  refine lv_iconst (v := (-1)) F.1 F.2.1 qd_M_catchIt_122 (by decide) ?_
  obtain ⟨q2, hq3, hM⟩ := qbd hM
  refine m_calli F hK hN hA w (c_M_come l D ad cI cZ hq3) qk_916 qk_918 qs_M_come qk_8 qk_919 qv_M_come rfl rfl ⟨Nat.le_trans (by decide) hR.1, Nat.le_trans (by decide) hR.2⟩ (ci := 6) rfl (j := 0) rfl hl.1 rfl (Nat.le_of_ble_eq_true rfl) qd_M_catchIt_123 (fun H locs w => ?_)
  obtain ⟨hi4, hM⟩ := qck_ok hM
  refine ms_M_caughtNow F hK w hi4 qd_M_catchIt_126 (fun H locs w => ?_)
  refine lv_aload_n F.1 F.2.1 qd_M_catchIt_127 rfl (lv_at hl 0 rfl) ?_
  refine lv_dup F.1 F.2.1 qd_M_catchIt_128 rfl ?_
  refine mg_M_caught F hK w qk_669 qd_M_catchIt_129 ?_
  refine lv_iconst (v := 1) F.1 F.2.1 qd_M_catchIt_132 (by decide) ?_
  refine lv_iadd F.1 F.2.1 qd_M_catchIt_133 ?_
  refine mp_M_caught F hK w qk_669 qd_M_catchIt_134 (fun H locs w => ?_)
  refine lv_iinc (v := (v3 + (1 : Int32))) (lv' := [(3, .int (v3 + (1 : Int32))), (0, .ref (ad 0)), (1, .int v1), (2, .int v2)]) F.1 F.2.1 qd_M_catchIt_137 hl (k := 3) rfl rfl (by decide) rfl (fun ls hl => ?_)
  refine lv_goto (tgt := 19) F.1 F.2.1 qd_M_catchIt_140 (by decide) ?_
  exact hk_19 _ _ _ _ hM w (lv_sub hl [1, 2, 3, 0] rfl)
set_option maxRecDepth 100000 in
set_option maxHeartbeats 4000000 in
theorem t_M_catchIt_48 {p : Program} {l : Launch} {e : Env} {R : Room} {s : State} {m : MethodId} {args : Array Value} {below : List Frame} {meth : Method} {c : Code} {Q : State → Prop} {D : va_G} {ad : Nat → Nat} {cI cZ : ClassId} {A : Nat → Prop} (F : CallFix p m c qb_M_catchIt 9 s args qtb "CaptureSubtypesModel") (hR : 4 ≤ R.frames ∧ 100 ≤ R.locals) (hK : va_K D qcl [(cI, .int), (cZ, .boolean)] s) (hN : qnests mns s) (hA : ∀ q, s.heap.size ≤ q → A q) {res : (Int32 × (Nat → Nat → Int32))} (hQ : ∀ (H : Heap) (locs : List Loc) (pc : Nat) (ls : Array Slot), decode qb_M_catchIt pc = .ok (.ireturn, 1) → mW D ad cI cZ A s.heap res.2 H locs → W p l e R s m args below meth c H locs 0 0 Q (F0 m pc ls [.int res.1])) {k_19 : (Nat → Nat → Int32) → Int32 → Int32 → Int32 → Option (Int32 × (Nat → Nat → Int32))} (hk_19 : ∀ (S : Nat → Nat → Int32) (v1 v2 v3 : Int32), k_19 S v1 v2 v3 = some res → ∀ {H : Heap} {locs : List Loc} {ls : Array Slot}, mW D ad cI cZ A s.heap S H locs → lv_has ls 9 [(0, .ref (ad 0)), (1, .int v1), (2, .int v2), (3, .int v3)] → W p l e R s m args below meth c H locs 0 0 Q (F0 m 19 ls [])) (S : (Nat → Nat → Int32)) (v1 v2 v3 s1 : Int32) (hM : f_M_catchIt_48 k_19 S v1 v2 v3 s1 = some res) {H : Heap} {locs : List Loc} {ls : Array Slot} (w : mW D ad cI cZ A s.heap S H locs) (hl : lv_has ls 9 [(0, .ref (ad 0)), (1, .int v1), (2, .int v2), (3, .int v3)]) : W p l e R s m args below meth c H locs 0 0 Q (F0 m 48 ls [.int s1]) := by
  unfold f_M_catchIt_48 at hM
  refine lv_istore (lv' := [(4, .int s1), (0, .ref (ad 0)), (1, .int v1), (2, .int v2), (3, .int v3)]) F.1 F.2.1 qd_M_catchIt_48 hl (by decide) rfl (fun ls hl => ?_)
  refine lv_aload_n F.1 F.2.1 qd_M_catchIt_50 rfl (lv_at hl 1 rfl) ?_
  refine mg_M_caughtNow F hK w qk_677 qd_M_catchIt_51 ?_
  refine lv_iload_n F.1 F.2.1 qd_M_catchIt_54 rfl (lv_at hl 4 rfl) ?_
  refine lv_iload F.1 F.2.1 qd_M_catchIt_55 (lv_at hl 0 rfl) ?_
  obtain ⟨hi1, hM⟩ := qck_ok hM
  refine ms_M_caughtNow F hK w hi1 qd_M_catchIt_57 (fun H locs w => ?_)
  refine lv_aload_n F.1 F.2.1 qd_M_catchIt_58 rfl (lv_at hl 1 rfl) ?_
  refine mg_M_sort F hK w qk_664 qd_M_catchIt_59 ?_
  refine lv_iload F.1 F.2.1 qd_M_catchIt_62 (lv_at hl 0 rfl) ?_
  obtain ⟨hi2, hM⟩ := qck_ok hM
  refine ml_M_sort F hK w hi2 qd_M_catchIt_64 ?_
  refine lv_iconst (v := 5) F.1 F.2.1 qd_M_catchIt_65 (by decide) ?_
  refine lv_icmp_ne (tgt := 137) F.1 F.2.1 qd_M_catchIt_66 (by decide) (fun hc3 => ?_) (fun hc3 => ?_)
  · rw [if_neg hc3] at hM
    refine lv_iinc (v := (v3 + (1 : Int32))) (lv' := [(3, .int (v3 + (1 : Int32))), (4, .int s1), (0, .ref (ad 0)), (1, .int v1), (2, .int v2)]) F.1 F.2.1 qd_M_catchIt_137 hl (k := 4) rfl rfl (by decide) rfl (fun ls hl => ?_)
    refine lv_goto (tgt := 19) F.1 F.2.1 qd_M_catchIt_140 (by decide) ?_
    exact hk_19 _ _ _ _ hM w (lv_sub hl [2, 3, 4, 0] rfl)
  · rw [if_pos hc3] at hM
    refine lv_aload_n F.1 F.2.1 qd_M_catchIt_69 rfl (lv_at hl 1 rfl) ?_
    refine mg_M_caughtBounds F hK w qk_671 qd_M_catchIt_70 ?_
    refine lv_aload_n F.1 F.2.1 qd_M_catchIt_73 rfl (lv_at hl 1 rfl) ?_
    refine mg_M_caught F hK w qk_669 qd_M_catchIt_74 ?_
    refine lv_iconst (v := 0) F.1 F.2.1 qd_M_catchIt_77 (by decide) ?_
    obtain ⟨hi4, hM⟩ := qck_ok hM
    refine ms_M_caughtBounds F hK w hi4 qd_M_catchIt_78 (fun H locs w => ?_)
    refine lv_aload_n F.1 F.2.1 qd_M_catchIt_79 rfl (lv_at hl 1 rfl) ?_
    refine mg_M_caughtLow F hK w qk_672 qd_M_catchIt_80 ?_
    refine lv_aload_n F.1 F.2.1 qd_M_catchIt_83 rfl (lv_at hl 1 rfl) ?_
    refine mg_M_caught F hK w qk_669 qd_M_catchIt_84 ?_
    refine lv_aload_n F.1 F.2.1 qd_M_catchIt_87 rfl (lv_at hl 1 rfl) ?_
    refine mg_M_first F hK w qk_665 qd_M_catchIt_88 ?_
    refine lv_iload F.1 F.2.1 qd_M_catchIt_91 (lv_at hl 0 rfl) ?_
    obtain ⟨hi5, hM⟩ := qck_ok hM
    refine ml_M_first F hK w hi5 qd_M_catchIt_93 ?_
    refine lv_iconst (v := 2) F.1 F.2.1 qd_M_catchIt_94 (by decide) ?_
    refine lv_icmp_ne (tgt := 108) F.1 F.2.1 qd_M_catchIt_95 (by decide) (fun hc6 => ?_) (fun hc6 => ?_)
    · rw [if_neg hc6] at hM
      refine lv_iconst (v := (-1)) F.1 F.2.1 qd_M_catchIt_108 (by decide) ?_
      exact t_M_catchIt_109 F hR hK hN hA hQ hk_19 _ _ _ _ _ _ hM w (lv_sub hl [1, 2, 3, 4] rfl)
    · rw [if_pos hc6] at hM
      refine lv_aload_n F.1 F.2.1 qd_M_catchIt_98 rfl (lv_at hl 1 rfl) ?_
      refine mg_M_second F hK w qk_666 qd_M_catchIt_99 ?_
      refine lv_iload F.1 F.2.1 qd_M_catchIt_102 (lv_at hl 0 rfl) ?_
      obtain ⟨hi7, hM⟩ := qck_ok hM
      refine ml_M_second F hK w hi7 qd_M_catchIt_104 ?_
      refine lv_goto (tgt := 109) F.1 F.2.1 qd_M_catchIt_105 (by decide) ?_
      exact t_M_catchIt_109 F hR hK hN hA hQ hk_19 _ _ _ _ _ _ hM w (lv_sub hl [1, 2, 3, 4] rfl)
set_option maxRecDepth 100000 in
set_option maxHeartbeats 4000000 in
theorem tb_M_catchIt_19 {p : Program} {l : Launch} {e : Env} {R : Room} {s : State} {m : MethodId} {args : Array Value} {below : List Frame} {meth : Method} {c : Code} {Q : State → Prop} {D : va_G} {ad : Nat → Nat} {cI cZ : ClassId} {A : Nat → Prop} (F : CallFix p m c qb_M_catchIt 9 s args qtb "CaptureSubtypesModel") (hR : 4 ≤ R.frames ∧ 100 ≤ R.locals) (hK : va_K D qcl [(cI, .int), (cZ, .boolean)] s) (hN : qnests mns s) (hA : ∀ q, s.heap.size ≤ q → A q) {res : (Int32 × (Nat → Nat → Int32))} (hQ : ∀ (H : Heap) (locs : List Loc) (pc : Nat) (ls : Array Slot), decode qb_M_catchIt pc = .ok (.ireturn, 1) → mW D ad cI cZ A s.heap res.2 H locs → W p l e R s m args below meth c H locs 0 0 Q (F0 m pc ls [.int res.1])) {k_19 : (Nat → Nat → Int32) → Int32 → Int32 → Int32 → Option (Int32 × (Nat → Nat → Int32))} (hk_19 : ∀ (S : Nat → Nat → Int32) (v1 v2 v3 : Int32), k_19 S v1 v2 v3 = some res → ∀ {H : Heap} {locs : List Loc} {ls : Array Slot}, mW D ad cI cZ A s.heap S H locs → lv_has ls 9 [(0, .ref (ad 0)), (1, .int v1), (2, .int v2), (3, .int v3)] → W p l e R s m args below meth c H locs 0 0 Q (F0 m 19 ls [])) (S : (Nat → Nat → Int32)) (v1 v2 v3 : Int32) (hM : fb_M_catchIt_19 k_19 S v1 v2 v3 = some res) {H : Heap} {locs : List Loc} {ls : Array Slot} (w : mW D ad cI cZ A s.heap S H locs) (hl : lv_has ls 9 [(0, .ref (ad 0)), (1, .int v1), (2, .int v2), (3, .int v3)]) : W p l e R s m args below meth c H locs 0 0 Q (F0 m 19 ls []) := by
  unfold fb_M_catchIt_19 at hM
  refine lv_iload_n F.1 F.2.1 qd_M_catchIt_19 rfl (lv_at hl 3 rfl) ?_
  refine lv_aload_n F.1 F.2.1 qd_M_catchIt_20 rfl (lv_at hl 0 rfl) ?_
  refine mg_M_parameters F hK w qk_657 qd_M_catchIt_21 ?_
  refine lv_iload_n F.1 F.2.1 qd_M_catchIt_24 rfl (lv_at hl 2 rfl) ?_
  obtain ⟨hi1, hM⟩ := qck_ok hM
  refine ml_M_parameters F hK w hi1 qd_M_catchIt_25 ?_
  refine lv_icmp_ge (tgt := 143) F.1 F.2.1 qd_M_catchIt_26 (by decide) (fun hc2 => ?_) (fun hc2 => ?_)
  · rw [if_pos hc2] at hM
    refine lv_aload_n F.1 F.2.1 qd_M_catchIt_143 rfl (lv_at hl 0 rfl) ?_
    refine mg_M_caughtNow F hK w qk_677 qd_M_catchIt_144 ?_
    refine lv_iconst (v := 0) F.1 F.2.1 qd_M_catchIt_147 (by decide) ?_
    obtain ⟨hi3, hM⟩ := qck_ok hM
    refine ml_M_caughtNow F hK w hi3 qd_M_catchIt_148 ?_
    refine lv_istore_n (lv' := [(3, .int (S 22 (0 : Int32).toNatClampNeg)), (0, .ref (ad 0)), (1, .int v1), (2, .int v2)]) F.1 F.2.1 qd_M_catchIt_149 rfl hl (by decide) rfl (fun ls hl => ?_)
    refine lv_aload_n F.1 F.2.1 qd_M_catchIt_150 rfl (lv_at hl 1 rfl) ?_
    refine mg_M_parameters F hK w qk_657 qd_M_catchIt_151 ?_
    refine lv_iload_n F.1 F.2.1 qd_M_catchIt_154 rfl (lv_at hl 3 rfl) ?_
    obtain ⟨hi4, hM⟩ := qck_ok hM
    refine ml_M_parameters F hK w hi4 qd_M_catchIt_155 ?_
    refine lv_iconst (v := 2) F.1 F.2.1 qd_M_catchIt_156 (by decide) ?_
    refine lv_icmp_ne (tgt := 169) F.1 F.2.1 qd_M_catchIt_157 (by decide) (fun hc5 => ?_) (fun hc5 => ?_)
    · rw [if_neg hc5] at hM
      refine lv_iconst (v := (-1)) F.1 F.2.1 qd_M_catchIt_169 (by decide) ?_
      refine lv_istore (lv' := [(4, .int (-1 : Int32)), (3, .int (S 22 (0 : Int32).toNatClampNeg)), (0, .ref (ad 0)), (1, .int v1), (2, .int v2)]) F.1 F.2.1 qd_M_catchIt_170 hl (by decide) rfl (fun ls hl => ?_)
      refine lv_iconst (v := 0) F.1 F.2.1 qd_M_catchIt_172 (by decide) ?_
      refine lv_istore (lv' := [(5, .int (0 : Int32)), (4, .int (-1 : Int32)), (3, .int (S 22 (0 : Int32).toNatClampNeg)), (0, .ref (ad 0)), (1, .int v1), (2, .int v2)]) F.1 F.2.1 qd_M_catchIt_173 hl (by decide) rfl (fun ls hl => ?_)
      exact t_M_catchIt_175 F hR hK hN hA hQ  qfu _ _ _ _ _ _ hM w (lv_sub hl [3, 4, 5, 2, 1, 0] rfl)
    · rw [if_pos hc5] at hM
      refine lv_aload_n F.1 F.2.1 qd_M_catchIt_160 rfl (lv_at hl 1 rfl) ?_
      refine mg_M_caughtNow F hK w qk_677 qd_M_catchIt_161 ?_
      refine lv_iconst (v := 1) F.1 F.2.1 qd_M_catchIt_164 (by decide) ?_
      obtain ⟨hi6, hM⟩ := qck_ok hM
      refine ml_M_caughtNow F hK w hi6 qd_M_catchIt_165 ?_
      refine lv_goto (tgt := 170) F.1 F.2.1 qd_M_catchIt_166 (by decide) ?_
      refine lv_istore (lv' := [(4, .int (S 22 (1 : Int32).toNatClampNeg)), (3, .int (S 22 (0 : Int32).toNatClampNeg)), (0, .ref (ad 0)), (1, .int v1), (2, .int v2)]) F.1 F.2.1 qd_M_catchIt_170 hl (by decide) rfl (fun ls hl => ?_)
      refine lv_iconst (v := 0) F.1 F.2.1 qd_M_catchIt_172 (by decide) ?_
      refine lv_istore (lv' := [(5, .int (0 : Int32)), (4, .int (S 22 (1 : Int32).toNatClampNeg)), (3, .int (S 22 (0 : Int32).toNatClampNeg)), (0, .ref (ad 0)), (1, .int v1), (2, .int v2)]) F.1 F.2.1 qd_M_catchIt_173 hl (by decide) rfl (fun ls hl => ?_)
      exact t_M_catchIt_175 F hR hK hN hA hQ  qfu _ _ _ _ _ _ hM w (lv_sub hl [3, 4, 5, 2, 1, 0] rfl)
  · rw [if_neg hc2] at hM
    refine lv_iload_n F.1 F.2.1 qd_M_catchIt_29 rfl (lv_at hl 3 rfl) ?_
    refine lv_if_ne (tgt := 42) F.1 F.2.1 qd_M_catchIt_30 (by decide) (fun hc7 => ?_) (fun hc7 => ?_)
    · rw [if_neg hc7] at hM
      refine lv_aload_n F.1 F.2.1 qd_M_catchIt_42 rfl (lv_at hl 0 rfl) ?_
      refine mg_M_third F hK w qk_667 qd_M_catchIt_43 ?_
      refine lv_iload_n F.1 F.2.1 qd_M_catchIt_46 rfl (lv_at hl 1 rfl) ?_
      obtain ⟨hi8, hM⟩ := qck_ok hM
      refine ml_M_third F hK w hi8 qd_M_catchIt_47 ?_
      exact t_M_catchIt_48 F hR hK hN hA hQ hk_19 _ _ _ _ _ hM w (lv_sub hl [0, 1, 2, 3] rfl)
    · rw [if_pos hc7] at hM
      refine lv_aload_n F.1 F.2.1 qd_M_catchIt_33 rfl (lv_at hl 0 rfl) ?_
      refine mg_M_second F hK w qk_666 qd_M_catchIt_34 ?_
      refine lv_iload_n F.1 F.2.1 qd_M_catchIt_37 rfl (lv_at hl 1 rfl) ?_
      obtain ⟨hi9, hM⟩ := qck_ok hM
      refine ml_M_second F hK w hi9 qd_M_catchIt_38 ?_
      refine lv_goto (tgt := 48) F.1 F.2.1 qd_M_catchIt_39 (by decide) ?_
      exact t_M_catchIt_48 F hR hK hN hA hQ hk_19 _ _ _ _ _ hM w (lv_sub hl [0, 1, 2, 3] rfl)
set_option maxRecDepth 100000 in
set_option maxHeartbeats 4000000 in
theorem t_M_catchIt_19 {p : Program} {l : Launch} {e : Env} {R : Room} {s : State} {m : MethodId} {args : Array Value} {below : List Frame} {meth : Method} {c : Code} {Q : State → Prop} {D : va_G} {ad : Nat → Nat} {cI cZ : ClassId} {A : Nat → Prop} (F : CallFix p m c qb_M_catchIt 9 s args qtb "CaptureSubtypesModel") (hR : 4 ≤ R.frames ∧ 100 ≤ R.locals) (hK : va_K D qcl [(cI, .int), (cZ, .boolean)] s) (hN : qnests mns s) (hA : ∀ q, s.heap.size ≤ q → A q) {res : (Int32 × (Nat → Nat → Int32))} (hQ : ∀ (H : Heap) (locs : List Loc) (pc : Nat) (ls : Array Slot), decode qb_M_catchIt pc = .ok (.ireturn, 1) → mW D ad cI cZ A s.heap res.2 H locs → W p l e R s m args below meth c H locs 0 0 Q (F0 m pc ls [.int res.1])) : ∀ (n : Nat) (S : (Nat → Nat → Int32)) (v1 v2 v3 : Int32) (hM : f_M_catchIt_19 n S v1 v2 v3 = some res) {H : Heap} {locs : List Loc} {ls : Array Slot} (w : mW D ad cI cZ A s.heap S H locs) (hl : lv_has ls 9 [(0, .ref (ad 0)), (1, .int v1), (2, .int v2), (3, .int v3)]), W p l e R s m args below meth c H locs 0 0 Q (F0 m 19 ls []) := by
  intro n
  induction n with
  | zero => intro S v1 v2 v3 hM; exact absurd hM (by simp [f_M_catchIt_19])
  | succ n ih => intro S v1 v2 v3 hM H locs ls w hl; exact tb_M_catchIt_19 F hR hK hN hA hQ (k_19 := f_M_catchIt_19 n) (fun S v1 v2 v3 hM H locs ls w hl => ih S v1 v2 v3 hM w hl) S v1 v2 v3 hM w hl
set_option maxRecDepth 100000 in
set_option maxHeartbeats 4000000 in
theorem t_M_catchIt {p : Program} {l : Launch} {e : Env} {R : Room} {s : State} {m : MethodId} {args : Array Value} {below : List Frame} {meth : Method} {c : Code} {Q : State → Prop} {D : va_G} {ad : Nat → Nat} {cI cZ : ClassId} {A : Nat → Prop} (F : CallFix p m c qb_M_catchIt 9 s args qtb "CaptureSubtypesModel") (hR : 4 ≤ R.frames ∧ 100 ≤ R.locals) (hK : va_K D qcl [(cI, .int), (cZ, .boolean)] s) (hN : qnests mns s) (hA : ∀ q, s.heap.size ≤ q → A q) {res : (Int32 × (Nat → Nat → Int32))} (hQ : ∀ (H : Heap) (locs : List Loc) (pc : Nat) (ls : Array Slot), decode qb_M_catchIt pc = .ok (.ireturn, 1) → mW D ad cI cZ A s.heap res.2 H locs → W p l e R s m args below meth c H locs 0 0 Q (F0 m pc ls [.int res.1])) (S : (Nat → Nat → Int32)) (a1 : Int32) (hM : f_M_catchIt S a1 = some res) {H : Heap} {locs : List Loc} {ls : Array Slot} (w : mW D ad cI cZ A s.heap S H locs) (hl : lv_has ls 9 [(0, .ref (ad 0)), (1, .int a1)]) : W p l e R s m args below meth c H locs 0 0 Q (F0 m 0 ls []) := by
  unfold f_M_catchIt at hM
  refine lv_aload_n F.1 F.2.1 qd_M_catchIt_0 rfl (lv_at hl 0 rfl) ?_
  refine lv_iload_n F.1 F.2.1 qd_M_catchIt_1 rfl (lv_at hl 1 rfl) ?_
  obtain ⟨q1, hq2, hM⟩ := qbd hM
  refine m_calli F hK hN hA w (c_M_hasWild l D ad cI cZ hq2) qk_912 qk_914 qs_M_hasWild qk_8 qk_915 qv_M_hasWild rfl rfl ⟨Nat.le_trans (by decide) hR.1, Nat.le_trans (by decide) hR.2⟩ (ci := 6) rfl (j := 0) rfl hl.1 rfl (Nat.le_of_ble_eq_true rfl) qd_M_catchIt_2 (fun H locs w => ?_)
  refine lv_if_ne (tgt := 10) F.1 F.2.1 qd_M_catchIt_5 (by decide) (fun hc3 => ?_) (fun hc3 => ?_)
  · rw [if_neg hc3] at hM
    refine lv_aload_n F.1 F.2.1 qd_M_catchIt_10 rfl (lv_at hl 0 rfl) ?_
    refine mg_M_first F hK w qk_665 qd_M_catchIt_11 ?_
    refine lv_iload_n F.1 F.2.1 qd_M_catchIt_14 rfl (lv_at hl 1 rfl) ?_
    obtain ⟨hi4, hM⟩ := qck_ok hM
    refine ml_M_first F hK w hi4 qd_M_catchIt_15 ?_
    refine lv_istore_n (lv' := [(2, .int (S 10 a1.toNatClampNeg)), (0, .ref (ad 0)), (1, .int a1)]) F.1 F.2.1 qd_M_catchIt_16 rfl hl (by decide) rfl (fun ls hl => ?_)
    refine lv_iconst (v := 0) F.1 F.2.1 qd_M_catchIt_17 (by decide) ?_
    refine lv_istore_n (lv' := [(3, .int (0 : Int32)), (2, .int (S 10 a1.toNatClampNeg)), (0, .ref (ad 0)), (1, .int a1)]) F.1 F.2.1 qd_M_catchIt_18 rfl hl (by decide) rfl (fun ls hl => ?_)
    exact t_M_catchIt_19 F hR hK hN hA hQ  qfu _ _ _ _ hM w (lv_sub hl [2, 3, 1, 0] rfl)
  · rw [if_pos hc3] at hM
    refine lv_iload_n F.1 F.2.1 qd_M_catchIt_8 rfl (lv_at hl 1 rfl) ?_
    cases hM
    exact hQ _ _ _ _ qd_M_catchIt_9 w
set_option maxRecDepth 100000 in
theorem c_M_catchIt (l : Launch) (D : va_G) (ad : Nat → Nat) (cI cZ : ClassId) {S : (Nat → Nat → Int32)} {a1 : Int32} {res : (Int32 × (Nat → Nat → Int32))} (hM : f_M_catchIt S a1 = some res) : mMi l qy_M_catchIt qb_M_catchIt 9 (some .int) { frames := 4, cells := 0, slots := 0, locals := 100 } D ad cI cZ S [.ref (ad 0), .int a1] res.1 res.2 := m_ofi (by decide +kernel) (Nat.le_of_ble_eq_true rfl) (fun p e s m args below meth c Q A ls F hK hN hA w hl hQ => t_M_catchIt F ⟨Nat.le_refl _, Nat.le_refl _⟩ hK hN hA hQ S a1 hM w hl)
-- M_bare
def f_M_bare_15 (S : (Nat → Nat → Int32)) (v1 s1 : Int32) : Option (Int32 × (Nat → Nat → Int32)) := (f_M_come S s1 v1 (-1 : Int32) (-1 : Int32)).bind (fun q1 => some (q1.1, q1.2))
def f_M_bare (S : (Nat → Nat → Int32)) (a1 : Int32) : Option (Int32 × (Nat → Nat → Int32)) := qck (qin a1 12) (if (S 2 a1.toNatClampNeg) = 0 then (f_M_bare_15  S a1 (0 : Int32)) else (f_M_bare_15  S a1 (1 : Int32)))
set_option maxRecDepth 100000 in
set_option maxHeartbeats 4000000 in
theorem t_M_bare_15 {p : Program} {l : Launch} {e : Env} {R : Room} {s : State} {m : MethodId} {args : Array Value} {below : List Frame} {meth : Method} {c : Code} {Q : State → Prop} {D : va_G} {ad : Nat → Nat} {cI cZ : ClassId} {A : Nat → Prop} (F : CallFix p m c qb_M_bare 2 s args qtb "CaptureSubtypesModel") (hR : 3 ≤ R.frames ∧ 75 ≤ R.locals) (hK : va_K D qcl [(cI, .int), (cZ, .boolean)] s) (hN : qnests mns s) (hA : ∀ q, s.heap.size ≤ q → A q) {res : (Int32 × (Nat → Nat → Int32))} (hQ : ∀ (H : Heap) (locs : List Loc) (pc : Nat) (ls : Array Slot), decode qb_M_bare pc = .ok (.ireturn, 1) → mW D ad cI cZ A s.heap res.2 H locs → W p l e R s m args below meth c H locs 0 0 Q (F0 m pc ls [.int res.1])) (S : (Nat → Nat → Int32)) (v1 s1 : Int32) (hM : f_M_bare_15 S v1 s1 = some res) {H : Heap} {locs : List Loc} {ls : Array Slot} (w : mW D ad cI cZ A s.heap S H locs) (hl : lv_has ls 2 [(0, .ref (ad 0)), (1, .int v1)]) : W p l e R s m args below meth c H locs 0 0 Q (F0 m 15 ls [.int s1, .ref (ad 0)]) := by
  unfold f_M_bare_15 at hM
  refine lv_iload_n F.1 F.2.1 qd_M_bare_15 rfl (lv_at hl 1 rfl) ?_
  refine lv_iconst (v := (-1)) F.1 F.2.1 qd_M_bare_16 (by decide) ?_
  refine lv_iconst (v := (-1)) F.1 F.2.1 qd_M_bare_17 (by decide) ?_
  obtain ⟨q1, hq2, hM⟩ := qbd hM
  refine m_calli F hK hN hA w (c_M_come l D ad cI cZ hq2) qk_916 qk_918 qs_M_come qk_8 qk_919 qv_M_come rfl rfl ⟨Nat.le_trans (by decide) hR.1, Nat.le_trans (by decide) hR.2⟩ (ci := 6) rfl (j := 0) rfl hl.1 rfl (Nat.le_of_ble_eq_true rfl) qd_M_bare_18 (fun H locs w => ?_)
  cases hM
  exact hQ _ _ _ _ qd_M_bare_21 w
set_option maxRecDepth 100000 in
set_option maxHeartbeats 4000000 in
theorem t_M_bare {p : Program} {l : Launch} {e : Env} {R : Room} {s : State} {m : MethodId} {args : Array Value} {below : List Frame} {meth : Method} {c : Code} {Q : State → Prop} {D : va_G} {ad : Nat → Nat} {cI cZ : ClassId} {A : Nat → Prop} (F : CallFix p m c qb_M_bare 2 s args qtb "CaptureSubtypesModel") (hR : 3 ≤ R.frames ∧ 75 ≤ R.locals) (hK : va_K D qcl [(cI, .int), (cZ, .boolean)] s) (hN : qnests mns s) (hA : ∀ q, s.heap.size ≤ q → A q) {res : (Int32 × (Nat → Nat → Int32))} (hQ : ∀ (H : Heap) (locs : List Loc) (pc : Nat) (ls : Array Slot), decode qb_M_bare pc = .ok (.ireturn, 1) → mW D ad cI cZ A s.heap res.2 H locs → W p l e R s m args below meth c H locs 0 0 Q (F0 m pc ls [.int res.1])) (S : (Nat → Nat → Int32)) (a1 : Int32) (hM : f_M_bare S a1 = some res) {H : Heap} {locs : List Loc} {ls : Array Slot} (w : mW D ad cI cZ A s.heap S H locs) (hl : lv_has ls 2 [(0, .ref (ad 0)), (1, .int a1)]) : W p l e R s m args below meth c H locs 0 0 Q (F0 m 0 ls []) := by
  unfold f_M_bare at hM
  refine lv_aload_n F.1 F.2.1 qd_M_bare_0 rfl (lv_at hl 0 rfl) ?_
  refine lv_aload_n F.1 F.2.1 qd_M_bare_1 rfl (lv_at hl 0 rfl) ?_
  refine mg_M_parameters F hK w qk_657 qd_M_bare_2 ?_
  refine lv_iload_n F.1 F.2.1 qd_M_bare_5 rfl (lv_at hl 1 rfl) ?_
  obtain ⟨hi1, hM⟩ := qck_ok hM
  refine ml_M_parameters F hK w hi1 qd_M_bare_6 ?_
  refine lv_if_ne (tgt := 14) F.1 F.2.1 qd_M_bare_7 (by decide) (fun hc2 => ?_) (fun hc2 => ?_)
  · rw [if_neg hc2] at hM
    refine lv_iconst (v := 1) F.1 F.2.1 qd_M_bare_14 (by decide) ?_
    exact t_M_bare_15 F hR hK hN hA hQ  _ _ _ hM w (lv_sub hl [0, 1] rfl)
  · rw [if_pos hc2] at hM
    refine lv_iconst (v := 0) F.1 F.2.1 qd_M_bare_10 (by decide) ?_
    refine lv_goto (tgt := 15) F.1 F.2.1 qd_M_bare_11 (by decide) ?_
    exact t_M_bare_15 F hR hK hN hA hQ  _ _ _ hM w (lv_sub hl [0, 1] rfl)
set_option maxRecDepth 100000 in
theorem c_M_bare (l : Launch) (D : va_G) (ad : Nat → Nat) (cI cZ : ClassId) {S : (Nat → Nat → Int32)} {a1 : Int32} {res : (Int32 × (Nat → Nat → Int32))} (hM : f_M_bare S a1 = some res) : mMi l qy_M_bare qb_M_bare 2 (some .int) { frames := 3, cells := 0, slots := 0, locals := 75 } D ad cI cZ S [.ref (ad 0), .int a1] res.1 res.2 := m_ofi (by decide +kernel) (Nat.le_of_ble_eq_true rfl) (fun p e s m args below meth c Q A ls F hK hN hA w hl hQ => t_M_bare F ⟨Nat.le_refl _, Nat.le_refl _⟩ hK hN hA hQ S a1 hM w hl)
-- M_superType
def f_M_superType (S : (Nat → Nat → Int32)) (a1 a2 : Int32) : Option (Int32 × (Nat → Nat → Int32)) := qck (qin a1 9000) ((f_M_superOf S (S 10 a1.toNatClampNeg) a2).bind (fun q2 => if q2 = (-1 : Int32) then (some (q2, S)) else (qck (qin a1 9000) (if (S 9 a1.toNatClampNeg) = 0 then (some (q2, S)) else (qck (qin a1 9000) (if (S 9 a1.toNatClampNeg) = (1 : Int32) then (qck (qin q2 9000) ((f_M_bare S (S 10 q2.toNatClampNeg)).bind (fun q15 => some (q15.1, q15.2)))) else (qck (qin a1 9000) (qck (qin a1 9000) (qck (qin a1 9000) ((f_M_replace S q2 (S 10 a1.toNatClampNeg) (S 11 a1.toNatClampNeg) (S 12 a1.toNatClampNeg)).bind (fun q12 => some (q12.1, q12.2))))))))))))
set_option maxRecDepth 100000 in
set_option maxHeartbeats 4000000 in
theorem t_M_superType {p : Program} {l : Launch} {e : Env} {R : Room} {s : State} {m : MethodId} {args : Array Value} {below : List Frame} {meth : Method} {c : Code} {Q : State → Prop} {D : va_G} {ad : Nat → Nat} {cI cZ : ClassId} {A : Nat → Prop} (F : CallFix p m c qb_M_superType 4 s args qtb "CaptureSubtypesModel") (hR : 4 ≤ R.frames ∧ 100 ≤ R.locals) (hK : va_K D qcl [(cI, .int), (cZ, .boolean)] s) (hN : qnests mns s) (hA : ∀ q, s.heap.size ≤ q → A q) {res : (Int32 × (Nat → Nat → Int32))} (hQ : ∀ (H : Heap) (locs : List Loc) (pc : Nat) (ls : Array Slot), decode qb_M_superType pc = .ok (.ireturn, 1) → mW D ad cI cZ A s.heap res.2 H locs → W p l e R s m args below meth c H locs 0 0 Q (F0 m pc ls [.int res.1])) (S : (Nat → Nat → Int32)) (a1 a2 : Int32) (hM : f_M_superType S a1 a2 = some res) {H : Heap} {locs : List Loc} {ls : Array Slot} (w : mW D ad cI cZ A s.heap S H locs) (hl : lv_has ls 4 [(0, .ref (ad 0)), (1, .int a1), (2, .int a2)]) : W p l e R s m args below meth c H locs 0 0 Q (F0 m 0 ls []) := by
  unfold f_M_superType at hM
  refine lv_aload_n F.1 F.2.1 qd_M_superType_0 rfl (lv_at hl 0 rfl) ?_
  refine lv_aload_n F.1 F.2.1 qd_M_superType_1 rfl (lv_at hl 0 rfl) ?_
  refine mg_M_first F hK w qk_665 qd_M_superType_2 ?_
  refine lv_iload_n F.1 F.2.1 qd_M_superType_5 rfl (lv_at hl 1 rfl) ?_
  obtain ⟨hi1, hM⟩ := qck_ok hM
  refine ml_M_first F hK w hi1 qd_M_superType_6 ?_
  refine lv_iload_n F.1 F.2.1 qd_M_superType_7 rfl (lv_at hl 2 rfl) ?_
  obtain ⟨q2, hq3, hM⟩ := qbd hM
  refine m_calli F hK hN hA w (c_M_superOf l D ad cI cZ hq3) qk_828 qk_830 qs_M_superOf qk_8 qk_831 qv_M_superOf rfl rfl ⟨Nat.le_trans (by decide) hR.1, Nat.le_trans (by decide) hR.2⟩ (ci := 6) rfl (j := 0) rfl hl.1 rfl (Nat.le_of_ble_eq_true rfl) qd_M_superType_8 (fun H locs w => ?_)
  refine lv_istore_n (lv' := [(3, .int q2), (0, .ref (ad 0)), (1, .int a1), (2, .int a2)]) F.1 F.2.1 qd_M_superType_11 rfl hl (by decide) rfl (fun ls hl => ?_)
  refine lv_iload_n F.1 F.2.1 qd_M_superType_12 rfl (lv_at hl 0 rfl) ?_
  refine lv_iconst (v := (-1)) F.1 F.2.1 qd_M_superType_13 (by decide) ?_
  refine lv_icmp_eq (tgt := 26) F.1 F.2.1 qd_M_superType_14 (by decide) (fun hc4 => ?_) (fun hc4 => ?_)
  · rw [if_pos hc4] at hM
    refine lv_iload_n F.1 F.2.1 qd_M_superType_26 rfl (lv_at hl 0 rfl) ?_
    cases hM
    exact hQ _ _ _ _ qd_M_superType_27 w
  · rw [if_neg hc4] at hM
    refine lv_aload_n F.1 F.2.1 qd_M_superType_17 rfl (lv_at hl 1 rfl) ?_
    refine mg_M_sort F hK w qk_664 qd_M_superType_18 ?_
    refine lv_iload_n F.1 F.2.1 qd_M_superType_21 rfl (lv_at hl 2 rfl) ?_
    obtain ⟨hi5, hM⟩ := qck_ok hM
    refine ml_M_sort F hK w hi5 qd_M_superType_22 ?_
    refine lv_if_ne (tgt := 28) F.1 F.2.1 qd_M_superType_23 (by decide) (fun hc6 => ?_) (fun hc6 => ?_)
    · rw [if_neg hc6] at hM
      refine lv_aload_n F.1 F.2.1 qd_M_superType_28 rfl (lv_at hl 1 rfl) ?_
      refine mg_M_sort F hK w qk_664 qd_M_superType_29 ?_
      refine lv_iload_n F.1 F.2.1 qd_M_superType_32 rfl (lv_at hl 2 rfl) ?_
      obtain ⟨hi7, hM⟩ := qck_ok hM
      refine ml_M_sort F hK w hi7 qd_M_superType_33 ?_
      refine lv_iconst (v := 1) F.1 F.2.1 qd_M_superType_34 (by decide) ?_
      refine lv_icmp_ne (tgt := 51) F.1 F.2.1 qd_M_superType_35 (by decide) (fun hc8 => ?_) (fun hc8 => ?_)
      · rw [if_neg hc8] at hM
        refine lv_aload_n F.1 F.2.1 qd_M_superType_51 rfl (lv_at hl 1 rfl) ?_
        refine lv_iload_n F.1 F.2.1 qd_M_superType_52 rfl (lv_at hl 0 rfl) ?_
        refine lv_aload_n F.1 F.2.1 qd_M_superType_53 rfl (lv_at hl 1 rfl) ?_
        refine mg_M_first F hK w qk_665 qd_M_superType_54 ?_
        refine lv_iload_n F.1 F.2.1 qd_M_superType_57 rfl (lv_at hl 2 rfl) ?_
        obtain ⟨hi9, hM⟩ := qck_ok hM
        refine ml_M_first F hK w hi9 qd_M_superType_58 ?_
        refine lv_aload_n F.1 F.2.1 qd_M_superType_59 rfl (lv_at hl 1 rfl) ?_
        refine mg_M_second F hK w qk_666 qd_M_superType_60 ?_
        refine lv_iload_n F.1 F.2.1 qd_M_superType_63 rfl (lv_at hl 2 rfl) ?_
        obtain ⟨hi10, hM⟩ := qck_ok hM
        refine ml_M_second F hK w hi10 qd_M_superType_64 ?_
        refine lv_aload_n F.1 F.2.1 qd_M_superType_65 rfl (lv_at hl 1 rfl) ?_
        refine mg_M_third F hK w qk_667 qd_M_superType_66 ?_
        refine lv_iload_n F.1 F.2.1 qd_M_superType_69 rfl (lv_at hl 2 rfl) ?_
        obtain ⟨hi11, hM⟩ := qck_ok hM
        refine ml_M_third F hK w hi11 qd_M_superType_70 ?_
        obtain ⟨q12, hq13, hM⟩ := qbd hM
        refine m_calli F hK hN hA w (c_M_replace l D ad cI cZ hq13) qk_920 qk_922 qs_M_replace qk_8 qk_923 qv_M_replace rfl rfl ⟨Nat.le_trans (by decide) hR.1, Nat.le_trans (by decide) hR.2⟩ (ci := 6) rfl (j := 0) rfl hl.1 rfl (Nat.le_of_ble_eq_true rfl) qd_M_superType_71 (fun H locs w => ?_)
        cases hM
        exact hQ _ _ _ _ qd_M_superType_74 w
      · rw [if_pos hc8] at hM
        refine lv_aload_n F.1 F.2.1 qd_M_superType_38 rfl (lv_at hl 1 rfl) ?_
        refine lv_aload_n F.1 F.2.1 qd_M_superType_39 rfl (lv_at hl 1 rfl) ?_
        refine mg_M_first F hK w qk_665 qd_M_superType_40 ?_
        refine lv_iload_n F.1 F.2.1 qd_M_superType_43 rfl (lv_at hl 0 rfl) ?_
        obtain ⟨hi14, hM⟩ := qck_ok hM
        refine ml_M_first F hK w hi14 qd_M_superType_44 ?_
        obtain ⟨q15, hq16, hM⟩ := qbd hM
        refine m_calli F hK hN hA w (c_M_bare l D ad cI cZ hq16) qk_932 qk_934 qs_M_bare qk_8 qk_935 qv_M_bare rfl rfl ⟨Nat.le_trans (by decide) hR.1, Nat.le_trans (by decide) hR.2⟩ (ci := 6) rfl (j := 0) rfl hl.1 rfl (Nat.le_of_ble_eq_true rfl) qd_M_superType_45 (fun H locs w => ?_)
        refine lv_goto (tgt := 74) F.1 F.2.1 qd_M_superType_48 (by decide) ?_
        cases hM
        exact hQ _ _ _ _ qd_M_superType_74 w
    · rw [if_pos hc6] at hM
      refine lv_iload_n F.1 F.2.1 qd_M_superType_26 rfl (lv_at hl 0 rfl) ?_
      cases hM
      exact hQ _ _ _ _ qd_M_superType_27 w
set_option maxRecDepth 100000 in
theorem c_M_superType (l : Launch) (D : va_G) (ad : Nat → Nat) (cI cZ : ClassId) {S : (Nat → Nat → Int32)} {a1 a2 : Int32} {res : (Int32 × (Nat → Nat → Int32))} (hM : f_M_superType S a1 a2 = some res) : mMi l qy_M_superType qb_M_superType 4 (some .int) { frames := 4, cells := 0, slots := 0, locals := 100 } D ad cI cZ S [.ref (ad 0), .int a1, .int a2] res.1 res.2 := m_ofi (by decide +kernel) (Nat.le_of_ble_eq_true rfl) (fun p e s m args below meth c Q A ls F hK hN hA w hl hQ => t_M_superType F ⟨Nat.le_refl _, Nat.le_refl _⟩ hK hN hA hQ S a1 a2 hM w hl)
-- M_asClass
def fb_M_asClass_25 (k_12 : (Nat → Nat → Int32) → Int32 → Int32 → Option (Int32 × (Nat → Nat → Int32))) (k_25 : (Nat → Nat → Int32) → Int32 → Int32 → Int32 → Option (Int32 × (Nat → Nat → Int32))) (S : (Nat → Nat → Int32)) (v2 v3 v4 : Int32) : Option (Int32 × (Nat → Nat → Int32)) := qck (qin v3 9000) ((f_M_superOf S (S 10 v3.toNatClampNeg) v4).bind (fun q2 => if q2 = (-1 : Int32) then (k_25 S v2 v3 (v4 + (1 : Int32))) else (qck (qin v3 9000) ((f_M_superOf S (S 10 v3.toNatClampNeg) v4).bind (fun q6 => qck (qin q6 9000) (qck (qin (((12 : Int32) * (S 10 q6.toNatClampNeg)) + v2) 144) (if (S 18 (((12 : Int32) * (S 10 q6.toNatClampNeg)) + v2).toNatClampNeg) = 0 then (k_25 S v2 v3 (v4 + (1 : Int32))) else ((f_M_superType S v3 v4).bind (fun q11 => k_12 q11.2 v2 q11.1)))))))))
def f_M_asClass_25 (k_12 : (Nat → Nat → Int32) → Int32 → Int32 → Option (Int32 × (Nat → Nat → Int32))) : Nat → (Nat → Nat → Int32) → Int32 → Int32 → Int32 → Option (Int32 × (Nat → Nat → Int32))
  | 0 => fun _ _ _ _ => none
  | n + 1 => fun S v2 v3 v4 => fb_M_asClass_25 k_12 (f_M_asClass_25 k_12 n) S v2 v3 v4
def fb_M_asClass_12 (k_12 : (Nat → Nat → Int32) → Int32 → Int32 → Option (Int32 × (Nat → Nat → Int32))) (S : (Nat → Nat → Int32)) (v2 v3 : Int32) : Option (Int32 × (Nat → Nat → Int32)) := qck (qin v3 9000) (if (S 10 v3.toNatClampNeg) = v2 then (some (v3, S)) else (f_M_asClass_25 k_12 qfu S v2 v3 (0 : Int32)))
def f_M_asClass_12 : Nat → (Nat → Nat → Int32) → Int32 → Int32 → Option (Int32 × (Nat → Nat → Int32))
  | 0 => fun _ _ _ => none
  | n + 1 => fun S v2 v3 => fb_M_asClass_12 (f_M_asClass_12 n) S v2 v3
def f_M_asClass (S : (Nat → Nat → Int32)) (a1 a2 : Int32) : Option (Int32 × (Nat → Nat → Int32)) := if a2 = 0 then (some ((0 : Int32), S)) else ((f_M_catchIt S a1).bind (fun q2 => f_M_asClass_12  qfu q2.2 a2 q2.1))
set_option maxRecDepth 100000 in
set_option maxHeartbeats 4000000 in
theorem tb_M_asClass_25 {p : Program} {l : Launch} {e : Env} {R : Room} {s : State} {m : MethodId} {args : Array Value} {below : List Frame} {meth : Method} {c : Code} {Q : State → Prop} {D : va_G} {ad : Nat → Nat} {cI cZ : ClassId} {A : Nat → Prop} (F : CallFix p m c qb_M_asClass 5 s args qtb "CaptureSubtypesModel") (hR : 5 ≤ R.frames ∧ 128 ≤ R.locals) (hK : va_K D qcl [(cI, .int), (cZ, .boolean)] s) (hN : qnests mns s) (hA : ∀ q, s.heap.size ≤ q → A q) {res : (Int32 × (Nat → Nat → Int32))} (hQ : ∀ (H : Heap) (locs : List Loc) (pc : Nat) (ls : Array Slot), decode qb_M_asClass pc = .ok (.ireturn, 1) → mW D ad cI cZ A s.heap res.2 H locs → W p l e R s m args below meth c H locs 0 0 Q (F0 m pc ls [.int res.1])) {k_12 : (Nat → Nat → Int32) → Int32 → Int32 → Option (Int32 × (Nat → Nat → Int32))} (hk_12 : ∀ (S : Nat → Nat → Int32) (v2 v3 : Int32), k_12 S v2 v3 = some res → ∀ {H : Heap} {locs : List Loc} {ls : Array Slot}, mW D ad cI cZ A s.heap S H locs → lv_has ls 5 [(0, .ref (ad 0)), (2, .int v2), (3, .int v3)] → W p l e R s m args below meth c H locs 0 0 Q (F0 m 12 ls [])) {k_25 : (Nat → Nat → Int32) → Int32 → Int32 → Int32 → Option (Int32 × (Nat → Nat → Int32))} (hk_25 : ∀ (S : Nat → Nat → Int32) (v2 v3 v4 : Int32), k_25 S v2 v3 v4 = some res → ∀ {H : Heap} {locs : List Loc} {ls : Array Slot}, mW D ad cI cZ A s.heap S H locs → lv_has ls 5 [(0, .ref (ad 0)), (2, .int v2), (3, .int v3), (4, .int v4)] → W p l e R s m args below meth c H locs 0 0 Q (F0 m 25 ls [])) (S : (Nat → Nat → Int32)) (v2 v3 v4 : Int32) (hM : fb_M_asClass_25 k_12 k_25 S v2 v3 v4 = some res) {H : Heap} {locs : List Loc} {ls : Array Slot} (w : mW D ad cI cZ A s.heap S H locs) (hl : lv_has ls 5 [(0, .ref (ad 0)), (2, .int v2), (3, .int v3), (4, .int v4)]) : W p l e R s m args below meth c H locs 0 0 Q (F0 m 25 ls []) := by
  unfold fb_M_asClass_25 at hM
  refine lv_aload_n F.1 F.2.1 qd_M_asClass_25 rfl (lv_at hl 0 rfl) ?_
  refine lv_aload_n F.1 F.2.1 qd_M_asClass_26 rfl (lv_at hl 0 rfl) ?_
  refine mg_M_first F hK w qk_665 qd_M_asClass_27 ?_
  refine lv_iload_n F.1 F.2.1 qd_M_asClass_30 rfl (lv_at hl 2 rfl) ?_
  obtain ⟨hi1, hM⟩ := qck_ok hM
  refine ml_M_first F hK w hi1 qd_M_asClass_31 ?_
  refine lv_iload F.1 F.2.1 qd_M_asClass_32 (lv_at hl 3 rfl) ?_
  obtain ⟨q2, hq3, hM⟩ := qbd hM
  refine m_calli F hK hN hA w (c_M_superOf l D ad cI cZ hq3) qk_828 qk_830 qs_M_superOf qk_8 qk_831 qv_M_superOf rfl rfl ⟨Nat.le_trans (by decide) hR.1, Nat.le_trans (by decide) hR.2⟩ (ci := 6) rfl (j := 0) rfl hl.1 rfl (Nat.le_of_ble_eq_true rfl) qd_M_asClass_34 (fun H locs w => ?_)
  refine lv_iconst (v := (-1)) F.1 F.2.1 qd_M_asClass_37 (by decide) ?_
  refine lv_icmp_eq (tgt := 71) F.1 F.2.1 qd_M_asClass_38 (by decide) (fun hc4 => ?_) (fun hc4 => ?_)
  · rw [if_pos hc4] at hM
    refine lv_iinc (v := (v4 + (1 : Int32))) (lv' := [(4, .int (v4 + (1 : Int32))), (0, .ref (ad 0)), (2, .int v2), (3, .int v3)]) F.1 F.2.1 qd_M_asClass_71 hl (k := 3) rfl rfl (by decide) rfl (fun ls hl => ?_)
    refine lv_goto (tgt := 25) F.1 F.2.1 qd_M_asClass_74 (by decide) ?_
    exact hk_25 _ _ _ _ hM w (lv_sub hl [1, 2, 3, 0] rfl)
  · rw [if_neg hc4] at hM
    refine lv_aload_n F.1 F.2.1 qd_M_asClass_41 rfl (lv_at hl 0 rfl) ?_
    refine mg_M_isBelow F hK w qk_673 qd_M_asClass_42 ?_
    refine lv_bipush (v := 12) F.1 F.2.1 qd_M_asClass_45 (by decide) ?_
    refine lv_aload_n F.1 F.2.1 qd_M_asClass_47 rfl (lv_at hl 0 rfl) ?_
    refine mg_M_first F hK w qk_665 qd_M_asClass_48 ?_
    refine lv_aload_n F.1 F.2.1 qd_M_asClass_51 rfl (lv_at hl 0 rfl) ?_
    refine lv_aload_n F.1 F.2.1 qd_M_asClass_52 rfl (lv_at hl 0 rfl) ?_
    refine mg_M_first F hK w qk_665 qd_M_asClass_53 ?_
    refine lv_iload_n F.1 F.2.1 qd_M_asClass_56 rfl (lv_at hl 2 rfl) ?_
    obtain ⟨hi5, hM⟩ := qck_ok hM
    refine ml_M_first F hK w hi5 qd_M_asClass_57 ?_
    refine lv_iload F.1 F.2.1 qd_M_asClass_58 (lv_at hl 3 rfl) ?_
    obtain ⟨q6, hq7, hM⟩ := qbd hM
    refine m_calli F hK hN hA w (c_M_superOf l D ad cI cZ hq7) qk_828 qk_830 qs_M_superOf qk_8 qk_831 qv_M_superOf rfl rfl ⟨Nat.le_trans (by decide) hR.1, Nat.le_trans (by decide) hR.2⟩ (ci := 6) rfl (j := 0) rfl hl.1 rfl (Nat.le_of_ble_eq_true rfl) qd_M_asClass_60 (fun H locs w => ?_)
    obtain ⟨hi8, hM⟩ := qck_ok hM
    refine ml_M_first F hK w hi8 qd_M_asClass_63 ?_
    refine lv_imul F.1 F.2.1 qd_M_asClass_64 ?_
    refine lv_iload_n F.1 F.2.1 qd_M_asClass_65 rfl (lv_at hl 1 rfl) ?_
    refine lv_iadd F.1 F.2.1 qd_M_asClass_66 ?_
    obtain ⟨hi9, hM⟩ := qck_ok hM
    refine ml_M_isBelow F hK w hi9 qd_M_asClass_67 ?_
    refine lv_if_ne (tgt := 77) F.1 F.2.1 qd_M_asClass_68 (by decide) (fun hc10 => ?_) (fun hc10 => ?_)
    · rw [if_neg hc10] at hM
      refine lv_aload_n F.1 F.2.1 qd_M_asClass_77 rfl (lv_at hl 0 rfl) ?_
      refine lv_iload_n F.1 F.2.1 qd_M_asClass_78 rfl (lv_at hl 2 rfl) ?_
      refine lv_iload F.1 F.2.1 qd_M_asClass_79 (lv_at hl 3 rfl) ?_
      obtain ⟨q11, hq12, hM⟩ := qbd hM
      refine m_calli F hK hN hA w (c_M_superType l D ad cI cZ hq12) qk_928 qk_930 qs_M_superType qk_8 qk_931 qv_M_superType rfl rfl ⟨Nat.le_trans (by decide) hR.1, Nat.le_trans (by decide) hR.2⟩ (ci := 6) rfl (j := 0) rfl hl.1 rfl (Nat.le_of_ble_eq_true rfl) qd_M_asClass_81 (fun H locs w => ?_)
      refine lv_istore_n (lv' := [(3, .int q11.1), (0, .ref (ad 0)), (2, .int v2), (4, .int v4)]) F.1 F.2.1 qd_M_asClass_84 rfl hl (by decide) rfl (fun ls hl => ?_)
      refine lv_goto (tgt := 12) F.1 F.2.1 qd_M_asClass_85 (by decide) ?_
      exact hk_12 _ _ _ hM w (lv_sub hl [1, 2, 0] rfl)
    · rw [if_pos hc10] at hM
      refine lv_iinc (v := (v4 + (1 : Int32))) (lv' := [(4, .int (v4 + (1 : Int32))), (0, .ref (ad 0)), (2, .int v2), (3, .int v3)]) F.1 F.2.1 qd_M_asClass_71 hl (k := 3) rfl rfl (by decide) rfl (fun ls hl => ?_)
      refine lv_goto (tgt := 25) F.1 F.2.1 qd_M_asClass_74 (by decide) ?_
      exact hk_25 _ _ _ _ hM w (lv_sub hl [1, 2, 3, 0] rfl)
set_option maxRecDepth 100000 in
set_option maxHeartbeats 4000000 in
theorem t_M_asClass_25 {p : Program} {l : Launch} {e : Env} {R : Room} {s : State} {m : MethodId} {args : Array Value} {below : List Frame} {meth : Method} {c : Code} {Q : State → Prop} {D : va_G} {ad : Nat → Nat} {cI cZ : ClassId} {A : Nat → Prop} (F : CallFix p m c qb_M_asClass 5 s args qtb "CaptureSubtypesModel") (hR : 5 ≤ R.frames ∧ 128 ≤ R.locals) (hK : va_K D qcl [(cI, .int), (cZ, .boolean)] s) (hN : qnests mns s) (hA : ∀ q, s.heap.size ≤ q → A q) {res : (Int32 × (Nat → Nat → Int32))} (hQ : ∀ (H : Heap) (locs : List Loc) (pc : Nat) (ls : Array Slot), decode qb_M_asClass pc = .ok (.ireturn, 1) → mW D ad cI cZ A s.heap res.2 H locs → W p l e R s m args below meth c H locs 0 0 Q (F0 m pc ls [.int res.1])) {k_12 : (Nat → Nat → Int32) → Int32 → Int32 → Option (Int32 × (Nat → Nat → Int32))} (hk_12 : ∀ (S : Nat → Nat → Int32) (v2 v3 : Int32), k_12 S v2 v3 = some res → ∀ {H : Heap} {locs : List Loc} {ls : Array Slot}, mW D ad cI cZ A s.heap S H locs → lv_has ls 5 [(0, .ref (ad 0)), (2, .int v2), (3, .int v3)] → W p l e R s m args below meth c H locs 0 0 Q (F0 m 12 ls [])) : ∀ (n : Nat) (S : (Nat → Nat → Int32)) (v2 v3 v4 : Int32) (hM : f_M_asClass_25 k_12 n S v2 v3 v4 = some res) {H : Heap} {locs : List Loc} {ls : Array Slot} (w : mW D ad cI cZ A s.heap S H locs) (hl : lv_has ls 5 [(0, .ref (ad 0)), (2, .int v2), (3, .int v3), (4, .int v4)]), W p l e R s m args below meth c H locs 0 0 Q (F0 m 25 ls []) := by
  intro n
  induction n with
  | zero => intro S v2 v3 v4 hM; exact absurd hM (by simp [f_M_asClass_25])
  | succ n ih => intro S v2 v3 v4 hM H locs ls w hl; exact tb_M_asClass_25 F hR hK hN hA hQ hk_12 (k_25 := f_M_asClass_25 k_12 n) (fun S v2 v3 v4 hM H locs ls w hl => ih S v2 v3 v4 hM w hl) S v2 v3 v4 hM w hl
set_option maxRecDepth 100000 in
set_option maxHeartbeats 4000000 in
theorem tb_M_asClass_12 {p : Program} {l : Launch} {e : Env} {R : Room} {s : State} {m : MethodId} {args : Array Value} {below : List Frame} {meth : Method} {c : Code} {Q : State → Prop} {D : va_G} {ad : Nat → Nat} {cI cZ : ClassId} {A : Nat → Prop} (F : CallFix p m c qb_M_asClass 5 s args qtb "CaptureSubtypesModel") (hR : 5 ≤ R.frames ∧ 128 ≤ R.locals) (hK : va_K D qcl [(cI, .int), (cZ, .boolean)] s) (hN : qnests mns s) (hA : ∀ q, s.heap.size ≤ q → A q) {res : (Int32 × (Nat → Nat → Int32))} (hQ : ∀ (H : Heap) (locs : List Loc) (pc : Nat) (ls : Array Slot), decode qb_M_asClass pc = .ok (.ireturn, 1) → mW D ad cI cZ A s.heap res.2 H locs → W p l e R s m args below meth c H locs 0 0 Q (F0 m pc ls [.int res.1])) {k_12 : (Nat → Nat → Int32) → Int32 → Int32 → Option (Int32 × (Nat → Nat → Int32))} (hk_12 : ∀ (S : Nat → Nat → Int32) (v2 v3 : Int32), k_12 S v2 v3 = some res → ∀ {H : Heap} {locs : List Loc} {ls : Array Slot}, mW D ad cI cZ A s.heap S H locs → lv_has ls 5 [(0, .ref (ad 0)), (2, .int v2), (3, .int v3)] → W p l e R s m args below meth c H locs 0 0 Q (F0 m 12 ls [])) (S : (Nat → Nat → Int32)) (v2 v3 : Int32) (hM : fb_M_asClass_12 k_12 S v2 v3 = some res) {H : Heap} {locs : List Loc} {ls : Array Slot} (w : mW D ad cI cZ A s.heap S H locs) (hl : lv_has ls 5 [(0, .ref (ad 0)), (2, .int v2), (3, .int v3)]) : W p l e R s m args below meth c H locs 0 0 Q (F0 m 12 ls []) := by
  unfold fb_M_asClass_12 at hM
  refine lv_aload_n F.1 F.2.1 qd_M_asClass_12 rfl (lv_at hl 0 rfl) ?_
  refine mg_M_first F hK w qk_665 qd_M_asClass_13 ?_
  refine lv_iload_n F.1 F.2.1 qd_M_asClass_16 rfl (lv_at hl 2 rfl) ?_
  obtain ⟨hi1, hM⟩ := qck_ok hM
  refine ml_M_first F hK w hi1 qd_M_asClass_17 ?_
  refine lv_iload_n F.1 F.2.1 qd_M_asClass_18 rfl (lv_at hl 1 rfl) ?_
  refine lv_icmp_eq (tgt := 88) F.1 F.2.1 qd_M_asClass_19 (by decide) (fun hc2 => ?_) (fun hc2 => ?_)
  · rw [if_pos hc2] at hM
    refine lv_iload_n F.1 F.2.1 qd_M_asClass_88 rfl (lv_at hl 2 rfl) ?_
    cases hM
    exact hQ _ _ _ _ qd_M_asClass_89 w
  · rw [if_neg hc2] at hM
    refine lv_iconst (v := 0) F.1 F.2.1 qd_M_asClass_22 (by decide) ?_
    refine lv_istore (lv' := [(4, .int (0 : Int32)), (0, .ref (ad 0)), (2, .int v2), (3, .int v3)]) F.1 F.2.1 qd_M_asClass_23 hl (by decide) rfl (fun ls hl => ?_)
    exact t_M_asClass_25 F hR hK hN hA hQ hk_12 qfu _ _ _ _ hM w (lv_sub hl [1, 2, 3, 0] rfl)
set_option maxRecDepth 100000 in
set_option maxHeartbeats 4000000 in
theorem t_M_asClass_12 {p : Program} {l : Launch} {e : Env} {R : Room} {s : State} {m : MethodId} {args : Array Value} {below : List Frame} {meth : Method} {c : Code} {Q : State → Prop} {D : va_G} {ad : Nat → Nat} {cI cZ : ClassId} {A : Nat → Prop} (F : CallFix p m c qb_M_asClass 5 s args qtb "CaptureSubtypesModel") (hR : 5 ≤ R.frames ∧ 128 ≤ R.locals) (hK : va_K D qcl [(cI, .int), (cZ, .boolean)] s) (hN : qnests mns s) (hA : ∀ q, s.heap.size ≤ q → A q) {res : (Int32 × (Nat → Nat → Int32))} (hQ : ∀ (H : Heap) (locs : List Loc) (pc : Nat) (ls : Array Slot), decode qb_M_asClass pc = .ok (.ireturn, 1) → mW D ad cI cZ A s.heap res.2 H locs → W p l e R s m args below meth c H locs 0 0 Q (F0 m pc ls [.int res.1])) : ∀ (n : Nat) (S : (Nat → Nat → Int32)) (v2 v3 : Int32) (hM : f_M_asClass_12 n S v2 v3 = some res) {H : Heap} {locs : List Loc} {ls : Array Slot} (w : mW D ad cI cZ A s.heap S H locs) (hl : lv_has ls 5 [(0, .ref (ad 0)), (2, .int v2), (3, .int v3)]), W p l e R s m args below meth c H locs 0 0 Q (F0 m 12 ls []) := by
  intro n
  induction n with
  | zero => intro S v2 v3 hM; exact absurd hM (by simp [f_M_asClass_12])
  | succ n ih => intro S v2 v3 hM H locs ls w hl; exact tb_M_asClass_12 F hR hK hN hA hQ (k_12 := f_M_asClass_12 n) (fun S v2 v3 hM H locs ls w hl => ih S v2 v3 hM w hl) S v2 v3 hM w hl
set_option maxRecDepth 100000 in
set_option maxHeartbeats 4000000 in
theorem t_M_asClass {p : Program} {l : Launch} {e : Env} {R : Room} {s : State} {m : MethodId} {args : Array Value} {below : List Frame} {meth : Method} {c : Code} {Q : State → Prop} {D : va_G} {ad : Nat → Nat} {cI cZ : ClassId} {A : Nat → Prop} (F : CallFix p m c qb_M_asClass 5 s args qtb "CaptureSubtypesModel") (hR : 5 ≤ R.frames ∧ 128 ≤ R.locals) (hK : va_K D qcl [(cI, .int), (cZ, .boolean)] s) (hN : qnests mns s) (hA : ∀ q, s.heap.size ≤ q → A q) {res : (Int32 × (Nat → Nat → Int32))} (hQ : ∀ (H : Heap) (locs : List Loc) (pc : Nat) (ls : Array Slot), decode qb_M_asClass pc = .ok (.ireturn, 1) → mW D ad cI cZ A s.heap res.2 H locs → W p l e R s m args below meth c H locs 0 0 Q (F0 m pc ls [.int res.1])) (S : (Nat → Nat → Int32)) (a1 a2 : Int32) (hM : f_M_asClass S a1 a2 = some res) {H : Heap} {locs : List Loc} {ls : Array Slot} (w : mW D ad cI cZ A s.heap S H locs) (hl : lv_has ls 5 [(0, .ref (ad 0)), (1, .int a1), (2, .int a2)]) : W p l e R s m args below meth c H locs 0 0 Q (F0 m 0 ls []) := by
  unfold f_M_asClass at hM
  refine lv_iload_n F.1 F.2.1 qd_M_asClass_0 rfl (lv_at hl 2 rfl) ?_
  refine lv_if_ne (tgt := 6) F.1 F.2.1 qd_M_asClass_1 (by decide) (fun hc1 => ?_) (fun hc1 => ?_)
  · rw [if_neg hc1] at hM
    refine lv_aload_n F.1 F.2.1 qd_M_asClass_6 rfl (lv_at hl 0 rfl) ?_
    refine lv_iload_n F.1 F.2.1 qd_M_asClass_7 rfl (lv_at hl 1 rfl) ?_
    obtain ⟨q2, hq3, hM⟩ := qbd hM
    refine m_calli F hK hN hA w (c_M_catchIt l D ad cI cZ hq3) qk_908 qk_910 qs_M_catchIt qk_8 qk_911 qv_M_catchIt rfl rfl ⟨Nat.le_trans (by decide) hR.1, Nat.le_trans (by decide) hR.2⟩ (ci := 6) rfl (j := 0) rfl hl.1 rfl (Nat.le_of_ble_eq_true rfl) qd_M_asClass_8 (fun H locs w => ?_)
    refine lv_istore_n (lv' := [(3, .int q2.1), (0, .ref (ad 0)), (1, .int a1), (2, .int a2)]) F.1 F.2.1 qd_M_asClass_11 rfl hl (by decide) rfl (fun ls hl => ?_)
    exact t_M_asClass_12 F hR hK hN hA hQ  qfu _ _ _ hM w (lv_sub hl [1, 3, 0] rfl)
  · rw [if_pos hc1] at hM
    refine lv_iconst (v := 0) F.1 F.2.1 qd_M_asClass_4 (by decide) ?_
    cases hM
    exact hQ _ _ _ _ qd_M_asClass_5 w
set_option maxRecDepth 100000 in
theorem c_M_asClass (l : Launch) (D : va_G) (ad : Nat → Nat) (cI cZ : ClassId) {S : (Nat → Nat → Int32)} {a1 a2 : Int32} {res : (Int32 × (Nat → Nat → Int32))} (hM : f_M_asClass S a1 a2 = some res) : mMi l qy_M_asClass qb_M_asClass 5 (some .int) { frames := 5, cells := 0, slots := 0, locals := 128 } D ad cI cZ S [.ref (ad 0), .int a1, .int a2] res.1 res.2 := m_ofi (by decide +kernel) (Nat.le_of_ble_eq_true rfl) (fun p e s m args below meth c Q A ls F hK hN hA w hl hQ => t_M_asClass F ⟨Nat.le_refl _, Nat.le_refl _⟩ hK hN hA hQ S a1 a2 hM w hl)
-- M_stepParts
def f_M_stepParts_79 (S : (Nat → Nat → Int32)) (v1 v2 v3 : Int32) : Option (Int32 × (Nat → Nat → Int32)) := (f_M_isOfClass S v2).bind (fun q1 => if (qB q1) = 0 then (some ((0 : Int32), S)) else ((f_M_isOfClass S v3).bind (fun q4 => if (qB q4) = 0 then (some ((0 : Int32), S)) else (qck (qin v2 9000) (qck (qin v3 9000) (qck (qin (((12 : Int32) * (S 10 v2.toNatClampNeg)) + (S 10 v3.toNatClampNeg)) 144) (if (S 18 (((12 : Int32) * (S 10 v2.toNatClampNeg)) + (S 10 v3.toNatClampNeg)).toNatClampNeg) = 0 then (some ((0 : Int32), S)) else (qck (qin v3 9000) (if (S 9 v3.toNatClampNeg) = (2 : Int32) then (qck (qin v3 9000) ((f_M_asClass S v2 (S 10 v3.toNatClampNeg)).bind (fun q14 => qck (qin v1 3000) (qck (qin v1 3000) (qck (qin ((qwr q14.2 27 v1.toNatClampNeg q14.1) 27 v1.toNatClampNeg) 9000) (if ((qwr q14.2 27 v1.toNatClampNeg q14.1) 9 ((qwr q14.2 27 v1.toNatClampNeg q14.1) 27 v1.toNatClampNeg).toNatClampNeg) = (2 : Int32) then (qck (qin v1 3000) (some ((2 : Int32), (qwr (qwr q14.2 27 v1.toNatClampNeg q14.1) 25 v1.toNatClampNeg (4 : Int32))))) else (some ((0 : Int32), (qwr q14.2 27 v1.toNatClampNeg q14.1))))))))) else (some ((1 : Int32), S)))))))))))
def f_M_stepParts (S : (Nat → Nat → Int32)) (a1 a2 a3 a4 : Int32) : Option (Int32 × (Nat → Nat → Int32)) := qck (qin a1 3000) (if (S 26 a1.toNatClampNeg) ≤ 0 then (qck (qin a2 9000) (if (S 9 a2.toNatClampNeg) = (4 : Int32) then (qck (qin a3 9000) (if (S 9 a3.toNatClampNeg) = (4 : Int32) then (qck (qin a2 9000) (if (S 11 a2.toNatClampNeg) = (1 : Int32) then (some ((0 : Int32), S)) else (qck (qin a3 9000) (if (S 11 a3.toNatClampNeg) = (1 : Int32) then (some ((0 : Int32), S)) else (qck (qin a1 3000) (qck (qin a2 9000) (qck (qin a3 9000) ((f_M_ask (qwr S 26 a1.toNatClampNeg (1 : Int32)) ((qwr S 26 a1.toNatClampNeg (1 : Int32)) 11 a2.toNatClampNeg) ((qwr S 26 a1.toNatClampNeg (1 : Int32)) 11 a3.toNatClampNeg)).bind (fun q14 => some ((2 : Int32), q14)))))))))) else (f_M_stepParts_79  S a1 a2 a3))) else (f_M_stepParts_79  S a1 a2 a3))) else (some (a4, S)))
set_option maxRecDepth 100000 in
set_option maxHeartbeats 4000000 in
theorem t_M_stepParts_79 {p : Program} {l : Launch} {e : Env} {R : Room} {s : State} {m : MethodId} {args : Array Value} {below : List Frame} {meth : Method} {c : Code} {Q : State → Prop} {D : va_G} {ad : Nat → Nat} {cI cZ : ClassId} {A : Nat → Prop} (F : CallFix p m c qb_M_stepParts 5 s args qtb "CaptureSubtypesModel") (hR : 6 ≤ R.frames ∧ 152 ≤ R.locals) (hK : va_K D qcl [(cI, .int), (cZ, .boolean)] s) (hN : qnests mns s) (hA : ∀ q, s.heap.size ≤ q → A q) {res : (Int32 × (Nat → Nat → Int32))} (hQ : ∀ (H : Heap) (locs : List Loc) (pc : Nat) (ls : Array Slot), decode qb_M_stepParts pc = .ok (.ireturn, 1) → mW D ad cI cZ A s.heap res.2 H locs → W p l e R s m args below meth c H locs 0 0 Q (F0 m pc ls [.int res.1])) (S : (Nat → Nat → Int32)) (v1 v2 v3 : Int32) (hM : f_M_stepParts_79 S v1 v2 v3 = some res) {H : Heap} {locs : List Loc} {ls : Array Slot} (w : mW D ad cI cZ A s.heap S H locs) (hl : lv_has ls 5 [(0, .ref (ad 0)), (1, .int v1), (2, .int v2), (3, .int v3)]) : W p l e R s m args below meth c H locs 0 0 Q (F0 m 79 ls []) := by
  unfold f_M_stepParts_79 at hM
  refine lv_aload_n F.1 F.2.1 qd_M_stepParts_79 rfl (lv_at hl 0 rfl) ?_
  refine lv_iload_n F.1 F.2.1 qd_M_stepParts_80 rfl (lv_at hl 2 rfl) ?_
  obtain ⟨q1, hq2, hM⟩ := qbd hM
  refine m_calli F hK hN hA w (c_M_isOfClass l D ad cI cZ hq2) qk_900 qk_902 qs_M_isOfClass qk_8 qk_903 qv_M_isOfClass rfl rfl ⟨Nat.le_trans (by decide) hR.1, Nat.le_trans (by decide) hR.2⟩ (ci := 6) rfl (j := 0) rfl hl.1 rfl (Nat.le_of_ble_eq_true rfl) qd_M_stepParts_81 (fun H locs w => ?_)
  refine lv_if_eq (tgt := 119) F.1 F.2.1 qd_M_stepParts_84 (by decide) (fun hc3 => ?_) (fun hc3 => ?_)
  · rw [if_pos hc3] at hM
    refine lv_iconst (v := 0) F.1 F.2.1 qd_M_stepParts_119 (by decide) ?_
    cases hM
    exact hQ _ _ _ _ qd_M_stepParts_120 w
  · rw [if_neg hc3] at hM
    refine lv_aload_n F.1 F.2.1 qd_M_stepParts_87 rfl (lv_at hl 0 rfl) ?_
    refine lv_iload_n F.1 F.2.1 qd_M_stepParts_88 rfl (lv_at hl 3 rfl) ?_
    obtain ⟨q4, hq5, hM⟩ := qbd hM
    refine m_calli F hK hN hA w (c_M_isOfClass l D ad cI cZ hq5) qk_900 qk_902 qs_M_isOfClass qk_8 qk_903 qv_M_isOfClass rfl rfl ⟨Nat.le_trans (by decide) hR.1, Nat.le_trans (by decide) hR.2⟩ (ci := 6) rfl (j := 0) rfl hl.1 rfl (Nat.le_of_ble_eq_true rfl) qd_M_stepParts_89 (fun H locs w => ?_)
    refine lv_if_eq (tgt := 119) F.1 F.2.1 qd_M_stepParts_92 (by decide) (fun hc6 => ?_) (fun hc6 => ?_)
    · rw [if_pos hc6] at hM
      refine lv_iconst (v := 0) F.1 F.2.1 qd_M_stepParts_119 (by decide) ?_
      cases hM
      exact hQ _ _ _ _ qd_M_stepParts_120 w
    · rw [if_neg hc6] at hM
      refine lv_aload_n F.1 F.2.1 qd_M_stepParts_95 rfl (lv_at hl 0 rfl) ?_
      refine mg_M_isBelow F hK w qk_673 qd_M_stepParts_96 ?_
      refine lv_bipush (v := 12) F.1 F.2.1 qd_M_stepParts_99 (by decide) ?_
      refine lv_aload_n F.1 F.2.1 qd_M_stepParts_101 rfl (lv_at hl 0 rfl) ?_
      refine mg_M_first F hK w qk_665 qd_M_stepParts_102 ?_
      refine lv_iload_n F.1 F.2.1 qd_M_stepParts_105 rfl (lv_at hl 2 rfl) ?_
      obtain ⟨hi7, hM⟩ := qck_ok hM
      refine ml_M_first F hK w hi7 qd_M_stepParts_106 ?_
      refine lv_imul F.1 F.2.1 qd_M_stepParts_107 ?_
      refine lv_aload_n F.1 F.2.1 qd_M_stepParts_108 rfl (lv_at hl 0 rfl) ?_
      refine mg_M_first F hK w qk_665 qd_M_stepParts_109 ?_
      refine lv_iload_n F.1 F.2.1 qd_M_stepParts_112 rfl (lv_at hl 3 rfl) ?_
      obtain ⟨hi8, hM⟩ := qck_ok hM
      refine ml_M_first F hK w hi8 qd_M_stepParts_113 ?_
      refine lv_iadd F.1 F.2.1 qd_M_stepParts_114 ?_
      obtain ⟨hi9, hM⟩ := qck_ok hM
      refine ml_M_isBelow F hK w hi9 qd_M_stepParts_115 ?_
      refine lv_if_ne (tgt := 121) F.1 F.2.1 qd_M_stepParts_116 (by decide) (fun hc10 => ?_) (fun hc10 => ?_)
      · rw [if_neg hc10] at hM
        refine lv_aload_n F.1 F.2.1 qd_M_stepParts_121 rfl (lv_at hl 0 rfl) ?_
        refine mg_M_sort F hK w qk_664 qd_M_stepParts_122 ?_
        refine lv_iload_n F.1 F.2.1 qd_M_stepParts_125 rfl (lv_at hl 3 rfl) ?_
        obtain ⟨hi11, hM⟩ := qck_ok hM
        refine ml_M_sort F hK w hi11 qd_M_stepParts_126 ?_
        refine lv_iconst (v := 2) F.1 F.2.1 qd_M_stepParts_127 (by decide) ?_
        refine lv_icmp_eq (tgt := 133) F.1 F.2.1 qd_M_stepParts_128 (by decide) (fun hc12 => ?_) (fun hc12 => ?_)
        · rw [if_pos hc12] at hM
          refine lv_aload_n F.1 F.2.1 qd_M_stepParts_133 rfl (lv_at hl 0 rfl) ?_
          refine mg_M_askAs F hK w qk_682 qd_M_stepParts_134 ?_
          refine lv_iload_n F.1 F.2.1 qd_M_stepParts_137 rfl (lv_at hl 1 rfl) ?_
          refine lv_aload_n F.1 F.2.1 qd_M_stepParts_138 rfl (lv_at hl 0 rfl) ?_
          refine lv_iload_n F.1 F.2.1 qd_M_stepParts_139 rfl (lv_at hl 2 rfl) ?_
          refine lv_aload_n F.1 F.2.1 qd_M_stepParts_140 rfl (lv_at hl 0 rfl) ?_
          refine mg_M_first F hK w qk_665 qd_M_stepParts_141 ?_
          refine lv_iload_n F.1 F.2.1 qd_M_stepParts_144 rfl (lv_at hl 3 rfl) ?_
          obtain ⟨hi13, hM⟩ := qck_ok hM
          refine ml_M_first F hK w hi13 qd_M_stepParts_145 ?_
          obtain ⟨q14, hq15, hM⟩ := qbd hM
          refine m_calli F hK hN hA w (c_M_asClass l D ad cI cZ hq15) qk_904 qk_906 qs_M_asClass qk_8 qk_907 qv_M_asClass rfl rfl ⟨Nat.le_trans (by decide) hR.1, Nat.le_trans (by decide) hR.2⟩ (ci := 6) rfl (j := 0) rfl hl.1 rfl (Nat.le_of_ble_eq_true rfl) qd_M_stepParts_146 (fun H locs w => ?_)
          obtain ⟨hi16, hM⟩ := qck_ok hM
          refine ms_M_askAs F hK w hi16 qd_M_stepParts_149 (fun H locs w => ?_)
          refine lv_aload_n F.1 F.2.1 qd_M_stepParts_150 rfl (lv_at hl 0 rfl) ?_
          refine mg_M_sort F hK w qk_664 qd_M_stepParts_151 ?_
          refine lv_aload_n F.1 F.2.1 qd_M_stepParts_154 rfl (lv_at hl 0 rfl) ?_
          refine mg_M_askAs F hK w qk_682 qd_M_stepParts_155 ?_
          refine lv_iload_n F.1 F.2.1 qd_M_stepParts_158 rfl (lv_at hl 1 rfl) ?_
          obtain ⟨hi17, hM⟩ := qck_ok hM
          refine ml_M_askAs F hK w hi17 qd_M_stepParts_159 ?_
          obtain ⟨hi18, hM⟩ := qck_ok hM
          refine ml_M_sort F hK w hi18 qd_M_stepParts_160 ?_
          refine lv_iconst (v := 2) F.1 F.2.1 qd_M_stepParts_161 (by decide) ?_
          refine lv_icmp_eq (tgt := 167) F.1 F.2.1 qd_M_stepParts_162 (by decide) (fun hc19 => ?_) (fun hc19 => ?_)
          · rw [if_pos hc19] at hM
            refine lv_aload_n F.1 F.2.1 qd_M_stepParts_167 rfl (lv_at hl 0 rfl) ?_
            refine mg_M_askState F hK w qk_680 qd_M_stepParts_168 ?_
            refine lv_iload_n F.1 F.2.1 qd_M_stepParts_171 rfl (lv_at hl 1 rfl) ?_
            refine lv_iconst (v := 4) F.1 F.2.1 qd_M_stepParts_172 (by decide) ?_
            obtain ⟨hi20, hM⟩ := qck_ok hM
            refine ms_M_askState F hK w hi20 qd_M_stepParts_173 (fun H locs w => ?_)
            refine lv_iconst (v := 2) F.1 F.2.1 qd_M_stepParts_174 (by decide) ?_
            cases hM
            exact hQ _ _ _ _ qd_M_stepParts_175 w
          · rw [if_neg hc19] at hM
            refine lv_iconst (v := 0) F.1 F.2.1 qd_M_stepParts_165 (by decide) ?_
            cases hM
            exact hQ _ _ _ _ qd_M_stepParts_166 w
        · rw [if_neg hc12] at hM
          refine lv_iconst (v := 1) F.1 F.2.1 qd_M_stepParts_131 (by decide) ?_
          cases hM
          exact hQ _ _ _ _ qd_M_stepParts_132 w
      · rw [if_pos hc10] at hM
        refine lv_iconst (v := 0) F.1 F.2.1 qd_M_stepParts_119 (by decide) ?_
        cases hM
        exact hQ _ _ _ _ qd_M_stepParts_120 w
set_option maxRecDepth 100000 in
set_option maxHeartbeats 4000000 in
theorem t_M_stepParts {p : Program} {l : Launch} {e : Env} {R : Room} {s : State} {m : MethodId} {args : Array Value} {below : List Frame} {meth : Method} {c : Code} {Q : State → Prop} {D : va_G} {ad : Nat → Nat} {cI cZ : ClassId} {A : Nat → Prop} (F : CallFix p m c qb_M_stepParts 5 s args qtb "CaptureSubtypesModel") (hR : 6 ≤ R.frames ∧ 152 ≤ R.locals) (hK : va_K D qcl [(cI, .int), (cZ, .boolean)] s) (hN : qnests mns s) (hA : ∀ q, s.heap.size ≤ q → A q) {res : (Int32 × (Nat → Nat → Int32))} (hQ : ∀ (H : Heap) (locs : List Loc) (pc : Nat) (ls : Array Slot), decode qb_M_stepParts pc = .ok (.ireturn, 1) → mW D ad cI cZ A s.heap res.2 H locs → W p l e R s m args below meth c H locs 0 0 Q (F0 m pc ls [.int res.1])) (S : (Nat → Nat → Int32)) (a1 a2 a3 a4 : Int32) (hM : f_M_stepParts S a1 a2 a3 a4 = some res) {H : Heap} {locs : List Loc} {ls : Array Slot} (w : mW D ad cI cZ A s.heap S H locs) (hl : lv_has ls 5 [(0, .ref (ad 0)), (1, .int a1), (2, .int a2), (3, .int a3), (4, .int a4)]) : W p l e R s m args below meth c H locs 0 0 Q (F0 m 0 ls []) := by
  unfold f_M_stepParts at hM
  refine lv_aload_n F.1 F.2.1 qd_M_stepParts_0 rfl (lv_at hl 0 rfl) ?_
  refine mg_M_askStep F hK w qk_681 qd_M_stepParts_1 ?_
  refine lv_iload_n F.1 F.2.1 qd_M_stepParts_4 rfl (lv_at hl 1 rfl) ?_
  obtain ⟨hi1, hM⟩ := qck_ok hM
  refine ml_M_askStep F hK w hi1 qd_M_stepParts_5 ?_
  refine lv_if_le (tgt := 12) F.1 F.2.1 qd_M_stepParts_6 (by decide) (fun hc2 => ?_) (fun hc2 => ?_)
  · rw [if_pos hc2] at hM
    refine lv_aload_n F.1 F.2.1 qd_M_stepParts_12 rfl (lv_at hl 0 rfl) ?_
    refine mg_M_sort F hK w qk_664 qd_M_stepParts_13 ?_
    refine lv_iload_n F.1 F.2.1 qd_M_stepParts_16 rfl (lv_at hl 2 rfl) ?_
    obtain ⟨hi3, hM⟩ := qck_ok hM
    refine ml_M_sort F hK w hi3 qd_M_stepParts_17 ?_
    refine lv_iconst (v := 4) F.1 F.2.1 qd_M_stepParts_18 (by decide) ?_
    refine lv_icmp_ne (tgt := 79) F.1 F.2.1 qd_M_stepParts_19 (by decide) (fun hc4 => ?_) (fun hc4 => ?_)
    · rw [if_neg hc4] at hM
      exact t_M_stepParts_79 F hR hK hN hA hQ  _ _ _ _ hM w (lv_sub hl [0, 1, 2, 3] rfl)
    · rw [if_pos hc4] at hM
      refine lv_aload_n F.1 F.2.1 qd_M_stepParts_22 rfl (lv_at hl 0 rfl) ?_
      refine mg_M_sort F hK w qk_664 qd_M_stepParts_23 ?_
      refine lv_iload_n F.1 F.2.1 qd_M_stepParts_26 rfl (lv_at hl 3 rfl) ?_
      obtain ⟨hi5, hM⟩ := qck_ok hM
      refine ml_M_sort F hK w hi5 qd_M_stepParts_27 ?_
      refine lv_iconst (v := 4) F.1 F.2.1 qd_M_stepParts_28 (by decide) ?_
      refine lv_icmp_ne (tgt := 79) F.1 F.2.1 qd_M_stepParts_29 (by decide) (fun hc6 => ?_) (fun hc6 => ?_)
      · rw [if_neg hc6] at hM
        exact t_M_stepParts_79 F hR hK hN hA hQ  _ _ _ _ hM w (lv_sub hl [0, 1, 2, 3] rfl)
      · rw [if_pos hc6] at hM
        refine lv_aload_n F.1 F.2.1 qd_M_stepParts_32 rfl (lv_at hl 0 rfl) ?_
        refine mg_M_second F hK w qk_666 qd_M_stepParts_33 ?_
        refine lv_iload_n F.1 F.2.1 qd_M_stepParts_36 rfl (lv_at hl 2 rfl) ?_
        obtain ⟨hi7, hM⟩ := qck_ok hM
        refine ml_M_second F hK w hi7 qd_M_stepParts_37 ?_
        refine lv_iconst (v := 1) F.1 F.2.1 qd_M_stepParts_38 (by decide) ?_
        refine lv_icmp_eq (tgt := 52) F.1 F.2.1 qd_M_stepParts_39 (by decide) (fun hc8 => ?_) (fun hc8 => ?_)
        · rw [if_pos hc8] at hM
          refine lv_iconst (v := 0) F.1 F.2.1 qd_M_stepParts_52 (by decide) ?_
          cases hM
          exact hQ _ _ _ _ qd_M_stepParts_53 w
        · rw [if_neg hc8] at hM
          refine lv_aload_n F.1 F.2.1 qd_M_stepParts_42 rfl (lv_at hl 0 rfl) ?_
          refine mg_M_second F hK w qk_666 qd_M_stepParts_43 ?_
          refine lv_iload_n F.1 F.2.1 qd_M_stepParts_46 rfl (lv_at hl 3 rfl) ?_
          obtain ⟨hi9, hM⟩ := qck_ok hM
          refine ml_M_second F hK w hi9 qd_M_stepParts_47 ?_
          refine lv_iconst (v := 1) F.1 F.2.1 qd_M_stepParts_48 (by decide) ?_
          refine lv_icmp_ne (tgt := 54) F.1 F.2.1 qd_M_stepParts_49 (by decide) (fun hc10 => ?_) (fun hc10 => ?_)
          · rw [if_neg hc10] at hM
            refine lv_aload_n F.1 F.2.1 qd_M_stepParts_54 rfl (lv_at hl 0 rfl) ?_
            refine mg_M_askStep F hK w qk_681 qd_M_stepParts_55 ?_
            refine lv_iload_n F.1 F.2.1 qd_M_stepParts_58 rfl (lv_at hl 1 rfl) ?_
            refine lv_iconst (v := 1) F.1 F.2.1 qd_M_stepParts_59 (by decide) ?_
            obtain ⟨hi11, hM⟩ := qck_ok hM
            refine ms_M_askStep F hK w hi11 qd_M_stepParts_60 (fun H locs w => ?_)
            refine lv_aload_n F.1 F.2.1 qd_M_stepParts_61 rfl (lv_at hl 0 rfl) ?_
            refine lv_aload_n F.1 F.2.1 qd_M_stepParts_62 rfl (lv_at hl 0 rfl) ?_
            refine mg_M_second F hK w qk_666 qd_M_stepParts_63 ?_
            refine lv_iload_n F.1 F.2.1 qd_M_stepParts_66 rfl (lv_at hl 2 rfl) ?_
            obtain ⟨hi12, hM⟩ := qck_ok hM
            refine ml_M_second F hK w hi12 qd_M_stepParts_67 ?_
            refine lv_aload_n F.1 F.2.1 qd_M_stepParts_68 rfl (lv_at hl 0 rfl) ?_
            refine mg_M_second F hK w qk_666 qd_M_stepParts_69 ?_
            refine lv_iload_n F.1 F.2.1 qd_M_stepParts_72 rfl (lv_at hl 3 rfl) ?_
            obtain ⟨hi13, hM⟩ := qck_ok hM
            refine ml_M_second F hK w hi13 qd_M_stepParts_73 ?_
            obtain ⟨q14, hq15, hM⟩ := qbd hM
            refine m_callv F hK hN hA w (c_M_ask l D ad cI cZ hq15) qk_868 qk_870 qs_M_ask qk_8 qk_871 qv_M_ask rfl rfl ⟨Nat.le_trans (by decide) hR.1, Nat.le_trans (by decide) hR.2⟩ (ci := 6) rfl (j := 0) rfl hl.1 rfl (Nat.le_of_ble_eq_true rfl) qd_M_stepParts_74 (fun H locs w => ?_)
            refine lv_iconst (v := 2) F.1 F.2.1 qd_M_stepParts_77 (by decide) ?_
            cases hM
            exact hQ _ _ _ _ qd_M_stepParts_78 w
          · rw [if_pos hc10] at hM
            refine lv_iconst (v := 0) F.1 F.2.1 qd_M_stepParts_52 (by decide) ?_
            cases hM
            exact hQ _ _ _ _ qd_M_stepParts_53 w
  · rw [if_neg hc2] at hM
    refine lv_iload F.1 F.2.1 qd_M_stepParts_9 (lv_at hl 4 rfl) ?_
    cases hM
    exact hQ _ _ _ _ qd_M_stepParts_11 w
set_option maxRecDepth 100000 in
theorem c_M_stepParts (l : Launch) (D : va_G) (ad : Nat → Nat) (cI cZ : ClassId) {S : (Nat → Nat → Int32)} {a1 a2 a3 a4 : Int32} {res : (Int32 × (Nat → Nat → Int32))} (hM : f_M_stepParts S a1 a2 a3 a4 = some res) : mMi l qy_M_stepParts qb_M_stepParts 5 (some .int) { frames := 6, cells := 0, slots := 0, locals := 152 } D ad cI cZ S [.ref (ad 0), .int a1, .int a2, .int a3, .int a4] res.1 res.2 := m_ofi (by decide +kernel) (Nat.le_of_ble_eq_true rfl) (fun p e s m args below meth c Q A ls F hK hN hA w hl hQ => t_M_stepParts F ⟨Nat.le_refl _, Nat.le_refl _⟩ hK hN hA hQ S a1 a2 a3 a4 hM w hl)
-- M_stepArguments
def f_M_stepArguments_150 (S : (Nat → Nat → Int32)) (v1 v5 v6 : Int32) : Option (Int32 × (Nat → Nat → Int32)) := qck (qin v6 9000) (if (S 9 v6.toNatClampNeg) = (5 : Int32) then (qck (qin v1 3000) (qck (qin v1 3000) (qck (qin v6 9000) (if ((qwr S 26 v1.toNatClampNeg ((S 26 v1.toNatClampNeg) + (1 : Int32))) 10 v6.toNatClampNeg) = (1 : Int32) then (qck (qin v6 9000) ((f_M_ask (qwr S 26 v1.toNatClampNeg ((S 26 v1.toNatClampNeg) + (1 : Int32))) v5 ((qwr S 26 v1.toNatClampNeg ((S 26 v1.toNatClampNeg) + (1 : Int32))) 11 v6.toNatClampNeg)).bind (fun q11 => some ((2 : Int32), q11)))) else (qck (qin v6 9000) ((f_M_ask (qwr S 26 v1.toNatClampNeg ((S 26 v1.toNatClampNeg) + (1 : Int32))) ((qwr S 26 v1.toNatClampNeg ((S 26 v1.toNatClampNeg) + (1 : Int32))) 11 v6.toNatClampNeg) v5).bind (fun q8 => some ((2 : Int32), q8)))))))) else (some ((0 : Int32), S)))
def f_M_stepArguments_138 (S : (Nat → Nat → Int32)) (v1 : Int32) : Option (Int32 × (Nat → Nat → Int32)) := qck (qin v1 3000) (qck (qin v1 3000) (some ((2 : Int32), (qwr S 26 v1.toNatClampNeg ((S 26 v1.toNatClampNeg) + (2 : Int32))))))
def f_M_stepArguments_108 (S : (Nat → Nat → Int32)) (v1 v5 s1 : Int32) : Option (Int32 × (Nat → Nat → Int32)) := if v5 = s1 then (f_M_stepArguments_138  S v1) else (qck (qin s1 9000) (if (S 9 s1.toNatClampNeg) = (5 : Int32) then (qck (qin s1 9000) (if (S 10 s1.toNatClampNeg) = 0 then (f_M_stepArguments_138  S v1) else (f_M_stepArguments_150  S v1 v5 s1))) else (f_M_stepArguments_150  S v1 v5 s1)))
def f_M_stepArguments_86 (S : (Nat → Nat → Int32)) (v1 v2 v4 s1 : Int32) : Option (Int32 × (Nat → Nat → Int32)) := if v4 = 0 then (qck (qin v2 9000) (f_M_stepArguments_108  S v1 s1 (S 11 v2.toNatClampNeg))) else (qck (qin v2 9000) (f_M_stepArguments_108  S v1 s1 (S 12 v2.toNatClampNeg)))
def f_M_stepArguments_28 (S : (Nat → Nat → Int32)) (v1 v2 : Int32) : Option (Int32 × (Nat → Nat → Int32)) := qck (qin v1 3000) (qck (qin v2 9000) (qck (qin (S 10 v2.toNatClampNeg) 12) (if ((S 26 v1.toNatClampNeg) / (2 : Int32)) = (S 2 (S 10 v2.toNatClampNeg).toNatClampNeg) then (some ((1 : Int32), S)) else (if ((S 26 v1.toNatClampNeg) / (2 : Int32)) = 0 then (qck (qin v1 3000) (qck (qin (S 27 v1.toNatClampNeg) 9000) (f_M_stepArguments_86  S v1 v2 ((S 26 v1.toNatClampNeg) / (2 : Int32)) (S 11 (S 27 v1.toNatClampNeg).toNatClampNeg)))) else (qck (qin v1 3000) (qck (qin (S 27 v1.toNatClampNeg) 9000) (f_M_stepArguments_86  S v1 v2 ((S 26 v1.toNatClampNeg) / (2 : Int32)) (S 12 (S 27 v1.toNatClampNeg).toNatClampNeg))))))))
def f_M_stepArguments (S : (Nat → Nat → Int32)) (a1 a2 a3 : Int32) : Option (Int32 × (Nat → Nat → Int32)) := qck (qin a1 3000) (if ((S 26 a1.toNatClampNeg) - (S 26 a1.toNatClampNeg) / (2 : Int32) * (2 : Int32)) = (1 : Int32) then (if a3 = 0 then (some ((0 : Int32), S)) else (qck (qin a1 3000) (qck (qin a1 3000) (f_M_stepArguments_28  (qwr S 26 a1.toNatClampNeg ((S 26 a1.toNatClampNeg) + (1 : Int32))) a1 a2)))) else (f_M_stepArguments_28  S a1 a2))
set_option maxRecDepth 100000 in
set_option maxHeartbeats 4000000 in
theorem t_M_stepArguments_150 {p : Program} {l : Launch} {e : Env} {R : Room} {s : State} {m : MethodId} {args : Array Value} {below : List Frame} {meth : Method} {c : Code} {Q : State → Prop} {D : va_G} {ad : Nat → Nat} {cI cZ : ClassId} {A : Nat → Prop} (F : CallFix p m c qb_M_stepArguments 7 s args qtb "CaptureSubtypesModel") (hR : 1 ≤ R.frames ∧ 22 ≤ R.locals) (hK : va_K D qcl [(cI, .int), (cZ, .boolean)] s) (hN : qnests mns s) (hA : ∀ q, s.heap.size ≤ q → A q) {res : (Int32 × (Nat → Nat → Int32))} (hQ : ∀ (H : Heap) (locs : List Loc) (pc : Nat) (ls : Array Slot), decode qb_M_stepArguments pc = .ok (.ireturn, 1) → mW D ad cI cZ A s.heap res.2 H locs → W p l e R s m args below meth c H locs 0 0 Q (F0 m pc ls [.int res.1])) (S : (Nat → Nat → Int32)) (v1 v5 v6 : Int32) (hM : f_M_stepArguments_150 S v1 v5 v6 = some res) {H : Heap} {locs : List Loc} {ls : Array Slot} (w : mW D ad cI cZ A s.heap S H locs) (hl : lv_has ls 7 [(0, .ref (ad 0)), (1, .int v1), (5, .int v5), (6, .int v6)]) : W p l e R s m args below meth c H locs 0 0 Q (F0 m 150 ls []) := by
  unfold f_M_stepArguments_150 at hM
  refine lv_aload_n F.1 F.2.1 qd_M_stepArguments_150 rfl (lv_at hl 0 rfl) ?_
  refine mg_M_sort F hK w qk_664 qd_M_stepArguments_151 ?_
  refine lv_iload F.1 F.2.1 qd_M_stepArguments_154 (lv_at hl 3 rfl) ?_
  obtain ⟨hi1, hM⟩ := qck_ok hM
  refine ml_M_sort F hK w hi1 qd_M_stepArguments_156 ?_
  refine lv_iconst (v := 5) F.1 F.2.1 qd_M_stepArguments_157 (by decide) ?_
  refine lv_icmp_eq (tgt := 163) F.1 F.2.1 qd_M_stepArguments_158 (by decide) (fun hc2 => ?_) (fun hc2 => ?_)
  · rw [if_pos hc2] at hM
    refine lv_aload_n F.1 F.2.1 qd_M_stepArguments_163 rfl (lv_at hl 0 rfl) ?_
    refine mg_M_askStep F hK w qk_681 qd_M_stepArguments_164 ?_
    refine lv_iload_n F.1 F.2.1 qd_M_stepArguments_167 rfl (lv_at hl 1 rfl) ?_
    refine lv_dup2_11 F.1 F.2.1 qd_M_stepArguments_168 rfl rfl ?_
    obtain ⟨hi3, hM⟩ := qck_ok hM
    refine ml_M_askStep F hK w hi3 qd_M_stepArguments_169 ?_
    refine lv_iconst (v := 1) F.1 F.2.1 qd_M_stepArguments_170 (by decide) ?_
    refine lv_iadd F.1 F.2.1 qd_M_stepArguments_171 ?_
    obtain ⟨hi4, hM⟩ := qck_ok hM
    refine ms_M_askStep F hK w hi4 qd_M_stepArguments_172 (fun H locs w => ?_)
    refine lv_aload_n F.1 F.2.1 qd_M_stepArguments_173 rfl (lv_at hl 0 rfl) ?_
    refine mg_M_first F hK w qk_665 qd_M_stepArguments_174 ?_
    refine lv_iload F.1 F.2.1 qd_M_stepArguments_177 (lv_at hl 3 rfl) ?_
    obtain ⟨hi5, hM⟩ := qck_ok hM
    refine ml_M_first F hK w hi5 qd_M_stepArguments_179 ?_
    refine lv_iconst (v := 1) F.1 F.2.1 qd_M_stepArguments_180 (by decide) ?_
    refine lv_icmp_ne (tgt := 200) F.1 F.2.1 qd_M_stepArguments_181 (by decide) (fun hc6 => ?_) (fun hc6 => ?_)
    · rw [if_neg hc6] at hM
      refine lv_aload_n F.1 F.2.1 qd_M_stepArguments_200 rfl (lv_at hl 0 rfl) ?_
      refine lv_aload_n F.1 F.2.1 qd_M_stepArguments_201 rfl (lv_at hl 0 rfl) ?_
      refine mg_M_second F hK w qk_666 qd_M_stepArguments_202 ?_
      refine lv_iload F.1 F.2.1 qd_M_stepArguments_205 (lv_at hl 3 rfl) ?_
      obtain ⟨hi7, hM⟩ := qck_ok hM
      refine ml_M_second F hK w hi7 qd_M_stepArguments_207 ?_
      refine lv_iload F.1 F.2.1 qd_M_stepArguments_208 (lv_at hl 2 rfl) ?_
      obtain ⟨q8, hq9, hM⟩ := qbd hM
      refine m_callv F hK hN hA w (c_M_ask l D ad cI cZ hq9) qk_868 qk_870 qs_M_ask qk_8 qk_871 qv_M_ask rfl rfl ⟨Nat.le_trans (by decide) hR.1, Nat.le_trans (by decide) hR.2⟩ (ci := 6) rfl (j := 0) rfl hl.1 rfl (Nat.le_of_ble_eq_true rfl) qd_M_stepArguments_210 (fun H locs w => ?_)
      refine lv_iconst (v := 2) F.1 F.2.1 qd_M_stepArguments_213 (by decide) ?_
      cases hM
      exact hQ _ _ _ _ qd_M_stepArguments_214 w
    · rw [if_pos hc6] at hM
      refine lv_aload_n F.1 F.2.1 qd_M_stepArguments_184 rfl (lv_at hl 0 rfl) ?_
      refine lv_iload F.1 F.2.1 qd_M_stepArguments_185 (lv_at hl 2 rfl) ?_
      refine lv_aload_n F.1 F.2.1 qd_M_stepArguments_187 rfl (lv_at hl 0 rfl) ?_
      refine mg_M_second F hK w qk_666 qd_M_stepArguments_188 ?_
      refine lv_iload F.1 F.2.1 qd_M_stepArguments_191 (lv_at hl 3 rfl) ?_
      obtain ⟨hi10, hM⟩ := qck_ok hM
      refine ml_M_second F hK w hi10 qd_M_stepArguments_193 ?_
      obtain ⟨q11, hq12, hM⟩ := qbd hM
      refine m_callv F hK hN hA w (c_M_ask l D ad cI cZ hq12) qk_868 qk_870 qs_M_ask qk_8 qk_871 qv_M_ask rfl rfl ⟨Nat.le_trans (by decide) hR.1, Nat.le_trans (by decide) hR.2⟩ (ci := 6) rfl (j := 0) rfl hl.1 rfl (Nat.le_of_ble_eq_true rfl) qd_M_stepArguments_194 (fun H locs w => ?_)
      refine lv_goto (tgt := 213) F.1 F.2.1 qd_M_stepArguments_197 (by decide) ?_
      refine lv_iconst (v := 2) F.1 F.2.1 qd_M_stepArguments_213 (by decide) ?_
      cases hM
      exact hQ _ _ _ _ qd_M_stepArguments_214 w
  · rw [if_neg hc2] at hM
    refine lv_iconst (v := 0) F.1 F.2.1 qd_M_stepArguments_161 (by decide) ?_
    cases hM
    exact hQ _ _ _ _ qd_M_stepArguments_162 w
set_option maxRecDepth 100000 in
set_option maxHeartbeats 4000000 in
theorem t_M_stepArguments_138 {p : Program} {l : Launch} {e : Env} {R : Room} {s : State} {m : MethodId} {args : Array Value} {below : List Frame} {meth : Method} {c : Code} {Q : State → Prop} {D : va_G} {ad : Nat → Nat} {cI cZ : ClassId} {A : Nat → Prop} (F : CallFix p m c qb_M_stepArguments 7 s args qtb "CaptureSubtypesModel") (hR : 1 ≤ R.frames ∧ 22 ≤ R.locals) (hK : va_K D qcl [(cI, .int), (cZ, .boolean)] s) (hN : qnests mns s) (hA : ∀ q, s.heap.size ≤ q → A q) {res : (Int32 × (Nat → Nat → Int32))} (hQ : ∀ (H : Heap) (locs : List Loc) (pc : Nat) (ls : Array Slot), decode qb_M_stepArguments pc = .ok (.ireturn, 1) → mW D ad cI cZ A s.heap res.2 H locs → W p l e R s m args below meth c H locs 0 0 Q (F0 m pc ls [.int res.1])) (S : (Nat → Nat → Int32)) (v1 : Int32) (hM : f_M_stepArguments_138 S v1 = some res) {H : Heap} {locs : List Loc} {ls : Array Slot} (w : mW D ad cI cZ A s.heap S H locs) (hl : lv_has ls 7 [(0, .ref (ad 0)), (1, .int v1)]) : W p l e R s m args below meth c H locs 0 0 Q (F0 m 138 ls []) := by
  unfold f_M_stepArguments_138 at hM
  refine lv_aload_n F.1 F.2.1 qd_M_stepArguments_138 rfl (lv_at hl 0 rfl) ?_
  refine mg_M_askStep F hK w qk_681 qd_M_stepArguments_139 ?_
  refine lv_iload_n F.1 F.2.1 qd_M_stepArguments_142 rfl (lv_at hl 1 rfl) ?_
  refine lv_dup2_11 F.1 F.2.1 qd_M_stepArguments_143 rfl rfl ?_
  obtain ⟨hi1, hM⟩ := qck_ok hM
  refine ml_M_askStep F hK w hi1 qd_M_stepArguments_144 ?_
  refine lv_iconst (v := 2) F.1 F.2.1 qd_M_stepArguments_145 (by decide) ?_
  refine lv_iadd F.1 F.2.1 qd_M_stepArguments_146 ?_
  obtain ⟨hi2, hM⟩ := qck_ok hM
  refine ms_M_askStep F hK w hi2 qd_M_stepArguments_147 (fun H locs w => ?_)
  refine lv_iconst (v := 2) F.1 F.2.1 qd_M_stepArguments_148 (by decide) ?_
  cases hM
  exact hQ _ _ _ _ qd_M_stepArguments_149 w
set_option maxRecDepth 100000 in
set_option maxHeartbeats 4000000 in
theorem t_M_stepArguments_108 {p : Program} {l : Launch} {e : Env} {R : Room} {s : State} {m : MethodId} {args : Array Value} {below : List Frame} {meth : Method} {c : Code} {Q : State → Prop} {D : va_G} {ad : Nat → Nat} {cI cZ : ClassId} {A : Nat → Prop} (F : CallFix p m c qb_M_stepArguments 7 s args qtb "CaptureSubtypesModel") (hR : 1 ≤ R.frames ∧ 22 ≤ R.locals) (hK : va_K D qcl [(cI, .int), (cZ, .boolean)] s) (hN : qnests mns s) (hA : ∀ q, s.heap.size ≤ q → A q) {res : (Int32 × (Nat → Nat → Int32))} (hQ : ∀ (H : Heap) (locs : List Loc) (pc : Nat) (ls : Array Slot), decode qb_M_stepArguments pc = .ok (.ireturn, 1) → mW D ad cI cZ A s.heap res.2 H locs → W p l e R s m args below meth c H locs 0 0 Q (F0 m pc ls [.int res.1])) (S : (Nat → Nat → Int32)) (v1 v5 s1 : Int32) (hM : f_M_stepArguments_108 S v1 v5 s1 = some res) {H : Heap} {locs : List Loc} {ls : Array Slot} (w : mW D ad cI cZ A s.heap S H locs) (hl : lv_has ls 7 [(0, .ref (ad 0)), (1, .int v1), (5, .int v5)]) : W p l e R s m args below meth c H locs 0 0 Q (F0 m 108 ls [.int s1]) := by
  unfold f_M_stepArguments_108 at hM
  refine lv_istore (lv' := [(6, .int s1), (0, .ref (ad 0)), (1, .int v1), (5, .int v5)]) F.1 F.2.1 qd_M_stepArguments_108 hl (by decide) rfl (fun ls hl => ?_)
  refine lv_iload F.1 F.2.1 qd_M_stepArguments_110 (lv_at hl 3 rfl) ?_
  refine lv_iload F.1 F.2.1 qd_M_stepArguments_112 (lv_at hl 0 rfl) ?_
  refine lv_icmp_eq (tgt := 138) F.1 F.2.1 qd_M_stepArguments_114 (by decide) (fun hc1 => ?_) (fun hc1 => ?_)
  · rw [if_pos hc1] at hM
    exact t_M_stepArguments_138 F hR hK hN hA hQ  _ _ hM w (lv_sub hl [1, 2] rfl)
  · rw [if_neg hc1] at hM
    refine lv_aload_n F.1 F.2.1 qd_M_stepArguments_117 rfl (lv_at hl 1 rfl) ?_
    refine mg_M_sort F hK w qk_664 qd_M_stepArguments_118 ?_
    refine lv_iload F.1 F.2.1 qd_M_stepArguments_121 (lv_at hl 0 rfl) ?_
    obtain ⟨hi2, hM⟩ := qck_ok hM
    refine ml_M_sort F hK w hi2 qd_M_stepArguments_123 ?_
    refine lv_iconst (v := 5) F.1 F.2.1 qd_M_stepArguments_124 (by decide) ?_
    refine lv_icmp_ne (tgt := 150) F.1 F.2.1 qd_M_stepArguments_125 (by decide) (fun hc3 => ?_) (fun hc3 => ?_)
    · rw [if_neg hc3] at hM
      exact t_M_stepArguments_150 F hR hK hN hA hQ  _ _ _ _ hM w (lv_sub hl [1, 2, 3, 0] rfl)
    · rw [if_pos hc3] at hM
      refine lv_aload_n F.1 F.2.1 qd_M_stepArguments_128 rfl (lv_at hl 1 rfl) ?_
      refine mg_M_first F hK w qk_665 qd_M_stepArguments_129 ?_
      refine lv_iload F.1 F.2.1 qd_M_stepArguments_132 (lv_at hl 0 rfl) ?_
      obtain ⟨hi4, hM⟩ := qck_ok hM
      refine ml_M_first F hK w hi4 qd_M_stepArguments_134 ?_
      refine lv_if_ne (tgt := 150) F.1 F.2.1 qd_M_stepArguments_135 (by decide) (fun hc5 => ?_) (fun hc5 => ?_)
      · rw [if_neg hc5] at hM
        exact t_M_stepArguments_150 F hR hK hN hA hQ  _ _ _ _ hM w (lv_sub hl [1, 2, 3, 0] rfl)
      · rw [if_pos hc5] at hM
        exact t_M_stepArguments_138 F hR hK hN hA hQ  _ _ hM w (lv_sub hl [1, 2] rfl)
set_option maxRecDepth 100000 in
set_option maxHeartbeats 4000000 in
theorem t_M_stepArguments_86 {p : Program} {l : Launch} {e : Env} {R : Room} {s : State} {m : MethodId} {args : Array Value} {below : List Frame} {meth : Method} {c : Code} {Q : State → Prop} {D : va_G} {ad : Nat → Nat} {cI cZ : ClassId} {A : Nat → Prop} (F : CallFix p m c qb_M_stepArguments 7 s args qtb "CaptureSubtypesModel") (hR : 1 ≤ R.frames ∧ 22 ≤ R.locals) (hK : va_K D qcl [(cI, .int), (cZ, .boolean)] s) (hN : qnests mns s) (hA : ∀ q, s.heap.size ≤ q → A q) {res : (Int32 × (Nat → Nat → Int32))} (hQ : ∀ (H : Heap) (locs : List Loc) (pc : Nat) (ls : Array Slot), decode qb_M_stepArguments pc = .ok (.ireturn, 1) → mW D ad cI cZ A s.heap res.2 H locs → W p l e R s m args below meth c H locs 0 0 Q (F0 m pc ls [.int res.1])) (S : (Nat → Nat → Int32)) (v1 v2 v4 s1 : Int32) (hM : f_M_stepArguments_86 S v1 v2 v4 s1 = some res) {H : Heap} {locs : List Loc} {ls : Array Slot} (w : mW D ad cI cZ A s.heap S H locs) (hl : lv_has ls 7 [(0, .ref (ad 0)), (1, .int v1), (2, .int v2), (4, .int v4)]) : W p l e R s m args below meth c H locs 0 0 Q (F0 m 86 ls [.int s1]) := by
  unfold f_M_stepArguments_86 at hM
  refine lv_istore (lv' := [(5, .int s1), (0, .ref (ad 0)), (1, .int v1), (2, .int v2), (4, .int v4)]) F.1 F.2.1 qd_M_stepArguments_86 hl (by decide) rfl (fun ls hl => ?_)
  refine lv_iload F.1 F.2.1 qd_M_stepArguments_88 (lv_at hl 4 rfl) ?_
  refine lv_if_ne (tgt := 102) F.1 F.2.1 qd_M_stepArguments_90 (by decide) (fun hc1 => ?_) (fun hc1 => ?_)
  · rw [if_neg hc1] at hM
    refine lv_aload_n F.1 F.2.1 qd_M_stepArguments_102 rfl (lv_at hl 1 rfl) ?_
    refine mg_M_third F hK w qk_667 qd_M_stepArguments_103 ?_
    refine lv_iload_n F.1 F.2.1 qd_M_stepArguments_106 rfl (lv_at hl 3 rfl) ?_
    obtain ⟨hi2, hM⟩ := qck_ok hM
    refine ml_M_third F hK w hi2 qd_M_stepArguments_107 ?_
    exact t_M_stepArguments_108 F hR hK hN hA hQ  _ _ _ _ hM w (lv_sub hl [1, 2, 0] rfl)
  · rw [if_pos hc1] at hM
    refine lv_aload_n F.1 F.2.1 qd_M_stepArguments_93 rfl (lv_at hl 1 rfl) ?_
    refine mg_M_second F hK w qk_666 qd_M_stepArguments_94 ?_
    refine lv_iload_n F.1 F.2.1 qd_M_stepArguments_97 rfl (lv_at hl 3 rfl) ?_
    obtain ⟨hi3, hM⟩ := qck_ok hM
    refine ml_M_second F hK w hi3 qd_M_stepArguments_98 ?_
    refine lv_goto (tgt := 108) F.1 F.2.1 qd_M_stepArguments_99 (by decide) ?_
    exact t_M_stepArguments_108 F hR hK hN hA hQ  _ _ _ _ hM w (lv_sub hl [1, 2, 0] rfl)
set_option maxRecDepth 100000 in
set_option maxHeartbeats 4000000 in
theorem t_M_stepArguments_28 {p : Program} {l : Launch} {e : Env} {R : Room} {s : State} {m : MethodId} {args : Array Value} {below : List Frame} {meth : Method} {c : Code} {Q : State → Prop} {D : va_G} {ad : Nat → Nat} {cI cZ : ClassId} {A : Nat → Prop} (F : CallFix p m c qb_M_stepArguments 7 s args qtb "CaptureSubtypesModel") (hR : 1 ≤ R.frames ∧ 22 ≤ R.locals) (hK : va_K D qcl [(cI, .int), (cZ, .boolean)] s) (hN : qnests mns s) (hA : ∀ q, s.heap.size ≤ q → A q) {res : (Int32 × (Nat → Nat → Int32))} (hQ : ∀ (H : Heap) (locs : List Loc) (pc : Nat) (ls : Array Slot), decode qb_M_stepArguments pc = .ok (.ireturn, 1) → mW D ad cI cZ A s.heap res.2 H locs → W p l e R s m args below meth c H locs 0 0 Q (F0 m pc ls [.int res.1])) (S : (Nat → Nat → Int32)) (v1 v2 : Int32) (hM : f_M_stepArguments_28 S v1 v2 = some res) {H : Heap} {locs : List Loc} {ls : Array Slot} (w : mW D ad cI cZ A s.heap S H locs) (hl : lv_has ls 7 [(0, .ref (ad 0)), (1, .int v1), (2, .int v2)]) : W p l e R s m args below meth c H locs 0 0 Q (F0 m 28 ls []) := by
  unfold f_M_stepArguments_28 at hM
  refine lv_aload_n F.1 F.2.1 qd_M_stepArguments_28 rfl (lv_at hl 0 rfl) ?_
  refine mg_M_askStep F hK w qk_681 qd_M_stepArguments_29 ?_
  refine lv_iload_n F.1 F.2.1 qd_M_stepArguments_32 rfl (lv_at hl 1 rfl) ?_
  obtain ⟨hi1, hM⟩ := qck_ok hM
  refine ml_M_askStep F hK w hi1 qd_M_stepArguments_33 ?_
  refine lv_iconst (v := 2) F.1 F.2.1 qd_M_stepArguments_34 (by decide) ?_
  refine lv_idiv F.1 F.2.1 qd_M_stepArguments_35 (by decide) ?_
  refine lv_istore (lv' := [(4, .int ((S 26 v1.toNatClampNeg) / (2 : Int32))), (0, .ref (ad 0)), (1, .int v1), (2, .int v2)]) F.1 F.2.1 qd_M_stepArguments_36 hl (by decide) rfl (fun ls hl => ?_)
  refine lv_iload F.1 F.2.1 qd_M_stepArguments_38 (lv_at hl 0 rfl) ?_
  refine lv_aload_n F.1 F.2.1 qd_M_stepArguments_40 rfl (lv_at hl 1 rfl) ?_
  refine mg_M_parameters F hK w qk_657 qd_M_stepArguments_41 ?_
  refine lv_aload_n F.1 F.2.1 qd_M_stepArguments_44 rfl (lv_at hl 1 rfl) ?_
  refine mg_M_first F hK w qk_665 qd_M_stepArguments_45 ?_
  refine lv_iload_n F.1 F.2.1 qd_M_stepArguments_48 rfl (lv_at hl 3 rfl) ?_
  obtain ⟨hi2, hM⟩ := qck_ok hM
  refine ml_M_first F hK w hi2 qd_M_stepArguments_49 ?_
  obtain ⟨hi3, hM⟩ := qck_ok hM
  refine ml_M_parameters F hK w hi3 qd_M_stepArguments_50 ?_
  refine lv_icmp_ne (tgt := 56) F.1 F.2.1 qd_M_stepArguments_51 (by decide) (fun hc4 => ?_) (fun hc4 => ?_)
  · rw [if_neg hc4] at hM
    refine lv_iload F.1 F.2.1 qd_M_stepArguments_56 (lv_at hl 0 rfl) ?_
    refine lv_if_ne (tgt := 75) F.1 F.2.1 qd_M_stepArguments_58 (by decide) (fun hc5 => ?_) (fun hc5 => ?_)
    · rw [if_neg hc5] at hM
      refine lv_aload_n F.1 F.2.1 qd_M_stepArguments_75 rfl (lv_at hl 1 rfl) ?_
      refine mg_M_third F hK w qk_667 qd_M_stepArguments_76 ?_
      refine lv_aload_n F.1 F.2.1 qd_M_stepArguments_79 rfl (lv_at hl 1 rfl) ?_
      refine mg_M_askAs F hK w qk_682 qd_M_stepArguments_80 ?_
      refine lv_iload_n F.1 F.2.1 qd_M_stepArguments_83 rfl (lv_at hl 2 rfl) ?_
      obtain ⟨hi6, hM⟩ := qck_ok hM
      refine ml_M_askAs F hK w hi6 qd_M_stepArguments_84 ?_
      obtain ⟨hi7, hM⟩ := qck_ok hM
      refine ml_M_third F hK w hi7 qd_M_stepArguments_85 ?_
      exact t_M_stepArguments_86 F hR hK hN hA hQ  _ _ _ _ _ hM w (lv_sub hl [1, 2, 3, 0] rfl)
    · rw [if_pos hc5] at hM
      refine lv_aload_n F.1 F.2.1 qd_M_stepArguments_61 rfl (lv_at hl 1 rfl) ?_
      refine mg_M_second F hK w qk_666 qd_M_stepArguments_62 ?_
      refine lv_aload_n F.1 F.2.1 qd_M_stepArguments_65 rfl (lv_at hl 1 rfl) ?_
      refine mg_M_askAs F hK w qk_682 qd_M_stepArguments_66 ?_
      refine lv_iload_n F.1 F.2.1 qd_M_stepArguments_69 rfl (lv_at hl 2 rfl) ?_
      obtain ⟨hi8, hM⟩ := qck_ok hM
      refine ml_M_askAs F hK w hi8 qd_M_stepArguments_70 ?_
      obtain ⟨hi9, hM⟩ := qck_ok hM
      refine ml_M_second F hK w hi9 qd_M_stepArguments_71 ?_
      refine lv_goto (tgt := 86) F.1 F.2.1 qd_M_stepArguments_72 (by decide) ?_
      exact t_M_stepArguments_86 F hR hK hN hA hQ  _ _ _ _ _ hM w (lv_sub hl [1, 2, 3, 0] rfl)
  · rw [if_pos hc4] at hM
    refine lv_iconst (v := 1) F.1 F.2.1 qd_M_stepArguments_54 (by decide) ?_
    cases hM
    exact hQ _ _ _ _ qd_M_stepArguments_55 w
set_option maxRecDepth 100000 in
set_option maxHeartbeats 4000000 in
theorem t_M_stepArguments {p : Program} {l : Launch} {e : Env} {R : Room} {s : State} {m : MethodId} {args : Array Value} {below : List Frame} {meth : Method} {c : Code} {Q : State → Prop} {D : va_G} {ad : Nat → Nat} {cI cZ : ClassId} {A : Nat → Prop} (F : CallFix p m c qb_M_stepArguments 7 s args qtb "CaptureSubtypesModel") (hR : 1 ≤ R.frames ∧ 22 ≤ R.locals) (hK : va_K D qcl [(cI, .int), (cZ, .boolean)] s) (hN : qnests mns s) (hA : ∀ q, s.heap.size ≤ q → A q) {res : (Int32 × (Nat → Nat → Int32))} (hQ : ∀ (H : Heap) (locs : List Loc) (pc : Nat) (ls : Array Slot), decode qb_M_stepArguments pc = .ok (.ireturn, 1) → mW D ad cI cZ A s.heap res.2 H locs → W p l e R s m args below meth c H locs 0 0 Q (F0 m pc ls [.int res.1])) (S : (Nat → Nat → Int32)) (a1 a2 a3 : Int32) (hM : f_M_stepArguments S a1 a2 a3 = some res) {H : Heap} {locs : List Loc} {ls : Array Slot} (w : mW D ad cI cZ A s.heap S H locs) (hl : lv_has ls 7 [(0, .ref (ad 0)), (1, .int a1), (2, .int a2), (3, .int a3)]) : W p l e R s m args below meth c H locs 0 0 Q (F0 m 0 ls []) := by
  unfold f_M_stepArguments at hM
  refine lv_aload_n F.1 F.2.1 qd_M_stepArguments_0 rfl (lv_at hl 0 rfl) ?_
  refine mg_M_askStep F hK w qk_681 qd_M_stepArguments_1 ?_
  refine lv_iload_n F.1 F.2.1 qd_M_stepArguments_4 rfl (lv_at hl 1 rfl) ?_
  obtain ⟨hi1, hM⟩ := qck_ok hM
  refine ml_M_askStep F hK w hi1 qd_M_stepArguments_5 ?_
  refine lv_iconst (v := 2) F.1 F.2.1 qd_M_stepArguments_6 (by decide) ?_
  refine lv_irem F.1 F.2.1 qd_M_stepArguments_7 (by decide) ?_
  refine lv_iconst (v := 1) F.1 F.2.1 qd_M_stepArguments_8 (by decide) ?_
  refine lv_icmp_ne (tgt := 28) F.1 F.2.1 qd_M_stepArguments_9 (by decide) (fun hc2 => ?_) (fun hc2 => ?_)
  · rw [if_neg hc2] at hM
    exact t_M_stepArguments_28 F hR hK hN hA hQ  _ _ _ hM w (lv_sub hl [0, 1, 2] rfl)
  · rw [if_pos hc2] at hM
    refine lv_iload_n F.1 F.2.1 qd_M_stepArguments_12 rfl (lv_at hl 3 rfl) ?_
    refine lv_if_ne (tgt := 18) F.1 F.2.1 qd_M_stepArguments_13 (by decide) (fun hc3 => ?_) (fun hc3 => ?_)
    · rw [if_neg hc3] at hM
      refine lv_aload_n F.1 F.2.1 qd_M_stepArguments_18 rfl (lv_at hl 0 rfl) ?_
      refine mg_M_askStep F hK w qk_681 qd_M_stepArguments_19 ?_
      refine lv_iload_n F.1 F.2.1 qd_M_stepArguments_22 rfl (lv_at hl 1 rfl) ?_
      refine lv_dup2_11 F.1 F.2.1 qd_M_stepArguments_23 rfl rfl ?_
      obtain ⟨hi4, hM⟩ := qck_ok hM
      refine ml_M_askStep F hK w hi4 qd_M_stepArguments_24 ?_
      refine lv_iconst (v := 1) F.1 F.2.1 qd_M_stepArguments_25 (by decide) ?_
      refine lv_iadd F.1 F.2.1 qd_M_stepArguments_26 ?_
      obtain ⟨hi5, hM⟩ := qck_ok hM
      refine ms_M_askStep F hK w hi5 qd_M_stepArguments_27 (fun H locs w => ?_)
      exact t_M_stepArguments_28 F hR hK hN hA hQ  _ _ _ hM w (lv_sub hl [0, 1, 2] rfl)
    · rw [if_pos hc3] at hM
      refine lv_iconst (v := 0) F.1 F.2.1 qd_M_stepArguments_16 (by decide) ?_
      cases hM
      exact hQ _ _ _ _ qd_M_stepArguments_17 w
set_option maxRecDepth 100000 in
theorem c_M_stepArguments (l : Launch) (D : va_G) (ad : Nat → Nat) (cI cZ : ClassId) {S : (Nat → Nat → Int32)} {a1 a2 a3 : Int32} {res : (Int32 × (Nat → Nat → Int32))} (hM : f_M_stepArguments S a1 a2 a3 = some res) : mMi l qy_M_stepArguments qb_M_stepArguments 7 (some .int) { frames := 1, cells := 0, slots := 0, locals := 22 } D ad cI cZ S [.ref (ad 0), .int a1, .int a2, .int a3] res.1 res.2 := m_ofi (by decide +kernel) (Nat.le_of_ble_eq_true rfl) (fun p e s m args below meth c Q A ls F hK hN hA w hl hQ => t_M_stepArguments F ⟨Nat.le_refl _, Nat.le_refl _⟩ hK hN hA hQ S a1 a2 a3 hM w hl)
-- M_step
def f_M_step_81 (S : (Nat → Nat → Int32)) (v1 : Int32) : Option (Int32 × (Nat → Nat → Int32)) := qck (qin v1 3000) (some ((2 : Int32), (qwr S 25 v1.toNatClampNeg (1 : Int32))))
def f_M_step_69 (S : (Nat → Nat → Int32)) (v1 v3 v4 : Int32) : Option (Int32 × (Nat → Nat → Int32)) := if v4 = 0 then (if v3 = (1 : Int32) then (f_M_step_81  S v1) else (some ((1 : Int32), S))) else (f_M_step_81  S v1)
def f_M_step (S : (Nat → Nat → Int32)) (a1 a2 : Int32) : Option (Int32 × (Nat → Nat → Int32)) := qck (qin a1 3000) (qck (qin a1 3000) (qck (qin a1 3000) (if (S 25 a1.toNatClampNeg) = 0 then (if (S 23 a1.toNatClampNeg) = (S 24 a1.toNatClampNeg) then (some ((1 : Int32), S)) else (if (S 23 a1.toNatClampNeg) = (2 : Int32) then (if (S 24 a1.toNatClampNeg) = (1 : Int32) then (f_M_step_69  S a1 (S 23 a1.toNatClampNeg) (S 24 a1.toNatClampNeg)) else (some ((1 : Int32), S))) else (f_M_step_69  S a1 (S 23 a1.toNatClampNeg) (S 24 a1.toNatClampNeg)))) else (if (S 25 a1.toNatClampNeg) = 1 then ((f_M_stepBounds S a1 (S 23 a1.toNatClampNeg) (S 24 a1.toNatClampNeg) a2).bind (fun q9 => some (q9.1, q9.2))) else (if (S 25 a1.toNatClampNeg) = 2 then ((f_M_stepLow S a1 (S 23 a1.toNatClampNeg) (S 24 a1.toNatClampNeg) a2).bind (fun q12 => some (q12.1, q12.2))) else (if (S 25 a1.toNatClampNeg) = 3 then ((f_M_stepParts S a1 (S 23 a1.toNatClampNeg) (S 24 a1.toNatClampNeg) a2).bind (fun q15 => some (q15.1, q15.2))) else ((f_M_stepArguments S a1 (S 24 a1.toNatClampNeg) a2).bind (fun q17 => some (q17.1, q17.2)))))))))
set_option maxRecDepth 100000 in
set_option maxHeartbeats 4000000 in
theorem t_M_step_81 {p : Program} {l : Launch} {e : Env} {R : Room} {s : State} {m : MethodId} {args : Array Value} {below : List Frame} {meth : Method} {c : Code} {Q : State → Prop} {D : va_G} {ad : Nat → Nat} {cI cZ : ClassId} {A : Nat → Prop} (F : CallFix p m c qb_M_step 5 s args qtb "CaptureSubtypesModel") (hR : 7 ≤ R.frames ∧ 176 ≤ R.locals) (hK : va_K D qcl [(cI, .int), (cZ, .boolean)] s) (hN : qnests mns s) (hA : ∀ q, s.heap.size ≤ q → A q) {res : (Int32 × (Nat → Nat → Int32))} (hQ : ∀ (H : Heap) (locs : List Loc) (pc : Nat) (ls : Array Slot), decode qb_M_step pc = .ok (.ireturn, 1) → mW D ad cI cZ A s.heap res.2 H locs → W p l e R s m args below meth c H locs 0 0 Q (F0 m pc ls [.int res.1])) (S : (Nat → Nat → Int32)) (v1 : Int32) (hM : f_M_step_81 S v1 = some res) {H : Heap} {locs : List Loc} {ls : Array Slot} (w : mW D ad cI cZ A s.heap S H locs) (hl : lv_has ls 5 [(0, .ref (ad 0)), (1, .int v1)]) : W p l e R s m args below meth c H locs 0 0 Q (F0 m 81 ls []) := by
  unfold f_M_step_81 at hM
  refine lv_aload_n F.1 F.2.1 qd_M_step_81 rfl (lv_at hl 0 rfl) ?_
  refine mg_M_askState F hK w qk_680 qd_M_step_82 ?_
  refine lv_iload_n F.1 F.2.1 qd_M_step_85 rfl (lv_at hl 1 rfl) ?_
  refine lv_iconst (v := 1) F.1 F.2.1 qd_M_step_86 (by decide) ?_
  obtain ⟨hi1, hM⟩ := qck_ok hM
  refine ms_M_askState F hK w hi1 qd_M_step_87 (fun H locs w => ?_)
  refine lv_iconst (v := 2) F.1 F.2.1 qd_M_step_88 (by decide) ?_
  cases hM
  exact hQ _ _ _ _ qd_M_step_89 w
set_option maxRecDepth 100000 in
set_option maxHeartbeats 4000000 in
theorem t_M_step_69 {p : Program} {l : Launch} {e : Env} {R : Room} {s : State} {m : MethodId} {args : Array Value} {below : List Frame} {meth : Method} {c : Code} {Q : State → Prop} {D : va_G} {ad : Nat → Nat} {cI cZ : ClassId} {A : Nat → Prop} (F : CallFix p m c qb_M_step 5 s args qtb "CaptureSubtypesModel") (hR : 7 ≤ R.frames ∧ 176 ≤ R.locals) (hK : va_K D qcl [(cI, .int), (cZ, .boolean)] s) (hN : qnests mns s) (hA : ∀ q, s.heap.size ≤ q → A q) {res : (Int32 × (Nat → Nat → Int32))} (hQ : ∀ (H : Heap) (locs : List Loc) (pc : Nat) (ls : Array Slot), decode qb_M_step pc = .ok (.ireturn, 1) → mW D ad cI cZ A s.heap res.2 H locs → W p l e R s m args below meth c H locs 0 0 Q (F0 m pc ls [.int res.1])) (S : (Nat → Nat → Int32)) (v1 v3 v4 : Int32) (hM : f_M_step_69 S v1 v3 v4 = some res) {H : Heap} {locs : List Loc} {ls : Array Slot} (w : mW D ad cI cZ A s.heap S H locs) (hl : lv_has ls 5 [(0, .ref (ad 0)), (1, .int v1), (3, .int v3), (4, .int v4)]) : W p l e R s m args below meth c H locs 0 0 Q (F0 m 69 ls []) := by
  unfold f_M_step_69 at hM
  refine lv_iload F.1 F.2.1 qd_M_step_69 (lv_at hl 3 rfl) ?_
  refine lv_if_ne (tgt := 81) F.1 F.2.1 qd_M_step_71 (by decide) (fun hc1 => ?_) (fun hc1 => ?_)
  · rw [if_neg hc1] at hM
    exact t_M_step_81 F hR hK hN hA hQ  _ _ hM w (lv_sub hl [0, 1] rfl)
  · rw [if_pos hc1] at hM
    refine lv_iload_n F.1 F.2.1 qd_M_step_74 rfl (lv_at hl 2 rfl) ?_
    refine lv_iconst (v := 1) F.1 F.2.1 qd_M_step_75 (by decide) ?_
    refine lv_icmp_eq (tgt := 81) F.1 F.2.1 qd_M_step_76 (by decide) (fun hc2 => ?_) (fun hc2 => ?_)
    · rw [if_pos hc2] at hM
      exact t_M_step_81 F hR hK hN hA hQ  _ _ hM w (lv_sub hl [0, 1] rfl)
    · rw [if_neg hc2] at hM
      refine lv_iconst (v := 1) F.1 F.2.1 qd_M_step_79 (by decide) ?_
      cases hM
      exact hQ _ _ _ _ qd_M_step_80 w
set_option maxRecDepth 100000 in
set_option maxHeartbeats 4000000 in
theorem t_M_step {p : Program} {l : Launch} {e : Env} {R : Room} {s : State} {m : MethodId} {args : Array Value} {below : List Frame} {meth : Method} {c : Code} {Q : State → Prop} {D : va_G} {ad : Nat → Nat} {cI cZ : ClassId} {A : Nat → Prop} (F : CallFix p m c qb_M_step 5 s args qtb "CaptureSubtypesModel") (hR : 7 ≤ R.frames ∧ 176 ≤ R.locals) (hK : va_K D qcl [(cI, .int), (cZ, .boolean)] s) (hN : qnests mns s) (hA : ∀ q, s.heap.size ≤ q → A q) {res : (Int32 × (Nat → Nat → Int32))} (hQ : ∀ (H : Heap) (locs : List Loc) (pc : Nat) (ls : Array Slot), decode qb_M_step pc = .ok (.ireturn, 1) → mW D ad cI cZ A s.heap res.2 H locs → W p l e R s m args below meth c H locs 0 0 Q (F0 m pc ls [.int res.1])) (S : (Nat → Nat → Int32)) (a1 a2 : Int32) (hM : f_M_step S a1 a2 = some res) {H : Heap} {locs : List Loc} {ls : Array Slot} (w : mW D ad cI cZ A s.heap S H locs) (hl : lv_has ls 5 [(0, .ref (ad 0)), (1, .int a1), (2, .int a2)]) : W p l e R s m args below meth c H locs 0 0 Q (F0 m 0 ls []) := by
  unfold f_M_step at hM
  refine lv_aload_n F.1 F.2.1 qd_M_step_0 rfl (lv_at hl 0 rfl) ?_
  refine mg_M_askS F hK w qk_678 qd_M_step_1 ?_
  refine lv_iload_n F.1 F.2.1 qd_M_step_4 rfl (lv_at hl 1 rfl) ?_
  obtain ⟨hi1, hM⟩ := qck_ok hM
  refine ml_M_askS F hK w hi1 qd_M_step_5 ?_
  refine lv_istore_n (lv' := [(3, .int (S 23 a1.toNatClampNeg)), (0, .ref (ad 0)), (1, .int a1), (2, .int a2)]) F.1 F.2.1 qd_M_step_6 rfl hl (by decide) rfl (fun ls hl => ?_)
  refine lv_aload_n F.1 F.2.1 qd_M_step_7 rfl (lv_at hl 1 rfl) ?_
  refine mg_M_askT F hK w qk_679 qd_M_step_8 ?_
  refine lv_iload_n F.1 F.2.1 qd_M_step_11 rfl (lv_at hl 2 rfl) ?_
  obtain ⟨hi2, hM⟩ := qck_ok hM
  refine ml_M_askT F hK w hi2 qd_M_step_12 ?_
  refine lv_istore (lv' := [(4, .int (S 24 a1.toNatClampNeg)), (3, .int (S 23 a1.toNatClampNeg)), (0, .ref (ad 0)), (1, .int a1), (2, .int a2)]) F.1 F.2.1 qd_M_step_13 hl (by decide) rfl (fun ls hl => ?_)
  refine lv_aload_n F.1 F.2.1 qd_M_step_15 rfl (lv_at hl 2 rfl) ?_
  refine mg_M_askState F hK w qk_680 qd_M_step_16 ?_
  refine lv_iload_n F.1 F.2.1 qd_M_step_19 rfl (lv_at hl 3 rfl) ?_
  obtain ⟨hi3, hM⟩ := qck_ok hM
  refine ml_M_askState F hK w hi3 qd_M_step_20 ?_
  by_cases hs4 : (S 25 a1.toNatClampNeg) = 0
  · rw [if_pos hs4] at hM
    rw [hs4]
    refine lv_tableIn (tgt := 52) F.1 F.2.1 qd_M_step_21 (by decide) (by decide) rfl (by decide) ?_
    refine lv_iload_n F.1 F.2.1 qd_M_step_52 rfl (lv_at hl 1 rfl) ?_
    refine lv_iload F.1 F.2.1 qd_M_step_53 (lv_at hl 0 rfl) ?_
    refine lv_icmp_eq (tgt := 79) F.1 F.2.1 qd_M_step_55 (by decide) (fun hc5 => ?_) (fun hc5 => ?_)
    · rw [if_pos hc5] at hM
      refine lv_iconst (v := 1) F.1 F.2.1 qd_M_step_79 (by decide) ?_
      cases hM
      exact hQ _ _ _ _ qd_M_step_80 w
    · rw [if_neg hc5] at hM
      refine lv_iload_n F.1 F.2.1 qd_M_step_58 rfl (lv_at hl 1 rfl) ?_
      refine lv_iconst (v := 2) F.1 F.2.1 qd_M_step_59 (by decide) ?_
      refine lv_icmp_ne (tgt := 69) F.1 F.2.1 qd_M_step_60 (by decide) (fun hc6 => ?_) (fun hc6 => ?_)
      · rw [if_neg hc6] at hM
        exact t_M_step_69 F hR hK hN hA hQ  _ _ _ _ hM w (lv_sub hl [2, 3, 1, 0] rfl)
      · rw [if_pos hc6] at hM
        refine lv_iload F.1 F.2.1 qd_M_step_63 (lv_at hl 0 rfl) ?_
        refine lv_iconst (v := 1) F.1 F.2.1 qd_M_step_65 (by decide) ?_
        refine lv_icmp_ne (tgt := 79) F.1 F.2.1 qd_M_step_66 (by decide) (fun hc7 => ?_) (fun hc7 => ?_)
        · rw [if_neg hc7] at hM
          refine lv_iconst (v := 1) F.1 F.2.1 qd_M_step_79 (by decide) ?_
          cases hM
          exact hQ _ _ _ _ qd_M_step_80 w
        · rw [if_pos hc7] at hM
          exact t_M_step_69 F hR hK hN hA hQ  _ _ _ _ hM w (lv_sub hl [2, 3, 1, 0] rfl)
  · rw [if_neg hs4] at hM
    by_cases hs8 : (S 25 a1.toNatClampNeg) = 1
    · rw [if_pos hs8] at hM
      rw [hs8]
      refine lv_tableIn (tgt := 90) F.1 F.2.1 qd_M_step_21 (by decide) (by decide) rfl (by decide) ?_
      refine lv_aload_n F.1 F.2.1 qd_M_step_90 rfl (lv_at hl 2 rfl) ?_
      refine lv_iload_n F.1 F.2.1 qd_M_step_91 rfl (lv_at hl 3 rfl) ?_
      refine lv_iload_n F.1 F.2.1 qd_M_step_92 rfl (lv_at hl 1 rfl) ?_
      refine lv_iload F.1 F.2.1 qd_M_step_93 (lv_at hl 0 rfl) ?_
      refine lv_iload_n F.1 F.2.1 qd_M_step_95 rfl (lv_at hl 4 rfl) ?_
      obtain ⟨q9, hq10, hM⟩ := qbd hM
      refine m_calli F hK hN hA w (c_M_stepBounds l D ad cI cZ hq10) qk_876 qk_878 qs_M_stepBounds qk_8 qk_879 qv_M_stepBounds rfl rfl ⟨Nat.le_trans (by decide) hR.1, Nat.le_trans (by decide) hR.2⟩ (ci := 6) rfl (j := 0) rfl hl.1 rfl (Nat.le_of_ble_eq_true rfl) qd_M_step_96 (fun H locs w => ?_)
      cases hM
      exact hQ _ _ _ _ qd_M_step_99 w
    · rw [if_neg hs8] at hM
      by_cases hs11 : (S 25 a1.toNatClampNeg) = 2
      · rw [if_pos hs11] at hM
        rw [hs11]
        refine lv_tableIn (tgt := 100) F.1 F.2.1 qd_M_step_21 (by decide) (by decide) rfl (by decide) ?_
        refine lv_aload_n F.1 F.2.1 qd_M_step_100 rfl (lv_at hl 2 rfl) ?_
        refine lv_iload_n F.1 F.2.1 qd_M_step_101 rfl (lv_at hl 3 rfl) ?_
        refine lv_iload_n F.1 F.2.1 qd_M_step_102 rfl (lv_at hl 1 rfl) ?_
        refine lv_iload F.1 F.2.1 qd_M_step_103 (lv_at hl 0 rfl) ?_
        refine lv_iload_n F.1 F.2.1 qd_M_step_105 rfl (lv_at hl 4 rfl) ?_
        obtain ⟨q12, hq13, hM⟩ := qbd hM
        refine m_calli F hK hN hA w (c_M_stepLow l D ad cI cZ hq13) qk_888 qk_890 qs_M_stepLow qk_8 qk_891 qv_M_stepLow rfl rfl ⟨Nat.le_trans (by decide) hR.1, Nat.le_trans (by decide) hR.2⟩ (ci := 6) rfl (j := 0) rfl hl.1 rfl (Nat.le_of_ble_eq_true rfl) qd_M_step_106 (fun H locs w => ?_)
        cases hM
        exact hQ _ _ _ _ qd_M_step_109 w
      · rw [if_neg hs11] at hM
        by_cases hs14 : (S 25 a1.toNatClampNeg) = 3
        · rw [if_pos hs14] at hM
          rw [hs14]
          refine lv_tableIn (tgt := 110) F.1 F.2.1 qd_M_step_21 (by decide) (by decide) rfl (by decide) ?_
          refine lv_aload_n F.1 F.2.1 qd_M_step_110 rfl (lv_at hl 2 rfl) ?_
          refine lv_iload_n F.1 F.2.1 qd_M_step_111 rfl (lv_at hl 3 rfl) ?_
          refine lv_iload_n F.1 F.2.1 qd_M_step_112 rfl (lv_at hl 1 rfl) ?_
          refine lv_iload F.1 F.2.1 qd_M_step_113 (lv_at hl 0 rfl) ?_
          refine lv_iload_n F.1 F.2.1 qd_M_step_115 rfl (lv_at hl 4 rfl) ?_
          obtain ⟨q15, hq16, hM⟩ := qbd hM
          refine m_calli F hK hN hA w (c_M_stepParts l D ad cI cZ hq16) qk_896 qk_898 qs_M_stepParts qk_8 qk_899 qv_M_stepParts rfl rfl ⟨Nat.le_trans (by decide) hR.1, Nat.le_trans (by decide) hR.2⟩ (ci := 6) rfl (j := 0) rfl hl.1 rfl (Nat.le_of_ble_eq_true rfl) qd_M_step_116 (fun H locs w => ?_)
          cases hM
          exact hQ _ _ _ _ qd_M_step_119 w
        · rw [if_neg hs14] at hM
          refine lv_tableOut (tgt := 120) F.1 F.2.1 qd_M_step_21 (by have z0 := lv_neT hs4 (a := 0) rfl; have z1 := lv_neT hs8 (a := 1) rfl; have z2 := lv_neT hs11 (a := 2) rfl; have z3 := lv_neT hs14 (a := 3) rfl; omega) (by decide) ?_
          refine lv_aload_n F.1 F.2.1 qd_M_step_120 rfl (lv_at hl 2 rfl) ?_
          refine lv_iload_n F.1 F.2.1 qd_M_step_121 rfl (lv_at hl 3 rfl) ?_
          refine lv_iload F.1 F.2.1 qd_M_step_122 (lv_at hl 0 rfl) ?_
          refine lv_iload_n F.1 F.2.1 qd_M_step_124 rfl (lv_at hl 4 rfl) ?_
          obtain ⟨q17, hq18, hM⟩ := qbd hM
          refine m_calli F hK hN hA w (c_M_stepArguments l D ad cI cZ hq18) qk_936 qk_938 qs_M_stepArguments qk_8 qk_939 qv_M_stepArguments rfl rfl ⟨Nat.le_trans (by decide) hR.1, Nat.le_trans (by decide) hR.2⟩ (ci := 6) rfl (j := 0) rfl hl.1 rfl (Nat.le_of_ble_eq_true rfl) qd_M_step_125 (fun H locs w => ?_)
          cases hM
          exact hQ _ _ _ _ qd_M_step_128 w
set_option maxRecDepth 100000 in
theorem c_M_step (l : Launch) (D : va_G) (ad : Nat → Nat) (cI cZ : ClassId) {S : (Nat → Nat → Int32)} {a1 a2 : Int32} {res : (Int32 × (Nat → Nat → Int32))} (hM : f_M_step S a1 a2 = some res) : mMi l qy_M_step qb_M_step 5 (some .int) { frames := 7, cells := 0, slots := 0, locals := 176 } D ad cI cZ S [.ref (ad 0), .int a1, .int a2] res.1 res.2 := m_ofi (by decide +kernel) (Nat.le_of_ble_eq_true rfl) (fun p e s m args below meth c Q A ls F hK hN hA w hl hQ => t_M_step F ⟨Nat.le_refl _, Nat.le_refl _⟩ hK hN hA hQ S a1 a2 hM w hl)
-- M_isA
def fb_M_isA_13 (k_13 : (Nat → Nat → Int32) → Int32 → Option (Bool × (Nat → Nat → Int32))) (S : (Nat → Nat → Int32)) (v3 : Int32) : Option (Bool × (Nat → Nat → Int32)) := if (S 28 0) ≤ 0 then (if v3 = (1 : Int32) then (some (true, S)) else (some (false, S))) else ((f_M_step S ((S 28 0) - (1 : Int32)) v3).bind (fun q3 => if q3.1 = (2 : Int32) then (k_13 q3.2 q3.1) else (k_13 (qwr q3.2 28 0 ((S 28 0) - (1 : Int32))) q3.1)))
def f_M_isA_13 : Nat → (Nat → Nat → Int32) → Int32 → Option (Bool × (Nat → Nat → Int32))
  | 0 => fun _ _ => none
  | n + 1 => fun S v3 => fb_M_isA_13 (f_M_isA_13 n) S v3
def f_M_isA (S : (Nat → Nat → Int32)) (a1 a2 : Int32) : Option (Bool × (Nat → Nat → Int32)) := (f_M_ask (qwr S 28 0 (0 : Int32)) a1 a2).bind (fun q1 => f_M_isA_13  qfu q1 (2 : Int32))
set_option maxRecDepth 100000 in
set_option maxHeartbeats 4000000 in
theorem tb_M_isA_13 {p : Program} {l : Launch} {e : Env} {R : Room} {s : State} {m : MethodId} {args : Array Value} {below : List Frame} {meth : Method} {c : Code} {Q : State → Prop} {D : va_G} {ad : Nat → Nat} {cI cZ : ClassId} {A : Nat → Prop} (F : CallFix p m c qb_M_isA 6 s args qtb "CaptureSubtypesModel") (hR : 8 ≤ R.frames ∧ 200 ≤ R.locals) (hK : va_K D qcl [(cI, .int), (cZ, .boolean)] s) (hN : qnests mns s) (hA : ∀ q, s.heap.size ≤ q → A q) {res : (Bool × (Nat → Nat → Int32))} (hQ : ∀ (H : Heap) (locs : List Loc) (pc : Nat) (ls : Array Slot), decode qb_M_isA pc = .ok (.ireturn, 1) → mW D ad cI cZ A s.heap res.2 H locs → W p l e R s m args below meth c H locs 0 0 Q (F0 m pc ls [.int (qB res.1)])) {k_13 : (Nat → Nat → Int32) → Int32 → Option (Bool × (Nat → Nat → Int32))} (hk_13 : ∀ (S : Nat → Nat → Int32) (v3 : Int32), k_13 S v3 = some res → ∀ {H : Heap} {locs : List Loc} {ls : Array Slot}, mW D ad cI cZ A s.heap S H locs → lv_has ls 6 [(0, .ref (ad 0)), (3, .int v3)] → W p l e R s m args below meth c H locs 0 0 Q (F0 m 13 ls [])) (S : (Nat → Nat → Int32)) (v3 : Int32) (hM : fb_M_isA_13 k_13 S v3 = some res) {H : Heap} {locs : List Loc} {ls : Array Slot} (w : mW D ad cI cZ A s.heap S H locs) (hl : lv_has ls 6 [(0, .ref (ad 0)), (3, .int v3)]) : W p l e R s m args below meth c H locs 0 0 Q (F0 m 13 ls []) := by
  unfold fb_M_isA_13 at hM
  refine lv_aload_n F.1 F.2.1 qd_M_isA_13 rfl (lv_at hl 0 rfl) ?_
  refine mg_M_asked F hK w qk_683 qd_M_isA_14 ?_
  refine lv_if_le (tgt := 55) F.1 F.2.1 qd_M_isA_17 (by decide) (fun hc1 => ?_) (fun hc1 => ?_)
  · rw [if_pos hc1] at hM
    refine lv_iload_n F.1 F.2.1 qd_M_isA_55 rfl (lv_at hl 1 rfl) ?_
    refine lv_iconst (v := 1) F.1 F.2.1 qd_M_isA_56 (by decide) ?_
    refine lv_icmp_ne (tgt := 64) F.1 F.2.1 qd_M_isA_57 (by decide) (fun hc2 => ?_) (fun hc2 => ?_)
    · rw [if_neg hc2] at hM
      refine lv_iconst (v := 0) F.1 F.2.1 qd_M_isA_64 (by decide) ?_
      cases hM
      exact hQ _ _ _ _ qd_M_isA_65 w
    · rw [if_pos hc2] at hM
      refine lv_iconst (v := 1) F.1 F.2.1 qd_M_isA_60 (by decide) ?_
      refine lv_goto (tgt := 65) F.1 F.2.1 qd_M_isA_61 (by decide) ?_
      cases hM
      exact hQ _ _ _ _ qd_M_isA_65 w
  · rw [if_neg hc1] at hM
    refine lv_aload_n F.1 F.2.1 qd_M_isA_20 rfl (lv_at hl 0 rfl) ?_
    refine mg_M_asked F hK w qk_683 qd_M_isA_21 ?_
    refine lv_iconst (v := 1) F.1 F.2.1 qd_M_isA_24 (by decide) ?_
    refine lv_isub F.1 F.2.1 qd_M_isA_25 ?_
    refine lv_istore (lv' := [(4, .int ((S 28 0) - (1 : Int32))), (0, .ref (ad 0)), (3, .int v3)]) F.1 F.2.1 qd_M_isA_26 hl (by decide) rfl (fun ls hl => ?_)
    refine lv_aload_n F.1 F.2.1 qd_M_isA_28 rfl (lv_at hl 1 rfl) ?_
    refine lv_iload F.1 F.2.1 qd_M_isA_29 (lv_at hl 0 rfl) ?_
    refine lv_iload_n F.1 F.2.1 qd_M_isA_31 rfl (lv_at hl 2 rfl) ?_
    obtain ⟨q3, hq4, hM⟩ := qbd hM
    refine m_calli F hK hN hA w (c_M_step l D ad cI cZ hq4) qk_872 qk_874 qs_M_step qk_8 qk_875 qv_M_step rfl rfl ⟨Nat.le_trans (by decide) hR.1, Nat.le_trans (by decide) hR.2⟩ (ci := 6) rfl (j := 0) rfl hl.1 rfl (Nat.le_of_ble_eq_true rfl) qd_M_isA_32 (fun H locs w => ?_)
    refine lv_istore (lv' := [(5, .int q3.1), (4, .int ((S 28 0) - (1 : Int32))), (0, .ref (ad 0)), (3, .int v3)]) F.1 F.2.1 qd_M_isA_35 hl (by decide) rfl (fun ls hl => ?_)
    refine lv_iload F.1 F.2.1 qd_M_isA_37 (lv_at hl 0 rfl) ?_
    refine lv_istore_n (lv' := [(3, .int q3.1), (5, .int q3.1), (4, .int ((S 28 0) - (1 : Int32))), (0, .ref (ad 0))]) F.1 F.2.1 qd_M_isA_39 rfl hl (by decide) rfl (fun ls hl => ?_)
    refine lv_iload F.1 F.2.1 qd_M_isA_40 (lv_at hl 1 rfl) ?_
    refine lv_iconst (v := 2) F.1 F.2.1 qd_M_isA_42 (by decide) ?_
    refine lv_icmp_eq (tgt := 52) F.1 F.2.1 qd_M_isA_43 (by decide) (fun hc5 => ?_) (fun hc5 => ?_)
    · rw [if_pos hc5] at hM
      refine lv_goto (tgt := 13) F.1 F.2.1 qd_M_isA_52 (by decide) ?_
      exact hk_13 _ _ hM w (lv_sub hl [3, 0] rfl)
    · rw [if_neg hc5] at hM
      refine lv_aload_n F.1 F.2.1 qd_M_isA_46 rfl (lv_at hl 3 rfl) ?_
      refine lv_iload F.1 F.2.1 qd_M_isA_47 (lv_at hl 2 rfl) ?_
      refine mp_M_asked F hK w qk_683 qd_M_isA_49 (fun H locs w => ?_)
      refine lv_goto (tgt := 13) F.1 F.2.1 qd_M_isA_52 (by decide) ?_
      exact hk_13 _ _ hM w (lv_sub hl [3, 0] rfl)
set_option maxRecDepth 100000 in
set_option maxHeartbeats 4000000 in
theorem t_M_isA_13 {p : Program} {l : Launch} {e : Env} {R : Room} {s : State} {m : MethodId} {args : Array Value} {below : List Frame} {meth : Method} {c : Code} {Q : State → Prop} {D : va_G} {ad : Nat → Nat} {cI cZ : ClassId} {A : Nat → Prop} (F : CallFix p m c qb_M_isA 6 s args qtb "CaptureSubtypesModel") (hR : 8 ≤ R.frames ∧ 200 ≤ R.locals) (hK : va_K D qcl [(cI, .int), (cZ, .boolean)] s) (hN : qnests mns s) (hA : ∀ q, s.heap.size ≤ q → A q) {res : (Bool × (Nat → Nat → Int32))} (hQ : ∀ (H : Heap) (locs : List Loc) (pc : Nat) (ls : Array Slot), decode qb_M_isA pc = .ok (.ireturn, 1) → mW D ad cI cZ A s.heap res.2 H locs → W p l e R s m args below meth c H locs 0 0 Q (F0 m pc ls [.int (qB res.1)])) : ∀ (n : Nat) (S : (Nat → Nat → Int32)) (v3 : Int32) (hM : f_M_isA_13 n S v3 = some res) {H : Heap} {locs : List Loc} {ls : Array Slot} (w : mW D ad cI cZ A s.heap S H locs) (hl : lv_has ls 6 [(0, .ref (ad 0)), (3, .int v3)]), W p l e R s m args below meth c H locs 0 0 Q (F0 m 13 ls []) := by
  intro n
  induction n with
  | zero => intro S v3 hM; exact absurd hM (by simp [f_M_isA_13])
  | succ n ih => intro S v3 hM H locs ls w hl; exact tb_M_isA_13 F hR hK hN hA hQ (k_13 := f_M_isA_13 n) (fun S v3 hM H locs ls w hl => ih S v3 hM w hl) S v3 hM w hl
set_option maxRecDepth 100000 in
set_option maxHeartbeats 4000000 in
theorem t_M_isA {p : Program} {l : Launch} {e : Env} {R : Room} {s : State} {m : MethodId} {args : Array Value} {below : List Frame} {meth : Method} {c : Code} {Q : State → Prop} {D : va_G} {ad : Nat → Nat} {cI cZ : ClassId} {A : Nat → Prop} (F : CallFix p m c qb_M_isA 6 s args qtb "CaptureSubtypesModel") (hR : 8 ≤ R.frames ∧ 200 ≤ R.locals) (hK : va_K D qcl [(cI, .int), (cZ, .boolean)] s) (hN : qnests mns s) (hA : ∀ q, s.heap.size ≤ q → A q) {res : (Bool × (Nat → Nat → Int32))} (hQ : ∀ (H : Heap) (locs : List Loc) (pc : Nat) (ls : Array Slot), decode qb_M_isA pc = .ok (.ireturn, 1) → mW D ad cI cZ A s.heap res.2 H locs → W p l e R s m args below meth c H locs 0 0 Q (F0 m pc ls [.int (qB res.1)])) (S : (Nat → Nat → Int32)) (a1 a2 : Int32) (hM : f_M_isA S a1 a2 = some res) {H : Heap} {locs : List Loc} {ls : Array Slot} (w : mW D ad cI cZ A s.heap S H locs) (hl : lv_has ls 6 [(0, .ref (ad 0)), (1, .int a1), (2, .int a2)]) : W p l e R s m args below meth c H locs 0 0 Q (F0 m 0 ls []) := by
  unfold f_M_isA at hM
  refine lv_aload_n F.1 F.2.1 qd_M_isA_0 rfl (lv_at hl 0 rfl) ?_
  refine lv_iconst (v := 0) F.1 F.2.1 qd_M_isA_1 (by decide) ?_
  refine mp_M_asked F hK w qk_683 qd_M_isA_2 (fun H locs w => ?_)
  refine lv_aload_n F.1 F.2.1 qd_M_isA_5 rfl (lv_at hl 0 rfl) ?_
  refine lv_iload_n F.1 F.2.1 qd_M_isA_6 rfl (lv_at hl 1 rfl) ?_
  refine lv_iload_n F.1 F.2.1 qd_M_isA_7 rfl (lv_at hl 2 rfl) ?_
  obtain ⟨q1, hq2, hM⟩ := qbd hM
  refine m_callv F hK hN hA w (c_M_ask l D ad cI cZ hq2) qk_868 qk_870 qs_M_ask qk_8 qk_871 qv_M_ask rfl rfl ⟨Nat.le_trans (by decide) hR.1, Nat.le_trans (by decide) hR.2⟩ (ci := 6) rfl (j := 0) rfl hl.1 rfl (Nat.le_of_ble_eq_true rfl) qd_M_isA_8 (fun H locs w => ?_)
  refine lv_iconst (v := 2) F.1 F.2.1 qd_M_isA_11 (by decide) ?_
  refine lv_istore_n (lv' := [(3, .int (2 : Int32)), (0, .ref (ad 0)), (1, .int a1), (2, .int a2)]) F.1 F.2.1 qd_M_isA_12 rfl hl (by decide) rfl (fun ls hl => ?_)
  exact t_M_isA_13 F hR hK hN hA hQ  qfu _ _ hM w (lv_sub hl [1, 0] rfl)
set_option maxRecDepth 100000 in
theorem c_M_isA (l : Launch) (D : va_G) (ad : Nat → Nat) (cI cZ : ClassId) {S : (Nat → Nat → Int32)} {a1 a2 : Int32} {res : (Bool × (Nat → Nat → Int32))} (hM : f_M_isA S a1 a2 = some res) : mMi l qy_M_isA qb_M_isA 6 (some .boolean) { frames := 8, cells := 0, slots := 0, locals := 200 } D ad cI cZ S [.ref (ad 0), .int a1, .int a2] (qB res.1) res.2 := m_ofz (by decide +kernel) (Nat.le_of_ble_eq_true rfl) (fun p e s m args below meth c Q A ls F hK hN hA w hl hQ => t_M_isA F ⟨Nat.le_refl _, Nat.le_refl _⟩ hK hN hA hQ S a1 a2 hM w hl)
-- M_isUnchecked
def fb_M_isUnchecked_53 (k_24 : (Nat → Nat → Int32) → Int32 → Int32 → Int32 → Option (Bool × (Nat → Nat → Int32))) (k_53 : (Nat → Nat → Int32) → Int32 → Int32 → Int32 → Int32 → Int32 → Option (Bool × (Nat → Nat → Int32))) (S : (Nat → Nat → Int32)) (v2 v3 v4 v5 v6 : Int32) : Option (Bool × (Nat → Nat → Int32)) := (f_M_boundCount S v5).bind (fun q1 => if q1 ≤ v6 then (k_24 S v2 v3 (v4 + (1 : Int32))) else ((f_M_boundOf S v5 v6).bind (fun q4 => qck (qin v3 3000) (k_53 (qwr S 29 v3.toNatClampNeg q4) v2 (v3 + (1 : Int32)) v4 v5 (v6 + (1 : Int32))))))
def f_M_isUnchecked_53 (k_24 : (Nat → Nat → Int32) → Int32 → Int32 → Int32 → Option (Bool × (Nat → Nat → Int32))) : Nat → (Nat → Nat → Int32) → Int32 → Int32 → Int32 → Int32 → Int32 → Option (Bool × (Nat → Nat → Int32))
  | 0 => fun _ _ _ _ _ _ => none
  | n + 1 => fun S v2 v3 v4 v5 v6 => fb_M_isUnchecked_53 k_24 (f_M_isUnchecked_53 k_24 n) S v2 v3 v4 v5 v6
def fb_M_isUnchecked_24 (k_24 : (Nat → Nat → Int32) → Int32 → Int32 → Int32 → Option (Bool × (Nat → Nat → Int32))) (S : (Nat → Nat → Int32)) (v2 v3 v4 : Int32) : Option (Bool × (Nat → Nat → Int32)) := if v3 ≤ v4 then (some (false, S)) else (qck (qin v4 3000) (qck (qin (S 29 v4.toNatClampNeg) 9000) (if (S 9 (S 29 v4.toNatClampNeg).toNatClampNeg) = (3 : Int32) then (f_M_isUnchecked_53 k_24 qfu S v2 v3 v4 (S 29 v4.toNatClampNeg) (0 : Int32)) else ((f_M_isOfClass S (S 29 v4.toNatClampNeg)).bind (fun q5 => if (qB q5) = 0 then (k_24 S v2 v3 (v4 + (1 : Int32))) else (qck (qin (S 29 v4.toNatClampNeg) 9000) (qck (qin v2 9000) (qck (qin (((12 : Int32) * (S 10 (S 29 v4.toNatClampNeg).toNatClampNeg)) + (S 10 v2.toNatClampNeg)) 144) (if (S 18 (((12 : Int32) * (S 10 (S 29 v4.toNatClampNeg).toNatClampNeg)) + (S 10 v2.toNatClampNeg)).toNatClampNeg) = 0 then (k_24 S v2 v3 (v4 + (1 : Int32))) else (qck (qin v2 9000) ((f_M_asClass S (S 29 v4.toNatClampNeg) (S 10 v2.toNatClampNeg)).bind (fun q13 => qck (qin q13.1 9000) (if (q13.2 9 q13.1.toNatClampNeg) = (1 : Int32) then (some (true, q13.2)) else (k_24 q13.2 v2 v3 (v4 + (1 : Int32))))))))))))))))
def f_M_isUnchecked_24 : Nat → (Nat → Nat → Int32) → Int32 → Int32 → Int32 → Option (Bool × (Nat → Nat → Int32))
  | 0 => fun _ _ _ _ => none
  | n + 1 => fun S v2 v3 v4 => fb_M_isUnchecked_24 (f_M_isUnchecked_24 n) S v2 v3 v4
def f_M_isUnchecked (S : (Nat → Nat → Int32)) (a1 a2 : Int32) : Option (Bool × (Nat → Nat → Int32)) := qck (qin a2 9000) (if (S 9 a2.toNatClampNeg) = (2 : Int32) then (qck (qin (0 : Int32) 3000) (f_M_isUnchecked_24  qfu (qwr S 29 (0 : Int32).toNatClampNeg a1) a2 (1 : Int32) (0 : Int32))) else (some (false, S)))
set_option maxRecDepth 100000 in
set_option maxHeartbeats 4000000 in
theorem tb_M_isUnchecked_53 {p : Program} {l : Launch} {e : Env} {R : Room} {s : State} {m : MethodId} {args : Array Value} {below : List Frame} {meth : Method} {c : Code} {Q : State → Prop} {D : va_G} {ad : Nat → Nat} {cI cZ : ClassId} {A : Nat → Prop} (F : CallFix p m c qb_M_isUnchecked 7 s args qtb "CaptureSubtypesModel") (hR : 6 ≤ R.frames ∧ 152 ≤ R.locals) (hK : va_K D qcl [(cI, .int), (cZ, .boolean)] s) (hN : qnests mns s) (hA : ∀ q, s.heap.size ≤ q → A q) {res : (Bool × (Nat → Nat → Int32))} (hQ : ∀ (H : Heap) (locs : List Loc) (pc : Nat) (ls : Array Slot), decode qb_M_isUnchecked pc = .ok (.ireturn, 1) → mW D ad cI cZ A s.heap res.2 H locs → W p l e R s m args below meth c H locs 0 0 Q (F0 m pc ls [.int (qB res.1)])) {k_24 : (Nat → Nat → Int32) → Int32 → Int32 → Int32 → Option (Bool × (Nat → Nat → Int32))} (hk_24 : ∀ (S : Nat → Nat → Int32) (v2 v3 v4 : Int32), k_24 S v2 v3 v4 = some res → ∀ {H : Heap} {locs : List Loc} {ls : Array Slot}, mW D ad cI cZ A s.heap S H locs → lv_has ls 7 [(0, .ref (ad 0)), (2, .int v2), (3, .int v3), (4, .int v4)] → W p l e R s m args below meth c H locs 0 0 Q (F0 m 24 ls [])) {k_53 : (Nat → Nat → Int32) → Int32 → Int32 → Int32 → Int32 → Int32 → Option (Bool × (Nat → Nat → Int32))} (hk_53 : ∀ (S : Nat → Nat → Int32) (v2 v3 v4 v5 v6 : Int32), k_53 S v2 v3 v4 v5 v6 = some res → ∀ {H : Heap} {locs : List Loc} {ls : Array Slot}, mW D ad cI cZ A s.heap S H locs → lv_has ls 7 [(0, .ref (ad 0)), (2, .int v2), (3, .int v3), (4, .int v4), (5, .int v5), (6, .int v6)] → W p l e R s m args below meth c H locs 0 0 Q (F0 m 53 ls [])) (S : (Nat → Nat → Int32)) (v2 v3 v4 v5 v6 : Int32) (hM : fb_M_isUnchecked_53 k_24 k_53 S v2 v3 v4 v5 v6 = some res) {H : Heap} {locs : List Loc} {ls : Array Slot} (w : mW D ad cI cZ A s.heap S H locs) (hl : lv_has ls 7 [(0, .ref (ad 0)), (2, .int v2), (3, .int v3), (4, .int v4), (5, .int v5), (6, .int v6)]) : W p l e R s m args below meth c H locs 0 0 Q (F0 m 53 ls []) := by
  unfold fb_M_isUnchecked_53 at hM
  refine lv_iload F.1 F.2.1 qd_M_isUnchecked_53 (lv_at hl 5 rfl) ?_
  refine lv_aload_n F.1 F.2.1 qd_M_isUnchecked_55 rfl (lv_at hl 0 rfl) ?_
  refine lv_iload F.1 F.2.1 qd_M_isUnchecked_56 (lv_at hl 4 rfl) ?_
  obtain ⟨q1, hq2, hM⟩ := qbd hM
  refine m_calli F hK hN hA w (c_M_boundCount l D ad cI cZ hq2) qk_880 qk_882 qs_M_boundCount qk_8 qk_883 qv_M_boundCount rfl rfl ⟨Nat.le_trans (by decide) hR.1, Nat.le_trans (by decide) hR.2⟩ (ci := 6) rfl (j := 0) rfl hl.1 rfl (Nat.le_of_ble_eq_true rfl) qd_M_isUnchecked_58 (fun H locs w => ?_)
  refine lv_icmp_ge (tgt := 87) F.1 F.2.1 qd_M_isUnchecked_61 (by decide) (fun hc3 => ?_) (fun hc3 => ?_)
  · rw [if_pos hc3] at hM
    refine lv_goto (tgt := 147) F.1 F.2.1 qd_M_isUnchecked_87 (by decide) ?_
    refine lv_iinc (v := (v4 + (1 : Int32))) (lv' := [(4, .int (v4 + (1 : Int32))), (0, .ref (ad 0)), (2, .int v2), (3, .int v3), (5, .int v5), (6, .int v6)]) F.1 F.2.1 qd_M_isUnchecked_147 hl (k := 3) rfl rfl (by decide) rfl (fun ls hl => ?_)
    refine lv_goto (tgt := 24) F.1 F.2.1 qd_M_isUnchecked_150 (by decide) ?_
    exact hk_24 _ _ _ _ hM w (lv_sub hl [1, 2, 3, 0] rfl)
  · rw [if_neg hc3] at hM
    refine lv_aload_n F.1 F.2.1 qd_M_isUnchecked_64 rfl (lv_at hl 0 rfl) ?_
    refine mg_M_pileS F hK w qk_684 qd_M_isUnchecked_65 ?_
    refine lv_iload_n F.1 F.2.1 qd_M_isUnchecked_68 rfl (lv_at hl 2 rfl) ?_
    refine lv_aload_n F.1 F.2.1 qd_M_isUnchecked_69 rfl (lv_at hl 0 rfl) ?_
    refine lv_iload F.1 F.2.1 qd_M_isUnchecked_70 (lv_at hl 4 rfl) ?_
    refine lv_iload F.1 F.2.1 qd_M_isUnchecked_72 (lv_at hl 5 rfl) ?_
    obtain ⟨q4, hq5, hM⟩ := qbd hM
    refine m_calli F hK hN hA w (c_M_boundOf l D ad cI cZ hq5) qk_884 qk_886 qs_M_boundOf qk_8 qk_887 qv_M_boundOf rfl rfl ⟨Nat.le_trans (by decide) hR.1, Nat.le_trans (by decide) hR.2⟩ (ci := 6) rfl (j := 0) rfl hl.1 rfl (Nat.le_of_ble_eq_true rfl) qd_M_isUnchecked_74 (fun H locs w => ?_)
    obtain ⟨hi6, hM⟩ := qck_ok hM
    refine ms_M_pileS F hK w hi6 qd_M_isUnchecked_77 (fun H locs w => ?_)
    refine lv_iinc (v := (v3 + (1 : Int32))) (lv' := [(3, .int (v3 + (1 : Int32))), (0, .ref (ad 0)), (2, .int v2), (4, .int v4), (5, .int v5), (6, .int v6)]) F.1 F.2.1 qd_M_isUnchecked_78 hl (k := 2) rfl rfl (by decide) rfl (fun ls hl => ?_)
    refine lv_iinc (v := (v6 + (1 : Int32))) (lv' := [(6, .int (v6 + (1 : Int32))), (3, .int (v3 + (1 : Int32))), (0, .ref (ad 0)), (2, .int v2), (4, .int v4), (5, .int v5)]) F.1 F.2.1 qd_M_isUnchecked_81 hl (k := 5) rfl rfl (by decide) rfl (fun ls hl => ?_)
    refine lv_goto (tgt := 53) F.1 F.2.1 qd_M_isUnchecked_84 (by decide) ?_
    exact hk_53 _ _ _ _ _ _ hM w (lv_sub hl [2, 3, 1, 4, 5, 0] rfl)
set_option maxRecDepth 100000 in
set_option maxHeartbeats 4000000 in
theorem t_M_isUnchecked_53 {p : Program} {l : Launch} {e : Env} {R : Room} {s : State} {m : MethodId} {args : Array Value} {below : List Frame} {meth : Method} {c : Code} {Q : State → Prop} {D : va_G} {ad : Nat → Nat} {cI cZ : ClassId} {A : Nat → Prop} (F : CallFix p m c qb_M_isUnchecked 7 s args qtb "CaptureSubtypesModel") (hR : 6 ≤ R.frames ∧ 152 ≤ R.locals) (hK : va_K D qcl [(cI, .int), (cZ, .boolean)] s) (hN : qnests mns s) (hA : ∀ q, s.heap.size ≤ q → A q) {res : (Bool × (Nat → Nat → Int32))} (hQ : ∀ (H : Heap) (locs : List Loc) (pc : Nat) (ls : Array Slot), decode qb_M_isUnchecked pc = .ok (.ireturn, 1) → mW D ad cI cZ A s.heap res.2 H locs → W p l e R s m args below meth c H locs 0 0 Q (F0 m pc ls [.int (qB res.1)])) {k_24 : (Nat → Nat → Int32) → Int32 → Int32 → Int32 → Option (Bool × (Nat → Nat → Int32))} (hk_24 : ∀ (S : Nat → Nat → Int32) (v2 v3 v4 : Int32), k_24 S v2 v3 v4 = some res → ∀ {H : Heap} {locs : List Loc} {ls : Array Slot}, mW D ad cI cZ A s.heap S H locs → lv_has ls 7 [(0, .ref (ad 0)), (2, .int v2), (3, .int v3), (4, .int v4)] → W p l e R s m args below meth c H locs 0 0 Q (F0 m 24 ls [])) : ∀ (n : Nat) (S : (Nat → Nat → Int32)) (v2 v3 v4 v5 v6 : Int32) (hM : f_M_isUnchecked_53 k_24 n S v2 v3 v4 v5 v6 = some res) {H : Heap} {locs : List Loc} {ls : Array Slot} (w : mW D ad cI cZ A s.heap S H locs) (hl : lv_has ls 7 [(0, .ref (ad 0)), (2, .int v2), (3, .int v3), (4, .int v4), (5, .int v5), (6, .int v6)]), W p l e R s m args below meth c H locs 0 0 Q (F0 m 53 ls []) := by
  intro n
  induction n with
  | zero => intro S v2 v3 v4 v5 v6 hM; exact absurd hM (by simp [f_M_isUnchecked_53])
  | succ n ih => intro S v2 v3 v4 v5 v6 hM H locs ls w hl; exact tb_M_isUnchecked_53 F hR hK hN hA hQ hk_24 (k_53 := f_M_isUnchecked_53 k_24 n) (fun S v2 v3 v4 v5 v6 hM H locs ls w hl => ih S v2 v3 v4 v5 v6 hM w hl) S v2 v3 v4 v5 v6 hM w hl
set_option maxRecDepth 100000 in
set_option maxHeartbeats 4000000 in
theorem tb_M_isUnchecked_24 {p : Program} {l : Launch} {e : Env} {R : Room} {s : State} {m : MethodId} {args : Array Value} {below : List Frame} {meth : Method} {c : Code} {Q : State → Prop} {D : va_G} {ad : Nat → Nat} {cI cZ : ClassId} {A : Nat → Prop} (F : CallFix p m c qb_M_isUnchecked 7 s args qtb "CaptureSubtypesModel") (hR : 6 ≤ R.frames ∧ 152 ≤ R.locals) (hK : va_K D qcl [(cI, .int), (cZ, .boolean)] s) (hN : qnests mns s) (hA : ∀ q, s.heap.size ≤ q → A q) {res : (Bool × (Nat → Nat → Int32))} (hQ : ∀ (H : Heap) (locs : List Loc) (pc : Nat) (ls : Array Slot), decode qb_M_isUnchecked pc = .ok (.ireturn, 1) → mW D ad cI cZ A s.heap res.2 H locs → W p l e R s m args below meth c H locs 0 0 Q (F0 m pc ls [.int (qB res.1)])) {k_24 : (Nat → Nat → Int32) → Int32 → Int32 → Int32 → Option (Bool × (Nat → Nat → Int32))} (hk_24 : ∀ (S : Nat → Nat → Int32) (v2 v3 v4 : Int32), k_24 S v2 v3 v4 = some res → ∀ {H : Heap} {locs : List Loc} {ls : Array Slot}, mW D ad cI cZ A s.heap S H locs → lv_has ls 7 [(0, .ref (ad 0)), (2, .int v2), (3, .int v3), (4, .int v4)] → W p l e R s m args below meth c H locs 0 0 Q (F0 m 24 ls [])) (S : (Nat → Nat → Int32)) (v2 v3 v4 : Int32) (hM : fb_M_isUnchecked_24 k_24 S v2 v3 v4 = some res) {H : Heap} {locs : List Loc} {ls : Array Slot} (w : mW D ad cI cZ A s.heap S H locs) (hl : lv_has ls 7 [(0, .ref (ad 0)), (2, .int v2), (3, .int v3), (4, .int v4)]) : W p l e R s m args below meth c H locs 0 0 Q (F0 m 24 ls []) := by
  unfold fb_M_isUnchecked_24 at hM
  refine lv_iload F.1 F.2.1 qd_M_isUnchecked_24 (lv_at hl 3 rfl) ?_
  refine lv_iload_n F.1 F.2.1 qd_M_isUnchecked_26 rfl (lv_at hl 2 rfl) ?_
  refine lv_icmp_ge (tgt := 153) F.1 F.2.1 qd_M_isUnchecked_27 (by decide) (fun hc1 => ?_) (fun hc1 => ?_)
  · rw [if_pos hc1] at hM
    refine lv_iconst (v := 0) F.1 F.2.1 qd_M_isUnchecked_153 (by decide) ?_
    cases hM
    exact hQ _ _ _ _ qd_M_isUnchecked_154 w
  · rw [if_neg hc1] at hM
    refine lv_aload_n F.1 F.2.1 qd_M_isUnchecked_30 rfl (lv_at hl 0 rfl) ?_
    refine mg_M_pileS F hK w qk_684 qd_M_isUnchecked_31 ?_
    refine lv_iload F.1 F.2.1 qd_M_isUnchecked_34 (lv_at hl 3 rfl) ?_
    obtain ⟨hi2, hM⟩ := qck_ok hM
    refine ml_M_pileS F hK w hi2 qd_M_isUnchecked_36 ?_
    refine lv_istore (lv' := [(5, .int (S 29 v4.toNatClampNeg)), (0, .ref (ad 0)), (2, .int v2), (3, .int v3), (4, .int v4)]) F.1 F.2.1 qd_M_isUnchecked_37 hl (by decide) rfl (fun ls hl => ?_)
    refine lv_aload_n F.1 F.2.1 qd_M_isUnchecked_39 rfl (lv_at hl 1 rfl) ?_
    refine mg_M_sort F hK w qk_664 qd_M_isUnchecked_40 ?_
    refine lv_iload F.1 F.2.1 qd_M_isUnchecked_43 (lv_at hl 0 rfl) ?_
    obtain ⟨hi3, hM⟩ := qck_ok hM
    refine ml_M_sort F hK w hi3 qd_M_isUnchecked_45 ?_
    refine lv_iconst (v := 3) F.1 F.2.1 qd_M_isUnchecked_46 (by decide) ?_
    refine lv_icmp_ne (tgt := 90) F.1 F.2.1 qd_M_isUnchecked_47 (by decide) (fun hc4 => ?_) (fun hc4 => ?_)
    · rw [if_neg hc4] at hM
      refine lv_aload_n F.1 F.2.1 qd_M_isUnchecked_90 rfl (lv_at hl 1 rfl) ?_
      refine lv_iload F.1 F.2.1 qd_M_isUnchecked_91 (lv_at hl 0 rfl) ?_
      obtain ⟨q5, hq6, hM⟩ := qbd hM
      refine m_calli F hK hN hA w (c_M_isOfClass l D ad cI cZ hq6) qk_900 qk_902 qs_M_isOfClass qk_8 qk_903 qv_M_isOfClass rfl rfl ⟨Nat.le_trans (by decide) hR.1, Nat.le_trans (by decide) hR.2⟩ (ci := 6) rfl (j := 0) rfl hl.1 rfl (Nat.le_of_ble_eq_true rfl) qd_M_isUnchecked_93 (fun H locs w => ?_)
      refine lv_if_eq (tgt := 147) F.1 F.2.1 qd_M_isUnchecked_96 (by decide) (fun hc7 => ?_) (fun hc7 => ?_)
      · rw [if_pos hc7] at hM
        refine lv_iinc (v := (v4 + (1 : Int32))) (lv' := [(4, .int (v4 + (1 : Int32))), (5, .int (S 29 v4.toNatClampNeg)), (0, .ref (ad 0)), (2, .int v2), (3, .int v3)]) F.1 F.2.1 qd_M_isUnchecked_147 hl (k := 4) rfl rfl (by decide) rfl (fun ls hl => ?_)
        refine lv_goto (tgt := 24) F.1 F.2.1 qd_M_isUnchecked_150 (by decide) ?_
        exact hk_24 _ _ _ _ hM w (lv_sub hl [2, 3, 4, 0] rfl)
      · rw [if_neg hc7] at hM
        refine lv_aload_n F.1 F.2.1 qd_M_isUnchecked_99 rfl (lv_at hl 1 rfl) ?_
        refine mg_M_isBelow F hK w qk_673 qd_M_isUnchecked_100 ?_
        refine lv_bipush (v := 12) F.1 F.2.1 qd_M_isUnchecked_103 (by decide) ?_
        refine lv_aload_n F.1 F.2.1 qd_M_isUnchecked_105 rfl (lv_at hl 1 rfl) ?_
        refine mg_M_first F hK w qk_665 qd_M_isUnchecked_106 ?_
        refine lv_iload F.1 F.2.1 qd_M_isUnchecked_109 (lv_at hl 0 rfl) ?_
        obtain ⟨hi8, hM⟩ := qck_ok hM
        refine ml_M_first F hK w hi8 qd_M_isUnchecked_111 ?_
        refine lv_imul F.1 F.2.1 qd_M_isUnchecked_112 ?_
        refine lv_aload_n F.1 F.2.1 qd_M_isUnchecked_113 rfl (lv_at hl 1 rfl) ?_
        refine mg_M_first F hK w qk_665 qd_M_isUnchecked_114 ?_
        refine lv_iload_n F.1 F.2.1 qd_M_isUnchecked_117 rfl (lv_at hl 2 rfl) ?_
        obtain ⟨hi9, hM⟩ := qck_ok hM
        refine ml_M_first F hK w hi9 qd_M_isUnchecked_118 ?_
        refine lv_iadd F.1 F.2.1 qd_M_isUnchecked_119 ?_
        obtain ⟨hi10, hM⟩ := qck_ok hM
        refine ml_M_isBelow F hK w hi10 qd_M_isUnchecked_120 ?_
        refine lv_if_eq (tgt := 147) F.1 F.2.1 qd_M_isUnchecked_121 (by decide) (fun hc11 => ?_) (fun hc11 => ?_)
        · rw [if_pos hc11] at hM
          refine lv_iinc (v := (v4 + (1 : Int32))) (lv' := [(4, .int (v4 + (1 : Int32))), (5, .int (S 29 v4.toNatClampNeg)), (0, .ref (ad 0)), (2, .int v2), (3, .int v3)]) F.1 F.2.1 qd_M_isUnchecked_147 hl (k := 4) rfl rfl (by decide) rfl (fun ls hl => ?_)
          refine lv_goto (tgt := 24) F.1 F.2.1 qd_M_isUnchecked_150 (by decide) ?_
          exact hk_24 _ _ _ _ hM w (lv_sub hl [2, 3, 4, 0] rfl)
        · rw [if_neg hc11] at hM
          refine lv_aload_n F.1 F.2.1 qd_M_isUnchecked_124 rfl (lv_at hl 1 rfl) ?_
          refine mg_M_sort F hK w qk_664 qd_M_isUnchecked_125 ?_
          refine lv_aload_n F.1 F.2.1 qd_M_isUnchecked_128 rfl (lv_at hl 1 rfl) ?_
          refine lv_iload F.1 F.2.1 qd_M_isUnchecked_129 (lv_at hl 0 rfl) ?_
          refine lv_aload_n F.1 F.2.1 qd_M_isUnchecked_131 rfl (lv_at hl 1 rfl) ?_
          refine mg_M_first F hK w qk_665 qd_M_isUnchecked_132 ?_
          refine lv_iload_n F.1 F.2.1 qd_M_isUnchecked_135 rfl (lv_at hl 2 rfl) ?_
          obtain ⟨hi12, hM⟩ := qck_ok hM
          refine ml_M_first F hK w hi12 qd_M_isUnchecked_136 ?_
          obtain ⟨q13, hq14, hM⟩ := qbd hM
          refine m_calli F hK hN hA w (c_M_asClass l D ad cI cZ hq14) qk_904 qk_906 qs_M_asClass qk_8 qk_907 qv_M_asClass rfl rfl ⟨Nat.le_trans (by decide) hR.1, Nat.le_trans (by decide) hR.2⟩ (ci := 6) rfl (j := 0) rfl hl.1 rfl (Nat.le_of_ble_eq_true rfl) qd_M_isUnchecked_137 (fun H locs w => ?_)
          obtain ⟨hi15, hM⟩ := qck_ok hM
          refine ml_M_sort F hK w hi15 qd_M_isUnchecked_140 ?_
          refine lv_iconst (v := 1) F.1 F.2.1 qd_M_isUnchecked_141 (by decide) ?_
          refine lv_icmp_ne (tgt := 147) F.1 F.2.1 qd_M_isUnchecked_142 (by decide) (fun hc16 => ?_) (fun hc16 => ?_)
          · rw [if_neg hc16] at hM
            refine lv_iinc (v := (v4 + (1 : Int32))) (lv' := [(4, .int (v4 + (1 : Int32))), (5, .int (S 29 v4.toNatClampNeg)), (0, .ref (ad 0)), (2, .int v2), (3, .int v3)]) F.1 F.2.1 qd_M_isUnchecked_147 hl (k := 4) rfl rfl (by decide) rfl (fun ls hl => ?_)
            refine lv_goto (tgt := 24) F.1 F.2.1 qd_M_isUnchecked_150 (by decide) ?_
            exact hk_24 _ _ _ _ hM w (lv_sub hl [2, 3, 4, 0] rfl)
          · rw [if_pos hc16] at hM
            refine lv_iconst (v := 1) F.1 F.2.1 qd_M_isUnchecked_145 (by decide) ?_
            cases hM
            exact hQ _ _ _ _ qd_M_isUnchecked_146 w
    · rw [if_pos hc4] at hM
      refine lv_iconst (v := 0) F.1 F.2.1 qd_M_isUnchecked_50 (by decide) ?_
      refine lv_istore (lv' := [(6, .int (0 : Int32)), (5, .int (S 29 v4.toNatClampNeg)), (0, .ref (ad 0)), (2, .int v2), (3, .int v3), (4, .int v4)]) F.1 F.2.1 qd_M_isUnchecked_51 hl (by decide) rfl (fun ls hl => ?_)
      exact t_M_isUnchecked_53 F hR hK hN hA hQ hk_24 qfu _ _ _ _ _ _ hM w (lv_sub hl [2, 3, 4, 5, 1, 0] rfl)
set_option maxRecDepth 100000 in
set_option maxHeartbeats 4000000 in
theorem t_M_isUnchecked_24 {p : Program} {l : Launch} {e : Env} {R : Room} {s : State} {m : MethodId} {args : Array Value} {below : List Frame} {meth : Method} {c : Code} {Q : State → Prop} {D : va_G} {ad : Nat → Nat} {cI cZ : ClassId} {A : Nat → Prop} (F : CallFix p m c qb_M_isUnchecked 7 s args qtb "CaptureSubtypesModel") (hR : 6 ≤ R.frames ∧ 152 ≤ R.locals) (hK : va_K D qcl [(cI, .int), (cZ, .boolean)] s) (hN : qnests mns s) (hA : ∀ q, s.heap.size ≤ q → A q) {res : (Bool × (Nat → Nat → Int32))} (hQ : ∀ (H : Heap) (locs : List Loc) (pc : Nat) (ls : Array Slot), decode qb_M_isUnchecked pc = .ok (.ireturn, 1) → mW D ad cI cZ A s.heap res.2 H locs → W p l e R s m args below meth c H locs 0 0 Q (F0 m pc ls [.int (qB res.1)])) : ∀ (n : Nat) (S : (Nat → Nat → Int32)) (v2 v3 v4 : Int32) (hM : f_M_isUnchecked_24 n S v2 v3 v4 = some res) {H : Heap} {locs : List Loc} {ls : Array Slot} (w : mW D ad cI cZ A s.heap S H locs) (hl : lv_has ls 7 [(0, .ref (ad 0)), (2, .int v2), (3, .int v3), (4, .int v4)]), W p l e R s m args below meth c H locs 0 0 Q (F0 m 24 ls []) := by
  intro n
  induction n with
  | zero => intro S v2 v3 v4 hM; exact absurd hM (by simp [f_M_isUnchecked_24])
  | succ n ih => intro S v2 v3 v4 hM H locs ls w hl; exact tb_M_isUnchecked_24 F hR hK hN hA hQ (k_24 := f_M_isUnchecked_24 n) (fun S v2 v3 v4 hM H locs ls w hl => ih S v2 v3 v4 hM w hl) S v2 v3 v4 hM w hl
set_option maxRecDepth 100000 in
set_option maxHeartbeats 4000000 in
theorem t_M_isUnchecked {p : Program} {l : Launch} {e : Env} {R : Room} {s : State} {m : MethodId} {args : Array Value} {below : List Frame} {meth : Method} {c : Code} {Q : State → Prop} {D : va_G} {ad : Nat → Nat} {cI cZ : ClassId} {A : Nat → Prop} (F : CallFix p m c qb_M_isUnchecked 7 s args qtb "CaptureSubtypesModel") (hR : 6 ≤ R.frames ∧ 152 ≤ R.locals) (hK : va_K D qcl [(cI, .int), (cZ, .boolean)] s) (hN : qnests mns s) (hA : ∀ q, s.heap.size ≤ q → A q) {res : (Bool × (Nat → Nat → Int32))} (hQ : ∀ (H : Heap) (locs : List Loc) (pc : Nat) (ls : Array Slot), decode qb_M_isUnchecked pc = .ok (.ireturn, 1) → mW D ad cI cZ A s.heap res.2 H locs → W p l e R s m args below meth c H locs 0 0 Q (F0 m pc ls [.int (qB res.1)])) (S : (Nat → Nat → Int32)) (a1 a2 : Int32) (hM : f_M_isUnchecked S a1 a2 = some res) {H : Heap} {locs : List Loc} {ls : Array Slot} (w : mW D ad cI cZ A s.heap S H locs) (hl : lv_has ls 7 [(0, .ref (ad 0)), (1, .int a1), (2, .int a2)]) : W p l e R s m args below meth c H locs 0 0 Q (F0 m 0 ls []) := by
  unfold f_M_isUnchecked at hM
  refine lv_aload_n F.1 F.2.1 qd_M_isUnchecked_0 rfl (lv_at hl 0 rfl) ?_
  refine mg_M_sort F hK w qk_664 qd_M_isUnchecked_1 ?_
  refine lv_iload_n F.1 F.2.1 qd_M_isUnchecked_4 rfl (lv_at hl 2 rfl) ?_
  obtain ⟨hi1, hM⟩ := qck_ok hM
  refine ml_M_sort F hK w hi1 qd_M_isUnchecked_5 ?_
  refine lv_iconst (v := 2) F.1 F.2.1 qd_M_isUnchecked_6 (by decide) ?_
  refine lv_icmp_eq (tgt := 12) F.1 F.2.1 qd_M_isUnchecked_7 (by decide) (fun hc2 => ?_) (fun hc2 => ?_)
  · rw [if_pos hc2] at hM
    refine lv_iconst (v := 1) F.1 F.2.1 qd_M_isUnchecked_12 (by decide) ?_
    refine lv_istore_n (lv' := [(3, .int (1 : Int32)), (0, .ref (ad 0)), (1, .int a1), (2, .int a2)]) F.1 F.2.1 qd_M_isUnchecked_13 rfl hl (by decide) rfl (fun ls hl => ?_)
    refine lv_aload_n F.1 F.2.1 qd_M_isUnchecked_14 rfl (lv_at hl 1 rfl) ?_
    refine mg_M_pileS F hK w qk_684 qd_M_isUnchecked_15 ?_
    refine lv_iconst (v := 0) F.1 F.2.1 qd_M_isUnchecked_18 (by decide) ?_
    refine lv_iload_n F.1 F.2.1 qd_M_isUnchecked_19 rfl (lv_at hl 2 rfl) ?_
    obtain ⟨hi3, hM⟩ := qck_ok hM
    refine ms_M_pileS F hK w hi3 qd_M_isUnchecked_20 (fun H locs w => ?_)
    refine lv_iconst (v := 0) F.1 F.2.1 qd_M_isUnchecked_21 (by decide) ?_
    refine lv_istore (lv' := [(4, .int (0 : Int32)), (3, .int (1 : Int32)), (0, .ref (ad 0)), (1, .int a1), (2, .int a2)]) F.1 F.2.1 qd_M_isUnchecked_22 hl (by decide) rfl (fun ls hl => ?_)
    exact t_M_isUnchecked_24 F hR hK hN hA hQ  qfu _ _ _ _ hM w (lv_sub hl [2, 4, 1, 0] rfl)
  · rw [if_neg hc2] at hM
    refine lv_iconst (v := 0) F.1 F.2.1 qd_M_isUnchecked_10 (by decide) ?_
    cases hM
    exact hQ _ _ _ _ qd_M_isUnchecked_11 w
set_option maxRecDepth 100000 in
theorem c_M_isUnchecked (l : Launch) (D : va_G) (ad : Nat → Nat) (cI cZ : ClassId) {S : (Nat → Nat → Int32)} {a1 a2 : Int32} {res : (Bool × (Nat → Nat → Int32))} (hM : f_M_isUnchecked S a1 a2 = some res) : mMi l qy_M_isUnchecked qb_M_isUnchecked 7 (some .boolean) { frames := 6, cells := 0, slots := 0, locals := 152 } D ad cI cZ S [.ref (ad 0), .int a1, .int a2] (qB res.1) res.2 := m_ofz (by decide +kernel) (Nat.le_of_ble_eq_true rfl) (fun p e s m args below meth c Q A ls F hK hN hA w hl hQ => t_M_isUnchecked F ⟨Nat.le_refl _, Nat.le_refl _⟩ hK hN hA hQ S a1 a2 hM w hl)
-- M_is
def f_M_is (S : (Nat → Nat → Int32)) (a1 a2 : Int32) : Option (Int32 × (Nat → Nat → Int32)) := (f_M_isAsked S a1).bind (fun q1 => if (qB q1) = 0 then (some ((-2 : Int32), S)) else ((f_M_isAsked S a2).bind (fun q4 => if (qB q4) = 0 then (some ((-2 : Int32), S)) else ((f_M_order S).bind (fun q7 => (f_M_fresh q7).bind (fun q9 => (f_M_isA q9 a1 a2).bind (fun q11 => if (qB q11.1) = 0 then ((f_M_isUnchecked q11.2 a1 a2).bind (fun q14 => if (qB q14.1) = 0 then (some ((0 : Int32), q14.2)) else (some ((2 : Int32), q14.2)))) else (some ((1 : Int32), q11.2)))))))))
set_option maxRecDepth 100000 in
set_option maxHeartbeats 4000000 in
theorem t_M_is {p : Program} {l : Launch} {e : Env} {R : Room} {s : State} {m : MethodId} {args : Array Value} {below : List Frame} {meth : Method} {c : Code} {Q : State → Prop} {D : va_G} {ad : Nat → Nat} {cI cZ : ClassId} {A : Nat → Prop} (F : CallFix p m c qb_M_is 3 s args qtb "CaptureSubtypesModel") (hR : 9 ≤ R.frames ∧ 225 ≤ R.locals) (hK : va_K D qcl [(cI, .int), (cZ, .boolean)] s) (hN : qnests mns s) (hA : ∀ q, s.heap.size ≤ q → A q) {res : (Int32 × (Nat → Nat → Int32))} (hQ : ∀ (H : Heap) (locs : List Loc) (pc : Nat) (ls : Array Slot), decode qb_M_is pc = .ok (.ireturn, 1) → mW D ad cI cZ A s.heap res.2 H locs → W p l e R s m args below meth c H locs 0 0 Q (F0 m pc ls [.int res.1])) (S : (Nat → Nat → Int32)) (a1 a2 : Int32) (hM : f_M_is S a1 a2 = some res) {H : Heap} {locs : List Loc} {ls : Array Slot} (w : mW D ad cI cZ A s.heap S H locs) (hl : lv_has ls 3 [(0, .ref (ad 0)), (1, .int a1), (2, .int a2)]) : W p l e R s m args below meth c H locs 0 0 Q (F0 m 0 ls []) := by
  unfold f_M_is at hM
  refine lv_aload_n F.1 F.2.1 qd_M_is_0 rfl (lv_at hl 0 rfl) ?_
  refine lv_iload_n F.1 F.2.1 qd_M_is_1 rfl (lv_at hl 1 rfl) ?_
  obtain ⟨q1, hq2, hM⟩ := qbd hM
  refine m_calli F hK hN hA w (c_M_isAsked l D ad cI cZ hq2) qk_860 qk_862 qs_M_isAsked qk_8 qk_863 qv_M_isAsked rfl rfl ⟨Nat.le_trans (by decide) hR.1, Nat.le_trans (by decide) hR.2⟩ (ci := 6) rfl (j := 0) rfl hl.1 rfl (Nat.le_of_ble_eq_true rfl) qd_M_is_2 (fun H locs w => ?_)
  refine lv_if_eq (tgt := 16) F.1 F.2.1 qd_M_is_5 (by decide) (fun hc3 => ?_) (fun hc3 => ?_)
  · rw [if_pos hc3] at hM
    refine lv_bipush (v := (-2)) F.1 F.2.1 qd_M_is_16 (by decide) ?_
    cases hM
    exact hQ _ _ _ _ qd_M_is_18 w
  · rw [if_neg hc3] at hM
    refine lv_aload_n F.1 F.2.1 qd_M_is_8 rfl (lv_at hl 0 rfl) ?_
    refine lv_iload_n F.1 F.2.1 qd_M_is_9 rfl (lv_at hl 2 rfl) ?_
    obtain ⟨q4, hq5, hM⟩ := qbd hM
    refine m_calli F hK hN hA w (c_M_isAsked l D ad cI cZ hq5) qk_860 qk_862 qs_M_isAsked qk_8 qk_863 qv_M_isAsked rfl rfl ⟨Nat.le_trans (by decide) hR.1, Nat.le_trans (by decide) hR.2⟩ (ci := 6) rfl (j := 0) rfl hl.1 rfl (Nat.le_of_ble_eq_true rfl) qd_M_is_10 (fun H locs w => ?_)
    refine lv_if_ne (tgt := 19) F.1 F.2.1 qd_M_is_13 (by decide) (fun hc6 => ?_) (fun hc6 => ?_)
    · rw [if_neg hc6] at hM
      refine lv_aload_n F.1 F.2.1 qd_M_is_19 rfl (lv_at hl 0 rfl) ?_
      obtain ⟨q7, hq8, hM⟩ := qbd hM
      refine m_callv F hK hN hA w (c_M_order l D ad cI cZ hq8) qk_820 qk_822 qs_M_order qk_8 qk_823 qv_M_order rfl rfl ⟨Nat.le_trans (by decide) hR.1, Nat.le_trans (by decide) hR.2⟩ (ci := 6) rfl (j := 0) rfl hl.1 rfl (Nat.le_of_ble_eq_true rfl) qd_M_is_20 (fun H locs w => ?_)
      refine lv_aload_n F.1 F.2.1 qd_M_is_23 rfl (lv_at hl 0 rfl) ?_
      obtain ⟨q9, hq10, hM⟩ := qbd hM
      refine m_callv F hK hN hA w (c_M_fresh l D ad cI cZ hq10) qk_651 qk_653 qs_M_fresh qk_8 qk_654 qv_M_fresh rfl rfl ⟨Nat.le_trans (by decide) hR.1, Nat.le_trans (by decide) hR.2⟩ (ci := 6) rfl (j := 0) rfl hl.1 rfl (Nat.le_of_ble_eq_true rfl) qd_M_is_24 (fun H locs w => ?_)
      refine lv_aload_n F.1 F.2.1 qd_M_is_27 rfl (lv_at hl 0 rfl) ?_
      refine lv_iload_n F.1 F.2.1 qd_M_is_28 rfl (lv_at hl 1 rfl) ?_
      refine lv_iload_n F.1 F.2.1 qd_M_is_29 rfl (lv_at hl 2 rfl) ?_
      obtain ⟨q11, hq12, hM⟩ := qbd hM
      refine m_calli F hK hN hA w (c_M_isA l D ad cI cZ hq12) qk_864 qk_866 qs_M_isA qk_8 qk_867 qv_M_isA rfl rfl ⟨Nat.le_trans (by decide) hR.1, Nat.le_trans (by decide) hR.2⟩ (ci := 6) rfl (j := 0) rfl hl.1 rfl (Nat.le_of_ble_eq_true rfl) qd_M_is_30 (fun H locs w => ?_)
      refine lv_if_eq (tgt := 40) F.1 F.2.1 qd_M_is_33 (by decide) (fun hc13 => ?_) (fun hc13 => ?_)
      · rw [if_pos hc13] at hM
        refine lv_aload_n F.1 F.2.1 qd_M_is_40 rfl (lv_at hl 0 rfl) ?_
        refine lv_iload_n F.1 F.2.1 qd_M_is_41 rfl (lv_at hl 1 rfl) ?_
        refine lv_iload_n F.1 F.2.1 qd_M_is_42 rfl (lv_at hl 2 rfl) ?_
        obtain ⟨q14, hq15, hM⟩ := qbd hM
        refine m_calli F hK hN hA w (c_M_isUnchecked l D ad cI cZ hq15) qk_940 qk_942 qs_M_isUnchecked qk_8 qk_943 qv_M_isUnchecked rfl rfl ⟨Nat.le_trans (by decide) hR.1, Nat.le_trans (by decide) hR.2⟩ (ci := 6) rfl (j := 0) rfl hl.1 rfl (Nat.le_of_ble_eq_true rfl) qd_M_is_43 (fun H locs w => ?_)
        refine lv_if_eq (tgt := 53) F.1 F.2.1 qd_M_is_46 (by decide) (fun hc16 => ?_) (fun hc16 => ?_)
        · rw [if_pos hc16] at hM
          refine lv_iconst (v := 0) F.1 F.2.1 qd_M_is_53 (by decide) ?_
          cases hM
          exact hQ _ _ _ _ qd_M_is_54 w
        · rw [if_neg hc16] at hM
          refine lv_iconst (v := 2) F.1 F.2.1 qd_M_is_49 (by decide) ?_
          refine lv_goto (tgt := 54) F.1 F.2.1 qd_M_is_50 (by decide) ?_
          cases hM
          exact hQ _ _ _ _ qd_M_is_54 w
      · rw [if_neg hc13] at hM
        refine lv_iconst (v := 1) F.1 F.2.1 qd_M_is_36 (by decide) ?_
        refine lv_goto (tgt := 54) F.1 F.2.1 qd_M_is_37 (by decide) ?_
        cases hM
        exact hQ _ _ _ _ qd_M_is_54 w
    · rw [if_pos hc6] at hM
      refine lv_bipush (v := (-2)) F.1 F.2.1 qd_M_is_16 (by decide) ?_
      cases hM
      exact hQ _ _ _ _ qd_M_is_18 w
set_option maxRecDepth 100000 in
theorem c_M_is (l : Launch) (D : va_G) (ad : Nat → Nat) (cI cZ : ClassId) {S : (Nat → Nat → Int32)} {a1 a2 : Int32} {res : (Int32 × (Nat → Nat → Int32))} (hM : f_M_is S a1 a2 = some res) : mMi l qy_M_is qb_M_is 3 (some .int) { frames := 9, cells := 0, slots := 0, locals := 225 } D ad cI cZ S [.ref (ad 0), .int a1, .int a2] res.1 res.2 := m_ofi (by decide +kernel) (Nat.le_of_ble_eq_true rfl) (fun p e s m args below meth c Q A ls F hK hN hA w hl hQ => t_M_is F ⟨Nat.le_refl _, Nat.le_refl _⟩ hK hN hA hQ S a1 a2 hM w hl)
-- M_erase
def fb_M_erase_99 (k_99 : (Nat → Nat → Int32) → Int32 → Int32 → Int32 → Option (Int32 × (Nat → Nat → Int32))) (S : (Nat → Nat → Int32)) (v2 v3 v4 : Int32) : Option (Int32 × (Nat → Nat → Int32)) := if v2 ≤ v4 then (some (v3, S)) else ((f_M_come S (4 : Int32) (-1 : Int32) v3 (-1 : Int32)).bind (fun q2 => k_99 q2.2 v2 q2.1 (v4 + (1 : Int32))))
def f_M_erase_99 : Nat → (Nat → Nat → Int32) → Int32 → Int32 → Int32 → Option (Int32 × (Nat → Nat → Int32))
  | 0 => fun _ _ _ _ => none
  | n + 1 => fun S v2 v3 v4 => fb_M_erase_99 (f_M_erase_99 n) S v2 v3 v4
def f_M_erase_40 (k_4 : (Nat → Nat → Int32) → Int32 → Int32 → Option (Int32 × (Nat → Nat → Int32))) (S : (Nat → Nat → Int32)) (v3 s1 s2 : Int32) : Option (Int32 × (Nat → Nat → Int32)) := qck (qin v3 9000) (if (S 9 v3.toNatClampNeg) = (4 : Int32) then (qck (qin v3 9000) (k_4 S (s1 + s2) (S 11 v3.toNatClampNeg))) else ((f_M_boundOf S v3 (0 : Int32)).bind (fun q3 => k_4 S (s1 + s2) q3)))
def f_M_erase_24 (k_4 : (Nat → Nat → Int32) → Int32 → Int32 → Option (Int32 × (Nat → Nat → Int32))) (S : (Nat → Nat → Int32)) (v2 v3 : Int32) : Option (Int32 × (Nat → Nat → Int32)) := qck (qin v3 9000) (if (S 9 v3.toNatClampNeg) = (4 : Int32) then (f_M_erase_40 k_4 S v3 v2 (1 : Int32)) else (f_M_erase_40 k_4 S v3 v2 (0 : Int32)))
def fb_M_erase_4 (k_4 : (Nat → Nat → Int32) → Int32 → Int32 → Option (Int32 × (Nat → Nat → Int32))) (S : (Nat → Nat → Int32)) (v2 v3 : Int32) : Option (Int32 × (Nat → Nat → Int32)) := qck (qin v3 9000) (if (S 9 v3.toNatClampNeg) = (4 : Int32) then (f_M_erase_24 k_4 S v2 v3) else (qck (qin v3 9000) (if (S 9 v3.toNatClampNeg) = (3 : Int32) then (f_M_erase_24 k_4 S v2 v3) else (qck (qin v3 9000) (if (S 9 v3.toNatClampNeg) = (2 : Int32) then (qck (qin v3 9000) ((f_M_bare S (S 10 v3.toNatClampNeg)).bind (fun q8 => f_M_erase_99  qfu q8.2 v2 q8.1 (0 : Int32)))) else (f_M_erase_99  qfu S v2 v3 (0 : Int32)))))))
def f_M_erase_4 : Nat → (Nat → Nat → Int32) → Int32 → Int32 → Option (Int32 × (Nat → Nat → Int32))
  | 0 => fun _ _ _ => none
  | n + 1 => fun S v2 v3 => fb_M_erase_4 (f_M_erase_4 n) S v2 v3
def f_M_erase (S : (Nat → Nat → Int32)) (a1 : Int32) : Option (Int32 × (Nat → Nat → Int32)) := f_M_erase_4  qfu S (0 : Int32) a1
set_option maxRecDepth 100000 in
set_option maxHeartbeats 4000000 in
theorem tb_M_erase_99 {p : Program} {l : Launch} {e : Env} {R : Room} {s : State} {m : MethodId} {args : Array Value} {below : List Frame} {meth : Method} {c : Code} {Q : State → Prop} {D : va_G} {ad : Nat → Nat} {cI cZ : ClassId} {A : Nat → Prop} (F : CallFix p m c qb_M_erase 5 s args qtb "CaptureSubtypesModel") (hR : 4 ≤ R.frames ∧ 96 ≤ R.locals) (hK : va_K D qcl [(cI, .int), (cZ, .boolean)] s) (hN : qnests mns s) (hA : ∀ q, s.heap.size ≤ q → A q) {res : (Int32 × (Nat → Nat → Int32))} (hQ : ∀ (H : Heap) (locs : List Loc) (pc : Nat) (ls : Array Slot), decode qb_M_erase pc = .ok (.ireturn, 1) → mW D ad cI cZ A s.heap res.2 H locs → W p l e R s m args below meth c H locs 0 0 Q (F0 m pc ls [.int res.1])) {k_99 : (Nat → Nat → Int32) → Int32 → Int32 → Int32 → Option (Int32 × (Nat → Nat → Int32))} (hk_99 : ∀ (S : Nat → Nat → Int32) (v2 v3 v4 : Int32), k_99 S v2 v3 v4 = some res → ∀ {H : Heap} {locs : List Loc} {ls : Array Slot}, mW D ad cI cZ A s.heap S H locs → lv_has ls 5 [(0, .ref (ad 0)), (2, .int v2), (3, .int v3), (4, .int v4)] → W p l e R s m args below meth c H locs 0 0 Q (F0 m 99 ls [])) (S : (Nat → Nat → Int32)) (v2 v3 v4 : Int32) (hM : fb_M_erase_99 k_99 S v2 v3 v4 = some res) {H : Heap} {locs : List Loc} {ls : Array Slot} (w : mW D ad cI cZ A s.heap S H locs) (hl : lv_has ls 5 [(0, .ref (ad 0)), (2, .int v2), (3, .int v3), (4, .int v4)]) : W p l e R s m args below meth c H locs 0 0 Q (F0 m 99 ls []) := by
  unfold fb_M_erase_99 at hM
  refine lv_iload F.1 F.2.1 qd_M_erase_99 (lv_at hl 3 rfl) ?_
  refine lv_iload_n F.1 F.2.1 qd_M_erase_101 rfl (lv_at hl 1 rfl) ?_
  refine lv_icmp_ge (tgt := 120) F.1 F.2.1 qd_M_erase_102 (by decide) (fun hc1 => ?_) (fun hc1 => ?_)
  · rw [if_pos hc1] at hM
    refine lv_iload_n F.1 F.2.1 qd_M_erase_120 rfl (lv_at hl 2 rfl) ?_
    cases hM
    exact hQ _ _ _ _ qd_M_erase_121 w
  · rw [if_neg hc1] at hM
    refine lv_aload_n F.1 F.2.1 qd_M_erase_105 rfl (lv_at hl 0 rfl) ?_
    refine lv_iconst (v := 4) F.1 F.2.1 qd_M_erase_106 (by decide) ?_
    refine lv_iconst (v := (-1)) F.1 F.2.1 qd_M_erase_107 (by decide) ?_
    refine lv_iload_n F.1 F.2.1 qd_M_erase_108 rfl (lv_at hl 2 rfl) ?_
    refine lv_iconst (v := (-1)) F.1 F.2.1 qd_M_erase_109 (by decide) ?_
    obtain ⟨q2, hq3, hM⟩ := qbd hM
    refine m_calli F hK hN hA w (c_M_come l D ad cI cZ hq3) qk_916 qk_918 qs_M_come qk_8 qk_919 qv_M_come rfl rfl ⟨Nat.le_trans (by decide) hR.1, Nat.le_trans (by decide) hR.2⟩ (ci := 6) rfl (j := 0) rfl hl.1 rfl (Nat.le_of_ble_eq_true rfl) qd_M_erase_110 (fun H locs w => ?_)
    refine lv_istore_n (lv' := [(3, .int q2.1), (0, .ref (ad 0)), (2, .int v2), (4, .int v4)]) F.1 F.2.1 qd_M_erase_113 rfl hl (by decide) rfl (fun ls hl => ?_)
    refine lv_iinc (v := (v4 + (1 : Int32))) (lv' := [(4, .int (v4 + (1 : Int32))), (3, .int q2.1), (0, .ref (ad 0)), (2, .int v2)]) F.1 F.2.1 qd_M_erase_114 hl (k := 3) rfl rfl (by decide) rfl (fun ls hl => ?_)
    refine lv_goto (tgt := 99) F.1 F.2.1 qd_M_erase_117 (by decide) ?_
    exact hk_99 _ _ _ _ hM w (lv_sub hl [2, 3, 1, 0] rfl)
set_option maxRecDepth 100000 in
set_option maxHeartbeats 4000000 in
theorem t_M_erase_99 {p : Program} {l : Launch} {e : Env} {R : Room} {s : State} {m : MethodId} {args : Array Value} {below : List Frame} {meth : Method} {c : Code} {Q : State → Prop} {D : va_G} {ad : Nat → Nat} {cI cZ : ClassId} {A : Nat → Prop} (F : CallFix p m c qb_M_erase 5 s args qtb "CaptureSubtypesModel") (hR : 4 ≤ R.frames ∧ 96 ≤ R.locals) (hK : va_K D qcl [(cI, .int), (cZ, .boolean)] s) (hN : qnests mns s) (hA : ∀ q, s.heap.size ≤ q → A q) {res : (Int32 × (Nat → Nat → Int32))} (hQ : ∀ (H : Heap) (locs : List Loc) (pc : Nat) (ls : Array Slot), decode qb_M_erase pc = .ok (.ireturn, 1) → mW D ad cI cZ A s.heap res.2 H locs → W p l e R s m args below meth c H locs 0 0 Q (F0 m pc ls [.int res.1])) : ∀ (n : Nat) (S : (Nat → Nat → Int32)) (v2 v3 v4 : Int32) (hM : f_M_erase_99 n S v2 v3 v4 = some res) {H : Heap} {locs : List Loc} {ls : Array Slot} (w : mW D ad cI cZ A s.heap S H locs) (hl : lv_has ls 5 [(0, .ref (ad 0)), (2, .int v2), (3, .int v3), (4, .int v4)]), W p l e R s m args below meth c H locs 0 0 Q (F0 m 99 ls []) := by
  intro n
  induction n with
  | zero => intro S v2 v3 v4 hM; exact absurd hM (by simp [f_M_erase_99])
  | succ n ih => intro S v2 v3 v4 hM H locs ls w hl; exact tb_M_erase_99 F hR hK hN hA hQ (k_99 := f_M_erase_99 n) (fun S v2 v3 v4 hM H locs ls w hl => ih S v2 v3 v4 hM w hl) S v2 v3 v4 hM w hl
set_option maxRecDepth 100000 in
set_option maxHeartbeats 4000000 in
theorem t_M_erase_40 {p : Program} {l : Launch} {e : Env} {R : Room} {s : State} {m : MethodId} {args : Array Value} {below : List Frame} {meth : Method} {c : Code} {Q : State → Prop} {D : va_G} {ad : Nat → Nat} {cI cZ : ClassId} {A : Nat → Prop} (F : CallFix p m c qb_M_erase 5 s args qtb "CaptureSubtypesModel") (hR : 4 ≤ R.frames ∧ 96 ≤ R.locals) (hK : va_K D qcl [(cI, .int), (cZ, .boolean)] s) (hN : qnests mns s) (hA : ∀ q, s.heap.size ≤ q → A q) {res : (Int32 × (Nat → Nat → Int32))} (hQ : ∀ (H : Heap) (locs : List Loc) (pc : Nat) (ls : Array Slot), decode qb_M_erase pc = .ok (.ireturn, 1) → mW D ad cI cZ A s.heap res.2 H locs → W p l e R s m args below meth c H locs 0 0 Q (F0 m pc ls [.int res.1])) {k_4 : (Nat → Nat → Int32) → Int32 → Int32 → Option (Int32 × (Nat → Nat → Int32))} (hk_4 : ∀ (S : Nat → Nat → Int32) (v2 v3 : Int32), k_4 S v2 v3 = some res → ∀ {H : Heap} {locs : List Loc} {ls : Array Slot}, mW D ad cI cZ A s.heap S H locs → lv_has ls 5 [(0, .ref (ad 0)), (2, .int v2), (3, .int v3)] → W p l e R s m args below meth c H locs 0 0 Q (F0 m 4 ls [])) (S : (Nat → Nat → Int32)) (v3 s1 s2 : Int32) (hM : f_M_erase_40 k_4 S v3 s1 s2 = some res) {H : Heap} {locs : List Loc} {ls : Array Slot} (w : mW D ad cI cZ A s.heap S H locs) (hl : lv_has ls 5 [(0, .ref (ad 0)), (3, .int v3)]) : W p l e R s m args below meth c H locs 0 0 Q (F0 m 40 ls [.int s2, .int s1]) := by
  unfold f_M_erase_40 at hM
  refine lv_iadd F.1 F.2.1 qd_M_erase_40 ?_
  refine lv_istore_n (lv' := [(2, .int (s1 + s2)), (0, .ref (ad 0)), (3, .int v3)]) F.1 F.2.1 qd_M_erase_41 rfl hl (by decide) rfl (fun ls hl => ?_)
  refine lv_aload_n F.1 F.2.1 qd_M_erase_42 rfl (lv_at hl 1 rfl) ?_
  refine mg_M_sort F hK w qk_664 qd_M_erase_43 ?_
  refine lv_iload_n F.1 F.2.1 qd_M_erase_46 rfl (lv_at hl 2 rfl) ?_
  obtain ⟨hi1, hM⟩ := qck_ok hM
  refine ml_M_sort F hK w hi1 qd_M_erase_47 ?_
  refine lv_iconst (v := 4) F.1 F.2.1 qd_M_erase_48 (by decide) ?_
  refine lv_icmp_ne (tgt := 61) F.1 F.2.1 qd_M_erase_49 (by decide) (fun hc2 => ?_) (fun hc2 => ?_)
  · rw [if_neg hc2] at hM
    refine lv_aload_n F.1 F.2.1 qd_M_erase_61 rfl (lv_at hl 1 rfl) ?_
    refine lv_iload_n F.1 F.2.1 qd_M_erase_62 rfl (lv_at hl 2 rfl) ?_
    refine lv_iconst (v := 0) F.1 F.2.1 qd_M_erase_63 (by decide) ?_
    obtain ⟨q3, hq4, hM⟩ := qbd hM
    refine m_calli F hK hN hA w (c_M_boundOf l D ad cI cZ hq4) qk_884 qk_886 qs_M_boundOf qk_8 qk_887 qv_M_boundOf rfl rfl ⟨Nat.le_trans (by decide) hR.1, Nat.le_trans (by decide) hR.2⟩ (ci := 6) rfl (j := 0) rfl hl.1 rfl (Nat.le_of_ble_eq_true rfl) qd_M_erase_64 (fun H locs w => ?_)
    refine lv_istore_n (lv' := [(3, .int q3), (2, .int (s1 + s2)), (0, .ref (ad 0))]) F.1 F.2.1 qd_M_erase_67 rfl hl (by decide) rfl (fun ls hl => ?_)
    refine lv_goto (tgt := 4) F.1 F.2.1 qd_M_erase_68 (by decide) ?_
    exact hk_4 _ _ _ hM w (lv_sub hl [2, 1, 0] rfl)
  · rw [if_pos hc2] at hM
    refine lv_aload_n F.1 F.2.1 qd_M_erase_52 rfl (lv_at hl 1 rfl) ?_
    refine mg_M_second F hK w qk_666 qd_M_erase_53 ?_
    refine lv_iload_n F.1 F.2.1 qd_M_erase_56 rfl (lv_at hl 2 rfl) ?_
    obtain ⟨hi5, hM⟩ := qck_ok hM
    refine ml_M_second F hK w hi5 qd_M_erase_57 ?_
    refine lv_goto (tgt := 67) F.1 F.2.1 qd_M_erase_58 (by decide) ?_
    refine lv_istore_n (lv' := [(3, .int (S 11 v3.toNatClampNeg)), (2, .int (s1 + s2)), (0, .ref (ad 0))]) F.1 F.2.1 qd_M_erase_67 rfl hl (by decide) rfl (fun ls hl => ?_)
    refine lv_goto (tgt := 4) F.1 F.2.1 qd_M_erase_68 (by decide) ?_
    exact hk_4 _ _ _ hM w (lv_sub hl [2, 1, 0] rfl)
set_option maxRecDepth 100000 in
set_option maxHeartbeats 4000000 in
theorem t_M_erase_24 {p : Program} {l : Launch} {e : Env} {R : Room} {s : State} {m : MethodId} {args : Array Value} {below : List Frame} {meth : Method} {c : Code} {Q : State → Prop} {D : va_G} {ad : Nat → Nat} {cI cZ : ClassId} {A : Nat → Prop} (F : CallFix p m c qb_M_erase 5 s args qtb "CaptureSubtypesModel") (hR : 4 ≤ R.frames ∧ 96 ≤ R.locals) (hK : va_K D qcl [(cI, .int), (cZ, .boolean)] s) (hN : qnests mns s) (hA : ∀ q, s.heap.size ≤ q → A q) {res : (Int32 × (Nat → Nat → Int32))} (hQ : ∀ (H : Heap) (locs : List Loc) (pc : Nat) (ls : Array Slot), decode qb_M_erase pc = .ok (.ireturn, 1) → mW D ad cI cZ A s.heap res.2 H locs → W p l e R s m args below meth c H locs 0 0 Q (F0 m pc ls [.int res.1])) {k_4 : (Nat → Nat → Int32) → Int32 → Int32 → Option (Int32 × (Nat → Nat → Int32))} (hk_4 : ∀ (S : Nat → Nat → Int32) (v2 v3 : Int32), k_4 S v2 v3 = some res → ∀ {H : Heap} {locs : List Loc} {ls : Array Slot}, mW D ad cI cZ A s.heap S H locs → lv_has ls 5 [(0, .ref (ad 0)), (2, .int v2), (3, .int v3)] → W p l e R s m args below meth c H locs 0 0 Q (F0 m 4 ls [])) (S : (Nat → Nat → Int32)) (v2 v3 : Int32) (hM : f_M_erase_24 k_4 S v2 v3 = some res) {H : Heap} {locs : List Loc} {ls : Array Slot} (w : mW D ad cI cZ A s.heap S H locs) (hl : lv_has ls 5 [(0, .ref (ad 0)), (2, .int v2), (3, .int v3)]) : W p l e R s m args below meth c H locs 0 0 Q (F0 m 24 ls []) := by
  unfold f_M_erase_24 at hM
  refine lv_iload_n F.1 F.2.1 qd_M_erase_24 rfl (lv_at hl 1 rfl) ?_
  refine lv_aload_n F.1 F.2.1 qd_M_erase_25 rfl (lv_at hl 0 rfl) ?_
  refine mg_M_sort F hK w qk_664 qd_M_erase_26 ?_
  refine lv_iload_n F.1 F.2.1 qd_M_erase_29 rfl (lv_at hl 2 rfl) ?_
  obtain ⟨hi1, hM⟩ := qck_ok hM
  refine ml_M_sort F hK w hi1 qd_M_erase_30 ?_
  refine lv_iconst (v := 4) F.1 F.2.1 qd_M_erase_31 (by decide) ?_
  refine lv_icmp_ne (tgt := 39) F.1 F.2.1 qd_M_erase_32 (by decide) (fun hc2 => ?_) (fun hc2 => ?_)
  · rw [if_neg hc2] at hM
    refine lv_iconst (v := 0) F.1 F.2.1 qd_M_erase_39 (by decide) ?_
    exact t_M_erase_40 F hR hK hN hA hQ hk_4 _ _ _ _ hM w (lv_sub hl [0, 2] rfl)
  · rw [if_pos hc2] at hM
    refine lv_iconst (v := 1) F.1 F.2.1 qd_M_erase_35 (by decide) ?_
    refine lv_goto (tgt := 40) F.1 F.2.1 qd_M_erase_36 (by decide) ?_
    exact t_M_erase_40 F hR hK hN hA hQ hk_4 _ _ _ _ hM w (lv_sub hl [0, 2] rfl)
set_option maxRecDepth 100000 in
set_option maxHeartbeats 4000000 in
theorem tb_M_erase_4 {p : Program} {l : Launch} {e : Env} {R : Room} {s : State} {m : MethodId} {args : Array Value} {below : List Frame} {meth : Method} {c : Code} {Q : State → Prop} {D : va_G} {ad : Nat → Nat} {cI cZ : ClassId} {A : Nat → Prop} (F : CallFix p m c qb_M_erase 5 s args qtb "CaptureSubtypesModel") (hR : 4 ≤ R.frames ∧ 96 ≤ R.locals) (hK : va_K D qcl [(cI, .int), (cZ, .boolean)] s) (hN : qnests mns s) (hA : ∀ q, s.heap.size ≤ q → A q) {res : (Int32 × (Nat → Nat → Int32))} (hQ : ∀ (H : Heap) (locs : List Loc) (pc : Nat) (ls : Array Slot), decode qb_M_erase pc = .ok (.ireturn, 1) → mW D ad cI cZ A s.heap res.2 H locs → W p l e R s m args below meth c H locs 0 0 Q (F0 m pc ls [.int res.1])) {k_4 : (Nat → Nat → Int32) → Int32 → Int32 → Option (Int32 × (Nat → Nat → Int32))} (hk_4 : ∀ (S : Nat → Nat → Int32) (v2 v3 : Int32), k_4 S v2 v3 = some res → ∀ {H : Heap} {locs : List Loc} {ls : Array Slot}, mW D ad cI cZ A s.heap S H locs → lv_has ls 5 [(0, .ref (ad 0)), (2, .int v2), (3, .int v3)] → W p l e R s m args below meth c H locs 0 0 Q (F0 m 4 ls [])) (S : (Nat → Nat → Int32)) (v2 v3 : Int32) (hM : fb_M_erase_4 k_4 S v2 v3 = some res) {H : Heap} {locs : List Loc} {ls : Array Slot} (w : mW D ad cI cZ A s.heap S H locs) (hl : lv_has ls 5 [(0, .ref (ad 0)), (2, .int v2), (3, .int v3)]) : W p l e R s m args below meth c H locs 0 0 Q (F0 m 4 ls []) := by
  unfold fb_M_erase_4 at hM
  refine lv_aload_n F.1 F.2.1 qd_M_erase_4 rfl (lv_at hl 0 rfl) ?_
  refine mg_M_sort F hK w qk_664 qd_M_erase_5 ?_
  refine lv_iload_n F.1 F.2.1 qd_M_erase_8 rfl (lv_at hl 2 rfl) ?_
  obtain ⟨hi1, hM⟩ := qck_ok hM
  refine ml_M_sort F hK w hi1 qd_M_erase_9 ?_
  refine lv_iconst (v := 4) F.1 F.2.1 qd_M_erase_10 (by decide) ?_
  refine lv_icmp_eq (tgt := 24) F.1 F.2.1 qd_M_erase_11 (by decide) (fun hc2 => ?_) (fun hc2 => ?_)
  · rw [if_pos hc2] at hM
    exact t_M_erase_24 F hR hK hN hA hQ hk_4 _ _ _ hM w (lv_sub hl [0, 1, 2] rfl)
  · rw [if_neg hc2] at hM
    refine lv_aload_n F.1 F.2.1 qd_M_erase_14 rfl (lv_at hl 0 rfl) ?_
    refine mg_M_sort F hK w qk_664 qd_M_erase_15 ?_
    refine lv_iload_n F.1 F.2.1 qd_M_erase_18 rfl (lv_at hl 2 rfl) ?_
    obtain ⟨hi3, hM⟩ := qck_ok hM
    refine ml_M_sort F hK w hi3 qd_M_erase_19 ?_
    refine lv_iconst (v := 3) F.1 F.2.1 qd_M_erase_20 (by decide) ?_
    refine lv_icmp_ne (tgt := 71) F.1 F.2.1 qd_M_erase_21 (by decide) (fun hc4 => ?_) (fun hc4 => ?_)
    · rw [if_neg hc4] at hM
      refine lv_aload_n F.1 F.2.1 qd_M_erase_71 rfl (lv_at hl 0 rfl) ?_
      refine mg_M_sort F hK w qk_664 qd_M_erase_72 ?_
      refine lv_iload_n F.1 F.2.1 qd_M_erase_75 rfl (lv_at hl 2 rfl) ?_
      obtain ⟨hi5, hM⟩ := qck_ok hM
      refine ml_M_sort F hK w hi5 qd_M_erase_76 ?_
      refine lv_iconst (v := 2) F.1 F.2.1 qd_M_erase_77 (by decide) ?_
      refine lv_icmp_ne (tgt := 94) F.1 F.2.1 qd_M_erase_78 (by decide) (fun hc6 => ?_) (fun hc6 => ?_)
      · rw [if_neg hc6] at hM
        refine lv_iload_n F.1 F.2.1 qd_M_erase_94 rfl (lv_at hl 2 rfl) ?_
        refine lv_istore_n (lv' := [(3, .int v3), (0, .ref (ad 0)), (2, .int v2)]) F.1 F.2.1 qd_M_erase_95 rfl hl (by decide) rfl (fun ls hl => ?_)
        refine lv_iconst (v := 0) F.1 F.2.1 qd_M_erase_96 (by decide) ?_
        refine lv_istore (lv' := [(4, .int (0 : Int32)), (3, .int v3), (0, .ref (ad 0)), (2, .int v2)]) F.1 F.2.1 qd_M_erase_97 hl (by decide) rfl (fun ls hl => ?_)
        exact t_M_erase_99 F hR hK hN hA hQ  qfu _ _ _ _ hM w (lv_sub hl [2, 3, 1, 0] rfl)
      · rw [if_pos hc6] at hM
        refine lv_aload_n F.1 F.2.1 qd_M_erase_81 rfl (lv_at hl 0 rfl) ?_
        refine lv_aload_n F.1 F.2.1 qd_M_erase_82 rfl (lv_at hl 0 rfl) ?_
        refine mg_M_first F hK w qk_665 qd_M_erase_83 ?_
        refine lv_iload_n F.1 F.2.1 qd_M_erase_86 rfl (lv_at hl 2 rfl) ?_
        obtain ⟨hi7, hM⟩ := qck_ok hM
        refine ml_M_first F hK w hi7 qd_M_erase_87 ?_
        obtain ⟨q8, hq9, hM⟩ := qbd hM
        refine m_calli F hK hN hA w (c_M_bare l D ad cI cZ hq9) qk_932 qk_934 qs_M_bare qk_8 qk_935 qv_M_bare rfl rfl ⟨Nat.le_trans (by decide) hR.1, Nat.le_trans (by decide) hR.2⟩ (ci := 6) rfl (j := 0) rfl hl.1 rfl (Nat.le_of_ble_eq_true rfl) qd_M_erase_88 (fun H locs w => ?_)
        refine lv_goto (tgt := 95) F.1 F.2.1 qd_M_erase_91 (by decide) ?_
        refine lv_istore_n (lv' := [(3, .int q8.1), (0, .ref (ad 0)), (2, .int v2)]) F.1 F.2.1 qd_M_erase_95 rfl hl (by decide) rfl (fun ls hl => ?_)
        refine lv_iconst (v := 0) F.1 F.2.1 qd_M_erase_96 (by decide) ?_
        refine lv_istore (lv' := [(4, .int (0 : Int32)), (3, .int q8.1), (0, .ref (ad 0)), (2, .int v2)]) F.1 F.2.1 qd_M_erase_97 hl (by decide) rfl (fun ls hl => ?_)
        exact t_M_erase_99 F hR hK hN hA hQ  qfu _ _ _ _ hM w (lv_sub hl [2, 3, 1, 0] rfl)
    · rw [if_pos hc4] at hM
      exact t_M_erase_24 F hR hK hN hA hQ hk_4 _ _ _ hM w (lv_sub hl [0, 1, 2] rfl)
set_option maxRecDepth 100000 in
set_option maxHeartbeats 4000000 in
theorem t_M_erase_4 {p : Program} {l : Launch} {e : Env} {R : Room} {s : State} {m : MethodId} {args : Array Value} {below : List Frame} {meth : Method} {c : Code} {Q : State → Prop} {D : va_G} {ad : Nat → Nat} {cI cZ : ClassId} {A : Nat → Prop} (F : CallFix p m c qb_M_erase 5 s args qtb "CaptureSubtypesModel") (hR : 4 ≤ R.frames ∧ 96 ≤ R.locals) (hK : va_K D qcl [(cI, .int), (cZ, .boolean)] s) (hN : qnests mns s) (hA : ∀ q, s.heap.size ≤ q → A q) {res : (Int32 × (Nat → Nat → Int32))} (hQ : ∀ (H : Heap) (locs : List Loc) (pc : Nat) (ls : Array Slot), decode qb_M_erase pc = .ok (.ireturn, 1) → mW D ad cI cZ A s.heap res.2 H locs → W p l e R s m args below meth c H locs 0 0 Q (F0 m pc ls [.int res.1])) : ∀ (n : Nat) (S : (Nat → Nat → Int32)) (v2 v3 : Int32) (hM : f_M_erase_4 n S v2 v3 = some res) {H : Heap} {locs : List Loc} {ls : Array Slot} (w : mW D ad cI cZ A s.heap S H locs) (hl : lv_has ls 5 [(0, .ref (ad 0)), (2, .int v2), (3, .int v3)]), W p l e R s m args below meth c H locs 0 0 Q (F0 m 4 ls []) := by
  intro n
  induction n with
  | zero => intro S v2 v3 hM; exact absurd hM (by simp [f_M_erase_4])
  | succ n ih => intro S v2 v3 hM H locs ls w hl; exact tb_M_erase_4 F hR hK hN hA hQ (k_4 := f_M_erase_4 n) (fun S v2 v3 hM H locs ls w hl => ih S v2 v3 hM w hl) S v2 v3 hM w hl
set_option maxRecDepth 100000 in
set_option maxHeartbeats 4000000 in
theorem t_M_erase {p : Program} {l : Launch} {e : Env} {R : Room} {s : State} {m : MethodId} {args : Array Value} {below : List Frame} {meth : Method} {c : Code} {Q : State → Prop} {D : va_G} {ad : Nat → Nat} {cI cZ : ClassId} {A : Nat → Prop} (F : CallFix p m c qb_M_erase 5 s args qtb "CaptureSubtypesModel") (hR : 4 ≤ R.frames ∧ 96 ≤ R.locals) (hK : va_K D qcl [(cI, .int), (cZ, .boolean)] s) (hN : qnests mns s) (hA : ∀ q, s.heap.size ≤ q → A q) {res : (Int32 × (Nat → Nat → Int32))} (hQ : ∀ (H : Heap) (locs : List Loc) (pc : Nat) (ls : Array Slot), decode qb_M_erase pc = .ok (.ireturn, 1) → mW D ad cI cZ A s.heap res.2 H locs → W p l e R s m args below meth c H locs 0 0 Q (F0 m pc ls [.int res.1])) (S : (Nat → Nat → Int32)) (a1 : Int32) (hM : f_M_erase S a1 = some res) {H : Heap} {locs : List Loc} {ls : Array Slot} (w : mW D ad cI cZ A s.heap S H locs) (hl : lv_has ls 5 [(0, .ref (ad 0)), (1, .int a1)]) : W p l e R s m args below meth c H locs 0 0 Q (F0 m 0 ls []) := by
  unfold f_M_erase at hM
  refine lv_iconst (v := 0) F.1 F.2.1 qd_M_erase_0 (by decide) ?_
  refine lv_istore_n (lv' := [(2, .int (0 : Int32)), (0, .ref (ad 0)), (1, .int a1)]) F.1 F.2.1 qd_M_erase_1 rfl hl (by decide) rfl (fun ls hl => ?_)
  refine lv_iload_n F.1 F.2.1 qd_M_erase_2 rfl (lv_at hl 2 rfl) ?_
  refine lv_istore_n (lv' := [(3, .int a1), (2, .int (0 : Int32)), (0, .ref (ad 0)), (1, .int a1)]) F.1 F.2.1 qd_M_erase_3 rfl hl (by decide) rfl (fun ls hl => ?_)
  exact t_M_erase_4 F hR hK hN hA hQ  qfu _ _ _ hM w (lv_sub hl [2, 1, 0] rfl)
set_option maxRecDepth 100000 in
theorem c_M_erase (l : Launch) (D : va_G) (ad : Nat → Nat) (cI cZ : ClassId) {S : (Nat → Nat → Int32)} {a1 : Int32} {res : (Int32 × (Nat → Nat → Int32))} (hM : f_M_erase S a1 = some res) : mMi l qy_M_erase qb_M_erase 5 (some .int) { frames := 4, cells := 0, slots := 0, locals := 96 } D ad cI cZ S [.ref (ad 0), .int a1] res.1 res.2 := m_ofi (by decide +kernel) (Nat.le_of_ble_eq_true rfl) (fun p e s m args below meth c Q A ls F hK hN hA w hl hQ => t_M_erase F ⟨Nat.le_refl _, Nat.le_refl _⟩ hK hN hA hQ S a1 hM w hl)
-- M_differ
def f_M_differ_138 (k_73 : (Nat → Nat → Int32) → Int32 → Int32 → Int32 → Int32 → Int32 → Option (Bool × (Nat → Nat → Int32))) (k_82 : (Nat → Nat → Int32) → Int32 → Int32 → Int32 → Int32 → Int32 → Int32 → Option (Bool × (Nat → Nat → Int32))) (S : (Nat → Nat → Int32)) (v1 v2 v3 v4 v5 v6 v7 s1 : Int32) : Option (Bool × (Nat → Nat → Int32)) := (f_M_erase S s1).bind (fun q1 => (f_M_isA q1.2 v7 q1.1).bind (fun q3 => if (qB q3.1) = 0 then ((f_M_isA q3.2 q1.1 v7).bind (fun q6 => if (qB q6.1) = 0 then (some (true, q6.2)) else (k_82 q6.2 v1 v2 v3 v4 v5 (v6 + (1 : Int32))))) else (k_82 q3.2 v1 v2 v3 v4 v5 (v6 + (1 : Int32)))))
def f_M_differ_111 (k_73 : (Nat → Nat → Int32) → Int32 → Int32 → Int32 → Int32 → Int32 → Option (Bool × (Nat → Nat → Int32))) (k_82 : (Nat → Nat → Int32) → Int32 → Int32 → Int32 → Int32 → Int32 → Int32 → Option (Bool × (Nat → Nat → Int32))) (S : (Nat → Nat → Int32)) (v1 v2 v3 v4 v5 v6 s1 : Int32) : Option (Bool × (Nat → Nat → Int32)) := (f_M_erase S s1).bind (fun q1 => qck (qin v2 9000) (if (q1.2 9 v2.toNatClampNeg) = (3 : Int32) then ((f_M_boundOf q1.2 v2 v6).bind (fun q5 => f_M_differ_138 k_73 k_82 q1.2 v1 v2 v3 v4 v5 v6 q1.1 q5)) else (f_M_differ_138 k_73 k_82 q1.2 v1 v2 v3 v4 v5 v6 q1.1 v2)))
def fb_M_differ_82 (k_73 : (Nat → Nat → Int32) → Int32 → Int32 → Int32 → Int32 → Int32 → Option (Bool × (Nat → Nat → Int32))) (k_82 : (Nat → Nat → Int32) → Int32 → Int32 → Int32 → Int32 → Int32 → Int32 → Option (Bool × (Nat → Nat → Int32))) (S : (Nat → Nat → Int32)) (v1 v2 v3 v4 v5 v6 : Int32) : Option (Bool × (Nat → Nat → Int32)) := if v4 ≤ v6 then (k_73 S v1 v2 v3 v4 (v5 + (1 : Int32))) else (qck (qin v1 9000) (if (S 9 v1.toNatClampNeg) = (3 : Int32) then ((f_M_boundOf S v1 v5).bind (fun q4 => f_M_differ_111 k_73 k_82 S v1 v2 v3 v4 v5 v6 q4)) else (f_M_differ_111 k_73 k_82 S v1 v2 v3 v4 v5 v6 v1)))
def f_M_differ_82 (k_73 : (Nat → Nat → Int32) → Int32 → Int32 → Int32 → Int32 → Int32 → Option (Bool × (Nat → Nat → Int32))) : Nat → (Nat → Nat → Int32) → Int32 → Int32 → Int32 → Int32 → Int32 → Int32 → Option (Bool × (Nat → Nat → Int32))
  | 0 => fun _ _ _ _ _ _ _ => none
  | n + 1 => fun S v1 v2 v3 v4 v5 v6 => fb_M_differ_82 k_73 (f_M_differ_82 k_73 n) S v1 v2 v3 v4 v5 v6
def fb_M_differ_73 (k_73 : (Nat → Nat → Int32) → Int32 → Int32 → Int32 → Int32 → Int32 → Option (Bool × (Nat → Nat → Int32))) (S : (Nat → Nat → Int32)) (v1 v2 v3 v4 v5 : Int32) : Option (Bool × (Nat → Nat → Int32)) := if v3 ≤ v5 then (some (false, S)) else (f_M_differ_82 k_73 qfu S v1 v2 v3 v4 v5 (0 : Int32))
def f_M_differ_73 : Nat → (Nat → Nat → Int32) → Int32 → Int32 → Int32 → Int32 → Int32 → Option (Bool × (Nat → Nat → Int32))
  | 0 => fun _ _ _ _ _ _ => none
  | n + 1 => fun S v1 v2 v3 v4 v5 => fb_M_differ_73 (f_M_differ_73 n) S v1 v2 v3 v4 v5
def f_M_differ_48 (S : (Nat → Nat → Int32)) (v1 v2 s1 : Int32) : Option (Bool × (Nat → Nat → Int32)) := qck (qin v2 9000) (if (S 9 v2.toNatClampNeg) = (3 : Int32) then ((f_M_boundCount S v2).bind (fun q3 => f_M_differ_73  qfu S v1 v2 s1 q3 (0 : Int32))) else (f_M_differ_73  qfu S v1 v2 s1 (1 : Int32) (0 : Int32)))
def f_M_differ_29 (S : (Nat → Nat → Int32)) (v1 v2 : Int32) : Option (Bool × (Nat → Nat → Int32)) := qck (qin v1 9000) (if (S 9 v1.toNatClampNeg) = (3 : Int32) then ((f_M_boundCount S v1).bind (fun q3 => f_M_differ_48  S v1 v2 q3)) else (f_M_differ_48  S v1 v2 (1 : Int32)))
def f_M_differ (S : (Nat → Nat → Int32)) (a1 a2 : Int32) : Option (Bool × (Nat → Nat → Int32)) := if a1 = a2 then (some (false, S)) else (qck (qin a1 9000) (if (S 9 a1.toNatClampNeg) = (3 : Int32) then (f_M_differ_29  S a1 a2) else (qck (qin a2 9000) (if (S 9 a2.toNatClampNeg) = (3 : Int32) then (f_M_differ_29  S a1 a2) else (some (true, S))))))
set_option maxRecDepth 100000 in
set_option maxHeartbeats 4000000 in
theorem t_M_differ_138 {p : Program} {l : Launch} {e : Env} {R : Room} {s : State} {m : MethodId} {args : Array Value} {below : List Frame} {meth : Method} {c : Code} {Q : State → Prop} {D : va_G} {ad : Nat → Nat} {cI cZ : ClassId} {A : Nat → Prop} (F : CallFix p m c qb_M_differ 9 s args qtb "CaptureSubtypesModel") (hR : 9 ≤ R.frames ∧ 225 ≤ R.locals) (hK : va_K D qcl [(cI, .int), (cZ, .boolean)] s) (hN : qnests mns s) (hA : ∀ q, s.heap.size ≤ q → A q) {res : (Bool × (Nat → Nat → Int32))} (hQ : ∀ (H : Heap) (locs : List Loc) (pc : Nat) (ls : Array Slot), decode qb_M_differ pc = .ok (.ireturn, 1) → mW D ad cI cZ A s.heap res.2 H locs → W p l e R s m args below meth c H locs 0 0 Q (F0 m pc ls [.int (qB res.1)])) {k_73 : (Nat → Nat → Int32) → Int32 → Int32 → Int32 → Int32 → Int32 → Option (Bool × (Nat → Nat → Int32))} {k_82 : (Nat → Nat → Int32) → Int32 → Int32 → Int32 → Int32 → Int32 → Int32 → Option (Bool × (Nat → Nat → Int32))} (hk_73 : ∀ (S : Nat → Nat → Int32) (v1 v2 v3 v4 v5 : Int32), k_73 S v1 v2 v3 v4 v5 = some res → ∀ {H : Heap} {locs : List Loc} {ls : Array Slot}, mW D ad cI cZ A s.heap S H locs → lv_has ls 9 [(0, .ref (ad 0)), (1, .int v1), (2, .int v2), (3, .int v3), (4, .int v4), (5, .int v5)] → W p l e R s m args below meth c H locs 0 0 Q (F0 m 73 ls [])) (hk_82 : ∀ (S : Nat → Nat → Int32) (v1 v2 v3 v4 v5 v6 : Int32), k_82 S v1 v2 v3 v4 v5 v6 = some res → ∀ {H : Heap} {locs : List Loc} {ls : Array Slot}, mW D ad cI cZ A s.heap S H locs → lv_has ls 9 [(0, .ref (ad 0)), (1, .int v1), (2, .int v2), (3, .int v3), (4, .int v4), (5, .int v5), (6, .int v6)] → W p l e R s m args below meth c H locs 0 0 Q (F0 m 82 ls [])) (S : (Nat → Nat → Int32)) (v1 v2 v3 v4 v5 v6 v7 s1 : Int32) (hM : f_M_differ_138 k_73 k_82 S v1 v2 v3 v4 v5 v6 v7 s1 = some res) {H : Heap} {locs : List Loc} {ls : Array Slot} (w : mW D ad cI cZ A s.heap S H locs) (hl : lv_has ls 9 [(0, .ref (ad 0)), (1, .int v1), (2, .int v2), (3, .int v3), (4, .int v4), (5, .int v5), (6, .int v6), (7, .int v7)]) : W p l e R s m args below meth c H locs 0 0 Q (F0 m 138 ls [.int s1, .ref (ad 0)]) := by
  unfold f_M_differ_138 at hM
  obtain ⟨q1, hq2, hM⟩ := qbd hM
  refine m_calli F hK hN hA w (c_M_erase l D ad cI cZ hq2) qk_956 qk_958 qs_M_erase qk_8 qk_959 qv_M_erase rfl rfl ⟨Nat.le_trans (by decide) hR.1, Nat.le_trans (by decide) hR.2⟩ (ci := 6) rfl (j := 0) rfl hl.1 rfl (Nat.le_of_ble_eq_true rfl) qd_M_differ_138 (fun H locs w => ?_)
  refine lv_istore (lv' := [(8, .int q1.1), (0, .ref (ad 0)), (1, .int v1), (2, .int v2), (3, .int v3), (4, .int v4), (5, .int v5), (6, .int v6), (7, .int v7)]) F.1 F.2.1 qd_M_differ_141 hl (by decide) rfl (fun ls hl => ?_)
  refine lv_aload_n F.1 F.2.1 qd_M_differ_143 rfl (lv_at hl 1 rfl) ?_
  refine lv_iload F.1 F.2.1 qd_M_differ_144 (lv_at hl 8 rfl) ?_
  refine lv_iload F.1 F.2.1 qd_M_differ_146 (lv_at hl 0 rfl) ?_
  obtain ⟨q3, hq4, hM⟩ := qbd hM
  refine m_calli F hK hN hA w (c_M_isA l D ad cI cZ hq4) qk_864 qk_866 qs_M_isA qk_8 qk_867 qv_M_isA rfl rfl ⟨Nat.le_trans (by decide) hR.1, Nat.le_trans (by decide) hR.2⟩ (ci := 6) rfl (j := 0) rfl hl.1 rfl (Nat.le_of_ble_eq_true rfl) qd_M_differ_148 (fun H locs w => ?_)
  refine lv_if_ne (tgt := 167) F.1 F.2.1 qd_M_differ_151 (by decide) (fun hc5 => ?_) (fun hc5 => ?_)
  · rw [if_neg hc5] at hM
    refine lv_iinc (v := (v6 + (1 : Int32))) (lv' := [(6, .int (v6 + (1 : Int32))), (8, .int q1.1), (0, .ref (ad 0)), (1, .int v1), (2, .int v2), (3, .int v3), (4, .int v4), (5, .int v5), (7, .int v7)]) F.1 F.2.1 qd_M_differ_167 hl (k := 7) rfl rfl (by decide) rfl (fun ls hl => ?_)
    refine lv_goto (tgt := 82) F.1 F.2.1 qd_M_differ_170 (by decide) ?_
    exact hk_82 _ _ _ _ _ _ _ hM w (lv_sub hl [2, 3, 4, 5, 6, 7, 0] rfl)
  · rw [if_pos hc5] at hM
    refine lv_aload_n F.1 F.2.1 qd_M_differ_154 rfl (lv_at hl 1 rfl) ?_
    refine lv_iload F.1 F.2.1 qd_M_differ_155 (lv_at hl 0 rfl) ?_
    refine lv_iload F.1 F.2.1 qd_M_differ_157 (lv_at hl 8 rfl) ?_
    obtain ⟨q6, hq7, hM⟩ := qbd hM
    refine m_calli F hK hN hA w (c_M_isA l D ad cI cZ hq7) qk_864 qk_866 qs_M_isA qk_8 qk_867 qv_M_isA rfl rfl ⟨Nat.le_trans (by decide) hR.1, Nat.le_trans (by decide) hR.2⟩ (ci := 6) rfl (j := 0) rfl hl.1 rfl (Nat.le_of_ble_eq_true rfl) qd_M_differ_159 (fun H locs w => ?_)
    refine lv_if_ne (tgt := 167) F.1 F.2.1 qd_M_differ_162 (by decide) (fun hc8 => ?_) (fun hc8 => ?_)
    · rw [if_neg hc8] at hM
      refine lv_iinc (v := (v6 + (1 : Int32))) (lv' := [(6, .int (v6 + (1 : Int32))), (8, .int q1.1), (0, .ref (ad 0)), (1, .int v1), (2, .int v2), (3, .int v3), (4, .int v4), (5, .int v5), (7, .int v7)]) F.1 F.2.1 qd_M_differ_167 hl (k := 7) rfl rfl (by decide) rfl (fun ls hl => ?_)
      refine lv_goto (tgt := 82) F.1 F.2.1 qd_M_differ_170 (by decide) ?_
      exact hk_82 _ _ _ _ _ _ _ hM w (lv_sub hl [2, 3, 4, 5, 6, 7, 0] rfl)
    · rw [if_pos hc8] at hM
      refine lv_iconst (v := 1) F.1 F.2.1 qd_M_differ_165 (by decide) ?_
      cases hM
      exact hQ _ _ _ _ qd_M_differ_166 w
set_option maxRecDepth 100000 in
set_option maxHeartbeats 4000000 in
theorem t_M_differ_111 {p : Program} {l : Launch} {e : Env} {R : Room} {s : State} {m : MethodId} {args : Array Value} {below : List Frame} {meth : Method} {c : Code} {Q : State → Prop} {D : va_G} {ad : Nat → Nat} {cI cZ : ClassId} {A : Nat → Prop} (F : CallFix p m c qb_M_differ 9 s args qtb "CaptureSubtypesModel") (hR : 9 ≤ R.frames ∧ 225 ≤ R.locals) (hK : va_K D qcl [(cI, .int), (cZ, .boolean)] s) (hN : qnests mns s) (hA : ∀ q, s.heap.size ≤ q → A q) {res : (Bool × (Nat → Nat → Int32))} (hQ : ∀ (H : Heap) (locs : List Loc) (pc : Nat) (ls : Array Slot), decode qb_M_differ pc = .ok (.ireturn, 1) → mW D ad cI cZ A s.heap res.2 H locs → W p l e R s m args below meth c H locs 0 0 Q (F0 m pc ls [.int (qB res.1)])) {k_73 : (Nat → Nat → Int32) → Int32 → Int32 → Int32 → Int32 → Int32 → Option (Bool × (Nat → Nat → Int32))} {k_82 : (Nat → Nat → Int32) → Int32 → Int32 → Int32 → Int32 → Int32 → Int32 → Option (Bool × (Nat → Nat → Int32))} (hk_73 : ∀ (S : Nat → Nat → Int32) (v1 v2 v3 v4 v5 : Int32), k_73 S v1 v2 v3 v4 v5 = some res → ∀ {H : Heap} {locs : List Loc} {ls : Array Slot}, mW D ad cI cZ A s.heap S H locs → lv_has ls 9 [(0, .ref (ad 0)), (1, .int v1), (2, .int v2), (3, .int v3), (4, .int v4), (5, .int v5)] → W p l e R s m args below meth c H locs 0 0 Q (F0 m 73 ls [])) (hk_82 : ∀ (S : Nat → Nat → Int32) (v1 v2 v3 v4 v5 v6 : Int32), k_82 S v1 v2 v3 v4 v5 v6 = some res → ∀ {H : Heap} {locs : List Loc} {ls : Array Slot}, mW D ad cI cZ A s.heap S H locs → lv_has ls 9 [(0, .ref (ad 0)), (1, .int v1), (2, .int v2), (3, .int v3), (4, .int v4), (5, .int v5), (6, .int v6)] → W p l e R s m args below meth c H locs 0 0 Q (F0 m 82 ls [])) (S : (Nat → Nat → Int32)) (v1 v2 v3 v4 v5 v6 s1 : Int32) (hM : f_M_differ_111 k_73 k_82 S v1 v2 v3 v4 v5 v6 s1 = some res) {H : Heap} {locs : List Loc} {ls : Array Slot} (w : mW D ad cI cZ A s.heap S H locs) (hl : lv_has ls 9 [(0, .ref (ad 0)), (1, .int v1), (2, .int v2), (3, .int v3), (4, .int v4), (5, .int v5), (6, .int v6)]) : W p l e R s m args below meth c H locs 0 0 Q (F0 m 111 ls [.int s1, .ref (ad 0)]) := by
  unfold f_M_differ_111 at hM
  obtain ⟨q1, hq2, hM⟩ := qbd hM
  refine m_calli F hK hN hA w (c_M_erase l D ad cI cZ hq2) qk_956 qk_958 qs_M_erase qk_8 qk_959 qv_M_erase rfl rfl ⟨Nat.le_trans (by decide) hR.1, Nat.le_trans (by decide) hR.2⟩ (ci := 6) rfl (j := 0) rfl hl.1 rfl (Nat.le_of_ble_eq_true rfl) qd_M_differ_111 (fun H locs w => ?_)
  refine lv_istore (lv' := [(7, .int q1.1), (0, .ref (ad 0)), (1, .int v1), (2, .int v2), (3, .int v3), (4, .int v4), (5, .int v5), (6, .int v6)]) F.1 F.2.1 qd_M_differ_114 hl (by decide) rfl (fun ls hl => ?_)
  refine lv_aload_n F.1 F.2.1 qd_M_differ_116 rfl (lv_at hl 1 rfl) ?_
  refine lv_aload_n F.1 F.2.1 qd_M_differ_117 rfl (lv_at hl 1 rfl) ?_
  refine mg_M_sort F hK w qk_664 qd_M_differ_118 ?_
  refine lv_iload_n F.1 F.2.1 qd_M_differ_121 rfl (lv_at hl 3 rfl) ?_
  obtain ⟨hi3, hM⟩ := qck_ok hM
  refine ml_M_sort F hK w hi3 qd_M_differ_122 ?_
  refine lv_iconst (v := 3) F.1 F.2.1 qd_M_differ_123 (by decide) ?_
  refine lv_icmp_ne (tgt := 137) F.1 F.2.1 qd_M_differ_124 (by decide) (fun hc4 => ?_) (fun hc4 => ?_)
  · rw [if_neg hc4] at hM
    refine lv_iload_n F.1 F.2.1 qd_M_differ_137 rfl (lv_at hl 3 rfl) ?_
    exact t_M_differ_138 F hR hK hN hA hQ hk_73 hk_82 _ _ _ _ _ _ _ _ _ hM w (lv_sub hl [1, 2, 3, 4, 5, 6, 7, 0] rfl)
  · rw [if_pos hc4] at hM
    refine lv_aload_n F.1 F.2.1 qd_M_differ_127 rfl (lv_at hl 1 rfl) ?_
    refine lv_iload_n F.1 F.2.1 qd_M_differ_128 rfl (lv_at hl 3 rfl) ?_
    refine lv_iload F.1 F.2.1 qd_M_differ_129 (lv_at hl 7 rfl) ?_
    obtain ⟨q5, hq6, hM⟩ := qbd hM
    refine m_calli F hK hN hA w (c_M_boundOf l D ad cI cZ hq6) qk_884 qk_886 qs_M_boundOf qk_8 qk_887 qv_M_boundOf rfl rfl ⟨Nat.le_trans (by decide) hR.1, Nat.le_trans (by decide) hR.2⟩ (ci := 6) rfl (j := 0) rfl hl.1 rfl (Nat.le_of_ble_eq_true rfl) qd_M_differ_131 (fun H locs w => ?_)
    refine lv_goto (tgt := 138) F.1 F.2.1 qd_M_differ_134 (by decide) ?_
    exact t_M_differ_138 F hR hK hN hA hQ hk_73 hk_82 _ _ _ _ _ _ _ _ _ hM w (lv_sub hl [1, 2, 3, 4, 5, 6, 7, 0] rfl)
set_option maxRecDepth 100000 in
set_option maxHeartbeats 4000000 in
theorem tb_M_differ_82 {p : Program} {l : Launch} {e : Env} {R : Room} {s : State} {m : MethodId} {args : Array Value} {below : List Frame} {meth : Method} {c : Code} {Q : State → Prop} {D : va_G} {ad : Nat → Nat} {cI cZ : ClassId} {A : Nat → Prop} (F : CallFix p m c qb_M_differ 9 s args qtb "CaptureSubtypesModel") (hR : 9 ≤ R.frames ∧ 225 ≤ R.locals) (hK : va_K D qcl [(cI, .int), (cZ, .boolean)] s) (hN : qnests mns s) (hA : ∀ q, s.heap.size ≤ q → A q) {res : (Bool × (Nat → Nat → Int32))} (hQ : ∀ (H : Heap) (locs : List Loc) (pc : Nat) (ls : Array Slot), decode qb_M_differ pc = .ok (.ireturn, 1) → mW D ad cI cZ A s.heap res.2 H locs → W p l e R s m args below meth c H locs 0 0 Q (F0 m pc ls [.int (qB res.1)])) {k_73 : (Nat → Nat → Int32) → Int32 → Int32 → Int32 → Int32 → Int32 → Option (Bool × (Nat → Nat → Int32))} (hk_73 : ∀ (S : Nat → Nat → Int32) (v1 v2 v3 v4 v5 : Int32), k_73 S v1 v2 v3 v4 v5 = some res → ∀ {H : Heap} {locs : List Loc} {ls : Array Slot}, mW D ad cI cZ A s.heap S H locs → lv_has ls 9 [(0, .ref (ad 0)), (1, .int v1), (2, .int v2), (3, .int v3), (4, .int v4), (5, .int v5)] → W p l e R s m args below meth c H locs 0 0 Q (F0 m 73 ls [])) {k_82 : (Nat → Nat → Int32) → Int32 → Int32 → Int32 → Int32 → Int32 → Int32 → Option (Bool × (Nat → Nat → Int32))} (hk_82 : ∀ (S : Nat → Nat → Int32) (v1 v2 v3 v4 v5 v6 : Int32), k_82 S v1 v2 v3 v4 v5 v6 = some res → ∀ {H : Heap} {locs : List Loc} {ls : Array Slot}, mW D ad cI cZ A s.heap S H locs → lv_has ls 9 [(0, .ref (ad 0)), (1, .int v1), (2, .int v2), (3, .int v3), (4, .int v4), (5, .int v5), (6, .int v6)] → W p l e R s m args below meth c H locs 0 0 Q (F0 m 82 ls [])) (S : (Nat → Nat → Int32)) (v1 v2 v3 v4 v5 v6 : Int32) (hM : fb_M_differ_82 k_73 k_82 S v1 v2 v3 v4 v5 v6 = some res) {H : Heap} {locs : List Loc} {ls : Array Slot} (w : mW D ad cI cZ A s.heap S H locs) (hl : lv_has ls 9 [(0, .ref (ad 0)), (1, .int v1), (2, .int v2), (3, .int v3), (4, .int v4), (5, .int v5), (6, .int v6)]) : W p l e R s m args below meth c H locs 0 0 Q (F0 m 82 ls []) := by
  unfold fb_M_differ_82 at hM
  refine lv_iload F.1 F.2.1 qd_M_differ_82 (lv_at hl 6 rfl) ?_
  refine lv_iload F.1 F.2.1 qd_M_differ_84 (lv_at hl 4 rfl) ?_
  refine lv_icmp_ge (tgt := 173) F.1 F.2.1 qd_M_differ_86 (by decide) (fun hc1 => ?_) (fun hc1 => ?_)
  · rw [if_pos hc1] at hM
    refine lv_iinc (v := (v5 + (1 : Int32))) (lv' := [(5, .int (v5 + (1 : Int32))), (0, .ref (ad 0)), (1, .int v1), (2, .int v2), (3, .int v3), (4, .int v4), (6, .int v6)]) F.1 F.2.1 qd_M_differ_173 hl (k := 5) rfl rfl (by decide) rfl (fun ls hl => ?_)
    refine lv_goto (tgt := 73) F.1 F.2.1 qd_M_differ_176 (by decide) ?_
    exact hk_73 _ _ _ _ _ _ hM w (lv_sub hl [1, 2, 3, 4, 5, 0] rfl)
  · rw [if_neg hc1] at hM
    refine lv_aload_n F.1 F.2.1 qd_M_differ_89 rfl (lv_at hl 0 rfl) ?_
    refine lv_aload_n F.1 F.2.1 qd_M_differ_90 rfl (lv_at hl 0 rfl) ?_
    refine mg_M_sort F hK w qk_664 qd_M_differ_91 ?_
    refine lv_iload_n F.1 F.2.1 qd_M_differ_94 rfl (lv_at hl 1 rfl) ?_
    obtain ⟨hi2, hM⟩ := qck_ok hM
    refine ml_M_sort F hK w hi2 qd_M_differ_95 ?_
    refine lv_iconst (v := 3) F.1 F.2.1 qd_M_differ_96 (by decide) ?_
    refine lv_icmp_ne (tgt := 110) F.1 F.2.1 qd_M_differ_97 (by decide) (fun hc3 => ?_) (fun hc3 => ?_)
    · rw [if_neg hc3] at hM
      refine lv_iload_n F.1 F.2.1 qd_M_differ_110 rfl (lv_at hl 1 rfl) ?_
      exact t_M_differ_111 F hR hK hN hA hQ hk_73 hk_82 _ _ _ _ _ _ _ _ hM w (lv_sub hl [0, 1, 2, 3, 4, 5, 6] rfl)
    · rw [if_pos hc3] at hM
      refine lv_aload_n F.1 F.2.1 qd_M_differ_100 rfl (lv_at hl 0 rfl) ?_
      refine lv_iload_n F.1 F.2.1 qd_M_differ_101 rfl (lv_at hl 1 rfl) ?_
      refine lv_iload F.1 F.2.1 qd_M_differ_102 (lv_at hl 5 rfl) ?_
      obtain ⟨q4, hq5, hM⟩ := qbd hM
      refine m_calli F hK hN hA w (c_M_boundOf l D ad cI cZ hq5) qk_884 qk_886 qs_M_boundOf qk_8 qk_887 qv_M_boundOf rfl rfl ⟨Nat.le_trans (by decide) hR.1, Nat.le_trans (by decide) hR.2⟩ (ci := 6) rfl (j := 0) rfl hl.1 rfl (Nat.le_of_ble_eq_true rfl) qd_M_differ_104 (fun H locs w => ?_)
      refine lv_goto (tgt := 111) F.1 F.2.1 qd_M_differ_107 (by decide) ?_
      exact t_M_differ_111 F hR hK hN hA hQ hk_73 hk_82 _ _ _ _ _ _ _ _ hM w (lv_sub hl [0, 1, 2, 3, 4, 5, 6] rfl)
set_option maxRecDepth 100000 in
set_option maxHeartbeats 4000000 in
theorem t_M_differ_82 {p : Program} {l : Launch} {e : Env} {R : Room} {s : State} {m : MethodId} {args : Array Value} {below : List Frame} {meth : Method} {c : Code} {Q : State → Prop} {D : va_G} {ad : Nat → Nat} {cI cZ : ClassId} {A : Nat → Prop} (F : CallFix p m c qb_M_differ 9 s args qtb "CaptureSubtypesModel") (hR : 9 ≤ R.frames ∧ 225 ≤ R.locals) (hK : va_K D qcl [(cI, .int), (cZ, .boolean)] s) (hN : qnests mns s) (hA : ∀ q, s.heap.size ≤ q → A q) {res : (Bool × (Nat → Nat → Int32))} (hQ : ∀ (H : Heap) (locs : List Loc) (pc : Nat) (ls : Array Slot), decode qb_M_differ pc = .ok (.ireturn, 1) → mW D ad cI cZ A s.heap res.2 H locs → W p l e R s m args below meth c H locs 0 0 Q (F0 m pc ls [.int (qB res.1)])) {k_73 : (Nat → Nat → Int32) → Int32 → Int32 → Int32 → Int32 → Int32 → Option (Bool × (Nat → Nat → Int32))} (hk_73 : ∀ (S : Nat → Nat → Int32) (v1 v2 v3 v4 v5 : Int32), k_73 S v1 v2 v3 v4 v5 = some res → ∀ {H : Heap} {locs : List Loc} {ls : Array Slot}, mW D ad cI cZ A s.heap S H locs → lv_has ls 9 [(0, .ref (ad 0)), (1, .int v1), (2, .int v2), (3, .int v3), (4, .int v4), (5, .int v5)] → W p l e R s m args below meth c H locs 0 0 Q (F0 m 73 ls [])) : ∀ (n : Nat) (S : (Nat → Nat → Int32)) (v1 v2 v3 v4 v5 v6 : Int32) (hM : f_M_differ_82 k_73 n S v1 v2 v3 v4 v5 v6 = some res) {H : Heap} {locs : List Loc} {ls : Array Slot} (w : mW D ad cI cZ A s.heap S H locs) (hl : lv_has ls 9 [(0, .ref (ad 0)), (1, .int v1), (2, .int v2), (3, .int v3), (4, .int v4), (5, .int v5), (6, .int v6)]), W p l e R s m args below meth c H locs 0 0 Q (F0 m 82 ls []) := by
  intro n
  induction n with
  | zero => intro S v1 v2 v3 v4 v5 v6 hM; exact absurd hM (by simp [f_M_differ_82])
  | succ n ih => intro S v1 v2 v3 v4 v5 v6 hM H locs ls w hl; exact tb_M_differ_82 F hR hK hN hA hQ hk_73 (k_82 := f_M_differ_82 k_73 n) (fun S v1 v2 v3 v4 v5 v6 hM H locs ls w hl => ih S v1 v2 v3 v4 v5 v6 hM w hl) S v1 v2 v3 v4 v5 v6 hM w hl
set_option maxRecDepth 100000 in
set_option maxHeartbeats 4000000 in
theorem tb_M_differ_73 {p : Program} {l : Launch} {e : Env} {R : Room} {s : State} {m : MethodId} {args : Array Value} {below : List Frame} {meth : Method} {c : Code} {Q : State → Prop} {D : va_G} {ad : Nat → Nat} {cI cZ : ClassId} {A : Nat → Prop} (F : CallFix p m c qb_M_differ 9 s args qtb "CaptureSubtypesModel") (hR : 9 ≤ R.frames ∧ 225 ≤ R.locals) (hK : va_K D qcl [(cI, .int), (cZ, .boolean)] s) (hN : qnests mns s) (hA : ∀ q, s.heap.size ≤ q → A q) {res : (Bool × (Nat → Nat → Int32))} (hQ : ∀ (H : Heap) (locs : List Loc) (pc : Nat) (ls : Array Slot), decode qb_M_differ pc = .ok (.ireturn, 1) → mW D ad cI cZ A s.heap res.2 H locs → W p l e R s m args below meth c H locs 0 0 Q (F0 m pc ls [.int (qB res.1)])) {k_73 : (Nat → Nat → Int32) → Int32 → Int32 → Int32 → Int32 → Int32 → Option (Bool × (Nat → Nat → Int32))} (hk_73 : ∀ (S : Nat → Nat → Int32) (v1 v2 v3 v4 v5 : Int32), k_73 S v1 v2 v3 v4 v5 = some res → ∀ {H : Heap} {locs : List Loc} {ls : Array Slot}, mW D ad cI cZ A s.heap S H locs → lv_has ls 9 [(0, .ref (ad 0)), (1, .int v1), (2, .int v2), (3, .int v3), (4, .int v4), (5, .int v5)] → W p l e R s m args below meth c H locs 0 0 Q (F0 m 73 ls [])) (S : (Nat → Nat → Int32)) (v1 v2 v3 v4 v5 : Int32) (hM : fb_M_differ_73 k_73 S v1 v2 v3 v4 v5 = some res) {H : Heap} {locs : List Loc} {ls : Array Slot} (w : mW D ad cI cZ A s.heap S H locs) (hl : lv_has ls 9 [(0, .ref (ad 0)), (1, .int v1), (2, .int v2), (3, .int v3), (4, .int v4), (5, .int v5)]) : W p l e R s m args below meth c H locs 0 0 Q (F0 m 73 ls []) := by
  unfold fb_M_differ_73 at hM
  refine lv_iload F.1 F.2.1 qd_M_differ_73 (lv_at hl 5 rfl) ?_
  refine lv_iload_n F.1 F.2.1 qd_M_differ_75 rfl (lv_at hl 3 rfl) ?_
  refine lv_icmp_ge (tgt := 179) F.1 F.2.1 qd_M_differ_76 (by decide) (fun hc1 => ?_) (fun hc1 => ?_)
  · rw [if_pos hc1] at hM
    refine lv_iconst (v := 0) F.1 F.2.1 qd_M_differ_179 (by decide) ?_
    cases hM
    exact hQ _ _ _ _ qd_M_differ_180 w
  · rw [if_neg hc1] at hM
    refine lv_iconst (v := 0) F.1 F.2.1 qd_M_differ_79 (by decide) ?_
    refine lv_istore (lv' := [(6, .int (0 : Int32)), (0, .ref (ad 0)), (1, .int v1), (2, .int v2), (3, .int v3), (4, .int v4), (5, .int v5)]) F.1 F.2.1 qd_M_differ_80 hl (by decide) rfl (fun ls hl => ?_)
    exact t_M_differ_82 F hR hK hN hA hQ hk_73 qfu _ _ _ _ _ _ _ hM w (lv_sub hl [1, 2, 3, 4, 5, 6, 0] rfl)
set_option maxRecDepth 100000 in
set_option maxHeartbeats 4000000 in
theorem t_M_differ_73 {p : Program} {l : Launch} {e : Env} {R : Room} {s : State} {m : MethodId} {args : Array Value} {below : List Frame} {meth : Method} {c : Code} {Q : State → Prop} {D : va_G} {ad : Nat → Nat} {cI cZ : ClassId} {A : Nat → Prop} (F : CallFix p m c qb_M_differ 9 s args qtb "CaptureSubtypesModel") (hR : 9 ≤ R.frames ∧ 225 ≤ R.locals) (hK : va_K D qcl [(cI, .int), (cZ, .boolean)] s) (hN : qnests mns s) (hA : ∀ q, s.heap.size ≤ q → A q) {res : (Bool × (Nat → Nat → Int32))} (hQ : ∀ (H : Heap) (locs : List Loc) (pc : Nat) (ls : Array Slot), decode qb_M_differ pc = .ok (.ireturn, 1) → mW D ad cI cZ A s.heap res.2 H locs → W p l e R s m args below meth c H locs 0 0 Q (F0 m pc ls [.int (qB res.1)])) : ∀ (n : Nat) (S : (Nat → Nat → Int32)) (v1 v2 v3 v4 v5 : Int32) (hM : f_M_differ_73 n S v1 v2 v3 v4 v5 = some res) {H : Heap} {locs : List Loc} {ls : Array Slot} (w : mW D ad cI cZ A s.heap S H locs) (hl : lv_has ls 9 [(0, .ref (ad 0)), (1, .int v1), (2, .int v2), (3, .int v3), (4, .int v4), (5, .int v5)]), W p l e R s m args below meth c H locs 0 0 Q (F0 m 73 ls []) := by
  intro n
  induction n with
  | zero => intro S v1 v2 v3 v4 v5 hM; exact absurd hM (by simp [f_M_differ_73])
  | succ n ih => intro S v1 v2 v3 v4 v5 hM H locs ls w hl; exact tb_M_differ_73 F hR hK hN hA hQ (k_73 := f_M_differ_73 n) (fun S v1 v2 v3 v4 v5 hM H locs ls w hl => ih S v1 v2 v3 v4 v5 hM w hl) S v1 v2 v3 v4 v5 hM w hl
set_option maxRecDepth 100000 in
set_option maxHeartbeats 4000000 in
theorem t_M_differ_48 {p : Program} {l : Launch} {e : Env} {R : Room} {s : State} {m : MethodId} {args : Array Value} {below : List Frame} {meth : Method} {c : Code} {Q : State → Prop} {D : va_G} {ad : Nat → Nat} {cI cZ : ClassId} {A : Nat → Prop} (F : CallFix p m c qb_M_differ 9 s args qtb "CaptureSubtypesModel") (hR : 9 ≤ R.frames ∧ 225 ≤ R.locals) (hK : va_K D qcl [(cI, .int), (cZ, .boolean)] s) (hN : qnests mns s) (hA : ∀ q, s.heap.size ≤ q → A q) {res : (Bool × (Nat → Nat → Int32))} (hQ : ∀ (H : Heap) (locs : List Loc) (pc : Nat) (ls : Array Slot), decode qb_M_differ pc = .ok (.ireturn, 1) → mW D ad cI cZ A s.heap res.2 H locs → W p l e R s m args below meth c H locs 0 0 Q (F0 m pc ls [.int (qB res.1)])) (S : (Nat → Nat → Int32)) (v1 v2 s1 : Int32) (hM : f_M_differ_48 S v1 v2 s1 = some res) {H : Heap} {locs : List Loc} {ls : Array Slot} (w : mW D ad cI cZ A s.heap S H locs) (hl : lv_has ls 9 [(0, .ref (ad 0)), (1, .int v1), (2, .int v2)]) : W p l e R s m args below meth c H locs 0 0 Q (F0 m 48 ls [.int s1]) := by
  unfold f_M_differ_48 at hM
  refine lv_istore_n (lv' := [(3, .int s1), (0, .ref (ad 0)), (1, .int v1), (2, .int v2)]) F.1 F.2.1 qd_M_differ_48 rfl hl (by decide) rfl (fun ls hl => ?_)
  refine lv_aload_n F.1 F.2.1 qd_M_differ_49 rfl (lv_at hl 1 rfl) ?_
  refine mg_M_sort F hK w qk_664 qd_M_differ_50 ?_
  refine lv_iload_n F.1 F.2.1 qd_M_differ_53 rfl (lv_at hl 3 rfl) ?_
  obtain ⟨hi1, hM⟩ := qck_ok hM
  refine ml_M_sort F hK w hi1 qd_M_differ_54 ?_
  refine lv_iconst (v := 3) F.1 F.2.1 qd_M_differ_55 (by decide) ?_
  refine lv_icmp_ne (tgt := 67) F.1 F.2.1 qd_M_differ_56 (by decide) (fun hc2 => ?_) (fun hc2 => ?_)
  · rw [if_neg hc2] at hM
    refine lv_iconst (v := 1) F.1 F.2.1 qd_M_differ_67 (by decide) ?_
    refine lv_istore (lv' := [(4, .int (1 : Int32)), (3, .int s1), (0, .ref (ad 0)), (1, .int v1), (2, .int v2)]) F.1 F.2.1 qd_M_differ_68 hl (by decide) rfl (fun ls hl => ?_)
    refine lv_iconst (v := 0) F.1 F.2.1 qd_M_differ_70 (by decide) ?_
    refine lv_istore (lv' := [(5, .int (0 : Int32)), (4, .int (1 : Int32)), (3, .int s1), (0, .ref (ad 0)), (1, .int v1), (2, .int v2)]) F.1 F.2.1 qd_M_differ_71 hl (by decide) rfl (fun ls hl => ?_)
    exact t_M_differ_73 F hR hK hN hA hQ  qfu _ _ _ _ _ _ hM w (lv_sub hl [3, 4, 5, 2, 1, 0] rfl)
  · rw [if_pos hc2] at hM
    refine lv_aload_n F.1 F.2.1 qd_M_differ_59 rfl (lv_at hl 1 rfl) ?_
    refine lv_iload_n F.1 F.2.1 qd_M_differ_60 rfl (lv_at hl 3 rfl) ?_
    obtain ⟨q3, hq4, hM⟩ := qbd hM
    refine m_calli F hK hN hA w (c_M_boundCount l D ad cI cZ hq4) qk_880 qk_882 qs_M_boundCount qk_8 qk_883 qv_M_boundCount rfl rfl ⟨Nat.le_trans (by decide) hR.1, Nat.le_trans (by decide) hR.2⟩ (ci := 6) rfl (j := 0) rfl hl.1 rfl (Nat.le_of_ble_eq_true rfl) qd_M_differ_61 (fun H locs w => ?_)
    refine lv_goto (tgt := 68) F.1 F.2.1 qd_M_differ_64 (by decide) ?_
    refine lv_istore (lv' := [(4, .int q3), (3, .int s1), (0, .ref (ad 0)), (1, .int v1), (2, .int v2)]) F.1 F.2.1 qd_M_differ_68 hl (by decide) rfl (fun ls hl => ?_)
    refine lv_iconst (v := 0) F.1 F.2.1 qd_M_differ_70 (by decide) ?_
    refine lv_istore (lv' := [(5, .int (0 : Int32)), (4, .int q3), (3, .int s1), (0, .ref (ad 0)), (1, .int v1), (2, .int v2)]) F.1 F.2.1 qd_M_differ_71 hl (by decide) rfl (fun ls hl => ?_)
    exact t_M_differ_73 F hR hK hN hA hQ  qfu _ _ _ _ _ _ hM w (lv_sub hl [3, 4, 5, 2, 1, 0] rfl)
set_option maxRecDepth 100000 in
set_option maxHeartbeats 4000000 in
theorem t_M_differ_29 {p : Program} {l : Launch} {e : Env} {R : Room} {s : State} {m : MethodId} {args : Array Value} {below : List Frame} {meth : Method} {c : Code} {Q : State → Prop} {D : va_G} {ad : Nat → Nat} {cI cZ : ClassId} {A : Nat → Prop} (F : CallFix p m c qb_M_differ 9 s args qtb "CaptureSubtypesModel") (hR : 9 ≤ R.frames ∧ 225 ≤ R.locals) (hK : va_K D qcl [(cI, .int), (cZ, .boolean)] s) (hN : qnests mns s) (hA : ∀ q, s.heap.size ≤ q → A q) {res : (Bool × (Nat → Nat → Int32))} (hQ : ∀ (H : Heap) (locs : List Loc) (pc : Nat) (ls : Array Slot), decode qb_M_differ pc = .ok (.ireturn, 1) → mW D ad cI cZ A s.heap res.2 H locs → W p l e R s m args below meth c H locs 0 0 Q (F0 m pc ls [.int (qB res.1)])) (S : (Nat → Nat → Int32)) (v1 v2 : Int32) (hM : f_M_differ_29 S v1 v2 = some res) {H : Heap} {locs : List Loc} {ls : Array Slot} (w : mW D ad cI cZ A s.heap S H locs) (hl : lv_has ls 9 [(0, .ref (ad 0)), (1, .int v1), (2, .int v2)]) : W p l e R s m args below meth c H locs 0 0 Q (F0 m 29 ls []) := by
  unfold f_M_differ_29 at hM
  refine lv_aload_n F.1 F.2.1 qd_M_differ_29 rfl (lv_at hl 0 rfl) ?_
  refine mg_M_sort F hK w qk_664 qd_M_differ_30 ?_
  refine lv_iload_n F.1 F.2.1 qd_M_differ_33 rfl (lv_at hl 1 rfl) ?_
  obtain ⟨hi1, hM⟩ := qck_ok hM
  refine ml_M_sort F hK w hi1 qd_M_differ_34 ?_
  refine lv_iconst (v := 3) F.1 F.2.1 qd_M_differ_35 (by decide) ?_
  refine lv_icmp_ne (tgt := 47) F.1 F.2.1 qd_M_differ_36 (by decide) (fun hc2 => ?_) (fun hc2 => ?_)
  · rw [if_neg hc2] at hM
    refine lv_iconst (v := 1) F.1 F.2.1 qd_M_differ_47 (by decide) ?_
    exact t_M_differ_48 F hR hK hN hA hQ  _ _ _ _ hM w (lv_sub hl [0, 1, 2] rfl)
  · rw [if_pos hc2] at hM
    refine lv_aload_n F.1 F.2.1 qd_M_differ_39 rfl (lv_at hl 0 rfl) ?_
    refine lv_iload_n F.1 F.2.1 qd_M_differ_40 rfl (lv_at hl 1 rfl) ?_
    obtain ⟨q3, hq4, hM⟩ := qbd hM
    refine m_calli F hK hN hA w (c_M_boundCount l D ad cI cZ hq4) qk_880 qk_882 qs_M_boundCount qk_8 qk_883 qv_M_boundCount rfl rfl ⟨Nat.le_trans (by decide) hR.1, Nat.le_trans (by decide) hR.2⟩ (ci := 6) rfl (j := 0) rfl hl.1 rfl (Nat.le_of_ble_eq_true rfl) qd_M_differ_41 (fun H locs w => ?_)
    refine lv_goto (tgt := 48) F.1 F.2.1 qd_M_differ_44 (by decide) ?_
    exact t_M_differ_48 F hR hK hN hA hQ  _ _ _ _ hM w (lv_sub hl [0, 1, 2] rfl)
set_option maxRecDepth 100000 in
set_option maxHeartbeats 4000000 in
theorem t_M_differ {p : Program} {l : Launch} {e : Env} {R : Room} {s : State} {m : MethodId} {args : Array Value} {below : List Frame} {meth : Method} {c : Code} {Q : State → Prop} {D : va_G} {ad : Nat → Nat} {cI cZ : ClassId} {A : Nat → Prop} (F : CallFix p m c qb_M_differ 9 s args qtb "CaptureSubtypesModel") (hR : 9 ≤ R.frames ∧ 225 ≤ R.locals) (hK : va_K D qcl [(cI, .int), (cZ, .boolean)] s) (hN : qnests mns s) (hA : ∀ q, s.heap.size ≤ q → A q) {res : (Bool × (Nat → Nat → Int32))} (hQ : ∀ (H : Heap) (locs : List Loc) (pc : Nat) (ls : Array Slot), decode qb_M_differ pc = .ok (.ireturn, 1) → mW D ad cI cZ A s.heap res.2 H locs → W p l e R s m args below meth c H locs 0 0 Q (F0 m pc ls [.int (qB res.1)])) (S : (Nat → Nat → Int32)) (a1 a2 : Int32) (hM : f_M_differ S a1 a2 = some res) {H : Heap} {locs : List Loc} {ls : Array Slot} (w : mW D ad cI cZ A s.heap S H locs) (hl : lv_has ls 9 [(0, .ref (ad 0)), (1, .int a1), (2, .int a2)]) : W p l e R s m args below meth c H locs 0 0 Q (F0 m 0 ls []) := by
  unfold f_M_differ at hM
  refine lv_iload_n F.1 F.2.1 qd_M_differ_0 rfl (lv_at hl 1 rfl) ?_
  refine lv_iload_n F.1 F.2.1 qd_M_differ_1 rfl (lv_at hl 2 rfl) ?_
  refine lv_icmp_ne (tgt := 7) F.1 F.2.1 qd_M_differ_2 (by decide) (fun hc1 => ?_) (fun hc1 => ?_)
  · rw [if_neg hc1] at hM
    refine lv_aload_n F.1 F.2.1 qd_M_differ_7 rfl (lv_at hl 0 rfl) ?_
    refine mg_M_sort F hK w qk_664 qd_M_differ_8 ?_
    refine lv_iload_n F.1 F.2.1 qd_M_differ_11 rfl (lv_at hl 1 rfl) ?_
    obtain ⟨hi2, hM⟩ := qck_ok hM
    refine ml_M_sort F hK w hi2 qd_M_differ_12 ?_
    refine lv_iconst (v := 3) F.1 F.2.1 qd_M_differ_13 (by decide) ?_
    refine lv_icmp_eq (tgt := 29) F.1 F.2.1 qd_M_differ_14 (by decide) (fun hc3 => ?_) (fun hc3 => ?_)
    · rw [if_pos hc3] at hM
      exact t_M_differ_29 F hR hK hN hA hQ  _ _ _ hM w (lv_sub hl [0, 1, 2] rfl)
    · rw [if_neg hc3] at hM
      refine lv_aload_n F.1 F.2.1 qd_M_differ_17 rfl (lv_at hl 0 rfl) ?_
      refine mg_M_sort F hK w qk_664 qd_M_differ_18 ?_
      refine lv_iload_n F.1 F.2.1 qd_M_differ_21 rfl (lv_at hl 2 rfl) ?_
      obtain ⟨hi4, hM⟩ := qck_ok hM
      refine ml_M_sort F hK w hi4 qd_M_differ_22 ?_
      refine lv_iconst (v := 3) F.1 F.2.1 qd_M_differ_23 (by decide) ?_
      refine lv_icmp_eq (tgt := 29) F.1 F.2.1 qd_M_differ_24 (by decide) (fun hc5 => ?_) (fun hc5 => ?_)
      · rw [if_pos hc5] at hM
        exact t_M_differ_29 F hR hK hN hA hQ  _ _ _ hM w (lv_sub hl [0, 1, 2] rfl)
      · rw [if_neg hc5] at hM
        refine lv_iconst (v := 1) F.1 F.2.1 qd_M_differ_27 (by decide) ?_
        cases hM
        exact hQ _ _ _ _ qd_M_differ_28 w
  · rw [if_pos hc1] at hM
    refine lv_iconst (v := 0) F.1 F.2.1 qd_M_differ_5 (by decide) ?_
    cases hM
    exact hQ _ _ _ _ qd_M_differ_6 w
set_option maxRecDepth 100000 in
theorem c_M_differ (l : Launch) (D : va_G) (ad : Nat → Nat) (cI cZ : ClassId) {S : (Nat → Nat → Int32)} {a1 a2 : Int32} {res : (Bool × (Nat → Nat → Int32))} (hM : f_M_differ S a1 a2 = some res) : mMi l qy_M_differ qb_M_differ 9 (some .boolean) { frames := 9, cells := 0, slots := 0, locals := 225 } D ad cI cZ S [.ref (ad 0), .int a1, .int a2] (qB res.1) res.2 := m_ofz (by decide +kernel) (Nat.le_of_ble_eq_true rfl) (fun p e s m args below meth c Q A ls F hK hN hA w hl hQ => t_M_differ F ⟨Nat.le_refl _, Nat.le_refl _⟩ hK hN hA hQ S a1 a2 hM w hl)
-- M_mayClasses
def fb_M_mayClasses_28 (k_28 : (Nat → Nat → Int32) → Int32 → Int32 → Int32 → Option (Bool × (Nat → Nat → Int32))) (S : (Nat → Nat → Int32)) (v1 v2 v3 : Int32) : Option (Bool × (Nat → Nat → Int32)) := if (S 0 0) ≤ v3 then (some (true, S)) else (qck (qin v3 12) (if (S 2 v3.toNatClampNeg) ≤ 0 then (k_28 S v1 v2 (v3 + (1 : Int32))) else (qck (qin v1 9000) (qck (qin (((12 : Int32) * (S 10 v1.toNatClampNeg)) + v3) 144) (if (S 18 (((12 : Int32) * (S 10 v1.toNatClampNeg)) + v3).toNatClampNeg) = 0 then (k_28 S v1 v2 (v3 + (1 : Int32))) else (qck (qin v2 9000) (qck (qin (((12 : Int32) * (S 10 v2.toNatClampNeg)) + v3) 144) (if (S 18 (((12 : Int32) * (S 10 v2.toNatClampNeg)) + v3).toNatClampNeg) = 0 then (k_28 S v1 v2 (v3 + (1 : Int32))) else ((f_M_asClass S v1 v3).bind (fun q10 => (f_M_asClass q10.2 v2 v3).bind (fun q12 => qck (qin q10.1 9000) (if (q12.2 9 q10.1.toNatClampNeg) = (2 : Int32) then (qck (qin q12.1 9000) (if (q12.2 9 q12.1.toNatClampNeg) = (2 : Int32) then (qck (qin q10.1 9000) (qck (qin q12.1 9000) ((f_M_differ q12.2 (q12.2 11 q10.1.toNatClampNeg) (q12.2 11 q12.1.toNatClampNeg)).bind (fun q20 => if (qB q20.1) = 0 then (qck (qin q10.1 9000) (if (q20.2 12 q10.1.toNatClampNeg) = (-1 : Int32) then (k_28 q20.2 v1 v2 (v3 + (1 : Int32))) else (qck (qin q10.1 9000) (qck (qin q12.1 9000) ((f_M_differ q20.2 (q20.2 12 q10.1.toNatClampNeg) (q20.2 12 q12.1.toNatClampNeg)).bind (fun q27 => if (qB q27.1) = 0 then (k_28 q27.2 v1 v2 (v3 + (1 : Int32))) else (some (false, q27.2)))))))) else (some (false, q20.2)))))) else (k_28 q12.2 v1 v2 (v3 + (1 : Int32))))) else (k_28 q12.2 v1 v2 (v3 + (1 : Int32)))))))))))))))
def f_M_mayClasses_28 : Nat → (Nat → Nat → Int32) → Int32 → Int32 → Int32 → Option (Bool × (Nat → Nat → Int32))
  | 0 => fun _ _ _ _ => none
  | n + 1 => fun S v1 v2 v3 => fb_M_mayClasses_28 (f_M_mayClasses_28 n) S v1 v2 v3
def f_M_mayClasses (S : (Nat → Nat → Int32)) (a1 a2 : Int32) : Option (Bool × (Nat → Nat → Int32)) := qck (qin a1 9000) (qck (qin a2 9000) (qck (qin (((12 : Int32) * (S 10 a1.toNatClampNeg)) + (S 10 a2.toNatClampNeg)) 144) (if (S 19 (((12 : Int32) * (S 10 a1.toNatClampNeg)) + (S 10 a2.toNatClampNeg)).toNatClampNeg) = 0 then (f_M_mayClasses_28  qfu S a1 a2 (1 : Int32)) else (some (false, S)))))
set_option maxRecDepth 100000 in
set_option maxHeartbeats 4000000 in
theorem tb_M_mayClasses_28 {p : Program} {l : Launch} {e : Env} {R : Room} {s : State} {m : MethodId} {args : Array Value} {below : List Frame} {meth : Method} {c : Code} {Q : State → Prop} {D : va_G} {ad : Nat → Nat} {cI cZ : ClassId} {A : Nat → Prop} (F : CallFix p m c qb_M_mayClasses 6 s args qtb "CaptureSubtypesModel") (hR : 10 ≤ R.frames ∧ 253 ≤ R.locals) (hK : va_K D qcl [(cI, .int), (cZ, .boolean)] s) (hN : qnests mns s) (hA : ∀ q, s.heap.size ≤ q → A q) {res : (Bool × (Nat → Nat → Int32))} (hQ : ∀ (H : Heap) (locs : List Loc) (pc : Nat) (ls : Array Slot), decode qb_M_mayClasses pc = .ok (.ireturn, 1) → mW D ad cI cZ A s.heap res.2 H locs → W p l e R s m args below meth c H locs 0 0 Q (F0 m pc ls [.int (qB res.1)])) {k_28 : (Nat → Nat → Int32) → Int32 → Int32 → Int32 → Option (Bool × (Nat → Nat → Int32))} (hk_28 : ∀ (S : Nat → Nat → Int32) (v1 v2 v3 : Int32), k_28 S v1 v2 v3 = some res → ∀ {H : Heap} {locs : List Loc} {ls : Array Slot}, mW D ad cI cZ A s.heap S H locs → lv_has ls 6 [(0, .ref (ad 0)), (1, .int v1), (2, .int v2), (3, .int v3)] → W p l e R s m args below meth c H locs 0 0 Q (F0 m 28 ls [])) (S : (Nat → Nat → Int32)) (v1 v2 v3 : Int32) (hM : fb_M_mayClasses_28 k_28 S v1 v2 v3 = some res) {H : Heap} {locs : List Loc} {ls : Array Slot} (w : mW D ad cI cZ A s.heap S H locs) (hl : lv_has ls 6 [(0, .ref (ad 0)), (1, .int v1), (2, .int v2), (3, .int v3)]) : W p l e R s m args below meth c H locs 0 0 Q (F0 m 28 ls []) := by
  unfold fb_M_mayClasses_28 at hM
  refine lv_iload_n F.1 F.2.1 qd_M_mayClasses_28 rfl (lv_at hl 3 rfl) ?_
  refine lv_aload_n F.1 F.2.1 qd_M_mayClasses_29 rfl (lv_at hl 0 rfl) ?_
  refine mg_M_classes F hK w qk_655 qd_M_mayClasses_30 ?_
  refine lv_icmp_ge (tgt := 182) F.1 F.2.1 qd_M_mayClasses_33 (by decide) (fun hc1 => ?_) (fun hc1 => ?_)
  · rw [if_pos hc1] at hM
    refine lv_iconst (v := 1) F.1 F.2.1 qd_M_mayClasses_182 (by decide) ?_
    cases hM
    exact hQ _ _ _ _ qd_M_mayClasses_183 w
  · rw [if_neg hc1] at hM
    refine lv_aload_n F.1 F.2.1 qd_M_mayClasses_36 rfl (lv_at hl 0 rfl) ?_
    refine mg_M_parameters F hK w qk_657 qd_M_mayClasses_37 ?_
    refine lv_iload_n F.1 F.2.1 qd_M_mayClasses_40 rfl (lv_at hl 3 rfl) ?_
    obtain ⟨hi2, hM⟩ := qck_ok hM
    refine ml_M_parameters F hK w hi2 qd_M_mayClasses_41 ?_
    refine lv_if_le (tgt := 176) F.1 F.2.1 qd_M_mayClasses_42 (by decide) (fun hc3 => ?_) (fun hc3 => ?_)
    · rw [if_pos hc3] at hM
      refine lv_iinc (v := (v3 + (1 : Int32))) (lv' := [(3, .int (v3 + (1 : Int32))), (0, .ref (ad 0)), (1, .int v1), (2, .int v2)]) F.1 F.2.1 qd_M_mayClasses_176 hl (k := 3) rfl rfl (by decide) rfl (fun ls hl => ?_)
      refine lv_goto (tgt := 28) F.1 F.2.1 qd_M_mayClasses_179 (by decide) ?_
      exact hk_28 _ _ _ _ hM w (lv_sub hl [1, 2, 3, 0] rfl)
    · rw [if_neg hc3] at hM
      refine lv_aload_n F.1 F.2.1 qd_M_mayClasses_45 rfl (lv_at hl 0 rfl) ?_
      refine mg_M_isBelow F hK w qk_673 qd_M_mayClasses_46 ?_
      refine lv_bipush (v := 12) F.1 F.2.1 qd_M_mayClasses_49 (by decide) ?_
      refine lv_aload_n F.1 F.2.1 qd_M_mayClasses_51 rfl (lv_at hl 0 rfl) ?_
      refine mg_M_first F hK w qk_665 qd_M_mayClasses_52 ?_
      refine lv_iload_n F.1 F.2.1 qd_M_mayClasses_55 rfl (lv_at hl 1 rfl) ?_
      obtain ⟨hi4, hM⟩ := qck_ok hM
      refine ml_M_first F hK w hi4 qd_M_mayClasses_56 ?_
      refine lv_imul F.1 F.2.1 qd_M_mayClasses_57 ?_
      refine lv_iload_n F.1 F.2.1 qd_M_mayClasses_58 rfl (lv_at hl 3 rfl) ?_
      refine lv_iadd F.1 F.2.1 qd_M_mayClasses_59 ?_
      obtain ⟨hi5, hM⟩ := qck_ok hM
      refine ml_M_isBelow F hK w hi5 qd_M_mayClasses_60 ?_
      refine lv_if_eq (tgt := 176) F.1 F.2.1 qd_M_mayClasses_61 (by decide) (fun hc6 => ?_) (fun hc6 => ?_)
      · rw [if_pos hc6] at hM
        refine lv_iinc (v := (v3 + (1 : Int32))) (lv' := [(3, .int (v3 + (1 : Int32))), (0, .ref (ad 0)), (1, .int v1), (2, .int v2)]) F.1 F.2.1 qd_M_mayClasses_176 hl (k := 3) rfl rfl (by decide) rfl (fun ls hl => ?_)
        refine lv_goto (tgt := 28) F.1 F.2.1 qd_M_mayClasses_179 (by decide) ?_
        exact hk_28 _ _ _ _ hM w (lv_sub hl [1, 2, 3, 0] rfl)
      · rw [if_neg hc6] at hM
        refine lv_aload_n F.1 F.2.1 qd_M_mayClasses_64 rfl (lv_at hl 0 rfl) ?_
        refine mg_M_isBelow F hK w qk_673 qd_M_mayClasses_65 ?_
        refine lv_bipush (v := 12) F.1 F.2.1 qd_M_mayClasses_68 (by decide) ?_
        refine lv_aload_n F.1 F.2.1 qd_M_mayClasses_70 rfl (lv_at hl 0 rfl) ?_
        refine mg_M_first F hK w qk_665 qd_M_mayClasses_71 ?_
        refine lv_iload_n F.1 F.2.1 qd_M_mayClasses_74 rfl (lv_at hl 2 rfl) ?_
        obtain ⟨hi7, hM⟩ := qck_ok hM
        refine ml_M_first F hK w hi7 qd_M_mayClasses_75 ?_
        refine lv_imul F.1 F.2.1 qd_M_mayClasses_76 ?_
        refine lv_iload_n F.1 F.2.1 qd_M_mayClasses_77 rfl (lv_at hl 3 rfl) ?_
        refine lv_iadd F.1 F.2.1 qd_M_mayClasses_78 ?_
        obtain ⟨hi8, hM⟩ := qck_ok hM
        refine ml_M_isBelow F hK w hi8 qd_M_mayClasses_79 ?_
        refine lv_if_eq (tgt := 176) F.1 F.2.1 qd_M_mayClasses_80 (by decide) (fun hc9 => ?_) (fun hc9 => ?_)
        · rw [if_pos hc9] at hM
          refine lv_iinc (v := (v3 + (1 : Int32))) (lv' := [(3, .int (v3 + (1 : Int32))), (0, .ref (ad 0)), (1, .int v1), (2, .int v2)]) F.1 F.2.1 qd_M_mayClasses_176 hl (k := 3) rfl rfl (by decide) rfl (fun ls hl => ?_)
          refine lv_goto (tgt := 28) F.1 F.2.1 qd_M_mayClasses_179 (by decide) ?_
          exact hk_28 _ _ _ _ hM w (lv_sub hl [1, 2, 3, 0] rfl)
        · rw [if_neg hc9] at hM
          refine lv_aload_n F.1 F.2.1 qd_M_mayClasses_83 rfl (lv_at hl 0 rfl) ?_
          refine lv_iload_n F.1 F.2.1 qd_M_mayClasses_84 rfl (lv_at hl 1 rfl) ?_
          refine lv_iload_n F.1 F.2.1 qd_M_mayClasses_85 rfl (lv_at hl 3 rfl) ?_
          obtain ⟨q10, hq11, hM⟩ := qbd hM
          refine m_calli F hK hN hA w (c_M_asClass l D ad cI cZ hq11) qk_904 qk_906 qs_M_asClass qk_8 qk_907 qv_M_asClass rfl rfl ⟨Nat.le_trans (by decide) hR.1, Nat.le_trans (by decide) hR.2⟩ (ci := 6) rfl (j := 0) rfl hl.1 rfl (Nat.le_of_ble_eq_true rfl) qd_M_mayClasses_86 (fun H locs w => ?_)
          refine lv_istore (lv' := [(4, .int q10.1), (0, .ref (ad 0)), (1, .int v1), (2, .int v2), (3, .int v3)]) F.1 F.2.1 qd_M_mayClasses_89 hl (by decide) rfl (fun ls hl => ?_)
          refine lv_aload_n F.1 F.2.1 qd_M_mayClasses_91 rfl (lv_at hl 1 rfl) ?_
          refine lv_iload_n F.1 F.2.1 qd_M_mayClasses_92 rfl (lv_at hl 3 rfl) ?_
          refine lv_iload_n F.1 F.2.1 qd_M_mayClasses_93 rfl (lv_at hl 4 rfl) ?_
          obtain ⟨q12, hq13, hM⟩ := qbd hM
          refine m_calli F hK hN hA w (c_M_asClass l D ad cI cZ hq13) qk_904 qk_906 qs_M_asClass qk_8 qk_907 qv_M_asClass rfl rfl ⟨Nat.le_trans (by decide) hR.1, Nat.le_trans (by decide) hR.2⟩ (ci := 6) rfl (j := 0) rfl hl.1 rfl (Nat.le_of_ble_eq_true rfl) qd_M_mayClasses_94 (fun H locs w => ?_)
          refine lv_istore (lv' := [(5, .int q12.1), (4, .int q10.1), (0, .ref (ad 0)), (1, .int v1), (2, .int v2), (3, .int v3)]) F.1 F.2.1 qd_M_mayClasses_97 hl (by decide) rfl (fun ls hl => ?_)
          refine lv_aload_n F.1 F.2.1 qd_M_mayClasses_99 rfl (lv_at hl 2 rfl) ?_
          refine mg_M_sort F hK w qk_664 qd_M_mayClasses_100 ?_
          refine lv_iload F.1 F.2.1 qd_M_mayClasses_103 (lv_at hl 1 rfl) ?_
          obtain ⟨hi14, hM⟩ := qck_ok hM
          refine ml_M_sort F hK w hi14 qd_M_mayClasses_105 ?_
          refine lv_iconst (v := 2) F.1 F.2.1 qd_M_mayClasses_106 (by decide) ?_
          refine lv_icmp_ne (tgt := 176) F.1 F.2.1 qd_M_mayClasses_107 (by decide) (fun hc15 => ?_) (fun hc15 => ?_)
          · rw [if_neg hc15] at hM
            refine lv_iinc (v := (v3 + (1 : Int32))) (lv' := [(3, .int (v3 + (1 : Int32))), (5, .int q12.1), (4, .int q10.1), (0, .ref (ad 0)), (1, .int v1), (2, .int v2)]) F.1 F.2.1 qd_M_mayClasses_176 hl (k := 5) rfl rfl (by decide) rfl (fun ls hl => ?_)
            refine lv_goto (tgt := 28) F.1 F.2.1 qd_M_mayClasses_179 (by decide) ?_
            exact hk_28 _ _ _ _ hM w (lv_sub hl [3, 4, 5, 0] rfl)
          · rw [if_pos hc15] at hM
            refine lv_aload_n F.1 F.2.1 qd_M_mayClasses_110 rfl (lv_at hl 2 rfl) ?_
            refine mg_M_sort F hK w qk_664 qd_M_mayClasses_111 ?_
            refine lv_iload F.1 F.2.1 qd_M_mayClasses_114 (lv_at hl 0 rfl) ?_
            obtain ⟨hi16, hM⟩ := qck_ok hM
            refine ml_M_sort F hK w hi16 qd_M_mayClasses_116 ?_
            refine lv_iconst (v := 2) F.1 F.2.1 qd_M_mayClasses_117 (by decide) ?_
            refine lv_icmp_ne (tgt := 176) F.1 F.2.1 qd_M_mayClasses_118 (by decide) (fun hc17 => ?_) (fun hc17 => ?_)
            · rw [if_neg hc17] at hM
              refine lv_iinc (v := (v3 + (1 : Int32))) (lv' := [(3, .int (v3 + (1 : Int32))), (5, .int q12.1), (4, .int q10.1), (0, .ref (ad 0)), (1, .int v1), (2, .int v2)]) F.1 F.2.1 qd_M_mayClasses_176 hl (k := 5) rfl rfl (by decide) rfl (fun ls hl => ?_)
              refine lv_goto (tgt := 28) F.1 F.2.1 qd_M_mayClasses_179 (by decide) ?_
              exact hk_28 _ _ _ _ hM w (lv_sub hl [3, 4, 5, 0] rfl)
            · rw [if_pos hc17] at hM
              refine lv_aload_n F.1 F.2.1 qd_M_mayClasses_121 rfl (lv_at hl 2 rfl) ?_
              refine lv_aload_n F.1 F.2.1 qd_M_mayClasses_122 rfl (lv_at hl 2 rfl) ?_
              refine mg_M_second F hK w qk_666 qd_M_mayClasses_123 ?_
              refine lv_iload F.1 F.2.1 qd_M_mayClasses_126 (lv_at hl 1 rfl) ?_
              obtain ⟨hi18, hM⟩ := qck_ok hM
              refine ml_M_second F hK w hi18 qd_M_mayClasses_128 ?_
              refine lv_aload_n F.1 F.2.1 qd_M_mayClasses_129 rfl (lv_at hl 2 rfl) ?_
              refine mg_M_second F hK w qk_666 qd_M_mayClasses_130 ?_
              refine lv_iload F.1 F.2.1 qd_M_mayClasses_133 (lv_at hl 0 rfl) ?_
              obtain ⟨hi19, hM⟩ := qck_ok hM
              refine ml_M_second F hK w hi19 qd_M_mayClasses_135 ?_
              obtain ⟨q20, hq21, hM⟩ := qbd hM
              refine m_calli F hK hN hA w (c_M_differ l D ad cI cZ hq21) qk_952 qk_954 qs_M_differ qk_8 qk_955 qv_M_differ rfl rfl ⟨Nat.le_trans (by decide) hR.1, Nat.le_trans (by decide) hR.2⟩ (ci := 6) rfl (j := 0) rfl hl.1 rfl (Nat.le_of_ble_eq_true rfl) qd_M_mayClasses_136 (fun H locs w => ?_)
              refine lv_if_ne (tgt := 174) F.1 F.2.1 qd_M_mayClasses_139 (by decide) (fun hc22 => ?_) (fun hc22 => ?_)
              · rw [if_neg hc22] at hM
                refine lv_iconst (v := 0) F.1 F.2.1 qd_M_mayClasses_174 (by decide) ?_
                cases hM
                exact hQ _ _ _ _ qd_M_mayClasses_175 w
              · rw [if_pos hc22] at hM
                refine lv_aload_n F.1 F.2.1 qd_M_mayClasses_142 rfl (lv_at hl 2 rfl) ?_
                refine mg_M_third F hK w qk_667 qd_M_mayClasses_143 ?_
                refine lv_iload F.1 F.2.1 qd_M_mayClasses_146 (lv_at hl 1 rfl) ?_
                obtain ⟨hi23, hM⟩ := qck_ok hM
                refine ml_M_third F hK w hi23 qd_M_mayClasses_148 ?_
                refine lv_iconst (v := (-1)) F.1 F.2.1 qd_M_mayClasses_149 (by decide) ?_
                refine lv_icmp_eq (tgt := 176) F.1 F.2.1 qd_M_mayClasses_150 (by decide) (fun hc24 => ?_) (fun hc24 => ?_)
                · rw [if_pos hc24] at hM
                  refine lv_iinc (v := (v3 + (1 : Int32))) (lv' := [(3, .int (v3 + (1 : Int32))), (5, .int q12.1), (4, .int q10.1), (0, .ref (ad 0)), (1, .int v1), (2, .int v2)]) F.1 F.2.1 qd_M_mayClasses_176 hl (k := 5) rfl rfl (by decide) rfl (fun ls hl => ?_)
                  refine lv_goto (tgt := 28) F.1 F.2.1 qd_M_mayClasses_179 (by decide) ?_
                  exact hk_28 _ _ _ _ hM w (lv_sub hl [3, 4, 5, 0] rfl)
                · rw [if_neg hc24] at hM
                  refine lv_aload_n F.1 F.2.1 qd_M_mayClasses_153 rfl (lv_at hl 2 rfl) ?_
                  refine lv_aload_n F.1 F.2.1 qd_M_mayClasses_154 rfl (lv_at hl 2 rfl) ?_
                  refine mg_M_third F hK w qk_667 qd_M_mayClasses_155 ?_
                  refine lv_iload F.1 F.2.1 qd_M_mayClasses_158 (lv_at hl 1 rfl) ?_
                  obtain ⟨hi25, hM⟩ := qck_ok hM
                  refine ml_M_third F hK w hi25 qd_M_mayClasses_160 ?_
                  refine lv_aload_n F.1 F.2.1 qd_M_mayClasses_161 rfl (lv_at hl 2 rfl) ?_
                  refine mg_M_third F hK w qk_667 qd_M_mayClasses_162 ?_
                  refine lv_iload F.1 F.2.1 qd_M_mayClasses_165 (lv_at hl 0 rfl) ?_
                  obtain ⟨hi26, hM⟩ := qck_ok hM
                  refine ml_M_third F hK w hi26 qd_M_mayClasses_167 ?_
                  obtain ⟨q27, hq28, hM⟩ := qbd hM
                  refine m_calli F hK hN hA w (c_M_differ l D ad cI cZ hq28) qk_952 qk_954 qs_M_differ qk_8 qk_955 qv_M_differ rfl rfl ⟨Nat.le_trans (by decide) hR.1, Nat.le_trans (by decide) hR.2⟩ (ci := 6) rfl (j := 0) rfl hl.1 rfl (Nat.le_of_ble_eq_true rfl) qd_M_mayClasses_168 (fun H locs w => ?_)
                  refine lv_if_eq (tgt := 176) F.1 F.2.1 qd_M_mayClasses_171 (by decide) (fun hc29 => ?_) (fun hc29 => ?_)
                  · rw [if_pos hc29] at hM
                    refine lv_iinc (v := (v3 + (1 : Int32))) (lv' := [(3, .int (v3 + (1 : Int32))), (5, .int q12.1), (4, .int q10.1), (0, .ref (ad 0)), (1, .int v1), (2, .int v2)]) F.1 F.2.1 qd_M_mayClasses_176 hl (k := 5) rfl rfl (by decide) rfl (fun ls hl => ?_)
                    refine lv_goto (tgt := 28) F.1 F.2.1 qd_M_mayClasses_179 (by decide) ?_
                    exact hk_28 _ _ _ _ hM w (lv_sub hl [3, 4, 5, 0] rfl)
                  · rw [if_neg hc29] at hM
                    refine lv_iconst (v := 0) F.1 F.2.1 qd_M_mayClasses_174 (by decide) ?_
                    cases hM
                    exact hQ _ _ _ _ qd_M_mayClasses_175 w
set_option maxRecDepth 100000 in
set_option maxHeartbeats 4000000 in
theorem t_M_mayClasses_28 {p : Program} {l : Launch} {e : Env} {R : Room} {s : State} {m : MethodId} {args : Array Value} {below : List Frame} {meth : Method} {c : Code} {Q : State → Prop} {D : va_G} {ad : Nat → Nat} {cI cZ : ClassId} {A : Nat → Prop} (F : CallFix p m c qb_M_mayClasses 6 s args qtb "CaptureSubtypesModel") (hR : 10 ≤ R.frames ∧ 253 ≤ R.locals) (hK : va_K D qcl [(cI, .int), (cZ, .boolean)] s) (hN : qnests mns s) (hA : ∀ q, s.heap.size ≤ q → A q) {res : (Bool × (Nat → Nat → Int32))} (hQ : ∀ (H : Heap) (locs : List Loc) (pc : Nat) (ls : Array Slot), decode qb_M_mayClasses pc = .ok (.ireturn, 1) → mW D ad cI cZ A s.heap res.2 H locs → W p l e R s m args below meth c H locs 0 0 Q (F0 m pc ls [.int (qB res.1)])) : ∀ (n : Nat) (S : (Nat → Nat → Int32)) (v1 v2 v3 : Int32) (hM : f_M_mayClasses_28 n S v1 v2 v3 = some res) {H : Heap} {locs : List Loc} {ls : Array Slot} (w : mW D ad cI cZ A s.heap S H locs) (hl : lv_has ls 6 [(0, .ref (ad 0)), (1, .int v1), (2, .int v2), (3, .int v3)]), W p l e R s m args below meth c H locs 0 0 Q (F0 m 28 ls []) := by
  intro n
  induction n with
  | zero => intro S v1 v2 v3 hM; exact absurd hM (by simp [f_M_mayClasses_28])
  | succ n ih => intro S v1 v2 v3 hM H locs ls w hl; exact tb_M_mayClasses_28 F hR hK hN hA hQ (k_28 := f_M_mayClasses_28 n) (fun S v1 v2 v3 hM H locs ls w hl => ih S v1 v2 v3 hM w hl) S v1 v2 v3 hM w hl
set_option maxRecDepth 100000 in
set_option maxHeartbeats 4000000 in
theorem t_M_mayClasses {p : Program} {l : Launch} {e : Env} {R : Room} {s : State} {m : MethodId} {args : Array Value} {below : List Frame} {meth : Method} {c : Code} {Q : State → Prop} {D : va_G} {ad : Nat → Nat} {cI cZ : ClassId} {A : Nat → Prop} (F : CallFix p m c qb_M_mayClasses 6 s args qtb "CaptureSubtypesModel") (hR : 10 ≤ R.frames ∧ 253 ≤ R.locals) (hK : va_K D qcl [(cI, .int), (cZ, .boolean)] s) (hN : qnests mns s) (hA : ∀ q, s.heap.size ≤ q → A q) {res : (Bool × (Nat → Nat → Int32))} (hQ : ∀ (H : Heap) (locs : List Loc) (pc : Nat) (ls : Array Slot), decode qb_M_mayClasses pc = .ok (.ireturn, 1) → mW D ad cI cZ A s.heap res.2 H locs → W p l e R s m args below meth c H locs 0 0 Q (F0 m pc ls [.int (qB res.1)])) (S : (Nat → Nat → Int32)) (a1 a2 : Int32) (hM : f_M_mayClasses S a1 a2 = some res) {H : Heap} {locs : List Loc} {ls : Array Slot} (w : mW D ad cI cZ A s.heap S H locs) (hl : lv_has ls 6 [(0, .ref (ad 0)), (1, .int a1), (2, .int a2)]) : W p l e R s m args below meth c H locs 0 0 Q (F0 m 0 ls []) := by
  unfold f_M_mayClasses at hM
  refine lv_aload_n F.1 F.2.1 qd_M_mayClasses_0 rfl (lv_at hl 0 rfl) ?_
  refine mg_M_isApart F hK w qk_674 qd_M_mayClasses_1 ?_
  refine lv_bipush (v := 12) F.1 F.2.1 qd_M_mayClasses_4 (by decide) ?_
  refine lv_aload_n F.1 F.2.1 qd_M_mayClasses_6 rfl (lv_at hl 0 rfl) ?_
  refine mg_M_first F hK w qk_665 qd_M_mayClasses_7 ?_
  refine lv_iload_n F.1 F.2.1 qd_M_mayClasses_10 rfl (lv_at hl 1 rfl) ?_
  obtain ⟨hi1, hM⟩ := qck_ok hM
  refine ml_M_first F hK w hi1 qd_M_mayClasses_11 ?_
  refine lv_imul F.1 F.2.1 qd_M_mayClasses_12 ?_
  refine lv_aload_n F.1 F.2.1 qd_M_mayClasses_13 rfl (lv_at hl 0 rfl) ?_
  refine mg_M_first F hK w qk_665 qd_M_mayClasses_14 ?_
  refine lv_iload_n F.1 F.2.1 qd_M_mayClasses_17 rfl (lv_at hl 2 rfl) ?_
  obtain ⟨hi2, hM⟩ := qck_ok hM
  refine ml_M_first F hK w hi2 qd_M_mayClasses_18 ?_
  refine lv_iadd F.1 F.2.1 qd_M_mayClasses_19 ?_
  obtain ⟨hi3, hM⟩ := qck_ok hM
  refine ml_M_isApart F hK w hi3 qd_M_mayClasses_20 ?_
  refine lv_if_eq (tgt := 26) F.1 F.2.1 qd_M_mayClasses_21 (by decide) (fun hc4 => ?_) (fun hc4 => ?_)
  · rw [if_pos hc4] at hM
    refine lv_iconst (v := 1) F.1 F.2.1 qd_M_mayClasses_26 (by decide) ?_
    refine lv_istore_n (lv' := [(3, .int (1 : Int32)), (0, .ref (ad 0)), (1, .int a1), (2, .int a2)]) F.1 F.2.1 qd_M_mayClasses_27 rfl hl (by decide) rfl (fun ls hl => ?_)
    exact t_M_mayClasses_28 F hR hK hN hA hQ  qfu _ _ _ _ hM w (lv_sub hl [1, 2, 3, 0] rfl)
  · rw [if_neg hc4] at hM
    refine lv_iconst (v := 0) F.1 F.2.1 qd_M_mayClasses_24 (by decide) ?_
    cases hM
    exact hQ _ _ _ _ qd_M_mayClasses_25 w
set_option maxRecDepth 100000 in
theorem c_M_mayClasses (l : Launch) (D : va_G) (ad : Nat → Nat) (cI cZ : ClassId) {S : (Nat → Nat → Int32)} {a1 a2 : Int32} {res : (Bool × (Nat → Nat → Int32))} (hM : f_M_mayClasses S a1 a2 = some res) : mMi l qy_M_mayClasses qb_M_mayClasses 6 (some .boolean) { frames := 10, cells := 0, slots := 0, locals := 253 } D ad cI cZ S [.ref (ad 0), .int a1, .int a2] (qB res.1) res.2 := m_ofz (by decide +kernel) (Nat.le_of_ble_eq_true rfl) (fun p e s m args below meth c Q A ls F hK hN hA w hl hQ => t_M_mayClasses F ⟨Nat.le_refl _, Nat.le_refl _⟩ hK hN hA hQ S a1 a2 hM w hl)
-- M_may
def f_M_may_303 (k_51 : (Nat → Nat → Int32) → Int32 → Int32 → Option (Int32 × (Nat → Nat → Int32))) (S : (Nat → Nat → Int32)) (v3 v4 v5 v6 : Int32) : Option (Int32 × (Nat → Nat → Int32)) := qck (qin v5 9000) (if (S 9 v5.toNatClampNeg) = (4 : Int32) then (some ((0 : Int32), S)) else (qck (qin v6 9000) (if (S 9 v6.toNatClampNeg) = (4 : Int32) then (some ((0 : Int32), S)) else ((f_M_mayClasses S v5 v6).bind (fun q5 => if (qB q5.1) = 0 then (some ((0 : Int32), q5.2)) else (k_51 q5.2 v3 (v4 + (1 : Int32))))))))
def fb_M_may_204 (k_51 : (Nat → Nat → Int32) → Int32 → Int32 → Option (Int32 × (Nat → Nat → Int32))) (k_204 : (Nat → Nat → Int32) → Int32 → Int32 → Int32 → Int32 → Int32 → Option (Int32 × (Nat → Nat → Int32))) (S : (Nat → Nat → Int32)) (v3 v4 v5 v6 v8 : Int32) : Option (Int32 × (Nat → Nat → Int32)) := (f_M_boundCount S v6).bind (fun q1 => if q1 ≤ v8 then (k_51 S v3 (v4 + (1 : Int32))) else (qck (qin v3 3000) ((f_M_boundOf (qwr S 29 v3.toNatClampNeg v5) v6 v8).bind (fun q5 => qck (qin v3 3000) (k_204 (qwr (qwr S 29 v3.toNatClampNeg v5) 30 v3.toNatClampNeg q5) (v3 + (1 : Int32)) v4 v5 v6 (v8 + (1 : Int32)))))))
def f_M_may_204 (k_51 : (Nat → Nat → Int32) → Int32 → Int32 → Option (Int32 × (Nat → Nat → Int32))) : Nat → (Nat → Nat → Int32) → Int32 → Int32 → Int32 → Int32 → Int32 → Option (Int32 × (Nat → Nat → Int32))
  | 0 => fun _ _ _ _ _ _ => none
  | n + 1 => fun S v3 v4 v5 v6 v8 => fb_M_may_204 k_51 (f_M_may_204 k_51 n) S v3 v4 v5 v6 v8
def fb_M_may_145 (k_51 : (Nat → Nat → Int32) → Int32 → Int32 → Option (Int32 × (Nat → Nat → Int32))) (k_145 : (Nat → Nat → Int32) → Int32 → Int32 → Int32 → Int32 → Int32 → Option (Int32 × (Nat → Nat → Int32))) (S : (Nat → Nat → Int32)) (v3 v4 v5 v6 v8 : Int32) : Option (Int32 × (Nat → Nat → Int32)) := (f_M_boundCount S v5).bind (fun q1 => if q1 ≤ v8 then (k_51 S v3 (v4 + (1 : Int32))) else ((f_M_boundOf S v5 v8).bind (fun q4 => qck (qin v3 3000) (qck (qin v3 3000) (k_145 (qwr (qwr S 29 v3.toNatClampNeg q4) 30 v3.toNatClampNeg v6) (v3 + (1 : Int32)) v4 v5 v6 (v8 + (1 : Int32)))))))
def f_M_may_145 (k_51 : (Nat → Nat → Int32) → Int32 → Int32 → Option (Int32 × (Nat → Nat → Int32))) : Nat → (Nat → Nat → Int32) → Int32 → Int32 → Int32 → Int32 → Int32 → Option (Int32 × (Nat → Nat → Int32))
  | 0 => fun _ _ _ _ _ _ => none
  | n + 1 => fun S v3 v4 v5 v6 v8 => fb_M_may_145 k_51 (f_M_may_145 k_51 n) S v3 v4 v5 v6 v8
def f_M_may_123 (k_51 : (Nat → Nat → Int32) → Int32 → Int32 → Option (Int32 × (Nat → Nat → Int32))) (S : (Nat → Nat → Int32)) (v3 v4 v5 v6 v7 : Int32) : Option (Int32 × (Nat → Nat → Int32)) := if v7 = 0 then (qck (qin v5 9000) (if (S 9 v5.toNatClampNeg) = (3 : Int32) then (f_M_may_145 k_51 qfu S v3 v4 v5 v6 (0 : Int32)) else (qck (qin v6 9000) (if (S 9 v6.toNatClampNeg) = (3 : Int32) then (f_M_may_204 k_51 qfu S v3 v4 v5 v6 (0 : Int32)) else (qck (qin v5 9000) (if (S 9 v5.toNatClampNeg) = (4 : Int32) then (qck (qin v6 9000) (if (S 9 v6.toNatClampNeg) = (4 : Int32) then (qck (qin v5 9000) (qck (qin v3 3000) (qck (qin v6 9000) (qck (qin v3 3000) (k_51 (qwr (qwr S 29 v3.toNatClampNeg (S 11 v5.toNatClampNeg)) 30 v3.toNatClampNeg ((qwr S 29 v3.toNatClampNeg (S 11 v5.toNatClampNeg)) 11 v6.toNatClampNeg)) (v3 + (1 : Int32)) (v4 + (1 : Int32))))))) else (f_M_may_303 k_51 S v3 v4 v5 v6))) else (f_M_may_303 k_51 S v3 v4 v5 v6))))))) else (k_51 S v3 (v4 + (1 : Int32)))
def f_M_may_102 (k_51 : (Nat → Nat → Int32) → Int32 → Int32 → Option (Int32 × (Nat → Nat → Int32))) (S : (Nat → Nat → Int32)) (v3 v4 v5 v6 s1 : Int32) : Option (Int32 × (Nat → Nat → Int32)) := if s1 = 0 then (if v5 = (1 : Int32) then (some ((0 : Int32), S)) else (if v6 = (1 : Int32) then (some ((0 : Int32), S)) else (f_M_may_123 k_51 S v3 v4 v5 v6 s1))) else (f_M_may_123 k_51 S v3 v4 v5 v6 s1)
def f_M_may_97 (k_51 : (Nat → Nat → Int32) → Int32 → Int32 → Option (Int32 × (Nat → Nat → Int32))) (S : (Nat → Nat → Int32)) (v3 v4 v5 v6 : Int32) : Option (Int32 × (Nat → Nat → Int32)) := f_M_may_102 k_51 S v3 v4 v5 v6 (1 : Int32)
def fb_M_may_51 (k_51 : (Nat → Nat → Int32) → Int32 → Int32 → Option (Int32 × (Nat → Nat → Int32))) (S : (Nat → Nat → Int32)) (v3 v4 : Int32) : Option (Int32 × (Nat → Nat → Int32)) := if v3 ≤ v4 then (some ((1 : Int32), S)) else (qck (qin v4 3000) (qck (qin v4 3000) ((f_M_isA S (S 29 v4.toNatClampNeg) (S 30 v4.toNatClampNeg)).bind (fun q4 => if (qB q4.1) = 0 then ((f_M_isA q4.2 (S 30 v4.toNatClampNeg) (S 29 v4.toNatClampNeg)).bind (fun q7 => if (qB q7.1) = 0 then (f_M_may_102 k_51 q7.2 v3 v4 (S 29 v4.toNatClampNeg) (S 30 v4.toNatClampNeg) (0 : Int32)) else (f_M_may_97 k_51 q7.2 v3 v4 (S 29 v4.toNatClampNeg) (S 30 v4.toNatClampNeg)))) else (f_M_may_97 k_51 q4.2 v3 v4 (S 29 v4.toNatClampNeg) (S 30 v4.toNatClampNeg))))))
def f_M_may_51 : Nat → (Nat → Nat → Int32) → Int32 → Int32 → Option (Int32 × (Nat → Nat → Int32))
  | 0 => fun _ _ _ => none
  | n + 1 => fun S v3 v4 => fb_M_may_51 (f_M_may_51 n) S v3 v4
def f_M_may (S : (Nat → Nat → Int32)) (a1 a2 : Int32) : Option (Int32 × (Nat → Nat → Int32)) := (f_M_isAsked S a1).bind (fun q1 => if (qB q1) = 0 then (some ((-2 : Int32), S)) else ((f_M_isAsked S a2).bind (fun q4 => if (qB q4) = 0 then (some ((-2 : Int32), S)) else (if a2 = (2 : Int32) then (some ((-2 : Int32), S)) else ((f_M_part S).bind (fun q8 => (f_M_fresh q8).bind (fun q10 => qck (qin (0 : Int32) 3000) (qck (qin (0 : Int32) 3000) (f_M_may_51  qfu (qwr (qwr q10 29 (0 : Int32).toNatClampNeg a1) 30 (0 : Int32).toNatClampNeg a2) (1 : Int32) (0 : Int32))))))))))
set_option maxRecDepth 100000 in
set_option maxHeartbeats 4000000 in
theorem t_M_may_303 {p : Program} {l : Launch} {e : Env} {R : Room} {s : State} {m : MethodId} {args : Array Value} {below : List Frame} {meth : Method} {c : Code} {Q : State → Prop} {D : va_G} {ad : Nat → Nat} {cI cZ : ClassId} {A : Nat → Prop} (F : CallFix p m c qb_M_may 9 s args qtb "CaptureSubtypesModel") (hR : 11 ≤ R.frames ∧ 278 ≤ R.locals) (hK : va_K D qcl [(cI, .int), (cZ, .boolean)] s) (hN : qnests mns s) (hA : ∀ q, s.heap.size ≤ q → A q) {res : (Int32 × (Nat → Nat → Int32))} (hQ : ∀ (H : Heap) (locs : List Loc) (pc : Nat) (ls : Array Slot), decode qb_M_may pc = .ok (.ireturn, 1) → mW D ad cI cZ A s.heap res.2 H locs → W p l e R s m args below meth c H locs 0 0 Q (F0 m pc ls [.int res.1])) {k_51 : (Nat → Nat → Int32) → Int32 → Int32 → Option (Int32 × (Nat → Nat → Int32))} (hk_51 : ∀ (S : Nat → Nat → Int32) (v3 v4 : Int32), k_51 S v3 v4 = some res → ∀ {H : Heap} {locs : List Loc} {ls : Array Slot}, mW D ad cI cZ A s.heap S H locs → lv_has ls 9 [(0, .ref (ad 0)), (3, .int v3), (4, .int v4)] → W p l e R s m args below meth c H locs 0 0 Q (F0 m 51 ls [])) (S : (Nat → Nat → Int32)) (v3 v4 v5 v6 : Int32) (hM : f_M_may_303 k_51 S v3 v4 v5 v6 = some res) {H : Heap} {locs : List Loc} {ls : Array Slot} (w : mW D ad cI cZ A s.heap S H locs) (hl : lv_has ls 9 [(0, .ref (ad 0)), (3, .int v3), (4, .int v4), (5, .int v5), (6, .int v6)]) : W p l e R s m args below meth c H locs 0 0 Q (F0 m 303 ls []) := by
  unfold f_M_may_303 at hM
  refine lv_aload_n F.1 F.2.1 qd_M_may_303 rfl (lv_at hl 0 rfl) ?_
  refine mg_M_sort F hK w qk_664 qd_M_may_304 ?_
  refine lv_iload F.1 F.2.1 qd_M_may_307 (lv_at hl 3 rfl) ?_
  obtain ⟨hi1, hM⟩ := qck_ok hM
  refine ml_M_sort F hK w hi1 qd_M_may_309 ?_
  refine lv_iconst (v := 4) F.1 F.2.1 qd_M_may_310 (by decide) ?_
  refine lv_icmp_eq (tgt := 325) F.1 F.2.1 qd_M_may_311 (by decide) (fun hc2 => ?_) (fun hc2 => ?_)
  · rw [if_pos hc2] at hM
    refine lv_iconst (v := 0) F.1 F.2.1 qd_M_may_325 (by decide) ?_
    cases hM
    exact hQ _ _ _ _ qd_M_may_326 w
  · rw [if_neg hc2] at hM
    refine lv_aload_n F.1 F.2.1 qd_M_may_314 rfl (lv_at hl 0 rfl) ?_
    refine mg_M_sort F hK w qk_664 qd_M_may_315 ?_
    refine lv_iload F.1 F.2.1 qd_M_may_318 (lv_at hl 4 rfl) ?_
    obtain ⟨hi3, hM⟩ := qck_ok hM
    refine ml_M_sort F hK w hi3 qd_M_may_320 ?_
    refine lv_iconst (v := 4) F.1 F.2.1 qd_M_may_321 (by decide) ?_
    refine lv_icmp_ne (tgt := 327) F.1 F.2.1 qd_M_may_322 (by decide) (fun hc4 => ?_) (fun hc4 => ?_)
    · rw [if_neg hc4] at hM
      refine lv_aload_n F.1 F.2.1 qd_M_may_327 rfl (lv_at hl 0 rfl) ?_
      refine lv_iload F.1 F.2.1 qd_M_may_328 (lv_at hl 3 rfl) ?_
      refine lv_iload F.1 F.2.1 qd_M_may_330 (lv_at hl 4 rfl) ?_
      obtain ⟨q5, hq6, hM⟩ := qbd hM
      refine m_calli F hK hN hA w (c_M_mayClasses l D ad cI cZ hq6) qk_948 qk_950 qs_M_mayClasses qk_8 qk_951 qv_M_mayClasses rfl rfl ⟨Nat.le_trans (by decide) hR.1, Nat.le_trans (by decide) hR.2⟩ (ci := 6) rfl (j := 0) rfl hl.1 rfl (Nat.le_of_ble_eq_true rfl) qd_M_may_332 (fun H locs w => ?_)
      refine lv_if_ne (tgt := 340) F.1 F.2.1 qd_M_may_335 (by decide) (fun hc7 => ?_) (fun hc7 => ?_)
      · rw [if_neg hc7] at hM
        refine lv_iinc (v := (v4 + (1 : Int32))) (lv' := [(4, .int (v4 + (1 : Int32))), (0, .ref (ad 0)), (3, .int v3), (5, .int v5), (6, .int v6)]) F.1 F.2.1 qd_M_may_340 hl (k := 2) rfl rfl (by decide) rfl (fun ls hl => ?_)
        refine lv_goto (tgt := 51) F.1 F.2.1 qd_M_may_343 (by decide) ?_
        exact hk_51 _ _ _ hM w (lv_sub hl [1, 2, 0] rfl)
      · rw [if_pos hc7] at hM
        refine lv_iconst (v := 0) F.1 F.2.1 qd_M_may_338 (by decide) ?_
        cases hM
        exact hQ _ _ _ _ qd_M_may_339 w
    · rw [if_pos hc4] at hM
      refine lv_iconst (v := 0) F.1 F.2.1 qd_M_may_325 (by decide) ?_
      cases hM
      exact hQ _ _ _ _ qd_M_may_326 w
set_option maxRecDepth 100000 in
set_option maxHeartbeats 4000000 in
theorem tb_M_may_204 {p : Program} {l : Launch} {e : Env} {R : Room} {s : State} {m : MethodId} {args : Array Value} {below : List Frame} {meth : Method} {c : Code} {Q : State → Prop} {D : va_G} {ad : Nat → Nat} {cI cZ : ClassId} {A : Nat → Prop} (F : CallFix p m c qb_M_may 9 s args qtb "CaptureSubtypesModel") (hR : 11 ≤ R.frames ∧ 278 ≤ R.locals) (hK : va_K D qcl [(cI, .int), (cZ, .boolean)] s) (hN : qnests mns s) (hA : ∀ q, s.heap.size ≤ q → A q) {res : (Int32 × (Nat → Nat → Int32))} (hQ : ∀ (H : Heap) (locs : List Loc) (pc : Nat) (ls : Array Slot), decode qb_M_may pc = .ok (.ireturn, 1) → mW D ad cI cZ A s.heap res.2 H locs → W p l e R s m args below meth c H locs 0 0 Q (F0 m pc ls [.int res.1])) {k_51 : (Nat → Nat → Int32) → Int32 → Int32 → Option (Int32 × (Nat → Nat → Int32))} (hk_51 : ∀ (S : Nat → Nat → Int32) (v3 v4 : Int32), k_51 S v3 v4 = some res → ∀ {H : Heap} {locs : List Loc} {ls : Array Slot}, mW D ad cI cZ A s.heap S H locs → lv_has ls 9 [(0, .ref (ad 0)), (3, .int v3), (4, .int v4)] → W p l e R s m args below meth c H locs 0 0 Q (F0 m 51 ls [])) {k_204 : (Nat → Nat → Int32) → Int32 → Int32 → Int32 → Int32 → Int32 → Option (Int32 × (Nat → Nat → Int32))} (hk_204 : ∀ (S : Nat → Nat → Int32) (v3 v4 v5 v6 v8 : Int32), k_204 S v3 v4 v5 v6 v8 = some res → ∀ {H : Heap} {locs : List Loc} {ls : Array Slot}, mW D ad cI cZ A s.heap S H locs → lv_has ls 9 [(0, .ref (ad 0)), (3, .int v3), (4, .int v4), (5, .int v5), (6, .int v6), (8, .int v8)] → W p l e R s m args below meth c H locs 0 0 Q (F0 m 204 ls [])) (S : (Nat → Nat → Int32)) (v3 v4 v5 v6 v8 : Int32) (hM : fb_M_may_204 k_51 k_204 S v3 v4 v5 v6 v8 = some res) {H : Heap} {locs : List Loc} {ls : Array Slot} (w : mW D ad cI cZ A s.heap S H locs) (hl : lv_has ls 9 [(0, .ref (ad 0)), (3, .int v3), (4, .int v4), (5, .int v5), (6, .int v6), (8, .int v8)]) : W p l e R s m args below meth c H locs 0 0 Q (F0 m 204 ls []) := by
  unfold fb_M_may_204 at hM
  refine lv_iload F.1 F.2.1 qd_M_may_204 (lv_at hl 5 rfl) ?_
  refine lv_aload_n F.1 F.2.1 qd_M_may_206 rfl (lv_at hl 0 rfl) ?_
  refine lv_iload F.1 F.2.1 qd_M_may_207 (lv_at hl 4 rfl) ?_
  obtain ⟨q1, hq2, hM⟩ := qbd hM
  refine m_calli F hK hN hA w (c_M_boundCount l D ad cI cZ hq2) qk_880 qk_882 qs_M_boundCount qk_8 qk_883 qv_M_boundCount rfl rfl ⟨Nat.le_trans (by decide) hR.1, Nat.le_trans (by decide) hR.2⟩ (ci := 6) rfl (j := 0) rfl hl.1 rfl (Nat.le_of_ble_eq_true rfl) qd_M_may_209 (fun H locs w => ?_)
  refine lv_icmp_ge (tgt := 246) F.1 F.2.1 qd_M_may_212 (by decide) (fun hc3 => ?_) (fun hc3 => ?_)
  · rw [if_pos hc3] at hM
    refine lv_goto (tgt := 340) F.1 F.2.1 qd_M_may_246 (by decide) ?_
    refine lv_iinc (v := (v4 + (1 : Int32))) (lv' := [(4, .int (v4 + (1 : Int32))), (0, .ref (ad 0)), (3, .int v3), (5, .int v5), (6, .int v6), (8, .int v8)]) F.1 F.2.1 qd_M_may_340 hl (k := 2) rfl rfl (by decide) rfl (fun ls hl => ?_)
    refine lv_goto (tgt := 51) F.1 F.2.1 qd_M_may_343 (by decide) ?_
    exact hk_51 _ _ _ hM w (lv_sub hl [1, 2, 0] rfl)
  · rw [if_neg hc3] at hM
    refine lv_aload_n F.1 F.2.1 qd_M_may_215 rfl (lv_at hl 0 rfl) ?_
    refine mg_M_pileS F hK w qk_684 qd_M_may_216 ?_
    refine lv_iload_n F.1 F.2.1 qd_M_may_219 rfl (lv_at hl 1 rfl) ?_
    refine lv_iload F.1 F.2.1 qd_M_may_220 (lv_at hl 3 rfl) ?_
    obtain ⟨hi4, hM⟩ := qck_ok hM
    refine ms_M_pileS F hK w hi4 qd_M_may_222 (fun H locs w => ?_)
    refine lv_aload_n F.1 F.2.1 qd_M_may_223 rfl (lv_at hl 0 rfl) ?_
    refine mg_M_pileT F hK w qk_685 qd_M_may_224 ?_
    refine lv_iload_n F.1 F.2.1 qd_M_may_227 rfl (lv_at hl 1 rfl) ?_
    refine lv_aload_n F.1 F.2.1 qd_M_may_228 rfl (lv_at hl 0 rfl) ?_
    refine lv_iload F.1 F.2.1 qd_M_may_229 (lv_at hl 4 rfl) ?_
    refine lv_iload F.1 F.2.1 qd_M_may_231 (lv_at hl 5 rfl) ?_
    obtain ⟨q5, hq6, hM⟩ := qbd hM
    refine m_calli F hK hN hA w (c_M_boundOf l D ad cI cZ hq6) qk_884 qk_886 qs_M_boundOf qk_8 qk_887 qv_M_boundOf rfl rfl ⟨Nat.le_trans (by decide) hR.1, Nat.le_trans (by decide) hR.2⟩ (ci := 6) rfl (j := 0) rfl hl.1 rfl (Nat.le_of_ble_eq_true rfl) qd_M_may_233 (fun H locs w => ?_)
    obtain ⟨hi7, hM⟩ := qck_ok hM
    refine ms_M_pileT F hK w hi7 qd_M_may_236 (fun H locs w => ?_)
    refine lv_iinc (v := (v3 + (1 : Int32))) (lv' := [(3, .int (v3 + (1 : Int32))), (0, .ref (ad 0)), (4, .int v4), (5, .int v5), (6, .int v6), (8, .int v8)]) F.1 F.2.1 qd_M_may_237 hl (k := 1) rfl rfl (by decide) rfl (fun ls hl => ?_)
    refine lv_iinc (v := (v8 + (1 : Int32))) (lv' := [(8, .int (v8 + (1 : Int32))), (3, .int (v3 + (1 : Int32))), (0, .ref (ad 0)), (4, .int v4), (5, .int v5), (6, .int v6)]) F.1 F.2.1 qd_M_may_240 hl (k := 5) rfl rfl (by decide) rfl (fun ls hl => ?_)
    refine lv_goto (tgt := 204) F.1 F.2.1 qd_M_may_243 (by decide) ?_
    exact hk_204 _ _ _ _ _ _ hM w (lv_sub hl [2, 1, 3, 4, 5, 0] rfl)
set_option maxRecDepth 100000 in
set_option maxHeartbeats 4000000 in
theorem t_M_may_204 {p : Program} {l : Launch} {e : Env} {R : Room} {s : State} {m : MethodId} {args : Array Value} {below : List Frame} {meth : Method} {c : Code} {Q : State → Prop} {D : va_G} {ad : Nat → Nat} {cI cZ : ClassId} {A : Nat → Prop} (F : CallFix p m c qb_M_may 9 s args qtb "CaptureSubtypesModel") (hR : 11 ≤ R.frames ∧ 278 ≤ R.locals) (hK : va_K D qcl [(cI, .int), (cZ, .boolean)] s) (hN : qnests mns s) (hA : ∀ q, s.heap.size ≤ q → A q) {res : (Int32 × (Nat → Nat → Int32))} (hQ : ∀ (H : Heap) (locs : List Loc) (pc : Nat) (ls : Array Slot), decode qb_M_may pc = .ok (.ireturn, 1) → mW D ad cI cZ A s.heap res.2 H locs → W p l e R s m args below meth c H locs 0 0 Q (F0 m pc ls [.int res.1])) {k_51 : (Nat → Nat → Int32) → Int32 → Int32 → Option (Int32 × (Nat → Nat → Int32))} (hk_51 : ∀ (S : Nat → Nat → Int32) (v3 v4 : Int32), k_51 S v3 v4 = some res → ∀ {H : Heap} {locs : List Loc} {ls : Array Slot}, mW D ad cI cZ A s.heap S H locs → lv_has ls 9 [(0, .ref (ad 0)), (3, .int v3), (4, .int v4)] → W p l e R s m args below meth c H locs 0 0 Q (F0 m 51 ls [])) : ∀ (n : Nat) (S : (Nat → Nat → Int32)) (v3 v4 v5 v6 v8 : Int32) (hM : f_M_may_204 k_51 n S v3 v4 v5 v6 v8 = some res) {H : Heap} {locs : List Loc} {ls : Array Slot} (w : mW D ad cI cZ A s.heap S H locs) (hl : lv_has ls 9 [(0, .ref (ad 0)), (3, .int v3), (4, .int v4), (5, .int v5), (6, .int v6), (8, .int v8)]), W p l e R s m args below meth c H locs 0 0 Q (F0 m 204 ls []) := by
  intro n
  induction n with
  | zero => intro S v3 v4 v5 v6 v8 hM; exact absurd hM (by simp [f_M_may_204])
  | succ n ih => intro S v3 v4 v5 v6 v8 hM H locs ls w hl; exact tb_M_may_204 F hR hK hN hA hQ hk_51 (k_204 := f_M_may_204 k_51 n) (fun S v3 v4 v5 v6 v8 hM H locs ls w hl => ih S v3 v4 v5 v6 v8 hM w hl) S v3 v4 v5 v6 v8 hM w hl
set_option maxRecDepth 100000 in
set_option maxHeartbeats 4000000 in
theorem tb_M_may_145 {p : Program} {l : Launch} {e : Env} {R : Room} {s : State} {m : MethodId} {args : Array Value} {below : List Frame} {meth : Method} {c : Code} {Q : State → Prop} {D : va_G} {ad : Nat → Nat} {cI cZ : ClassId} {A : Nat → Prop} (F : CallFix p m c qb_M_may 9 s args qtb "CaptureSubtypesModel") (hR : 11 ≤ R.frames ∧ 278 ≤ R.locals) (hK : va_K D qcl [(cI, .int), (cZ, .boolean)] s) (hN : qnests mns s) (hA : ∀ q, s.heap.size ≤ q → A q) {res : (Int32 × (Nat → Nat → Int32))} (hQ : ∀ (H : Heap) (locs : List Loc) (pc : Nat) (ls : Array Slot), decode qb_M_may pc = .ok (.ireturn, 1) → mW D ad cI cZ A s.heap res.2 H locs → W p l e R s m args below meth c H locs 0 0 Q (F0 m pc ls [.int res.1])) {k_51 : (Nat → Nat → Int32) → Int32 → Int32 → Option (Int32 × (Nat → Nat → Int32))} (hk_51 : ∀ (S : Nat → Nat → Int32) (v3 v4 : Int32), k_51 S v3 v4 = some res → ∀ {H : Heap} {locs : List Loc} {ls : Array Slot}, mW D ad cI cZ A s.heap S H locs → lv_has ls 9 [(0, .ref (ad 0)), (3, .int v3), (4, .int v4)] → W p l e R s m args below meth c H locs 0 0 Q (F0 m 51 ls [])) {k_145 : (Nat → Nat → Int32) → Int32 → Int32 → Int32 → Int32 → Int32 → Option (Int32 × (Nat → Nat → Int32))} (hk_145 : ∀ (S : Nat → Nat → Int32) (v3 v4 v5 v6 v8 : Int32), k_145 S v3 v4 v5 v6 v8 = some res → ∀ {H : Heap} {locs : List Loc} {ls : Array Slot}, mW D ad cI cZ A s.heap S H locs → lv_has ls 9 [(0, .ref (ad 0)), (3, .int v3), (4, .int v4), (5, .int v5), (6, .int v6), (8, .int v8)] → W p l e R s m args below meth c H locs 0 0 Q (F0 m 145 ls [])) (S : (Nat → Nat → Int32)) (v3 v4 v5 v6 v8 : Int32) (hM : fb_M_may_145 k_51 k_145 S v3 v4 v5 v6 v8 = some res) {H : Heap} {locs : List Loc} {ls : Array Slot} (w : mW D ad cI cZ A s.heap S H locs) (hl : lv_has ls 9 [(0, .ref (ad 0)), (3, .int v3), (4, .int v4), (5, .int v5), (6, .int v6), (8, .int v8)]) : W p l e R s m args below meth c H locs 0 0 Q (F0 m 145 ls []) := by
  unfold fb_M_may_145 at hM
  refine lv_iload F.1 F.2.1 qd_M_may_145 (lv_at hl 5 rfl) ?_
  refine lv_aload_n F.1 F.2.1 qd_M_may_147 rfl (lv_at hl 0 rfl) ?_
  refine lv_iload F.1 F.2.1 qd_M_may_148 (lv_at hl 3 rfl) ?_
  obtain ⟨q1, hq2, hM⟩ := qbd hM
  refine m_calli F hK hN hA w (c_M_boundCount l D ad cI cZ hq2) qk_880 qk_882 qs_M_boundCount qk_8 qk_883 qv_M_boundCount rfl rfl ⟨Nat.le_trans (by decide) hR.1, Nat.le_trans (by decide) hR.2⟩ (ci := 6) rfl (j := 0) rfl hl.1 rfl (Nat.le_of_ble_eq_true rfl) qd_M_may_150 (fun H locs w => ?_)
  refine lv_icmp_ge (tgt := 187) F.1 F.2.1 qd_M_may_153 (by decide) (fun hc3 => ?_) (fun hc3 => ?_)
  · rw [if_pos hc3] at hM
    refine lv_goto (tgt := 340) F.1 F.2.1 qd_M_may_187 (by decide) ?_
    refine lv_iinc (v := (v4 + (1 : Int32))) (lv' := [(4, .int (v4 + (1 : Int32))), (0, .ref (ad 0)), (3, .int v3), (5, .int v5), (6, .int v6), (8, .int v8)]) F.1 F.2.1 qd_M_may_340 hl (k := 2) rfl rfl (by decide) rfl (fun ls hl => ?_)
    refine lv_goto (tgt := 51) F.1 F.2.1 qd_M_may_343 (by decide) ?_
    exact hk_51 _ _ _ hM w (lv_sub hl [1, 2, 0] rfl)
  · rw [if_neg hc3] at hM
    refine lv_aload_n F.1 F.2.1 qd_M_may_156 rfl (lv_at hl 0 rfl) ?_
    refine mg_M_pileS F hK w qk_684 qd_M_may_157 ?_
    refine lv_iload_n F.1 F.2.1 qd_M_may_160 rfl (lv_at hl 1 rfl) ?_
    refine lv_aload_n F.1 F.2.1 qd_M_may_161 rfl (lv_at hl 0 rfl) ?_
    refine lv_iload F.1 F.2.1 qd_M_may_162 (lv_at hl 3 rfl) ?_
    refine lv_iload F.1 F.2.1 qd_M_may_164 (lv_at hl 5 rfl) ?_
    obtain ⟨q4, hq5, hM⟩ := qbd hM
    refine m_calli F hK hN hA w (c_M_boundOf l D ad cI cZ hq5) qk_884 qk_886 qs_M_boundOf qk_8 qk_887 qv_M_boundOf rfl rfl ⟨Nat.le_trans (by decide) hR.1, Nat.le_trans (by decide) hR.2⟩ (ci := 6) rfl (j := 0) rfl hl.1 rfl (Nat.le_of_ble_eq_true rfl) qd_M_may_166 (fun H locs w => ?_)
    obtain ⟨hi6, hM⟩ := qck_ok hM
    refine ms_M_pileS F hK w hi6 qd_M_may_169 (fun H locs w => ?_)
    refine lv_aload_n F.1 F.2.1 qd_M_may_170 rfl (lv_at hl 0 rfl) ?_
    refine mg_M_pileT F hK w qk_685 qd_M_may_171 ?_
    refine lv_iload_n F.1 F.2.1 qd_M_may_174 rfl (lv_at hl 1 rfl) ?_
    refine lv_iload F.1 F.2.1 qd_M_may_175 (lv_at hl 4 rfl) ?_
    obtain ⟨hi7, hM⟩ := qck_ok hM
    refine ms_M_pileT F hK w hi7 qd_M_may_177 (fun H locs w => ?_)
    refine lv_iinc (v := (v3 + (1 : Int32))) (lv' := [(3, .int (v3 + (1 : Int32))), (0, .ref (ad 0)), (4, .int v4), (5, .int v5), (6, .int v6), (8, .int v8)]) F.1 F.2.1 qd_M_may_178 hl (k := 1) rfl rfl (by decide) rfl (fun ls hl => ?_)
    refine lv_iinc (v := (v8 + (1 : Int32))) (lv' := [(8, .int (v8 + (1 : Int32))), (3, .int (v3 + (1 : Int32))), (0, .ref (ad 0)), (4, .int v4), (5, .int v5), (6, .int v6)]) F.1 F.2.1 qd_M_may_181 hl (k := 5) rfl rfl (by decide) rfl (fun ls hl => ?_)
    refine lv_goto (tgt := 145) F.1 F.2.1 qd_M_may_184 (by decide) ?_
    exact hk_145 _ _ _ _ _ _ hM w (lv_sub hl [2, 1, 3, 4, 5, 0] rfl)
set_option maxRecDepth 100000 in
set_option maxHeartbeats 4000000 in
theorem t_M_may_145 {p : Program} {l : Launch} {e : Env} {R : Room} {s : State} {m : MethodId} {args : Array Value} {below : List Frame} {meth : Method} {c : Code} {Q : State → Prop} {D : va_G} {ad : Nat → Nat} {cI cZ : ClassId} {A : Nat → Prop} (F : CallFix p m c qb_M_may 9 s args qtb "CaptureSubtypesModel") (hR : 11 ≤ R.frames ∧ 278 ≤ R.locals) (hK : va_K D qcl [(cI, .int), (cZ, .boolean)] s) (hN : qnests mns s) (hA : ∀ q, s.heap.size ≤ q → A q) {res : (Int32 × (Nat → Nat → Int32))} (hQ : ∀ (H : Heap) (locs : List Loc) (pc : Nat) (ls : Array Slot), decode qb_M_may pc = .ok (.ireturn, 1) → mW D ad cI cZ A s.heap res.2 H locs → W p l e R s m args below meth c H locs 0 0 Q (F0 m pc ls [.int res.1])) {k_51 : (Nat → Nat → Int32) → Int32 → Int32 → Option (Int32 × (Nat → Nat → Int32))} (hk_51 : ∀ (S : Nat → Nat → Int32) (v3 v4 : Int32), k_51 S v3 v4 = some res → ∀ {H : Heap} {locs : List Loc} {ls : Array Slot}, mW D ad cI cZ A s.heap S H locs → lv_has ls 9 [(0, .ref (ad 0)), (3, .int v3), (4, .int v4)] → W p l e R s m args below meth c H locs 0 0 Q (F0 m 51 ls [])) : ∀ (n : Nat) (S : (Nat → Nat → Int32)) (v3 v4 v5 v6 v8 : Int32) (hM : f_M_may_145 k_51 n S v3 v4 v5 v6 v8 = some res) {H : Heap} {locs : List Loc} {ls : Array Slot} (w : mW D ad cI cZ A s.heap S H locs) (hl : lv_has ls 9 [(0, .ref (ad 0)), (3, .int v3), (4, .int v4), (5, .int v5), (6, .int v6), (8, .int v8)]), W p l e R s m args below meth c H locs 0 0 Q (F0 m 145 ls []) := by
  intro n
  induction n with
  | zero => intro S v3 v4 v5 v6 v8 hM; exact absurd hM (by simp [f_M_may_145])
  | succ n ih => intro S v3 v4 v5 v6 v8 hM H locs ls w hl; exact tb_M_may_145 F hR hK hN hA hQ hk_51 (k_145 := f_M_may_145 k_51 n) (fun S v3 v4 v5 v6 v8 hM H locs ls w hl => ih S v3 v4 v5 v6 v8 hM w hl) S v3 v4 v5 v6 v8 hM w hl
set_option maxRecDepth 100000 in
set_option maxHeartbeats 4000000 in
theorem t_M_may_123 {p : Program} {l : Launch} {e : Env} {R : Room} {s : State} {m : MethodId} {args : Array Value} {below : List Frame} {meth : Method} {c : Code} {Q : State → Prop} {D : va_G} {ad : Nat → Nat} {cI cZ : ClassId} {A : Nat → Prop} (F : CallFix p m c qb_M_may 9 s args qtb "CaptureSubtypesModel") (hR : 11 ≤ R.frames ∧ 278 ≤ R.locals) (hK : va_K D qcl [(cI, .int), (cZ, .boolean)] s) (hN : qnests mns s) (hA : ∀ q, s.heap.size ≤ q → A q) {res : (Int32 × (Nat → Nat → Int32))} (hQ : ∀ (H : Heap) (locs : List Loc) (pc : Nat) (ls : Array Slot), decode qb_M_may pc = .ok (.ireturn, 1) → mW D ad cI cZ A s.heap res.2 H locs → W p l e R s m args below meth c H locs 0 0 Q (F0 m pc ls [.int res.1])) {k_51 : (Nat → Nat → Int32) → Int32 → Int32 → Option (Int32 × (Nat → Nat → Int32))} (hk_51 : ∀ (S : Nat → Nat → Int32) (v3 v4 : Int32), k_51 S v3 v4 = some res → ∀ {H : Heap} {locs : List Loc} {ls : Array Slot}, mW D ad cI cZ A s.heap S H locs → lv_has ls 9 [(0, .ref (ad 0)), (3, .int v3), (4, .int v4)] → W p l e R s m args below meth c H locs 0 0 Q (F0 m 51 ls [])) (S : (Nat → Nat → Int32)) (v3 v4 v5 v6 v7 : Int32) (hM : f_M_may_123 k_51 S v3 v4 v5 v6 v7 = some res) {H : Heap} {locs : List Loc} {ls : Array Slot} (w : mW D ad cI cZ A s.heap S H locs) (hl : lv_has ls 9 [(0, .ref (ad 0)), (3, .int v3), (4, .int v4), (5, .int v5), (6, .int v6), (7, .int v7)]) : W p l e R s m args below meth c H locs 0 0 Q (F0 m 123 ls []) := by
  unfold f_M_may_123 at hM
  refine lv_iload F.1 F.2.1 qd_M_may_123 (lv_at hl 5 rfl) ?_
  refine lv_if_eq (tgt := 131) F.1 F.2.1 qd_M_may_125 (by decide) (fun hc1 => ?_) (fun hc1 => ?_)
  · rw [if_pos hc1] at hM
    refine lv_aload_n F.1 F.2.1 qd_M_may_131 rfl (lv_at hl 0 rfl) ?_
    refine mg_M_sort F hK w qk_664 qd_M_may_132 ?_
    refine lv_iload F.1 F.2.1 qd_M_may_135 (lv_at hl 3 rfl) ?_
    obtain ⟨hi2, hM⟩ := qck_ok hM
    refine ml_M_sort F hK w hi2 qd_M_may_137 ?_
    refine lv_iconst (v := 3) F.1 F.2.1 qd_M_may_138 (by decide) ?_
    refine lv_icmp_ne (tgt := 190) F.1 F.2.1 qd_M_may_139 (by decide) (fun hc3 => ?_) (fun hc3 => ?_)
    · rw [if_neg hc3] at hM
      refine lv_aload_n F.1 F.2.1 qd_M_may_190 rfl (lv_at hl 0 rfl) ?_
      refine mg_M_sort F hK w qk_664 qd_M_may_191 ?_
      refine lv_iload F.1 F.2.1 qd_M_may_194 (lv_at hl 4 rfl) ?_
      obtain ⟨hi4, hM⟩ := qck_ok hM
      refine ml_M_sort F hK w hi4 qd_M_may_196 ?_
      refine lv_iconst (v := 3) F.1 F.2.1 qd_M_may_197 (by decide) ?_
      refine lv_icmp_ne (tgt := 249) F.1 F.2.1 qd_M_may_198 (by decide) (fun hc5 => ?_) (fun hc5 => ?_)
      · rw [if_neg hc5] at hM
        refine lv_aload_n F.1 F.2.1 qd_M_may_249 rfl (lv_at hl 0 rfl) ?_
        refine mg_M_sort F hK w qk_664 qd_M_may_250 ?_
        refine lv_iload F.1 F.2.1 qd_M_may_253 (lv_at hl 3 rfl) ?_
        obtain ⟨hi6, hM⟩ := qck_ok hM
        refine ml_M_sort F hK w hi6 qd_M_may_255 ?_
        refine lv_iconst (v := 4) F.1 F.2.1 qd_M_may_256 (by decide) ?_
        refine lv_icmp_ne (tgt := 303) F.1 F.2.1 qd_M_may_257 (by decide) (fun hc7 => ?_) (fun hc7 => ?_)
        · rw [if_neg hc7] at hM
          exact t_M_may_303 F hR hK hN hA hQ hk_51 _ _ _ _ _ hM w (lv_sub hl [0, 1, 2, 3, 4] rfl)
        · rw [if_pos hc7] at hM
          refine lv_aload_n F.1 F.2.1 qd_M_may_260 rfl (lv_at hl 0 rfl) ?_
          refine mg_M_sort F hK w qk_664 qd_M_may_261 ?_
          refine lv_iload F.1 F.2.1 qd_M_may_264 (lv_at hl 4 rfl) ?_
          obtain ⟨hi8, hM⟩ := qck_ok hM
          refine ml_M_sort F hK w hi8 qd_M_may_266 ?_
          refine lv_iconst (v := 4) F.1 F.2.1 qd_M_may_267 (by decide) ?_
          refine lv_icmp_ne (tgt := 303) F.1 F.2.1 qd_M_may_268 (by decide) (fun hc9 => ?_) (fun hc9 => ?_)
          · rw [if_neg hc9] at hM
            exact t_M_may_303 F hR hK hN hA hQ hk_51 _ _ _ _ _ hM w (lv_sub hl [0, 1, 2, 3, 4] rfl)
          · rw [if_pos hc9] at hM
            refine lv_aload_n F.1 F.2.1 qd_M_may_271 rfl (lv_at hl 0 rfl) ?_
            refine mg_M_pileS F hK w qk_684 qd_M_may_272 ?_
            refine lv_iload_n F.1 F.2.1 qd_M_may_275 rfl (lv_at hl 1 rfl) ?_
            refine lv_aload_n F.1 F.2.1 qd_M_may_276 rfl (lv_at hl 0 rfl) ?_
            refine mg_M_second F hK w qk_666 qd_M_may_277 ?_
            refine lv_iload F.1 F.2.1 qd_M_may_280 (lv_at hl 3 rfl) ?_
            obtain ⟨hi10, hM⟩ := qck_ok hM
            refine ml_M_second F hK w hi10 qd_M_may_282 ?_
            obtain ⟨hi11, hM⟩ := qck_ok hM
            refine ms_M_pileS F hK w hi11 qd_M_may_283 (fun H locs w => ?_)
            refine lv_aload_n F.1 F.2.1 qd_M_may_284 rfl (lv_at hl 0 rfl) ?_
            refine mg_M_pileT F hK w qk_685 qd_M_may_285 ?_
            refine lv_iload_n F.1 F.2.1 qd_M_may_288 rfl (lv_at hl 1 rfl) ?_
            refine lv_aload_n F.1 F.2.1 qd_M_may_289 rfl (lv_at hl 0 rfl) ?_
            refine mg_M_second F hK w qk_666 qd_M_may_290 ?_
            refine lv_iload F.1 F.2.1 qd_M_may_293 (lv_at hl 4 rfl) ?_
            obtain ⟨hi12, hM⟩ := qck_ok hM
            refine ml_M_second F hK w hi12 qd_M_may_295 ?_
            obtain ⟨hi13, hM⟩ := qck_ok hM
            refine ms_M_pileT F hK w hi13 qd_M_may_296 (fun H locs w => ?_)
            refine lv_iinc (v := (v3 + (1 : Int32))) (lv' := [(3, .int (v3 + (1 : Int32))), (0, .ref (ad 0)), (4, .int v4), (5, .int v5), (6, .int v6), (7, .int v7)]) F.1 F.2.1 qd_M_may_297 hl (k := 1) rfl rfl (by decide) rfl (fun ls hl => ?_)
            refine lv_goto (tgt := 340) F.1 F.2.1 qd_M_may_300 (by decide) ?_
            refine lv_iinc (v := (v4 + (1 : Int32))) (lv' := [(4, .int (v4 + (1 : Int32))), (3, .int (v3 + (1 : Int32))), (0, .ref (ad 0)), (5, .int v5), (6, .int v6), (7, .int v7)]) F.1 F.2.1 qd_M_may_340 hl (k := 2) rfl rfl (by decide) rfl (fun ls hl => ?_)
            refine lv_goto (tgt := 51) F.1 F.2.1 qd_M_may_343 (by decide) ?_
            exact hk_51 _ _ _ hM w (lv_sub hl [2, 1, 0] rfl)
      · rw [if_pos hc5] at hM
        refine lv_iconst (v := 0) F.1 F.2.1 qd_M_may_201 (by decide) ?_
        refine lv_istore (lv' := [(8, .int (0 : Int32)), (0, .ref (ad 0)), (3, .int v3), (4, .int v4), (5, .int v5), (6, .int v6), (7, .int v7)]) F.1 F.2.1 qd_M_may_202 hl (by decide) rfl (fun ls hl => ?_)
        exact t_M_may_204 F hR hK hN hA hQ hk_51 qfu _ _ _ _ _ _ hM w (lv_sub hl [1, 2, 3, 4, 5, 0] rfl)
    · rw [if_pos hc3] at hM
      refine lv_iconst (v := 0) F.1 F.2.1 qd_M_may_142 (by decide) ?_
      refine lv_istore (lv' := [(8, .int (0 : Int32)), (0, .ref (ad 0)), (3, .int v3), (4, .int v4), (5, .int v5), (6, .int v6), (7, .int v7)]) F.1 F.2.1 qd_M_may_143 hl (by decide) rfl (fun ls hl => ?_)
      exact t_M_may_145 F hR hK hN hA hQ hk_51 qfu _ _ _ _ _ _ hM w (lv_sub hl [1, 2, 3, 4, 5, 0] rfl)
  · rw [if_neg hc1] at hM
    refine lv_goto (tgt := 340) F.1 F.2.1 qd_M_may_128 (by decide) ?_
    refine lv_iinc (v := (v4 + (1 : Int32))) (lv' := [(4, .int (v4 + (1 : Int32))), (0, .ref (ad 0)), (3, .int v3), (5, .int v5), (6, .int v6), (7, .int v7)]) F.1 F.2.1 qd_M_may_340 hl (k := 2) rfl rfl (by decide) rfl (fun ls hl => ?_)
    refine lv_goto (tgt := 51) F.1 F.2.1 qd_M_may_343 (by decide) ?_
    exact hk_51 _ _ _ hM w (lv_sub hl [1, 2, 0] rfl)
set_option maxRecDepth 100000 in
set_option maxHeartbeats 4000000 in
theorem t_M_may_102 {p : Program} {l : Launch} {e : Env} {R : Room} {s : State} {m : MethodId} {args : Array Value} {below : List Frame} {meth : Method} {c : Code} {Q : State → Prop} {D : va_G} {ad : Nat → Nat} {cI cZ : ClassId} {A : Nat → Prop} (F : CallFix p m c qb_M_may 9 s args qtb "CaptureSubtypesModel") (hR : 11 ≤ R.frames ∧ 278 ≤ R.locals) (hK : va_K D qcl [(cI, .int), (cZ, .boolean)] s) (hN : qnests mns s) (hA : ∀ q, s.heap.size ≤ q → A q) {res : (Int32 × (Nat → Nat → Int32))} (hQ : ∀ (H : Heap) (locs : List Loc) (pc : Nat) (ls : Array Slot), decode qb_M_may pc = .ok (.ireturn, 1) → mW D ad cI cZ A s.heap res.2 H locs → W p l e R s m args below meth c H locs 0 0 Q (F0 m pc ls [.int res.1])) {k_51 : (Nat → Nat → Int32) → Int32 → Int32 → Option (Int32 × (Nat → Nat → Int32))} (hk_51 : ∀ (S : Nat → Nat → Int32) (v3 v4 : Int32), k_51 S v3 v4 = some res → ∀ {H : Heap} {locs : List Loc} {ls : Array Slot}, mW D ad cI cZ A s.heap S H locs → lv_has ls 9 [(0, .ref (ad 0)), (3, .int v3), (4, .int v4)] → W p l e R s m args below meth c H locs 0 0 Q (F0 m 51 ls [])) (S : (Nat → Nat → Int32)) (v3 v4 v5 v6 s1 : Int32) (hM : f_M_may_102 k_51 S v3 v4 v5 v6 s1 = some res) {H : Heap} {locs : List Loc} {ls : Array Slot} (w : mW D ad cI cZ A s.heap S H locs) (hl : lv_has ls 9 [(0, .ref (ad 0)), (3, .int v3), (4, .int v4), (5, .int v5), (6, .int v6)]) : W p l e R s m args below meth c H locs 0 0 Q (F0 m 102 ls [.int s1]) := by
  unfold f_M_may_102 at hM
  refine lv_istore (lv' := [(7, .int s1), (0, .ref (ad 0)), (3, .int v3), (4, .int v4), (5, .int v5), (6, .int v6)]) F.1 F.2.1 qd_M_may_102 hl (by decide) rfl (fun ls hl => ?_)
  refine lv_iload F.1 F.2.1 qd_M_may_104 (lv_at hl 0 rfl) ?_
  refine lv_if_ne (tgt := 123) F.1 F.2.1 qd_M_may_106 (by decide) (fun hc1 => ?_) (fun hc1 => ?_)
  · rw [if_neg hc1] at hM
    exact t_M_may_123 F hR hK hN hA hQ hk_51 _ _ _ _ _ _ hM w (lv_sub hl [1, 2, 3, 4, 5, 0] rfl)
  · rw [if_pos hc1] at hM
    refine lv_iload F.1 F.2.1 qd_M_may_109 (lv_at hl 4 rfl) ?_
    refine lv_iconst (v := 1) F.1 F.2.1 qd_M_may_111 (by decide) ?_
    refine lv_icmp_eq (tgt := 121) F.1 F.2.1 qd_M_may_112 (by decide) (fun hc2 => ?_) (fun hc2 => ?_)
    · rw [if_pos hc2] at hM
      refine lv_iconst (v := 0) F.1 F.2.1 qd_M_may_121 (by decide) ?_
      cases hM
      exact hQ _ _ _ _ qd_M_may_122 w
    · rw [if_neg hc2] at hM
      refine lv_iload F.1 F.2.1 qd_M_may_115 (lv_at hl 5 rfl) ?_
      refine lv_iconst (v := 1) F.1 F.2.1 qd_M_may_117 (by decide) ?_
      refine lv_icmp_ne (tgt := 123) F.1 F.2.1 qd_M_may_118 (by decide) (fun hc3 => ?_) (fun hc3 => ?_)
      · rw [if_neg hc3] at hM
        exact t_M_may_123 F hR hK hN hA hQ hk_51 _ _ _ _ _ _ hM w (lv_sub hl [1, 2, 3, 4, 5, 0] rfl)
      · rw [if_pos hc3] at hM
        refine lv_iconst (v := 0) F.1 F.2.1 qd_M_may_121 (by decide) ?_
        cases hM
        exact hQ _ _ _ _ qd_M_may_122 w
set_option maxRecDepth 100000 in
set_option maxHeartbeats 4000000 in
theorem t_M_may_97 {p : Program} {l : Launch} {e : Env} {R : Room} {s : State} {m : MethodId} {args : Array Value} {below : List Frame} {meth : Method} {c : Code} {Q : State → Prop} {D : va_G} {ad : Nat → Nat} {cI cZ : ClassId} {A : Nat → Prop} (F : CallFix p m c qb_M_may 9 s args qtb "CaptureSubtypesModel") (hR : 11 ≤ R.frames ∧ 278 ≤ R.locals) (hK : va_K D qcl [(cI, .int), (cZ, .boolean)] s) (hN : qnests mns s) (hA : ∀ q, s.heap.size ≤ q → A q) {res : (Int32 × (Nat → Nat → Int32))} (hQ : ∀ (H : Heap) (locs : List Loc) (pc : Nat) (ls : Array Slot), decode qb_M_may pc = .ok (.ireturn, 1) → mW D ad cI cZ A s.heap res.2 H locs → W p l e R s m args below meth c H locs 0 0 Q (F0 m pc ls [.int res.1])) {k_51 : (Nat → Nat → Int32) → Int32 → Int32 → Option (Int32 × (Nat → Nat → Int32))} (hk_51 : ∀ (S : Nat → Nat → Int32) (v3 v4 : Int32), k_51 S v3 v4 = some res → ∀ {H : Heap} {locs : List Loc} {ls : Array Slot}, mW D ad cI cZ A s.heap S H locs → lv_has ls 9 [(0, .ref (ad 0)), (3, .int v3), (4, .int v4)] → W p l e R s m args below meth c H locs 0 0 Q (F0 m 51 ls [])) (S : (Nat → Nat → Int32)) (v3 v4 v5 v6 : Int32) (hM : f_M_may_97 k_51 S v3 v4 v5 v6 = some res) {H : Heap} {locs : List Loc} {ls : Array Slot} (w : mW D ad cI cZ A s.heap S H locs) (hl : lv_has ls 9 [(0, .ref (ad 0)), (3, .int v3), (4, .int v4), (5, .int v5), (6, .int v6)]) : W p l e R s m args below meth c H locs 0 0 Q (F0 m 97 ls []) := by
  unfold f_M_may_97 at hM
  refine lv_iconst (v := 1) F.1 F.2.1 qd_M_may_97 (by decide) ?_
  refine lv_goto (tgt := 102) F.1 F.2.1 qd_M_may_98 (by decide) ?_
  exact t_M_may_102 F hR hK hN hA hQ hk_51 _ _ _ _ _ _ hM w (lv_sub hl [0, 1, 2, 3, 4] rfl)
set_option maxRecDepth 100000 in
set_option maxHeartbeats 4000000 in
theorem tb_M_may_51 {p : Program} {l : Launch} {e : Env} {R : Room} {s : State} {m : MethodId} {args : Array Value} {below : List Frame} {meth : Method} {c : Code} {Q : State → Prop} {D : va_G} {ad : Nat → Nat} {cI cZ : ClassId} {A : Nat → Prop} (F : CallFix p m c qb_M_may 9 s args qtb "CaptureSubtypesModel") (hR : 11 ≤ R.frames ∧ 278 ≤ R.locals) (hK : va_K D qcl [(cI, .int), (cZ, .boolean)] s) (hN : qnests mns s) (hA : ∀ q, s.heap.size ≤ q → A q) {res : (Int32 × (Nat → Nat → Int32))} (hQ : ∀ (H : Heap) (locs : List Loc) (pc : Nat) (ls : Array Slot), decode qb_M_may pc = .ok (.ireturn, 1) → mW D ad cI cZ A s.heap res.2 H locs → W p l e R s m args below meth c H locs 0 0 Q (F0 m pc ls [.int res.1])) {k_51 : (Nat → Nat → Int32) → Int32 → Int32 → Option (Int32 × (Nat → Nat → Int32))} (hk_51 : ∀ (S : Nat → Nat → Int32) (v3 v4 : Int32), k_51 S v3 v4 = some res → ∀ {H : Heap} {locs : List Loc} {ls : Array Slot}, mW D ad cI cZ A s.heap S H locs → lv_has ls 9 [(0, .ref (ad 0)), (3, .int v3), (4, .int v4)] → W p l e R s m args below meth c H locs 0 0 Q (F0 m 51 ls [])) (S : (Nat → Nat → Int32)) (v3 v4 : Int32) (hM : fb_M_may_51 k_51 S v3 v4 = some res) {H : Heap} {locs : List Loc} {ls : Array Slot} (w : mW D ad cI cZ A s.heap S H locs) (hl : lv_has ls 9 [(0, .ref (ad 0)), (3, .int v3), (4, .int v4)]) : W p l e R s m args below meth c H locs 0 0 Q (F0 m 51 ls []) := by
  unfold fb_M_may_51 at hM
  refine lv_iload F.1 F.2.1 qd_M_may_51 (lv_at hl 2 rfl) ?_
  refine lv_iload_n F.1 F.2.1 qd_M_may_53 rfl (lv_at hl 1 rfl) ?_
  refine lv_icmp_ge (tgt := 346) F.1 F.2.1 qd_M_may_54 (by decide) (fun hc1 => ?_) (fun hc1 => ?_)
  · rw [if_pos hc1] at hM
    refine lv_iconst (v := 1) F.1 F.2.1 qd_M_may_346 (by decide) ?_
    cases hM
    exact hQ _ _ _ _ qd_M_may_347 w
  · rw [if_neg hc1] at hM
    refine lv_aload_n F.1 F.2.1 qd_M_may_57 rfl (lv_at hl 0 rfl) ?_
    refine mg_M_pileS F hK w qk_684 qd_M_may_58 ?_
    refine lv_iload F.1 F.2.1 qd_M_may_61 (lv_at hl 2 rfl) ?_
    obtain ⟨hi2, hM⟩ := qck_ok hM
    refine ml_M_pileS F hK w hi2 qd_M_may_63 ?_
    refine lv_istore (lv' := [(5, .int (S 29 v4.toNatClampNeg)), (0, .ref (ad 0)), (3, .int v3), (4, .int v4)]) F.1 F.2.1 qd_M_may_64 hl (by decide) rfl (fun ls hl => ?_)
    refine lv_aload_n F.1 F.2.1 qd_M_may_66 rfl (lv_at hl 1 rfl) ?_
    refine mg_M_pileT F hK w qk_685 qd_M_may_67 ?_
    refine lv_iload F.1 F.2.1 qd_M_may_70 (lv_at hl 3 rfl) ?_
    obtain ⟨hi3, hM⟩ := qck_ok hM
    refine ml_M_pileT F hK w hi3 qd_M_may_72 ?_
    refine lv_istore (lv' := [(6, .int (S 30 v4.toNatClampNeg)), (5, .int (S 29 v4.toNatClampNeg)), (0, .ref (ad 0)), (3, .int v3), (4, .int v4)]) F.1 F.2.1 qd_M_may_73 hl (by decide) rfl (fun ls hl => ?_)
    refine lv_aload_n F.1 F.2.1 qd_M_may_75 rfl (lv_at hl 2 rfl) ?_
    refine lv_iload F.1 F.2.1 qd_M_may_76 (lv_at hl 1 rfl) ?_
    refine lv_iload F.1 F.2.1 qd_M_may_78 (lv_at hl 0 rfl) ?_
    obtain ⟨q4, hq5, hM⟩ := qbd hM
    refine m_calli F hK hN hA w (c_M_isA l D ad cI cZ hq5) qk_864 qk_866 qs_M_isA qk_8 qk_867 qv_M_isA rfl rfl ⟨Nat.le_trans (by decide) hR.1, Nat.le_trans (by decide) hR.2⟩ (ci := 6) rfl (j := 0) rfl hl.1 rfl (Nat.le_of_ble_eq_true rfl) qd_M_may_80 (fun H locs w => ?_)
    refine lv_if_ne (tgt := 97) F.1 F.2.1 qd_M_may_83 (by decide) (fun hc6 => ?_) (fun hc6 => ?_)
    · rw [if_neg hc6] at hM
      exact t_M_may_97 F hR hK hN hA hQ hk_51 _ _ _ _ _ hM w (lv_sub hl [2, 3, 4, 1, 0] rfl)
    · rw [if_pos hc6] at hM
      refine lv_aload_n F.1 F.2.1 qd_M_may_86 rfl (lv_at hl 2 rfl) ?_
      refine lv_iload F.1 F.2.1 qd_M_may_87 (lv_at hl 0 rfl) ?_
      refine lv_iload F.1 F.2.1 qd_M_may_89 (lv_at hl 1 rfl) ?_
      obtain ⟨q7, hq8, hM⟩ := qbd hM
      refine m_calli F hK hN hA w (c_M_isA l D ad cI cZ hq8) qk_864 qk_866 qs_M_isA qk_8 qk_867 qv_M_isA rfl rfl ⟨Nat.le_trans (by decide) hR.1, Nat.le_trans (by decide) hR.2⟩ (ci := 6) rfl (j := 0) rfl hl.1 rfl (Nat.le_of_ble_eq_true rfl) qd_M_may_91 (fun H locs w => ?_)
      refine lv_if_eq (tgt := 101) F.1 F.2.1 qd_M_may_94 (by decide) (fun hc9 => ?_) (fun hc9 => ?_)
      · rw [if_pos hc9] at hM
        refine lv_iconst (v := 0) F.1 F.2.1 qd_M_may_101 (by decide) ?_
        exact t_M_may_102 F hR hK hN hA hQ hk_51 _ _ _ _ _ _ hM w (lv_sub hl [2, 3, 4, 1, 0] rfl)
      · rw [if_neg hc9] at hM
        exact t_M_may_97 F hR hK hN hA hQ hk_51 _ _ _ _ _ hM w (lv_sub hl [2, 3, 4, 1, 0] rfl)
set_option maxRecDepth 100000 in
set_option maxHeartbeats 4000000 in
theorem t_M_may_51 {p : Program} {l : Launch} {e : Env} {R : Room} {s : State} {m : MethodId} {args : Array Value} {below : List Frame} {meth : Method} {c : Code} {Q : State → Prop} {D : va_G} {ad : Nat → Nat} {cI cZ : ClassId} {A : Nat → Prop} (F : CallFix p m c qb_M_may 9 s args qtb "CaptureSubtypesModel") (hR : 11 ≤ R.frames ∧ 278 ≤ R.locals) (hK : va_K D qcl [(cI, .int), (cZ, .boolean)] s) (hN : qnests mns s) (hA : ∀ q, s.heap.size ≤ q → A q) {res : (Int32 × (Nat → Nat → Int32))} (hQ : ∀ (H : Heap) (locs : List Loc) (pc : Nat) (ls : Array Slot), decode qb_M_may pc = .ok (.ireturn, 1) → mW D ad cI cZ A s.heap res.2 H locs → W p l e R s m args below meth c H locs 0 0 Q (F0 m pc ls [.int res.1])) : ∀ (n : Nat) (S : (Nat → Nat → Int32)) (v3 v4 : Int32) (hM : f_M_may_51 n S v3 v4 = some res) {H : Heap} {locs : List Loc} {ls : Array Slot} (w : mW D ad cI cZ A s.heap S H locs) (hl : lv_has ls 9 [(0, .ref (ad 0)), (3, .int v3), (4, .int v4)]), W p l e R s m args below meth c H locs 0 0 Q (F0 m 51 ls []) := by
  intro n
  induction n with
  | zero => intro S v3 v4 hM; exact absurd hM (by simp [f_M_may_51])
  | succ n ih => intro S v3 v4 hM H locs ls w hl; exact tb_M_may_51 F hR hK hN hA hQ (k_51 := f_M_may_51 n) (fun S v3 v4 hM H locs ls w hl => ih S v3 v4 hM w hl) S v3 v4 hM w hl
set_option maxRecDepth 100000 in
set_option maxHeartbeats 4000000 in
theorem t_M_may {p : Program} {l : Launch} {e : Env} {R : Room} {s : State} {m : MethodId} {args : Array Value} {below : List Frame} {meth : Method} {c : Code} {Q : State → Prop} {D : va_G} {ad : Nat → Nat} {cI cZ : ClassId} {A : Nat → Prop} (F : CallFix p m c qb_M_may 9 s args qtb "CaptureSubtypesModel") (hR : 11 ≤ R.frames ∧ 278 ≤ R.locals) (hK : va_K D qcl [(cI, .int), (cZ, .boolean)] s) (hN : qnests mns s) (hA : ∀ q, s.heap.size ≤ q → A q) {res : (Int32 × (Nat → Nat → Int32))} (hQ : ∀ (H : Heap) (locs : List Loc) (pc : Nat) (ls : Array Slot), decode qb_M_may pc = .ok (.ireturn, 1) → mW D ad cI cZ A s.heap res.2 H locs → W p l e R s m args below meth c H locs 0 0 Q (F0 m pc ls [.int res.1])) (S : (Nat → Nat → Int32)) (a1 a2 : Int32) (hM : f_M_may S a1 a2 = some res) {H : Heap} {locs : List Loc} {ls : Array Slot} (w : mW D ad cI cZ A s.heap S H locs) (hl : lv_has ls 9 [(0, .ref (ad 0)), (1, .int a1), (2, .int a2)]) : W p l e R s m args below meth c H locs 0 0 Q (F0 m 0 ls []) := by
  unfold f_M_may at hM
  refine lv_aload_n F.1 F.2.1 qd_M_may_0 rfl (lv_at hl 0 rfl) ?_
  refine lv_iload_n F.1 F.2.1 qd_M_may_1 rfl (lv_at hl 1 rfl) ?_
  obtain ⟨q1, hq2, hM⟩ := qbd hM
  refine m_calli F hK hN hA w (c_M_isAsked l D ad cI cZ hq2) qk_860 qk_862 qs_M_isAsked qk_8 qk_863 qv_M_isAsked rfl rfl ⟨Nat.le_trans (by decide) hR.1, Nat.le_trans (by decide) hR.2⟩ (ci := 6) rfl (j := 0) rfl hl.1 rfl (Nat.le_of_ble_eq_true rfl) qd_M_may_2 (fun H locs w => ?_)
  refine lv_if_eq (tgt := 21) F.1 F.2.1 qd_M_may_5 (by decide) (fun hc3 => ?_) (fun hc3 => ?_)
  · rw [if_pos hc3] at hM
    refine lv_bipush (v := (-2)) F.1 F.2.1 qd_M_may_21 (by decide) ?_
    cases hM
    exact hQ _ _ _ _ qd_M_may_23 w
  · rw [if_neg hc3] at hM
    refine lv_aload_n F.1 F.2.1 qd_M_may_8 rfl (lv_at hl 0 rfl) ?_
    refine lv_iload_n F.1 F.2.1 qd_M_may_9 rfl (lv_at hl 2 rfl) ?_
    obtain ⟨q4, hq5, hM⟩ := qbd hM
    refine m_calli F hK hN hA w (c_M_isAsked l D ad cI cZ hq5) qk_860 qk_862 qs_M_isAsked qk_8 qk_863 qv_M_isAsked rfl rfl ⟨Nat.le_trans (by decide) hR.1, Nat.le_trans (by decide) hR.2⟩ (ci := 6) rfl (j := 0) rfl hl.1 rfl (Nat.le_of_ble_eq_true rfl) qd_M_may_10 (fun H locs w => ?_)
    refine lv_if_eq (tgt := 21) F.1 F.2.1 qd_M_may_13 (by decide) (fun hc6 => ?_) (fun hc6 => ?_)
    · rw [if_pos hc6] at hM
      refine lv_bipush (v := (-2)) F.1 F.2.1 qd_M_may_21 (by decide) ?_
      cases hM
      exact hQ _ _ _ _ qd_M_may_23 w
    · rw [if_neg hc6] at hM
      refine lv_iload_n F.1 F.2.1 qd_M_may_16 rfl (lv_at hl 2 rfl) ?_
      refine lv_iconst (v := 2) F.1 F.2.1 qd_M_may_17 (by decide) ?_
      refine lv_icmp_ne (tgt := 24) F.1 F.2.1 qd_M_may_18 (by decide) (fun hc7 => ?_) (fun hc7 => ?_)
      · rw [if_neg hc7] at hM
        refine lv_aload_n F.1 F.2.1 qd_M_may_24 rfl (lv_at hl 0 rfl) ?_
        obtain ⟨q8, hq9, hM⟩ := qbd hM
        refine m_callv F hK hN hA w (c_M_part l D ad cI cZ hq9) qk_844 qk_846 qs_M_part qk_8 qk_847 qv_M_part rfl rfl ⟨Nat.le_trans (by decide) hR.1, Nat.le_trans (by decide) hR.2⟩ (ci := 6) rfl (j := 0) rfl hl.1 rfl (Nat.le_of_ble_eq_true rfl) qd_M_may_25 (fun H locs w => ?_)
        refine lv_aload_n F.1 F.2.1 qd_M_may_28 rfl (lv_at hl 0 rfl) ?_
        obtain ⟨q10, hq11, hM⟩ := qbd hM
        refine m_callv F hK hN hA w (c_M_fresh l D ad cI cZ hq11) qk_651 qk_653 qs_M_fresh qk_8 qk_654 qv_M_fresh rfl rfl ⟨Nat.le_trans (by decide) hR.1, Nat.le_trans (by decide) hR.2⟩ (ci := 6) rfl (j := 0) rfl hl.1 rfl (Nat.le_of_ble_eq_true rfl) qd_M_may_29 (fun H locs w => ?_)
        refine lv_iconst (v := 1) F.1 F.2.1 qd_M_may_32 (by decide) ?_
        refine lv_istore_n (lv' := [(3, .int (1 : Int32)), (0, .ref (ad 0)), (1, .int a1), (2, .int a2)]) F.1 F.2.1 qd_M_may_33 rfl hl (by decide) rfl (fun ls hl => ?_)
        refine lv_aload_n F.1 F.2.1 qd_M_may_34 rfl (lv_at hl 1 rfl) ?_
        refine mg_M_pileS F hK w qk_684 qd_M_may_35 ?_
        refine lv_iconst (v := 0) F.1 F.2.1 qd_M_may_38 (by decide) ?_
        refine lv_iload_n F.1 F.2.1 qd_M_may_39 rfl (lv_at hl 2 rfl) ?_
        obtain ⟨hi12, hM⟩ := qck_ok hM
        refine ms_M_pileS F hK w hi12 qd_M_may_40 (fun H locs w => ?_)
        refine lv_aload_n F.1 F.2.1 qd_M_may_41 rfl (lv_at hl 1 rfl) ?_
        refine mg_M_pileT F hK w qk_685 qd_M_may_42 ?_
        refine lv_iconst (v := 0) F.1 F.2.1 qd_M_may_45 (by decide) ?_
        refine lv_iload_n F.1 F.2.1 qd_M_may_46 rfl (lv_at hl 3 rfl) ?_
        obtain ⟨hi13, hM⟩ := qck_ok hM
        refine ms_M_pileT F hK w hi13 qd_M_may_47 (fun H locs w => ?_)
        refine lv_iconst (v := 0) F.1 F.2.1 qd_M_may_48 (by decide) ?_
        refine lv_istore (lv' := [(4, .int (0 : Int32)), (3, .int (1 : Int32)), (0, .ref (ad 0)), (1, .int a1), (2, .int a2)]) F.1 F.2.1 qd_M_may_49 hl (by decide) rfl (fun ls hl => ?_)
        exact t_M_may_51 F hR hK hN hA hQ  qfu _ _ _ hM w (lv_sub hl [2, 1, 0] rfl)
      · rw [if_pos hc7] at hM
        refine lv_bipush (v := (-2)) F.1 F.2.1 qd_M_may_21 (by decide) ?_
        cases hM
        exact hQ _ _ _ _ qd_M_may_23 w
set_option maxRecDepth 100000 in
theorem c_M_may (l : Launch) (D : va_G) (ad : Nat → Nat) (cI cZ : ClassId) {S : (Nat → Nat → Int32)} {a1 a2 : Int32} {res : (Int32 × (Nat → Nat → Int32))} (hM : f_M_may S a1 a2 = some res) : mMi l qy_M_may qb_M_may 9 (some .int) { frames := 11, cells := 0, slots := 0, locals := 278 } D ad cI cZ S [.ref (ad 0), .int a1, .int a2] res.1 res.2 := m_ofi (by decide +kernel) (Nat.le_of_ble_eq_true rfl) (fun p e s m args below meth c Q A ls F hK hN hA w hl hQ => t_M_may F ⟨Nat.le_refl _, Nat.le_refl _⟩ hK hN hA hQ S a1 a2 hM w hl)
-- M_thereAs
def f_M_thereAs (S : (Nat → Nat → Int32)) (a1 : Int32) : Option Int32 := if (150 : Int32) ≤ a1 then (some (-3 : Int32)) else (some a1)
set_option maxRecDepth 100000 in
set_option maxHeartbeats 4000000 in
theorem t_M_thereAs {p : Program} {l : Launch} {e : Env} {R : Room} {s : State} {m : MethodId} {args : Array Value} {below : List Frame} {meth : Method} {c : Code} {Q : State → Prop} {D : va_G} {ad : Nat → Nat} {cI cZ : ClassId} {A : Nat → Prop} (F : CallFix p m c qb_M_thereAs 2 s args qtb "CaptureSubtypesModel") (hR : 0 ≤ R.frames ∧ 0 ≤ R.locals) (hK : va_K D qcl [(cI, .int), (cZ, .boolean)] s) (hN : qnests mns s) (hA : ∀ q, s.heap.size ≤ q → A q) {res : Int32} {S : (Nat → Nat → Int32)} (hQ : ∀ (H : Heap) (locs : List Loc) (pc : Nat) (ls : Array Slot), decode qb_M_thereAs pc = .ok (.ireturn, 1) → mW D ad cI cZ A s.heap S H locs → W p l e R s m args below meth c H locs 0 0 Q (F0 m pc ls [.int res])) (a1 : Int32) (hM : f_M_thereAs S a1 = some res) {H : Heap} {locs : List Loc} {ls : Array Slot} (w : mW D ad cI cZ A s.heap S H locs) (hl : lv_has ls 2 [(0, .ref (ad 0)), (1, .int a1)]) : W p l e R s m args below meth c H locs 0 0 Q (F0 m 0 ls []) := by
  unfold f_M_thereAs at hM
  refine lv_iload_n F.1 F.2.1 qd_M_thereAs_0 rfl (lv_at hl 1 rfl) ?_
  refine lv_sipush (v := 150) F.1 F.2.1 qd_M_thereAs_1 (by decide) ?_
  refine lv_icmp_ge (tgt := 11) F.1 F.2.1 qd_M_thereAs_4 (by decide) (fun hc1 => ?_) (fun hc1 => ?_)
  · rw [if_pos hc1] at hM
    refine lv_bipush (v := (-3)) F.1 F.2.1 qd_M_thereAs_11 (by decide) ?_
    cases hM
    exact hQ _ _ _ _ qd_M_thereAs_13 w
  · rw [if_neg hc1] at hM
    refine lv_iload_n F.1 F.2.1 qd_M_thereAs_7 rfl (lv_at hl 1 rfl) ?_
    refine lv_goto (tgt := 13) F.1 F.2.1 qd_M_thereAs_8 (by decide) ?_
    cases hM
    exact hQ _ _ _ _ qd_M_thereAs_13 w
set_option maxRecDepth 100000 in
theorem c_M_thereAs (l : Launch) (D : va_G) (ad : Nat → Nat) (cI cZ : ClassId) {S : (Nat → Nat → Int32)} {a1 : Int32} {res : Int32} (hM : f_M_thereAs S a1 = some res) : mMi l qy_M_thereAs qb_M_thereAs 2 (some .int) { frames := 0, cells := 0, slots := 0, locals := 0 } D ad cI cZ S [.ref (ad 0), .int a1] res S := m_ofi (by decide +kernel) (Nat.le_of_ble_eq_true rfl) (fun p e s m args below meth c Q A ls F hK hN hA w hl hQ => t_M_thereAs F ⟨Nat.le_refl _, Nat.le_refl _⟩ hK hN hA hQ a1 hM w hl)
-- M_as
def f_M_as (S : (Nat → Nat → Int32)) (a1 a2 : Int32) : Option (Int32 × (Nat → Nat → Int32)) := (f_M_isType S a1).bind (fun q1 => if (qB q1) = 0 then (some ((-2 : Int32), S)) else ((f_M_isClass S a2).bind (fun q4 => if (qB q4) = 0 then (some ((-2 : Int32), S)) else (qck (qin a1 9000) (if (S 9 a1.toNatClampNeg) = (5 : Int32) then (some ((-2 : Int32), S)) else ((f_M_hasWild S a1).bind (fun q9 => if (qB q9) = 0 then ((f_M_order S).bind (fun q12 => (f_M_fresh q12).bind (fun q14 => (f_M_isOfClass q14 a1).bind (fun q16 => if (qB q16) = 0 then (some ((-1 : Int32), q14)) else (qck (qin a1 9000) (qck (qin (((12 : Int32) * (q14 10 a1.toNatClampNeg)) + a2) 144) (if (q14 18 (((12 : Int32) * (q14 10 a1.toNatClampNeg)) + a2).toNatClampNeg) = 0 then (some ((-1 : Int32), q14)) else ((f_M_asClass q14 a1 a2).bind (fun q22 => (f_M_thereAs q22.2 q22.1).bind (fun q24 => some (q24, q22.2))))))))))) else (some ((-2 : Int32), S)))))))))
set_option maxRecDepth 100000 in
set_option maxHeartbeats 4000000 in
theorem t_M_as {p : Program} {l : Launch} {e : Env} {R : Room} {s : State} {m : MethodId} {args : Array Value} {below : List Frame} {meth : Method} {c : Code} {Q : State → Prop} {D : va_G} {ad : Nat → Nat} {cI cZ : ClassId} {A : Nat → Prop} (F : CallFix p m c qb_M_as 3 s args qtb "CaptureSubtypesModel") (hR : 6 ≤ R.frames ∧ 152 ≤ R.locals) (hK : va_K D qcl [(cI, .int), (cZ, .boolean)] s) (hN : qnests mns s) (hA : ∀ q, s.heap.size ≤ q → A q) {res : (Int32 × (Nat → Nat → Int32))} (hQ : ∀ (H : Heap) (locs : List Loc) (pc : Nat) (ls : Array Slot), decode qb_M_as pc = .ok (.ireturn, 1) → mW D ad cI cZ A s.heap res.2 H locs → W p l e R s m args below meth c H locs 0 0 Q (F0 m pc ls [.int res.1])) (S : (Nat → Nat → Int32)) (a1 a2 : Int32) (hM : f_M_as S a1 a2 = some res) {H : Heap} {locs : List Loc} {ls : Array Slot} (w : mW D ad cI cZ A s.heap S H locs) (hl : lv_has ls 3 [(0, .ref (ad 0)), (1, .int a1), (2, .int a2)]) : W p l e R s m args below meth c H locs 0 0 Q (F0 m 0 ls []) := by
  unfold f_M_as at hM
  refine lv_aload_n F.1 F.2.1 qd_M_as_0 rfl (lv_at hl 0 rfl) ?_
  refine lv_iload_n F.1 F.2.1 qd_M_as_1 rfl (lv_at hl 1 rfl) ?_
  obtain ⟨q1, hq2, hM⟩ := qbd hM
  refine m_calli F hK hN hA w (c_M_isType l D ad cI cZ hq2) qk_792 qk_794 qs_M_isType qk_8 qk_795 qv_M_isType rfl rfl ⟨Nat.le_trans (by decide) hR.1, Nat.le_trans (by decide) hR.2⟩ (ci := 6) rfl (j := 0) rfl hl.1 rfl (Nat.le_of_ble_eq_true rfl) qd_M_as_2 (fun H locs w => ?_)
  refine lv_if_eq (tgt := 34) F.1 F.2.1 qd_M_as_5 (by decide) (fun hc3 => ?_) (fun hc3 => ?_)
  · rw [if_pos hc3] at hM
    refine lv_bipush (v := (-2)) F.1 F.2.1 qd_M_as_34 (by decide) ?_
    cases hM
    exact hQ _ _ _ _ qd_M_as_36 w
  · rw [if_neg hc3] at hM
    refine lv_aload_n F.1 F.2.1 qd_M_as_8 rfl (lv_at hl 0 rfl) ?_
    refine lv_iload_n F.1 F.2.1 qd_M_as_9 rfl (lv_at hl 2 rfl) ?_
    obtain ⟨q4, hq5, hM⟩ := qbd hM
    refine m_calli F hK hN hA w (c_M_isClass l D ad cI cZ hq5) qk_768 qk_770 qs_M_isClass qk_8 qk_771 qv_M_isClass rfl rfl ⟨Nat.le_trans (by decide) hR.1, Nat.le_trans (by decide) hR.2⟩ (ci := 6) rfl (j := 0) rfl hl.1 rfl (Nat.le_of_ble_eq_true rfl) qd_M_as_10 (fun H locs w => ?_)
    refine lv_if_eq (tgt := 34) F.1 F.2.1 qd_M_as_13 (by decide) (fun hc6 => ?_) (fun hc6 => ?_)
    · rw [if_pos hc6] at hM
      refine lv_bipush (v := (-2)) F.1 F.2.1 qd_M_as_34 (by decide) ?_
      cases hM
      exact hQ _ _ _ _ qd_M_as_36 w
    · rw [if_neg hc6] at hM
      refine lv_aload_n F.1 F.2.1 qd_M_as_16 rfl (lv_at hl 0 rfl) ?_
      refine mg_M_sort F hK w qk_664 qd_M_as_17 ?_
      refine lv_iload_n F.1 F.2.1 qd_M_as_20 rfl (lv_at hl 1 rfl) ?_
      obtain ⟨hi7, hM⟩ := qck_ok hM
      refine ml_M_sort F hK w hi7 qd_M_as_21 ?_
      refine lv_iconst (v := 5) F.1 F.2.1 qd_M_as_22 (by decide) ?_
      refine lv_icmp_eq (tgt := 34) F.1 F.2.1 qd_M_as_23 (by decide) (fun hc8 => ?_) (fun hc8 => ?_)
      · rw [if_pos hc8] at hM
        refine lv_bipush (v := (-2)) F.1 F.2.1 qd_M_as_34 (by decide) ?_
        cases hM
        exact hQ _ _ _ _ qd_M_as_36 w
      · rw [if_neg hc8] at hM
        refine lv_aload_n F.1 F.2.1 qd_M_as_26 rfl (lv_at hl 0 rfl) ?_
        refine lv_iload_n F.1 F.2.1 qd_M_as_27 rfl (lv_at hl 1 rfl) ?_
        obtain ⟨q9, hq10, hM⟩ := qbd hM
        refine m_calli F hK hN hA w (c_M_hasWild l D ad cI cZ hq10) qk_912 qk_914 qs_M_hasWild qk_8 qk_915 qv_M_hasWild rfl rfl ⟨Nat.le_trans (by decide) hR.1, Nat.le_trans (by decide) hR.2⟩ (ci := 6) rfl (j := 0) rfl hl.1 rfl (Nat.le_of_ble_eq_true rfl) qd_M_as_28 (fun H locs w => ?_)
        refine lv_if_eq (tgt := 37) F.1 F.2.1 qd_M_as_31 (by decide) (fun hc11 => ?_) (fun hc11 => ?_)
        · rw [if_pos hc11] at hM
          refine lv_aload_n F.1 F.2.1 qd_M_as_37 rfl (lv_at hl 0 rfl) ?_
          obtain ⟨q12, hq13, hM⟩ := qbd hM
          refine m_callv F hK hN hA w (c_M_order l D ad cI cZ hq13) qk_820 qk_822 qs_M_order qk_8 qk_823 qv_M_order rfl rfl ⟨Nat.le_trans (by decide) hR.1, Nat.le_trans (by decide) hR.2⟩ (ci := 6) rfl (j := 0) rfl hl.1 rfl (Nat.le_of_ble_eq_true rfl) qd_M_as_38 (fun H locs w => ?_)
          refine lv_aload_n F.1 F.2.1 qd_M_as_41 rfl (lv_at hl 0 rfl) ?_
          obtain ⟨q14, hq15, hM⟩ := qbd hM
          refine m_callv F hK hN hA w (c_M_fresh l D ad cI cZ hq15) qk_651 qk_653 qs_M_fresh qk_8 qk_654 qv_M_fresh rfl rfl ⟨Nat.le_trans (by decide) hR.1, Nat.le_trans (by decide) hR.2⟩ (ci := 6) rfl (j := 0) rfl hl.1 rfl (Nat.le_of_ble_eq_true rfl) qd_M_as_42 (fun H locs w => ?_)
          refine lv_aload_n F.1 F.2.1 qd_M_as_45 rfl (lv_at hl 0 rfl) ?_
          refine lv_iload_n F.1 F.2.1 qd_M_as_46 rfl (lv_at hl 1 rfl) ?_
          obtain ⟨q16, hq17, hM⟩ := qbd hM
          refine m_calli F hK hN hA w (c_M_isOfClass l D ad cI cZ hq17) qk_900 qk_902 qs_M_isOfClass qk_8 qk_903 qv_M_isOfClass rfl rfl ⟨Nat.le_trans (by decide) hR.1, Nat.le_trans (by decide) hR.2⟩ (ci := 6) rfl (j := 0) rfl hl.1 rfl (Nat.le_of_ble_eq_true rfl) qd_M_as_47 (fun H locs w => ?_)
          refine lv_if_eq (tgt := 72) F.1 F.2.1 qd_M_as_50 (by decide) (fun hc18 => ?_) (fun hc18 => ?_)
          · rw [if_pos hc18] at hM
            refine lv_iconst (v := (-1)) F.1 F.2.1 qd_M_as_72 (by decide) ?_
            cases hM
            exact hQ _ _ _ _ qd_M_as_73 w
          · rw [if_neg hc18] at hM
            refine lv_aload_n F.1 F.2.1 qd_M_as_53 rfl (lv_at hl 0 rfl) ?_
            refine mg_M_isBelow F hK w qk_673 qd_M_as_54 ?_
            refine lv_bipush (v := 12) F.1 F.2.1 qd_M_as_57 (by decide) ?_
            refine lv_aload_n F.1 F.2.1 qd_M_as_59 rfl (lv_at hl 0 rfl) ?_
            refine mg_M_first F hK w qk_665 qd_M_as_60 ?_
            refine lv_iload_n F.1 F.2.1 qd_M_as_63 rfl (lv_at hl 1 rfl) ?_
            obtain ⟨hi19, hM⟩ := qck_ok hM
            refine ml_M_first F hK w hi19 qd_M_as_64 ?_
            refine lv_imul F.1 F.2.1 qd_M_as_65 ?_
            refine lv_iload_n F.1 F.2.1 qd_M_as_66 rfl (lv_at hl 2 rfl) ?_
            refine lv_iadd F.1 F.2.1 qd_M_as_67 ?_
            obtain ⟨hi20, hM⟩ := qck_ok hM
            refine ml_M_isBelow F hK w hi20 qd_M_as_68 ?_
            refine lv_if_ne (tgt := 74) F.1 F.2.1 qd_M_as_69 (by decide) (fun hc21 => ?_) (fun hc21 => ?_)
            · rw [if_neg hc21] at hM
              refine lv_aload_n F.1 F.2.1 qd_M_as_74 rfl (lv_at hl 0 rfl) ?_
              refine lv_aload_n F.1 F.2.1 qd_M_as_75 rfl (lv_at hl 0 rfl) ?_
              refine lv_iload_n F.1 F.2.1 qd_M_as_76 rfl (lv_at hl 1 rfl) ?_
              refine lv_iload_n F.1 F.2.1 qd_M_as_77 rfl (lv_at hl 2 rfl) ?_
              obtain ⟨q22, hq23, hM⟩ := qbd hM
              refine m_calli F hK hN hA w (c_M_asClass l D ad cI cZ hq23) qk_904 qk_906 qs_M_asClass qk_8 qk_907 qv_M_asClass rfl rfl ⟨Nat.le_trans (by decide) hR.1, Nat.le_trans (by decide) hR.2⟩ (ci := 6) rfl (j := 0) rfl hl.1 rfl (Nat.le_of_ble_eq_true rfl) qd_M_as_78 (fun H locs w => ?_)
              obtain ⟨q24, hq25, hM⟩ := qbd hM
              refine m_calli F hK hN hA w (c_M_thereAs l D ad cI cZ hq25) qk_964 qk_966 qs_M_thereAs qk_8 qk_967 qv_M_thereAs rfl rfl ⟨Nat.le_trans (by decide) hR.1, Nat.le_trans (by decide) hR.2⟩ (ci := 6) rfl (j := 0) rfl hl.1 rfl (Nat.le_of_ble_eq_true rfl) qd_M_as_81 (fun H locs w => ?_)
              cases hM
              exact hQ _ _ _ _ qd_M_as_84 w
            · rw [if_pos hc21] at hM
              refine lv_iconst (v := (-1)) F.1 F.2.1 qd_M_as_72 (by decide) ?_
              cases hM
              exact hQ _ _ _ _ qd_M_as_73 w
        · rw [if_neg hc11] at hM
          refine lv_bipush (v := (-2)) F.1 F.2.1 qd_M_as_34 (by decide) ?_
          cases hM
          exact hQ _ _ _ _ qd_M_as_36 w
set_option maxRecDepth 100000 in
theorem c_M_as (l : Launch) (D : va_G) (ad : Nat → Nat) (cI cZ : ClassId) {S : (Nat → Nat → Int32)} {a1 a2 : Int32} {res : (Int32 × (Nat → Nat → Int32))} (hM : f_M_as S a1 a2 = some res) : mMi l qy_M_as qb_M_as 3 (some .int) { frames := 6, cells := 0, slots := 0, locals := 152 } D ad cI cZ S [.ref (ad 0), .int a1, .int a2] res.1 res.2 := m_ofi (by decide +kernel) (Nat.le_of_ble_eq_true rfl) (fun p e s m args below meth c Q A ls F hK hN hA w hl hQ => t_M_as F ⟨Nat.le_refl _, Nat.le_refl _⟩ hK hN hA hQ S a1 a2 hM w hl)
-- M_erased
def f_M_erased (S : (Nat → Nat → Int32)) (a1 : Int32) : Option (Int32 × (Nat → Nat → Int32)) := (f_M_isType S a1).bind (fun q1 => if (qB q1) = 0 then (some ((-2 : Int32), S)) else (qck (qin a1 9000) (if (S 9 a1.toNatClampNeg) < (5 : Int32) then ((f_M_order S).bind (fun q6 => (f_M_fresh q6).bind (fun q8 => (f_M_erase q8 a1).bind (fun q10 => (f_M_thereAs q10.2 q10.1).bind (fun q12 => some (q12, q10.2)))))) else (some ((-2 : Int32), S)))))
set_option maxRecDepth 100000 in
set_option maxHeartbeats 4000000 in
theorem t_M_erased {p : Program} {l : Launch} {e : Env} {R : Room} {s : State} {m : MethodId} {args : Array Value} {below : List Frame} {meth : Method} {c : Code} {Q : State → Prop} {D : va_G} {ad : Nat → Nat} {cI cZ : ClassId} {A : Nat → Prop} (F : CallFix p m c qb_M_erased 2 s args qtb "CaptureSubtypesModel") (hR : 5 ≤ R.frames ∧ 120 ≤ R.locals) (hK : va_K D qcl [(cI, .int), (cZ, .boolean)] s) (hN : qnests mns s) (hA : ∀ q, s.heap.size ≤ q → A q) {res : (Int32 × (Nat → Nat → Int32))} (hQ : ∀ (H : Heap) (locs : List Loc) (pc : Nat) (ls : Array Slot), decode qb_M_erased pc = .ok (.ireturn, 1) → mW D ad cI cZ A s.heap res.2 H locs → W p l e R s m args below meth c H locs 0 0 Q (F0 m pc ls [.int res.1])) (S : (Nat → Nat → Int32)) (a1 : Int32) (hM : f_M_erased S a1 = some res) {H : Heap} {locs : List Loc} {ls : Array Slot} (w : mW D ad cI cZ A s.heap S H locs) (hl : lv_has ls 2 [(0, .ref (ad 0)), (1, .int a1)]) : W p l e R s m args below meth c H locs 0 0 Q (F0 m 0 ls []) := by
  unfold f_M_erased at hM
  refine lv_aload_n F.1 F.2.1 qd_M_erased_0 rfl (lv_at hl 0 rfl) ?_
  refine lv_iload_n F.1 F.2.1 qd_M_erased_1 rfl (lv_at hl 1 rfl) ?_
  obtain ⟨q1, hq2, hM⟩ := qbd hM
  refine m_calli F hK hN hA w (c_M_isType l D ad cI cZ hq2) qk_792 qk_794 qs_M_isType qk_8 qk_795 qv_M_isType rfl rfl ⟨Nat.le_trans (by decide) hR.1, Nat.le_trans (by decide) hR.2⟩ (ci := 6) rfl (j := 0) rfl hl.1 rfl (Nat.le_of_ble_eq_true rfl) qd_M_erased_2 (fun H locs w => ?_)
  refine lv_if_eq (tgt := 18) F.1 F.2.1 qd_M_erased_5 (by decide) (fun hc3 => ?_) (fun hc3 => ?_)
  · rw [if_pos hc3] at hM
    refine lv_bipush (v := (-2)) F.1 F.2.1 qd_M_erased_18 (by decide) ?_
    cases hM
    exact hQ _ _ _ _ qd_M_erased_20 w
  · rw [if_neg hc3] at hM
    refine lv_aload_n F.1 F.2.1 qd_M_erased_8 rfl (lv_at hl 0 rfl) ?_
    refine mg_M_sort F hK w qk_664 qd_M_erased_9 ?_
    refine lv_iload_n F.1 F.2.1 qd_M_erased_12 rfl (lv_at hl 1 rfl) ?_
    obtain ⟨hi4, hM⟩ := qck_ok hM
    refine ml_M_sort F hK w hi4 qd_M_erased_13 ?_
    refine lv_iconst (v := 5) F.1 F.2.1 qd_M_erased_14 (by decide) ?_
    refine lv_icmp_lt (tgt := 21) F.1 F.2.1 qd_M_erased_15 (by decide) (fun hc5 => ?_) (fun hc5 => ?_)
    · rw [if_pos hc5] at hM
      refine lv_aload_n F.1 F.2.1 qd_M_erased_21 rfl (lv_at hl 0 rfl) ?_
      obtain ⟨q6, hq7, hM⟩ := qbd hM
      refine m_callv F hK hN hA w (c_M_order l D ad cI cZ hq7) qk_820 qk_822 qs_M_order qk_8 qk_823 qv_M_order rfl rfl ⟨Nat.le_trans (by decide) hR.1, Nat.le_trans (by decide) hR.2⟩ (ci := 6) rfl (j := 0) rfl hl.1 rfl (Nat.le_of_ble_eq_true rfl) qd_M_erased_22 (fun H locs w => ?_)
      refine lv_aload_n F.1 F.2.1 qd_M_erased_25 rfl (lv_at hl 0 rfl) ?_
      obtain ⟨q8, hq9, hM⟩ := qbd hM
      refine m_callv F hK hN hA w (c_M_fresh l D ad cI cZ hq9) qk_651 qk_653 qs_M_fresh qk_8 qk_654 qv_M_fresh rfl rfl ⟨Nat.le_trans (by decide) hR.1, Nat.le_trans (by decide) hR.2⟩ (ci := 6) rfl (j := 0) rfl hl.1 rfl (Nat.le_of_ble_eq_true rfl) qd_M_erased_26 (fun H locs w => ?_)
      refine lv_aload_n F.1 F.2.1 qd_M_erased_29 rfl (lv_at hl 0 rfl) ?_
      refine lv_aload_n F.1 F.2.1 qd_M_erased_30 rfl (lv_at hl 0 rfl) ?_
      refine lv_iload_n F.1 F.2.1 qd_M_erased_31 rfl (lv_at hl 1 rfl) ?_
      obtain ⟨q10, hq11, hM⟩ := qbd hM
      refine m_calli F hK hN hA w (c_M_erase l D ad cI cZ hq11) qk_956 qk_958 qs_M_erase qk_8 qk_959 qv_M_erase rfl rfl ⟨Nat.le_trans (by decide) hR.1, Nat.le_trans (by decide) hR.2⟩ (ci := 6) rfl (j := 0) rfl hl.1 rfl (Nat.le_of_ble_eq_true rfl) qd_M_erased_32 (fun H locs w => ?_)
      obtain ⟨q12, hq13, hM⟩ := qbd hM
      refine m_calli F hK hN hA w (c_M_thereAs l D ad cI cZ hq13) qk_964 qk_966 qs_M_thereAs qk_8 qk_967 qv_M_thereAs rfl rfl ⟨Nat.le_trans (by decide) hR.1, Nat.le_trans (by decide) hR.2⟩ (ci := 6) rfl (j := 0) rfl hl.1 rfl (Nat.le_of_ble_eq_true rfl) qd_M_erased_35 (fun H locs w => ?_)
      cases hM
      exact hQ _ _ _ _ qd_M_erased_38 w
    · rw [if_neg hc5] at hM
      refine lv_bipush (v := (-2)) F.1 F.2.1 qd_M_erased_18 (by decide) ?_
      cases hM
      exact hQ _ _ _ _ qd_M_erased_20 w
set_option maxRecDepth 100000 in
theorem c_M_erased (l : Launch) (D : va_G) (ad : Nat → Nat) (cI cZ : ClassId) {S : (Nat → Nat → Int32)} {a1 : Int32} {res : (Int32 × (Nat → Nat → Int32))} (hM : f_M_erased S a1 = some res) : mMi l qy_M_erased qb_M_erased 2 (some .int) { frames := 5, cells := 0, slots := 0, locals := 120 } D ad cI cZ S [.ref (ad 0), .int a1] res.1 res.2 := m_ofi (by decide +kernel) (Nat.le_of_ble_eq_true rfl) (fun p e s m args below meth c Q A ls F hK hN hA w hl hQ => t_M_erased F ⟨Nat.le_refl _, Nat.le_refl _⟩ hK hN hA hQ S a1 hM w hl)
-- M_good
def fb_M_good_81 (k_45 : (Nat → Nat → Int32) → Int32 → Int32 → Int32 → Int32 → Option (Int32 × (Nat → Nat → Int32))) (k_81 : (Nat → Nat → Int32) → Int32 → Int32 → Int32 → Int32 → Int32 → Int32 → Option (Int32 × (Nat → Nat → Int32))) (S : (Nat → Nat → Int32)) (v1 v2 v3 v4 v5 v6 : Int32) : Option (Int32 × (Nat → Nat → Int32)) := qck (qin (((2 : Int32) * v3) + v4) 24) (if (S 6 (((2 : Int32) * v3) + v4).toNatClampNeg) ≤ v6 then (k_45 S v1 v2 v3 (v4 + (1 : Int32))) else (qck (qin v5 9000) (if (S 9 v5.toNatClampNeg) = (5 : Int32) then (k_45 S v1 v2 v3 (v4 + (1 : Int32))) else (qck (qin (((2 : Int32) * (((2 : Int32) * v3) + v4)) + v6) 48) (qck (qin v2 9000) (qck (qin v2 9000) ((f_M_replace S (S 5 (((2 : Int32) * (((2 : Int32) * v3) + v4)) + v6).toNatClampNeg) v3 (S 11 v2.toNatClampNeg) (S 12 v2.toNatClampNeg)).bind (fun q8 => (f_M_isA q8.2 v5 q8.1).bind (fun q10 => if (qB q10.1) = 0 then (some ((0 : Int32), q10.2)) else (k_81 q10.2 v1 v2 v3 v4 v5 (v6 + (1 : Int32))))))))))))
def f_M_good_81 (k_45 : (Nat → Nat → Int32) → Int32 → Int32 → Int32 → Int32 → Option (Int32 × (Nat → Nat → Int32))) : Nat → (Nat → Nat → Int32) → Int32 → Int32 → Int32 → Int32 → Int32 → Int32 → Option (Int32 × (Nat → Nat → Int32))
  | 0 => fun _ _ _ _ _ _ _ => none
  | n + 1 => fun S v1 v2 v3 v4 v5 v6 => fb_M_good_81 k_45 (f_M_good_81 k_45 n) S v1 v2 v3 v4 v5 v6
def fb_M_good_45 (k_45 : (Nat → Nat → Int32) → Int32 → Int32 → Int32 → Int32 → Option (Int32 × (Nat → Nat → Int32))) (S : (Nat → Nat → Int32)) (v1 v2 v3 v4 : Int32) : Option (Int32 × (Nat → Nat → Int32)) := qck (qin v3 12) (if (S 2 v3.toNatClampNeg) ≤ v4 then (some ((1 : Int32), S)) else (if v4 = 0 then (qck (qin v1 9000) (f_M_good_81 k_45 qfu S v1 v2 v3 v4 (S 11 v1.toNatClampNeg) (0 : Int32))) else (qck (qin v1 9000) (f_M_good_81 k_45 qfu S v1 v2 v3 v4 (S 12 v1.toNatClampNeg) (0 : Int32)))))
def f_M_good_45 : Nat → (Nat → Nat → Int32) → Int32 → Int32 → Int32 → Int32 → Option (Int32 × (Nat → Nat → Int32))
  | 0 => fun _ _ _ _ _ => none
  | n + 1 => fun S v1 v2 v3 v4 => fb_M_good_45 (f_M_good_45 n) S v1 v2 v3 v4
def f_M_good (S : (Nat → Nat → Int32)) (a1 : Int32) : Option (Int32 × (Nat → Nat → Int32)) := (f_M_isType S a1).bind (fun q1 => if (qB q1) = 0 then (some ((-2 : Int32), S)) else (qck (qin a1 9000) (if (S 9 a1.toNatClampNeg) = (2 : Int32) then ((f_M_order S).bind (fun q6 => (f_M_fresh q6).bind (fun q8 => (f_M_catchIt q8 a1).bind (fun q10 => qck (qin q10.1 9000) (f_M_good_45  qfu q10.2 a1 q10.1 (q10.2 10 q10.1.toNatClampNeg) (0 : Int32)))))) else (some ((-2 : Int32), S)))))
set_option maxRecDepth 100000 in
set_option maxHeartbeats 4000000 in
theorem tb_M_good_81 {p : Program} {l : Launch} {e : Env} {R : Room} {s : State} {m : MethodId} {args : Array Value} {below : List Frame} {meth : Method} {c : Code} {Q : State → Prop} {D : va_G} {ad : Nat → Nat} {cI cZ : ClassId} {A : Nat → Prop} (F : CallFix p m c qb_M_good 7 s args qtb "CaptureSubtypesModel") (hR : 9 ≤ R.frames ∧ 225 ≤ R.locals) (hK : va_K D qcl [(cI, .int), (cZ, .boolean)] s) (hN : qnests mns s) (hA : ∀ q, s.heap.size ≤ q → A q) {res : (Int32 × (Nat → Nat → Int32))} (hQ : ∀ (H : Heap) (locs : List Loc) (pc : Nat) (ls : Array Slot), decode qb_M_good pc = .ok (.ireturn, 1) → mW D ad cI cZ A s.heap res.2 H locs → W p l e R s m args below meth c H locs 0 0 Q (F0 m pc ls [.int res.1])) {k_45 : (Nat → Nat → Int32) → Int32 → Int32 → Int32 → Int32 → Option (Int32 × (Nat → Nat → Int32))} (hk_45 : ∀ (S : Nat → Nat → Int32) (v1 v2 v3 v4 : Int32), k_45 S v1 v2 v3 v4 = some res → ∀ {H : Heap} {locs : List Loc} {ls : Array Slot}, mW D ad cI cZ A s.heap S H locs → lv_has ls 7 [(0, .ref (ad 0)), (1, .int v1), (2, .int v2), (3, .int v3), (4, .int v4)] → W p l e R s m args below meth c H locs 0 0 Q (F0 m 45 ls [])) {k_81 : (Nat → Nat → Int32) → Int32 → Int32 → Int32 → Int32 → Int32 → Int32 → Option (Int32 × (Nat → Nat → Int32))} (hk_81 : ∀ (S : Nat → Nat → Int32) (v1 v2 v3 v4 v5 v6 : Int32), k_81 S v1 v2 v3 v4 v5 v6 = some res → ∀ {H : Heap} {locs : List Loc} {ls : Array Slot}, mW D ad cI cZ A s.heap S H locs → lv_has ls 7 [(0, .ref (ad 0)), (1, .int v1), (2, .int v2), (3, .int v3), (4, .int v4), (5, .int v5), (6, .int v6)] → W p l e R s m args below meth c H locs 0 0 Q (F0 m 81 ls [])) (S : (Nat → Nat → Int32)) (v1 v2 v3 v4 v5 v6 : Int32) (hM : fb_M_good_81 k_45 k_81 S v1 v2 v3 v4 v5 v6 = some res) {H : Heap} {locs : List Loc} {ls : Array Slot} (w : mW D ad cI cZ A s.heap S H locs) (hl : lv_has ls 7 [(0, .ref (ad 0)), (1, .int v1), (2, .int v2), (3, .int v3), (4, .int v4), (5, .int v5), (6, .int v6)]) : W p l e R s m args below meth c H locs 0 0 Q (F0 m 81 ls []) := by
  unfold fb_M_good_81 at hM
  refine lv_iload F.1 F.2.1 qd_M_good_81 (lv_at hl 6 rfl) ?_
  refine lv_aload_n F.1 F.2.1 qd_M_good_83 rfl (lv_at hl 0 rfl) ?_
  refine mg_M_bounds F hK w qk_661 qd_M_good_84 ?_
  refine lv_iconst (v := 2) F.1 F.2.1 qd_M_good_87 (by decide) ?_
  refine lv_iload_n F.1 F.2.1 qd_M_good_88 rfl (lv_at hl 3 rfl) ?_
  refine lv_imul F.1 F.2.1 qd_M_good_89 ?_
  refine lv_iload F.1 F.2.1 qd_M_good_90 (lv_at hl 4 rfl) ?_
  refine lv_iadd F.1 F.2.1 qd_M_good_92 ?_
  obtain ⟨hi1, hM⟩ := qck_ok hM
  refine ml_M_bounds F hK w hi1 qd_M_good_93 ?_
  refine lv_icmp_ge (tgt := 158) F.1 F.2.1 qd_M_good_94 (by decide) (fun hc2 => ?_) (fun hc2 => ?_)
  · rw [if_pos hc2] at hM
    refine lv_iinc (v := (v4 + (1 : Int32))) (lv' := [(4, .int (v4 + (1 : Int32))), (0, .ref (ad 0)), (1, .int v1), (2, .int v2), (3, .int v3), (5, .int v5), (6, .int v6)]) F.1 F.2.1 qd_M_good_158 hl (k := 4) rfl rfl (by decide) rfl (fun ls hl => ?_)
    refine lv_goto (tgt := 45) F.1 F.2.1 qd_M_good_161 (by decide) ?_
    exact hk_45 _ _ _ _ _ hM w (lv_sub hl [1, 2, 3, 4, 0] rfl)
  · rw [if_neg hc2] at hM
    refine lv_aload_n F.1 F.2.1 qd_M_good_97 rfl (lv_at hl 0 rfl) ?_
    refine mg_M_sort F hK w qk_664 qd_M_good_98 ?_
    refine lv_iload F.1 F.2.1 qd_M_good_101 (lv_at hl 5 rfl) ?_
    obtain ⟨hi3, hM⟩ := qck_ok hM
    refine ml_M_sort F hK w hi3 qd_M_good_103 ?_
    refine lv_iconst (v := 5) F.1 F.2.1 qd_M_good_104 (by decide) ?_
    refine lv_icmp_eq (tgt := 158) F.1 F.2.1 qd_M_good_105 (by decide) (fun hc4 => ?_) (fun hc4 => ?_)
    · rw [if_pos hc4] at hM
      refine lv_iinc (v := (v4 + (1 : Int32))) (lv' := [(4, .int (v4 + (1 : Int32))), (0, .ref (ad 0)), (1, .int v1), (2, .int v2), (3, .int v3), (5, .int v5), (6, .int v6)]) F.1 F.2.1 qd_M_good_158 hl (k := 4) rfl rfl (by decide) rfl (fun ls hl => ?_)
      refine lv_goto (tgt := 45) F.1 F.2.1 qd_M_good_161 (by decide) ?_
      exact hk_45 _ _ _ _ _ hM w (lv_sub hl [1, 2, 3, 4, 0] rfl)
    · rw [if_neg hc4] at hM
      refine lv_aload_n F.1 F.2.1 qd_M_good_108 rfl (lv_at hl 0 rfl) ?_
      refine lv_iload F.1 F.2.1 qd_M_good_109 (lv_at hl 5 rfl) ?_
      refine lv_aload_n F.1 F.2.1 qd_M_good_111 rfl (lv_at hl 0 rfl) ?_
      refine lv_aload_n F.1 F.2.1 qd_M_good_112 rfl (lv_at hl 0 rfl) ?_
      refine mg_M_bound F hK w qk_660 qd_M_good_113 ?_
      refine lv_iconst (v := 2) F.1 F.2.1 qd_M_good_116 (by decide) ?_
      refine lv_iconst (v := 2) F.1 F.2.1 qd_M_good_117 (by decide) ?_
      refine lv_iload_n F.1 F.2.1 qd_M_good_118 rfl (lv_at hl 3 rfl) ?_
      refine lv_imul F.1 F.2.1 qd_M_good_119 ?_
      refine lv_iload F.1 F.2.1 qd_M_good_120 (lv_at hl 4 rfl) ?_
      refine lv_iadd F.1 F.2.1 qd_M_good_122 ?_
      refine lv_imul F.1 F.2.1 qd_M_good_123 ?_
      refine lv_iload F.1 F.2.1 qd_M_good_124 (lv_at hl 6 rfl) ?_
      refine lv_iadd F.1 F.2.1 qd_M_good_126 ?_
      obtain ⟨hi5, hM⟩ := qck_ok hM
      refine ml_M_bound F hK w hi5 qd_M_good_127 ?_
      refine lv_iload_n F.1 F.2.1 qd_M_good_128 rfl (lv_at hl 3 rfl) ?_
      refine lv_aload_n F.1 F.2.1 qd_M_good_129 rfl (lv_at hl 0 rfl) ?_
      refine mg_M_second F hK w qk_666 qd_M_good_130 ?_
      refine lv_iload_n F.1 F.2.1 qd_M_good_133 rfl (lv_at hl 2 rfl) ?_
      obtain ⟨hi6, hM⟩ := qck_ok hM
      refine ml_M_second F hK w hi6 qd_M_good_134 ?_
      refine lv_aload_n F.1 F.2.1 qd_M_good_135 rfl (lv_at hl 0 rfl) ?_
      refine mg_M_third F hK w qk_667 qd_M_good_136 ?_
      refine lv_iload_n F.1 F.2.1 qd_M_good_139 rfl (lv_at hl 2 rfl) ?_
      obtain ⟨hi7, hM⟩ := qck_ok hM
      refine ml_M_third F hK w hi7 qd_M_good_140 ?_
      obtain ⟨q8, hq9, hM⟩ := qbd hM
      refine m_calli F hK hN hA w (c_M_replace l D ad cI cZ hq9) qk_920 qk_922 qs_M_replace qk_8 qk_923 qv_M_replace rfl rfl ⟨Nat.le_trans (by decide) hR.1, Nat.le_trans (by decide) hR.2⟩ (ci := 6) rfl (j := 0) rfl hl.1 rfl (Nat.le_of_ble_eq_true rfl) qd_M_good_141 (fun H locs w => ?_)
      obtain ⟨q10, hq11, hM⟩ := qbd hM
      refine m_calli F hK hN hA w (c_M_isA l D ad cI cZ hq11) qk_864 qk_866 qs_M_isA qk_8 qk_867 qv_M_isA rfl rfl ⟨Nat.le_trans (by decide) hR.1, Nat.le_trans (by decide) hR.2⟩ (ci := 6) rfl (j := 0) rfl hl.1 rfl (Nat.le_of_ble_eq_true rfl) qd_M_good_144 (fun H locs w => ?_)
      refine lv_if_ne (tgt := 152) F.1 F.2.1 qd_M_good_147 (by decide) (fun hc12 => ?_) (fun hc12 => ?_)
      · rw [if_neg hc12] at hM
        refine lv_iinc (v := (v6 + (1 : Int32))) (lv' := [(6, .int (v6 + (1 : Int32))), (0, .ref (ad 0)), (1, .int v1), (2, .int v2), (3, .int v3), (4, .int v4), (5, .int v5)]) F.1 F.2.1 qd_M_good_152 hl (k := 6) rfl rfl (by decide) rfl (fun ls hl => ?_)
        refine lv_goto (tgt := 81) F.1 F.2.1 qd_M_good_155 (by decide) ?_
        exact hk_81 _ _ _ _ _ _ _ hM w (lv_sub hl [1, 2, 3, 4, 5, 6, 0] rfl)
      · rw [if_pos hc12] at hM
        refine lv_iconst (v := 0) F.1 F.2.1 qd_M_good_150 (by decide) ?_
        cases hM
        exact hQ _ _ _ _ qd_M_good_151 w
set_option maxRecDepth 100000 in
set_option maxHeartbeats 4000000 in
theorem t_M_good_81 {p : Program} {l : Launch} {e : Env} {R : Room} {s : State} {m : MethodId} {args : Array Value} {below : List Frame} {meth : Method} {c : Code} {Q : State → Prop} {D : va_G} {ad : Nat → Nat} {cI cZ : ClassId} {A : Nat → Prop} (F : CallFix p m c qb_M_good 7 s args qtb "CaptureSubtypesModel") (hR : 9 ≤ R.frames ∧ 225 ≤ R.locals) (hK : va_K D qcl [(cI, .int), (cZ, .boolean)] s) (hN : qnests mns s) (hA : ∀ q, s.heap.size ≤ q → A q) {res : (Int32 × (Nat → Nat → Int32))} (hQ : ∀ (H : Heap) (locs : List Loc) (pc : Nat) (ls : Array Slot), decode qb_M_good pc = .ok (.ireturn, 1) → mW D ad cI cZ A s.heap res.2 H locs → W p l e R s m args below meth c H locs 0 0 Q (F0 m pc ls [.int res.1])) {k_45 : (Nat → Nat → Int32) → Int32 → Int32 → Int32 → Int32 → Option (Int32 × (Nat → Nat → Int32))} (hk_45 : ∀ (S : Nat → Nat → Int32) (v1 v2 v3 v4 : Int32), k_45 S v1 v2 v3 v4 = some res → ∀ {H : Heap} {locs : List Loc} {ls : Array Slot}, mW D ad cI cZ A s.heap S H locs → lv_has ls 7 [(0, .ref (ad 0)), (1, .int v1), (2, .int v2), (3, .int v3), (4, .int v4)] → W p l e R s m args below meth c H locs 0 0 Q (F0 m 45 ls [])) : ∀ (n : Nat) (S : (Nat → Nat → Int32)) (v1 v2 v3 v4 v5 v6 : Int32) (hM : f_M_good_81 k_45 n S v1 v2 v3 v4 v5 v6 = some res) {H : Heap} {locs : List Loc} {ls : Array Slot} (w : mW D ad cI cZ A s.heap S H locs) (hl : lv_has ls 7 [(0, .ref (ad 0)), (1, .int v1), (2, .int v2), (3, .int v3), (4, .int v4), (5, .int v5), (6, .int v6)]), W p l e R s m args below meth c H locs 0 0 Q (F0 m 81 ls []) := by
  intro n
  induction n with
  | zero => intro S v1 v2 v3 v4 v5 v6 hM; exact absurd hM (by simp [f_M_good_81])
  | succ n ih => intro S v1 v2 v3 v4 v5 v6 hM H locs ls w hl; exact tb_M_good_81 F hR hK hN hA hQ hk_45 (k_81 := f_M_good_81 k_45 n) (fun S v1 v2 v3 v4 v5 v6 hM H locs ls w hl => ih S v1 v2 v3 v4 v5 v6 hM w hl) S v1 v2 v3 v4 v5 v6 hM w hl
set_option maxRecDepth 100000 in
set_option maxHeartbeats 4000000 in
theorem tb_M_good_45 {p : Program} {l : Launch} {e : Env} {R : Room} {s : State} {m : MethodId} {args : Array Value} {below : List Frame} {meth : Method} {c : Code} {Q : State → Prop} {D : va_G} {ad : Nat → Nat} {cI cZ : ClassId} {A : Nat → Prop} (F : CallFix p m c qb_M_good 7 s args qtb "CaptureSubtypesModel") (hR : 9 ≤ R.frames ∧ 225 ≤ R.locals) (hK : va_K D qcl [(cI, .int), (cZ, .boolean)] s) (hN : qnests mns s) (hA : ∀ q, s.heap.size ≤ q → A q) {res : (Int32 × (Nat → Nat → Int32))} (hQ : ∀ (H : Heap) (locs : List Loc) (pc : Nat) (ls : Array Slot), decode qb_M_good pc = .ok (.ireturn, 1) → mW D ad cI cZ A s.heap res.2 H locs → W p l e R s m args below meth c H locs 0 0 Q (F0 m pc ls [.int res.1])) {k_45 : (Nat → Nat → Int32) → Int32 → Int32 → Int32 → Int32 → Option (Int32 × (Nat → Nat → Int32))} (hk_45 : ∀ (S : Nat → Nat → Int32) (v1 v2 v3 v4 : Int32), k_45 S v1 v2 v3 v4 = some res → ∀ {H : Heap} {locs : List Loc} {ls : Array Slot}, mW D ad cI cZ A s.heap S H locs → lv_has ls 7 [(0, .ref (ad 0)), (1, .int v1), (2, .int v2), (3, .int v3), (4, .int v4)] → W p l e R s m args below meth c H locs 0 0 Q (F0 m 45 ls [])) (S : (Nat → Nat → Int32)) (v1 v2 v3 v4 : Int32) (hM : fb_M_good_45 k_45 S v1 v2 v3 v4 = some res) {H : Heap} {locs : List Loc} {ls : Array Slot} (w : mW D ad cI cZ A s.heap S H locs) (hl : lv_has ls 7 [(0, .ref (ad 0)), (1, .int v1), (2, .int v2), (3, .int v3), (4, .int v4)]) : W p l e R s m args below meth c H locs 0 0 Q (F0 m 45 ls []) := by
  unfold fb_M_good_45 at hM
  refine lv_iload F.1 F.2.1 qd_M_good_45 (lv_at hl 4 rfl) ?_
  refine lv_aload_n F.1 F.2.1 qd_M_good_47 rfl (lv_at hl 0 rfl) ?_
  refine mg_M_parameters F hK w qk_657 qd_M_good_48 ?_
  refine lv_iload_n F.1 F.2.1 qd_M_good_51 rfl (lv_at hl 3 rfl) ?_
  obtain ⟨hi1, hM⟩ := qck_ok hM
  refine ml_M_parameters F hK w hi1 qd_M_good_52 ?_
  refine lv_icmp_ge (tgt := 164) F.1 F.2.1 qd_M_good_53 (by decide) (fun hc2 => ?_) (fun hc2 => ?_)
  · rw [if_pos hc2] at hM
    refine lv_iconst (v := 1) F.1 F.2.1 qd_M_good_164 (by decide) ?_
    cases hM
    exact hQ _ _ _ _ qd_M_good_165 w
  · rw [if_neg hc2] at hM
    refine lv_iload F.1 F.2.1 qd_M_good_56 (lv_at hl 4 rfl) ?_
    refine lv_if_ne (tgt := 70) F.1 F.2.1 qd_M_good_58 (by decide) (fun hc3 => ?_) (fun hc3 => ?_)
    · rw [if_neg hc3] at hM
      refine lv_aload_n F.1 F.2.1 qd_M_good_70 rfl (lv_at hl 0 rfl) ?_
      refine mg_M_third F hK w qk_667 qd_M_good_71 ?_
      refine lv_iload_n F.1 F.2.1 qd_M_good_74 rfl (lv_at hl 1 rfl) ?_
      obtain ⟨hi4, hM⟩ := qck_ok hM
      refine ml_M_third F hK w hi4 qd_M_good_75 ?_
      refine lv_istore (lv' := [(5, .int (S 12 v1.toNatClampNeg)), (0, .ref (ad 0)), (1, .int v1), (2, .int v2), (3, .int v3), (4, .int v4)]) F.1 F.2.1 qd_M_good_76 hl (by decide) rfl (fun ls hl => ?_)
      refine lv_iconst (v := 0) F.1 F.2.1 qd_M_good_78 (by decide) ?_
      refine lv_istore (lv' := [(6, .int (0 : Int32)), (5, .int (S 12 v1.toNatClampNeg)), (0, .ref (ad 0)), (1, .int v1), (2, .int v2), (3, .int v3), (4, .int v4)]) F.1 F.2.1 qd_M_good_79 hl (by decide) rfl (fun ls hl => ?_)
      exact t_M_good_81 F hR hK hN hA hQ hk_45 qfu _ _ _ _ _ _ _ hM w (lv_sub hl [2, 3, 4, 5, 6, 1, 0] rfl)
    · rw [if_pos hc3] at hM
      refine lv_aload_n F.1 F.2.1 qd_M_good_61 rfl (lv_at hl 0 rfl) ?_
      refine mg_M_second F hK w qk_666 qd_M_good_62 ?_
      refine lv_iload_n F.1 F.2.1 qd_M_good_65 rfl (lv_at hl 1 rfl) ?_
      obtain ⟨hi5, hM⟩ := qck_ok hM
      refine ml_M_second F hK w hi5 qd_M_good_66 ?_
      refine lv_goto (tgt := 76) F.1 F.2.1 qd_M_good_67 (by decide) ?_
      refine lv_istore (lv' := [(5, .int (S 11 v1.toNatClampNeg)), (0, .ref (ad 0)), (1, .int v1), (2, .int v2), (3, .int v3), (4, .int v4)]) F.1 F.2.1 qd_M_good_76 hl (by decide) rfl (fun ls hl => ?_)
      refine lv_iconst (v := 0) F.1 F.2.1 qd_M_good_78 (by decide) ?_
      refine lv_istore (lv' := [(6, .int (0 : Int32)), (5, .int (S 11 v1.toNatClampNeg)), (0, .ref (ad 0)), (1, .int v1), (2, .int v2), (3, .int v3), (4, .int v4)]) F.1 F.2.1 qd_M_good_79 hl (by decide) rfl (fun ls hl => ?_)
      exact t_M_good_81 F hR hK hN hA hQ hk_45 qfu _ _ _ _ _ _ _ hM w (lv_sub hl [2, 3, 4, 5, 6, 1, 0] rfl)
set_option maxRecDepth 100000 in
set_option maxHeartbeats 4000000 in
theorem t_M_good_45 {p : Program} {l : Launch} {e : Env} {R : Room} {s : State} {m : MethodId} {args : Array Value} {below : List Frame} {meth : Method} {c : Code} {Q : State → Prop} {D : va_G} {ad : Nat → Nat} {cI cZ : ClassId} {A : Nat → Prop} (F : CallFix p m c qb_M_good 7 s args qtb "CaptureSubtypesModel") (hR : 9 ≤ R.frames ∧ 225 ≤ R.locals) (hK : va_K D qcl [(cI, .int), (cZ, .boolean)] s) (hN : qnests mns s) (hA : ∀ q, s.heap.size ≤ q → A q) {res : (Int32 × (Nat → Nat → Int32))} (hQ : ∀ (H : Heap) (locs : List Loc) (pc : Nat) (ls : Array Slot), decode qb_M_good pc = .ok (.ireturn, 1) → mW D ad cI cZ A s.heap res.2 H locs → W p l e R s m args below meth c H locs 0 0 Q (F0 m pc ls [.int res.1])) : ∀ (n : Nat) (S : (Nat → Nat → Int32)) (v1 v2 v3 v4 : Int32) (hM : f_M_good_45 n S v1 v2 v3 v4 = some res) {H : Heap} {locs : List Loc} {ls : Array Slot} (w : mW D ad cI cZ A s.heap S H locs) (hl : lv_has ls 7 [(0, .ref (ad 0)), (1, .int v1), (2, .int v2), (3, .int v3), (4, .int v4)]), W p l e R s m args below meth c H locs 0 0 Q (F0 m 45 ls []) := by
  intro n
  induction n with
  | zero => intro S v1 v2 v3 v4 hM; exact absurd hM (by simp [f_M_good_45])
  | succ n ih => intro S v1 v2 v3 v4 hM H locs ls w hl; exact tb_M_good_45 F hR hK hN hA hQ (k_45 := f_M_good_45 n) (fun S v1 v2 v3 v4 hM H locs ls w hl => ih S v1 v2 v3 v4 hM w hl) S v1 v2 v3 v4 hM w hl
set_option maxRecDepth 100000 in
set_option maxHeartbeats 4000000 in
theorem t_M_good {p : Program} {l : Launch} {e : Env} {R : Room} {s : State} {m : MethodId} {args : Array Value} {below : List Frame} {meth : Method} {c : Code} {Q : State → Prop} {D : va_G} {ad : Nat → Nat} {cI cZ : ClassId} {A : Nat → Prop} (F : CallFix p m c qb_M_good 7 s args qtb "CaptureSubtypesModel") (hR : 9 ≤ R.frames ∧ 225 ≤ R.locals) (hK : va_K D qcl [(cI, .int), (cZ, .boolean)] s) (hN : qnests mns s) (hA : ∀ q, s.heap.size ≤ q → A q) {res : (Int32 × (Nat → Nat → Int32))} (hQ : ∀ (H : Heap) (locs : List Loc) (pc : Nat) (ls : Array Slot), decode qb_M_good pc = .ok (.ireturn, 1) → mW D ad cI cZ A s.heap res.2 H locs → W p l e R s m args below meth c H locs 0 0 Q (F0 m pc ls [.int res.1])) (S : (Nat → Nat → Int32)) (a1 : Int32) (hM : f_M_good S a1 = some res) {H : Heap} {locs : List Loc} {ls : Array Slot} (w : mW D ad cI cZ A s.heap S H locs) (hl : lv_has ls 7 [(0, .ref (ad 0)), (1, .int a1)]) : W p l e R s m args below meth c H locs 0 0 Q (F0 m 0 ls []) := by
  unfold f_M_good at hM
  refine lv_aload_n F.1 F.2.1 qd_M_good_0 rfl (lv_at hl 0 rfl) ?_
  refine lv_iload_n F.1 F.2.1 qd_M_good_1 rfl (lv_at hl 1 rfl) ?_
  obtain ⟨q1, hq2, hM⟩ := qbd hM
  refine m_calli F hK hN hA w (c_M_isType l D ad cI cZ hq2) qk_792 qk_794 qs_M_isType qk_8 qk_795 qv_M_isType rfl rfl ⟨Nat.le_trans (by decide) hR.1, Nat.le_trans (by decide) hR.2⟩ (ci := 6) rfl (j := 0) rfl hl.1 rfl (Nat.le_of_ble_eq_true rfl) qd_M_good_2 (fun H locs w => ?_)
  refine lv_if_eq (tgt := 18) F.1 F.2.1 qd_M_good_5 (by decide) (fun hc3 => ?_) (fun hc3 => ?_)
  · rw [if_pos hc3] at hM
    refine lv_bipush (v := (-2)) F.1 F.2.1 qd_M_good_18 (by decide) ?_
    cases hM
    exact hQ _ _ _ _ qd_M_good_20 w
  · rw [if_neg hc3] at hM
    refine lv_aload_n F.1 F.2.1 qd_M_good_8 rfl (lv_at hl 0 rfl) ?_
    refine mg_M_sort F hK w qk_664 qd_M_good_9 ?_
    refine lv_iload_n F.1 F.2.1 qd_M_good_12 rfl (lv_at hl 1 rfl) ?_
    obtain ⟨hi4, hM⟩ := qck_ok hM
    refine ml_M_sort F hK w hi4 qd_M_good_13 ?_
    refine lv_iconst (v := 2) F.1 F.2.1 qd_M_good_14 (by decide) ?_
    refine lv_icmp_eq (tgt := 21) F.1 F.2.1 qd_M_good_15 (by decide) (fun hc5 => ?_) (fun hc5 => ?_)
    · rw [if_pos hc5] at hM
      refine lv_aload_n F.1 F.2.1 qd_M_good_21 rfl (lv_at hl 0 rfl) ?_
      obtain ⟨q6, hq7, hM⟩ := qbd hM
      refine m_callv F hK hN hA w (c_M_order l D ad cI cZ hq7) qk_820 qk_822 qs_M_order qk_8 qk_823 qv_M_order rfl rfl ⟨Nat.le_trans (by decide) hR.1, Nat.le_trans (by decide) hR.2⟩ (ci := 6) rfl (j := 0) rfl hl.1 rfl (Nat.le_of_ble_eq_true rfl) qd_M_good_22 (fun H locs w => ?_)
      refine lv_aload_n F.1 F.2.1 qd_M_good_25 rfl (lv_at hl 0 rfl) ?_
      obtain ⟨q8, hq9, hM⟩ := qbd hM
      refine m_callv F hK hN hA w (c_M_fresh l D ad cI cZ hq9) qk_651 qk_653 qs_M_fresh qk_8 qk_654 qv_M_fresh rfl rfl ⟨Nat.le_trans (by decide) hR.1, Nat.le_trans (by decide) hR.2⟩ (ci := 6) rfl (j := 0) rfl hl.1 rfl (Nat.le_of_ble_eq_true rfl) qd_M_good_26 (fun H locs w => ?_)
      refine lv_aload_n F.1 F.2.1 qd_M_good_29 rfl (lv_at hl 0 rfl) ?_
      refine lv_iload_n F.1 F.2.1 qd_M_good_30 rfl (lv_at hl 1 rfl) ?_
      obtain ⟨q10, hq11, hM⟩ := qbd hM
      refine m_calli F hK hN hA w (c_M_catchIt l D ad cI cZ hq11) qk_908 qk_910 qs_M_catchIt qk_8 qk_911 qv_M_catchIt rfl rfl ⟨Nat.le_trans (by decide) hR.1, Nat.le_trans (by decide) hR.2⟩ (ci := 6) rfl (j := 0) rfl hl.1 rfl (Nat.le_of_ble_eq_true rfl) qd_M_good_31 (fun H locs w => ?_)
      refine lv_istore_n (lv' := [(2, .int q10.1), (0, .ref (ad 0)), (1, .int a1)]) F.1 F.2.1 qd_M_good_34 rfl hl (by decide) rfl (fun ls hl => ?_)
      refine lv_aload_n F.1 F.2.1 qd_M_good_35 rfl (lv_at hl 1 rfl) ?_
      refine mg_M_first F hK w qk_665 qd_M_good_36 ?_
      refine lv_iload_n F.1 F.2.1 qd_M_good_39 rfl (lv_at hl 0 rfl) ?_
      obtain ⟨hi12, hM⟩ := qck_ok hM
      refine ml_M_first F hK w hi12 qd_M_good_40 ?_
      refine lv_istore_n (lv' := [(3, .int (q10.2 10 q10.1.toNatClampNeg)), (2, .int q10.1), (0, .ref (ad 0)), (1, .int a1)]) F.1 F.2.1 qd_M_good_41 rfl hl (by decide) rfl (fun ls hl => ?_)
      refine lv_iconst (v := 0) F.1 F.2.1 qd_M_good_42 (by decide) ?_
      refine lv_istore (lv' := [(4, .int (0 : Int32)), (3, .int (q10.2 10 q10.1.toNatClampNeg)), (2, .int q10.1), (0, .ref (ad 0)), (1, .int a1)]) F.1 F.2.1 qd_M_good_43 hl (by decide) rfl (fun ls hl => ?_)
      exact t_M_good_45 F hR hK hN hA hQ  qfu _ _ _ _ _ hM w (lv_sub hl [3, 4, 2, 1, 0] rfl)
    · rw [if_neg hc5] at hM
      refine lv_bipush (v := (-2)) F.1 F.2.1 qd_M_good_18 (by decide) ?_
      cases hM
      exact hQ _ _ _ _ qd_M_good_20 w
set_option maxRecDepth 100000 in
theorem c_M_good (l : Launch) (D : va_G) (ad : Nat → Nat) (cI cZ : ClassId) {S : (Nat → Nat → Int32)} {a1 : Int32} {res : (Int32 × (Nat → Nat → Int32))} (hM : f_M_good S a1 = some res) : mMi l qy_M_good qb_M_good 7 (some .int) { frames := 9, cells := 0, slots := 0, locals := 225 } D ad cI cZ S [.ref (ad 0), .int a1] res.1 res.2 := m_ofi (by decide +kernel) (Nat.le_of_ble_eq_true rfl) (fun p e s m args below meth c Q A ls F hK hN hA w hl hQ => t_M_good F ⟨Nat.le_refl _, Nat.le_refl _⟩ hK hN hA hQ S a1 hM w hl)
-- M_isForeign
def f_M_isForeign_114 (k_34 : (Nat → Nat → Int32) → Int32 → Int32 → Int32 → Option (Bool × (Nat → Nat → Int32))) (S : (Nat → Nat → Int32)) (v2 v3 v4 : Int32) : Option (Bool × (Nat → Nat → Int32)) := qck (qin v4 9000) (if (S 9 v4.toNatClampNeg) = (2 : Int32) then (qck (qin v4 9000) (if (S 12 v4.toNatClampNeg) = (-1 : Int32) then (k_34 S v2 v3 (v4 + (-1 : Int32))) else (qck (qin v4 9000) (qck (qin (S 12 v4.toNatClampNeg) 9000) (k_34 (qwr S 21 (S 12 v4.toNatClampNeg).toNatClampNeg (vp_nar .boolean (1 : Int32))) v2 v3 (v4 + (-1 : Int32))))))) else (k_34 S v2 v3 (v4 + (-1 : Int32))))
def f_M_isForeign_91 (k_34 : (Nat → Nat → Int32) → Int32 → Int32 → Int32 → Option (Bool × (Nat → Nat → Int32))) (S : (Nat → Nat → Int32)) (v2 v4 s1 : Int32) : Option (Bool × (Nat → Nat → Int32)) := (f_M_hasFirst S v4).bind (fun q1 => if (qB q1) = 0 then (f_M_isForeign_114 k_34 S v2 s1 v4) else (qck (qin v4 9000) (qck (qin (S 11 v4.toNatClampNeg) 9000) (f_M_isForeign_114 k_34 (qwr S 21 (S 11 v4.toNatClampNeg).toNatClampNeg (vp_nar .boolean (1 : Int32))) v2 s1 v4))))
def f_M_isForeign_90 (k_34 : (Nat → Nat → Int32) → Int32 → Int32 → Int32 → Option (Bool × (Nat → Nat → Int32))) (S : (Nat → Nat → Int32)) (v2 v4 : Int32) : Option (Bool × (Nat → Nat → Int32)) := f_M_isForeign_91 k_34 S v2 v4 (0 : Int32)
def f_M_isForeign_86 (k_34 : (Nat → Nat → Int32) → Int32 → Int32 → Int32 → Option (Bool × (Nat → Nat → Int32))) (S : (Nat → Nat → Int32)) (v2 v4 : Int32) : Option (Bool × (Nat → Nat → Int32)) := f_M_isForeign_91 k_34 S v2 v4 (1 : Int32)
def fb_M_isForeign_34 (k_34 : (Nat → Nat → Int32) → Int32 → Int32 → Int32 → Option (Bool × (Nat → Nat → Int32))) (S : (Nat → Nat → Int32)) (v2 v3 v4 : Int32) : Option (Bool × (Nat → Nat → Int32)) := if v4 < 0 then (qck (q01 v3) (some (decide (v3 = 1), S))) else (qck (qin v4 9000) (if (S 21 v4.toNatClampNeg) = 0 then (k_34 S v2 v3 (v4 + (-1 : Int32))) else (if v3 = 0 then (qck (qin v4 9000) (if (S 9 v4.toNatClampNeg) = (5 : Int32) then (f_M_isForeign_86 k_34 S v2 v4) else (qck (qin v4 9000) (if (S 9 v4.toNatClampNeg) = (3 : Int32) then (qck (qin v4 9000) (if (S 10 v4.toNatClampNeg) = v2 then (f_M_isForeign_90 k_34 S v2 v4) else (f_M_isForeign_86 k_34 S v2 v4))) else (f_M_isForeign_90 k_34 S v2 v4))))) else (f_M_isForeign_86 k_34 S v2 v4))))
def f_M_isForeign_34 : Nat → (Nat → Nat → Int32) → Int32 → Int32 → Int32 → Option (Bool × (Nat → Nat → Int32))
  | 0 => fun _ _ _ _ => none
  | n + 1 => fun S v2 v3 v4 => fb_M_isForeign_34 (f_M_isForeign_34 n) S v2 v3 v4
def f_M_isForeign_22 (k_2 : (Nat → Nat → Int32) → Int32 → Int32 → Int32 → Option (Bool × (Nat → Nat → Int32))) (S : (Nat → Nat → Int32)) (v1 v2 v3 s1 s2 : Int32) : Option (Bool × (Nat → Nat → Int32)) := qck (qin s1 9000) (k_2 (qwr S 21 s1.toNatClampNeg (vp_nar .boolean s2)) v1 v2 (v3 + (1 : Int32)))
def fb_M_isForeign_2 (k_2 : (Nat → Nat → Int32) → Int32 → Int32 → Int32 → Option (Bool × (Nat → Nat → Int32))) (S : (Nat → Nat → Int32)) (v1 v2 v3 : Int32) : Option (Bool × (Nat → Nat → Int32)) := if v1 < v3 then (f_M_isForeign_34  qfu S v2 (0 : Int32) v1) else (if v3 = v1 then (f_M_isForeign_22 k_2 S v1 v2 v3 v3 (1 : Int32)) else (f_M_isForeign_22 k_2 S v1 v2 v3 v3 (0 : Int32)))
def f_M_isForeign_2 : Nat → (Nat → Nat → Int32) → Int32 → Int32 → Int32 → Option (Bool × (Nat → Nat → Int32))
  | 0 => fun _ _ _ _ => none
  | n + 1 => fun S v1 v2 v3 => fb_M_isForeign_2 (f_M_isForeign_2 n) S v1 v2 v3
def f_M_isForeign (S : (Nat → Nat → Int32)) (a1 a2 : Int32) : Option (Bool × (Nat → Nat → Int32)) := f_M_isForeign_2  qfu S a1 a2 (0 : Int32)
set_option maxRecDepth 100000 in
set_option maxHeartbeats 4000000 in
theorem t_M_isForeign_114 {p : Program} {l : Launch} {e : Env} {R : Room} {s : State} {m : MethodId} {args : Array Value} {below : List Frame} {meth : Method} {c : Code} {Q : State → Prop} {D : va_G} {ad : Nat → Nat} {cI cZ : ClassId} {A : Nat → Prop} (F : CallFix p m c qb_M_isForeign 5 s args qtb "CaptureSubtypesModel") (hR : 1 ≤ R.frames ∧ 21 ≤ R.locals) (hK : va_K D qcl [(cI, .int), (cZ, .boolean)] s) (hN : qnests mns s) (hA : ∀ q, s.heap.size ≤ q → A q) {res : (Bool × (Nat → Nat → Int32))} (hQ : ∀ (H : Heap) (locs : List Loc) (pc : Nat) (ls : Array Slot), decode qb_M_isForeign pc = .ok (.ireturn, 1) → mW D ad cI cZ A s.heap res.2 H locs → W p l e R s m args below meth c H locs 0 0 Q (F0 m pc ls [.int (qB res.1)])) {k_34 : (Nat → Nat → Int32) → Int32 → Int32 → Int32 → Option (Bool × (Nat → Nat → Int32))} (hk_34 : ∀ (S : Nat → Nat → Int32) (v2 v3 v4 : Int32), k_34 S v2 v3 v4 = some res → ∀ {H : Heap} {locs : List Loc} {ls : Array Slot}, mW D ad cI cZ A s.heap S H locs → lv_has ls 5 [(0, .ref (ad 0)), (2, .int v2), (3, .int v3), (4, .int v4)] → W p l e R s m args below meth c H locs 0 0 Q (F0 m 34 ls [])) (S : (Nat → Nat → Int32)) (v2 v3 v4 : Int32) (hM : f_M_isForeign_114 k_34 S v2 v3 v4 = some res) {H : Heap} {locs : List Loc} {ls : Array Slot} (w : mW D ad cI cZ A s.heap S H locs) (hl : lv_has ls 5 [(0, .ref (ad 0)), (2, .int v2), (3, .int v3), (4, .int v4)]) : W p l e R s m args below meth c H locs 0 0 Q (F0 m 114 ls []) := by
  unfold f_M_isForeign_114 at hM
  refine lv_aload_n F.1 F.2.1 qd_M_isForeign_114 rfl (lv_at hl 0 rfl) ?_
  refine mg_M_sort F hK w qk_664 qd_M_isForeign_115 ?_
  refine lv_iload F.1 F.2.1 qd_M_isForeign_118 (lv_at hl 3 rfl) ?_
  obtain ⟨hi1, hM⟩ := qck_ok hM
  refine ml_M_sort F hK w hi1 qd_M_isForeign_120 ?_
  refine lv_iconst (v := 2) F.1 F.2.1 qd_M_isForeign_121 (by decide) ?_
  refine lv_icmp_ne (tgt := 149) F.1 F.2.1 qd_M_isForeign_122 (by decide) (fun hc2 => ?_) (fun hc2 => ?_)
  · rw [if_neg hc2] at hM
    refine lv_iinc (v := (v4 + (-1 : Int32))) (lv' := [(4, .int (v4 + (-1 : Int32))), (0, .ref (ad 0)), (2, .int v2), (3, .int v3)]) F.1 F.2.1 qd_M_isForeign_149 hl (k := 3) rfl rfl (by decide) rfl (fun ls hl => ?_)
    refine lv_goto (tgt := 34) F.1 F.2.1 qd_M_isForeign_152 (by decide) ?_
    exact hk_34 _ _ _ _ hM w (lv_sub hl [1, 2, 3, 0] rfl)
  · rw [if_pos hc2] at hM
    refine lv_aload_n F.1 F.2.1 qd_M_isForeign_125 rfl (lv_at hl 0 rfl) ?_
    refine mg_M_third F hK w qk_667 qd_M_isForeign_126 ?_
    refine lv_iload F.1 F.2.1 qd_M_isForeign_129 (lv_at hl 3 rfl) ?_
    obtain ⟨hi3, hM⟩ := qck_ok hM
    refine ml_M_third F hK w hi3 qd_M_isForeign_131 ?_
    refine lv_iconst (v := (-1)) F.1 F.2.1 qd_M_isForeign_132 (by decide) ?_
    refine lv_icmp_eq (tgt := 149) F.1 F.2.1 qd_M_isForeign_133 (by decide) (fun hc4 => ?_) (fun hc4 => ?_)
    · rw [if_pos hc4] at hM
      refine lv_iinc (v := (v4 + (-1 : Int32))) (lv' := [(4, .int (v4 + (-1 : Int32))), (0, .ref (ad 0)), (2, .int v2), (3, .int v3)]) F.1 F.2.1 qd_M_isForeign_149 hl (k := 3) rfl rfl (by decide) rfl (fun ls hl => ?_)
      refine lv_goto (tgt := 34) F.1 F.2.1 qd_M_isForeign_152 (by decide) ?_
      exact hk_34 _ _ _ _ hM w (lv_sub hl [1, 2, 3, 0] rfl)
    · rw [if_neg hc4] at hM
      refine lv_aload_n F.1 F.2.1 qd_M_isForeign_136 rfl (lv_at hl 0 rfl) ?_
      refine mg_M_isNeeded F hK w qk_676 qd_M_isForeign_137 ?_
      refine lv_aload_n F.1 F.2.1 qd_M_isForeign_140 rfl (lv_at hl 0 rfl) ?_
      refine mg_M_third F hK w qk_667 qd_M_isForeign_141 ?_
      refine lv_iload F.1 F.2.1 qd_M_isForeign_144 (lv_at hl 3 rfl) ?_
      obtain ⟨hi5, hM⟩ := qck_ok hM
      refine ml_M_third F hK w hi5 qd_M_isForeign_146 ?_
      refine lv_iconst (v := 1) F.1 F.2.1 qd_M_isForeign_147 (by decide) ?_
      obtain ⟨hi6, hM⟩ := qck_ok hM
      refine ms_M_isNeeded F hK w hi6 qd_M_isForeign_148 (fun H locs w => ?_)
      refine lv_iinc (v := (v4 + (-1 : Int32))) (lv' := [(4, .int (v4 + (-1 : Int32))), (0, .ref (ad 0)), (2, .int v2), (3, .int v3)]) F.1 F.2.1 qd_M_isForeign_149 hl (k := 3) rfl rfl (by decide) rfl (fun ls hl => ?_)
      refine lv_goto (tgt := 34) F.1 F.2.1 qd_M_isForeign_152 (by decide) ?_
      exact hk_34 _ _ _ _ hM w (lv_sub hl [1, 2, 3, 0] rfl)
set_option maxRecDepth 100000 in
set_option maxHeartbeats 4000000 in
theorem t_M_isForeign_91 {p : Program} {l : Launch} {e : Env} {R : Room} {s : State} {m : MethodId} {args : Array Value} {below : List Frame} {meth : Method} {c : Code} {Q : State → Prop} {D : va_G} {ad : Nat → Nat} {cI cZ : ClassId} {A : Nat → Prop} (F : CallFix p m c qb_M_isForeign 5 s args qtb "CaptureSubtypesModel") (hR : 1 ≤ R.frames ∧ 21 ≤ R.locals) (hK : va_K D qcl [(cI, .int), (cZ, .boolean)] s) (hN : qnests mns s) (hA : ∀ q, s.heap.size ≤ q → A q) {res : (Bool × (Nat → Nat → Int32))} (hQ : ∀ (H : Heap) (locs : List Loc) (pc : Nat) (ls : Array Slot), decode qb_M_isForeign pc = .ok (.ireturn, 1) → mW D ad cI cZ A s.heap res.2 H locs → W p l e R s m args below meth c H locs 0 0 Q (F0 m pc ls [.int (qB res.1)])) {k_34 : (Nat → Nat → Int32) → Int32 → Int32 → Int32 → Option (Bool × (Nat → Nat → Int32))} (hk_34 : ∀ (S : Nat → Nat → Int32) (v2 v3 v4 : Int32), k_34 S v2 v3 v4 = some res → ∀ {H : Heap} {locs : List Loc} {ls : Array Slot}, mW D ad cI cZ A s.heap S H locs → lv_has ls 5 [(0, .ref (ad 0)), (2, .int v2), (3, .int v3), (4, .int v4)] → W p l e R s m args below meth c H locs 0 0 Q (F0 m 34 ls [])) (S : (Nat → Nat → Int32)) (v2 v4 s1 : Int32) (hM : f_M_isForeign_91 k_34 S v2 v4 s1 = some res) {H : Heap} {locs : List Loc} {ls : Array Slot} (w : mW D ad cI cZ A s.heap S H locs) (hl : lv_has ls 5 [(0, .ref (ad 0)), (2, .int v2), (4, .int v4)]) : W p l e R s m args below meth c H locs 0 0 Q (F0 m 91 ls [.int s1]) := by
  unfold f_M_isForeign_91 at hM
  refine lv_istore_n (lv' := [(3, .int s1), (0, .ref (ad 0)), (2, .int v2), (4, .int v4)]) F.1 F.2.1 qd_M_isForeign_91 rfl hl (by decide) rfl (fun ls hl => ?_)
  refine lv_aload_n F.1 F.2.1 qd_M_isForeign_92 rfl (lv_at hl 1 rfl) ?_
  refine lv_iload F.1 F.2.1 qd_M_isForeign_93 (lv_at hl 3 rfl) ?_
  obtain ⟨q1, hq2, hM⟩ := qbd hM
  refine m_calli F hK hN hA w (c_M_hasFirst l D ad cI cZ hq2) qk_924 qk_926 qs_M_hasFirst qk_8 qk_927 qv_M_hasFirst rfl rfl ⟨Nat.le_trans (by decide) hR.1, Nat.le_trans (by decide) hR.2⟩ (ci := 6) rfl (j := 0) rfl hl.1 rfl (Nat.le_of_ble_eq_true rfl) qd_M_isForeign_95 (fun H locs w => ?_)
  refine lv_if_eq (tgt := 114) F.1 F.2.1 qd_M_isForeign_98 (by decide) (fun hc3 => ?_) (fun hc3 => ?_)
  · rw [if_pos hc3] at hM
    exact t_M_isForeign_114 F hR hK hN hA hQ hk_34 _ _ _ _ hM w (lv_sub hl [1, 2, 0, 3] rfl)
  · rw [if_neg hc3] at hM
    refine lv_aload_n F.1 F.2.1 qd_M_isForeign_101 rfl (lv_at hl 1 rfl) ?_
    refine mg_M_isNeeded F hK w qk_676 qd_M_isForeign_102 ?_
    refine lv_aload_n F.1 F.2.1 qd_M_isForeign_105 rfl (lv_at hl 1 rfl) ?_
    refine mg_M_second F hK w qk_666 qd_M_isForeign_106 ?_
    refine lv_iload F.1 F.2.1 qd_M_isForeign_109 (lv_at hl 3 rfl) ?_
    obtain ⟨hi4, hM⟩ := qck_ok hM
    refine ml_M_second F hK w hi4 qd_M_isForeign_111 ?_
    refine lv_iconst (v := 1) F.1 F.2.1 qd_M_isForeign_112 (by decide) ?_
    obtain ⟨hi5, hM⟩ := qck_ok hM
    refine ms_M_isNeeded F hK w hi5 qd_M_isForeign_113 (fun H locs w => ?_)
    exact t_M_isForeign_114 F hR hK hN hA hQ hk_34 _ _ _ _ hM w (lv_sub hl [1, 2, 0, 3] rfl)
set_option maxRecDepth 100000 in
set_option maxHeartbeats 4000000 in
theorem t_M_isForeign_90 {p : Program} {l : Launch} {e : Env} {R : Room} {s : State} {m : MethodId} {args : Array Value} {below : List Frame} {meth : Method} {c : Code} {Q : State → Prop} {D : va_G} {ad : Nat → Nat} {cI cZ : ClassId} {A : Nat → Prop} (F : CallFix p m c qb_M_isForeign 5 s args qtb "CaptureSubtypesModel") (hR : 1 ≤ R.frames ∧ 21 ≤ R.locals) (hK : va_K D qcl [(cI, .int), (cZ, .boolean)] s) (hN : qnests mns s) (hA : ∀ q, s.heap.size ≤ q → A q) {res : (Bool × (Nat → Nat → Int32))} (hQ : ∀ (H : Heap) (locs : List Loc) (pc : Nat) (ls : Array Slot), decode qb_M_isForeign pc = .ok (.ireturn, 1) → mW D ad cI cZ A s.heap res.2 H locs → W p l e R s m args below meth c H locs 0 0 Q (F0 m pc ls [.int (qB res.1)])) {k_34 : (Nat → Nat → Int32) → Int32 → Int32 → Int32 → Option (Bool × (Nat → Nat → Int32))} (hk_34 : ∀ (S : Nat → Nat → Int32) (v2 v3 v4 : Int32), k_34 S v2 v3 v4 = some res → ∀ {H : Heap} {locs : List Loc} {ls : Array Slot}, mW D ad cI cZ A s.heap S H locs → lv_has ls 5 [(0, .ref (ad 0)), (2, .int v2), (3, .int v3), (4, .int v4)] → W p l e R s m args below meth c H locs 0 0 Q (F0 m 34 ls [])) (S : (Nat → Nat → Int32)) (v2 v4 : Int32) (hM : f_M_isForeign_90 k_34 S v2 v4 = some res) {H : Heap} {locs : List Loc} {ls : Array Slot} (w : mW D ad cI cZ A s.heap S H locs) (hl : lv_has ls 5 [(0, .ref (ad 0)), (2, .int v2), (4, .int v4)]) : W p l e R s m args below meth c H locs 0 0 Q (F0 m 90 ls []) := by
  unfold f_M_isForeign_90 at hM
  refine lv_iconst (v := 0) F.1 F.2.1 qd_M_isForeign_90 (by decide) ?_
  exact t_M_isForeign_91 F hR hK hN hA hQ hk_34 _ _ _ _ hM w (lv_sub hl [0, 1, 2] rfl)
set_option maxRecDepth 100000 in
set_option maxHeartbeats 4000000 in
theorem t_M_isForeign_86 {p : Program} {l : Launch} {e : Env} {R : Room} {s : State} {m : MethodId} {args : Array Value} {below : List Frame} {meth : Method} {c : Code} {Q : State → Prop} {D : va_G} {ad : Nat → Nat} {cI cZ : ClassId} {A : Nat → Prop} (F : CallFix p m c qb_M_isForeign 5 s args qtb "CaptureSubtypesModel") (hR : 1 ≤ R.frames ∧ 21 ≤ R.locals) (hK : va_K D qcl [(cI, .int), (cZ, .boolean)] s) (hN : qnests mns s) (hA : ∀ q, s.heap.size ≤ q → A q) {res : (Bool × (Nat → Nat → Int32))} (hQ : ∀ (H : Heap) (locs : List Loc) (pc : Nat) (ls : Array Slot), decode qb_M_isForeign pc = .ok (.ireturn, 1) → mW D ad cI cZ A s.heap res.2 H locs → W p l e R s m args below meth c H locs 0 0 Q (F0 m pc ls [.int (qB res.1)])) {k_34 : (Nat → Nat → Int32) → Int32 → Int32 → Int32 → Option (Bool × (Nat → Nat → Int32))} (hk_34 : ∀ (S : Nat → Nat → Int32) (v2 v3 v4 : Int32), k_34 S v2 v3 v4 = some res → ∀ {H : Heap} {locs : List Loc} {ls : Array Slot}, mW D ad cI cZ A s.heap S H locs → lv_has ls 5 [(0, .ref (ad 0)), (2, .int v2), (3, .int v3), (4, .int v4)] → W p l e R s m args below meth c H locs 0 0 Q (F0 m 34 ls [])) (S : (Nat → Nat → Int32)) (v2 v4 : Int32) (hM : f_M_isForeign_86 k_34 S v2 v4 = some res) {H : Heap} {locs : List Loc} {ls : Array Slot} (w : mW D ad cI cZ A s.heap S H locs) (hl : lv_has ls 5 [(0, .ref (ad 0)), (2, .int v2), (4, .int v4)]) : W p l e R s m args below meth c H locs 0 0 Q (F0 m 86 ls []) := by
  unfold f_M_isForeign_86 at hM
  refine lv_iconst (v := 1) F.1 F.2.1 qd_M_isForeign_86 (by decide) ?_
  refine lv_goto (tgt := 91) F.1 F.2.1 qd_M_isForeign_87 (by decide) ?_
  exact t_M_isForeign_91 F hR hK hN hA hQ hk_34 _ _ _ _ hM w (lv_sub hl [0, 1, 2] rfl)
set_option maxRecDepth 100000 in
set_option maxHeartbeats 4000000 in
theorem tb_M_isForeign_34 {p : Program} {l : Launch} {e : Env} {R : Room} {s : State} {m : MethodId} {args : Array Value} {below : List Frame} {meth : Method} {c : Code} {Q : State → Prop} {D : va_G} {ad : Nat → Nat} {cI cZ : ClassId} {A : Nat → Prop} (F : CallFix p m c qb_M_isForeign 5 s args qtb "CaptureSubtypesModel") (hR : 1 ≤ R.frames ∧ 21 ≤ R.locals) (hK : va_K D qcl [(cI, .int), (cZ, .boolean)] s) (hN : qnests mns s) (hA : ∀ q, s.heap.size ≤ q → A q) {res : (Bool × (Nat → Nat → Int32))} (hQ : ∀ (H : Heap) (locs : List Loc) (pc : Nat) (ls : Array Slot), decode qb_M_isForeign pc = .ok (.ireturn, 1) → mW D ad cI cZ A s.heap res.2 H locs → W p l e R s m args below meth c H locs 0 0 Q (F0 m pc ls [.int (qB res.1)])) {k_34 : (Nat → Nat → Int32) → Int32 → Int32 → Int32 → Option (Bool × (Nat → Nat → Int32))} (hk_34 : ∀ (S : Nat → Nat → Int32) (v2 v3 v4 : Int32), k_34 S v2 v3 v4 = some res → ∀ {H : Heap} {locs : List Loc} {ls : Array Slot}, mW D ad cI cZ A s.heap S H locs → lv_has ls 5 [(0, .ref (ad 0)), (2, .int v2), (3, .int v3), (4, .int v4)] → W p l e R s m args below meth c H locs 0 0 Q (F0 m 34 ls [])) (S : (Nat → Nat → Int32)) (v2 v3 v4 : Int32) (hM : fb_M_isForeign_34 k_34 S v2 v3 v4 = some res) {H : Heap} {locs : List Loc} {ls : Array Slot} (w : mW D ad cI cZ A s.heap S H locs) (hl : lv_has ls 5 [(0, .ref (ad 0)), (2, .int v2), (3, .int v3), (4, .int v4)]) : W p l e R s m args below meth c H locs 0 0 Q (F0 m 34 ls []) := by
  unfold fb_M_isForeign_34 at hM
  refine lv_iload F.1 F.2.1 qd_M_isForeign_34 (lv_at hl 3 rfl) ?_
  refine lv_if_lt (tgt := 155) F.1 F.2.1 qd_M_isForeign_36 (by decide) (fun hc1 => ?_) (fun hc1 => ?_)
  · rw [if_pos hc1] at hM
    refine lv_iload_n F.1 F.2.1 qd_M_isForeign_155 rfl (lv_at hl 2 rfl) ?_
    obtain ⟨h01, hM⟩ := qck_ok hM
    cases hM
    have hz := hQ _ _ _ ls qd_M_isForeign_156 w
    rw [q01_B h01] at hz
    exact hz
  · rw [if_neg hc1] at hM
    refine lv_aload_n F.1 F.2.1 qd_M_isForeign_39 rfl (lv_at hl 0 rfl) ?_
    refine mg_M_isNeeded F hK w qk_676 qd_M_isForeign_40 ?_
    refine lv_iload F.1 F.2.1 qd_M_isForeign_43 (lv_at hl 3 rfl) ?_
    obtain ⟨hi2, hM⟩ := qck_ok hM
    refine ml_M_isNeeded F hK w hi2 qd_M_isForeign_45 ?_
    refine lv_if_eq (tgt := 149) F.1 F.2.1 qd_M_isForeign_46 (by decide) (fun hc3 => ?_) (fun hc3 => ?_)
    · rw [if_pos hc3] at hM
      refine lv_iinc (v := (v4 + (-1 : Int32))) (lv' := [(4, .int (v4 + (-1 : Int32))), (0, .ref (ad 0)), (2, .int v2), (3, .int v3)]) F.1 F.2.1 qd_M_isForeign_149 hl (k := 3) rfl rfl (by decide) rfl (fun ls hl => ?_)
      refine lv_goto (tgt := 34) F.1 F.2.1 qd_M_isForeign_152 (by decide) ?_
      exact hk_34 _ _ _ _ hM w (lv_sub hl [1, 2, 3, 0] rfl)
    · rw [if_neg hc3] at hM
      refine lv_iload_n F.1 F.2.1 qd_M_isForeign_49 rfl (lv_at hl 2 rfl) ?_
      refine lv_if_ne (tgt := 86) F.1 F.2.1 qd_M_isForeign_50 (by decide) (fun hc4 => ?_) (fun hc4 => ?_)
      · rw [if_neg hc4] at hM
        exact t_M_isForeign_86 F hR hK hN hA hQ hk_34 _ _ _ hM w (lv_sub hl [0, 1, 3] rfl)
      · rw [if_pos hc4] at hM
        refine lv_aload_n F.1 F.2.1 qd_M_isForeign_53 rfl (lv_at hl 0 rfl) ?_
        refine mg_M_sort F hK w qk_664 qd_M_isForeign_54 ?_
        refine lv_iload F.1 F.2.1 qd_M_isForeign_57 (lv_at hl 3 rfl) ?_
        obtain ⟨hi5, hM⟩ := qck_ok hM
        refine ml_M_sort F hK w hi5 qd_M_isForeign_59 ?_
        refine lv_iconst (v := 5) F.1 F.2.1 qd_M_isForeign_60 (by decide) ?_
        refine lv_icmp_eq (tgt := 86) F.1 F.2.1 qd_M_isForeign_61 (by decide) (fun hc6 => ?_) (fun hc6 => ?_)
        · rw [if_pos hc6] at hM
          exact t_M_isForeign_86 F hR hK hN hA hQ hk_34 _ _ _ hM w (lv_sub hl [0, 1, 3] rfl)
        · rw [if_neg hc6] at hM
          refine lv_aload_n F.1 F.2.1 qd_M_isForeign_64 rfl (lv_at hl 0 rfl) ?_
          refine mg_M_sort F hK w qk_664 qd_M_isForeign_65 ?_
          refine lv_iload F.1 F.2.1 qd_M_isForeign_68 (lv_at hl 3 rfl) ?_
          obtain ⟨hi7, hM⟩ := qck_ok hM
          refine ml_M_sort F hK w hi7 qd_M_isForeign_70 ?_
          refine lv_iconst (v := 3) F.1 F.2.1 qd_M_isForeign_71 (by decide) ?_
          refine lv_icmp_ne (tgt := 90) F.1 F.2.1 qd_M_isForeign_72 (by decide) (fun hc8 => ?_) (fun hc8 => ?_)
          · rw [if_neg hc8] at hM
            exact t_M_isForeign_90 F hR hK hN hA hQ hk_34 _ _ _ hM w (lv_sub hl [0, 1, 3] rfl)
          · rw [if_pos hc8] at hM
            refine lv_aload_n F.1 F.2.1 qd_M_isForeign_75 rfl (lv_at hl 0 rfl) ?_
            refine mg_M_first F hK w qk_665 qd_M_isForeign_76 ?_
            refine lv_iload F.1 F.2.1 qd_M_isForeign_79 (lv_at hl 3 rfl) ?_
            obtain ⟨hi9, hM⟩ := qck_ok hM
            refine ml_M_first F hK w hi9 qd_M_isForeign_81 ?_
            refine lv_iload_n F.1 F.2.1 qd_M_isForeign_82 rfl (lv_at hl 1 rfl) ?_
            refine lv_icmp_eq (tgt := 90) F.1 F.2.1 qd_M_isForeign_83 (by decide) (fun hc10 => ?_) (fun hc10 => ?_)
            · rw [if_pos hc10] at hM
              exact t_M_isForeign_90 F hR hK hN hA hQ hk_34 _ _ _ hM w (lv_sub hl [0, 1, 3] rfl)
            · rw [if_neg hc10] at hM
              exact t_M_isForeign_86 F hR hK hN hA hQ hk_34 _ _ _ hM w (lv_sub hl [0, 1, 3] rfl)
set_option maxRecDepth 100000 in
set_option maxHeartbeats 4000000 in
theorem t_M_isForeign_34 {p : Program} {l : Launch} {e : Env} {R : Room} {s : State} {m : MethodId} {args : Array Value} {below : List Frame} {meth : Method} {c : Code} {Q : State → Prop} {D : va_G} {ad : Nat → Nat} {cI cZ : ClassId} {A : Nat → Prop} (F : CallFix p m c qb_M_isForeign 5 s args qtb "CaptureSubtypesModel") (hR : 1 ≤ R.frames ∧ 21 ≤ R.locals) (hK : va_K D qcl [(cI, .int), (cZ, .boolean)] s) (hN : qnests mns s) (hA : ∀ q, s.heap.size ≤ q → A q) {res : (Bool × (Nat → Nat → Int32))} (hQ : ∀ (H : Heap) (locs : List Loc) (pc : Nat) (ls : Array Slot), decode qb_M_isForeign pc = .ok (.ireturn, 1) → mW D ad cI cZ A s.heap res.2 H locs → W p l e R s m args below meth c H locs 0 0 Q (F0 m pc ls [.int (qB res.1)])) : ∀ (n : Nat) (S : (Nat → Nat → Int32)) (v2 v3 v4 : Int32) (hM : f_M_isForeign_34 n S v2 v3 v4 = some res) {H : Heap} {locs : List Loc} {ls : Array Slot} (w : mW D ad cI cZ A s.heap S H locs) (hl : lv_has ls 5 [(0, .ref (ad 0)), (2, .int v2), (3, .int v3), (4, .int v4)]), W p l e R s m args below meth c H locs 0 0 Q (F0 m 34 ls []) := by
  intro n
  induction n with
  | zero => intro S v2 v3 v4 hM; exact absurd hM (by simp [f_M_isForeign_34])
  | succ n ih => intro S v2 v3 v4 hM H locs ls w hl; exact tb_M_isForeign_34 F hR hK hN hA hQ (k_34 := f_M_isForeign_34 n) (fun S v2 v3 v4 hM H locs ls w hl => ih S v2 v3 v4 hM w hl) S v2 v3 v4 hM w hl
set_option maxRecDepth 100000 in
set_option maxHeartbeats 4000000 in
theorem t_M_isForeign_22 {p : Program} {l : Launch} {e : Env} {R : Room} {s : State} {m : MethodId} {args : Array Value} {below : List Frame} {meth : Method} {c : Code} {Q : State → Prop} {D : va_G} {ad : Nat → Nat} {cI cZ : ClassId} {A : Nat → Prop} (F : CallFix p m c qb_M_isForeign 5 s args qtb "CaptureSubtypesModel") (hR : 1 ≤ R.frames ∧ 21 ≤ R.locals) (hK : va_K D qcl [(cI, .int), (cZ, .boolean)] s) (hN : qnests mns s) (hA : ∀ q, s.heap.size ≤ q → A q) {res : (Bool × (Nat → Nat → Int32))} (hQ : ∀ (H : Heap) (locs : List Loc) (pc : Nat) (ls : Array Slot), decode qb_M_isForeign pc = .ok (.ireturn, 1) → mW D ad cI cZ A s.heap res.2 H locs → W p l e R s m args below meth c H locs 0 0 Q (F0 m pc ls [.int (qB res.1)])) {k_2 : (Nat → Nat → Int32) → Int32 → Int32 → Int32 → Option (Bool × (Nat → Nat → Int32))} (hk_2 : ∀ (S : Nat → Nat → Int32) (v1 v2 v3 : Int32), k_2 S v1 v2 v3 = some res → ∀ {H : Heap} {locs : List Loc} {ls : Array Slot}, mW D ad cI cZ A s.heap S H locs → lv_has ls 5 [(0, .ref (ad 0)), (1, .int v1), (2, .int v2), (3, .int v3)] → W p l e R s m args below meth c H locs 0 0 Q (F0 m 2 ls [])) (S : (Nat → Nat → Int32)) (v1 v2 v3 s1 s2 : Int32) (hM : f_M_isForeign_22 k_2 S v1 v2 v3 s1 s2 = some res) {H : Heap} {locs : List Loc} {ls : Array Slot} (w : mW D ad cI cZ A s.heap S H locs) (hl : lv_has ls 5 [(0, .ref (ad 0)), (1, .int v1), (2, .int v2), (3, .int v3)]) : W p l e R s m args below meth c H locs 0 0 Q (F0 m 22 ls [.int s2, .int s1, .ref (ad 18)]) := by
  unfold f_M_isForeign_22 at hM
  obtain ⟨hi1, hM⟩ := qck_ok hM
  refine ms_M_isNeeded F hK w hi1 qd_M_isForeign_22 (fun H locs w => ?_)
  refine lv_iinc (v := (v3 + (1 : Int32))) (lv' := [(3, .int (v3 + (1 : Int32))), (0, .ref (ad 0)), (1, .int v1), (2, .int v2)]) F.1 F.2.1 qd_M_isForeign_23 hl (k := 3) rfl rfl (by decide) rfl (fun ls hl => ?_)
  refine lv_goto (tgt := 2) F.1 F.2.1 qd_M_isForeign_26 (by decide) ?_
  exact hk_2 _ _ _ _ hM w (lv_sub hl [1, 2, 3, 0] rfl)
set_option maxRecDepth 100000 in
set_option maxHeartbeats 4000000 in
theorem tb_M_isForeign_2 {p : Program} {l : Launch} {e : Env} {R : Room} {s : State} {m : MethodId} {args : Array Value} {below : List Frame} {meth : Method} {c : Code} {Q : State → Prop} {D : va_G} {ad : Nat → Nat} {cI cZ : ClassId} {A : Nat → Prop} (F : CallFix p m c qb_M_isForeign 5 s args qtb "CaptureSubtypesModel") (hR : 1 ≤ R.frames ∧ 21 ≤ R.locals) (hK : va_K D qcl [(cI, .int), (cZ, .boolean)] s) (hN : qnests mns s) (hA : ∀ q, s.heap.size ≤ q → A q) {res : (Bool × (Nat → Nat → Int32))} (hQ : ∀ (H : Heap) (locs : List Loc) (pc : Nat) (ls : Array Slot), decode qb_M_isForeign pc = .ok (.ireturn, 1) → mW D ad cI cZ A s.heap res.2 H locs → W p l e R s m args below meth c H locs 0 0 Q (F0 m pc ls [.int (qB res.1)])) {k_2 : (Nat → Nat → Int32) → Int32 → Int32 → Int32 → Option (Bool × (Nat → Nat → Int32))} (hk_2 : ∀ (S : Nat → Nat → Int32) (v1 v2 v3 : Int32), k_2 S v1 v2 v3 = some res → ∀ {H : Heap} {locs : List Loc} {ls : Array Slot}, mW D ad cI cZ A s.heap S H locs → lv_has ls 5 [(0, .ref (ad 0)), (1, .int v1), (2, .int v2), (3, .int v3)] → W p l e R s m args below meth c H locs 0 0 Q (F0 m 2 ls [])) (S : (Nat → Nat → Int32)) (v1 v2 v3 : Int32) (hM : fb_M_isForeign_2 k_2 S v1 v2 v3 = some res) {H : Heap} {locs : List Loc} {ls : Array Slot} (w : mW D ad cI cZ A s.heap S H locs) (hl : lv_has ls 5 [(0, .ref (ad 0)), (1, .int v1), (2, .int v2), (3, .int v3)]) : W p l e R s m args below meth c H locs 0 0 Q (F0 m 2 ls []) := by
  unfold fb_M_isForeign_2 at hM
  refine lv_iload_n F.1 F.2.1 qd_M_isForeign_2 rfl (lv_at hl 3 rfl) ?_
  refine lv_iload_n F.1 F.2.1 qd_M_isForeign_3 rfl (lv_at hl 1 rfl) ?_
  refine lv_icmp_gt (tgt := 29) F.1 F.2.1 qd_M_isForeign_4 (by decide) (fun hc1 => ?_) (fun hc1 => ?_)
  · rw [if_pos hc1] at hM
    refine lv_iconst (v := 0) F.1 F.2.1 qd_M_isForeign_29 (by decide) ?_
    refine lv_istore_n (lv' := [(3, .int (0 : Int32)), (0, .ref (ad 0)), (1, .int v1), (2, .int v2)]) F.1 F.2.1 qd_M_isForeign_30 rfl hl (by decide) rfl (fun ls hl => ?_)
    refine lv_iload_n F.1 F.2.1 qd_M_isForeign_31 rfl (lv_at hl 2 rfl) ?_
    refine lv_istore (lv' := [(4, .int v1), (3, .int (0 : Int32)), (0, .ref (ad 0)), (1, .int v1), (2, .int v2)]) F.1 F.2.1 qd_M_isForeign_32 hl (by decide) rfl (fun ls hl => ?_)
    exact t_M_isForeign_34 F hR hK hN hA hQ  qfu _ _ _ _ hM w (lv_sub hl [2, 4, 1, 0] rfl)
  · rw [if_neg hc1] at hM
    refine lv_aload_n F.1 F.2.1 qd_M_isForeign_7 rfl (lv_at hl 0 rfl) ?_
    refine mg_M_isNeeded F hK w qk_676 qd_M_isForeign_8 ?_
    refine lv_iload_n F.1 F.2.1 qd_M_isForeign_11 rfl (lv_at hl 3 rfl) ?_
    refine lv_iload_n F.1 F.2.1 qd_M_isForeign_12 rfl (lv_at hl 3 rfl) ?_
    refine lv_iload_n F.1 F.2.1 qd_M_isForeign_13 rfl (lv_at hl 1 rfl) ?_
    refine lv_icmp_ne (tgt := 21) F.1 F.2.1 qd_M_isForeign_14 (by decide) (fun hc2 => ?_) (fun hc2 => ?_)
    · rw [if_neg hc2] at hM
      refine lv_iconst (v := 0) F.1 F.2.1 qd_M_isForeign_21 (by decide) ?_
      exact t_M_isForeign_22 F hR hK hN hA hQ hk_2 _ _ _ _ _ _ hM w (lv_sub hl [0, 1, 2, 3] rfl)
    · rw [if_pos hc2] at hM
      refine lv_iconst (v := 1) F.1 F.2.1 qd_M_isForeign_17 (by decide) ?_
      refine lv_goto (tgt := 22) F.1 F.2.1 qd_M_isForeign_18 (by decide) ?_
      exact t_M_isForeign_22 F hR hK hN hA hQ hk_2 _ _ _ _ _ _ hM w (lv_sub hl [0, 1, 2, 3] rfl)
set_option maxRecDepth 100000 in
set_option maxHeartbeats 4000000 in
theorem t_M_isForeign_2 {p : Program} {l : Launch} {e : Env} {R : Room} {s : State} {m : MethodId} {args : Array Value} {below : List Frame} {meth : Method} {c : Code} {Q : State → Prop} {D : va_G} {ad : Nat → Nat} {cI cZ : ClassId} {A : Nat → Prop} (F : CallFix p m c qb_M_isForeign 5 s args qtb "CaptureSubtypesModel") (hR : 1 ≤ R.frames ∧ 21 ≤ R.locals) (hK : va_K D qcl [(cI, .int), (cZ, .boolean)] s) (hN : qnests mns s) (hA : ∀ q, s.heap.size ≤ q → A q) {res : (Bool × (Nat → Nat → Int32))} (hQ : ∀ (H : Heap) (locs : List Loc) (pc : Nat) (ls : Array Slot), decode qb_M_isForeign pc = .ok (.ireturn, 1) → mW D ad cI cZ A s.heap res.2 H locs → W p l e R s m args below meth c H locs 0 0 Q (F0 m pc ls [.int (qB res.1)])) : ∀ (n : Nat) (S : (Nat → Nat → Int32)) (v1 v2 v3 : Int32) (hM : f_M_isForeign_2 n S v1 v2 v3 = some res) {H : Heap} {locs : List Loc} {ls : Array Slot} (w : mW D ad cI cZ A s.heap S H locs) (hl : lv_has ls 5 [(0, .ref (ad 0)), (1, .int v1), (2, .int v2), (3, .int v3)]), W p l e R s m args below meth c H locs 0 0 Q (F0 m 2 ls []) := by
  intro n
  induction n with
  | zero => intro S v1 v2 v3 hM; exact absurd hM (by simp [f_M_isForeign_2])
  | succ n ih => intro S v1 v2 v3 hM H locs ls w hl; exact tb_M_isForeign_2 F hR hK hN hA hQ (k_2 := f_M_isForeign_2 n) (fun S v1 v2 v3 hM H locs ls w hl => ih S v1 v2 v3 hM w hl) S v1 v2 v3 hM w hl
set_option maxRecDepth 100000 in
set_option maxHeartbeats 4000000 in
theorem t_M_isForeign {p : Program} {l : Launch} {e : Env} {R : Room} {s : State} {m : MethodId} {args : Array Value} {below : List Frame} {meth : Method} {c : Code} {Q : State → Prop} {D : va_G} {ad : Nat → Nat} {cI cZ : ClassId} {A : Nat → Prop} (F : CallFix p m c qb_M_isForeign 5 s args qtb "CaptureSubtypesModel") (hR : 1 ≤ R.frames ∧ 21 ≤ R.locals) (hK : va_K D qcl [(cI, .int), (cZ, .boolean)] s) (hN : qnests mns s) (hA : ∀ q, s.heap.size ≤ q → A q) {res : (Bool × (Nat → Nat → Int32))} (hQ : ∀ (H : Heap) (locs : List Loc) (pc : Nat) (ls : Array Slot), decode qb_M_isForeign pc = .ok (.ireturn, 1) → mW D ad cI cZ A s.heap res.2 H locs → W p l e R s m args below meth c H locs 0 0 Q (F0 m pc ls [.int (qB res.1)])) (S : (Nat → Nat → Int32)) (a1 a2 : Int32) (hM : f_M_isForeign S a1 a2 = some res) {H : Heap} {locs : List Loc} {ls : Array Slot} (w : mW D ad cI cZ A s.heap S H locs) (hl : lv_has ls 5 [(0, .ref (ad 0)), (1, .int a1), (2, .int a2)]) : W p l e R s m args below meth c H locs 0 0 Q (F0 m 0 ls []) := by
  unfold f_M_isForeign at hM
  refine lv_iconst (v := 0) F.1 F.2.1 qd_M_isForeign_0 (by decide) ?_
  refine lv_istore_n (lv' := [(3, .int (0 : Int32)), (0, .ref (ad 0)), (1, .int a1), (2, .int a2)]) F.1 F.2.1 qd_M_isForeign_1 rfl hl (by decide) rfl (fun ls hl => ?_)
  exact t_M_isForeign_2 F hR hK hN hA hQ  qfu _ _ _ _ hM w (lv_sub hl [1, 2, 3, 0] rfl)
set_option maxRecDepth 100000 in
theorem c_M_isForeign (l : Launch) (D : va_G) (ad : Nat → Nat) (cI cZ : ClassId) {S : (Nat → Nat → Int32)} {a1 a2 : Int32} {res : (Bool × (Nat → Nat → Int32))} (hM : f_M_isForeign S a1 a2 = some res) : mMi l qy_M_isForeign qb_M_isForeign 5 (some .boolean) { frames := 1, cells := 0, slots := 0, locals := 21 } D ad cI cZ S [.ref (ad 0), .int a1, .int a2] (qB res.1) res.2 := m_ofz (by decide +kernel) (Nat.le_of_ble_eq_true rfl) (fun p e s m args below meth c Q A ls F hK hN hA w hl hQ => t_M_isForeign F ⟨Nat.le_refl _, Nat.le_refl _⟩ hK hN hA hQ S a1 a2 hM w hl)
-- M_areOne
def f_M_areOne_295 (k_10 : (Nat → Nat → Int32) → Int32 → Option (Bool × (Nat → Nat → Int32))) (k_130 : (Nat → Nat → Int32) → Int32 → Int32 → Option (Bool × (Nat → Nat → Int32))) (k_152 : (Nat → Nat → Int32) → Int32 → Int32 → Int32 → Int32 → Option (Bool × (Nat → Nat → Int32))) (S : (Nat → Nat → Int32)) (v1 v4 v5 v6 v7 : Int32) : Option (Bool × (Nat → Nat → Int32)) := qck (qin (((12 : Int32) * v1) + v6) 144) (k_152 (qwr S 31 (((12 : Int32) * v1) + v6).toNatClampNeg v7) v1 v4 v5 (v6 + (1 : Int32)))
def f_M_areOne_258 (k_10 : (Nat → Nat → Int32) → Int32 → Option (Bool × (Nat → Nat → Int32))) (k_130 : (Nat → Nat → Int32) → Int32 → Int32 → Option (Bool × (Nat → Nat → Int32))) (k_152 : (Nat → Nat → Int32) → Int32 → Int32 → Int32 → Int32 → Option (Bool × (Nat → Nat → Int32))) (S : (Nat → Nat → Int32)) (v1 v4 v5 v6 s1 : Int32) : Option (Bool × (Nat → Nat → Int32)) := qck (qin (((12 : Int32) * v1) + v6) 144) (if (S 31 (((12 : Int32) * v1) + v6).toNatClampNeg) = (-1 : Int32) then (f_M_areOne_295 k_10 k_130 k_152 S v1 v4 v5 v6 s1) else (qck (qin (((12 : Int32) * v1) + v6) 144) (if (S 31 (((12 : Int32) * v1) + v6).toNatClampNeg) = s1 then (f_M_areOne_295 k_10 k_130 k_152 S v1 v4 v5 v6 s1) else (some (false, S)))))
def fb_M_areOne_152 (k_10 : (Nat → Nat → Int32) → Int32 → Option (Bool × (Nat → Nat → Int32))) (k_130 : (Nat → Nat → Int32) → Int32 → Int32 → Option (Bool × (Nat → Nat → Int32))) (k_152 : (Nat → Nat → Int32) → Int32 → Int32 → Int32 → Int32 → Option (Bool × (Nat → Nat → Int32))) (S : (Nat → Nat → Int32)) (v1 v4 v5 v6 : Int32) : Option (Bool × (Nat → Nat → Int32)) := if (S 0 0) ≤ v6 then (k_130 S v1 (v4 + (1 : Int32))) else (if v5 = (-1 : Int32) then (k_130 S v1 (v4 + (1 : Int32))) else (qck (qin v5 9000) (qck (qin (((12 : Int32) * (S 10 v5.toNatClampNeg)) + v6) 144) (if (S 31 (((12 : Int32) * (S 10 v5.toNatClampNeg)) + v6).toNatClampNeg) = (-1 : Int32) then (k_152 S v1 v4 v5 (v6 + (1 : Int32))) else (qck (qin v5 9000) (if (S 9 v5.toNatClampNeg) = (1 : Int32) then ((f_M_asClass S v5 v6).bind (fun q15 => f_M_areOne_258 k_10 k_130 k_152 q15.2 v1 v4 v5 v6 q15.1)) else (qck (qin v5 9000) (if (S 9 v5.toNatClampNeg) = (2 : Int32) then (qck (qin v5 9000) (qck (qin v5 9000) (qck (qin v5 9000) ((f_M_replace S (S 31 (((12 : Int32) * (S 10 v5.toNatClampNeg)) + v6).toNatClampNeg) (S 10 v5.toNatClampNeg) (S 11 v5.toNatClampNeg) (S 12 v5.toNatClampNeg)).bind (fun q13 => f_M_areOne_258 k_10 k_130 k_152 q13.2 v1 v4 v5 v6 q13.1))))) else (f_M_areOne_258 k_10 k_130 k_152 S v1 v4 v5 v6 (S 31 (((12 : Int32) * (S 10 v5.toNatClampNeg)) + v6).toNatClampNeg))))))))))
def f_M_areOne_152 (k_10 : (Nat → Nat → Int32) → Int32 → Option (Bool × (Nat → Nat → Int32))) (k_130 : (Nat → Nat → Int32) → Int32 → Int32 → Option (Bool × (Nat → Nat → Int32))) : Nat → (Nat → Nat → Int32) → Int32 → Int32 → Int32 → Int32 → Option (Bool × (Nat → Nat → Int32))
  | 0 => fun _ _ _ _ _ => none
  | n + 1 => fun S v1 v4 v5 v6 => fb_M_areOne_152 k_10 k_130 (f_M_areOne_152 k_10 k_130 n) S v1 v4 v5 v6
def fb_M_areOne_130 (k_10 : (Nat → Nat → Int32) → Int32 → Option (Bool × (Nat → Nat → Int32))) (k_130 : (Nat → Nat → Int32) → Int32 → Int32 → Option (Bool × (Nat → Nat → Int32))) (S : (Nat → Nat → Int32)) (v1 v4 : Int32) : Option (Bool × (Nat → Nat → Int32)) := (f_M_superCount S v1).bind (fun q1 => if q1 ≤ v4 then (k_10 S (v1 + (1 : Int32))) else ((f_M_superOf S v1 v4).bind (fun q4 => f_M_areOne_152 k_10 k_130 qfu S v1 v4 q4 (1 : Int32))))
def f_M_areOne_130 (k_10 : (Nat → Nat → Int32) → Int32 → Option (Bool × (Nat → Nat → Int32))) : Nat → (Nat → Nat → Int32) → Int32 → Int32 → Option (Bool × (Nat → Nat → Int32))
  | 0 => fun _ _ _ => none
  | n + 1 => fun S v1 v4 => fb_M_areOne_130 k_10 (f_M_areOne_130 k_10 n) S v1 v4
def f_M_areOne_126 (k_10 : (Nat → Nat → Int32) → Int32 → Option (Bool × (Nat → Nat → Int32))) (S : (Nat → Nat → Int32)) (v1 s1 s2 : Int32) : Option (Bool × (Nat → Nat → Int32)) := qck (qin s1 144) (f_M_areOne_130 k_10 qfu (qwr S 31 s1.toNatClampNeg s2) v1 (0 : Int32))
def f_M_areOne_90 (k_10 : (Nat → Nat → Int32) → Int32 → Option (Bool × (Nat → Nat → Int32))) (S : (Nat → Nat → Int32)) (v1 v2 s1 : Int32) : Option (Bool × (Nat → Nat → Int32)) := qck (qin v1 12) (if (S 2 v1.toNatClampNeg) = 0 then ((f_M_bare S v1).bind (fun q5 => f_M_areOne_126 k_10 q5.2 v1 (((12 : Int32) * v1) + v1) q5.1)) else ((f_M_come S (2 : Int32) v1 v2 s1).bind (fun q3 => f_M_areOne_126 k_10 q3.2 v1 (((12 : Int32) * v1) + v1) q3.1)))
def f_M_areOne_67 (k_10 : (Nat → Nat → Int32) → Int32 → Option (Bool × (Nat → Nat → Int32))) (S : (Nat → Nat → Int32)) (v1 s1 : Int32) : Option (Bool × (Nat → Nat → Int32)) := qck (qin v1 12) (if (S 2 v1.toNatClampNeg) ≤ (1 : Int32) then (f_M_areOne_90 k_10 S v1 s1 (-1 : Int32)) else ((f_M_come S (3 : Int32) v1 (1 : Int32) (-1 : Int32)).bind (fun q3 => f_M_areOne_90 k_10 q3.2 v1 s1 q3.1)))
def fb_M_areOne_20 (k_10 : (Nat → Nat → Int32) → Int32 → Option (Bool × (Nat → Nat → Int32))) (k_20 : (Nat → Nat → Int32) → Int32 → Int32 → Option (Bool × (Nat → Nat → Int32))) (S : (Nat → Nat → Int32)) (v1 v2 : Int32) : Option (Bool × (Nat → Nat → Int32)) := if (S 0 0) ≤ v2 then (qck (qin v1 12) (if (S 2 v1.toNatClampNeg) ≤ 0 then (f_M_areOne_67 k_10 S v1 (-1 : Int32)) else ((f_M_come S (3 : Int32) v1 (0 : Int32) (-1 : Int32)).bind (fun q4 => f_M_areOne_67 k_10 q4.2 v1 q4.1)))) else (qck (qin (((12 : Int32) * v1) + v2) 144) (k_20 (qwr S 31 (((12 : Int32) * v1) + v2).toNatClampNeg (-1 : Int32)) v1 (v2 + (1 : Int32))))
def f_M_areOne_20 (k_10 : (Nat → Nat → Int32) → Int32 → Option (Bool × (Nat → Nat → Int32))) : Nat → (Nat → Nat → Int32) → Int32 → Int32 → Option (Bool × (Nat → Nat → Int32))
  | 0 => fun _ _ _ => none
  | n + 1 => fun S v1 v2 => fb_M_areOne_20 k_10 (f_M_areOne_20 k_10 n) S v1 v2
def fb_M_areOne_10 (k_10 : (Nat → Nat → Int32) → Int32 → Option (Bool × (Nat → Nat → Int32))) (S : (Nat → Nat → Int32)) (v1 : Int32) : Option (Bool × (Nat → Nat → Int32)) := if (S 0 0) ≤ v1 then (some (true, S)) else (f_M_areOne_20 k_10 qfu S v1 (0 : Int32))
def f_M_areOne_10 : Nat → (Nat → Nat → Int32) → Int32 → Option (Bool × (Nat → Nat → Int32))
  | 0 => fun _ _ => none
  | n + 1 => fun S v1 => fb_M_areOne_10 (f_M_areOne_10 n) S v1
def f_M_areOne (S : (Nat → Nat → Int32)) : Option (Bool × (Nat → Nat → Int32)) := (f_M_order S).bind (fun q1 => (f_M_fresh q1).bind (fun q3 => f_M_areOne_10  qfu q3 (0 : Int32)))
set_option maxRecDepth 100000 in
set_option maxHeartbeats 4000000 in
theorem t_M_areOne_295 {p : Program} {l : Launch} {e : Env} {R : Room} {s : State} {m : MethodId} {args : Array Value} {below : List Frame} {meth : Method} {c : Code} {Q : State → Prop} {D : va_G} {ad : Nat → Nat} {cI cZ : ClassId} {A : Nat → Prop} (F : CallFix p m c qb_M_areOne 8 s args qtb "CaptureSubtypesModel") (hR : 6 ≤ R.frames ∧ 152 ≤ R.locals) (hK : va_K D qcl [(cI, .int), (cZ, .boolean)] s) (hN : qnests mns s) (hA : ∀ q, s.heap.size ≤ q → A q) {res : (Bool × (Nat → Nat → Int32))} (hQ : ∀ (H : Heap) (locs : List Loc) (pc : Nat) (ls : Array Slot), decode qb_M_areOne pc = .ok (.ireturn, 1) → mW D ad cI cZ A s.heap res.2 H locs → W p l e R s m args below meth c H locs 0 0 Q (F0 m pc ls [.int (qB res.1)])) {k_10 : (Nat → Nat → Int32) → Int32 → Option (Bool × (Nat → Nat → Int32))} {k_130 : (Nat → Nat → Int32) → Int32 → Int32 → Option (Bool × (Nat → Nat → Int32))} {k_152 : (Nat → Nat → Int32) → Int32 → Int32 → Int32 → Int32 → Option (Bool × (Nat → Nat → Int32))} (hk_10 : ∀ (S : Nat → Nat → Int32) (v1 : Int32), k_10 S v1 = some res → ∀ {H : Heap} {locs : List Loc} {ls : Array Slot}, mW D ad cI cZ A s.heap S H locs → lv_has ls 8 [(0, .ref (ad 0)), (1, .int v1)] → W p l e R s m args below meth c H locs 0 0 Q (F0 m 10 ls [])) (hk_130 : ∀ (S : Nat → Nat → Int32) (v1 v4 : Int32), k_130 S v1 v4 = some res → ∀ {H : Heap} {locs : List Loc} {ls : Array Slot}, mW D ad cI cZ A s.heap S H locs → lv_has ls 8 [(0, .ref (ad 0)), (1, .int v1), (4, .int v4)] → W p l e R s m args below meth c H locs 0 0 Q (F0 m 130 ls [])) (hk_152 : ∀ (S : Nat → Nat → Int32) (v1 v4 v5 v6 : Int32), k_152 S v1 v4 v5 v6 = some res → ∀ {H : Heap} {locs : List Loc} {ls : Array Slot}, mW D ad cI cZ A s.heap S H locs → lv_has ls 8 [(0, .ref (ad 0)), (1, .int v1), (4, .int v4), (5, .int v5), (6, .int v6)] → W p l e R s m args below meth c H locs 0 0 Q (F0 m 152 ls [])) (S : (Nat → Nat → Int32)) (v1 v4 v5 v6 v7 : Int32) (hM : f_M_areOne_295 k_10 k_130 k_152 S v1 v4 v5 v6 v7 = some res) {H : Heap} {locs : List Loc} {ls : Array Slot} (w : mW D ad cI cZ A s.heap S H locs) (hl : lv_has ls 8 [(0, .ref (ad 0)), (1, .int v1), (4, .int v4), (5, .int v5), (6, .int v6), (7, .int v7)]) : W p l e R s m args below meth c H locs 0 0 Q (F0 m 295 ls []) := by
  unfold f_M_areOne_295 at hM
  refine lv_aload_n F.1 F.2.1 qd_M_areOne_295 rfl (lv_at hl 0 rfl) ?_
  refine mg_M_asOf F hK w qk_686 qd_M_areOne_296 ?_
  refine lv_bipush (v := 12) F.1 F.2.1 qd_M_areOne_299 (by decide) ?_
  refine lv_iload_n F.1 F.2.1 qd_M_areOne_301 rfl (lv_at hl 1 rfl) ?_
  refine lv_imul F.1 F.2.1 qd_M_areOne_302 ?_
  refine lv_iload F.1 F.2.1 qd_M_areOne_303 (lv_at hl 4 rfl) ?_
  refine lv_iadd F.1 F.2.1 qd_M_areOne_305 ?_
  refine lv_iload F.1 F.2.1 qd_M_areOne_306 (lv_at hl 5 rfl) ?_
  obtain ⟨hi1, hM⟩ := qck_ok hM
  refine ms_M_asOf F hK w hi1 qd_M_areOne_308 (fun H locs w => ?_)
  refine lv_iinc (v := (v6 + (1 : Int32))) (lv' := [(6, .int (v6 + (1 : Int32))), (0, .ref (ad 0)), (1, .int v1), (4, .int v4), (5, .int v5), (7, .int v7)]) F.1 F.2.1 qd_M_areOne_309 hl (k := 4) rfl rfl (by decide) rfl (fun ls hl => ?_)
  refine lv_goto (tgt := 152) F.1 F.2.1 qd_M_areOne_312 (by decide) ?_
  exact hk_152 _ _ _ _ _ hM w (lv_sub hl [1, 2, 3, 4, 0] rfl)
set_option maxRecDepth 100000 in
set_option maxHeartbeats 4000000 in
theorem t_M_areOne_258 {p : Program} {l : Launch} {e : Env} {R : Room} {s : State} {m : MethodId} {args : Array Value} {below : List Frame} {meth : Method} {c : Code} {Q : State → Prop} {D : va_G} {ad : Nat → Nat} {cI cZ : ClassId} {A : Nat → Prop} (F : CallFix p m c qb_M_areOne 8 s args qtb "CaptureSubtypesModel") (hR : 6 ≤ R.frames ∧ 152 ≤ R.locals) (hK : va_K D qcl [(cI, .int), (cZ, .boolean)] s) (hN : qnests mns s) (hA : ∀ q, s.heap.size ≤ q → A q) {res : (Bool × (Nat → Nat → Int32))} (hQ : ∀ (H : Heap) (locs : List Loc) (pc : Nat) (ls : Array Slot), decode qb_M_areOne pc = .ok (.ireturn, 1) → mW D ad cI cZ A s.heap res.2 H locs → W p l e R s m args below meth c H locs 0 0 Q (F0 m pc ls [.int (qB res.1)])) {k_10 : (Nat → Nat → Int32) → Int32 → Option (Bool × (Nat → Nat → Int32))} {k_130 : (Nat → Nat → Int32) → Int32 → Int32 → Option (Bool × (Nat → Nat → Int32))} {k_152 : (Nat → Nat → Int32) → Int32 → Int32 → Int32 → Int32 → Option (Bool × (Nat → Nat → Int32))} (hk_10 : ∀ (S : Nat → Nat → Int32) (v1 : Int32), k_10 S v1 = some res → ∀ {H : Heap} {locs : List Loc} {ls : Array Slot}, mW D ad cI cZ A s.heap S H locs → lv_has ls 8 [(0, .ref (ad 0)), (1, .int v1)] → W p l e R s m args below meth c H locs 0 0 Q (F0 m 10 ls [])) (hk_130 : ∀ (S : Nat → Nat → Int32) (v1 v4 : Int32), k_130 S v1 v4 = some res → ∀ {H : Heap} {locs : List Loc} {ls : Array Slot}, mW D ad cI cZ A s.heap S H locs → lv_has ls 8 [(0, .ref (ad 0)), (1, .int v1), (4, .int v4)] → W p l e R s m args below meth c H locs 0 0 Q (F0 m 130 ls [])) (hk_152 : ∀ (S : Nat → Nat → Int32) (v1 v4 v5 v6 : Int32), k_152 S v1 v4 v5 v6 = some res → ∀ {H : Heap} {locs : List Loc} {ls : Array Slot}, mW D ad cI cZ A s.heap S H locs → lv_has ls 8 [(0, .ref (ad 0)), (1, .int v1), (4, .int v4), (5, .int v5), (6, .int v6)] → W p l e R s m args below meth c H locs 0 0 Q (F0 m 152 ls [])) (S : (Nat → Nat → Int32)) (v1 v4 v5 v6 s1 : Int32) (hM : f_M_areOne_258 k_10 k_130 k_152 S v1 v4 v5 v6 s1 = some res) {H : Heap} {locs : List Loc} {ls : Array Slot} (w : mW D ad cI cZ A s.heap S H locs) (hl : lv_has ls 8 [(0, .ref (ad 0)), (1, .int v1), (4, .int v4), (5, .int v5), (6, .int v6)]) : W p l e R s m args below meth c H locs 0 0 Q (F0 m 258 ls [.int s1]) := by
  unfold f_M_areOne_258 at hM
  refine lv_istore (lv' := [(7, .int s1), (0, .ref (ad 0)), (1, .int v1), (4, .int v4), (5, .int v5), (6, .int v6)]) F.1 F.2.1 qd_M_areOne_258 hl (by decide) rfl (fun ls hl => ?_)
  refine lv_aload_n F.1 F.2.1 qd_M_areOne_260 rfl (lv_at hl 1 rfl) ?_
  refine mg_M_asOf F hK w qk_686 qd_M_areOne_261 ?_
  refine lv_bipush (v := 12) F.1 F.2.1 qd_M_areOne_264 (by decide) ?_
  refine lv_iload_n F.1 F.2.1 qd_M_areOne_266 rfl (lv_at hl 2 rfl) ?_
  refine lv_imul F.1 F.2.1 qd_M_areOne_267 ?_
  refine lv_iload F.1 F.2.1 qd_M_areOne_268 (lv_at hl 5 rfl) ?_
  refine lv_iadd F.1 F.2.1 qd_M_areOne_270 ?_
  obtain ⟨hi1, hM⟩ := qck_ok hM
  refine ml_M_asOf F hK w hi1 qd_M_areOne_271 ?_
  refine lv_iconst (v := (-1)) F.1 F.2.1 qd_M_areOne_272 (by decide) ?_
  refine lv_icmp_eq (tgt := 295) F.1 F.2.1 qd_M_areOne_273 (by decide) (fun hc2 => ?_) (fun hc2 => ?_)
  · rw [if_pos hc2] at hM
    exact t_M_areOne_295 F hR hK hN hA hQ hk_10 hk_130 hk_152 _ _ _ _ _ _ hM w (lv_sub hl [1, 2, 3, 4, 5, 0] rfl)
  · rw [if_neg hc2] at hM
    refine lv_aload_n F.1 F.2.1 qd_M_areOne_276 rfl (lv_at hl 1 rfl) ?_
    refine mg_M_asOf F hK w qk_686 qd_M_areOne_277 ?_
    refine lv_bipush (v := 12) F.1 F.2.1 qd_M_areOne_280 (by decide) ?_
    refine lv_iload_n F.1 F.2.1 qd_M_areOne_282 rfl (lv_at hl 2 rfl) ?_
    refine lv_imul F.1 F.2.1 qd_M_areOne_283 ?_
    refine lv_iload F.1 F.2.1 qd_M_areOne_284 (lv_at hl 5 rfl) ?_
    refine lv_iadd F.1 F.2.1 qd_M_areOne_286 ?_
    obtain ⟨hi3, hM⟩ := qck_ok hM
    refine ml_M_asOf F hK w hi3 qd_M_areOne_287 ?_
    refine lv_iload F.1 F.2.1 qd_M_areOne_288 (lv_at hl 0 rfl) ?_
    refine lv_icmp_eq (tgt := 295) F.1 F.2.1 qd_M_areOne_290 (by decide) (fun hc4 => ?_) (fun hc4 => ?_)
    · rw [if_pos hc4] at hM
      exact t_M_areOne_295 F hR hK hN hA hQ hk_10 hk_130 hk_152 _ _ _ _ _ _ hM w (lv_sub hl [1, 2, 3, 4, 5, 0] rfl)
    · rw [if_neg hc4] at hM
      refine lv_iconst (v := 0) F.1 F.2.1 qd_M_areOne_293 (by decide) ?_
      cases hM
      exact hQ _ _ _ _ qd_M_areOne_294 w
set_option maxRecDepth 100000 in
set_option maxHeartbeats 4000000 in
theorem tb_M_areOne_152 {p : Program} {l : Launch} {e : Env} {R : Room} {s : State} {m : MethodId} {args : Array Value} {below : List Frame} {meth : Method} {c : Code} {Q : State → Prop} {D : va_G} {ad : Nat → Nat} {cI cZ : ClassId} {A : Nat → Prop} (F : CallFix p m c qb_M_areOne 8 s args qtb "CaptureSubtypesModel") (hR : 6 ≤ R.frames ∧ 152 ≤ R.locals) (hK : va_K D qcl [(cI, .int), (cZ, .boolean)] s) (hN : qnests mns s) (hA : ∀ q, s.heap.size ≤ q → A q) {res : (Bool × (Nat → Nat → Int32))} (hQ : ∀ (H : Heap) (locs : List Loc) (pc : Nat) (ls : Array Slot), decode qb_M_areOne pc = .ok (.ireturn, 1) → mW D ad cI cZ A s.heap res.2 H locs → W p l e R s m args below meth c H locs 0 0 Q (F0 m pc ls [.int (qB res.1)])) {k_10 : (Nat → Nat → Int32) → Int32 → Option (Bool × (Nat → Nat → Int32))} {k_130 : (Nat → Nat → Int32) → Int32 → Int32 → Option (Bool × (Nat → Nat → Int32))} (hk_10 : ∀ (S : Nat → Nat → Int32) (v1 : Int32), k_10 S v1 = some res → ∀ {H : Heap} {locs : List Loc} {ls : Array Slot}, mW D ad cI cZ A s.heap S H locs → lv_has ls 8 [(0, .ref (ad 0)), (1, .int v1)] → W p l e R s m args below meth c H locs 0 0 Q (F0 m 10 ls [])) (hk_130 : ∀ (S : Nat → Nat → Int32) (v1 v4 : Int32), k_130 S v1 v4 = some res → ∀ {H : Heap} {locs : List Loc} {ls : Array Slot}, mW D ad cI cZ A s.heap S H locs → lv_has ls 8 [(0, .ref (ad 0)), (1, .int v1), (4, .int v4)] → W p l e R s m args below meth c H locs 0 0 Q (F0 m 130 ls [])) {k_152 : (Nat → Nat → Int32) → Int32 → Int32 → Int32 → Int32 → Option (Bool × (Nat → Nat → Int32))} (hk_152 : ∀ (S : Nat → Nat → Int32) (v1 v4 v5 v6 : Int32), k_152 S v1 v4 v5 v6 = some res → ∀ {H : Heap} {locs : List Loc} {ls : Array Slot}, mW D ad cI cZ A s.heap S H locs → lv_has ls 8 [(0, .ref (ad 0)), (1, .int v1), (4, .int v4), (5, .int v5), (6, .int v6)] → W p l e R s m args below meth c H locs 0 0 Q (F0 m 152 ls [])) (S : (Nat → Nat → Int32)) (v1 v4 v5 v6 : Int32) (hM : fb_M_areOne_152 k_10 k_130 k_152 S v1 v4 v5 v6 = some res) {H : Heap} {locs : List Loc} {ls : Array Slot} (w : mW D ad cI cZ A s.heap S H locs) (hl : lv_has ls 8 [(0, .ref (ad 0)), (1, .int v1), (4, .int v4), (5, .int v5), (6, .int v6)]) : W p l e R s m args below meth c H locs 0 0 Q (F0 m 152 ls []) := by
  unfold fb_M_areOne_152 at hM
  refine lv_iload F.1 F.2.1 qd_M_areOne_152 (lv_at hl 4 rfl) ?_
  refine lv_aload_n F.1 F.2.1 qd_M_areOne_154 rfl (lv_at hl 0 rfl) ?_
  refine mg_M_classes F hK w qk_655 qd_M_areOne_155 ?_
  refine lv_icmp_ge (tgt := 315) F.1 F.2.1 qd_M_areOne_158 (by decide) (fun hc1 => ?_) (fun hc1 => ?_)
  · rw [if_pos hc1] at hM
    refine lv_iinc (v := (v4 + (1 : Int32))) (lv' := [(4, .int (v4 + (1 : Int32))), (0, .ref (ad 0)), (1, .int v1), (5, .int v5), (6, .int v6)]) F.1 F.2.1 qd_M_areOne_315 hl (k := 2) rfl rfl (by decide) rfl (fun ls hl => ?_)
    refine lv_goto (tgt := 130) F.1 F.2.1 qd_M_areOne_318 (by decide) ?_
    exact hk_130 _ _ _ hM w (lv_sub hl [1, 2, 0] rfl)
  · rw [if_neg hc1] at hM
    refine lv_iload F.1 F.2.1 qd_M_areOne_161 (lv_at hl 3 rfl) ?_
    refine lv_iconst (v := (-1)) F.1 F.2.1 qd_M_areOne_163 (by decide) ?_
    refine lv_icmp_eq (tgt := 315) F.1 F.2.1 qd_M_areOne_164 (by decide) (fun hc2 => ?_) (fun hc2 => ?_)
    · rw [if_pos hc2] at hM
      refine lv_iinc (v := (v4 + (1 : Int32))) (lv' := [(4, .int (v4 + (1 : Int32))), (0, .ref (ad 0)), (1, .int v1), (5, .int v5), (6, .int v6)]) F.1 F.2.1 qd_M_areOne_315 hl (k := 2) rfl rfl (by decide) rfl (fun ls hl => ?_)
      refine lv_goto (tgt := 130) F.1 F.2.1 qd_M_areOne_318 (by decide) ?_
      exact hk_130 _ _ _ hM w (lv_sub hl [1, 2, 0] rfl)
    · rw [if_neg hc2] at hM
      refine lv_aload_n F.1 F.2.1 qd_M_areOne_167 rfl (lv_at hl 0 rfl) ?_
      refine mg_M_asOf F hK w qk_686 qd_M_areOne_168 ?_
      refine lv_bipush (v := 12) F.1 F.2.1 qd_M_areOne_171 (by decide) ?_
      refine lv_aload_n F.1 F.2.1 qd_M_areOne_173 rfl (lv_at hl 0 rfl) ?_
      refine mg_M_first F hK w qk_665 qd_M_areOne_174 ?_
      refine lv_iload F.1 F.2.1 qd_M_areOne_177 (lv_at hl 3 rfl) ?_
      obtain ⟨hi3, hM⟩ := qck_ok hM
      refine ml_M_first F hK w hi3 qd_M_areOne_179 ?_
      refine lv_imul F.1 F.2.1 qd_M_areOne_180 ?_
      refine lv_iload F.1 F.2.1 qd_M_areOne_181 (lv_at hl 4 rfl) ?_
      refine lv_iadd F.1 F.2.1 qd_M_areOne_183 ?_
      obtain ⟨hi4, hM⟩ := qck_ok hM
      refine ml_M_asOf F hK w hi4 qd_M_areOne_184 ?_
      refine lv_istore (lv' := [(7, .int (S 31 (((12 : Int32) * (S 10 v5.toNatClampNeg)) + v6).toNatClampNeg)), (0, .ref (ad 0)), (1, .int v1), (4, .int v4), (5, .int v5), (6, .int v6)]) F.1 F.2.1 qd_M_areOne_185 hl (by decide) rfl (fun ls hl => ?_)
      refine lv_iload F.1 F.2.1 qd_M_areOne_187 (lv_at hl 0 rfl) ?_
      refine lv_iconst (v := (-1)) F.1 F.2.1 qd_M_areOne_189 (by decide) ?_
      refine lv_icmp_eq (tgt := 309) F.1 F.2.1 qd_M_areOne_190 (by decide) (fun hc5 => ?_) (fun hc5 => ?_)
      · rw [if_pos hc5] at hM
        refine lv_iinc (v := (v6 + (1 : Int32))) (lv' := [(6, .int (v6 + (1 : Int32))), (7, .int (S 31 (((12 : Int32) * (S 10 v5.toNatClampNeg)) + v6).toNatClampNeg)), (0, .ref (ad 0)), (1, .int v1), (4, .int v4), (5, .int v5)]) F.1 F.2.1 qd_M_areOne_309 hl (k := 5) rfl rfl (by decide) rfl (fun ls hl => ?_)
        refine lv_goto (tgt := 152) F.1 F.2.1 qd_M_areOne_312 (by decide) ?_
        exact hk_152 _ _ _ _ _ hM w (lv_sub hl [2, 3, 4, 5, 0] rfl)
      · rw [if_neg hc5] at hM
        refine lv_aload_n F.1 F.2.1 qd_M_areOne_193 rfl (lv_at hl 1 rfl) ?_
        refine mg_M_sort F hK w qk_664 qd_M_areOne_194 ?_
        refine lv_iload F.1 F.2.1 qd_M_areOne_197 (lv_at hl 4 rfl) ?_
        obtain ⟨hi6, hM⟩ := qck_ok hM
        refine ml_M_sort F hK w hi6 qd_M_areOne_199 ?_
        refine lv_iconst (v := 1) F.1 F.2.1 qd_M_areOne_200 (by decide) ?_
        refine lv_icmp_ne (tgt := 215) F.1 F.2.1 qd_M_areOne_201 (by decide) (fun hc7 => ?_) (fun hc7 => ?_)
        · rw [if_neg hc7] at hM
          refine lv_aload_n F.1 F.2.1 qd_M_areOne_215 rfl (lv_at hl 1 rfl) ?_
          refine mg_M_sort F hK w qk_664 qd_M_areOne_216 ?_
          refine lv_iload F.1 F.2.1 qd_M_areOne_219 (lv_at hl 4 rfl) ?_
          obtain ⟨hi8, hM⟩ := qck_ok hM
          refine ml_M_sort F hK w hi8 qd_M_areOne_221 ?_
          refine lv_iconst (v := 2) F.1 F.2.1 qd_M_areOne_222 (by decide) ?_
          refine lv_icmp_ne (tgt := 256) F.1 F.2.1 qd_M_areOne_223 (by decide) (fun hc9 => ?_) (fun hc9 => ?_)
          · rw [if_neg hc9] at hM
            refine lv_iload F.1 F.2.1 qd_M_areOne_256 (lv_at hl 0 rfl) ?_
            exact t_M_areOne_258 F hR hK hN hA hQ hk_10 hk_130 hk_152 _ _ _ _ _ _ hM w (lv_sub hl [1, 2, 3, 4, 5] rfl)
          · rw [if_pos hc9] at hM
            refine lv_aload_n F.1 F.2.1 qd_M_areOne_226 rfl (lv_at hl 1 rfl) ?_
            refine lv_iload F.1 F.2.1 qd_M_areOne_227 (lv_at hl 0 rfl) ?_
            refine lv_aload_n F.1 F.2.1 qd_M_areOne_229 rfl (lv_at hl 1 rfl) ?_
            refine mg_M_first F hK w qk_665 qd_M_areOne_230 ?_
            refine lv_iload F.1 F.2.1 qd_M_areOne_233 (lv_at hl 4 rfl) ?_
            obtain ⟨hi10, hM⟩ := qck_ok hM
            refine ml_M_first F hK w hi10 qd_M_areOne_235 ?_
            refine lv_aload_n F.1 F.2.1 qd_M_areOne_236 rfl (lv_at hl 1 rfl) ?_
            refine mg_M_second F hK w qk_666 qd_M_areOne_237 ?_
            refine lv_iload F.1 F.2.1 qd_M_areOne_240 (lv_at hl 4 rfl) ?_
            obtain ⟨hi11, hM⟩ := qck_ok hM
            refine ml_M_second F hK w hi11 qd_M_areOne_242 ?_
            refine lv_aload_n F.1 F.2.1 qd_M_areOne_243 rfl (lv_at hl 1 rfl) ?_
            refine mg_M_third F hK w qk_667 qd_M_areOne_244 ?_
            refine lv_iload F.1 F.2.1 qd_M_areOne_247 (lv_at hl 4 rfl) ?_
            obtain ⟨hi12, hM⟩ := qck_ok hM
            refine ml_M_third F hK w hi12 qd_M_areOne_249 ?_
            obtain ⟨q13, hq14, hM⟩ := qbd hM
            refine m_calli F hK hN hA w (c_M_replace l D ad cI cZ hq14) qk_920 qk_922 qs_M_replace qk_8 qk_923 qv_M_replace rfl rfl ⟨Nat.le_trans (by decide) hR.1, Nat.le_trans (by decide) hR.2⟩ (ci := 6) rfl (j := 0) rfl hl.1 rfl (Nat.le_of_ble_eq_true rfl) qd_M_areOne_250 (fun H locs w => ?_)
            refine lv_goto (tgt := 258) F.1 F.2.1 qd_M_areOne_253 (by decide) ?_
            exact t_M_areOne_258 F hR hK hN hA hQ hk_10 hk_130 hk_152 _ _ _ _ _ _ hM w (lv_sub hl [1, 2, 3, 4, 5] rfl)
        · rw [if_pos hc7] at hM
          refine lv_aload_n F.1 F.2.1 qd_M_areOne_204 rfl (lv_at hl 1 rfl) ?_
          refine lv_iload F.1 F.2.1 qd_M_areOne_205 (lv_at hl 4 rfl) ?_
          refine lv_iload F.1 F.2.1 qd_M_areOne_207 (lv_at hl 5 rfl) ?_
          obtain ⟨q15, hq16, hM⟩ := qbd hM
          refine m_calli F hK hN hA w (c_M_asClass l D ad cI cZ hq16) qk_904 qk_906 qs_M_asClass qk_8 qk_907 qv_M_asClass rfl rfl ⟨Nat.le_trans (by decide) hR.1, Nat.le_trans (by decide) hR.2⟩ (ci := 6) rfl (j := 0) rfl hl.1 rfl (Nat.le_of_ble_eq_true rfl) qd_M_areOne_209 (fun H locs w => ?_)
          refine lv_goto (tgt := 258) F.1 F.2.1 qd_M_areOne_212 (by decide) ?_
          exact t_M_areOne_258 F hR hK hN hA hQ hk_10 hk_130 hk_152 _ _ _ _ _ _ hM w (lv_sub hl [1, 2, 3, 4, 5] rfl)
set_option maxRecDepth 100000 in
set_option maxHeartbeats 4000000 in
theorem t_M_areOne_152 {p : Program} {l : Launch} {e : Env} {R : Room} {s : State} {m : MethodId} {args : Array Value} {below : List Frame} {meth : Method} {c : Code} {Q : State → Prop} {D : va_G} {ad : Nat → Nat} {cI cZ : ClassId} {A : Nat → Prop} (F : CallFix p m c qb_M_areOne 8 s args qtb "CaptureSubtypesModel") (hR : 6 ≤ R.frames ∧ 152 ≤ R.locals) (hK : va_K D qcl [(cI, .int), (cZ, .boolean)] s) (hN : qnests mns s) (hA : ∀ q, s.heap.size ≤ q → A q) {res : (Bool × (Nat → Nat → Int32))} (hQ : ∀ (H : Heap) (locs : List Loc) (pc : Nat) (ls : Array Slot), decode qb_M_areOne pc = .ok (.ireturn, 1) → mW D ad cI cZ A s.heap res.2 H locs → W p l e R s m args below meth c H locs 0 0 Q (F0 m pc ls [.int (qB res.1)])) {k_10 : (Nat → Nat → Int32) → Int32 → Option (Bool × (Nat → Nat → Int32))} {k_130 : (Nat → Nat → Int32) → Int32 → Int32 → Option (Bool × (Nat → Nat → Int32))} (hk_10 : ∀ (S : Nat → Nat → Int32) (v1 : Int32), k_10 S v1 = some res → ∀ {H : Heap} {locs : List Loc} {ls : Array Slot}, mW D ad cI cZ A s.heap S H locs → lv_has ls 8 [(0, .ref (ad 0)), (1, .int v1)] → W p l e R s m args below meth c H locs 0 0 Q (F0 m 10 ls [])) (hk_130 : ∀ (S : Nat → Nat → Int32) (v1 v4 : Int32), k_130 S v1 v4 = some res → ∀ {H : Heap} {locs : List Loc} {ls : Array Slot}, mW D ad cI cZ A s.heap S H locs → lv_has ls 8 [(0, .ref (ad 0)), (1, .int v1), (4, .int v4)] → W p l e R s m args below meth c H locs 0 0 Q (F0 m 130 ls [])) : ∀ (n : Nat) (S : (Nat → Nat → Int32)) (v1 v4 v5 v6 : Int32) (hM : f_M_areOne_152 k_10 k_130 n S v1 v4 v5 v6 = some res) {H : Heap} {locs : List Loc} {ls : Array Slot} (w : mW D ad cI cZ A s.heap S H locs) (hl : lv_has ls 8 [(0, .ref (ad 0)), (1, .int v1), (4, .int v4), (5, .int v5), (6, .int v6)]), W p l e R s m args below meth c H locs 0 0 Q (F0 m 152 ls []) := by
  intro n
  induction n with
  | zero => intro S v1 v4 v5 v6 hM; exact absurd hM (by simp [f_M_areOne_152])
  | succ n ih => intro S v1 v4 v5 v6 hM H locs ls w hl; exact tb_M_areOne_152 F hR hK hN hA hQ hk_10 hk_130 (k_152 := f_M_areOne_152 k_10 k_130 n) (fun S v1 v4 v5 v6 hM H locs ls w hl => ih S v1 v4 v5 v6 hM w hl) S v1 v4 v5 v6 hM w hl
set_option maxRecDepth 100000 in
set_option maxHeartbeats 4000000 in
theorem tb_M_areOne_130 {p : Program} {l : Launch} {e : Env} {R : Room} {s : State} {m : MethodId} {args : Array Value} {below : List Frame} {meth : Method} {c : Code} {Q : State → Prop} {D : va_G} {ad : Nat → Nat} {cI cZ : ClassId} {A : Nat → Prop} (F : CallFix p m c qb_M_areOne 8 s args qtb "CaptureSubtypesModel") (hR : 6 ≤ R.frames ∧ 152 ≤ R.locals) (hK : va_K D qcl [(cI, .int), (cZ, .boolean)] s) (hN : qnests mns s) (hA : ∀ q, s.heap.size ≤ q → A q) {res : (Bool × (Nat → Nat → Int32))} (hQ : ∀ (H : Heap) (locs : List Loc) (pc : Nat) (ls : Array Slot), decode qb_M_areOne pc = .ok (.ireturn, 1) → mW D ad cI cZ A s.heap res.2 H locs → W p l e R s m args below meth c H locs 0 0 Q (F0 m pc ls [.int (qB res.1)])) {k_10 : (Nat → Nat → Int32) → Int32 → Option (Bool × (Nat → Nat → Int32))} (hk_10 : ∀ (S : Nat → Nat → Int32) (v1 : Int32), k_10 S v1 = some res → ∀ {H : Heap} {locs : List Loc} {ls : Array Slot}, mW D ad cI cZ A s.heap S H locs → lv_has ls 8 [(0, .ref (ad 0)), (1, .int v1)] → W p l e R s m args below meth c H locs 0 0 Q (F0 m 10 ls [])) {k_130 : (Nat → Nat → Int32) → Int32 → Int32 → Option (Bool × (Nat → Nat → Int32))} (hk_130 : ∀ (S : Nat → Nat → Int32) (v1 v4 : Int32), k_130 S v1 v4 = some res → ∀ {H : Heap} {locs : List Loc} {ls : Array Slot}, mW D ad cI cZ A s.heap S H locs → lv_has ls 8 [(0, .ref (ad 0)), (1, .int v1), (4, .int v4)] → W p l e R s m args below meth c H locs 0 0 Q (F0 m 130 ls [])) (S : (Nat → Nat → Int32)) (v1 v4 : Int32) (hM : fb_M_areOne_130 k_10 k_130 S v1 v4 = some res) {H : Heap} {locs : List Loc} {ls : Array Slot} (w : mW D ad cI cZ A s.heap S H locs) (hl : lv_has ls 8 [(0, .ref (ad 0)), (1, .int v1), (4, .int v4)]) : W p l e R s m args below meth c H locs 0 0 Q (F0 m 130 ls []) := by
  unfold fb_M_areOne_130 at hM
  refine lv_iload F.1 F.2.1 qd_M_areOne_130 (lv_at hl 2 rfl) ?_
  refine lv_aload_n F.1 F.2.1 qd_M_areOne_132 rfl (lv_at hl 0 rfl) ?_
  refine lv_iload_n F.1 F.2.1 qd_M_areOne_133 rfl (lv_at hl 1 rfl) ?_
  obtain ⟨q1, hq2, hM⟩ := qbd hM
  refine m_calli F hK hN hA w (c_M_superCount l D ad cI cZ hq2) qk_824 qk_826 qs_M_superCount qk_8 qk_827 qv_M_superCount rfl rfl ⟨Nat.le_trans (by decide) hR.1, Nat.le_trans (by decide) hR.2⟩ (ci := 6) rfl (j := 0) rfl hl.1 rfl (Nat.le_of_ble_eq_true rfl) qd_M_areOne_134 (fun H locs w => ?_)
  refine lv_icmp_ge (tgt := 321) F.1 F.2.1 qd_M_areOne_137 (by decide) (fun hc3 => ?_) (fun hc3 => ?_)
  · rw [if_pos hc3] at hM
    refine lv_iinc (v := (v1 + (1 : Int32))) (lv' := [(1, .int (v1 + (1 : Int32))), (0, .ref (ad 0)), (4, .int v4)]) F.1 F.2.1 qd_M_areOne_321 hl (k := 1) rfl rfl (by decide) rfl (fun ls hl => ?_)
    refine lv_goto (tgt := 10) F.1 F.2.1 qd_M_areOne_324 (by decide) ?_
    exact hk_10 _ _ hM w (lv_sub hl [1, 0] rfl)
  · rw [if_neg hc3] at hM
    refine lv_aload_n F.1 F.2.1 qd_M_areOne_140 rfl (lv_at hl 0 rfl) ?_
    refine lv_iload_n F.1 F.2.1 qd_M_areOne_141 rfl (lv_at hl 1 rfl) ?_
    refine lv_iload F.1 F.2.1 qd_M_areOne_142 (lv_at hl 2 rfl) ?_
    obtain ⟨q4, hq5, hM⟩ := qbd hM
    refine m_calli F hK hN hA w (c_M_superOf l D ad cI cZ hq5) qk_828 qk_830 qs_M_superOf qk_8 qk_831 qv_M_superOf rfl rfl ⟨Nat.le_trans (by decide) hR.1, Nat.le_trans (by decide) hR.2⟩ (ci := 6) rfl (j := 0) rfl hl.1 rfl (Nat.le_of_ble_eq_true rfl) qd_M_areOne_144 (fun H locs w => ?_)
    refine lv_istore (lv' := [(5, .int q4), (0, .ref (ad 0)), (1, .int v1), (4, .int v4)]) F.1 F.2.1 qd_M_areOne_147 hl (by decide) rfl (fun ls hl => ?_)
    refine lv_iconst (v := 1) F.1 F.2.1 qd_M_areOne_149 (by decide) ?_
    refine lv_istore (lv' := [(6, .int (1 : Int32)), (5, .int q4), (0, .ref (ad 0)), (1, .int v1), (4, .int v4)]) F.1 F.2.1 qd_M_areOne_150 hl (by decide) rfl (fun ls hl => ?_)
    exact t_M_areOne_152 F hR hK hN hA hQ hk_10 hk_130 qfu _ _ _ _ _ hM w (lv_sub hl [2, 3, 4, 1, 0] rfl)
set_option maxRecDepth 100000 in
set_option maxHeartbeats 4000000 in
theorem t_M_areOne_130 {p : Program} {l : Launch} {e : Env} {R : Room} {s : State} {m : MethodId} {args : Array Value} {below : List Frame} {meth : Method} {c : Code} {Q : State → Prop} {D : va_G} {ad : Nat → Nat} {cI cZ : ClassId} {A : Nat → Prop} (F : CallFix p m c qb_M_areOne 8 s args qtb "CaptureSubtypesModel") (hR : 6 ≤ R.frames ∧ 152 ≤ R.locals) (hK : va_K D qcl [(cI, .int), (cZ, .boolean)] s) (hN : qnests mns s) (hA : ∀ q, s.heap.size ≤ q → A q) {res : (Bool × (Nat → Nat → Int32))} (hQ : ∀ (H : Heap) (locs : List Loc) (pc : Nat) (ls : Array Slot), decode qb_M_areOne pc = .ok (.ireturn, 1) → mW D ad cI cZ A s.heap res.2 H locs → W p l e R s m args below meth c H locs 0 0 Q (F0 m pc ls [.int (qB res.1)])) {k_10 : (Nat → Nat → Int32) → Int32 → Option (Bool × (Nat → Nat → Int32))} (hk_10 : ∀ (S : Nat → Nat → Int32) (v1 : Int32), k_10 S v1 = some res → ∀ {H : Heap} {locs : List Loc} {ls : Array Slot}, mW D ad cI cZ A s.heap S H locs → lv_has ls 8 [(0, .ref (ad 0)), (1, .int v1)] → W p l e R s m args below meth c H locs 0 0 Q (F0 m 10 ls [])) : ∀ (n : Nat) (S : (Nat → Nat → Int32)) (v1 v4 : Int32) (hM : f_M_areOne_130 k_10 n S v1 v4 = some res) {H : Heap} {locs : List Loc} {ls : Array Slot} (w : mW D ad cI cZ A s.heap S H locs) (hl : lv_has ls 8 [(0, .ref (ad 0)), (1, .int v1), (4, .int v4)]), W p l e R s m args below meth c H locs 0 0 Q (F0 m 130 ls []) := by
  intro n
  induction n with
  | zero => intro S v1 v4 hM; exact absurd hM (by simp [f_M_areOne_130])
  | succ n ih => intro S v1 v4 hM H locs ls w hl; exact tb_M_areOne_130 F hR hK hN hA hQ hk_10 (k_130 := f_M_areOne_130 k_10 n) (fun S v1 v4 hM H locs ls w hl => ih S v1 v4 hM w hl) S v1 v4 hM w hl
set_option maxRecDepth 100000 in
set_option maxHeartbeats 4000000 in
theorem t_M_areOne_126 {p : Program} {l : Launch} {e : Env} {R : Room} {s : State} {m : MethodId} {args : Array Value} {below : List Frame} {meth : Method} {c : Code} {Q : State → Prop} {D : va_G} {ad : Nat → Nat} {cI cZ : ClassId} {A : Nat → Prop} (F : CallFix p m c qb_M_areOne 8 s args qtb "CaptureSubtypesModel") (hR : 6 ≤ R.frames ∧ 152 ≤ R.locals) (hK : va_K D qcl [(cI, .int), (cZ, .boolean)] s) (hN : qnests mns s) (hA : ∀ q, s.heap.size ≤ q → A q) {res : (Bool × (Nat → Nat → Int32))} (hQ : ∀ (H : Heap) (locs : List Loc) (pc : Nat) (ls : Array Slot), decode qb_M_areOne pc = .ok (.ireturn, 1) → mW D ad cI cZ A s.heap res.2 H locs → W p l e R s m args below meth c H locs 0 0 Q (F0 m pc ls [.int (qB res.1)])) {k_10 : (Nat → Nat → Int32) → Int32 → Option (Bool × (Nat → Nat → Int32))} (hk_10 : ∀ (S : Nat → Nat → Int32) (v1 : Int32), k_10 S v1 = some res → ∀ {H : Heap} {locs : List Loc} {ls : Array Slot}, mW D ad cI cZ A s.heap S H locs → lv_has ls 8 [(0, .ref (ad 0)), (1, .int v1)] → W p l e R s m args below meth c H locs 0 0 Q (F0 m 10 ls [])) (S : (Nat → Nat → Int32)) (v1 s1 s2 : Int32) (hM : f_M_areOne_126 k_10 S v1 s1 s2 = some res) {H : Heap} {locs : List Loc} {ls : Array Slot} (w : mW D ad cI cZ A s.heap S H locs) (hl : lv_has ls 8 [(0, .ref (ad 0)), (1, .int v1)]) : W p l e R s m args below meth c H locs 0 0 Q (F0 m 126 ls [.int s2, .int s1, .ref (ad 27)]) := by
  unfold f_M_areOne_126 at hM
  obtain ⟨hi1, hM⟩ := qck_ok hM
  refine ms_M_asOf F hK w hi1 qd_M_areOne_126 (fun H locs w => ?_)
  refine lv_iconst (v := 0) F.1 F.2.1 qd_M_areOne_127 (by decide) ?_
  refine lv_istore (lv' := [(4, .int (0 : Int32)), (0, .ref (ad 0)), (1, .int v1)]) F.1 F.2.1 qd_M_areOne_128 hl (by decide) rfl (fun ls hl => ?_)
  exact t_M_areOne_130 F hR hK hN hA hQ hk_10 qfu _ _ _ hM w (lv_sub hl [1, 2, 0] rfl)
set_option maxRecDepth 100000 in
set_option maxHeartbeats 4000000 in
theorem t_M_areOne_90 {p : Program} {l : Launch} {e : Env} {R : Room} {s : State} {m : MethodId} {args : Array Value} {below : List Frame} {meth : Method} {c : Code} {Q : State → Prop} {D : va_G} {ad : Nat → Nat} {cI cZ : ClassId} {A : Nat → Prop} (F : CallFix p m c qb_M_areOne 8 s args qtb "CaptureSubtypesModel") (hR : 6 ≤ R.frames ∧ 152 ≤ R.locals) (hK : va_K D qcl [(cI, .int), (cZ, .boolean)] s) (hN : qnests mns s) (hA : ∀ q, s.heap.size ≤ q → A q) {res : (Bool × (Nat → Nat → Int32))} (hQ : ∀ (H : Heap) (locs : List Loc) (pc : Nat) (ls : Array Slot), decode qb_M_areOne pc = .ok (.ireturn, 1) → mW D ad cI cZ A s.heap res.2 H locs → W p l e R s m args below meth c H locs 0 0 Q (F0 m pc ls [.int (qB res.1)])) {k_10 : (Nat → Nat → Int32) → Int32 → Option (Bool × (Nat → Nat → Int32))} (hk_10 : ∀ (S : Nat → Nat → Int32) (v1 : Int32), k_10 S v1 = some res → ∀ {H : Heap} {locs : List Loc} {ls : Array Slot}, mW D ad cI cZ A s.heap S H locs → lv_has ls 8 [(0, .ref (ad 0)), (1, .int v1)] → W p l e R s m args below meth c H locs 0 0 Q (F0 m 10 ls [])) (S : (Nat → Nat → Int32)) (v1 v2 s1 : Int32) (hM : f_M_areOne_90 k_10 S v1 v2 s1 = some res) {H : Heap} {locs : List Loc} {ls : Array Slot} (w : mW D ad cI cZ A s.heap S H locs) (hl : lv_has ls 8 [(0, .ref (ad 0)), (1, .int v1), (2, .int v2)]) : W p l e R s m args below meth c H locs 0 0 Q (F0 m 90 ls [.int s1]) := by
  unfold f_M_areOne_90 at hM
  refine lv_istore_n (lv' := [(3, .int s1), (0, .ref (ad 0)), (1, .int v1), (2, .int v2)]) F.1 F.2.1 qd_M_areOne_90 rfl hl (by decide) rfl (fun ls hl => ?_)
  refine lv_aload_n F.1 F.2.1 qd_M_areOne_91 rfl (lv_at hl 1 rfl) ?_
  refine mg_M_asOf F hK w qk_686 qd_M_areOne_92 ?_
  refine lv_bipush (v := 12) F.1 F.2.1 qd_M_areOne_95 (by decide) ?_
  refine lv_iload_n F.1 F.2.1 qd_M_areOne_97 rfl (lv_at hl 2 rfl) ?_
  refine lv_imul F.1 F.2.1 qd_M_areOne_98 ?_
  refine lv_iload_n F.1 F.2.1 qd_M_areOne_99 rfl (lv_at hl 2 rfl) ?_
  refine lv_iadd F.1 F.2.1 qd_M_areOne_100 ?_
  refine lv_aload_n F.1 F.2.1 qd_M_areOne_101 rfl (lv_at hl 1 rfl) ?_
  refine mg_M_parameters F hK w qk_657 qd_M_areOne_102 ?_
  refine lv_iload_n F.1 F.2.1 qd_M_areOne_105 rfl (lv_at hl 2 rfl) ?_
  obtain ⟨hi1, hM⟩ := qck_ok hM
  refine ml_M_parameters F hK w hi1 qd_M_areOne_106 ?_
  refine lv_if_ne (tgt := 118) F.1 F.2.1 qd_M_areOne_107 (by decide) (fun hc2 => ?_) (fun hc2 => ?_)
  · rw [if_neg hc2] at hM
    refine lv_aload_n F.1 F.2.1 qd_M_areOne_118 rfl (lv_at hl 1 rfl) ?_
    refine lv_iconst (v := 2) F.1 F.2.1 qd_M_areOne_119 (by decide) ?_
    refine lv_iload_n F.1 F.2.1 qd_M_areOne_120 rfl (lv_at hl 2 rfl) ?_
    refine lv_iload_n F.1 F.2.1 qd_M_areOne_121 rfl (lv_at hl 3 rfl) ?_
    refine lv_iload_n F.1 F.2.1 qd_M_areOne_122 rfl (lv_at hl 0 rfl) ?_
    obtain ⟨q3, hq4, hM⟩ := qbd hM
    refine m_calli F hK hN hA w (c_M_come l D ad cI cZ hq4) qk_916 qk_918 qs_M_come qk_8 qk_919 qv_M_come rfl rfl ⟨Nat.le_trans (by decide) hR.1, Nat.le_trans (by decide) hR.2⟩ (ci := 6) rfl (j := 0) rfl hl.1 rfl (Nat.le_of_ble_eq_true rfl) qd_M_areOne_123 (fun H locs w => ?_)
    exact t_M_areOne_126 F hR hK hN hA hQ hk_10 _ _ _ _ hM w (lv_sub hl [1, 2] rfl)
  · rw [if_pos hc2] at hM
    refine lv_aload_n F.1 F.2.1 qd_M_areOne_110 rfl (lv_at hl 1 rfl) ?_
    refine lv_iload_n F.1 F.2.1 qd_M_areOne_111 rfl (lv_at hl 2 rfl) ?_
    obtain ⟨q5, hq6, hM⟩ := qbd hM
    refine m_calli F hK hN hA w (c_M_bare l D ad cI cZ hq6) qk_932 qk_934 qs_M_bare qk_8 qk_935 qv_M_bare rfl rfl ⟨Nat.le_trans (by decide) hR.1, Nat.le_trans (by decide) hR.2⟩ (ci := 6) rfl (j := 0) rfl hl.1 rfl (Nat.le_of_ble_eq_true rfl) qd_M_areOne_112 (fun H locs w => ?_)
    refine lv_goto (tgt := 126) F.1 F.2.1 qd_M_areOne_115 (by decide) ?_
    exact t_M_areOne_126 F hR hK hN hA hQ hk_10 _ _ _ _ hM w (lv_sub hl [1, 2] rfl)
set_option maxRecDepth 100000 in
set_option maxHeartbeats 4000000 in
theorem t_M_areOne_67 {p : Program} {l : Launch} {e : Env} {R : Room} {s : State} {m : MethodId} {args : Array Value} {below : List Frame} {meth : Method} {c : Code} {Q : State → Prop} {D : va_G} {ad : Nat → Nat} {cI cZ : ClassId} {A : Nat → Prop} (F : CallFix p m c qb_M_areOne 8 s args qtb "CaptureSubtypesModel") (hR : 6 ≤ R.frames ∧ 152 ≤ R.locals) (hK : va_K D qcl [(cI, .int), (cZ, .boolean)] s) (hN : qnests mns s) (hA : ∀ q, s.heap.size ≤ q → A q) {res : (Bool × (Nat → Nat → Int32))} (hQ : ∀ (H : Heap) (locs : List Loc) (pc : Nat) (ls : Array Slot), decode qb_M_areOne pc = .ok (.ireturn, 1) → mW D ad cI cZ A s.heap res.2 H locs → W p l e R s m args below meth c H locs 0 0 Q (F0 m pc ls [.int (qB res.1)])) {k_10 : (Nat → Nat → Int32) → Int32 → Option (Bool × (Nat → Nat → Int32))} (hk_10 : ∀ (S : Nat → Nat → Int32) (v1 : Int32), k_10 S v1 = some res → ∀ {H : Heap} {locs : List Loc} {ls : Array Slot}, mW D ad cI cZ A s.heap S H locs → lv_has ls 8 [(0, .ref (ad 0)), (1, .int v1)] → W p l e R s m args below meth c H locs 0 0 Q (F0 m 10 ls [])) (S : (Nat → Nat → Int32)) (v1 s1 : Int32) (hM : f_M_areOne_67 k_10 S v1 s1 = some res) {H : Heap} {locs : List Loc} {ls : Array Slot} (w : mW D ad cI cZ A s.heap S H locs) (hl : lv_has ls 8 [(0, .ref (ad 0)), (1, .int v1)]) : W p l e R s m args below meth c H locs 0 0 Q (F0 m 67 ls [.int s1]) := by
  unfold f_M_areOne_67 at hM
  refine lv_istore_n (lv' := [(2, .int s1), (0, .ref (ad 0)), (1, .int v1)]) F.1 F.2.1 qd_M_areOne_67 rfl hl (by decide) rfl (fun ls hl => ?_)
  refine lv_aload_n F.1 F.2.1 qd_M_areOne_68 rfl (lv_at hl 1 rfl) ?_
  refine mg_M_parameters F hK w qk_657 qd_M_areOne_69 ?_
  refine lv_iload_n F.1 F.2.1 qd_M_areOne_72 rfl (lv_at hl 2 rfl) ?_
  obtain ⟨hi1, hM⟩ := qck_ok hM
  refine ml_M_parameters F hK w hi1 qd_M_areOne_73 ?_
  refine lv_iconst (v := 1) F.1 F.2.1 qd_M_areOne_74 (by decide) ?_
  refine lv_icmp_le (tgt := 89) F.1 F.2.1 qd_M_areOne_75 (by decide) (fun hc2 => ?_) (fun hc2 => ?_)
  · rw [if_pos hc2] at hM
    refine lv_iconst (v := (-1)) F.1 F.2.1 qd_M_areOne_89 (by decide) ?_
    exact t_M_areOne_90 F hR hK hN hA hQ hk_10 _ _ _ _ hM w (lv_sub hl [1, 2, 0] rfl)
  · rw [if_neg hc2] at hM
    refine lv_aload_n F.1 F.2.1 qd_M_areOne_78 rfl (lv_at hl 1 rfl) ?_
    refine lv_iconst (v := 3) F.1 F.2.1 qd_M_areOne_79 (by decide) ?_
    refine lv_iload_n F.1 F.2.1 qd_M_areOne_80 rfl (lv_at hl 2 rfl) ?_
    refine lv_iconst (v := 1) F.1 F.2.1 qd_M_areOne_81 (by decide) ?_
    refine lv_iconst (v := (-1)) F.1 F.2.1 qd_M_areOne_82 (by decide) ?_
    obtain ⟨q3, hq4, hM⟩ := qbd hM
    refine m_calli F hK hN hA w (c_M_come l D ad cI cZ hq4) qk_916 qk_918 qs_M_come qk_8 qk_919 qv_M_come rfl rfl ⟨Nat.le_trans (by decide) hR.1, Nat.le_trans (by decide) hR.2⟩ (ci := 6) rfl (j := 0) rfl hl.1 rfl (Nat.le_of_ble_eq_true rfl) qd_M_areOne_83 (fun H locs w => ?_)
    refine lv_goto (tgt := 90) F.1 F.2.1 qd_M_areOne_86 (by decide) ?_
    exact t_M_areOne_90 F hR hK hN hA hQ hk_10 _ _ _ _ hM w (lv_sub hl [1, 2, 0] rfl)
set_option maxRecDepth 100000 in
set_option maxHeartbeats 4000000 in
theorem tb_M_areOne_20 {p : Program} {l : Launch} {e : Env} {R : Room} {s : State} {m : MethodId} {args : Array Value} {below : List Frame} {meth : Method} {c : Code} {Q : State → Prop} {D : va_G} {ad : Nat → Nat} {cI cZ : ClassId} {A : Nat → Prop} (F : CallFix p m c qb_M_areOne 8 s args qtb "CaptureSubtypesModel") (hR : 6 ≤ R.frames ∧ 152 ≤ R.locals) (hK : va_K D qcl [(cI, .int), (cZ, .boolean)] s) (hN : qnests mns s) (hA : ∀ q, s.heap.size ≤ q → A q) {res : (Bool × (Nat → Nat → Int32))} (hQ : ∀ (H : Heap) (locs : List Loc) (pc : Nat) (ls : Array Slot), decode qb_M_areOne pc = .ok (.ireturn, 1) → mW D ad cI cZ A s.heap res.2 H locs → W p l e R s m args below meth c H locs 0 0 Q (F0 m pc ls [.int (qB res.1)])) {k_10 : (Nat → Nat → Int32) → Int32 → Option (Bool × (Nat → Nat → Int32))} (hk_10 : ∀ (S : Nat → Nat → Int32) (v1 : Int32), k_10 S v1 = some res → ∀ {H : Heap} {locs : List Loc} {ls : Array Slot}, mW D ad cI cZ A s.heap S H locs → lv_has ls 8 [(0, .ref (ad 0)), (1, .int v1)] → W p l e R s m args below meth c H locs 0 0 Q (F0 m 10 ls [])) {k_20 : (Nat → Nat → Int32) → Int32 → Int32 → Option (Bool × (Nat → Nat → Int32))} (hk_20 : ∀ (S : Nat → Nat → Int32) (v1 v2 : Int32), k_20 S v1 v2 = some res → ∀ {H : Heap} {locs : List Loc} {ls : Array Slot}, mW D ad cI cZ A s.heap S H locs → lv_has ls 8 [(0, .ref (ad 0)), (1, .int v1), (2, .int v2)] → W p l e R s m args below meth c H locs 0 0 Q (F0 m 20 ls [])) (S : (Nat → Nat → Int32)) (v1 v2 : Int32) (hM : fb_M_areOne_20 k_10 k_20 S v1 v2 = some res) {H : Heap} {locs : List Loc} {ls : Array Slot} (w : mW D ad cI cZ A s.heap S H locs) (hl : lv_has ls 8 [(0, .ref (ad 0)), (1, .int v1), (2, .int v2)]) : W p l e R s m args below meth c H locs 0 0 Q (F0 m 20 ls []) := by
  unfold fb_M_areOne_20 at hM
  refine lv_iload_n F.1 F.2.1 qd_M_areOne_20 rfl (lv_at hl 2 rfl) ?_
  refine lv_aload_n F.1 F.2.1 qd_M_areOne_21 rfl (lv_at hl 0 rfl) ?_
  refine mg_M_classes F hK w qk_655 qd_M_areOne_22 ?_
  refine lv_icmp_ge (tgt := 46) F.1 F.2.1 qd_M_areOne_25 (by decide) (fun hc1 => ?_) (fun hc1 => ?_)
  · rw [if_pos hc1] at hM
    refine lv_aload_n F.1 F.2.1 qd_M_areOne_46 rfl (lv_at hl 0 rfl) ?_
    refine mg_M_parameters F hK w qk_657 qd_M_areOne_47 ?_
    refine lv_iload_n F.1 F.2.1 qd_M_areOne_50 rfl (lv_at hl 1 rfl) ?_
    obtain ⟨hi2, hM⟩ := qck_ok hM
    refine ml_M_parameters F hK w hi2 qd_M_areOne_51 ?_
    refine lv_if_le (tgt := 66) F.1 F.2.1 qd_M_areOne_52 (by decide) (fun hc3 => ?_) (fun hc3 => ?_)
    · rw [if_pos hc3] at hM
      refine lv_iconst (v := (-1)) F.1 F.2.1 qd_M_areOne_66 (by decide) ?_
      exact t_M_areOne_67 F hR hK hN hA hQ hk_10 _ _ _ hM w (lv_sub hl [0, 1] rfl)
    · rw [if_neg hc3] at hM
      refine lv_aload_n F.1 F.2.1 qd_M_areOne_55 rfl (lv_at hl 0 rfl) ?_
      refine lv_iconst (v := 3) F.1 F.2.1 qd_M_areOne_56 (by decide) ?_
      refine lv_iload_n F.1 F.2.1 qd_M_areOne_57 rfl (lv_at hl 1 rfl) ?_
      refine lv_iconst (v := 0) F.1 F.2.1 qd_M_areOne_58 (by decide) ?_
      refine lv_iconst (v := (-1)) F.1 F.2.1 qd_M_areOne_59 (by decide) ?_
      obtain ⟨q4, hq5, hM⟩ := qbd hM
      refine m_calli F hK hN hA w (c_M_come l D ad cI cZ hq5) qk_916 qk_918 qs_M_come qk_8 qk_919 qv_M_come rfl rfl ⟨Nat.le_trans (by decide) hR.1, Nat.le_trans (by decide) hR.2⟩ (ci := 6) rfl (j := 0) rfl hl.1 rfl (Nat.le_of_ble_eq_true rfl) qd_M_areOne_60 (fun H locs w => ?_)
      refine lv_goto (tgt := 67) F.1 F.2.1 qd_M_areOne_63 (by decide) ?_
      exact t_M_areOne_67 F hR hK hN hA hQ hk_10 _ _ _ hM w (lv_sub hl [0, 1] rfl)
  · rw [if_neg hc1] at hM
    refine lv_aload_n F.1 F.2.1 qd_M_areOne_28 rfl (lv_at hl 0 rfl) ?_
    refine mg_M_asOf F hK w qk_686 qd_M_areOne_29 ?_
    refine lv_bipush (v := 12) F.1 F.2.1 qd_M_areOne_32 (by decide) ?_
    refine lv_iload_n F.1 F.2.1 qd_M_areOne_34 rfl (lv_at hl 1 rfl) ?_
    refine lv_imul F.1 F.2.1 qd_M_areOne_35 ?_
    refine lv_iload_n F.1 F.2.1 qd_M_areOne_36 rfl (lv_at hl 2 rfl) ?_
    refine lv_iadd F.1 F.2.1 qd_M_areOne_37 ?_
    refine lv_iconst (v := (-1)) F.1 F.2.1 qd_M_areOne_38 (by decide) ?_
    obtain ⟨hi6, hM⟩ := qck_ok hM
    refine ms_M_asOf F hK w hi6 qd_M_areOne_39 (fun H locs w => ?_)
    refine lv_iinc (v := (v2 + (1 : Int32))) (lv' := [(2, .int (v2 + (1 : Int32))), (0, .ref (ad 0)), (1, .int v1)]) F.1 F.2.1 qd_M_areOne_40 hl (k := 2) rfl rfl (by decide) rfl (fun ls hl => ?_)
    refine lv_goto (tgt := 20) F.1 F.2.1 qd_M_areOne_43 (by decide) ?_
    exact hk_20 _ _ _ hM w (lv_sub hl [1, 2, 0] rfl)
set_option maxRecDepth 100000 in
set_option maxHeartbeats 4000000 in
theorem t_M_areOne_20 {p : Program} {l : Launch} {e : Env} {R : Room} {s : State} {m : MethodId} {args : Array Value} {below : List Frame} {meth : Method} {c : Code} {Q : State → Prop} {D : va_G} {ad : Nat → Nat} {cI cZ : ClassId} {A : Nat → Prop} (F : CallFix p m c qb_M_areOne 8 s args qtb "CaptureSubtypesModel") (hR : 6 ≤ R.frames ∧ 152 ≤ R.locals) (hK : va_K D qcl [(cI, .int), (cZ, .boolean)] s) (hN : qnests mns s) (hA : ∀ q, s.heap.size ≤ q → A q) {res : (Bool × (Nat → Nat → Int32))} (hQ : ∀ (H : Heap) (locs : List Loc) (pc : Nat) (ls : Array Slot), decode qb_M_areOne pc = .ok (.ireturn, 1) → mW D ad cI cZ A s.heap res.2 H locs → W p l e R s m args below meth c H locs 0 0 Q (F0 m pc ls [.int (qB res.1)])) {k_10 : (Nat → Nat → Int32) → Int32 → Option (Bool × (Nat → Nat → Int32))} (hk_10 : ∀ (S : Nat → Nat → Int32) (v1 : Int32), k_10 S v1 = some res → ∀ {H : Heap} {locs : List Loc} {ls : Array Slot}, mW D ad cI cZ A s.heap S H locs → lv_has ls 8 [(0, .ref (ad 0)), (1, .int v1)] → W p l e R s m args below meth c H locs 0 0 Q (F0 m 10 ls [])) : ∀ (n : Nat) (S : (Nat → Nat → Int32)) (v1 v2 : Int32) (hM : f_M_areOne_20 k_10 n S v1 v2 = some res) {H : Heap} {locs : List Loc} {ls : Array Slot} (w : mW D ad cI cZ A s.heap S H locs) (hl : lv_has ls 8 [(0, .ref (ad 0)), (1, .int v1), (2, .int v2)]), W p l e R s m args below meth c H locs 0 0 Q (F0 m 20 ls []) := by
  intro n
  induction n with
  | zero => intro S v1 v2 hM; exact absurd hM (by simp [f_M_areOne_20])
  | succ n ih => intro S v1 v2 hM H locs ls w hl; exact tb_M_areOne_20 F hR hK hN hA hQ hk_10 (k_20 := f_M_areOne_20 k_10 n) (fun S v1 v2 hM H locs ls w hl => ih S v1 v2 hM w hl) S v1 v2 hM w hl
set_option maxRecDepth 100000 in
set_option maxHeartbeats 4000000 in
theorem tb_M_areOne_10 {p : Program} {l : Launch} {e : Env} {R : Room} {s : State} {m : MethodId} {args : Array Value} {below : List Frame} {meth : Method} {c : Code} {Q : State → Prop} {D : va_G} {ad : Nat → Nat} {cI cZ : ClassId} {A : Nat → Prop} (F : CallFix p m c qb_M_areOne 8 s args qtb "CaptureSubtypesModel") (hR : 6 ≤ R.frames ∧ 152 ≤ R.locals) (hK : va_K D qcl [(cI, .int), (cZ, .boolean)] s) (hN : qnests mns s) (hA : ∀ q, s.heap.size ≤ q → A q) {res : (Bool × (Nat → Nat → Int32))} (hQ : ∀ (H : Heap) (locs : List Loc) (pc : Nat) (ls : Array Slot), decode qb_M_areOne pc = .ok (.ireturn, 1) → mW D ad cI cZ A s.heap res.2 H locs → W p l e R s m args below meth c H locs 0 0 Q (F0 m pc ls [.int (qB res.1)])) {k_10 : (Nat → Nat → Int32) → Int32 → Option (Bool × (Nat → Nat → Int32))} (hk_10 : ∀ (S : Nat → Nat → Int32) (v1 : Int32), k_10 S v1 = some res → ∀ {H : Heap} {locs : List Loc} {ls : Array Slot}, mW D ad cI cZ A s.heap S H locs → lv_has ls 8 [(0, .ref (ad 0)), (1, .int v1)] → W p l e R s m args below meth c H locs 0 0 Q (F0 m 10 ls [])) (S : (Nat → Nat → Int32)) (v1 : Int32) (hM : fb_M_areOne_10 k_10 S v1 = some res) {H : Heap} {locs : List Loc} {ls : Array Slot} (w : mW D ad cI cZ A s.heap S H locs) (hl : lv_has ls 8 [(0, .ref (ad 0)), (1, .int v1)]) : W p l e R s m args below meth c H locs 0 0 Q (F0 m 10 ls []) := by
  unfold fb_M_areOne_10 at hM
  refine lv_iload_n F.1 F.2.1 qd_M_areOne_10 rfl (lv_at hl 1 rfl) ?_
  refine lv_aload_n F.1 F.2.1 qd_M_areOne_11 rfl (lv_at hl 0 rfl) ?_
  refine mg_M_classes F hK w qk_655 qd_M_areOne_12 ?_
  refine lv_icmp_ge (tgt := 327) F.1 F.2.1 qd_M_areOne_15 (by decide) (fun hc1 => ?_) (fun hc1 => ?_)
  · rw [if_pos hc1] at hM
    refine lv_iconst (v := 1) F.1 F.2.1 qd_M_areOne_327 (by decide) ?_
    cases hM
    exact hQ _ _ _ _ qd_M_areOne_328 w
  · rw [if_neg hc1] at hM
    refine lv_iconst (v := 0) F.1 F.2.1 qd_M_areOne_18 (by decide) ?_
    refine lv_istore_n (lv' := [(2, .int (0 : Int32)), (0, .ref (ad 0)), (1, .int v1)]) F.1 F.2.1 qd_M_areOne_19 rfl hl (by decide) rfl (fun ls hl => ?_)
    exact t_M_areOne_20 F hR hK hN hA hQ hk_10 qfu _ _ _ hM w (lv_sub hl [1, 2, 0] rfl)
set_option maxRecDepth 100000 in
set_option maxHeartbeats 4000000 in
theorem t_M_areOne_10 {p : Program} {l : Launch} {e : Env} {R : Room} {s : State} {m : MethodId} {args : Array Value} {below : List Frame} {meth : Method} {c : Code} {Q : State → Prop} {D : va_G} {ad : Nat → Nat} {cI cZ : ClassId} {A : Nat → Prop} (F : CallFix p m c qb_M_areOne 8 s args qtb "CaptureSubtypesModel") (hR : 6 ≤ R.frames ∧ 152 ≤ R.locals) (hK : va_K D qcl [(cI, .int), (cZ, .boolean)] s) (hN : qnests mns s) (hA : ∀ q, s.heap.size ≤ q → A q) {res : (Bool × (Nat → Nat → Int32))} (hQ : ∀ (H : Heap) (locs : List Loc) (pc : Nat) (ls : Array Slot), decode qb_M_areOne pc = .ok (.ireturn, 1) → mW D ad cI cZ A s.heap res.2 H locs → W p l e R s m args below meth c H locs 0 0 Q (F0 m pc ls [.int (qB res.1)])) : ∀ (n : Nat) (S : (Nat → Nat → Int32)) (v1 : Int32) (hM : f_M_areOne_10 n S v1 = some res) {H : Heap} {locs : List Loc} {ls : Array Slot} (w : mW D ad cI cZ A s.heap S H locs) (hl : lv_has ls 8 [(0, .ref (ad 0)), (1, .int v1)]), W p l e R s m args below meth c H locs 0 0 Q (F0 m 10 ls []) := by
  intro n
  induction n with
  | zero => intro S v1 hM; exact absurd hM (by simp [f_M_areOne_10])
  | succ n ih => intro S v1 hM H locs ls w hl; exact tb_M_areOne_10 F hR hK hN hA hQ (k_10 := f_M_areOne_10 n) (fun S v1 hM H locs ls w hl => ih S v1 hM w hl) S v1 hM w hl
set_option maxRecDepth 100000 in
set_option maxHeartbeats 4000000 in
theorem t_M_areOne {p : Program} {l : Launch} {e : Env} {R : Room} {s : State} {m : MethodId} {args : Array Value} {below : List Frame} {meth : Method} {c : Code} {Q : State → Prop} {D : va_G} {ad : Nat → Nat} {cI cZ : ClassId} {A : Nat → Prop} (F : CallFix p m c qb_M_areOne 8 s args qtb "CaptureSubtypesModel") (hR : 6 ≤ R.frames ∧ 152 ≤ R.locals) (hK : va_K D qcl [(cI, .int), (cZ, .boolean)] s) (hN : qnests mns s) (hA : ∀ q, s.heap.size ≤ q → A q) {res : (Bool × (Nat → Nat → Int32))} (hQ : ∀ (H : Heap) (locs : List Loc) (pc : Nat) (ls : Array Slot), decode qb_M_areOne pc = .ok (.ireturn, 1) → mW D ad cI cZ A s.heap res.2 H locs → W p l e R s m args below meth c H locs 0 0 Q (F0 m pc ls [.int (qB res.1)])) (S : (Nat → Nat → Int32)) (hM : f_M_areOne S  = some res) {H : Heap} {locs : List Loc} {ls : Array Slot} (w : mW D ad cI cZ A s.heap S H locs) (hl : lv_has ls 8 [(0, .ref (ad 0))]) : W p l e R s m args below meth c H locs 0 0 Q (F0 m 0 ls []) := by
  unfold f_M_areOne at hM
  refine lv_aload_n F.1 F.2.1 qd_M_areOne_0 rfl (lv_at hl 0 rfl) ?_
  obtain ⟨q1, hq2, hM⟩ := qbd hM
  refine m_callv F hK hN hA w (c_M_order l D ad cI cZ hq2) qk_820 qk_822 qs_M_order qk_8 qk_823 qv_M_order rfl rfl ⟨Nat.le_trans (by decide) hR.1, Nat.le_trans (by decide) hR.2⟩ (ci := 6) rfl (j := 0) rfl hl.1 rfl (Nat.le_of_ble_eq_true rfl) qd_M_areOne_1 (fun H locs w => ?_)
  refine lv_aload_n F.1 F.2.1 qd_M_areOne_4 rfl (lv_at hl 0 rfl) ?_
  obtain ⟨q3, hq4, hM⟩ := qbd hM
  refine m_callv F hK hN hA w (c_M_fresh l D ad cI cZ hq4) qk_651 qk_653 qs_M_fresh qk_8 qk_654 qv_M_fresh rfl rfl ⟨Nat.le_trans (by decide) hR.1, Nat.le_trans (by decide) hR.2⟩ (ci := 6) rfl (j := 0) rfl hl.1 rfl (Nat.le_of_ble_eq_true rfl) qd_M_areOne_5 (fun H locs w => ?_)
  refine lv_iconst (v := 0) F.1 F.2.1 qd_M_areOne_8 (by decide) ?_
  refine lv_istore_n (lv' := [(1, .int (0 : Int32)), (0, .ref (ad 0))]) F.1 F.2.1 qd_M_areOne_9 rfl hl (by decide) rfl (fun ls hl => ?_)
  exact t_M_areOne_10 F hR hK hN hA hQ  qfu _ _ hM w (lv_sub hl [1, 0] rfl)
set_option maxRecDepth 100000 in
theorem c_M_areOne (l : Launch) (D : va_G) (ad : Nat → Nat) (cI cZ : ClassId) {S : (Nat → Nat → Int32)} {res : (Bool × (Nat → Nat → Int32))} (hM : f_M_areOne S  = some res) : mMi l qy_M_areOne qb_M_areOne 8 (some .boolean) { frames := 6, cells := 0, slots := 0, locals := 152 } D ad cI cZ S [.ref (ad 0)] (qB res.1) res.2 := m_ofz (by decide +kernel) (Nat.le_of_ble_eq_true rfl) (fun p e s m args below meth c Q A ls F hK hN hA w hl hQ => t_M_areOne F ⟨Nat.le_refl _, Nat.le_refl _⟩ hK hN hA hQ S  hM w hl)
-- M_inherit
def f_M_inherit_173 (S : (Nat → Nat → Int32)) (v1 v4 : Int32) : Option (Int32 × (Nat → Nat → Int32)) := (f_M_areOne S).bind (fun q1 => if (qB q1.1) = 0 then (if v4 = 0 then (qck (qin ((3 : Int32) * v1) 36) (some ((-5 : Int32), (qwr q1.2 3 ((3 : Int32) * v1).toNatClampNeg (-1 : Int32))))) else (qck (qin v1 12) (qck (qin v1 12) (some ((-5 : Int32), (qwr q1.2 4 v1.toNatClampNeg ((q1.2 4 v1.toNatClampNeg) - (1 : Int32)))))))) else (qck (qin v1 12) (qck (qin ((3 : Int32) * v1) 36) (if (q1.2 3 ((3 : Int32) * v1).toNatClampNeg) = (-1 : Int32) then (some (((q1.2 4 v1.toNatClampNeg) + (0 : Int32)), q1.2)) else (some (((q1.2 4 v1.toNatClampNeg) + (1 : Int32)), q1.2))))))
def f_M_inherit_130 (S : (Nat → Nat → Int32)) (v1 v2 v4 : Int32) : Option (Int32 × (Nat → Nat → Int32)) := if v4 = 0 then (qck (qin ((3 : Int32) * v1) 36) (f_M_inherit_173  (qwr S 3 ((3 : Int32) * v1).toNatClampNeg v2) v1 v4)) else (qck (qin v1 12) (qck (qin v1 12) (qck (qin v1 12) (qck (qin (((3 : Int32) * v1) + ((qwr S 4 v1.toNatClampNeg ((S 4 v1.toNatClampNeg) + (1 : Int32))) 4 v1.toNatClampNeg)) 36) (f_M_inherit_173  (qwr (qwr S 4 v1.toNatClampNeg ((S 4 v1.toNatClampNeg) + (1 : Int32))) 3 (((3 : Int32) * v1) + ((qwr S 4 v1.toNatClampNeg ((S 4 v1.toNatClampNeg) + (1 : Int32))) 4 v1.toNatClampNeg)).toNatClampNeg v2) v1 v4)))))
def f_M_inherit_97 (S : (Nat → Nat → Int32)) (v1 v2 v4 : Int32) : Option (Int32 × (Nat → Nat → Int32)) := if v4 = 0 then (qck (qin ((3 : Int32) * v1) 36) (if (S 3 ((3 : Int32) * v1).toNatClampNeg) = (-1 : Int32) then (f_M_inherit_130  S v1 v2 v4) else (some ((-3 : Int32), S)))) else (qck (qin v1 12) (if (S 4 v1.toNatClampNeg) = (2 : Int32) then (some ((-3 : Int32), S)) else (f_M_inherit_130  S v1 v2 v4)))
def f_M_inherit_49 (S : (Nat → Nat → Int32)) (v1 v2 v3 s1 : Int32) : Option (Int32 × (Nat → Nat → Int32)) := if v3 = 0 then (some ((-2 : Int32), S)) else (if v1 ≤ v3 then (some ((-2 : Int32), S)) else (qck (qin v3 12) (if (S 1 v3.toNatClampNeg) = (1 : Int32) then (some ((-2 : Int32), S)) else ((f_M_isForeign S v2 v1).bind (fun q5 => if (qB q5.1) = 0 then (qck (qin v1 12) (if (q5.2 1 v1.toNatClampNeg) ≤ (2 : Int32) then (f_M_inherit_97  q5.2 v1 v2 s1) else (if s1 = 0 then (some ((-2 : Int32), q5.2)) else (f_M_inherit_97  q5.2 v1 v2 s1)))) else (some ((-2 : Int32), q5.2)))))))
def f_M_inherit (S : (Nat → Nat → Int32)) (a1 a2 : Int32) : Option (Int32 × (Nat → Nat → Int32)) := (f_M_isClass S a1).bind (fun q1 => if (qB q1) = 0 then (some ((-2 : Int32), S)) else ((f_M_isType S a2).bind (fun q4 => if (qB q4) = 0 then (some ((-2 : Int32), S)) else ((f_M_isOfClass S a2).bind (fun q7 => if (qB q7) = 0 then (some ((-2 : Int32), S)) else (qck (qin a2 9000) (qck (qin (S 10 a2.toNatClampNeg) 12) (if (S 1 (S 10 a2.toNatClampNeg).toNatClampNeg) ≤ (2 : Int32) then (f_M_inherit_49  S a1 a2 (S 10 a2.toNatClampNeg) (0 : Int32)) else (f_M_inherit_49  S a1 a2 (S 10 a2.toNatClampNeg) (1 : Int32))))))))))
set_option maxRecDepth 100000 in
set_option maxHeartbeats 4000000 in
theorem t_M_inherit_173 {p : Program} {l : Launch} {e : Env} {R : Room} {s : State} {m : MethodId} {args : Array Value} {below : List Frame} {meth : Method} {c : Code} {Q : State → Prop} {D : va_G} {ad : Nat → Nat} {cI cZ : ClassId} {A : Nat → Prop} (F : CallFix p m c qb_M_inherit 5 s args qtb "CaptureSubtypesModel") (hR : 7 ≤ R.frames ∧ 179 ≤ R.locals) (hK : va_K D qcl [(cI, .int), (cZ, .boolean)] s) (hN : qnests mns s) (hA : ∀ q, s.heap.size ≤ q → A q) {res : (Int32 × (Nat → Nat → Int32))} (hQ : ∀ (H : Heap) (locs : List Loc) (pc : Nat) (ls : Array Slot), decode qb_M_inherit pc = .ok (.ireturn, 1) → mW D ad cI cZ A s.heap res.2 H locs → W p l e R s m args below meth c H locs 0 0 Q (F0 m pc ls [.int res.1])) (S : (Nat → Nat → Int32)) (v1 v4 : Int32) (hM : f_M_inherit_173 S v1 v4 = some res) {H : Heap} {locs : List Loc} {ls : Array Slot} (w : mW D ad cI cZ A s.heap S H locs) (hl : lv_has ls 5 [(0, .ref (ad 0)), (1, .int v1), (4, .int v4)]) : W p l e R s m args below meth c H locs 0 0 Q (F0 m 173 ls []) := by
  unfold f_M_inherit_173 at hM
  refine lv_aload_n F.1 F.2.1 qd_M_inherit_173 rfl (lv_at hl 0 rfl) ?_
  obtain ⟨q1, hq2, hM⟩ := qbd hM
  refine m_calli F hK hN hA w (c_M_areOne l D ad cI cZ hq2) qk_984 qk_986 qs_M_areOne qk_8 qk_987 qv_M_areOne rfl rfl ⟨Nat.le_trans (by decide) hR.1, Nat.le_trans (by decide) hR.2⟩ (ci := 6) rfl (j := 0) rfl hl.1 rfl (Nat.le_of_ble_eq_true rfl) qd_M_inherit_174 (fun H locs w => ?_)
  refine lv_if_ne (tgt := 210) F.1 F.2.1 qd_M_inherit_177 (by decide) (fun hc3 => ?_) (fun hc3 => ?_)
  · rw [if_neg hc3] at hM
    refine lv_aload_n F.1 F.2.1 qd_M_inherit_210 rfl (lv_at hl 0 rfl) ?_
    refine mg_M_others F hK w qk_659 qd_M_inherit_211 ?_
    refine lv_iload_n F.1 F.2.1 qd_M_inherit_214 rfl (lv_at hl 1 rfl) ?_
    obtain ⟨hi4, hM⟩ := qck_ok hM
    refine ml_M_others F hK w hi4 qd_M_inherit_215 ?_
    refine lv_aload_n F.1 F.2.1 qd_M_inherit_216 rfl (lv_at hl 0 rfl) ?_
    refine mg_M_supers F hK w qk_658 qd_M_inherit_217 ?_
    refine lv_iconst (v := 3) F.1 F.2.1 qd_M_inherit_220 (by decide) ?_
    refine lv_iload_n F.1 F.2.1 qd_M_inherit_221 rfl (lv_at hl 1 rfl) ?_
    refine lv_imul F.1 F.2.1 qd_M_inherit_222 ?_
    obtain ⟨hi5, hM⟩ := qck_ok hM
    refine ml_M_supers F hK w hi5 qd_M_inherit_223 ?_
    refine lv_iconst (v := (-1)) F.1 F.2.1 qd_M_inherit_224 (by decide) ?_
    refine lv_icmp_eq (tgt := 232) F.1 F.2.1 qd_M_inherit_225 (by decide) (fun hc6 => ?_) (fun hc6 => ?_)
    · rw [if_pos hc6] at hM
      refine lv_iconst (v := 0) F.1 F.2.1 qd_M_inherit_232 (by decide) ?_
      refine lv_iadd F.1 F.2.1 qd_M_inherit_233 ?_
      cases hM
      exact hQ _ _ _ _ qd_M_inherit_234 w
    · rw [if_neg hc6] at hM
      refine lv_iconst (v := 1) F.1 F.2.1 qd_M_inherit_228 (by decide) ?_
      refine lv_goto (tgt := 233) F.1 F.2.1 qd_M_inherit_229 (by decide) ?_
      refine lv_iadd F.1 F.2.1 qd_M_inherit_233 ?_
      cases hM
      exact hQ _ _ _ _ qd_M_inherit_234 w
  · rw [if_pos hc3] at hM
    refine lv_iload F.1 F.2.1 qd_M_inherit_180 (lv_at hl 2 rfl) ?_
    refine lv_if_eq (tgt := 198) F.1 F.2.1 qd_M_inherit_182 (by decide) (fun hc7 => ?_) (fun hc7 => ?_)
    · rw [if_pos hc7] at hM
      refine lv_aload_n F.1 F.2.1 qd_M_inherit_198 rfl (lv_at hl 0 rfl) ?_
      refine mg_M_supers F hK w qk_658 qd_M_inherit_199 ?_
      refine lv_iconst (v := 3) F.1 F.2.1 qd_M_inherit_202 (by decide) ?_
      refine lv_iload_n F.1 F.2.1 qd_M_inherit_203 rfl (lv_at hl 1 rfl) ?_
      refine lv_imul F.1 F.2.1 qd_M_inherit_204 ?_
      refine lv_iconst (v := (-1)) F.1 F.2.1 qd_M_inherit_205 (by decide) ?_
      obtain ⟨hi8, hM⟩ := qck_ok hM
      refine ms_M_supers F hK w hi8 qd_M_inherit_206 (fun H locs w => ?_)
      refine lv_bipush (v := (-5)) F.1 F.2.1 qd_M_inherit_207 (by decide) ?_
      cases hM
      exact hQ _ _ _ _ qd_M_inherit_209 w
    · rw [if_neg hc7] at hM
      refine lv_aload_n F.1 F.2.1 qd_M_inherit_185 rfl (lv_at hl 0 rfl) ?_
      refine mg_M_others F hK w qk_659 qd_M_inherit_186 ?_
      refine lv_iload_n F.1 F.2.1 qd_M_inherit_189 rfl (lv_at hl 1 rfl) ?_
      refine lv_dup2_11 F.1 F.2.1 qd_M_inherit_190 rfl rfl ?_
      obtain ⟨hi9, hM⟩ := qck_ok hM
      refine ml_M_others F hK w hi9 qd_M_inherit_191 ?_
      refine lv_iconst (v := 1) F.1 F.2.1 qd_M_inherit_192 (by decide) ?_
      refine lv_isub F.1 F.2.1 qd_M_inherit_193 ?_
      obtain ⟨hi10, hM⟩ := qck_ok hM
      refine ms_M_others F hK w hi10 qd_M_inherit_194 (fun H locs w => ?_)
      refine lv_goto (tgt := 207) F.1 F.2.1 qd_M_inherit_195 (by decide) ?_
      refine lv_bipush (v := (-5)) F.1 F.2.1 qd_M_inherit_207 (by decide) ?_
      cases hM
      exact hQ _ _ _ _ qd_M_inherit_209 w
set_option maxRecDepth 100000 in
set_option maxHeartbeats 4000000 in
theorem t_M_inherit_130 {p : Program} {l : Launch} {e : Env} {R : Room} {s : State} {m : MethodId} {args : Array Value} {below : List Frame} {meth : Method} {c : Code} {Q : State → Prop} {D : va_G} {ad : Nat → Nat} {cI cZ : ClassId} {A : Nat → Prop} (F : CallFix p m c qb_M_inherit 5 s args qtb "CaptureSubtypesModel") (hR : 7 ≤ R.frames ∧ 179 ≤ R.locals) (hK : va_K D qcl [(cI, .int), (cZ, .boolean)] s) (hN : qnests mns s) (hA : ∀ q, s.heap.size ≤ q → A q) {res : (Int32 × (Nat → Nat → Int32))} (hQ : ∀ (H : Heap) (locs : List Loc) (pc : Nat) (ls : Array Slot), decode qb_M_inherit pc = .ok (.ireturn, 1) → mW D ad cI cZ A s.heap res.2 H locs → W p l e R s m args below meth c H locs 0 0 Q (F0 m pc ls [.int res.1])) (S : (Nat → Nat → Int32)) (v1 v2 v4 : Int32) (hM : f_M_inherit_130 S v1 v2 v4 = some res) {H : Heap} {locs : List Loc} {ls : Array Slot} (w : mW D ad cI cZ A s.heap S H locs) (hl : lv_has ls 5 [(0, .ref (ad 0)), (1, .int v1), (2, .int v2), (4, .int v4)]) : W p l e R s m args below meth c H locs 0 0 Q (F0 m 130 ls []) := by
  unfold f_M_inherit_130 at hM
  refine lv_iload F.1 F.2.1 qd_M_inherit_130 (lv_at hl 3 rfl) ?_
  refine lv_if_eq (tgt := 164) F.1 F.2.1 qd_M_inherit_132 (by decide) (fun hc1 => ?_) (fun hc1 => ?_)
  · rw [if_pos hc1] at hM
    refine lv_aload_n F.1 F.2.1 qd_M_inherit_164 rfl (lv_at hl 0 rfl) ?_
    refine mg_M_supers F hK w qk_658 qd_M_inherit_165 ?_
    refine lv_iconst (v := 3) F.1 F.2.1 qd_M_inherit_168 (by decide) ?_
    refine lv_iload_n F.1 F.2.1 qd_M_inherit_169 rfl (lv_at hl 1 rfl) ?_
    refine lv_imul F.1 F.2.1 qd_M_inherit_170 ?_
    refine lv_iload_n F.1 F.2.1 qd_M_inherit_171 rfl (lv_at hl 2 rfl) ?_
    obtain ⟨hi2, hM⟩ := qck_ok hM
    refine ms_M_supers F hK w hi2 qd_M_inherit_172 (fun H locs w => ?_)
    exact t_M_inherit_173 F hR hK hN hA hQ  _ _ _ hM w (lv_sub hl [0, 1, 3] rfl)
  · rw [if_neg hc1] at hM
    refine lv_aload_n F.1 F.2.1 qd_M_inherit_135 rfl (lv_at hl 0 rfl) ?_
    refine mg_M_others F hK w qk_659 qd_M_inherit_136 ?_
    refine lv_iload_n F.1 F.2.1 qd_M_inherit_139 rfl (lv_at hl 1 rfl) ?_
    refine lv_dup2_11 F.1 F.2.1 qd_M_inherit_140 rfl rfl ?_
    obtain ⟨hi3, hM⟩ := qck_ok hM
    refine ml_M_others F hK w hi3 qd_M_inherit_141 ?_
    refine lv_iconst (v := 1) F.1 F.2.1 qd_M_inherit_142 (by decide) ?_
    refine lv_iadd F.1 F.2.1 qd_M_inherit_143 ?_
    obtain ⟨hi4, hM⟩ := qck_ok hM
    refine ms_M_others F hK w hi4 qd_M_inherit_144 (fun H locs w => ?_)
    refine lv_aload_n F.1 F.2.1 qd_M_inherit_145 rfl (lv_at hl 0 rfl) ?_
    refine mg_M_supers F hK w qk_658 qd_M_inherit_146 ?_
    refine lv_iconst (v := 3) F.1 F.2.1 qd_M_inherit_149 (by decide) ?_
    refine lv_iload_n F.1 F.2.1 qd_M_inherit_150 rfl (lv_at hl 1 rfl) ?_
    refine lv_imul F.1 F.2.1 qd_M_inherit_151 ?_
    refine lv_aload_n F.1 F.2.1 qd_M_inherit_152 rfl (lv_at hl 0 rfl) ?_
    refine mg_M_others F hK w qk_659 qd_M_inherit_153 ?_
    refine lv_iload_n F.1 F.2.1 qd_M_inherit_156 rfl (lv_at hl 1 rfl) ?_
    obtain ⟨hi5, hM⟩ := qck_ok hM
    refine ml_M_others F hK w hi5 qd_M_inherit_157 ?_
    refine lv_iadd F.1 F.2.1 qd_M_inherit_158 ?_
    refine lv_iload_n F.1 F.2.1 qd_M_inherit_159 rfl (lv_at hl 2 rfl) ?_
    obtain ⟨hi6, hM⟩ := qck_ok hM
    refine ms_M_supers F hK w hi6 qd_M_inherit_160 (fun H locs w => ?_)
    refine lv_goto (tgt := 173) F.1 F.2.1 qd_M_inherit_161 (by decide) ?_
    exact t_M_inherit_173 F hR hK hN hA hQ  _ _ _ hM w (lv_sub hl [0, 1, 3] rfl)
set_option maxRecDepth 100000 in
set_option maxHeartbeats 4000000 in
theorem t_M_inherit_97 {p : Program} {l : Launch} {e : Env} {R : Room} {s : State} {m : MethodId} {args : Array Value} {below : List Frame} {meth : Method} {c : Code} {Q : State → Prop} {D : va_G} {ad : Nat → Nat} {cI cZ : ClassId} {A : Nat → Prop} (F : CallFix p m c qb_M_inherit 5 s args qtb "CaptureSubtypesModel") (hR : 7 ≤ R.frames ∧ 179 ≤ R.locals) (hK : va_K D qcl [(cI, .int), (cZ, .boolean)] s) (hN : qnests mns s) (hA : ∀ q, s.heap.size ≤ q → A q) {res : (Int32 × (Nat → Nat → Int32))} (hQ : ∀ (H : Heap) (locs : List Loc) (pc : Nat) (ls : Array Slot), decode qb_M_inherit pc = .ok (.ireturn, 1) → mW D ad cI cZ A s.heap res.2 H locs → W p l e R s m args below meth c H locs 0 0 Q (F0 m pc ls [.int res.1])) (S : (Nat → Nat → Int32)) (v1 v2 v4 : Int32) (hM : f_M_inherit_97 S v1 v2 v4 = some res) {H : Heap} {locs : List Loc} {ls : Array Slot} (w : mW D ad cI cZ A s.heap S H locs) (hl : lv_has ls 5 [(0, .ref (ad 0)), (1, .int v1), (2, .int v2), (4, .int v4)]) : W p l e R s m args below meth c H locs 0 0 Q (F0 m 97 ls []) := by
  unfold f_M_inherit_97 at hM
  refine lv_iload F.1 F.2.1 qd_M_inherit_97 (lv_at hl 3 rfl) ?_
  refine lv_if_eq (tgt := 115) F.1 F.2.1 qd_M_inherit_99 (by decide) (fun hc1 => ?_) (fun hc1 => ?_)
  · rw [if_pos hc1] at hM
    refine lv_aload_n F.1 F.2.1 qd_M_inherit_115 rfl (lv_at hl 0 rfl) ?_
    refine mg_M_supers F hK w qk_658 qd_M_inherit_116 ?_
    refine lv_iconst (v := 3) F.1 F.2.1 qd_M_inherit_119 (by decide) ?_
    refine lv_iload_n F.1 F.2.1 qd_M_inherit_120 rfl (lv_at hl 1 rfl) ?_
    refine lv_imul F.1 F.2.1 qd_M_inherit_121 ?_
    obtain ⟨hi2, hM⟩ := qck_ok hM
    refine ml_M_supers F hK w hi2 qd_M_inherit_122 ?_
    refine lv_iconst (v := (-1)) F.1 F.2.1 qd_M_inherit_123 (by decide) ?_
    refine lv_icmp_eq (tgt := 130) F.1 F.2.1 qd_M_inherit_124 (by decide) (fun hc3 => ?_) (fun hc3 => ?_)
    · rw [if_pos hc3] at hM
      exact t_M_inherit_130 F hR hK hN hA hQ  _ _ _ _ hM w (lv_sub hl [0, 1, 2, 3] rfl)
    · rw [if_neg hc3] at hM
      refine lv_bipush (v := (-3)) F.1 F.2.1 qd_M_inherit_127 (by decide) ?_
      cases hM
      exact hQ _ _ _ _ qd_M_inherit_129 w
  · rw [if_neg hc1] at hM
    refine lv_aload_n F.1 F.2.1 qd_M_inherit_102 rfl (lv_at hl 0 rfl) ?_
    refine mg_M_others F hK w qk_659 qd_M_inherit_103 ?_
    refine lv_iload_n F.1 F.2.1 qd_M_inherit_106 rfl (lv_at hl 1 rfl) ?_
    obtain ⟨hi4, hM⟩ := qck_ok hM
    refine ml_M_others F hK w hi4 qd_M_inherit_107 ?_
    refine lv_iconst (v := 2) F.1 F.2.1 qd_M_inherit_108 (by decide) ?_
    refine lv_icmp_ne (tgt := 130) F.1 F.2.1 qd_M_inherit_109 (by decide) (fun hc5 => ?_) (fun hc5 => ?_)
    · rw [if_neg hc5] at hM
      exact t_M_inherit_130 F hR hK hN hA hQ  _ _ _ _ hM w (lv_sub hl [0, 1, 2, 3] rfl)
    · rw [if_pos hc5] at hM
      refine lv_goto (tgt := 127) F.1 F.2.1 qd_M_inherit_112 (by decide) ?_
      refine lv_bipush (v := (-3)) F.1 F.2.1 qd_M_inherit_127 (by decide) ?_
      cases hM
      exact hQ _ _ _ _ qd_M_inherit_129 w
set_option maxRecDepth 100000 in
set_option maxHeartbeats 4000000 in
theorem t_M_inherit_49 {p : Program} {l : Launch} {e : Env} {R : Room} {s : State} {m : MethodId} {args : Array Value} {below : List Frame} {meth : Method} {c : Code} {Q : State → Prop} {D : va_G} {ad : Nat → Nat} {cI cZ : ClassId} {A : Nat → Prop} (F : CallFix p m c qb_M_inherit 5 s args qtb "CaptureSubtypesModel") (hR : 7 ≤ R.frames ∧ 179 ≤ R.locals) (hK : va_K D qcl [(cI, .int), (cZ, .boolean)] s) (hN : qnests mns s) (hA : ∀ q, s.heap.size ≤ q → A q) {res : (Int32 × (Nat → Nat → Int32))} (hQ : ∀ (H : Heap) (locs : List Loc) (pc : Nat) (ls : Array Slot), decode qb_M_inherit pc = .ok (.ireturn, 1) → mW D ad cI cZ A s.heap res.2 H locs → W p l e R s m args below meth c H locs 0 0 Q (F0 m pc ls [.int res.1])) (S : (Nat → Nat → Int32)) (v1 v2 v3 s1 : Int32) (hM : f_M_inherit_49 S v1 v2 v3 s1 = some res) {H : Heap} {locs : List Loc} {ls : Array Slot} (w : mW D ad cI cZ A s.heap S H locs) (hl : lv_has ls 5 [(0, .ref (ad 0)), (1, .int v1), (2, .int v2), (3, .int v3)]) : W p l e R s m args below meth c H locs 0 0 Q (F0 m 49 ls [.int s1]) := by
  unfold f_M_inherit_49 at hM
  refine lv_istore (lv' := [(4, .int s1), (0, .ref (ad 0)), (1, .int v1), (2, .int v2), (3, .int v3)]) F.1 F.2.1 qd_M_inherit_49 hl (by decide) rfl (fun ls hl => ?_)
  refine lv_iload_n F.1 F.2.1 qd_M_inherit_51 rfl (lv_at hl 4 rfl) ?_
  refine lv_if_eq (tgt := 94) F.1 F.2.1 qd_M_inherit_52 (by decide) (fun hc1 => ?_) (fun hc1 => ?_)
  · rw [if_pos hc1] at hM
    refine lv_bipush (v := (-2)) F.1 F.2.1 qd_M_inherit_94 (by decide) ?_
    cases hM
    exact hQ _ _ _ _ qd_M_inherit_96 w
  · rw [if_neg hc1] at hM
    refine lv_iload_n F.1 F.2.1 qd_M_inherit_55 rfl (lv_at hl 4 rfl) ?_
    refine lv_iload_n F.1 F.2.1 qd_M_inherit_56 rfl (lv_at hl 2 rfl) ?_
    refine lv_icmp_ge (tgt := 94) F.1 F.2.1 qd_M_inherit_57 (by decide) (fun hc2 => ?_) (fun hc2 => ?_)
    · rw [if_pos hc2] at hM
      refine lv_bipush (v := (-2)) F.1 F.2.1 qd_M_inherit_94 (by decide) ?_
      cases hM
      exact hQ _ _ _ _ qd_M_inherit_96 w
    · rw [if_neg hc2] at hM
      refine lv_aload_n F.1 F.2.1 qd_M_inherit_60 rfl (lv_at hl 1 rfl) ?_
      refine mg_M_kinds F hK w qk_656 qd_M_inherit_61 ?_
      refine lv_iload_n F.1 F.2.1 qd_M_inherit_64 rfl (lv_at hl 4 rfl) ?_
      obtain ⟨hi3, hM⟩ := qck_ok hM
      refine ml_M_kinds F hK w hi3 qd_M_inherit_65 ?_
      refine lv_iconst (v := 1) F.1 F.2.1 qd_M_inherit_66 (by decide) ?_
      refine lv_icmp_eq (tgt := 94) F.1 F.2.1 qd_M_inherit_67 (by decide) (fun hc4 => ?_) (fun hc4 => ?_)
      · rw [if_pos hc4] at hM
        refine lv_bipush (v := (-2)) F.1 F.2.1 qd_M_inherit_94 (by decide) ?_
        cases hM
        exact hQ _ _ _ _ qd_M_inherit_96 w
      · rw [if_neg hc4] at hM
        refine lv_aload_n F.1 F.2.1 qd_M_inherit_70 rfl (lv_at hl 1 rfl) ?_
        refine lv_iload_n F.1 F.2.1 qd_M_inherit_71 rfl (lv_at hl 3 rfl) ?_
        refine lv_iload_n F.1 F.2.1 qd_M_inherit_72 rfl (lv_at hl 2 rfl) ?_
        obtain ⟨q5, hq6, hM⟩ := qbd hM
        refine m_calli F hK hN hA w (c_M_isForeign l D ad cI cZ hq6) qk_980 qk_982 qs_M_isForeign qk_8 qk_983 qv_M_isForeign rfl rfl ⟨Nat.le_trans (by decide) hR.1, Nat.le_trans (by decide) hR.2⟩ (ci := 6) rfl (j := 0) rfl hl.1 rfl (Nat.le_of_ble_eq_true rfl) qd_M_inherit_73 (fun H locs w => ?_)
        refine lv_if_ne (tgt := 94) F.1 F.2.1 qd_M_inherit_76 (by decide) (fun hc7 => ?_) (fun hc7 => ?_)
        · rw [if_neg hc7] at hM
          refine lv_bipush (v := (-2)) F.1 F.2.1 qd_M_inherit_94 (by decide) ?_
          cases hM
          exact hQ _ _ _ _ qd_M_inherit_96 w
        · rw [if_pos hc7] at hM
          refine lv_aload_n F.1 F.2.1 qd_M_inherit_79 rfl (lv_at hl 1 rfl) ?_
          refine mg_M_kinds F hK w qk_656 qd_M_inherit_80 ?_
          refine lv_iload_n F.1 F.2.1 qd_M_inherit_83 rfl (lv_at hl 2 rfl) ?_
          obtain ⟨hi8, hM⟩ := qck_ok hM
          refine ml_M_kinds F hK w hi8 qd_M_inherit_84 ?_
          refine lv_iconst (v := 2) F.1 F.2.1 qd_M_inherit_85 (by decide) ?_
          refine lv_icmp_le (tgt := 97) F.1 F.2.1 qd_M_inherit_86 (by decide) (fun hc9 => ?_) (fun hc9 => ?_)
          · rw [if_pos hc9] at hM
            exact t_M_inherit_97 F hR hK hN hA hQ  _ _ _ _ hM w (lv_sub hl [1, 2, 3, 0] rfl)
          · rw [if_neg hc9] at hM
            refine lv_iload F.1 F.2.1 qd_M_inherit_89 (lv_at hl 0 rfl) ?_
            refine lv_if_ne (tgt := 97) F.1 F.2.1 qd_M_inherit_91 (by decide) (fun hc10 => ?_) (fun hc10 => ?_)
            · rw [if_neg hc10] at hM
              exact t_M_inherit_97 F hR hK hN hA hQ  _ _ _ _ hM w (lv_sub hl [1, 2, 3, 0] rfl)
            · rw [if_pos hc10] at hM
              refine lv_bipush (v := (-2)) F.1 F.2.1 qd_M_inherit_94 (by decide) ?_
              cases hM
              exact hQ _ _ _ _ qd_M_inherit_96 w
set_option maxRecDepth 100000 in
set_option maxHeartbeats 4000000 in
theorem t_M_inherit {p : Program} {l : Launch} {e : Env} {R : Room} {s : State} {m : MethodId} {args : Array Value} {below : List Frame} {meth : Method} {c : Code} {Q : State → Prop} {D : va_G} {ad : Nat → Nat} {cI cZ : ClassId} {A : Nat → Prop} (F : CallFix p m c qb_M_inherit 5 s args qtb "CaptureSubtypesModel") (hR : 7 ≤ R.frames ∧ 179 ≤ R.locals) (hK : va_K D qcl [(cI, .int), (cZ, .boolean)] s) (hN : qnests mns s) (hA : ∀ q, s.heap.size ≤ q → A q) {res : (Int32 × (Nat → Nat → Int32))} (hQ : ∀ (H : Heap) (locs : List Loc) (pc : Nat) (ls : Array Slot), decode qb_M_inherit pc = .ok (.ireturn, 1) → mW D ad cI cZ A s.heap res.2 H locs → W p l e R s m args below meth c H locs 0 0 Q (F0 m pc ls [.int res.1])) (S : (Nat → Nat → Int32)) (a1 a2 : Int32) (hM : f_M_inherit S a1 a2 = some res) {H : Heap} {locs : List Loc} {ls : Array Slot} (w : mW D ad cI cZ A s.heap S H locs) (hl : lv_has ls 5 [(0, .ref (ad 0)), (1, .int a1), (2, .int a2)]) : W p l e R s m args below meth c H locs 0 0 Q (F0 m 0 ls []) := by
  unfold f_M_inherit at hM
  refine lv_aload_n F.1 F.2.1 qd_M_inherit_0 rfl (lv_at hl 0 rfl) ?_
  refine lv_iload_n F.1 F.2.1 qd_M_inherit_1 rfl (lv_at hl 1 rfl) ?_
  obtain ⟨q1, hq2, hM⟩ := qbd hM
  refine m_calli F hK hN hA w (c_M_isClass l D ad cI cZ hq2) qk_768 qk_770 qs_M_isClass qk_8 qk_771 qv_M_isClass rfl rfl ⟨Nat.le_trans (by decide) hR.1, Nat.le_trans (by decide) hR.2⟩ (ci := 6) rfl (j := 0) rfl hl.1 rfl (Nat.le_of_ble_eq_true rfl) qd_M_inherit_2 (fun H locs w => ?_)
  refine lv_if_eq (tgt := 24) F.1 F.2.1 qd_M_inherit_5 (by decide) (fun hc3 => ?_) (fun hc3 => ?_)
  · rw [if_pos hc3] at hM
    refine lv_bipush (v := (-2)) F.1 F.2.1 qd_M_inherit_24 (by decide) ?_
    cases hM
    exact hQ _ _ _ _ qd_M_inherit_26 w
  · rw [if_neg hc3] at hM
    refine lv_aload_n F.1 F.2.1 qd_M_inherit_8 rfl (lv_at hl 0 rfl) ?_
    refine lv_iload_n F.1 F.2.1 qd_M_inherit_9 rfl (lv_at hl 2 rfl) ?_
    obtain ⟨q4, hq5, hM⟩ := qbd hM
    refine m_calli F hK hN hA w (c_M_isType l D ad cI cZ hq5) qk_792 qk_794 qs_M_isType qk_8 qk_795 qv_M_isType rfl rfl ⟨Nat.le_trans (by decide) hR.1, Nat.le_trans (by decide) hR.2⟩ (ci := 6) rfl (j := 0) rfl hl.1 rfl (Nat.le_of_ble_eq_true rfl) qd_M_inherit_10 (fun H locs w => ?_)
    refine lv_if_eq (tgt := 24) F.1 F.2.1 qd_M_inherit_13 (by decide) (fun hc6 => ?_) (fun hc6 => ?_)
    · rw [if_pos hc6] at hM
      refine lv_bipush (v := (-2)) F.1 F.2.1 qd_M_inherit_24 (by decide) ?_
      cases hM
      exact hQ _ _ _ _ qd_M_inherit_26 w
    · rw [if_neg hc6] at hM
      refine lv_aload_n F.1 F.2.1 qd_M_inherit_16 rfl (lv_at hl 0 rfl) ?_
      refine lv_iload_n F.1 F.2.1 qd_M_inherit_17 rfl (lv_at hl 2 rfl) ?_
      obtain ⟨q7, hq8, hM⟩ := qbd hM
      refine m_calli F hK hN hA w (c_M_isOfClass l D ad cI cZ hq8) qk_900 qk_902 qs_M_isOfClass qk_8 qk_903 qv_M_isOfClass rfl rfl ⟨Nat.le_trans (by decide) hR.1, Nat.le_trans (by decide) hR.2⟩ (ci := 6) rfl (j := 0) rfl hl.1 rfl (Nat.le_of_ble_eq_true rfl) qd_M_inherit_18 (fun H locs w => ?_)
      refine lv_if_ne (tgt := 27) F.1 F.2.1 qd_M_inherit_21 (by decide) (fun hc9 => ?_) (fun hc9 => ?_)
      · rw [if_neg hc9] at hM
        refine lv_aload_n F.1 F.2.1 qd_M_inherit_27 rfl (lv_at hl 0 rfl) ?_
        refine mg_M_first F hK w qk_665 qd_M_inherit_28 ?_
        refine lv_iload_n F.1 F.2.1 qd_M_inherit_31 rfl (lv_at hl 2 rfl) ?_
        obtain ⟨hi10, hM⟩ := qck_ok hM
        refine ml_M_first F hK w hi10 qd_M_inherit_32 ?_
        refine lv_istore_n (lv' := [(3, .int (S 10 a2.toNatClampNeg)), (0, .ref (ad 0)), (1, .int a1), (2, .int a2)]) F.1 F.2.1 qd_M_inherit_33 rfl hl (by decide) rfl (fun ls hl => ?_)
        refine lv_aload_n F.1 F.2.1 qd_M_inherit_34 rfl (lv_at hl 1 rfl) ?_
        refine mg_M_kinds F hK w qk_656 qd_M_inherit_35 ?_
        refine lv_iload_n F.1 F.2.1 qd_M_inherit_38 rfl (lv_at hl 0 rfl) ?_
        obtain ⟨hi11, hM⟩ := qck_ok hM
        refine ml_M_kinds F hK w hi11 qd_M_inherit_39 ?_
        refine lv_iconst (v := 2) F.1 F.2.1 qd_M_inherit_40 (by decide) ?_
        refine lv_icmp_le (tgt := 48) F.1 F.2.1 qd_M_inherit_41 (by decide) (fun hc12 => ?_) (fun hc12 => ?_)
        · rw [if_pos hc12] at hM
          refine lv_iconst (v := 0) F.1 F.2.1 qd_M_inherit_48 (by decide) ?_
          exact t_M_inherit_49 F hR hK hN hA hQ  _ _ _ _ _ hM w (lv_sub hl [1, 2, 3, 0] rfl)
        · rw [if_neg hc12] at hM
          refine lv_iconst (v := 1) F.1 F.2.1 qd_M_inherit_44 (by decide) ?_
          refine lv_goto (tgt := 49) F.1 F.2.1 qd_M_inherit_45 (by decide) ?_
          exact t_M_inherit_49 F hR hK hN hA hQ  _ _ _ _ _ hM w (lv_sub hl [1, 2, 3, 0] rfl)
      · rw [if_pos hc9] at hM
        refine lv_bipush (v := (-2)) F.1 F.2.1 qd_M_inherit_24 (by decide) ?_
        cases hM
        exact hQ _ _ _ _ qd_M_inherit_26 w
set_option maxRecDepth 100000 in
theorem c_M_inherit (l : Launch) (D : va_G) (ad : Nat → Nat) (cI cZ : ClassId) {S : (Nat → Nat → Int32)} {a1 a2 : Int32} {res : (Int32 × (Nat → Nat → Int32))} (hM : f_M_inherit S a1 a2 = some res) : mMi l qy_M_inherit qb_M_inherit 5 (some .int) { frames := 7, cells := 0, slots := 0, locals := 179 } D ad cI cZ S [.ref (ad 0), .int a1, .int a2] res.1 res.2 := m_ofi (by decide +kernel) (Nat.le_of_ble_eq_true rfl) (fun p e s m args below meth c Q A ls F hK hN hA w hl hQ => t_M_inherit F ⟨Nat.le_refl _, Nat.le_refl _⟩ hK hN hA hQ S a1 a2 hM w hl)
-- M_bind
def f_M_bind_123 (S : (Nat → Nat → Int32)) (v3 v4 : Int32) : Option (Int32 × (Nat → Nat → Int32)) := qck (qin v4 24) (if (S 6 v4.toNatClampNeg) = (2 : Int32) then (some ((-3 : Int32), S)) else (qck (qin v4 24) (qck (qin (((2 : Int32) * v4) + (S 6 v4.toNatClampNeg)) 48) (qck (qin v4 24) (qck (qin v4 24) (qck (qin v4 24) (some (((qwr (qwr S 5 (((2 : Int32) * v4) + (S 6 v4.toNatClampNeg)).toNatClampNeg v3) 6 v4.toNatClampNeg (((qwr S 5 (((2 : Int32) * v4) + (S 6 v4.toNatClampNeg)).toNatClampNeg v3) 6 v4.toNatClampNeg) + (1 : Int32))) 6 v4.toNatClampNeg), (qwr (qwr S 5 (((2 : Int32) * v4) + (S 6 v4.toNatClampNeg)).toNatClampNeg v3) 6 v4.toNatClampNeg (((qwr S 5 (((2 : Int32) * v4) + (S 6 v4.toNatClampNeg)).toNatClampNeg v3) 6 v4.toNatClampNeg) + (1 : Int32)))))))))))
def f_M_bind_85 (S : (Nat → Nat → Int32)) (v3 v4 : Int32) : Option (Int32 × (Nat → Nat → Int32)) := qck (qin v4 24) (if (S 6 v4.toNatClampNeg) ≤ 0 then (f_M_bind_123  S v3 v4) else (qck (qin v3 9000) (if (S 9 v3.toNatClampNeg) = (3 : Int32) then (some ((-2 : Int32), S)) else (qck (qin v3 9000) (qck (qin (S 10 v3.toNatClampNeg) 12) (if (3 : Int32) ≤ (S 1 (S 10 v3.toNatClampNeg).toNatClampNeg) then (f_M_bind_123  S v3 v4) else (some ((-2 : Int32), S))))))))
def f_M_bind (S : (Nat → Nat → Int32)) (a1 a2 a3 : Int32) : Option (Int32 × (Nat → Nat → Int32)) := (f_M_isClass S a1).bind (fun q1 => if (qB q1) = 0 then (some ((-2 : Int32), S)) else (qck (qin a1 12) ((f_M_isIn S a2 (0 : Int32) ((S 2 a1.toNatClampNeg) - (1 : Int32))).bind (fun q5 => if (qB q5) = 0 then (some ((-2 : Int32), S)) else ((f_M_isType S a3).bind (fun q8 => if (qB q8) = 0 then (some ((-2 : Int32), S)) else (if a3 = 0 then (some ((-2 : Int32), S)) else (qck (qin a3 9000) (if (3 : Int32) < (S 9 a3.toNatClampNeg) then (some ((-2 : Int32), S)) else ((f_M_isForeign S a3 a1).bind (fun q14 => if (qB q14.1) = 0 then (qck (qin a3 9000) (if (q14.2 9 a3.toNatClampNeg) = (3 : Int32) then (qck (qin a3 9000) (if a2 ≤ (q14.2 11 a3.toNatClampNeg) then (some ((-2 : Int32), q14.2)) else (f_M_bind_85  q14.2 a3 (((2 : Int32) * a1) + a2)))) else (f_M_bind_85  q14.2 a3 (((2 : Int32) * a1) + a2)))) else (some ((-2 : Int32), q14.2)))))))))))))
set_option maxRecDepth 100000 in
set_option maxHeartbeats 4000000 in
theorem t_M_bind_123 {p : Program} {l : Launch} {e : Env} {R : Room} {s : State} {m : MethodId} {args : Array Value} {below : List Frame} {meth : Method} {c : Code} {Q : State → Prop} {D : va_G} {ad : Nat → Nat} {cI cZ : ClassId} {A : Nat → Prop} (F : CallFix p m c qb_M_bind 5 s args qtb "CaptureSubtypesModel") (hR : 2 ≤ R.frames ∧ 45 ≤ R.locals) (hK : va_K D qcl [(cI, .int), (cZ, .boolean)] s) (hN : qnests mns s) (hA : ∀ q, s.heap.size ≤ q → A q) {res : (Int32 × (Nat → Nat → Int32))} (hQ : ∀ (H : Heap) (locs : List Loc) (pc : Nat) (ls : Array Slot), decode qb_M_bind pc = .ok (.ireturn, 1) → mW D ad cI cZ A s.heap res.2 H locs → W p l e R s m args below meth c H locs 0 0 Q (F0 m pc ls [.int res.1])) (S : (Nat → Nat → Int32)) (v3 v4 : Int32) (hM : f_M_bind_123 S v3 v4 = some res) {H : Heap} {locs : List Loc} {ls : Array Slot} (w : mW D ad cI cZ A s.heap S H locs) (hl : lv_has ls 5 [(0, .ref (ad 0)), (3, .int v3), (4, .int v4)]) : W p l e R s m args below meth c H locs 0 0 Q (F0 m 123 ls []) := by
  unfold f_M_bind_123 at hM
  refine lv_aload_n F.1 F.2.1 qd_M_bind_123 rfl (lv_at hl 0 rfl) ?_
  refine mg_M_bounds F hK w qk_661 qd_M_bind_124 ?_
  refine lv_iload F.1 F.2.1 qd_M_bind_127 (lv_at hl 2 rfl) ?_
  obtain ⟨hi1, hM⟩ := qck_ok hM
  refine ml_M_bounds F hK w hi1 qd_M_bind_129 ?_
  refine lv_iconst (v := 2) F.1 F.2.1 qd_M_bind_130 (by decide) ?_
  refine lv_icmp_ne (tgt := 137) F.1 F.2.1 qd_M_bind_131 (by decide) (fun hc2 => ?_) (fun hc2 => ?_)
  · rw [if_neg hc2] at hM
    refine lv_aload_n F.1 F.2.1 qd_M_bind_137 rfl (lv_at hl 0 rfl) ?_
    refine mg_M_bound F hK w qk_660 qd_M_bind_138 ?_
    refine lv_iconst (v := 2) F.1 F.2.1 qd_M_bind_141 (by decide) ?_
    refine lv_iload F.1 F.2.1 qd_M_bind_142 (lv_at hl 2 rfl) ?_
    refine lv_imul F.1 F.2.1 qd_M_bind_144 ?_
    refine lv_aload_n F.1 F.2.1 qd_M_bind_145 rfl (lv_at hl 0 rfl) ?_
    refine mg_M_bounds F hK w qk_661 qd_M_bind_146 ?_
    refine lv_iload F.1 F.2.1 qd_M_bind_149 (lv_at hl 2 rfl) ?_
    obtain ⟨hi3, hM⟩ := qck_ok hM
    refine ml_M_bounds F hK w hi3 qd_M_bind_151 ?_
    refine lv_iadd F.1 F.2.1 qd_M_bind_152 ?_
    refine lv_iload_n F.1 F.2.1 qd_M_bind_153 rfl (lv_at hl 1 rfl) ?_
    obtain ⟨hi4, hM⟩ := qck_ok hM
    refine ms_M_bound F hK w hi4 qd_M_bind_154 (fun H locs w => ?_)
    refine lv_aload_n F.1 F.2.1 qd_M_bind_155 rfl (lv_at hl 0 rfl) ?_
    refine mg_M_bounds F hK w qk_661 qd_M_bind_156 ?_
    refine lv_iload F.1 F.2.1 qd_M_bind_159 (lv_at hl 2 rfl) ?_
    refine lv_dup2_11 F.1 F.2.1 qd_M_bind_161 rfl rfl ?_
    obtain ⟨hi5, hM⟩ := qck_ok hM
    refine ml_M_bounds F hK w hi5 qd_M_bind_162 ?_
    refine lv_iconst (v := 1) F.1 F.2.1 qd_M_bind_163 (by decide) ?_
    refine lv_iadd F.1 F.2.1 qd_M_bind_164 ?_
    obtain ⟨hi6, hM⟩ := qck_ok hM
    refine ms_M_bounds F hK w hi6 qd_M_bind_165 (fun H locs w => ?_)
    refine lv_aload_n F.1 F.2.1 qd_M_bind_166 rfl (lv_at hl 0 rfl) ?_
    refine mg_M_bounds F hK w qk_661 qd_M_bind_167 ?_
    refine lv_iload F.1 F.2.1 qd_M_bind_170 (lv_at hl 2 rfl) ?_
    obtain ⟨hi7, hM⟩ := qck_ok hM
    refine ml_M_bounds F hK w hi7 qd_M_bind_172 ?_
    cases hM
    exact hQ _ _ _ _ qd_M_bind_173 w
  · rw [if_pos hc2] at hM
    refine lv_bipush (v := (-3)) F.1 F.2.1 qd_M_bind_134 (by decide) ?_
    cases hM
    exact hQ _ _ _ _ qd_M_bind_136 w
set_option maxRecDepth 100000 in
set_option maxHeartbeats 4000000 in
theorem t_M_bind_85 {p : Program} {l : Launch} {e : Env} {R : Room} {s : State} {m : MethodId} {args : Array Value} {below : List Frame} {meth : Method} {c : Code} {Q : State → Prop} {D : va_G} {ad : Nat → Nat} {cI cZ : ClassId} {A : Nat → Prop} (F : CallFix p m c qb_M_bind 5 s args qtb "CaptureSubtypesModel") (hR : 2 ≤ R.frames ∧ 45 ≤ R.locals) (hK : va_K D qcl [(cI, .int), (cZ, .boolean)] s) (hN : qnests mns s) (hA : ∀ q, s.heap.size ≤ q → A q) {res : (Int32 × (Nat → Nat → Int32))} (hQ : ∀ (H : Heap) (locs : List Loc) (pc : Nat) (ls : Array Slot), decode qb_M_bind pc = .ok (.ireturn, 1) → mW D ad cI cZ A s.heap res.2 H locs → W p l e R s m args below meth c H locs 0 0 Q (F0 m pc ls [.int res.1])) (S : (Nat → Nat → Int32)) (v3 v4 : Int32) (hM : f_M_bind_85 S v3 v4 = some res) {H : Heap} {locs : List Loc} {ls : Array Slot} (w : mW D ad cI cZ A s.heap S H locs) (hl : lv_has ls 5 [(0, .ref (ad 0)), (3, .int v3), (4, .int v4)]) : W p l e R s m args below meth c H locs 0 0 Q (F0 m 85 ls []) := by
  unfold f_M_bind_85 at hM
  refine lv_aload_n F.1 F.2.1 qd_M_bind_85 rfl (lv_at hl 0 rfl) ?_
  refine mg_M_bounds F hK w qk_661 qd_M_bind_86 ?_
  refine lv_iload F.1 F.2.1 qd_M_bind_89 (lv_at hl 2 rfl) ?_
  obtain ⟨hi1, hM⟩ := qck_ok hM
  refine ml_M_bounds F hK w hi1 qd_M_bind_91 ?_
  refine lv_if_le (tgt := 123) F.1 F.2.1 qd_M_bind_92 (by decide) (fun hc2 => ?_) (fun hc2 => ?_)
  · rw [if_pos hc2] at hM
    exact t_M_bind_123 F hR hK hN hA hQ  _ _ _ hM w (lv_sub hl [0, 1, 2] rfl)
  · rw [if_neg hc2] at hM
    refine lv_aload_n F.1 F.2.1 qd_M_bind_95 rfl (lv_at hl 0 rfl) ?_
    refine mg_M_sort F hK w qk_664 qd_M_bind_96 ?_
    refine lv_iload_n F.1 F.2.1 qd_M_bind_99 rfl (lv_at hl 1 rfl) ?_
    obtain ⟨hi3, hM⟩ := qck_ok hM
    refine ml_M_sort F hK w hi3 qd_M_bind_100 ?_
    refine lv_iconst (v := 3) F.1 F.2.1 qd_M_bind_101 (by decide) ?_
    refine lv_icmp_eq (tgt := 120) F.1 F.2.1 qd_M_bind_102 (by decide) (fun hc4 => ?_) (fun hc4 => ?_)
    · rw [if_pos hc4] at hM
      refine lv_bipush (v := (-2)) F.1 F.2.1 qd_M_bind_120 (by decide) ?_
      cases hM
      exact hQ _ _ _ _ qd_M_bind_122 w
    · rw [if_neg hc4] at hM
      refine lv_aload_n F.1 F.2.1 qd_M_bind_105 rfl (lv_at hl 0 rfl) ?_
      refine mg_M_kinds F hK w qk_656 qd_M_bind_106 ?_
      refine lv_aload_n F.1 F.2.1 qd_M_bind_109 rfl (lv_at hl 0 rfl) ?_
      refine mg_M_first F hK w qk_665 qd_M_bind_110 ?_
      refine lv_iload_n F.1 F.2.1 qd_M_bind_113 rfl (lv_at hl 1 rfl) ?_
      obtain ⟨hi5, hM⟩ := qck_ok hM
      refine ml_M_first F hK w hi5 qd_M_bind_114 ?_
      obtain ⟨hi6, hM⟩ := qck_ok hM
      refine ml_M_kinds F hK w hi6 qd_M_bind_115 ?_
      refine lv_iconst (v := 3) F.1 F.2.1 qd_M_bind_116 (by decide) ?_
      refine lv_icmp_ge (tgt := 123) F.1 F.2.1 qd_M_bind_117 (by decide) (fun hc7 => ?_) (fun hc7 => ?_)
      · rw [if_pos hc7] at hM
        exact t_M_bind_123 F hR hK hN hA hQ  _ _ _ hM w (lv_sub hl [0, 1, 2] rfl)
      · rw [if_neg hc7] at hM
        refine lv_bipush (v := (-2)) F.1 F.2.1 qd_M_bind_120 (by decide) ?_
        cases hM
        exact hQ _ _ _ _ qd_M_bind_122 w
set_option maxRecDepth 100000 in
set_option maxHeartbeats 4000000 in
theorem t_M_bind {p : Program} {l : Launch} {e : Env} {R : Room} {s : State} {m : MethodId} {args : Array Value} {below : List Frame} {meth : Method} {c : Code} {Q : State → Prop} {D : va_G} {ad : Nat → Nat} {cI cZ : ClassId} {A : Nat → Prop} (F : CallFix p m c qb_M_bind 5 s args qtb "CaptureSubtypesModel") (hR : 2 ≤ R.frames ∧ 45 ≤ R.locals) (hK : va_K D qcl [(cI, .int), (cZ, .boolean)] s) (hN : qnests mns s) (hA : ∀ q, s.heap.size ≤ q → A q) {res : (Int32 × (Nat → Nat → Int32))} (hQ : ∀ (H : Heap) (locs : List Loc) (pc : Nat) (ls : Array Slot), decode qb_M_bind pc = .ok (.ireturn, 1) → mW D ad cI cZ A s.heap res.2 H locs → W p l e R s m args below meth c H locs 0 0 Q (F0 m pc ls [.int res.1])) (S : (Nat → Nat → Int32)) (a1 a2 a3 : Int32) (hM : f_M_bind S a1 a2 a3 = some res) {H : Heap} {locs : List Loc} {ls : Array Slot} (w : mW D ad cI cZ A s.heap S H locs) (hl : lv_has ls 5 [(0, .ref (ad 0)), (1, .int a1), (2, .int a2), (3, .int a3)]) : W p l e R s m args below meth c H locs 0 0 Q (F0 m 0 ls []) := by
  unfold f_M_bind at hM
  refine lv_aload_n F.1 F.2.1 qd_M_bind_0 rfl (lv_at hl 0 rfl) ?_
  refine lv_iload_n F.1 F.2.1 qd_M_bind_1 rfl (lv_at hl 1 rfl) ?_
  obtain ⟨q1, hq2, hM⟩ := qbd hM
  refine m_calli F hK hN hA w (c_M_isClass l D ad cI cZ hq2) qk_768 qk_770 qs_M_isClass qk_8 qk_771 qv_M_isClass rfl rfl ⟨Nat.le_trans (by decide) hR.1, Nat.le_trans (by decide) hR.2⟩ (ci := 6) rfl (j := 0) rfl hl.1 rfl (Nat.le_of_ble_eq_true rfl) qd_M_bind_2 (fun H locs w => ?_)
  refine lv_if_eq (tgt := 55) F.1 F.2.1 qd_M_bind_5 (by decide) (fun hc3 => ?_) (fun hc3 => ?_)
  · rw [if_pos hc3] at hM
    refine lv_bipush (v := (-2)) F.1 F.2.1 qd_M_bind_55 (by decide) ?_
    cases hM
    exact hQ _ _ _ _ qd_M_bind_57 w
  · rw [if_neg hc3] at hM
    refine lv_iload_n F.1 F.2.1 qd_M_bind_8 rfl (lv_at hl 2 rfl) ?_
    refine lv_iconst (v := 0) F.1 F.2.1 qd_M_bind_9 (by decide) ?_
    refine lv_aload_n F.1 F.2.1 qd_M_bind_10 rfl (lv_at hl 0 rfl) ?_
    refine mg_M_parameters F hK w qk_657 qd_M_bind_11 ?_
    refine lv_iload_n F.1 F.2.1 qd_M_bind_14 rfl (lv_at hl 1 rfl) ?_
    obtain ⟨hi4, hM⟩ := qck_ok hM
    refine ml_M_parameters F hK w hi4 qd_M_bind_15 ?_
    refine lv_iconst (v := 1) F.1 F.2.1 qd_M_bind_16 (by decide) ?_
    refine lv_isub F.1 F.2.1 qd_M_bind_17 ?_
    obtain ⟨q5, hq6, hM⟩ := qbd hM
    refine m_calliS F hK hN hA w (c_M_isIn l D ad cI cZ hq6) qk_761 qk_762 qk_8 qk_763 qv_M_isIn rfl rfl ⟨Nat.le_trans (by decide) hR.1, Nat.le_trans (by decide) hR.2⟩ hl.1 rfl (Nat.le_of_ble_eq_true rfl) qd_M_bind_18 (fun H locs w => ?_)
    refine lv_if_eq (tgt := 55) F.1 F.2.1 qd_M_bind_21 (by decide) (fun hc7 => ?_) (fun hc7 => ?_)
    · rw [if_pos hc7] at hM
      refine lv_bipush (v := (-2)) F.1 F.2.1 qd_M_bind_55 (by decide) ?_
      cases hM
      exact hQ _ _ _ _ qd_M_bind_57 w
    · rw [if_neg hc7] at hM
      refine lv_aload_n F.1 F.2.1 qd_M_bind_24 rfl (lv_at hl 0 rfl) ?_
      refine lv_iload_n F.1 F.2.1 qd_M_bind_25 rfl (lv_at hl 3 rfl) ?_
      obtain ⟨q8, hq9, hM⟩ := qbd hM
      refine m_calli F hK hN hA w (c_M_isType l D ad cI cZ hq9) qk_792 qk_794 qs_M_isType qk_8 qk_795 qv_M_isType rfl rfl ⟨Nat.le_trans (by decide) hR.1, Nat.le_trans (by decide) hR.2⟩ (ci := 6) rfl (j := 0) rfl hl.1 rfl (Nat.le_of_ble_eq_true rfl) qd_M_bind_26 (fun H locs w => ?_)
      refine lv_if_eq (tgt := 55) F.1 F.2.1 qd_M_bind_29 (by decide) (fun hc10 => ?_) (fun hc10 => ?_)
      · rw [if_pos hc10] at hM
        refine lv_bipush (v := (-2)) F.1 F.2.1 qd_M_bind_55 (by decide) ?_
        cases hM
        exact hQ _ _ _ _ qd_M_bind_57 w
      · rw [if_neg hc10] at hM
        refine lv_iload_n F.1 F.2.1 qd_M_bind_32 rfl (lv_at hl 3 rfl) ?_
        refine lv_if_eq (tgt := 55) F.1 F.2.1 qd_M_bind_33 (by decide) (fun hc11 => ?_) (fun hc11 => ?_)
        · rw [if_pos hc11] at hM
          refine lv_bipush (v := (-2)) F.1 F.2.1 qd_M_bind_55 (by decide) ?_
          cases hM
          exact hQ _ _ _ _ qd_M_bind_57 w
        · rw [if_neg hc11] at hM
          refine lv_aload_n F.1 F.2.1 qd_M_bind_36 rfl (lv_at hl 0 rfl) ?_
          refine mg_M_sort F hK w qk_664 qd_M_bind_37 ?_
          refine lv_iload_n F.1 F.2.1 qd_M_bind_40 rfl (lv_at hl 3 rfl) ?_
          obtain ⟨hi12, hM⟩ := qck_ok hM
          refine ml_M_sort F hK w hi12 qd_M_bind_41 ?_
          refine lv_iconst (v := 3) F.1 F.2.1 qd_M_bind_42 (by decide) ?_
          refine lv_icmp_gt (tgt := 55) F.1 F.2.1 qd_M_bind_43 (by decide) (fun hc13 => ?_) (fun hc13 => ?_)
          · rw [if_pos hc13] at hM
            refine lv_bipush (v := (-2)) F.1 F.2.1 qd_M_bind_55 (by decide) ?_
            cases hM
            exact hQ _ _ _ _ qd_M_bind_57 w
          · rw [if_neg hc13] at hM
            refine lv_aload_n F.1 F.2.1 qd_M_bind_46 rfl (lv_at hl 0 rfl) ?_
            refine lv_iload_n F.1 F.2.1 qd_M_bind_47 rfl (lv_at hl 3 rfl) ?_
            refine lv_iload_n F.1 F.2.1 qd_M_bind_48 rfl (lv_at hl 1 rfl) ?_
            obtain ⟨q14, hq15, hM⟩ := qbd hM
            refine m_calli F hK hN hA w (c_M_isForeign l D ad cI cZ hq15) qk_980 qk_982 qs_M_isForeign qk_8 qk_983 qv_M_isForeign rfl rfl ⟨Nat.le_trans (by decide) hR.1, Nat.le_trans (by decide) hR.2⟩ (ci := 6) rfl (j := 0) rfl hl.1 rfl (Nat.le_of_ble_eq_true rfl) qd_M_bind_49 (fun H locs w => ?_)
            refine lv_if_eq (tgt := 58) F.1 F.2.1 qd_M_bind_52 (by decide) (fun hc16 => ?_) (fun hc16 => ?_)
            · rw [if_pos hc16] at hM
              refine lv_iconst (v := 2) F.1 F.2.1 qd_M_bind_58 (by decide) ?_
              refine lv_iload_n F.1 F.2.1 qd_M_bind_59 rfl (lv_at hl 1 rfl) ?_
              refine lv_imul F.1 F.2.1 qd_M_bind_60 ?_
              refine lv_iload_n F.1 F.2.1 qd_M_bind_61 rfl (lv_at hl 2 rfl) ?_
              refine lv_iadd F.1 F.2.1 qd_M_bind_62 ?_
              refine lv_istore (lv' := [(4, .int (((2 : Int32) * a1) + a2)), (0, .ref (ad 0)), (1, .int a1), (2, .int a2), (3, .int a3)]) F.1 F.2.1 qd_M_bind_63 hl (by decide) rfl (fun ls hl => ?_)
              refine lv_aload_n F.1 F.2.1 qd_M_bind_65 rfl (lv_at hl 1 rfl) ?_
              refine mg_M_sort F hK w qk_664 qd_M_bind_66 ?_
              refine lv_iload_n F.1 F.2.1 qd_M_bind_69 rfl (lv_at hl 4 rfl) ?_
              obtain ⟨hi17, hM⟩ := qck_ok hM
              refine ml_M_sort F hK w hi17 qd_M_bind_70 ?_
              refine lv_iconst (v := 3) F.1 F.2.1 qd_M_bind_71 (by decide) ?_
              refine lv_icmp_ne (tgt := 85) F.1 F.2.1 qd_M_bind_72 (by decide) (fun hc18 => ?_) (fun hc18 => ?_)
              · rw [if_neg hc18] at hM
                exact t_M_bind_85 F hR hK hN hA hQ  _ _ _ hM w (lv_sub hl [1, 4, 0] rfl)
              · rw [if_pos hc18] at hM
                refine lv_aload_n F.1 F.2.1 qd_M_bind_75 rfl (lv_at hl 1 rfl) ?_
                refine mg_M_second F hK w qk_666 qd_M_bind_76 ?_
                refine lv_iload_n F.1 F.2.1 qd_M_bind_79 rfl (lv_at hl 4 rfl) ?_
                obtain ⟨hi19, hM⟩ := qck_ok hM
                refine ml_M_second F hK w hi19 qd_M_bind_80 ?_
                refine lv_iload_n F.1 F.2.1 qd_M_bind_81 rfl (lv_at hl 3 rfl) ?_
                refine lv_icmp_ge (tgt := 120) F.1 F.2.1 qd_M_bind_82 (by decide) (fun hc20 => ?_) (fun hc20 => ?_)
                · rw [if_pos hc20] at hM
                  refine lv_bipush (v := (-2)) F.1 F.2.1 qd_M_bind_120 (by decide) ?_
                  cases hM
                  exact hQ _ _ _ _ qd_M_bind_122 w
                · rw [if_neg hc20] at hM
                  exact t_M_bind_85 F hR hK hN hA hQ  _ _ _ hM w (lv_sub hl [1, 4, 0] rfl)
            · rw [if_neg hc16] at hM
              refine lv_bipush (v := (-2)) F.1 F.2.1 qd_M_bind_55 (by decide) ?_
              cases hM
              exact hQ _ _ _ _ qd_M_bind_57 w
set_option maxRecDepth 100000 in
theorem c_M_bind (l : Launch) (D : va_G) (ad : Nat → Nat) (cI cZ : ClassId) {S : (Nat → Nat → Int32)} {a1 a2 a3 : Int32} {res : (Int32 × (Nat → Nat → Int32))} (hM : f_M_bind S a1 a2 a3 = some res) : mMi l qy_M_bind qb_M_bind 5 (some .int) { frames := 2, cells := 0, slots := 0, locals := 45 } D ad cI cZ S [.ref (ad 0), .int a1, .int a2, .int a3] res.1 res.2 := m_ofi (by decide +kernel) (Nat.le_of_ble_eq_true rfl) (fun p e s m args below meth c Q A ls F hK hN hA w hl hQ => t_M_bind F ⟨Nat.le_refl _, Nat.le_refl _⟩ hK hN hA hQ S a1 a2 a3 hM w hl)
