theorem q_good {y : MethodName} {b : ByteArray} {n : Nat} {ret : Option FieldType} (h5 : Cond.code y b n ret ∈ qtb) : GoodIn qtb (.code y b n ret :: qtb) := fun w hw => by
  have hm : w ∈ qtb := by
    rcases List.mem_cons.mp hw with rfl | h
    · exact h5
    · exact h
  exact ⟨hm, good_of_word (qw_gd hm)⟩
theorem q_goodV {own C : String} {idx : Nat} {y : MethodName} {b : ByteArray} {n : Nat} {ret : Option FieldType} (h1 : Cond.methodLink own idx y ∈ qtb) (h2 : Cond.instanceMethod y ∈ qtb) (h3 : Cond.selects C y y ∈ qtb) (h4 : Cond.initialized C ∈ qtb) (h5 : Cond.code y b n ret ∈ qtb) : GoodIn qtb (wsV own idx C y (.code y b n ret :: qtb)) := fun w hw => by
  have hm : w ∈ qtb := by
    unfold wsV at hw
    rcases List.mem_append.mp hw with h | h
    · simp only [List.mem_cons, List.not_mem_nil, or_false] at h
      rcases h with rfl | rfl | rfl | rfl <;> assumption
    · rcases List.mem_cons.mp h with rfl | h
      · exact h5
      · exact h
  exact ⟨hm, good_of_word (qw_gd hm)⟩
theorem q_goodS {own : String} {idx : Nat} {y : MethodName} {b : ByteArray} {n : Nat} {ret : Option FieldType} (h1 : Cond.methodLink own idx y ∈ qtb) (h2 : Cond.static y ∈ qtb) (h4 : Cond.initialized own ∈ qtb) (h5 : Cond.code y b n ret ∈ qtb) : GoodIn qtb (wsS own idx y (.code y b n ret :: qtb)) := fun w hw => by
  have hm : w ∈ qtb := by
    unfold wsS at hw
    rcases List.mem_append.mp hw with h | h
    · simp only [List.mem_cons, List.not_mem_nil, or_false] at h
      rcases h with rfl | rfl | rfl <;> assumption
    · rcases List.mem_cons.mp h with rfl | h
      · exact h5
      · exact h
  exact ⟨hm, good_of_word (qw_gd hm)⟩
def xns : List Cond := [.methodLinkNest "CaptureSubtypes" 152 qy_O_isOne "CaptureSubtypes", .methodLinkNest "CaptureSubtypes" 155 qy_O_isUnchecked "CaptureSubtypes", .methodLinkNest "CaptureSubtypes" 162 qy_U_mayTurn "CaptureSubtypes", .methodLinkNest "CaptureSubtypes$Turning" 27 qy_O_isOne "CaptureSubtypes", .methodLinkNest "CaptureSubtypes$Order" 115 qy_S_putIn "CaptureSubtypes"]
theorem xns_form : ∀ w ∈ xns, ∃ (a : String) (i : Nat) (x : MethodName) (h : String), w = Cond.methodLinkNest a i x h := by
  intro w hw
  simp only [xns, List.mem_cons, List.not_mem_nil, or_false] at hw
  rcases hw with rfl | rfl | rfl | rfl | rfl <;> exact ⟨_, _, _, _, rfl⟩
theorem x_nests {s U : State} (hW : s.WarmedH U.vm) (h : qnests xns s) : qnests xns U := fun w hw => by
  have h1 := h w hw
  obtain ⟨a, i, x, hh, rfl⟩ := xns_form w hw
  exact va_Nw.warmM hW h1
theorem x_nestsame {s U : State} (e : s.vm = U.vm) (h : qnests xns s) : qnests xns U := fun w hw => by
  have h1 := h w hw
  obtain ⟨a, i, x, hh, rfl⟩ := xns_form w hw
  exact va_Nw.same rfl e h1
def xPre (D : va_G) (ad : Nat → Nat) (cI : ClassId) (S : Nat → Nat → Int32) (sz : Nat) (av : List Value) : Array Value → State → Prop := va_Pc av (fun U => U.heap.size = sz ∧ va_P D qcl (xw ad cI S) U.heap ∧ va_K D qcl [(cI, .int)] U ∧ va_D (fun _ => True) (xw ad cI S) ∧ qnests xns U)
/-- the contract of a method that answers r (an int, or a boolean as 0 or 1) and leaves the state S2 -/
def xMi (l : Launch) (y : MethodName) (b : ByteArray) (n : Nat) (ret : Option FieldType) (rm : Room) (D : va_G) (ad : Nat → Nat) (cI : ClassId) (S : Nat → Nat → Int32) (av : List Value) (r : Int32) (S2 : Nat → Nat → Int32) : Prop := ∀ sz : Nat, Met l y (.code y b n ret :: qtb) rm (xPre D ad cI S sz av) (va_Qi (fun (r1 : Int32) (_ : Unit) => r1 = r) (fun _ t => va_P D qcl (xw ad cI S2) t.heap) (va_A (xw ad cI S) sz)) 0 0 (va_A (xw ad cI S) sz)
def xMv (l : Launch) (y : MethodName) (b : ByteArray) (n : Nat) (ret : Option FieldType) (rm : Room) (D : va_G) (ad : Nat → Nat) (cI : ClassId) (S : Nat → Nat → Int32) (av : List Value) (S2 : Nat → Nat → Int32) : Prop := ∀ sz : Nat, Met l y (.code y b n ret :: qtb) rm (xPre D ad cI S sz av) (va_Qv (fun (_ : Unit) => True) (fun _ t => va_P D qcl (xw ad cI S2) t.heap) (va_A (xw ad cI S) sz)) 0 0 (va_A (xw ad cI S) sz)
theorem x_blind {D : va_G} {ad : Nat → Nat} {cI : ClassId} {S : Nat → Nat → Int32} {sz : Nat} {av : List Value} : FrameBlind (xPre D ad cI S sz av) := fun a U g mk q => by
  obtain ⟨q0, q1, qP, qK, qD, qN⟩ := q
  exact ⟨q0, q1, qP, va_K.moved (u := U) (U := U.calling g mk a) (Vm.Alike.refl U.vm) qK, qD, x_nestsame (s := U) rfl qN⟩
section xCalls
variable {p : Program} {l : Launch} {e : Env} {R : Room} {s : State} {m : MethodId} {args : Array Value} {below : List Frame} {meth : Method} {c : Code} {H : Heap} {locs : List Loc} {Q : State → Prop} {cc : ByteArray} {nL pc : Nat} {own : String} {ls : Array Slot} {rest : List Value} {D : va_G} {ad : Nat → Nat} {cI : ClassId} {A : Nat → Prop} {S S2 : Nat → Nat → Int32}
theorem x_calli (F : CallFix p m c cc nL s args qtb own) (hK : va_K D qcl [(cI, .int)] s) (hN : qnests xns s) (hA : ∀ q, s.heap.size ≤ q → A q) (w : xW D ad cI A s.heap S H locs) {y : MethodName} {b : ByteArray} {n : Nat} {ret : Option FieldType} {rm : Room} {r : Int32} {As : List Value} {j ci index cN : Nat} {C : String} {cT : u_T} {fs : List Value} (hM : xMi l y b n ret rm D ad cI S (.ref (ad j) :: As) r S2) (h1 : Cond.methodLink own index y ∈ qtb) (h2 : Cond.instanceMethod y ∈ qtb) (h3 : Cond.selects C y y ∈ qtb) (h4 : Cond.initialized C ∈ qtb) (h5 : Cond.code y b n ret ∈ qtb) (hy : y.cls = C ∧ y.cls ≠ "java/lang/invoke/MethodHandle" ∧ y.cls ≠ "java/lang/invoke/VarHandle" ∧ (parseMethodDescriptor y.desc).map (fun d => d.parameters.length) = some As.length) (hc0 : rm.cells = 0) (hs0 : rm.slots = 0) (hR : rm.frames + 1 ≤ R.frames ∧ 8 + (n + 11) + rm.locals ≤ R.locals) (hrc : qcl[ci]? = some (C, cT, cN)) (hrw : (xw ad cI S)[j]? = some (ad j, .inr (ci, fs))) (hsz : ls.size = nL) {st0 : List Value} (hst : st0 = As.reverse ++ .ref (ad j) :: rest) (hro : (rest.map fun v => v.category).sum ≤ 8) (hd : decode cc pc = .ok (.invokevirtual index, 3)) (kk : ∀ (H1 : Heap) (locs1 : List Loc), xW D ad cI A s.heap S2 H1 locs1 → W p l e R s m args below meth c H1 locs1 0 0 Q (F0 m (pc + 3) ls (.int r :: rest))) : W p l e R s m args below meth c H locs 0 0 Q (F0 m pc ls st0) := by
  subst hst
  have hF := x_free w hA
  refine va_calli (va_runV (As := As) (rest := rest) F (hM H.size) (cwV As.length F.2.2.2.2 (q_goodV h1 h2 h3 h4 h5) rfl hc0 hs0 hy hR) ⟨x_blind, va_recv hK w.1 hrc hrw, fun U hU hW => ⟨rfl, by rw [hU], by rw [hU]; exact w.1, va_K.moved hW.alike hK, w.2.1.weaken (fun _ _ _ _ => trivial), x_nests hW hN⟩⟩ rfl rfl hsz rfl (lv_room hro) hd ⟨Nat.zero_le _, Nat.zero_le _⟩) w.2.2 (fun q _ h => hF q h) hF (fun r1 u t H1 locs1 ht hvm hw hB hz1 hk1 hS => ?_)
  subst hw
  exact kk H1 locs1 ⟨ht ▸ hB, x_D _ w.2.1, hS⟩
theorem x_callv (F : CallFix p m c cc nL s args qtb own) (hK : va_K D qcl [(cI, .int)] s) (hN : qnests xns s) (hA : ∀ q, s.heap.size ≤ q → A q) (w : xW D ad cI A s.heap S H locs) {y : MethodName} {b : ByteArray} {n : Nat} {ret : Option FieldType} {rm : Room} {As : List Value} {j ci index cN : Nat} {C : String} {cT : u_T} {fs : List Value} (hM : xMv l y b n ret rm D ad cI S (.ref (ad j) :: As) S2) (h1 : Cond.methodLink own index y ∈ qtb) (h2 : Cond.instanceMethod y ∈ qtb) (h3 : Cond.selects C y y ∈ qtb) (h4 : Cond.initialized C ∈ qtb) (h5 : Cond.code y b n ret ∈ qtb) (hy : y.cls = C ∧ y.cls ≠ "java/lang/invoke/MethodHandle" ∧ y.cls ≠ "java/lang/invoke/VarHandle" ∧ (parseMethodDescriptor y.desc).map (fun d => d.parameters.length) = some As.length) (hc0 : rm.cells = 0) (hs0 : rm.slots = 0) (hR : rm.frames + 1 ≤ R.frames ∧ 8 + (n + 11) + rm.locals ≤ R.locals) (hrc : qcl[ci]? = some (C, cT, cN)) (hrw : (xw ad cI S)[j]? = some (ad j, .inr (ci, fs))) (hsz : ls.size = nL) {st0 : List Value} (hst : st0 = As.reverse ++ .ref (ad j) :: rest) (hro : (rest.map fun v => v.category).sum ≤ 8) (hd : decode cc pc = .ok (.invokevirtual index, 3)) (kk : ∀ (H1 : Heap) (locs1 : List Loc), xW D ad cI A s.heap S2 H1 locs1 → W p l e R s m args below meth c H1 locs1 0 0 Q (F0 m (pc + 3) ls (rest))) : W p l e R s m args below meth c H locs 0 0 Q (F0 m pc ls st0) := by
  subst hst
  have hF := x_free w hA
  refine va_callv (va_runV (As := As) (rest := rest) F (hM H.size) (cwV As.length F.2.2.2.2 (q_goodV h1 h2 h3 h4 h5) rfl hc0 hs0 hy hR) ⟨x_blind, va_recv hK w.1 hrc hrw, fun U hU hW => ⟨rfl, by rw [hU], by rw [hU]; exact w.1, va_K.moved hW.alike hK, w.2.1.weaken (fun _ _ _ _ => trivial), x_nests hW hN⟩⟩ rfl rfl hsz rfl (lv_room hro) hd ⟨Nat.zero_le _, Nat.zero_le _⟩) w.2.2 (fun q _ h => hF q h) hF (fun u t H1 locs1 ht hvm hw hB hz1 hk1 hS => ?_)
  exact kk H1 locs1 ⟨ht ▸ hB, x_D _ w.2.1, hS⟩
theorem x_callvC (F : CallFix p m c cc nL s args qtb own) (hK : va_K D qcl [(cI, .int)] s) (hN : qnests xns s) (hA : ∀ q, s.heap.size ≤ q → A q) (w : xW D ad cI A s.heap S H locs) {y : MethodName} {b : ByteArray} {n : Nat} {ret : Option FieldType} {rm : Room} {As : List Value} {cells slots : Nat} {j ci index cN : Nat} {C : String} {cT : u_T} {fs : List Value} (hM : xMv l y b n ret rm D ad cI S (.ref (ad j) :: As) S2) (h1 : Cond.methodLink own index y ∈ qtb) (h2 : Cond.instanceMethod y ∈ qtb) (h3 : Cond.selects C y y ∈ qtb) (h4 : Cond.initialized C ∈ qtb) (h5 : Cond.code y b n ret ∈ qtb) (hy : y.cls = C ∧ y.cls ≠ "java/lang/invoke/MethodHandle" ∧ y.cls ≠ "java/lang/invoke/VarHandle" ∧ (parseMethodDescriptor y.desc).map (fun d => d.parameters.length) = some As.length) (hc0 : rm.cells = 0) (hs0 : rm.slots = 0) (hR : rm.frames + 1 ≤ R.frames ∧ 8 + (n + 11) + rm.locals ≤ R.locals) (hrc : qcl[ci]? = some (C, cT, cN)) (hrw : (xw ad cI S)[j]? = some (ad j, .inr (ci, fs))) (hcs : cells ≤ R.cells ∧ slots ≤ R.slots) (hsz : ls.size = nL) {st0 : List Value} (hst : st0 = As.reverse ++ .ref (ad j) :: rest) (hro : (rest.map fun v => v.category).sum ≤ 8) (hd : decode cc pc = .ok (.invokevirtual index, 3)) (kk : ∀ (H1 : Heap) (locs1 : List Loc), xW D ad cI A s.heap S2 H1 locs1 → W p l e R s m args below meth c H1 locs1 cells slots Q (F0 m (pc + 3) ls (rest))) : W p l e R s m args below meth c H locs cells slots Q (F0 m pc ls st0) := by
  subst hst
  have hF := x_free w hA
  refine va_callv (va_runV (As := As) (rest := rest) F (hM H.size) (cwV As.length F.2.2.2.2 (q_goodV h1 h2 h3 h4 h5) rfl hc0 hs0 hy hR) ⟨x_blind, va_recv hK w.1 hrc hrw, fun U hU hW => ⟨rfl, by rw [hU], by rw [hU]; exact w.1, va_K.moved hW.alike hK, w.2.1.weaken (fun _ _ _ _ => trivial), x_nests hW hN⟩⟩ rfl rfl hsz rfl (lv_room hro) hd hcs) w.2.2 (fun q _ h => hF q h) hF (fun u t H1 locs1 ht hvm hw hB hz1 hk1 hS => ?_)
  exact kk H1 locs1 ⟨ht ▸ hB, x_D _ w.2.1, hS⟩
theorem x_calliN (F : CallFix p m c cc nL s args qtb own) (hK : va_K D qcl [(cI, .int)] s) (hN : qnests xns s) (hA : ∀ q, s.heap.size ≤ q → A q) (w : xW D ad cI A s.heap S H locs) {y : MethodName} {b : ByteArray} {n : Nat} {ret : Option FieldType} {rm : Room} {r : Int32} {As : List Value} {j ci index cN : Nat} {C host : String} {cT : u_T} {fs : List Value} (hM : xMi l y b n ret rm D ad cI S (.ref (ad j) :: As) r S2) (h1 : va_Nw (.methodLinkNest own index y host) s) (h2 : Cond.instanceMethod y ∈ qtb) (h3 : Cond.selects C y y ∈ qtb) (h4 : Cond.initialized C ∈ qtb) (h5 : Cond.code y b n ret ∈ qtb) (hy : y.cls = C ∧ y.cls ≠ "java/lang/invoke/MethodHandle" ∧ y.cls ≠ "java/lang/invoke/VarHandle" ∧ (parseMethodDescriptor y.desc).map (fun d => d.parameters.length) = some As.length) (hc0 : rm.cells = 0) (hs0 : rm.slots = 0) (hR : rm.frames + 1 ≤ R.frames ∧ 8 + (n + 11) + rm.locals ≤ R.locals) (hrc : qcl[ci]? = some (C, cT, cN)) (hrw : (xw ad cI S)[j]? = some (ad j, .inr (ci, fs))) (hsz : ls.size = nL) {st0 : List Value} (hst : st0 = As.reverse ++ .ref (ad j) :: rest) (hro : (rest.map fun v => v.category).sum ≤ 8) (hd : decode cc pc = .ok (.invokevirtual index, 3)) (kk : ∀ (H1 : Heap) (locs1 : List Loc), xW D ad cI A s.heap S2 H1 locs1 → W p l e R s m args below meth c H1 locs1 0 0 Q (F0 m (pc + 3) ls (.int r :: rest))) : W p l e R s m args below meth c H locs 0 0 Q (F0 m pc ls st0) := by
  subst hst
  have hF := x_free w hA
  refine va_calli (va_runVN (C := C) (As := As) (rest := rest) F (hM H.size) ⟨va_cnB As.length F.2.2.2.2 (q_good h5) rfl hc0 hs0 h1 (hy.1 ▸ F.2.2.2.2 _ h4) hy.2 hR, F.2.2.2.2 _ h2, F.2.2.2.2 _ h3⟩ ⟨x_blind, va_recv hK w.1 hrc hrw, fun U hU hW => ⟨rfl, by rw [hU], by rw [hU]; exact w.1, va_K.moved hW.alike hK, w.2.1.weaken (fun _ _ _ _ => trivial), x_nests hW hN⟩⟩ rfl rfl hsz rfl (lv_room hro) hd ⟨Nat.zero_le _, Nat.zero_le _⟩) w.2.2 (fun q _ h => hF q h) hF (fun r1 u t H1 locs1 ht hvm hw hB hz1 hk1 hS => ?_)
  subst hw
  exact kk H1 locs1 ⟨ht ▸ hB, x_D _ w.2.1, hS⟩
theorem x_callvN (F : CallFix p m c cc nL s args qtb own) (hK : va_K D qcl [(cI, .int)] s) (hN : qnests xns s) (hA : ∀ q, s.heap.size ≤ q → A q) (w : xW D ad cI A s.heap S H locs) {y : MethodName} {b : ByteArray} {n : Nat} {ret : Option FieldType} {rm : Room} {As : List Value} {j ci index cN : Nat} {C host : String} {cT : u_T} {fs : List Value} (hM : xMv l y b n ret rm D ad cI S (.ref (ad j) :: As) S2) (h1 : va_Nw (.methodLinkNest own index y host) s) (h2 : Cond.instanceMethod y ∈ qtb) (h3 : Cond.selects C y y ∈ qtb) (h4 : Cond.initialized C ∈ qtb) (h5 : Cond.code y b n ret ∈ qtb) (hy : y.cls = C ∧ y.cls ≠ "java/lang/invoke/MethodHandle" ∧ y.cls ≠ "java/lang/invoke/VarHandle" ∧ (parseMethodDescriptor y.desc).map (fun d => d.parameters.length) = some As.length) (hc0 : rm.cells = 0) (hs0 : rm.slots = 0) (hR : rm.frames + 1 ≤ R.frames ∧ 8 + (n + 11) + rm.locals ≤ R.locals) (hrc : qcl[ci]? = some (C, cT, cN)) (hrw : (xw ad cI S)[j]? = some (ad j, .inr (ci, fs))) (hsz : ls.size = nL) {st0 : List Value} (hst : st0 = As.reverse ++ .ref (ad j) :: rest) (hro : (rest.map fun v => v.category).sum ≤ 8) (hd : decode cc pc = .ok (.invokevirtual index, 3)) (kk : ∀ (H1 : Heap) (locs1 : List Loc), xW D ad cI A s.heap S2 H1 locs1 → W p l e R s m args below meth c H1 locs1 0 0 Q (F0 m (pc + 3) ls (rest))) : W p l e R s m args below meth c H locs 0 0 Q (F0 m pc ls st0) := by
  subst hst
  have hF := x_free w hA
  refine va_callv (va_runVN (C := C) (As := As) (rest := rest) F (hM H.size) ⟨va_cnB As.length F.2.2.2.2 (q_good h5) rfl hc0 hs0 h1 (hy.1 ▸ F.2.2.2.2 _ h4) hy.2 hR, F.2.2.2.2 _ h2, F.2.2.2.2 _ h3⟩ ⟨x_blind, va_recv hK w.1 hrc hrw, fun U hU hW => ⟨rfl, by rw [hU], by rw [hU]; exact w.1, va_K.moved hW.alike hK, w.2.1.weaken (fun _ _ _ _ => trivial), x_nests hW hN⟩⟩ rfl rfl hsz rfl (lv_room hro) hd ⟨Nat.zero_le _, Nat.zero_le _⟩) w.2.2 (fun q _ h => hF q h) hF (fun u t H1 locs1 ht hvm hw hB hz1 hk1 hS => ?_)
  exact kk H1 locs1 ⟨ht ▸ hB, x_D _ w.2.1, hS⟩
theorem x_calliS (F : CallFix p m c cc nL s args qtb own) (hK : va_K D qcl [(cI, .int)] s) (hN : qnests xns s) (hA : ∀ q, s.heap.size ≤ q → A q) (w : xW D ad cI A s.heap S H locs) {y : MethodName} {b : ByteArray} {n : Nat} {ret : Option FieldType} {rm : Room} {r : Int32} {As : List Value} {index : Nat} (hM : xMi l y b n ret rm D ad cI S As r S2) (h1 : Cond.methodLink own index y ∈ qtb) (h2 : Cond.static y ∈ qtb) (h4 : Cond.initialized own ∈ qtb) (h5 : Cond.code y b n ret ∈ qtb) (hy : y.cls = own ∧ y.cls ≠ "java/lang/invoke/MethodHandle" ∧ y.cls ≠ "java/lang/invoke/VarHandle" ∧ (parseMethodDescriptor y.desc).map (fun d => d.parameters.length) = some As.length) (hc0 : rm.cells = 0) (hs0 : rm.slots = 0) (hR : rm.frames + 1 ≤ R.frames ∧ 8 + (n + 11) + rm.locals ≤ R.locals) (hsz : ls.size = nL) {st0 : List Value} (hst : st0 = As.reverse ++ rest) (hro : (rest.map fun v => v.category).sum ≤ 8) (hd : decode cc pc = .ok (.invokestatic index, 3)) (kk : ∀ (H1 : Heap) (locs1 : List Loc), xW D ad cI A s.heap S2 H1 locs1 → W p l e R s m args below meth c H1 locs1 0 0 Q (F0 m (pc + 3) ls (.int r :: rest))) : W p l e R s m args below meth c H locs 0 0 Q (F0 m pc ls st0) := by
  subst hst
  have hF := x_free w hA
  refine va_calli (va_runS (As := As) (rest := rest) F (hM H.size) (cwS As.length F.2.2.2.2 (q_goodS h1 h2 h4 h5) rfl hc0 hs0 hy hR) ⟨x_blind, fun U hU hW => ⟨rfl, by rw [hU], by rw [hU]; exact w.1, va_K.moved hW.alike hK, w.2.1.weaken (fun _ _ _ _ => trivial), x_nests hW hN⟩⟩ rfl rfl hsz rfl (lv_room hro) hd ⟨Nat.zero_le _, Nat.zero_le _⟩) w.2.2 (fun q _ h => hF q h) hF (fun r1 u t H1 locs1 ht hvm hw hB hz1 hk1 hS => ?_)
  subst hw
  exact kk H1 locs1 ⟨ht ▸ hB, x_D _ w.2.1, hS⟩
end xCalls
theorem x_ofi {l : Launch} {y : MethodName} {b : ByteArray} {n : Nat} {rm : Room} {D : va_G} {ad : Nat → Nat} {cI : ClassId} {S S2 : Nat → Nat → Int32} {av : List Value} {r : Int32} (hy : plainName y.cls = true) (hn : (lg_sl av).length ≤ n) (body : ∀ (p : Program) (e : Env) (s : State) (m : MethodId) (args : Array Value) (below : List Frame) (meth : Method) (c : Code) (Q : State → Prop) (A : Nat → Prop) (ls : Array Slot), CallFix p m c b n s args qtb y.cls → va_K D qcl [(cI, .int)] s → qnests xns s → (∀ q, s.heap.size ≤ q → A q) → xW D ad cI A s.heap S s.heap [] → lv_has ls n (lv_args 0 av) → (∀ (H : Heap) (locs : List Loc) (pc : Nat) (ls : Array Slot), decode b pc = .ok (.ireturn, 1) → xW D ad cI A s.heap S2 H locs → W p l e rm s m args below meth c H locs 0 0 Q (F0 m pc ls [.int r])) → W p l e rm s m args below meth c s.heap [] 0 0 Q (F0 m 0 ls [])) : xMi l y b n (some .int) rm D ad cI S av r S2 := by
  intro sz
  refine Met.ofW (cc := b) (maxL := n) (ret := some .int) hy rfl ?_
  intro p e s m args below meth c s₁ B hml hv
  obtain ⟨rfl, hsz, hP, hK, hD0, hN⟩ := hv
  have hts : ∀ w ∈ qtb, w.before av.toArray s = true := fun w h => atoms_spec (ws := .code y b n (some .int) :: qtb) B.pre w (List.mem_cons_of_mem _ h)
  have hr := B.returns
  have hlocks := B.notSynchronized
  subst hsz
  have hl := lv_entry av (n := n) hn
  rw [lg_entry_eq]
  generalize (lg_sl av ++ List.replicate (n - (lg_sl av).length) Slot.unset).toArray = ls at hl ⊢
  refine body p e s m _ below meth c _ (va_A (xw ad cI S) s.heap.size) ls ⟨B.exec, B.bytes, hml, findClass_of_methodNamed B.named, hts⟩ hK hN (fun q h => Or.inr h) ⟨hP, hD0.self, va_S.rf⟩ hl (fun H locs pc ls hd w => ?_)
  exact W.iret B.exec B.bytes hr (fun t ht hW => ⟨⟨_, (), rfl, rfl, by subst ht; exact w.1⟩, w.2.2.F ht⟩) w.2.2.2.2 hd
theorem x_ofz {l : Launch} {y : MethodName} {b : ByteArray} {n : Nat} {rm : Room} {D : va_G} {ad : Nat → Nat} {cI : ClassId} {S S2 : Nat → Nat → Int32} {av : List Value} {r : Bool} (hy : plainName y.cls = true) (hn : (lg_sl av).length ≤ n) (body : ∀ (p : Program) (e : Env) (s : State) (m : MethodId) (args : Array Value) (below : List Frame) (meth : Method) (c : Code) (Q : State → Prop) (A : Nat → Prop) (ls : Array Slot), CallFix p m c b n s args qtb y.cls → va_K D qcl [(cI, .int)] s → qnests xns s → (∀ q, s.heap.size ≤ q → A q) → xW D ad cI A s.heap S s.heap [] → lv_has ls n (lv_args 0 av) → (∀ (H : Heap) (locs : List Loc) (pc : Nat) (ls : Array Slot), decode b pc = .ok (.ireturn, 1) → xW D ad cI A s.heap S2 H locs → W p l e rm s m args below meth c H locs 0 0 Q (F0 m pc ls [.int (qB r)])) → W p l e rm s m args below meth c s.heap [] 0 0 Q (F0 m 0 ls [])) : xMi l y b n (some .boolean) rm D ad cI S av (qB r) S2 := by
  intro sz
  refine Met.ofW (cc := b) (maxL := n) (ret := some .boolean) hy rfl ?_
  intro p e s m args below meth c s₁ B hml hv
  obtain ⟨rfl, hsz, hP, hK, hD0, hN⟩ := hv
  have hts : ∀ w ∈ qtb, w.before av.toArray s = true := fun w h => atoms_spec (ws := .code y b n (some .boolean) :: qtb) B.pre w (List.mem_cons_of_mem _ h)
  have hr := B.returns
  have hlocks := B.notSynchronized
  subst hsz
  have hl := lv_entry av (n := n) hn
  rw [lg_entry_eq]
  generalize (lg_sl av ++ List.replicate (n - (lg_sl av).length) Slot.unset).toArray = ls at hl ⊢
  refine body p e s m _ below meth c _ (va_A (xw ad cI S) s.heap.size) ls ⟨B.exec, B.bytes, hml, findClass_of_methodNamed B.named, hts⟩ hK hN (fun q h => Or.inr h) ⟨hP, hD0.self, va_S.rf⟩ hl (fun H locs pc ls hd w => ?_)
  exact W.zret B.exec B.bytes hr (qB_nar r) (fun t ht hW => ⟨⟨_, (), rfl, rfl, by subst ht; exact w.1⟩, w.2.2.F ht⟩) w.2.2.2.2 hd
theorem x_ofv {l : Launch} {y : MethodName} {b : ByteArray} {n : Nat} {rm : Room} {D : va_G} {ad : Nat → Nat} {cI : ClassId} {S S2 : Nat → Nat → Int32} {av : List Value}  (hy : plainName y.cls = true) (hn : (lg_sl av).length ≤ n) (body : ∀ (p : Program) (e : Env) (s : State) (m : MethodId) (args : Array Value) (below : List Frame) (meth : Method) (c : Code) (Q : State → Prop) (A : Nat → Prop) (ls : Array Slot), CallFix p m c b n s args qtb y.cls → va_K D qcl [(cI, .int)] s → qnests xns s → (∀ q, s.heap.size ≤ q → A q) → xW D ad cI A s.heap S s.heap [] → lv_has ls n (lv_args 0 av) → (∀ (H : Heap) (locs : List Loc) (pc : Nat) (ls : Array Slot), decode b pc = .ok (.return_, 1) → xW D ad cI A s.heap S2 H locs → W p l e rm s m args below meth c H locs 0 0 Q (F0 m pc ls [])) → W p l e rm s m args below meth c s.heap [] 0 0 Q (F0 m 0 ls [])) : xMv l y b n (none) rm D ad cI S av S2 := by
  intro sz
  refine Met.ofW (cc := b) (maxL := n) (ret := none) hy rfl ?_
  intro p e s m args below meth c s₁ B hml hv
  obtain ⟨rfl, hsz, hP, hK, hD0, hN⟩ := hv
  have hts : ∀ w ∈ qtb, w.before av.toArray s = true := fun w h => atoms_spec (ws := .code y b n (none) :: qtb) B.pre w (List.mem_cons_of_mem _ h)
  have hr := B.returns
  have hlocks := B.notSynchronized
  subst hsz
  have hl := lv_entry av (n := n) hn
  rw [lg_entry_eq]
  generalize (lg_sl av ++ List.replicate (n - (lg_sl av).length) Slot.unset).toArray = ls at hl ⊢
  refine body p e s m _ below meth c _ (va_A (xw ad cI S) s.heap.size) ls ⟨B.exec, B.bytes, hml, findClass_of_methodNamed B.named, hts⟩ hK hN (fun q h => Or.inr h) ⟨hP, hD0.self, va_S.rf⟩ hl (fun H locs pc ls hd w => ?_)
  exact W.vret B.exec B.bytes hr (fun t ht hW => ⟨⟨(), rfl, trivial, by subst ht; exact w.1⟩, w.2.2.F ht⟩) w.2.2.2.2 hd
def mns : List Cond := []
theorem mns_form : ∀ w ∈ mns, ∃ (a : String) (i : Nat) (x : MethodName) (h : String), w = Cond.methodLinkNest a i x h := by
  intro w hw
  exact absurd hw List.not_mem_nil
theorem m_nests {s U : State} (hW : s.WarmedH U.vm) (h : qnests mns s) : qnests mns U := fun w hw => by
  have h1 := h w hw
  obtain ⟨a, i, x, hh, rfl⟩ := mns_form w hw
  exact va_Nw.warmM hW h1
theorem m_nestsame {s U : State} (e : s.vm = U.vm) (h : qnests mns s) : qnests mns U := fun w hw => by
  have h1 := h w hw
  obtain ⟨a, i, x, hh, rfl⟩ := mns_form w hw
  exact va_Nw.same rfl e h1
def mPre (D : va_G) (ad : Nat → Nat) (cI cZ : ClassId) (S : Nat → Nat → Int32) (sz : Nat) (av : List Value) : Array Value → State → Prop := va_Pc av (fun U => U.heap.size = sz ∧ va_P D qcl (mw ad cI cZ S) U.heap ∧ va_K D qcl [(cI, .int), (cZ, .boolean)] U ∧ va_D (fun _ => True) (mw ad cI cZ S) ∧ qnests mns U)
/-- the contract of a method that answers r (an int, or a boolean as 0 or 1) and leaves the state S2 -/
def mMi (l : Launch) (y : MethodName) (b : ByteArray) (n : Nat) (ret : Option FieldType) (rm : Room) (D : va_G) (ad : Nat → Nat) (cI cZ : ClassId) (S : Nat → Nat → Int32) (av : List Value) (r : Int32) (S2 : Nat → Nat → Int32) : Prop := ∀ sz : Nat, Met l y (.code y b n ret :: qtb) rm (mPre D ad cI cZ S sz av) (va_Qi (fun (r1 : Int32) (_ : Unit) => r1 = r) (fun _ t => va_P D qcl (mw ad cI cZ S2) t.heap) (va_A (mw ad cI cZ S) sz)) 0 0 (va_A (mw ad cI cZ S) sz)
def mMv (l : Launch) (y : MethodName) (b : ByteArray) (n : Nat) (ret : Option FieldType) (rm : Room) (D : va_G) (ad : Nat → Nat) (cI cZ : ClassId) (S : Nat → Nat → Int32) (av : List Value) (S2 : Nat → Nat → Int32) : Prop := ∀ sz : Nat, Met l y (.code y b n ret :: qtb) rm (mPre D ad cI cZ S sz av) (va_Qv (fun (_ : Unit) => True) (fun _ t => va_P D qcl (mw ad cI cZ S2) t.heap) (va_A (mw ad cI cZ S) sz)) 0 0 (va_A (mw ad cI cZ S) sz)
theorem m_blind {D : va_G} {ad : Nat → Nat} {cI cZ : ClassId} {S : Nat → Nat → Int32} {sz : Nat} {av : List Value} : FrameBlind (mPre D ad cI cZ S sz av) := fun a U g mk q => by
  obtain ⟨q0, q1, qP, qK, qD, qN⟩ := q
  exact ⟨q0, q1, qP, va_K.moved (u := U) (U := U.calling g mk a) (Vm.Alike.refl U.vm) qK, qD, m_nestsame (s := U) rfl qN⟩
section mCalls
variable {p : Program} {l : Launch} {e : Env} {R : Room} {s : State} {m : MethodId} {args : Array Value} {below : List Frame} {meth : Method} {c : Code} {H : Heap} {locs : List Loc} {Q : State → Prop} {cc : ByteArray} {nL pc : Nat} {own : String} {ls : Array Slot} {rest : List Value} {D : va_G} {ad : Nat → Nat} {cI cZ : ClassId} {A : Nat → Prop} {S S2 : Nat → Nat → Int32}
theorem m_calli (F : CallFix p m c cc nL s args qtb own) (hK : va_K D qcl [(cI, .int), (cZ, .boolean)] s) (hN : qnests mns s) (hA : ∀ q, s.heap.size ≤ q → A q) (w : mW D ad cI cZ A s.heap S H locs) {y : MethodName} {b : ByteArray} {n : Nat} {ret : Option FieldType} {rm : Room} {r : Int32} {As : List Value} {j ci index cN : Nat} {C : String} {cT : u_T} {fs : List Value} (hM : mMi l y b n ret rm D ad cI cZ S (.ref (ad j) :: As) r S2) (h1 : Cond.methodLink own index y ∈ qtb) (h2 : Cond.instanceMethod y ∈ qtb) (h3 : Cond.selects C y y ∈ qtb) (h4 : Cond.initialized C ∈ qtb) (h5 : Cond.code y b n ret ∈ qtb) (hy : y.cls = C ∧ y.cls ≠ "java/lang/invoke/MethodHandle" ∧ y.cls ≠ "java/lang/invoke/VarHandle" ∧ (parseMethodDescriptor y.desc).map (fun d => d.parameters.length) = some As.length) (hc0 : rm.cells = 0) (hs0 : rm.slots = 0) (hR : rm.frames + 1 ≤ R.frames ∧ 8 + (n + 11) + rm.locals ≤ R.locals) (hrc : qcl[ci]? = some (C, cT, cN)) (hrw : (mw ad cI cZ S)[j]? = some (ad j, .inr (ci, fs))) (hsz : ls.size = nL) {st0 : List Value} (hst : st0 = As.reverse ++ .ref (ad j) :: rest) (hro : (rest.map fun v => v.category).sum ≤ 8) (hd : decode cc pc = .ok (.invokevirtual index, 3)) (kk : ∀ (H1 : Heap) (locs1 : List Loc), mW D ad cI cZ A s.heap S2 H1 locs1 → W p l e R s m args below meth c H1 locs1 0 0 Q (F0 m (pc + 3) ls (.int r :: rest))) : W p l e R s m args below meth c H locs 0 0 Q (F0 m pc ls st0) := by
  subst hst
  have hF := m_free w hA
  refine va_calli (va_runV (As := As) (rest := rest) F (hM H.size) (cwV As.length F.2.2.2.2 (q_goodV h1 h2 h3 h4 h5) rfl hc0 hs0 hy hR) ⟨m_blind, va_recv hK w.1 hrc hrw, fun U hU hW => ⟨rfl, by rw [hU], by rw [hU]; exact w.1, va_K.moved hW.alike hK, w.2.1.weaken (fun _ _ _ _ => trivial), m_nests hW hN⟩⟩ rfl rfl hsz rfl (lv_room hro) hd ⟨Nat.zero_le _, Nat.zero_le _⟩) w.2.2 (fun q _ h => hF q h) hF (fun r1 u t H1 locs1 ht hvm hw hB hz1 hk1 hS => ?_)
  subst hw
  exact kk H1 locs1 ⟨ht ▸ hB, m_D _ w.2.1, hS⟩
theorem m_callv (F : CallFix p m c cc nL s args qtb own) (hK : va_K D qcl [(cI, .int), (cZ, .boolean)] s) (hN : qnests mns s) (hA : ∀ q, s.heap.size ≤ q → A q) (w : mW D ad cI cZ A s.heap S H locs) {y : MethodName} {b : ByteArray} {n : Nat} {ret : Option FieldType} {rm : Room} {As : List Value} {j ci index cN : Nat} {C : String} {cT : u_T} {fs : List Value} (hM : mMv l y b n ret rm D ad cI cZ S (.ref (ad j) :: As) S2) (h1 : Cond.methodLink own index y ∈ qtb) (h2 : Cond.instanceMethod y ∈ qtb) (h3 : Cond.selects C y y ∈ qtb) (h4 : Cond.initialized C ∈ qtb) (h5 : Cond.code y b n ret ∈ qtb) (hy : y.cls = C ∧ y.cls ≠ "java/lang/invoke/MethodHandle" ∧ y.cls ≠ "java/lang/invoke/VarHandle" ∧ (parseMethodDescriptor y.desc).map (fun d => d.parameters.length) = some As.length) (hc0 : rm.cells = 0) (hs0 : rm.slots = 0) (hR : rm.frames + 1 ≤ R.frames ∧ 8 + (n + 11) + rm.locals ≤ R.locals) (hrc : qcl[ci]? = some (C, cT, cN)) (hrw : (mw ad cI cZ S)[j]? = some (ad j, .inr (ci, fs))) (hsz : ls.size = nL) {st0 : List Value} (hst : st0 = As.reverse ++ .ref (ad j) :: rest) (hro : (rest.map fun v => v.category).sum ≤ 8) (hd : decode cc pc = .ok (.invokevirtual index, 3)) (kk : ∀ (H1 : Heap) (locs1 : List Loc), mW D ad cI cZ A s.heap S2 H1 locs1 → W p l e R s m args below meth c H1 locs1 0 0 Q (F0 m (pc + 3) ls (rest))) : W p l e R s m args below meth c H locs 0 0 Q (F0 m pc ls st0) := by
  subst hst
  have hF := m_free w hA
  refine va_callv (va_runV (As := As) (rest := rest) F (hM H.size) (cwV As.length F.2.2.2.2 (q_goodV h1 h2 h3 h4 h5) rfl hc0 hs0 hy hR) ⟨m_blind, va_recv hK w.1 hrc hrw, fun U hU hW => ⟨rfl, by rw [hU], by rw [hU]; exact w.1, va_K.moved hW.alike hK, w.2.1.weaken (fun _ _ _ _ => trivial), m_nests hW hN⟩⟩ rfl rfl hsz rfl (lv_room hro) hd ⟨Nat.zero_le _, Nat.zero_le _⟩) w.2.2 (fun q _ h => hF q h) hF (fun u t H1 locs1 ht hvm hw hB hz1 hk1 hS => ?_)
  exact kk H1 locs1 ⟨ht ▸ hB, m_D _ w.2.1, hS⟩
theorem m_callvC (F : CallFix p m c cc nL s args qtb own) (hK : va_K D qcl [(cI, .int), (cZ, .boolean)] s) (hN : qnests mns s) (hA : ∀ q, s.heap.size ≤ q → A q) (w : mW D ad cI cZ A s.heap S H locs) {y : MethodName} {b : ByteArray} {n : Nat} {ret : Option FieldType} {rm : Room} {As : List Value} {cells slots : Nat} {j ci index cN : Nat} {C : String} {cT : u_T} {fs : List Value} (hM : mMv l y b n ret rm D ad cI cZ S (.ref (ad j) :: As) S2) (h1 : Cond.methodLink own index y ∈ qtb) (h2 : Cond.instanceMethod y ∈ qtb) (h3 : Cond.selects C y y ∈ qtb) (h4 : Cond.initialized C ∈ qtb) (h5 : Cond.code y b n ret ∈ qtb) (hy : y.cls = C ∧ y.cls ≠ "java/lang/invoke/MethodHandle" ∧ y.cls ≠ "java/lang/invoke/VarHandle" ∧ (parseMethodDescriptor y.desc).map (fun d => d.parameters.length) = some As.length) (hc0 : rm.cells = 0) (hs0 : rm.slots = 0) (hR : rm.frames + 1 ≤ R.frames ∧ 8 + (n + 11) + rm.locals ≤ R.locals) (hrc : qcl[ci]? = some (C, cT, cN)) (hrw : (mw ad cI cZ S)[j]? = some (ad j, .inr (ci, fs))) (hcs : cells ≤ R.cells ∧ slots ≤ R.slots) (hsz : ls.size = nL) {st0 : List Value} (hst : st0 = As.reverse ++ .ref (ad j) :: rest) (hro : (rest.map fun v => v.category).sum ≤ 8) (hd : decode cc pc = .ok (.invokevirtual index, 3)) (kk : ∀ (H1 : Heap) (locs1 : List Loc), mW D ad cI cZ A s.heap S2 H1 locs1 → W p l e R s m args below meth c H1 locs1 cells slots Q (F0 m (pc + 3) ls (rest))) : W p l e R s m args below meth c H locs cells slots Q (F0 m pc ls st0) := by
  subst hst
  have hF := m_free w hA
  refine va_callv (va_runV (As := As) (rest := rest) F (hM H.size) (cwV As.length F.2.2.2.2 (q_goodV h1 h2 h3 h4 h5) rfl hc0 hs0 hy hR) ⟨m_blind, va_recv hK w.1 hrc hrw, fun U hU hW => ⟨rfl, by rw [hU], by rw [hU]; exact w.1, va_K.moved hW.alike hK, w.2.1.weaken (fun _ _ _ _ => trivial), m_nests hW hN⟩⟩ rfl rfl hsz rfl (lv_room hro) hd hcs) w.2.2 (fun q _ h => hF q h) hF (fun u t H1 locs1 ht hvm hw hB hz1 hk1 hS => ?_)
  exact kk H1 locs1 ⟨ht ▸ hB, m_D _ w.2.1, hS⟩
theorem m_calliS (F : CallFix p m c cc nL s args qtb own) (hK : va_K D qcl [(cI, .int), (cZ, .boolean)] s) (hN : qnests mns s) (hA : ∀ q, s.heap.size ≤ q → A q) (w : mW D ad cI cZ A s.heap S H locs) {y : MethodName} {b : ByteArray} {n : Nat} {ret : Option FieldType} {rm : Room} {r : Int32} {As : List Value} {index : Nat} (hM : mMi l y b n ret rm D ad cI cZ S As r S2) (h1 : Cond.methodLink own index y ∈ qtb) (h2 : Cond.static y ∈ qtb) (h4 : Cond.initialized own ∈ qtb) (h5 : Cond.code y b n ret ∈ qtb) (hy : y.cls = own ∧ y.cls ≠ "java/lang/invoke/MethodHandle" ∧ y.cls ≠ "java/lang/invoke/VarHandle" ∧ (parseMethodDescriptor y.desc).map (fun d => d.parameters.length) = some As.length) (hc0 : rm.cells = 0) (hs0 : rm.slots = 0) (hR : rm.frames + 1 ≤ R.frames ∧ 8 + (n + 11) + rm.locals ≤ R.locals) (hsz : ls.size = nL) {st0 : List Value} (hst : st0 = As.reverse ++ rest) (hro : (rest.map fun v => v.category).sum ≤ 8) (hd : decode cc pc = .ok (.invokestatic index, 3)) (kk : ∀ (H1 : Heap) (locs1 : List Loc), mW D ad cI cZ A s.heap S2 H1 locs1 → W p l e R s m args below meth c H1 locs1 0 0 Q (F0 m (pc + 3) ls (.int r :: rest))) : W p l e R s m args below meth c H locs 0 0 Q (F0 m pc ls st0) := by
  subst hst
  have hF := m_free w hA
  refine va_calli (va_runS (As := As) (rest := rest) F (hM H.size) (cwS As.length F.2.2.2.2 (q_goodS h1 h2 h4 h5) rfl hc0 hs0 hy hR) ⟨m_blind, fun U hU hW => ⟨rfl, by rw [hU], by rw [hU]; exact w.1, va_K.moved hW.alike hK, w.2.1.weaken (fun _ _ _ _ => trivial), m_nests hW hN⟩⟩ rfl rfl hsz rfl (lv_room hro) hd ⟨Nat.zero_le _, Nat.zero_le _⟩) w.2.2 (fun q _ h => hF q h) hF (fun r1 u t H1 locs1 ht hvm hw hB hz1 hk1 hS => ?_)
  subst hw
  exact kk H1 locs1 ⟨ht ▸ hB, m_D _ w.2.1, hS⟩
end mCalls
theorem m_ofi {l : Launch} {y : MethodName} {b : ByteArray} {n : Nat} {rm : Room} {D : va_G} {ad : Nat → Nat} {cI cZ : ClassId} {S S2 : Nat → Nat → Int32} {av : List Value} {r : Int32} (hy : plainName y.cls = true) (hn : (lg_sl av).length ≤ n) (body : ∀ (p : Program) (e : Env) (s : State) (m : MethodId) (args : Array Value) (below : List Frame) (meth : Method) (c : Code) (Q : State → Prop) (A : Nat → Prop) (ls : Array Slot), CallFix p m c b n s args qtb y.cls → va_K D qcl [(cI, .int), (cZ, .boolean)] s → qnests mns s → (∀ q, s.heap.size ≤ q → A q) → mW D ad cI cZ A s.heap S s.heap [] → lv_has ls n (lv_args 0 av) → (∀ (H : Heap) (locs : List Loc) (pc : Nat) (ls : Array Slot), decode b pc = .ok (.ireturn, 1) → mW D ad cI cZ A s.heap S2 H locs → W p l e rm s m args below meth c H locs 0 0 Q (F0 m pc ls [.int r])) → W p l e rm s m args below meth c s.heap [] 0 0 Q (F0 m 0 ls [])) : mMi l y b n (some .int) rm D ad cI cZ S av r S2 := by
  intro sz
  refine Met.ofW (cc := b) (maxL := n) (ret := some .int) hy rfl ?_
  intro p e s m args below meth c s₁ B hml hv
  obtain ⟨rfl, hsz, hP, hK, hD0, hN⟩ := hv
  have hts : ∀ w ∈ qtb, w.before av.toArray s = true := fun w h => atoms_spec (ws := .code y b n (some .int) :: qtb) B.pre w (List.mem_cons_of_mem _ h)
  have hr := B.returns
  have hlocks := B.notSynchronized
  subst hsz
  have hl := lv_entry av (n := n) hn
  rw [lg_entry_eq]
  generalize (lg_sl av ++ List.replicate (n - (lg_sl av).length) Slot.unset).toArray = ls at hl ⊢
  refine body p e s m _ below meth c _ (va_A (mw ad cI cZ S) s.heap.size) ls ⟨B.exec, B.bytes, hml, findClass_of_methodNamed B.named, hts⟩ hK hN (fun q h => Or.inr h) ⟨hP, hD0.self, va_S.rf⟩ hl (fun H locs pc ls hd w => ?_)
  exact W.iret B.exec B.bytes hr (fun t ht hW => ⟨⟨_, (), rfl, rfl, by subst ht; exact w.1⟩, w.2.2.F ht⟩) w.2.2.2.2 hd
theorem m_ofz {l : Launch} {y : MethodName} {b : ByteArray} {n : Nat} {rm : Room} {D : va_G} {ad : Nat → Nat} {cI cZ : ClassId} {S S2 : Nat → Nat → Int32} {av : List Value} {r : Bool} (hy : plainName y.cls = true) (hn : (lg_sl av).length ≤ n) (body : ∀ (p : Program) (e : Env) (s : State) (m : MethodId) (args : Array Value) (below : List Frame) (meth : Method) (c : Code) (Q : State → Prop) (A : Nat → Prop) (ls : Array Slot), CallFix p m c b n s args qtb y.cls → va_K D qcl [(cI, .int), (cZ, .boolean)] s → qnests mns s → (∀ q, s.heap.size ≤ q → A q) → mW D ad cI cZ A s.heap S s.heap [] → lv_has ls n (lv_args 0 av) → (∀ (H : Heap) (locs : List Loc) (pc : Nat) (ls : Array Slot), decode b pc = .ok (.ireturn, 1) → mW D ad cI cZ A s.heap S2 H locs → W p l e rm s m args below meth c H locs 0 0 Q (F0 m pc ls [.int (qB r)])) → W p l e rm s m args below meth c s.heap [] 0 0 Q (F0 m 0 ls [])) : mMi l y b n (some .boolean) rm D ad cI cZ S av (qB r) S2 := by
  intro sz
  refine Met.ofW (cc := b) (maxL := n) (ret := some .boolean) hy rfl ?_
  intro p e s m args below meth c s₁ B hml hv
  obtain ⟨rfl, hsz, hP, hK, hD0, hN⟩ := hv
  have hts : ∀ w ∈ qtb, w.before av.toArray s = true := fun w h => atoms_spec (ws := .code y b n (some .boolean) :: qtb) B.pre w (List.mem_cons_of_mem _ h)
  have hr := B.returns
  have hlocks := B.notSynchronized
  subst hsz
  have hl := lv_entry av (n := n) hn
  rw [lg_entry_eq]
  generalize (lg_sl av ++ List.replicate (n - (lg_sl av).length) Slot.unset).toArray = ls at hl ⊢
  refine body p e s m _ below meth c _ (va_A (mw ad cI cZ S) s.heap.size) ls ⟨B.exec, B.bytes, hml, findClass_of_methodNamed B.named, hts⟩ hK hN (fun q h => Or.inr h) ⟨hP, hD0.self, va_S.rf⟩ hl (fun H locs pc ls hd w => ?_)
  exact W.zret B.exec B.bytes hr (qB_nar r) (fun t ht hW => ⟨⟨_, (), rfl, rfl, by subst ht; exact w.1⟩, w.2.2.F ht⟩) w.2.2.2.2 hd
theorem m_ofv {l : Launch} {y : MethodName} {b : ByteArray} {n : Nat} {rm : Room} {D : va_G} {ad : Nat → Nat} {cI cZ : ClassId} {S S2 : Nat → Nat → Int32} {av : List Value}  (hy : plainName y.cls = true) (hn : (lg_sl av).length ≤ n) (body : ∀ (p : Program) (e : Env) (s : State) (m : MethodId) (args : Array Value) (below : List Frame) (meth : Method) (c : Code) (Q : State → Prop) (A : Nat → Prop) (ls : Array Slot), CallFix p m c b n s args qtb y.cls → va_K D qcl [(cI, .int), (cZ, .boolean)] s → qnests mns s → (∀ q, s.heap.size ≤ q → A q) → mW D ad cI cZ A s.heap S s.heap [] → lv_has ls n (lv_args 0 av) → (∀ (H : Heap) (locs : List Loc) (pc : Nat) (ls : Array Slot), decode b pc = .ok (.return_, 1) → mW D ad cI cZ A s.heap S2 H locs → W p l e rm s m args below meth c H locs 0 0 Q (F0 m pc ls [])) → W p l e rm s m args below meth c s.heap [] 0 0 Q (F0 m 0 ls [])) : mMv l y b n (none) rm D ad cI cZ S av S2 := by
  intro sz
  refine Met.ofW (cc := b) (maxL := n) (ret := none) hy rfl ?_
  intro p e s m args below meth c s₁ B hml hv
  obtain ⟨rfl, hsz, hP, hK, hD0, hN⟩ := hv
  have hts : ∀ w ∈ qtb, w.before av.toArray s = true := fun w h => atoms_spec (ws := .code y b n (none) :: qtb) B.pre w (List.mem_cons_of_mem _ h)
  have hr := B.returns
  have hlocks := B.notSynchronized
  subst hsz
  have hl := lv_entry av (n := n) hn
  rw [lg_entry_eq]
  generalize (lg_sl av ++ List.replicate (n - (lg_sl av).length) Slot.unset).toArray = ls at hl ⊢
  refine body p e s m _ below meth c _ (va_A (mw ad cI cZ S) s.heap.size) ls ⟨B.exec, B.bytes, hml, findClass_of_methodNamed B.named, hts⟩ hK hN (fun q h => Or.inr h) ⟨hP, hD0.self, va_S.rf⟩ hl (fun H locs pc ls hd w => ?_)
  exact W.vret B.exec B.bytes hr (fun t ht hW => ⟨⟨(), rfl, trivial, by subst ht; exact w.1⟩, w.2.2.F ht⟩) w.2.2.2.2 hd
