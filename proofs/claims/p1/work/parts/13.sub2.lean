-- K_write in world k
set_option maxRecDepth 100000 in
set_option maxHeartbeats 4000000 in
theorem tbk_K_write_129 {p : Program} {l : Launch} {e : Env} {R : Room} {s : State} {m : MethodId} {args : Array Value} {below : List Frame} {meth : Method} {c : Code} {Q : State → Prop} {D : va_G} {ad : Nat → Nat} {cI : ClassId} {A : Nat → Prop} (F : CallFix p m c qb_K_write 6 s args qtb "CaptureSubtypes$Classes") (hR : 0 ≤ R.frames ∧ 0 ≤ R.locals) (hK : va_K D qcl [(cI, .int)] s) (hN : qnests kns s) (hA : ∀ q, s.heap.size ≤ q → A q) {res : (Nat → Nat → Int32)} (hQ : ∀ (H : Heap) (locs : List Loc) (pc : Nat) (ls : Array Slot), decode qb_K_write pc = .ok (.return_, 1) → kW D ad cI A s.heap res H locs → W p l e R s m args below meth c H locs 0 0 Q (F0 m pc ls [])) {k_129 : (Nat → Nat → Int32) → Int32 → Int32 → Option (Nat → Nat → Int32)} (hk_129 : ∀ (S : Nat → Nat → Int32) (v4 v5 : Int32), k_129 S v4 v5 = some res → ∀ {H : Heap} {locs : List Loc} {ls : Array Slot}, kW D ad cI A s.heap S H locs → lv_has ls 6 [(0, .ref (ad 0)), (4, .int v4), (5, .int v5)] → W p l e R s m args below meth c H locs 0 0 Q (F0 m 129 ls [])) (S : (Nat → Nat → Int32)) (v4 v5 : Int32) (hM : fb_K_write_129 k_129 S v4 v5 = some res) {H : Heap} {locs : List Loc} {ls : Array Slot} (w : kW D ad cI A s.heap S H locs) (hl : lv_has ls 6 [(0, .ref (ad 0)), (4, .int v4), (5, .int v5)]) : W p l e R s m args below meth c H locs 0 0 Q (F0 m 129 ls []) := by
  unfold fb_K_write_129 at hM
  refine lv_iload F.1 F.2.1 qd_K_write_129 (lv_at hl 2 rfl) ?_
  refine lv_iconst (v := 2) F.1 F.2.1 qd_K_write_131 (by decide) ?_
  refine lv_icmp_ge (tgt := 154) F.1 F.2.1 qd_K_write_132 (by decide) (fun hc1 => ?_) (fun hc1 => ?_)
  · rw [if_pos hc1] at hM
    cases hM
    exact hQ _ _ _ _ qd_K_write_154 w
  · rw [if_neg hc1] at hM
    refine lv_aload_n F.1 F.2.1 qd_K_write_135 rfl (lv_at hl 0 rfl) ?_
    refine kg_K_boundCounts F hK w qk_40 qd_K_write_136 ?_
    refine lv_iload F.1 F.2.1 qd_K_write_139 (lv_at hl 1 rfl) ?_
    refine lv_iconst (v := 2) F.1 F.2.1 qd_K_write_141 (by decide) ?_
    refine lv_imul F.1 F.2.1 qd_K_write_142 ?_
    refine lv_iload F.1 F.2.1 qd_K_write_143 (lv_at hl 2 rfl) ?_
    refine lv_iadd F.1 F.2.1 qd_K_write_145 ?_
    refine lv_iconst (v := 0) F.1 F.2.1 qd_K_write_146 (by decide) ?_
    obtain ⟨hi2, hM⟩ := qck_ok hM
    refine ks_K_boundCounts F hK w hi2 qd_K_write_147 (fun H locs w => ?_)
    refine lv_iinc (v := (v5 + (1 : Int32))) (lv' := [(5, .int (v5 + (1 : Int32))), (0, .ref (ad 0)), (4, .int v4)]) F.1 F.2.1 qd_K_write_148 hl (k := 2) rfl rfl (by decide) rfl (fun ls hl => ?_)
    refine lv_goto (tgt := 129) F.1 F.2.1 qd_K_write_151 (by decide) ?_
    exact hk_129 _ _ _ hM w (lv_sub hl [1, 2, 0] rfl)
set_option maxRecDepth 100000 in
set_option maxHeartbeats 4000000 in
theorem tk_K_write_129 {p : Program} {l : Launch} {e : Env} {R : Room} {s : State} {m : MethodId} {args : Array Value} {below : List Frame} {meth : Method} {c : Code} {Q : State → Prop} {D : va_G} {ad : Nat → Nat} {cI : ClassId} {A : Nat → Prop} (F : CallFix p m c qb_K_write 6 s args qtb "CaptureSubtypes$Classes") (hR : 0 ≤ R.frames ∧ 0 ≤ R.locals) (hK : va_K D qcl [(cI, .int)] s) (hN : qnests kns s) (hA : ∀ q, s.heap.size ≤ q → A q) {res : (Nat → Nat → Int32)} (hQ : ∀ (H : Heap) (locs : List Loc) (pc : Nat) (ls : Array Slot), decode qb_K_write pc = .ok (.return_, 1) → kW D ad cI A s.heap res H locs → W p l e R s m args below meth c H locs 0 0 Q (F0 m pc ls [])) : ∀ (n : Nat) (S : (Nat → Nat → Int32)) (v4 v5 : Int32) (hM : f_K_write_129 n S v4 v5 = some res) {H : Heap} {locs : List Loc} {ls : Array Slot} (w : kW D ad cI A s.heap S H locs) (hl : lv_has ls 6 [(0, .ref (ad 0)), (4, .int v4), (5, .int v5)]), W p l e R s m args below meth c H locs 0 0 Q (F0 m 129 ls []) := by
  intro n
  induction n with
  | zero => intro S v4 v5 hM; exact absurd hM (by simp [f_K_write_129])
  | succ n ih => intro S v4 v5 hM H locs ls w hl; exact tbk_K_write_129 F hR hK hN hA hQ (k_129 := f_K_write_129 n) (fun S v4 v5 hM H locs ls w hl => ih S v4 v5 hM w hl) S v4 v5 hM w hl
set_option maxRecDepth 100000 in
set_option maxHeartbeats 4000000 in
theorem tk_K_write_119 {p : Program} {l : Launch} {e : Env} {R : Room} {s : State} {m : MethodId} {args : Array Value} {below : List Frame} {meth : Method} {c : Code} {Q : State → Prop} {D : va_G} {ad : Nat → Nat} {cI : ClassId} {A : Nat → Prop} (F : CallFix p m c qb_K_write 6 s args qtb "CaptureSubtypes$Classes") (hR : 0 ≤ R.frames ∧ 0 ≤ R.locals) (hK : va_K D qcl [(cI, .int)] s) (hN : qnests kns s) (hA : ∀ q, s.heap.size ≤ q → A q) {res : (Nat → Nat → Int32)} (hQ : ∀ (H : Heap) (locs : List Loc) (pc : Nat) (ls : Array Slot), decode qb_K_write pc = .ok (.return_, 1) → kW D ad cI A s.heap res H locs → W p l e R s m args below meth c H locs 0 0 Q (F0 m pc ls [])) {k_70 : (Nat → Nat → Int32) → Int32 → Int32 → Int32 → Option (Nat → Nat → Int32)} (hk_70 : ∀ (S : Nat → Nat → Int32) (v3 v4 v5 : Int32), k_70 S v3 v4 v5 = some res → ∀ {H : Heap} {locs : List Loc} {ls : Array Slot}, kW D ad cI A s.heap S H locs → lv_has ls 6 [(0, .ref (ad 0)), (3, .int v3), (4, .int v4), (5, .int v5)] → W p l e R s m args below meth c H locs 0 0 Q (F0 m 70 ls [])) (S : (Nat → Nat → Int32)) (v3 v4 v5 s1 s2 : Int32) (hM : f_K_write_119 k_70 S v3 v4 v5 s1 s2 = some res) {H : Heap} {locs : List Loc} {ls : Array Slot} (w : kW D ad cI A s.heap S H locs) (hl : lv_has ls 6 [(0, .ref (ad 0)), (3, .int v3), (4, .int v4), (5, .int v5)]) : W p l e R s m args below meth c H locs 0 0 Q (F0 m 119 ls [.int s2, .int s1, .ref (ad 4)]) := by
  unfold f_K_write_119 at hM
  obtain ⟨hi1, hM⟩ := qck_ok hM
  refine ks_K_superClasses F hK w hi1 qd_K_write_119 (fun H locs w => ?_)
  refine lv_iinc (v := (v5 + (1 : Int32))) (lv' := [(5, .int (v5 + (1 : Int32))), (0, .ref (ad 0)), (3, .int v3), (4, .int v4)]) F.1 F.2.1 qd_K_write_120 hl (k := 3) rfl rfl (by decide) rfl (fun ls hl => ?_)
  refine lv_goto (tgt := 70) F.1 F.2.1 qd_K_write_123 (by decide) ?_
  exact hk_70 _ _ _ _ hM w (lv_sub hl [1, 2, 3, 0] rfl)
set_option maxRecDepth 100000 in
set_option maxHeartbeats 4000000 in
theorem tk_K_write_97 {p : Program} {l : Launch} {e : Env} {R : Room} {s : State} {m : MethodId} {args : Array Value} {below : List Frame} {meth : Method} {c : Code} {Q : State → Prop} {D : va_G} {ad : Nat → Nat} {cI : ClassId} {A : Nat → Prop} (F : CallFix p m c qb_K_write 6 s args qtb "CaptureSubtypes$Classes") (hR : 0 ≤ R.frames ∧ 0 ≤ R.locals) (hK : va_K D qcl [(cI, .int)] s) (hN : qnests kns s) (hA : ∀ q, s.heap.size ≤ q → A q) {res : (Nat → Nat → Int32)} (hQ : ∀ (H : Heap) (locs : List Loc) (pc : Nat) (ls : Array Slot), decode qb_K_write pc = .ok (.return_, 1) → kW D ad cI A s.heap res H locs → W p l e R s m args below meth c H locs 0 0 Q (F0 m pc ls [])) {k_70 : (Nat → Nat → Int32) → Int32 → Int32 → Int32 → Option (Nat → Nat → Int32)} (hk_70 : ∀ (S : Nat → Nat → Int32) (v3 v4 v5 : Int32), k_70 S v3 v4 v5 = some res → ∀ {H : Heap} {locs : List Loc} {ls : Array Slot}, kW D ad cI A s.heap S H locs → lv_has ls 6 [(0, .ref (ad 0)), (3, .int v3), (4, .int v4), (5, .int v5)] → W p l e R s m args below meth c H locs 0 0 Q (F0 m 70 ls [])) (S : (Nat → Nat → Int32)) (v3 v4 v5 s1 s2 : Int32) (hM : f_K_write_97 k_70 S v3 v4 v5 s1 s2 = some res) {H : Heap} {locs : List Loc} {ls : Array Slot} (w : kW D ad cI A s.heap S H locs) (hl : lv_has ls 6 [(0, .ref (ad 0)), (3, .int v3), (4, .int v4), (5, .int v5)]) : W p l e R s m args below meth c H locs 0 0 Q (F0 m 97 ls [.int s2, .int s1, .ref (ad 3)]) := by
  unfold f_K_write_97 at hM
  obtain ⟨hi1, hM⟩ := qck_ok hM
  refine ks_K_superTypes F hK w hi1 qd_K_write_97 (fun H locs w => ?_)
  refine lv_aload_n F.1 F.2.1 qd_K_write_98 rfl (lv_at hl 0 rfl) ?_
  refine kg_K_superClasses F hK w qk_38 qd_K_write_99 ?_
  refine lv_iload F.1 F.2.1 qd_K_write_102 (lv_at hl 2 rfl) ?_
  refine lv_iconst (v := 3) F.1 F.2.1 qd_K_write_104 (by decide) ?_
  refine lv_imul F.1 F.2.1 qd_K_write_105 ?_
  refine lv_iload F.1 F.2.1 qd_K_write_106 (lv_at hl 3 rfl) ?_
  refine lv_iadd F.1 F.2.1 qd_K_write_108 ?_
  refine lv_iload F.1 F.2.1 qd_K_write_109 (lv_at hl 3 rfl) ?_
  refine lv_if_ne (tgt := 118) F.1 F.2.1 qd_K_write_111 (by decide) (fun hc2 => ?_) (fun hc2 => ?_)
  · rw [if_neg hc2] at hM
    refine lv_iconst (v := (-1)) F.1 F.2.1 qd_K_write_118 (by decide) ?_
    exact tk_K_write_119 F hR hK hN hA hQ hk_70 _ _ _ _ _ _ hM w (lv_sub hl [0, 1, 2, 3] rfl)
  · rw [if_pos hc2] at hM
    refine lv_iload_n F.1 F.2.1 qd_K_write_114 rfl (lv_at hl 1 rfl) ?_
    refine lv_goto (tgt := 119) F.1 F.2.1 qd_K_write_115 (by decide) ?_
    exact tk_K_write_119 F hR hK hN hA hQ hk_70 _ _ _ _ _ _ hM w (lv_sub hl [0, 1, 2, 3] rfl)
set_option maxRecDepth 100000 in
set_option maxHeartbeats 4000000 in
theorem tbk_K_write_70 {p : Program} {l : Launch} {e : Env} {R : Room} {s : State} {m : MethodId} {args : Array Value} {below : List Frame} {meth : Method} {c : Code} {Q : State → Prop} {D : va_G} {ad : Nat → Nat} {cI : ClassId} {A : Nat → Prop} (F : CallFix p m c qb_K_write 6 s args qtb "CaptureSubtypes$Classes") (hR : 0 ≤ R.frames ∧ 0 ≤ R.locals) (hK : va_K D qcl [(cI, .int)] s) (hN : qnests kns s) (hA : ∀ q, s.heap.size ≤ q → A q) {res : (Nat → Nat → Int32)} (hQ : ∀ (H : Heap) (locs : List Loc) (pc : Nat) (ls : Array Slot), decode qb_K_write pc = .ok (.return_, 1) → kW D ad cI A s.heap res H locs → W p l e R s m args below meth c H locs 0 0 Q (F0 m pc ls [])) {k_70 : (Nat → Nat → Int32) → Int32 → Int32 → Int32 → Option (Nat → Nat → Int32)} (hk_70 : ∀ (S : Nat → Nat → Int32) (v3 v4 v5 : Int32), k_70 S v3 v4 v5 = some res → ∀ {H : Heap} {locs : List Loc} {ls : Array Slot}, kW D ad cI A s.heap S H locs → lv_has ls 6 [(0, .ref (ad 0)), (3, .int v3), (4, .int v4), (5, .int v5)] → W p l e R s m args below meth c H locs 0 0 Q (F0 m 70 ls [])) (S : (Nat → Nat → Int32)) (v3 v4 v5 : Int32) (hM : fb_K_write_70 k_70 S v3 v4 v5 = some res) {H : Heap} {locs : List Loc} {ls : Array Slot} (w : kW D ad cI A s.heap S H locs) (hl : lv_has ls 6 [(0, .ref (ad 0)), (3, .int v3), (4, .int v4), (5, .int v5)]) : W p l e R s m args below meth c H locs 0 0 Q (F0 m 70 ls []) := by
  unfold fb_K_write_70 at hM
  refine lv_iload F.1 F.2.1 qd_K_write_70 (lv_at hl 3 rfl) ?_
  refine lv_iconst (v := 3) F.1 F.2.1 qd_K_write_72 (by decide) ?_
  refine lv_icmp_ge (tgt := 126) F.1 F.2.1 qd_K_write_73 (by decide) (fun hc1 => ?_) (fun hc1 => ?_)
  · rw [if_pos hc1] at hM
    refine lv_iconst (v := 0) F.1 F.2.1 qd_K_write_126 (by decide) ?_
    refine lv_istore (lv' := [(5, .int (0 : Int32)), (0, .ref (ad 0)), (3, .int v3), (4, .int v4)]) F.1 F.2.1 qd_K_write_127 hl (by decide) rfl (fun ls hl => ?_)
    exact tk_K_write_129 F hR hK hN hA hQ  qfu _ _ _ hM w (lv_sub hl [1, 3, 0] rfl)
  · rw [if_neg hc1] at hM
    refine lv_aload_n F.1 F.2.1 qd_K_write_76 rfl (lv_at hl 0 rfl) ?_
    refine kg_K_superTypes F hK w qk_37 qd_K_write_77 ?_
    refine lv_iload F.1 F.2.1 qd_K_write_80 (lv_at hl 2 rfl) ?_
    refine lv_iconst (v := 3) F.1 F.2.1 qd_K_write_82 (by decide) ?_
    refine lv_imul F.1 F.2.1 qd_K_write_83 ?_
    refine lv_iload F.1 F.2.1 qd_K_write_84 (lv_at hl 3 rfl) ?_
    refine lv_iadd F.1 F.2.1 qd_K_write_86 ?_
    refine lv_iload F.1 F.2.1 qd_K_write_87 (lv_at hl 3 rfl) ?_
    refine lv_if_ne (tgt := 96) F.1 F.2.1 qd_K_write_89 (by decide) (fun hc2 => ?_) (fun hc2 => ?_)
    · rw [if_neg hc2] at hM
      refine lv_iconst (v := (-1)) F.1 F.2.1 qd_K_write_96 (by decide) ?_
      exact tk_K_write_97 F hR hK hN hA hQ hk_70 _ _ _ _ _ _ hM w (lv_sub hl [0, 1, 2, 3] rfl)
    · rw [if_pos hc2] at hM
      refine lv_iload_n F.1 F.2.1 qd_K_write_92 rfl (lv_at hl 1 rfl) ?_
      refine lv_goto (tgt := 97) F.1 F.2.1 qd_K_write_93 (by decide) ?_
      exact tk_K_write_97 F hR hK hN hA hQ hk_70 _ _ _ _ _ _ hM w (lv_sub hl [0, 1, 2, 3] rfl)
set_option maxRecDepth 100000 in
set_option maxHeartbeats 4000000 in
theorem tk_K_write_70 {p : Program} {l : Launch} {e : Env} {R : Room} {s : State} {m : MethodId} {args : Array Value} {below : List Frame} {meth : Method} {c : Code} {Q : State → Prop} {D : va_G} {ad : Nat → Nat} {cI : ClassId} {A : Nat → Prop} (F : CallFix p m c qb_K_write 6 s args qtb "CaptureSubtypes$Classes") (hR : 0 ≤ R.frames ∧ 0 ≤ R.locals) (hK : va_K D qcl [(cI, .int)] s) (hN : qnests kns s) (hA : ∀ q, s.heap.size ≤ q → A q) {res : (Nat → Nat → Int32)} (hQ : ∀ (H : Heap) (locs : List Loc) (pc : Nat) (ls : Array Slot), decode qb_K_write pc = .ok (.return_, 1) → kW D ad cI A s.heap res H locs → W p l e R s m args below meth c H locs 0 0 Q (F0 m pc ls [])) : ∀ (n : Nat) (S : (Nat → Nat → Int32)) (v3 v4 v5 : Int32) (hM : f_K_write_70 n S v3 v4 v5 = some res) {H : Heap} {locs : List Loc} {ls : Array Slot} (w : kW D ad cI A s.heap S H locs) (hl : lv_has ls 6 [(0, .ref (ad 0)), (3, .int v3), (4, .int v4), (5, .int v5)]), W p l e R s m args below meth c H locs 0 0 Q (F0 m 70 ls []) := by
  intro n
  induction n with
  | zero => intro S v3 v4 v5 hM; exact absurd hM (by simp [f_K_write_70])
  | succ n ih => intro S v3 v4 v5 hM H locs ls w hl; exact tbk_K_write_70 F hR hK hN hA hQ (k_70 := f_K_write_70 n) (fun S v3 v4 v5 hM H locs ls w hl => ih S v3 v4 v5 hM w hl) S v3 v4 v5 hM w hl
set_option maxRecDepth 100000 in
set_option maxHeartbeats 4000000 in
theorem tk_K_write {p : Program} {l : Launch} {e : Env} {R : Room} {s : State} {m : MethodId} {args : Array Value} {below : List Frame} {meth : Method} {c : Code} {Q : State → Prop} {D : va_G} {ad : Nat → Nat} {cI : ClassId} {A : Nat → Prop} (F : CallFix p m c qb_K_write 6 s args qtb "CaptureSubtypes$Classes") (hR : 0 ≤ R.frames ∧ 0 ≤ R.locals) (hK : va_K D qcl [(cI, .int)] s) (hN : qnests kns s) (hA : ∀ q, s.heap.size ≤ q → A q) {res : (Nat → Nat → Int32)} (hQ : ∀ (H : Heap) (locs : List Loc) (pc : Nat) (ls : Array Slot), decode qb_K_write pc = .ok (.return_, 1) → kW D ad cI A s.heap res H locs → W p l e R s m args below meth c H locs 0 0 Q (F0 m pc ls [])) (S : (Nat → Nat → Int32)) (a1 a2 a3 : Int32) (hM : f_K_write S a1 a2 a3 = some res) {H : Heap} {locs : List Loc} {ls : Array Slot} (w : kW D ad cI A s.heap S H locs) (hl : lv_has ls 6 [(0, .ref (ad 0)), (1, .int a1), (2, .int a2), (3, .int a3)]) : W p l e R s m args below meth c H locs 0 0 Q (F0 m 0 ls []) := by
  unfold f_K_write at hM
  refine lv_aload_n F.1 F.2.1 qd_K_write_0 rfl (lv_at hl 0 rfl) ?_
  refine kg_K_count F hK w qk_31 qd_K_write_1 ?_
  refine lv_istore (lv' := [(4, .int (S 0 0)), (0, .ref (ad 0)), (1, .int a1), (2, .int a2), (3, .int a3)]) F.1 F.2.1 qd_K_write_4 hl (by decide) rfl (fun ls hl => ?_)
  refine lv_iload F.1 F.2.1 qd_K_write_6 (lv_at hl 0 rfl) ?_
  refine lv_if_lt (tgt := 18) F.1 F.2.1 qd_K_write_8 (by decide) (fun hc1 => ?_) (fun hc1 => ?_)
  · rw [if_pos hc1] at hM
    cases hM
    exact hQ _ _ _ _ qd_K_write_18 w
  · rw [if_neg hc1] at hM
    refine lv_iload F.1 F.2.1 qd_K_write_11 (lv_at hl 0 rfl) ?_
    refine lv_bipush (v := 12) F.1 F.2.1 qd_K_write_13 (by decide) ?_
    refine lv_icmp_lt (tgt := 19) F.1 F.2.1 qd_K_write_15 (by decide) (fun hc2 => ?_) (fun hc2 => ?_)
    · rw [if_pos hc2] at hM
      refine lv_aload_n F.1 F.2.1 qd_K_write_19 rfl (lv_at hl 1 rfl) ?_
      refine lv_iload F.1 F.2.1 qd_K_write_20 (lv_at hl 0 rfl) ?_
      refine lv_iconst (v := 1) F.1 F.2.1 qd_K_write_22 (by decide) ?_
      refine lv_iadd F.1 F.2.1 qd_K_write_23 ?_
      refine kp_K_count F hK w qk_31 qd_K_write_24 (fun H locs w => ?_)
      refine lv_aload_n F.1 F.2.1 qd_K_write_27 rfl (lv_at hl 1 rfl) ?_
      refine kg_K_kinds F hK w qk_35 qd_K_write_28 ?_
      refine lv_iload F.1 F.2.1 qd_K_write_31 (lv_at hl 0 rfl) ?_
      refine lv_iload_n F.1 F.2.1 qd_K_write_33 rfl (lv_at hl 2 rfl) ?_
      obtain ⟨hi3, hM⟩ := qck_ok hM
      refine ks_K_kinds F hK w hi3 qd_K_write_34 (fun H locs w => ?_)
      refine lv_aload_n F.1 F.2.1 qd_K_write_35 rfl (lv_at hl 1 rfl) ?_
      refine kg_K_parameterCounts F hK w qk_36 qd_K_write_36 ?_
      refine lv_iload F.1 F.2.1 qd_K_write_39 (lv_at hl 0 rfl) ?_
      refine lv_iload_n F.1 F.2.1 qd_K_write_41 rfl (lv_at hl 3 rfl) ?_
      obtain ⟨hi4, hM⟩ := qck_ok hM
      refine ks_K_parameterCounts F hK w hi4 qd_K_write_42 (fun H locs w => ?_)
      refine lv_aload_n F.1 F.2.1 qd_K_write_43 rfl (lv_at hl 1 rfl) ?_
      refine kg_K_parents F hK w qk_41 qd_K_write_44 ?_
      refine lv_iload F.1 F.2.1 qd_K_write_47 (lv_at hl 0 rfl) ?_
      refine lv_iconst (v := 0) F.1 F.2.1 qd_K_write_49 (by decide) ?_
      obtain ⟨hi5, hM⟩ := qck_ok hM
      refine ks_K_parents F hK w hi5 qd_K_write_50 (fun H locs w => ?_)
      refine lv_aload_n F.1 F.2.1 qd_K_write_51 rfl (lv_at hl 1 rfl) ?_
      refine kg_K_above F hK w qk_42 qd_K_write_52 ?_
      refine lv_iload F.1 F.2.1 qd_K_write_55 (lv_at hl 0 rfl) ?_
      refine lv_iconst (v := 0) F.1 F.2.1 qd_K_write_57 (by decide) ?_
      obtain ⟨hi6, hM⟩ := qck_ok hM
      refine ks_K_above F hK w hi6 qd_K_write_58 (fun H locs w => ?_)
      refine lv_aload_n F.1 F.2.1 qd_K_write_59 rfl (lv_at hl 1 rfl) ?_
      refine kg_K_apartFrom F hK w qk_43 qd_K_write_60 ?_
      refine lv_iload F.1 F.2.1 qd_K_write_63 (lv_at hl 0 rfl) ?_
      refine lv_iconst (v := 0) F.1 F.2.1 qd_K_write_65 (by decide) ?_
      obtain ⟨hi7, hM⟩ := qck_ok hM
      refine ks_K_apartFrom F hK w hi7 qd_K_write_66 (fun H locs w => ?_)
      refine lv_iconst (v := 0) F.1 F.2.1 qd_K_write_67 (by decide) ?_
      refine lv_istore (lv' := [(5, .int (0 : Int32)), (4, .int (S 0 0)), (0, .ref (ad 0)), (1, .int a1), (2, .int a2), (3, .int a3)]) F.1 F.2.1 qd_K_write_68 hl (by decide) rfl (fun ls hl => ?_)
      exact tk_K_write_70 F hR hK hN hA hQ  qfu _ _ _ _ hM w (lv_sub hl [2, 5, 1, 0] rfl)
    · rw [if_neg hc2] at hM
      cases hM
      exact hQ _ _ _ _ qd_K_write_18 w
set_option maxRecDepth 100000 in
theorem ck_K_write (l : Launch) (D : va_G) (ad : Nat → Nat) (cI : ClassId) {S : (Nat → Nat → Int32)} {a1 a2 a3 : Int32} {res : (Nat → Nat → Int32)} (hM : f_K_write S a1 a2 a3 = some res) : kMv l qy_K_write qb_K_write 6 none { frames := 0, cells := 0, slots := 0, locals := 0 } D ad cI S [.ref (ad 0), .int a1, .int a2, .int a3] res := k_ofv (by decide +kernel) (Nat.le_of_ble_eq_true rfl) (fun p e s m args below meth c Q A ls F hK hN hA w hl hQ => tk_K_write F ⟨Nat.le_refl _, Nat.le_refl _⟩ hK hN hA hQ S a1 a2 a3 hM w hl)
-- K_empty in world k
set_option maxRecDepth 100000 in
set_option maxHeartbeats 4000000 in
theorem tk_K_empty {p : Program} {l : Launch} {e : Env} {R : Room} {s : State} {m : MethodId} {args : Array Value} {below : List Frame} {meth : Method} {c : Code} {Q : State → Prop} {D : va_G} {ad : Nat → Nat} {cI : ClassId} {A : Nat → Prop} (F : CallFix p m c qb_K_empty 1 s args qtb "CaptureSubtypes$Classes") (hR : 1 ≤ R.frames ∧ 25 ≤ R.locals) (hK : va_K D qcl [(cI, .int)] s) (hN : qnests kns s) (hA : ∀ q, s.heap.size ≤ q → A q) {res : (Nat → Nat → Int32)} (hQ : ∀ (H : Heap) (locs : List Loc) (pc : Nat) (ls : Array Slot), decode qb_K_empty pc = .ok (.return_, 1) → kW D ad cI A s.heap res H locs → W p l e R s m args below meth c H locs 0 0 Q (F0 m pc ls [])) (S : (Nat → Nat → Int32)) (hM : f_K_empty S  = some res) {H : Heap} {locs : List Loc} {ls : Array Slot} (w : kW D ad cI A s.heap S H locs) (hl : lv_has ls 1 [(0, .ref (ad 0))]) : W p l e R s m args below meth c H locs 0 0 Q (F0 m 0 ls []) := by
  unfold f_K_empty at hM
  refine lv_aload_n F.1 F.2.1 qd_K_empty_0 rfl (lv_at hl 0 rfl) ?_
  refine lv_iconst (v := 0) F.1 F.2.1 qd_K_empty_1 (by decide) ?_
  refine kp_K_count F hK w qk_31 qd_K_empty_2 (fun H locs w => ?_)
  refine lv_aload_n F.1 F.2.1 qd_K_empty_5 rfl (lv_at hl 0 rfl) ?_
  refine lv_iconst (v := 0) F.1 F.2.1 qd_K_empty_6 (by decide) ?_
  refine lv_iconst (v := 0) F.1 F.2.1 qd_K_empty_7 (by decide) ?_
  refine lv_iconst (v := (-1)) F.1 F.2.1 qd_K_empty_8 (by decide) ?_
  obtain ⟨q1, hq2, hM⟩ := qbd hM
  refine k_callv F hK hN hA w (ck_K_write l D ad cI hq2) qk_27 qk_29 qs_K_write qk_2 qk_30 qv_K_write rfl rfl ⟨Nat.le_trans (by decide) hR.1, Nat.le_trans (by decide) hR.2⟩ (ci := 0) rfl (j := 0) rfl hl.1 rfl (Nat.le_of_ble_eq_true rfl) qd_K_empty_9 (fun H locs w => ?_)
  refine lv_aload_n F.1 F.2.1 qd_K_empty_12 rfl (lv_at hl 0 rfl) ?_
  refine kg_K_above F hK w qk_42 qd_K_empty_13 ?_
  refine lv_iconst (v := 0) F.1 F.2.1 qd_K_empty_16 (by decide) ?_
  refine lv_iconst (v := 1) F.1 F.2.1 qd_K_empty_17 (by decide) ?_
  obtain ⟨hi3, hM⟩ := qck_ok hM
  refine ks_K_above F hK w hi3 qd_K_empty_18 (fun H locs w => ?_)
  cases hM
  exact hQ _ _ _ _ qd_K_empty_19 w
set_option maxRecDepth 100000 in
theorem ck_K_empty (l : Launch) (D : va_G) (ad : Nat → Nat) (cI : ClassId) {S : (Nat → Nat → Int32)} {res : (Nat → Nat → Int32)} (hM : f_K_empty S  = some res) : kMv l qy_K_empty qb_K_empty 1 none { frames := 1, cells := 0, slots := 0, locals := 25 } D ad cI S [.ref (ad 0)] res := k_ofv (by decide +kernel) (Nat.le_of_ble_eq_true rfl) (fun p e s m args below meth c Q A ls F hK hN hA w hl hQ => tk_K_empty F ⟨Nat.le_refl _, Nat.le_refl _⟩ hK hN hA hQ S  hM w hl)
-- T_put in world tt
set_option maxRecDepth 100000 in
set_option maxHeartbeats 4000000 in
theorem ttt_T_put_261 {p : Program} {l : Launch} {e : Env} {R : Room} {s : State} {m : MethodId} {args : Array Value} {below : List Frame} {meth : Method} {c : Code} {Q : State → Prop} {D : va_G} {ad : Nat → Nat} {cI : ClassId} {A : Nat → Prop} (F : CallFix p m c qb_T_put 10 s args qtb "CaptureSubtypes$Types") (hR : 1 ≤ R.frames ∧ 40 ≤ R.locals) (hK : va_K D qcl [(cI, .int)] s) (hN : qnests ttns s) (hA : ∀ q, s.heap.size ≤ q → A q) {res : (Int32 × (Nat → Nat → Int32))} (hQ : ∀ (H : Heap) (locs : List Loc) (pc : Nat) (ls : Array Slot), decode qb_T_put pc = .ok (.ireturn, 1) → ttW D ad cI A s.heap res.2 H locs → W p l e R s m args below meth c H locs 0 0 Q (F0 m pc ls [.int res.1])) (S : (Nat → Nat → Int32)) (v1 v2 v3 v4 v7 v8 : Int32) (hM : f_T_put_261 S v1 v2 v3 v4 v7 v8 = some res) {H : Heap} {locs : List Loc} {ls : Array Slot} (w : ttW D ad cI A s.heap S H locs) (hl : lv_has ls 10 [(0, .ref (ad 0)), (1, .int v1), (2, .int v2), (3, .int v3), (4, .int v4), (7, .int v7), (8, .int v8)]) : W p l e R s m args below meth c H locs 0 0 Q (F0 m 261 ls []) := by
  unfold f_T_put_261 at hM
  refine lv_aload_n F.1 F.2.1 qd_T_put_261 rfl (lv_at hl 0 rfl) ?_
  refine ttg_T_top F hK w qk_89 qd_T_put_262 ?_
  refine lv_istore (lv' := [(9, .int (S 11 0)), (0, .ref (ad 0)), (1, .int v1), (2, .int v2), (3, .int v3), (4, .int v4), (7, .int v7), (8, .int v8)]) F.1 F.2.1 qd_T_put_265 hl (by decide) rfl (fun ls hl => ?_)
  refine lv_aload_n F.1 F.2.1 qd_T_put_267 rfl (lv_at hl 1 rfl) ?_
  refine lv_iload F.1 F.2.1 qd_T_put_268 (lv_at hl 0 rfl) ?_
  refine lv_iconst (v := 1) F.1 F.2.1 qd_T_put_270 (by decide) ?_
  refine lv_iadd F.1 F.2.1 qd_T_put_271 ?_
  refine ttp_T_top F hK w qk_89 qd_T_put_272 (fun H locs w => ?_)
  refine lv_aload_n F.1 F.2.1 qd_T_put_275 rfl (lv_at hl 1 rfl) ?_
  refine ttg_T_sorts F hK w qk_90 qd_T_put_276 ?_
  refine lv_iload F.1 F.2.1 qd_T_put_279 (lv_at hl 0 rfl) ?_
  refine lv_iload_n F.1 F.2.1 qd_T_put_281 rfl (lv_at hl 2 rfl) ?_
  obtain ⟨hi1, hM⟩ := qck_ok hM
  refine tts_T_sorts F hK w hi1 qd_T_put_282 (fun H locs w => ?_)
  refine lv_aload_n F.1 F.2.1 qd_T_put_283 rfl (lv_at hl 1 rfl) ?_
  refine ttg_T_owners F hK w qk_91 qd_T_put_284 ?_
  refine lv_iload F.1 F.2.1 qd_T_put_287 (lv_at hl 0 rfl) ?_
  refine lv_iload_n F.1 F.2.1 qd_T_put_289 rfl (lv_at hl 3 rfl) ?_
  obtain ⟨hi2, hM⟩ := qck_ok hM
  refine tts_T_owners F hK w hi2 qd_T_put_290 (fun H locs w => ?_)
  refine lv_aload_n F.1 F.2.1 qd_T_put_291 rfl (lv_at hl 1 rfl) ?_
  refine ttg_T_firsts F hK w qk_92 qd_T_put_292 ?_
  refine lv_iload F.1 F.2.1 qd_T_put_295 (lv_at hl 0 rfl) ?_
  refine lv_iload_n F.1 F.2.1 qd_T_put_297 rfl (lv_at hl 4 rfl) ?_
  obtain ⟨hi3, hM⟩ := qck_ok hM
  refine tts_T_firsts F hK w hi3 qd_T_put_298 (fun H locs w => ?_)
  refine lv_aload_n F.1 F.2.1 qd_T_put_299 rfl (lv_at hl 1 rfl) ?_
  refine ttg_T_seconds F hK w qk_93 qd_T_put_300 ?_
  refine lv_iload F.1 F.2.1 qd_T_put_303 (lv_at hl 0 rfl) ?_
  refine lv_iload F.1 F.2.1 qd_T_put_305 (lv_at hl 5 rfl) ?_
  obtain ⟨hi4, hM⟩ := qck_ok hM
  refine tts_T_seconds F hK w hi4 qd_T_put_307 (fun H locs w => ?_)
  refine lv_aload_n F.1 F.2.1 qd_T_put_308 rfl (lv_at hl 1 rfl) ?_
  refine ttg_T_depths F hK w qk_94 qd_T_put_309 ?_
  refine lv_iload F.1 F.2.1 qd_T_put_312 (lv_at hl 0 rfl) ?_
  refine lv_iload F.1 F.2.1 qd_T_put_314 (lv_at hl 6 rfl) ?_
  obtain ⟨hi5, hM⟩ := qck_ok hM
  refine tts_T_depths F hK w hi5 qd_T_put_316 (fun H locs w => ?_)
  refine lv_aload_n F.1 F.2.1 qd_T_put_317 rfl (lv_at hl 1 rfl) ?_
  refine ttg_T_insides F hK w qk_95 qd_T_put_318 ?_
  refine lv_iload F.1 F.2.1 qd_T_put_321 (lv_at hl 0 rfl) ?_
  refine lv_iload F.1 F.2.1 qd_T_put_323 (lv_at hl 7 rfl) ?_
  obtain ⟨hi6, hM⟩ := qck_ok hM
  refine tts_T_insides F hK w hi6 qd_T_put_325 (fun H locs w => ?_)
  refine lv_aload_n F.1 F.2.1 qd_T_put_326 rfl (lv_at hl 1 rfl) ?_
  refine ttg_T_ups F hK w qk_96 qd_T_put_327 ?_
  refine lv_iload F.1 F.2.1 qd_T_put_330 (lv_at hl 0 rfl) ?_
  refine lv_iconst (v := (-1)) F.1 F.2.1 qd_T_put_332 (by decide) ?_
  obtain ⟨hi7, hM⟩ := qck_ok hM
  refine tts_T_ups F hK w hi7 qd_T_put_333 (fun H locs w => ?_)
  refine lv_aload_n F.1 F.2.1 qd_T_put_334 rfl (lv_at hl 1 rfl) ?_
  refine ttg_T_lows F hK w qk_97 qd_T_put_335 ?_
  refine lv_iload F.1 F.2.1 qd_T_put_338 (lv_at hl 0 rfl) ?_
  refine lv_iconst (v := (-1)) F.1 F.2.1 qd_T_put_340 (by decide) ?_
  obtain ⟨hi8, hM⟩ := qck_ok hM
  refine tts_T_lows F hK w hi8 qd_T_put_341 (fun H locs w => ?_)
  refine lv_iload F.1 F.2.1 qd_T_put_342 (lv_at hl 0 rfl) ?_
  cases hM
  exact hQ _ _ _ _ qd_T_put_344 w
set_option maxRecDepth 100000 in
set_option maxHeartbeats 4000000 in
theorem ttt_T_put_214 {p : Program} {l : Launch} {e : Env} {R : Room} {s : State} {m : MethodId} {args : Array Value} {below : List Frame} {meth : Method} {c : Code} {Q : State → Prop} {D : va_G} {ad : Nat → Nat} {cI : ClassId} {A : Nat → Prop} (F : CallFix p m c qb_T_put 10 s args qtb "CaptureSubtypes$Types") (hR : 1 ≤ R.frames ∧ 40 ≤ R.locals) (hK : va_K D qcl [(cI, .int)] s) (hN : qnests ttns s) (hA : ∀ q, s.heap.size ≤ q → A q) {res : (Int32 × (Nat → Nat → Int32))} (hQ : ∀ (H : Heap) (locs : List Loc) (pc : Nat) (ls : Array Slot), decode qb_T_put pc = .ok (.ireturn, 1) → ttW D ad cI A s.heap res.2 H locs → W p l e R s m args below meth c H locs 0 0 Q (F0 m pc ls [.int res.1])) (S : (Nat → Nat → Int32)) (v1 v2 v3 v4 v5 v7 v8 : Int32) (hM : f_T_put_214 S v1 v2 v3 v4 v5 v7 v8 = some res) {H : Heap} {locs : List Loc} {ls : Array Slot} (w : ttW D ad cI A s.heap S H locs) (hl : lv_has ls 10 [(0, .ref (ad 0)), (1, .int v1), (2, .int v2), (3, .int v3), (4, .int v4), (5, .int v5), (7, .int v7), (8, .int v8)]) : W p l e R s m args below meth c H locs 0 0 Q (F0 m 214 ls []) := by
  unfold f_T_put_214 at hM
  refine lv_aload_n F.1 F.2.1 qd_T_put_214 rfl (lv_at hl 0 rfl) ?_
  refine ttg_T_top F hK w qk_89 qd_T_put_215 ?_
  refine lv_if_lt (tgt := 240) F.1 F.2.1 qd_T_put_218 (by decide) (fun hc1 => ?_) (fun hc1 => ?_)
  · rw [if_pos hc1] at hM
    refine lv_bipush (v := (-3)) F.1 F.2.1 qd_T_put_240 (by decide) ?_
    cases hM
    exact hQ _ _ _ _ qd_T_put_242 w
  · rw [if_neg hc1] at hM
    refine lv_aload_n F.1 F.2.1 qd_T_put_221 rfl (lv_at hl 0 rfl) ?_
    refine ttg_T_top F hK w qk_89 qd_T_put_222 ?_
    refine lv_sipush (v := 1024) F.1 F.2.1 qd_T_put_225 (by decide) ?_
    refine lv_icmp_ge (tgt := 240) F.1 F.2.1 qd_T_put_228 (by decide) (fun hc2 => ?_) (fun hc2 => ?_)
    · rw [if_pos hc2] at hM
      refine lv_bipush (v := (-3)) F.1 F.2.1 qd_T_put_240 (by decide) ?_
      cases hM
      exact hQ _ _ _ _ qd_T_put_242 w
    · rw [if_neg hc2] at hM
      refine lv_aload_n F.1 F.2.1 qd_T_put_231 rfl (lv_at hl 0 rfl) ?_
      refine ttg_T_top F hK w qk_89 qd_T_put_232 ?_
      refine lv_iload F.1 F.2.1 qd_T_put_235 (lv_at hl 5 rfl) ?_
      refine lv_icmp_lt (tgt := 243) F.1 F.2.1 qd_T_put_237 (by decide) (fun hc3 => ?_) (fun hc3 => ?_)
      · rw [if_pos hc3] at hM
        refine lv_iload F.1 F.2.1 qd_T_put_243 (lv_at hl 5 rfl) ?_
        refine lv_sipush (v := 150) F.1 F.2.1 qd_T_put_245 (by decide) ?_
        refine lv_icmp_ne (tgt := 261) F.1 F.2.1 qd_T_put_248 (by decide) (fun hc4 => ?_) (fun hc4 => ?_)
        · rw [if_neg hc4] at hM
          exact ttt_T_put_261 F hR hK hN hA hQ  _ _ _ _ _ _ _ hM w (lv_sub hl [0, 1, 2, 3, 4, 6, 7] rfl)
        · rw [if_pos hc4] at hM
          refine lv_iload F.1 F.2.1 qd_T_put_251 (lv_at hl 6 rfl) ?_
          refine lv_bipush (v := 6) F.1 F.2.1 qd_T_put_253 (by decide) ?_
          refine lv_icmp_le (tgt := 261) F.1 F.2.1 qd_T_put_255 (by decide) (fun hc5 => ?_) (fun hc5 => ?_)
          · rw [if_pos hc5] at hM
            exact ttt_T_put_261 F hR hK hN hA hQ  _ _ _ _ _ _ _ hM w (lv_sub hl [0, 1, 2, 3, 4, 6, 7] rfl)
          · rw [if_neg hc5] at hM
            refine lv_bipush (v := (-4)) F.1 F.2.1 qd_T_put_258 (by decide) ?_
            cases hM
            exact hQ _ _ _ _ qd_T_put_260 w
      · rw [if_neg hc3] at hM
        refine lv_bipush (v := (-3)) F.1 F.2.1 qd_T_put_240 (by decide) ?_
        cases hM
        exact hQ _ _ _ _ qd_T_put_242 w
set_option maxRecDepth 100000 in
set_option maxHeartbeats 4000000 in
theorem ttt_T_put_167 {p : Program} {l : Launch} {e : Env} {R : Room} {s : State} {m : MethodId} {args : Array Value} {below : List Frame} {meth : Method} {c : Code} {Q : State → Prop} {D : va_G} {ad : Nat → Nat} {cI : ClassId} {A : Nat → Prop} (F : CallFix p m c qb_T_put 10 s args qtb "CaptureSubtypes$Types") (hR : 1 ≤ R.frames ∧ 40 ≤ R.locals) (hK : va_K D qcl [(cI, .int)] s) (hN : qnests ttns s) (hA : ∀ q, s.heap.size ≤ q → A q) {res : (Int32 × (Nat → Nat → Int32))} (hQ : ∀ (H : Heap) (locs : List Loc) (pc : Nat) (ls : Array Slot), decode qb_T_put pc = .ok (.ireturn, 1) → ttW D ad cI A s.heap res.2 H locs → W p l e R s m args below meth c H locs 0 0 Q (F0 m pc ls [.int res.1])) (S : (Nat → Nat → Int32)) (v1 v2 v3 v4 v5 v6 v7 v8 : Int32) (hM : f_T_put_167 S v1 v2 v3 v4 v5 v6 v7 v8 = some res) {H : Heap} {locs : List Loc} {ls : Array Slot} (w : ttW D ad cI A s.heap S H locs) (hl : lv_has ls 10 [(0, .ref (ad 0)), (1, .int v1), (2, .int v2), (3, .int v3), (4, .int v4), (5, .int v5), (6, .int v6), (7, .int v7), (8, .int v8)]) : W p l e R s m args below meth c H locs 0 0 Q (F0 m 167 ls []) := by
  unfold f_T_put_167 at hM
  refine lv_iload F.1 F.2.1 qd_T_put_167 (lv_at hl 6 rfl) ?_
  refine lv_if_eq (tgt := 214) F.1 F.2.1 qd_T_put_169 (by decide) (fun hc1 => ?_) (fun hc1 => ?_)
  · rw [if_pos hc1] at hM
    exact ttt_T_put_214 F hR hK hN hA hQ  _ _ _ _ _ _ _ _ hM w (lv_sub hl [0, 1, 2, 3, 4, 5, 7, 8] rfl)
  · rw [if_neg hc1] at hM
    refine lv_iload F.1 F.2.1 qd_T_put_172 (lv_at hl 4 rfl) ?_
    refine lv_if_lt (tgt := 214) F.1 F.2.1 qd_T_put_174 (by decide) (fun hc2 => ?_) (fun hc2 => ?_)
    · rw [if_pos hc2] at hM
      exact ttt_T_put_214 F hR hK hN hA hQ  _ _ _ _ _ _ _ _ hM w (lv_sub hl [0, 1, 2, 3, 4, 5, 7, 8] rfl)
    · rw [if_neg hc2] at hM
      refine lv_iload F.1 F.2.1 qd_T_put_177 (lv_at hl 4 rfl) ?_
      refine lv_aload_n F.1 F.2.1 qd_T_put_179 rfl (lv_at hl 0 rfl) ?_
      refine ttg_T_top F hK w qk_89 qd_T_put_180 ?_
      refine lv_icmp_ge (tgt := 214) F.1 F.2.1 qd_T_put_183 (by decide) (fun hc3 => ?_) (fun hc3 => ?_)
      · rw [if_pos hc3] at hM
        exact ttt_T_put_214 F hR hK hN hA hQ  _ _ _ _ _ _ _ _ hM w (lv_sub hl [0, 1, 2, 3, 4, 5, 7, 8] rfl)
      · rw [if_neg hc3] at hM
        refine lv_iload F.1 F.2.1 qd_T_put_186 (lv_at hl 7 rfl) ?_
        refine lv_iconst (v := 1) F.1 F.2.1 qd_T_put_188 (by decide) ?_
        refine lv_aload_n F.1 F.2.1 qd_T_put_189 rfl (lv_at hl 0 rfl) ?_
        refine ttg_T_depths F hK w qk_94 qd_T_put_190 ?_
        refine lv_iload F.1 F.2.1 qd_T_put_193 (lv_at hl 4 rfl) ?_
        obtain ⟨hi4, hM⟩ := qck_ok hM
        refine ttl_T_depths F hK w hi4 qd_T_put_195 ?_
        refine lv_iadd F.1 F.2.1 qd_T_put_196 ?_
        refine q_max F hl.1 qk_84 qk_85 qk_4 qk_86 ⟨Nat.le_trans (by decide) hR.1, Nat.le_trans (by decide) hR.2⟩ (Nat.le_of_ble_eq_true rfl) qd_T_put_197 ?_
        refine lv_istore (lv' := [(7, .int (qmax v7 ((1 : Int32) + (S 16 v4.toNatClampNeg)))), (0, .ref (ad 0)), (1, .int v1), (2, .int v2), (3, .int v3), (4, .int v4), (5, .int v5), (6, .int v6), (8, .int v8)]) F.1 F.2.1 qd_T_put_200 hl (by decide) rfl (fun ls hl => ?_)
        refine lv_iload F.1 F.2.1 qd_T_put_202 (lv_at hl 8 rfl) ?_
        refine lv_aload_n F.1 F.2.1 qd_T_put_204 rfl (lv_at hl 1 rfl) ?_
        refine ttg_T_insides F hK w qk_95 qd_T_put_205 ?_
        refine lv_iload F.1 F.2.1 qd_T_put_208 (lv_at hl 5 rfl) ?_
        obtain ⟨hi5, hM⟩ := qck_ok hM
        refine ttl_T_insides F hK w hi5 qd_T_put_210 ?_
        refine lv_ior F.1 F.2.1 qd_T_put_211 ?_
        refine lv_istore (lv' := [(8, .int (v8 ||| (S 17 v4.toNatClampNeg))), (7, .int (qmax v7 ((1 : Int32) + (S 16 v4.toNatClampNeg)))), (0, .ref (ad 0)), (1, .int v1), (2, .int v2), (3, .int v3), (4, .int v4), (5, .int v5), (6, .int v6)]) F.1 F.2.1 qd_T_put_212 hl (by decide) rfl (fun ls hl => ?_)
        exact ttt_T_put_214 F hR hK hN hA hQ  _ _ _ _ _ _ _ _ hM w (lv_sub hl [2, 3, 4, 5, 6, 7, 1, 0] rfl)
set_option maxRecDepth 100000 in
set_option maxHeartbeats 4000000 in
theorem ttt_T_put_127 {p : Program} {l : Launch} {e : Env} {R : Room} {s : State} {m : MethodId} {args : Array Value} {below : List Frame} {meth : Method} {c : Code} {Q : State → Prop} {D : va_G} {ad : Nat → Nat} {cI : ClassId} {A : Nat → Prop} (F : CallFix p m c qb_T_put 10 s args qtb "CaptureSubtypes$Types") (hR : 1 ≤ R.frames ∧ 40 ≤ R.locals) (hK : va_K D qcl [(cI, .int)] s) (hN : qnests ttns s) (hA : ∀ q, s.heap.size ≤ q → A q) {res : (Int32 × (Nat → Nat → Int32))} (hQ : ∀ (H : Heap) (locs : List Loc) (pc : Nat) (ls : Array Slot), decode qb_T_put pc = .ok (.ireturn, 1) → ttW D ad cI A s.heap res.2 H locs → W p l e R s m args below meth c H locs 0 0 Q (F0 m pc ls [.int res.1])) (S : (Nat → Nat → Int32)) (v1 v2 v3 v4 v5 v6 v7 s1 : Int32) (hM : f_T_put_127 S v1 v2 v3 v4 v5 v6 v7 s1 = some res) {H : Heap} {locs : List Loc} {ls : Array Slot} (w : ttW D ad cI A s.heap S H locs) (hl : lv_has ls 10 [(0, .ref (ad 0)), (1, .int v1), (2, .int v2), (3, .int v3), (4, .int v4), (5, .int v5), (6, .int v6), (7, .int v7)]) : W p l e R s m args below meth c H locs 0 0 Q (F0 m 127 ls [.int s1]) := by
  unfold f_T_put_127 at hM
  refine lv_istore (lv' := [(8, .int s1), (0, .ref (ad 0)), (1, .int v1), (2, .int v2), (3, .int v3), (4, .int v4), (5, .int v5), (6, .int v6), (7, .int v7)]) F.1 F.2.1 qd_T_put_127 hl (by decide) rfl (fun ls hl => ?_)
  refine lv_iload F.1 F.2.1 qd_T_put_129 (lv_at hl 7 rfl) ?_
  refine lv_if_eq (tgt := 167) F.1 F.2.1 qd_T_put_131 (by decide) (fun hc1 => ?_) (fun hc1 => ?_)
  · rw [if_pos hc1] at hM
    exact ttt_T_put_167 F hR hK hN hA hQ  _ _ _ _ _ _ _ _ _ hM w (lv_sub hl [1, 2, 3, 4, 5, 6, 7, 8, 0] rfl)
  · rw [if_neg hc1] at hM
    refine lv_iload_n F.1 F.2.1 qd_T_put_134 rfl (lv_at hl 4 rfl) ?_
    refine lv_if_lt (tgt := 167) F.1 F.2.1 qd_T_put_135 (by decide) (fun hc2 => ?_) (fun hc2 => ?_)
    · rw [if_pos hc2] at hM
      exact ttt_T_put_167 F hR hK hN hA hQ  _ _ _ _ _ _ _ _ _ hM w (lv_sub hl [1, 2, 3, 4, 5, 6, 7, 8, 0] rfl)
    · rw [if_neg hc2] at hM
      refine lv_iload_n F.1 F.2.1 qd_T_put_138 rfl (lv_at hl 4 rfl) ?_
      refine lv_aload_n F.1 F.2.1 qd_T_put_139 rfl (lv_at hl 1 rfl) ?_
      refine ttg_T_top F hK w qk_89 qd_T_put_140 ?_
      refine lv_icmp_ge (tgt := 167) F.1 F.2.1 qd_T_put_143 (by decide) (fun hc3 => ?_) (fun hc3 => ?_)
      · rw [if_pos hc3] at hM
        exact ttt_T_put_167 F hR hK hN hA hQ  _ _ _ _ _ _ _ _ _ hM w (lv_sub hl [1, 2, 3, 4, 5, 6, 7, 8, 0] rfl)
      · rw [if_neg hc3] at hM
        refine lv_iconst (v := 1) F.1 F.2.1 qd_T_put_146 (by decide) ?_
        refine lv_aload_n F.1 F.2.1 qd_T_put_147 rfl (lv_at hl 1 rfl) ?_
        refine ttg_T_depths F hK w qk_94 qd_T_put_148 ?_
        refine lv_iload_n F.1 F.2.1 qd_T_put_151 rfl (lv_at hl 4 rfl) ?_
        obtain ⟨hi4, hM⟩ := qck_ok hM
        refine ttl_T_depths F hK w hi4 qd_T_put_152 ?_
        refine lv_iadd F.1 F.2.1 qd_T_put_153 ?_
        refine lv_istore (lv' := [(7, .int ((1 : Int32) + (S 16 v3.toNatClampNeg))), (8, .int s1), (0, .ref (ad 0)), (1, .int v1), (2, .int v2), (3, .int v3), (4, .int v4), (5, .int v5), (6, .int v6)]) F.1 F.2.1 qd_T_put_154 hl (by decide) rfl (fun ls hl => ?_)
        refine lv_iload F.1 F.2.1 qd_T_put_156 (lv_at hl 1 rfl) ?_
        refine lv_aload_n F.1 F.2.1 qd_T_put_158 rfl (lv_at hl 2 rfl) ?_
        refine ttg_T_insides F hK w qk_95 qd_T_put_159 ?_
        refine lv_iload_n F.1 F.2.1 qd_T_put_162 rfl (lv_at hl 5 rfl) ?_
        obtain ⟨hi5, hM⟩ := qck_ok hM
        refine ttl_T_insides F hK w hi5 qd_T_put_163 ?_
        refine lv_ior F.1 F.2.1 qd_T_put_164 ?_
        refine lv_istore (lv' := [(8, .int (s1 ||| (S 17 v3.toNatClampNeg))), (7, .int ((1 : Int32) + (S 16 v3.toNatClampNeg))), (0, .ref (ad 0)), (1, .int v1), (2, .int v2), (3, .int v3), (4, .int v4), (5, .int v5), (6, .int v6)]) F.1 F.2.1 qd_T_put_165 hl (by decide) rfl (fun ls hl => ?_)
        exact ttt_T_put_167 F hR hK hN hA hQ  _ _ _ _ _ _ _ _ _ hM w (lv_sub hl [2, 3, 4, 5, 6, 7, 8, 1, 0] rfl)
set_option maxRecDepth 100000 in
set_option maxHeartbeats 4000000 in
theorem ttt_T_put_99 {p : Program} {l : Launch} {e : Env} {R : Room} {s : State} {m : MethodId} {args : Array Value} {below : List Frame} {meth : Method} {c : Code} {Q : State → Prop} {D : va_G} {ad : Nat → Nat} {cI : ClassId} {A : Nat → Prop} (F : CallFix p m c qb_T_put 10 s args qtb "CaptureSubtypes$Types") (hR : 1 ≤ R.frames ∧ 40 ≤ R.locals) (hK : va_K D qcl [(cI, .int)] s) (hN : qnests ttns s) (hA : ∀ q, s.heap.size ≤ q → A q) {res : (Int32 × (Nat → Nat → Int32))} (hQ : ∀ (H : Heap) (locs : List Loc) (pc : Nat) (ls : Array Slot), decode qb_T_put pc = .ok (.ireturn, 1) → ttW D ad cI A s.heap res.2 H locs → W p l e R s m args below meth c H locs 0 0 Q (F0 m pc ls [.int res.1])) (S : (Nat → Nat → Int32)) (v1 v2 v3 v4 v5 s1 : Int32) (hM : f_T_put_99 S v1 v2 v3 v4 v5 s1 = some res) {H : Heap} {locs : List Loc} {ls : Array Slot} (w : ttW D ad cI A s.heap S H locs) (hl : lv_has ls 10 [(0, .ref (ad 0)), (1, .int v1), (2, .int v2), (3, .int v3), (4, .int v4), (5, .int v5)]) : W p l e R s m args below meth c H locs 0 0 Q (F0 m 99 ls [.int s1]) := by
  unfold f_T_put_99 at hM
  refine lv_istore (lv' := [(6, .int s1), (0, .ref (ad 0)), (1, .int v1), (2, .int v2), (3, .int v3), (4, .int v4), (5, .int v5)]) F.1 F.2.1 qd_T_put_99 hl (by decide) rfl (fun ls hl => ?_)
  refine lv_iconst (v := 1) F.1 F.2.1 qd_T_put_101 (by decide) ?_
  refine lv_istore (lv' := [(7, .int (1 : Int32)), (6, .int s1), (0, .ref (ad 0)), (1, .int v1), (2, .int v2), (3, .int v3), (4, .int v4), (5, .int v5)]) F.1 F.2.1 qd_T_put_102 hl (by decide) rfl (fun ls hl => ?_)
  refine lv_iload_n F.1 F.2.1 qd_T_put_104 rfl (lv_at hl 3 rfl) ?_
  refine lv_iconst (v := 3) F.1 F.2.1 qd_T_put_105 (by decide) ?_
  refine lv_icmp_ne (tgt := 115) F.1 F.2.1 qd_T_put_106 (by decide) (fun hc1 => ?_) (fun hc1 => ?_)
  · rw [if_neg hc1] at hM
    refine lv_iload_n F.1 F.2.1 qd_T_put_115 rfl (lv_at hl 3 rfl) ?_
    refine lv_iconst (v := 5) F.1 F.2.1 qd_T_put_116 (by decide) ?_
    refine lv_icmp_ne (tgt := 126) F.1 F.2.1 qd_T_put_117 (by decide) (fun hc2 => ?_) (fun hc2 => ?_)
    · rw [if_neg hc2] at hM
      refine lv_iconst (v := 0) F.1 F.2.1 qd_T_put_126 (by decide) ?_
      exact ttt_T_put_127 F hR hK hN hA hQ  _ _ _ _ _ _ _ _ _ hM w (lv_sub hl [2, 3, 4, 5, 6, 7, 1, 0] rfl)
    · rw [if_pos hc2] at hM
      refine lv_sipush (v := 4096) F.1 F.2.1 qd_T_put_120 (by decide) ?_
      refine lv_goto (tgt := 127) F.1 F.2.1 qd_T_put_123 (by decide) ?_
      exact ttt_T_put_127 F hR hK hN hA hQ  _ _ _ _ _ _ _ _ _ hM w (lv_sub hl [2, 3, 4, 5, 6, 7, 1, 0] rfl)
  · rw [if_pos hc1] at hM
    refine lv_iconst (v := 1) F.1 F.2.1 qd_T_put_109 (by decide) ?_
    refine lv_iload_n F.1 F.2.1 qd_T_put_110 rfl (lv_at hl 4 rfl) ?_
    refine lv_ishl F.1 F.2.1 qd_T_put_111 ?_
    refine lv_goto (tgt := 127) F.1 F.2.1 qd_T_put_112 (by decide) ?_
    exact ttt_T_put_127 F hR hK hN hA hQ  _ _ _ _ _ _ _ _ _ hM w (lv_sub hl [2, 3, 4, 5, 6, 7, 1, 0] rfl)
set_option maxRecDepth 100000 in
set_option maxHeartbeats 4000000 in
theorem ttt_T_put_94 {p : Program} {l : Launch} {e : Env} {R : Room} {s : State} {m : MethodId} {args : Array Value} {below : List Frame} {meth : Method} {c : Code} {Q : State → Prop} {D : va_G} {ad : Nat → Nat} {cI : ClassId} {A : Nat → Prop} (F : CallFix p m c qb_T_put 10 s args qtb "CaptureSubtypes$Types") (hR : 1 ≤ R.frames ∧ 40 ≤ R.locals) (hK : va_K D qcl [(cI, .int)] s) (hN : qnests ttns s) (hA : ∀ q, s.heap.size ≤ q → A q) {res : (Int32 × (Nat → Nat → Int32))} (hQ : ∀ (H : Heap) (locs : List Loc) (pc : Nat) (ls : Array Slot), decode qb_T_put pc = .ok (.ireturn, 1) → ttW D ad cI A s.heap res.2 H locs → W p l e R s m args below meth c H locs 0 0 Q (F0 m pc ls [.int res.1])) (S : (Nat → Nat → Int32)) (v1 v2 v3 v4 v5 : Int32) (hM : f_T_put_94 S v1 v2 v3 v4 v5 = some res) {H : Heap} {locs : List Loc} {ls : Array Slot} (w : ttW D ad cI A s.heap S H locs) (hl : lv_has ls 10 [(0, .ref (ad 0)), (1, .int v1), (2, .int v2), (3, .int v3), (4, .int v4), (5, .int v5)]) : W p l e R s m args below meth c H locs 0 0 Q (F0 m 94 ls []) := by
  unfold f_T_put_94 at hM
  refine lv_iconst (v := 1) F.1 F.2.1 qd_T_put_94 (by decide) ?_
  refine lv_goto (tgt := 99) F.1 F.2.1 qd_T_put_95 (by decide) ?_
  exact ttt_T_put_99 F hR hK hN hA hQ  _ _ _ _ _ _ _ hM w (lv_sub hl [0, 1, 2, 3, 4, 5] rfl)
set_option maxRecDepth 100000 in
set_option maxHeartbeats 4000000 in
theorem tbtt_T_put_16 {p : Program} {l : Launch} {e : Env} {R : Room} {s : State} {m : MethodId} {args : Array Value} {below : List Frame} {meth : Method} {c : Code} {Q : State → Prop} {D : va_G} {ad : Nat → Nat} {cI : ClassId} {A : Nat → Prop} (F : CallFix p m c qb_T_put 10 s args qtb "CaptureSubtypes$Types") (hR : 1 ≤ R.frames ∧ 40 ≤ R.locals) (hK : va_K D qcl [(cI, .int)] s) (hN : qnests ttns s) (hA : ∀ q, s.heap.size ≤ q → A q) {res : (Int32 × (Nat → Nat → Int32))} (hQ : ∀ (H : Heap) (locs : List Loc) (pc : Nat) (ls : Array Slot), decode qb_T_put pc = .ok (.ireturn, 1) → ttW D ad cI A s.heap res.2 H locs → W p l e R s m args below meth c H locs 0 0 Q (F0 m pc ls [.int res.1])) {k_16 : (Nat → Nat → Int32) → Int32 → Int32 → Int32 → Int32 → Int32 → Int32 → Option (Int32 × (Nat → Nat → Int32))} (hk_16 : ∀ (S : Nat → Nat → Int32) (v1 v2 v3 v4 v5 v6 : Int32), k_16 S v1 v2 v3 v4 v5 v6 = some res → ∀ {H : Heap} {locs : List Loc} {ls : Array Slot}, ttW D ad cI A s.heap S H locs → lv_has ls 10 [(0, .ref (ad 0)), (1, .int v1), (2, .int v2), (3, .int v3), (4, .int v4), (5, .int v5), (6, .int v6)] → W p l e R s m args below meth c H locs 0 0 Q (F0 m 16 ls [])) (S : (Nat → Nat → Int32)) (v1 v2 v3 v4 v5 v6 : Int32) (hM : fb_T_put_16 k_16 S v1 v2 v3 v4 v5 v6 = some res) {H : Heap} {locs : List Loc} {ls : Array Slot} (w : ttW D ad cI A s.heap S H locs) (hl : lv_has ls 10 [(0, .ref (ad 0)), (1, .int v1), (2, .int v2), (3, .int v3), (4, .int v4), (5, .int v5), (6, .int v6)]) : W p l e R s m args below meth c H locs 0 0 Q (F0 m 16 ls []) := by
  unfold fb_T_put_16 at hM
  refine lv_iload F.1 F.2.1 qd_T_put_16 (lv_at hl 6 rfl) ?_
  refine lv_aload_n F.1 F.2.1 qd_T_put_18 rfl (lv_at hl 0 rfl) ?_
  refine ttg_T_top F hK w qk_89 qd_T_put_19 ?_
  refine lv_icmp_ge (tgt := 79) F.1 F.2.1 qd_T_put_22 (by decide) (fun hc1 => ?_) (fun hc1 => ?_)
  · rw [if_pos hc1] at hM
    refine lv_iload_n F.1 F.2.1 qd_T_put_79 rfl (lv_at hl 1 rfl) ?_
    refine lv_iconst (v := 2) F.1 F.2.1 qd_T_put_80 (by decide) ?_
    refine lv_icmp_eq (tgt := 94) F.1 F.2.1 qd_T_put_81 (by decide) (fun hc2 => ?_) (fun hc2 => ?_)
    · rw [if_pos hc2] at hM
      exact ttt_T_put_94 F hR hK hN hA hQ  _ _ _ _ _ _ hM w (lv_sub hl [0, 1, 2, 3, 4, 5] rfl)
    · rw [if_neg hc2] at hM
      refine lv_iload_n F.1 F.2.1 qd_T_put_84 rfl (lv_at hl 1 rfl) ?_
      refine lv_iconst (v := 4) F.1 F.2.1 qd_T_put_85 (by decide) ?_
      refine lv_icmp_eq (tgt := 94) F.1 F.2.1 qd_T_put_86 (by decide) (fun hc3 => ?_) (fun hc3 => ?_)
      · rw [if_pos hc3] at hM
        exact ttt_T_put_94 F hR hK hN hA hQ  _ _ _ _ _ _ hM w (lv_sub hl [0, 1, 2, 3, 4, 5] rfl)
      · rw [if_neg hc3] at hM
        refine lv_iload_n F.1 F.2.1 qd_T_put_89 rfl (lv_at hl 1 rfl) ?_
        refine lv_iconst (v := 5) F.1 F.2.1 qd_T_put_90 (by decide) ?_
        refine lv_icmp_ne (tgt := 98) F.1 F.2.1 qd_T_put_91 (by decide) (fun hc4 => ?_) (fun hc4 => ?_)
        · rw [if_neg hc4] at hM
          refine lv_iconst (v := 0) F.1 F.2.1 qd_T_put_98 (by decide) ?_
          exact ttt_T_put_99 F hR hK hN hA hQ  _ _ _ _ _ _ _ hM w (lv_sub hl [0, 1, 2, 3, 4, 5] rfl)
        · rw [if_pos hc4] at hM
          exact ttt_T_put_94 F hR hK hN hA hQ  _ _ _ _ _ _ hM w (lv_sub hl [0, 1, 2, 3, 4, 5] rfl)
  · rw [if_neg hc1] at hM
    refine lv_aload_n F.1 F.2.1 qd_T_put_25 rfl (lv_at hl 0 rfl) ?_
    refine ttg_T_sorts F hK w qk_90 qd_T_put_26 ?_
    refine lv_iload F.1 F.2.1 qd_T_put_29 (lv_at hl 6 rfl) ?_
    obtain ⟨hi5, hM⟩ := qck_ok hM
    refine ttl_T_sorts F hK w hi5 qd_T_put_31 ?_
    refine lv_iload_n F.1 F.2.1 qd_T_put_32 rfl (lv_at hl 1 rfl) ?_
    refine lv_icmp_ne (tgt := 73) F.1 F.2.1 qd_T_put_33 (by decide) (fun hc6 => ?_) (fun hc6 => ?_)
    · rw [if_neg hc6] at hM
      refine lv_iinc (v := (v6 + (1 : Int32))) (lv' := [(6, .int (v6 + (1 : Int32))), (0, .ref (ad 0)), (1, .int v1), (2, .int v2), (3, .int v3), (4, .int v4), (5, .int v5)]) F.1 F.2.1 qd_T_put_73 hl (k := 6) rfl rfl (by decide) rfl (fun ls hl => ?_)
      refine lv_goto (tgt := 16) F.1 F.2.1 qd_T_put_76 (by decide) ?_
      exact hk_16 _ _ _ _ _ _ _ hM w (lv_sub hl [1, 2, 3, 4, 5, 6, 0] rfl)
    · rw [if_pos hc6] at hM
      refine lv_aload_n F.1 F.2.1 qd_T_put_36 rfl (lv_at hl 0 rfl) ?_
      refine ttg_T_owners F hK w qk_91 qd_T_put_37 ?_
      refine lv_iload F.1 F.2.1 qd_T_put_40 (lv_at hl 6 rfl) ?_
      obtain ⟨hi7, hM⟩ := qck_ok hM
      refine ttl_T_owners F hK w hi7 qd_T_put_42 ?_
      refine lv_iload_n F.1 F.2.1 qd_T_put_43 rfl (lv_at hl 2 rfl) ?_
      refine lv_icmp_ne (tgt := 73) F.1 F.2.1 qd_T_put_44 (by decide) (fun hc8 => ?_) (fun hc8 => ?_)
      · rw [if_neg hc8] at hM
        refine lv_iinc (v := (v6 + (1 : Int32))) (lv' := [(6, .int (v6 + (1 : Int32))), (0, .ref (ad 0)), (1, .int v1), (2, .int v2), (3, .int v3), (4, .int v4), (5, .int v5)]) F.1 F.2.1 qd_T_put_73 hl (k := 6) rfl rfl (by decide) rfl (fun ls hl => ?_)
        refine lv_goto (tgt := 16) F.1 F.2.1 qd_T_put_76 (by decide) ?_
        exact hk_16 _ _ _ _ _ _ _ hM w (lv_sub hl [1, 2, 3, 4, 5, 6, 0] rfl)
      · rw [if_pos hc8] at hM
        refine lv_aload_n F.1 F.2.1 qd_T_put_47 rfl (lv_at hl 0 rfl) ?_
        refine ttg_T_firsts F hK w qk_92 qd_T_put_48 ?_
        refine lv_iload F.1 F.2.1 qd_T_put_51 (lv_at hl 6 rfl) ?_
        obtain ⟨hi9, hM⟩ := qck_ok hM
        refine ttl_T_firsts F hK w hi9 qd_T_put_53 ?_
        refine lv_iload_n F.1 F.2.1 qd_T_put_54 rfl (lv_at hl 3 rfl) ?_
        refine lv_icmp_ne (tgt := 73) F.1 F.2.1 qd_T_put_55 (by decide) (fun hc10 => ?_) (fun hc10 => ?_)
        · rw [if_neg hc10] at hM
          refine lv_iinc (v := (v6 + (1 : Int32))) (lv' := [(6, .int (v6 + (1 : Int32))), (0, .ref (ad 0)), (1, .int v1), (2, .int v2), (3, .int v3), (4, .int v4), (5, .int v5)]) F.1 F.2.1 qd_T_put_73 hl (k := 6) rfl rfl (by decide) rfl (fun ls hl => ?_)
          refine lv_goto (tgt := 16) F.1 F.2.1 qd_T_put_76 (by decide) ?_
          exact hk_16 _ _ _ _ _ _ _ hM w (lv_sub hl [1, 2, 3, 4, 5, 6, 0] rfl)
        · rw [if_pos hc10] at hM
          refine lv_aload_n F.1 F.2.1 qd_T_put_58 rfl (lv_at hl 0 rfl) ?_
          refine ttg_T_seconds F hK w qk_93 qd_T_put_59 ?_
          refine lv_iload F.1 F.2.1 qd_T_put_62 (lv_at hl 6 rfl) ?_
          obtain ⟨hi11, hM⟩ := qck_ok hM
          refine ttl_T_seconds F hK w hi11 qd_T_put_64 ?_
          refine lv_iload F.1 F.2.1 qd_T_put_65 (lv_at hl 4 rfl) ?_
          refine lv_icmp_ne (tgt := 73) F.1 F.2.1 qd_T_put_67 (by decide) (fun hc12 => ?_) (fun hc12 => ?_)
          · rw [if_neg hc12] at hM
            refine lv_iinc (v := (v6 + (1 : Int32))) (lv' := [(6, .int (v6 + (1 : Int32))), (0, .ref (ad 0)), (1, .int v1), (2, .int v2), (3, .int v3), (4, .int v4), (5, .int v5)]) F.1 F.2.1 qd_T_put_73 hl (k := 6) rfl rfl (by decide) rfl (fun ls hl => ?_)
            refine lv_goto (tgt := 16) F.1 F.2.1 qd_T_put_76 (by decide) ?_
            exact hk_16 _ _ _ _ _ _ _ hM w (lv_sub hl [1, 2, 3, 4, 5, 6, 0] rfl)
          · rw [if_pos hc12] at hM
            refine lv_iload F.1 F.2.1 qd_T_put_70 (lv_at hl 6 rfl) ?_
            cases hM
            exact hQ _ _ _ _ qd_T_put_72 w
set_option maxRecDepth 100000 in
set_option maxHeartbeats 4000000 in
theorem ttt_T_put_16 {p : Program} {l : Launch} {e : Env} {R : Room} {s : State} {m : MethodId} {args : Array Value} {below : List Frame} {meth : Method} {c : Code} {Q : State → Prop} {D : va_G} {ad : Nat → Nat} {cI : ClassId} {A : Nat → Prop} (F : CallFix p m c qb_T_put 10 s args qtb "CaptureSubtypes$Types") (hR : 1 ≤ R.frames ∧ 40 ≤ R.locals) (hK : va_K D qcl [(cI, .int)] s) (hN : qnests ttns s) (hA : ∀ q, s.heap.size ≤ q → A q) {res : (Int32 × (Nat → Nat → Int32))} (hQ : ∀ (H : Heap) (locs : List Loc) (pc : Nat) (ls : Array Slot), decode qb_T_put pc = .ok (.ireturn, 1) → ttW D ad cI A s.heap res.2 H locs → W p l e R s m args below meth c H locs 0 0 Q (F0 m pc ls [.int res.1])) : ∀ (n : Nat) (S : (Nat → Nat → Int32)) (v1 v2 v3 v4 v5 v6 : Int32) (hM : f_T_put_16 n S v1 v2 v3 v4 v5 v6 = some res) {H : Heap} {locs : List Loc} {ls : Array Slot} (w : ttW D ad cI A s.heap S H locs) (hl : lv_has ls 10 [(0, .ref (ad 0)), (1, .int v1), (2, .int v2), (3, .int v3), (4, .int v4), (5, .int v5), (6, .int v6)]), W p l e R s m args below meth c H locs 0 0 Q (F0 m 16 ls []) := by
  intro n
  induction n with
  | zero => intro S v1 v2 v3 v4 v5 v6 hM; exact absurd hM (by simp [f_T_put_16])
  | succ n ih => intro S v1 v2 v3 v4 v5 v6 hM H locs ls w hl; exact tbtt_T_put_16 F hR hK hN hA hQ (k_16 := f_T_put_16 n) (fun S v1 v2 v3 v4 v5 v6 hM H locs ls w hl => ih S v1 v2 v3 v4 v5 v6 hM w hl) S v1 v2 v3 v4 v5 v6 hM w hl
set_option maxRecDepth 100000 in
set_option maxHeartbeats 4000000 in
theorem ttt_T_put {p : Program} {l : Launch} {e : Env} {R : Room} {s : State} {m : MethodId} {args : Array Value} {below : List Frame} {meth : Method} {c : Code} {Q : State → Prop} {D : va_G} {ad : Nat → Nat} {cI : ClassId} {A : Nat → Prop} (F : CallFix p m c qb_T_put 10 s args qtb "CaptureSubtypes$Types") (hR : 1 ≤ R.frames ∧ 40 ≤ R.locals) (hK : va_K D qcl [(cI, .int)] s) (hN : qnests ttns s) (hA : ∀ q, s.heap.size ≤ q → A q) {res : (Int32 × (Nat → Nat → Int32))} (hQ : ∀ (H : Heap) (locs : List Loc) (pc : Nat) (ls : Array Slot), decode qb_T_put pc = .ok (.ireturn, 1) → ttW D ad cI A s.heap res.2 H locs → W p l e R s m args below meth c H locs 0 0 Q (F0 m pc ls [.int res.1])) (S : (Nat → Nat → Int32)) (a1 a2 a3 a4 a5 : Int32) (hM : f_T_put S a1 a2 a3 a4 a5 = some res) {H : Heap} {locs : List Loc} {ls : Array Slot} (w : ttW D ad cI A s.heap S H locs) (hl : lv_has ls 10 [(0, .ref (ad 0)), (1, .int a1), (2, .int a2), (3, .int a3), (4, .int a4), (5, .int a5)]) : W p l e R s m args below meth c H locs 0 0 Q (F0 m 0 ls []) := by
  unfold f_T_put at hM
  refine lv_iload_n F.1 F.2.1 qd_T_put_0 rfl (lv_at hl 1 rfl) ?_
  refine lv_bipush (v := 8) F.1 F.2.1 qd_T_put_1 (by decide) ?_
  refine lv_icmp_ne (tgt := 13) F.1 F.2.1 qd_T_put_3 (by decide) (fun hc1 => ?_) (fun hc1 => ?_)
  · rw [if_neg hc1] at hM
    refine lv_iconst (v := 0) F.1 F.2.1 qd_T_put_13 (by decide) ?_
    refine lv_istore (lv' := [(6, .int (0 : Int32)), (0, .ref (ad 0)), (1, .int a1), (2, .int a2), (3, .int a3), (4, .int a4), (5, .int a5)]) F.1 F.2.1 qd_T_put_14 hl (by decide) rfl (fun ls hl => ?_)
    exact ttt_T_put_16 F hR hK hN hA hQ  qfu _ _ _ _ _ _ _ hM w (lv_sub hl [1, 2, 3, 4, 5, 6, 0] rfl)
  · rw [if_pos hc1] at hM
    refine lv_aload_n F.1 F.2.1 qd_T_put_6 rfl (lv_at hl 0 rfl) ?_
    refine ttg_T_top F hK w qk_89 qd_T_put_7 ?_
    refine lv_goto (tgt := 14) F.1 F.2.1 qd_T_put_10 (by decide) ?_
    refine lv_istore (lv' := [(6, .int (S 11 0)), (0, .ref (ad 0)), (1, .int a1), (2, .int a2), (3, .int a3), (4, .int a4), (5, .int a5)]) F.1 F.2.1 qd_T_put_14 hl (by decide) rfl (fun ls hl => ?_)
    exact ttt_T_put_16 F hR hK hN hA hQ  qfu _ _ _ _ _ _ _ hM w (lv_sub hl [1, 2, 3, 4, 5, 6, 0] rfl)
set_option maxRecDepth 100000 in
theorem ctt_T_put (l : Launch) (D : va_G) (ad : Nat → Nat) (cI : ClassId) {S : (Nat → Nat → Int32)} {a1 a2 a3 a4 a5 : Int32} {res : (Int32 × (Nat → Nat → Int32))} (hM : f_T_put S a1 a2 a3 a4 a5 = some res) : ttMi l qy_T_put qb_T_put 10 (some .int) { frames := 1, cells := 0, slots := 0, locals := 40 } D ad cI S [.ref (ad 0), .int a1, .int a2, .int a3, .int a4, .int a5] res.1 res.2 := tt_ofi (by decide +kernel) (Nat.le_of_ble_eq_true rfl) (fun p e s m args below meth c Q A ls F hK hN hA w hl hQ => ttt_T_put F ⟨Nat.le_refl _, Nat.le_refl _⟩ hK hN hA hQ S a1 a2 a3 a4 a5 hM w hl)
-- T_keep in world tt
set_option maxRecDepth 100000 in
set_option maxHeartbeats 4000000 in
theorem ttt_T_keep {p : Program} {l : Launch} {e : Env} {R : Room} {s : State} {m : MethodId} {args : Array Value} {below : List Frame} {meth : Method} {c : Code} {Q : State → Prop} {D : va_G} {ad : Nat → Nat} {cI : ClassId} {A : Nat → Prop} (F : CallFix p m c qb_T_keep 6 s args qtb "CaptureSubtypes$Types") (hR : 2 ≤ R.frames ∧ 69 ≤ R.locals) (hK : va_K D qcl [(cI, .int)] s) (hN : qnests ttns s) (hA : ∀ q, s.heap.size ≤ q → A q) {res : (Int32 × (Nat → Nat → Int32))} (hQ : ∀ (H : Heap) (locs : List Loc) (pc : Nat) (ls : Array Slot), decode qb_T_keep pc = .ok (.ireturn, 1) → ttW D ad cI A s.heap res.2 H locs → W p l e R s m args below meth c H locs 0 0 Q (F0 m pc ls [.int res.1])) (S : (Nat → Nat → Int32)) (a1 a2 a3 a4 : Int32) (hM : f_T_keep S a1 a2 a3 a4 = some res) {H : Heap} {locs : List Loc} {ls : Array Slot} (w : ttW D ad cI A s.heap S H locs) (hl : lv_has ls 6 [(0, .ref (ad 0)), (1, .int a1), (2, .int a2), (3, .int a3), (4, .int a4)]) : W p l e R s m args below meth c H locs 0 0 Q (F0 m 0 ls []) := by
  unfold f_T_keep at hM
  refine lv_aload_n F.1 F.2.1 qd_T_keep_0 rfl (lv_at hl 0 rfl) ?_
  refine lv_iload_n F.1 F.2.1 qd_T_keep_1 rfl (lv_at hl 1 rfl) ?_
  refine lv_iload_n F.1 F.2.1 qd_T_keep_2 rfl (lv_at hl 2 rfl) ?_
  refine lv_iload_n F.1 F.2.1 qd_T_keep_3 rfl (lv_at hl 3 rfl) ?_
  refine lv_iload F.1 F.2.1 qd_T_keep_4 (lv_at hl 4 rfl) ?_
  refine lv_sipush (v := 150) F.1 F.2.1 qd_T_keep_6 (by decide) ?_
  obtain ⟨q1, hq2, hM⟩ := qbd hM
  refine tt_calli F hK hN hA w (ctt_T_put l D ad cI hq2) qk_80 qk_81 qk_82 qk_3 qk_83 qv_T_put rfl rfl ⟨Nat.le_trans (by decide) hR.1, Nat.le_trans (by decide) hR.2⟩ (ci := 1) rfl (j := 0) rfl hl.1 rfl (Nat.le_of_ble_eq_true rfl) qd_T_keep_9 (fun H locs w => ?_)
  refine lv_istore (lv' := [(5, .int q1.1), (0, .ref (ad 0)), (1, .int a1), (2, .int a2), (3, .int a3), (4, .int a4)]) F.1 F.2.1 qd_T_keep_12 hl (by decide) rfl (fun ls hl => ?_)
  refine lv_iload F.1 F.2.1 qd_T_keep_14 (lv_at hl 0 rfl) ?_
  refine lv_aload_n F.1 F.2.1 qd_T_keep_16 rfl (lv_at hl 1 rfl) ?_
  refine ttg_T_kept F hK w qk_87 qd_T_keep_17 ?_
  refine lv_icmp_lt (tgt := 31) F.1 F.2.1 qd_T_keep_20 (by decide) (fun hc3 => ?_) (fun hc3 => ?_)
  · rw [if_pos hc3] at hM
    refine lv_iload F.1 F.2.1 qd_T_keep_31 (lv_at hl 0 rfl) ?_
    cases hM
    exact hQ _ _ _ _ qd_T_keep_33 w
  · rw [if_neg hc3] at hM
    refine lv_aload_n F.1 F.2.1 qd_T_keep_23 rfl (lv_at hl 1 rfl) ?_
    refine lv_iload F.1 F.2.1 qd_T_keep_24 (lv_at hl 0 rfl) ?_
    refine lv_iconst (v := 1) F.1 F.2.1 qd_T_keep_26 (by decide) ?_
    refine lv_iadd F.1 F.2.1 qd_T_keep_27 ?_
    refine ttp_T_kept F hK w qk_87 qd_T_keep_28 (fun H locs w => ?_)
    refine lv_iload F.1 F.2.1 qd_T_keep_31 (lv_at hl 0 rfl) ?_
    cases hM
    exact hQ _ _ _ _ qd_T_keep_33 w
set_option maxRecDepth 100000 in
theorem ctt_T_keep (l : Launch) (D : va_G) (ad : Nat → Nat) (cI : ClassId) {S : (Nat → Nat → Int32)} {a1 a2 a3 a4 : Int32} {res : (Int32 × (Nat → Nat → Int32))} (hM : f_T_keep S a1 a2 a3 a4 = some res) : ttMi l qy_T_keep qb_T_keep 6 (some .int) { frames := 2, cells := 0, slots := 0, locals := 69 } D ad cI S [.ref (ad 0), .int a1, .int a2, .int a3, .int a4] res.1 res.2 := tt_ofi (by decide +kernel) (Nat.le_of_ble_eq_true rfl) (fun p e s m args below meth c Q A ls F hK hN hA w hl hQ => ttt_T_keep F ⟨Nat.le_refl _, Nat.le_refl _⟩ hK hN hA hQ S a1 a2 a3 a4 hM w hl)
-- T_empty in world tt
set_option maxRecDepth 100000 in
set_option maxHeartbeats 4000000 in
theorem ttt_T_empty {p : Program} {l : Launch} {e : Env} {R : Room} {s : State} {m : MethodId} {args : Array Value} {below : List Frame} {meth : Method} {c : Code} {Q : State → Prop} {D : va_G} {ad : Nat → Nat} {cI : ClassId} {A : Nat → Prop} (F : CallFix p m c qb_T_empty 1 s args qtb "CaptureSubtypes$Types") (hR : 3 ≤ R.frames ∧ 94 ≤ R.locals) (hK : va_K D qcl [(cI, .int)] s) (hN : qnests ttns s) (hA : ∀ q, s.heap.size ≤ q → A q) {res : (Nat → Nat → Int32)} (hQ : ∀ (H : Heap) (locs : List Loc) (pc : Nat) (ls : Array Slot), decode qb_T_empty pc = .ok (.return_, 1) → ttW D ad cI A s.heap res H locs → W p l e R s m args below meth c H locs 0 0 Q (F0 m pc ls [])) (S : (Nat → Nat → Int32)) (hM : f_T_empty S  = some res) {H : Heap} {locs : List Loc} {ls : Array Slot} (w : ttW D ad cI A s.heap S H locs) (hl : lv_has ls 1 [(0, .ref (ad 0))]) : W p l e R s m args below meth c H locs 0 0 Q (F0 m 0 ls []) := by
  unfold f_T_empty at hM
  refine lv_aload_n F.1 F.2.1 qd_T_empty_0 rfl (lv_at hl 0 rfl) ?_
  refine lv_iconst (v := 0) F.1 F.2.1 qd_T_empty_1 (by decide) ?_
  refine ttp_T_kept F hK w qk_87 qd_T_empty_2 (fun H locs w => ?_)
  refine lv_aload_n F.1 F.2.1 qd_T_empty_5 rfl (lv_at hl 0 rfl) ?_
  refine lv_iconst (v := 0) F.1 F.2.1 qd_T_empty_6 (by decide) ?_
  refine ttp_T_top F hK w qk_89 qd_T_empty_7 (fun H locs w => ?_)
  refine lv_aload_n F.1 F.2.1 qd_T_empty_10 rfl (lv_at hl 0 rfl) ?_
  refine lv_iconst (v := 0) F.1 F.2.1 qd_T_empty_11 (by decide) ?_
  refine lv_iconst (v := 0) F.1 F.2.1 qd_T_empty_12 (by decide) ?_
  refine lv_iconst (v := (-1)) F.1 F.2.1 qd_T_empty_13 (by decide) ?_
  refine lv_iconst (v := (-1)) F.1 F.2.1 qd_T_empty_14 (by decide) ?_
  obtain ⟨q1, hq2, hM⟩ := qbd hM
  refine tt_calli F hK hN hA w (ctt_T_keep l D ad cI hq2) qk_76 qk_77 qk_78 qk_3 qk_79 qv_T_keep rfl rfl ⟨Nat.le_trans (by decide) hR.1, Nat.le_trans (by decide) hR.2⟩ (ci := 1) rfl (j := 0) rfl hl.1 rfl (Nat.le_of_ble_eq_true rfl) qd_T_empty_15 (fun H locs w => ?_)
  refine lv_pop F.1 F.2.1 qd_T_empty_18 rfl ?_
  refine lv_aload_n F.1 F.2.1 qd_T_empty_19 rfl (lv_at hl 0 rfl) ?_
  refine lv_bipush (v := 6) F.1 F.2.1 qd_T_empty_20 (by decide) ?_
  refine lv_iconst (v := (-1)) F.1 F.2.1 qd_T_empty_22 (by decide) ?_
  refine lv_iconst (v := (-1)) F.1 F.2.1 qd_T_empty_23 (by decide) ?_
  refine lv_iconst (v := (-1)) F.1 F.2.1 qd_T_empty_24 (by decide) ?_
  obtain ⟨q3, hq4, hM⟩ := qbd hM
  refine tt_calli F hK hN hA w (ctt_T_keep l D ad cI hq4) qk_76 qk_77 qk_78 qk_3 qk_79 qv_T_keep rfl rfl ⟨Nat.le_trans (by decide) hR.1, Nat.le_trans (by decide) hR.2⟩ (ci := 1) rfl (j := 0) rfl hl.1 rfl (Nat.le_of_ble_eq_true rfl) qd_T_empty_25 (fun H locs w => ?_)
  refine lv_pop F.1 F.2.1 qd_T_empty_28 rfl ?_
  refine lv_aload_n F.1 F.2.1 qd_T_empty_29 rfl (lv_at hl 0 rfl) ?_
  refine lv_bipush (v := 7) F.1 F.2.1 qd_T_empty_30 (by decide) ?_
  refine lv_iconst (v := (-1)) F.1 F.2.1 qd_T_empty_32 (by decide) ?_
  refine lv_iconst (v := (-1)) F.1 F.2.1 qd_T_empty_33 (by decide) ?_
  refine lv_iconst (v := (-1)) F.1 F.2.1 qd_T_empty_34 (by decide) ?_
  obtain ⟨q5, hq6, hM⟩ := qbd hM
  refine tt_calli F hK hN hA w (ctt_T_keep l D ad cI hq6) qk_76 qk_77 qk_78 qk_3 qk_79 qv_T_keep rfl rfl ⟨Nat.le_trans (by decide) hR.1, Nat.le_trans (by decide) hR.2⟩ (ci := 1) rfl (j := 0) rfl hl.1 rfl (Nat.le_of_ble_eq_true rfl) qd_T_empty_35 (fun H locs w => ?_)
  refine lv_pop F.1 F.2.1 qd_T_empty_38 rfl ?_
  cases hM
  exact hQ _ _ _ _ qd_T_empty_39 w
set_option maxRecDepth 100000 in
theorem ctt_T_empty (l : Launch) (D : va_G) (ad : Nat → Nat) (cI : ClassId) {S : (Nat → Nat → Int32)} {res : (Nat → Nat → Int32)} (hM : f_T_empty S  = some res) : ttMv l qy_T_empty qb_T_empty 1 none { frames := 3, cells := 0, slots := 0, locals := 94 } D ad cI S [.ref (ad 0)] res := tt_ofv (by decide +kernel) (Nat.le_of_ble_eq_true rfl) (fun p e s m args below meth c Q A ls F hK hN hA w hl hQ => ttt_T_empty F ⟨Nat.le_refl _, Nat.le_refl _⟩ hK hN hA hQ S  hM w hl)
