-- K_write
def fb_K_write_129 (k_129 : (Nat → Nat → Int32) → Int32 → Int32 → Option (Nat → Nat → Int32)) (S : (Nat → Nat → Int32)) (v4 v5 : Int32) : Option (Nat → Nat → Int32) := if (2 : Int32) ≤ v5 then (some S) else (qck (qin ((v4 * (2 : Int32)) + v5) 24) (k_129 (qwr S 6 ((v4 * (2 : Int32)) + v5).toNatClampNeg (0 : Int32)) v4 (v5 + (1 : Int32))))
def f_K_write_129 : Nat → (Nat → Nat → Int32) → Int32 → Int32 → Option (Nat → Nat → Int32)
  | 0 => fun _ _ _ => none
  | n + 1 => fun S v4 v5 => fb_K_write_129 (f_K_write_129 n) S v4 v5
def f_K_write_119 (k_70 : (Nat → Nat → Int32) → Int32 → Int32 → Int32 → Option (Nat → Nat → Int32)) (S : (Nat → Nat → Int32)) (v3 v4 v5 s1 s2 : Int32) : Option (Nat → Nat → Int32) := qck (qin s1 36) (k_70 (qwr S 4 s1.toNatClampNeg s2) v3 v4 (v5 + (1 : Int32)))
def f_K_write_97 (k_70 : (Nat → Nat → Int32) → Int32 → Int32 → Int32 → Option (Nat → Nat → Int32)) (S : (Nat → Nat → Int32)) (v3 v4 v5 s1 s2 : Int32) : Option (Nat → Nat → Int32) := qck (qin s1 36) (if v5 = 0 then (f_K_write_119 k_70 (qwr S 3 s1.toNatClampNeg s2) v3 v4 v5 ((v4 * (3 : Int32)) + v5) v3) else (f_K_write_119 k_70 (qwr S 3 s1.toNatClampNeg s2) v3 v4 v5 ((v4 * (3 : Int32)) + v5) (-1 : Int32)))
def fb_K_write_70 (k_70 : (Nat → Nat → Int32) → Int32 → Int32 → Int32 → Option (Nat → Nat → Int32)) (S : (Nat → Nat → Int32)) (v3 v4 v5 : Int32) : Option (Nat → Nat → Int32) := if (3 : Int32) ≤ v5 then (f_K_write_129  qfu S v4 (0 : Int32)) else (if v5 = 0 then (f_K_write_97 k_70 S v3 v4 v5 ((v4 * (3 : Int32)) + v5) v3) else (f_K_write_97 k_70 S v3 v4 v5 ((v4 * (3 : Int32)) + v5) (-1 : Int32)))
def f_K_write_70 : Nat → (Nat → Nat → Int32) → Int32 → Int32 → Int32 → Option (Nat → Nat → Int32)
  | 0 => fun _ _ _ _ => none
  | n + 1 => fun S v3 v4 v5 => fb_K_write_70 (f_K_write_70 n) S v3 v4 v5
def f_K_write (S : (Nat → Nat → Int32)) (a1 a2 a3 : Int32) : Option (Nat → Nat → Int32) := if (S 0 0) < 0 then (some S) else (if (S 0 0) < (12 : Int32) then (qck (qin (S 0 0) 12) (qck (qin (S 0 0) 12) (qck (qin (S 0 0) 12) (qck (qin (S 0 0) 12) (qck (qin (S 0 0) 12) (f_K_write_70  qfu (qwr (qwr (qwr (qwr (qwr (qwr S 0 0 ((S 0 0) + (1 : Int32))) 1 (S 0 0).toNatClampNeg a1) 2 (S 0 0).toNatClampNeg a2) 7 (S 0 0).toNatClampNeg (0 : Int32)) 8 (S 0 0).toNatClampNeg (0 : Int32)) 9 (S 0 0).toNatClampNeg (0 : Int32)) a3 (S 0 0) (0 : Int32))))))) else (some S))
set_option maxRecDepth 100000 in
set_option maxHeartbeats 4000000 in
theorem tb_K_write_129 {p : Program} {l : Launch} {e : Env} {R : Room} {s : State} {m : MethodId} {args : Array Value} {below : List Frame} {meth : Method} {c : Code} {Q : State → Prop} {D : va_G} {ad : Nat → Nat} {cI : ClassId} {A : Nat → Prop} (F : CallFix p m c qb_K_write 6 s args qtb "CaptureSubtypes$Classes") (hR : 0 ≤ R.frames ∧ 0 ≤ R.locals) (hK : va_K D qcl [(cI, .int)] s) (hN : qnests xns s) (hA : ∀ q, s.heap.size ≤ q → A q) {res : (Nat → Nat → Int32)} (hQ : ∀ (H : Heap) (locs : List Loc) (pc : Nat) (ls : Array Slot), decode qb_K_write pc = .ok (.return_, 1) → xW D ad cI A s.heap res H locs → W p l e R s m args below meth c H locs 0 0 Q (F0 m pc ls [])) {k_129 : (Nat → Nat → Int32) → Int32 → Int32 → Option (Nat → Nat → Int32)} (hk_129 : ∀ (S : Nat → Nat → Int32) (v4 v5 : Int32), k_129 S v4 v5 = some res → ∀ {H : Heap} {locs : List Loc} {ls : Array Slot}, xW D ad cI A s.heap S H locs → lv_has ls 6 [(0, .ref (ad 1)), (4, .int v4), (5, .int v5)] → W p l e R s m args below meth c H locs 0 0 Q (F0 m 129 ls [])) (S : (Nat → Nat → Int32)) (v4 v5 : Int32) (hM : fb_K_write_129 k_129 S v4 v5 = some res) {H : Heap} {locs : List Loc} {ls : Array Slot} (w : xW D ad cI A s.heap S H locs) (hl : lv_has ls 6 [(0, .ref (ad 1)), (4, .int v4), (5, .int v5)]) : W p l e R s m args below meth c H locs 0 0 Q (F0 m 129 ls []) := by
  unfold fb_K_write_129 at hM
  refine lv_iload F.1 F.2.1 qd_K_write_129 (lv_at hl 2 rfl) ?_
  refine lv_iconst (v := 2) F.1 F.2.1 qd_K_write_131 (by decide) ?_
  refine lv_icmp_ge (tgt := 154) F.1 F.2.1 qd_K_write_132 (by decide) (fun hc1 => ?_) (fun hc1 => ?_)
  · rw [if_pos hc1] at hM
    cases hM
    exact hQ _ _ _ _ qd_K_write_154 w
  · rw [if_neg hc1] at hM
    refine lv_aload_n F.1 F.2.1 qd_K_write_135 rfl (lv_at hl 0 rfl) ?_
    refine xg_K_boundCounts F hK w qk_40 qd_K_write_136 ?_
    refine lv_iload F.1 F.2.1 qd_K_write_139 (lv_at hl 1 rfl) ?_
    refine lv_iconst (v := 2) F.1 F.2.1 qd_K_write_141 (by decide) ?_
    refine lv_imul F.1 F.2.1 qd_K_write_142 ?_
    refine lv_iload F.1 F.2.1 qd_K_write_143 (lv_at hl 2 rfl) ?_
    refine lv_iadd F.1 F.2.1 qd_K_write_145 ?_
    refine lv_iconst (v := 0) F.1 F.2.1 qd_K_write_146 (by decide) ?_
    obtain ⟨hi2, hM⟩ := qck_ok hM
    refine xs_K_boundCounts F hK w hi2 qd_K_write_147 (fun H locs w => ?_)
    refine lv_iinc (v := (v5 + (1 : Int32))) (lv' := [(5, .int (v5 + (1 : Int32))), (0, .ref (ad 1)), (4, .int v4)]) F.1 F.2.1 qd_K_write_148 hl (k := 2) rfl rfl (by decide) rfl (fun ls hl => ?_)
    refine lv_goto (tgt := 129) F.1 F.2.1 qd_K_write_151 (by decide) ?_
    exact hk_129 _ _ _ hM w (lv_sub hl [1, 2, 0] rfl)
set_option maxRecDepth 100000 in
set_option maxHeartbeats 4000000 in
theorem t_K_write_129 {p : Program} {l : Launch} {e : Env} {R : Room} {s : State} {m : MethodId} {args : Array Value} {below : List Frame} {meth : Method} {c : Code} {Q : State → Prop} {D : va_G} {ad : Nat → Nat} {cI : ClassId} {A : Nat → Prop} (F : CallFix p m c qb_K_write 6 s args qtb "CaptureSubtypes$Classes") (hR : 0 ≤ R.frames ∧ 0 ≤ R.locals) (hK : va_K D qcl [(cI, .int)] s) (hN : qnests xns s) (hA : ∀ q, s.heap.size ≤ q → A q) {res : (Nat → Nat → Int32)} (hQ : ∀ (H : Heap) (locs : List Loc) (pc : Nat) (ls : Array Slot), decode qb_K_write pc = .ok (.return_, 1) → xW D ad cI A s.heap res H locs → W p l e R s m args below meth c H locs 0 0 Q (F0 m pc ls [])) : ∀ (n : Nat) (S : (Nat → Nat → Int32)) (v4 v5 : Int32) (hM : f_K_write_129 n S v4 v5 = some res) {H : Heap} {locs : List Loc} {ls : Array Slot} (w : xW D ad cI A s.heap S H locs) (hl : lv_has ls 6 [(0, .ref (ad 1)), (4, .int v4), (5, .int v5)]), W p l e R s m args below meth c H locs 0 0 Q (F0 m 129 ls []) := by
  intro n
  induction n with
  | zero => intro S v4 v5 hM; exact absurd hM (by simp [f_K_write_129])
  | succ n ih => intro S v4 v5 hM H locs ls w hl; exact tb_K_write_129 F hR hK hN hA hQ (k_129 := f_K_write_129 n) (fun S v4 v5 hM H locs ls w hl => ih S v4 v5 hM w hl) S v4 v5 hM w hl
set_option maxRecDepth 100000 in
set_option maxHeartbeats 4000000 in
theorem t_K_write_119 {p : Program} {l : Launch} {e : Env} {R : Room} {s : State} {m : MethodId} {args : Array Value} {below : List Frame} {meth : Method} {c : Code} {Q : State → Prop} {D : va_G} {ad : Nat → Nat} {cI : ClassId} {A : Nat → Prop} (F : CallFix p m c qb_K_write 6 s args qtb "CaptureSubtypes$Classes") (hR : 0 ≤ R.frames ∧ 0 ≤ R.locals) (hK : va_K D qcl [(cI, .int)] s) (hN : qnests xns s) (hA : ∀ q, s.heap.size ≤ q → A q) {res : (Nat → Nat → Int32)} (hQ : ∀ (H : Heap) (locs : List Loc) (pc : Nat) (ls : Array Slot), decode qb_K_write pc = .ok (.return_, 1) → xW D ad cI A s.heap res H locs → W p l e R s m args below meth c H locs 0 0 Q (F0 m pc ls [])) {k_70 : (Nat → Nat → Int32) → Int32 → Int32 → Int32 → Option (Nat → Nat → Int32)} (hk_70 : ∀ (S : Nat → Nat → Int32) (v3 v4 v5 : Int32), k_70 S v3 v4 v5 = some res → ∀ {H : Heap} {locs : List Loc} {ls : Array Slot}, xW D ad cI A s.heap S H locs → lv_has ls 6 [(0, .ref (ad 1)), (3, .int v3), (4, .int v4), (5, .int v5)] → W p l e R s m args below meth c H locs 0 0 Q (F0 m 70 ls [])) (S : (Nat → Nat → Int32)) (v3 v4 v5 s1 s2 : Int32) (hM : f_K_write_119 k_70 S v3 v4 v5 s1 s2 = some res) {H : Heap} {locs : List Loc} {ls : Array Slot} (w : xW D ad cI A s.heap S H locs) (hl : lv_has ls 6 [(0, .ref (ad 1)), (3, .int v3), (4, .int v4), (5, .int v5)]) : W p l e R s m args below meth c H locs 0 0 Q (F0 m 119 ls [.int s2, .int s1, .ref (ad 9)]) := by
  unfold f_K_write_119 at hM
  obtain ⟨hi1, hM⟩ := qck_ok hM
  refine xs_K_superClasses F hK w hi1 qd_K_write_119 (fun H locs w => ?_)
  refine lv_iinc (v := (v5 + (1 : Int32))) (lv' := [(5, .int (v5 + (1 : Int32))), (0, .ref (ad 1)), (3, .int v3), (4, .int v4)]) F.1 F.2.1 qd_K_write_120 hl (k := 3) rfl rfl (by decide) rfl (fun ls hl => ?_)
  refine lv_goto (tgt := 70) F.1 F.2.1 qd_K_write_123 (by decide) ?_
  exact hk_70 _ _ _ _ hM w (lv_sub hl [1, 2, 3, 0] rfl)
set_option maxRecDepth 100000 in
set_option maxHeartbeats 4000000 in
theorem t_K_write_97 {p : Program} {l : Launch} {e : Env} {R : Room} {s : State} {m : MethodId} {args : Array Value} {below : List Frame} {meth : Method} {c : Code} {Q : State → Prop} {D : va_G} {ad : Nat → Nat} {cI : ClassId} {A : Nat → Prop} (F : CallFix p m c qb_K_write 6 s args qtb "CaptureSubtypes$Classes") (hR : 0 ≤ R.frames ∧ 0 ≤ R.locals) (hK : va_K D qcl [(cI, .int)] s) (hN : qnests xns s) (hA : ∀ q, s.heap.size ≤ q → A q) {res : (Nat → Nat → Int32)} (hQ : ∀ (H : Heap) (locs : List Loc) (pc : Nat) (ls : Array Slot), decode qb_K_write pc = .ok (.return_, 1) → xW D ad cI A s.heap res H locs → W p l e R s m args below meth c H locs 0 0 Q (F0 m pc ls [])) {k_70 : (Nat → Nat → Int32) → Int32 → Int32 → Int32 → Option (Nat → Nat → Int32)} (hk_70 : ∀ (S : Nat → Nat → Int32) (v3 v4 v5 : Int32), k_70 S v3 v4 v5 = some res → ∀ {H : Heap} {locs : List Loc} {ls : Array Slot}, xW D ad cI A s.heap S H locs → lv_has ls 6 [(0, .ref (ad 1)), (3, .int v3), (4, .int v4), (5, .int v5)] → W p l e R s m args below meth c H locs 0 0 Q (F0 m 70 ls [])) (S : (Nat → Nat → Int32)) (v3 v4 v5 s1 s2 : Int32) (hM : f_K_write_97 k_70 S v3 v4 v5 s1 s2 = some res) {H : Heap} {locs : List Loc} {ls : Array Slot} (w : xW D ad cI A s.heap S H locs) (hl : lv_has ls 6 [(0, .ref (ad 1)), (3, .int v3), (4, .int v4), (5, .int v5)]) : W p l e R s m args below meth c H locs 0 0 Q (F0 m 97 ls [.int s2, .int s1, .ref (ad 8)]) := by
  unfold f_K_write_97 at hM
  obtain ⟨hi1, hM⟩ := qck_ok hM
  refine xs_K_superTypes F hK w hi1 qd_K_write_97 (fun H locs w => ?_)
  refine lv_aload_n F.1 F.2.1 qd_K_write_98 rfl (lv_at hl 0 rfl) ?_
  refine xg_K_superClasses F hK w qk_38 qd_K_write_99 ?_
  refine lv_iload F.1 F.2.1 qd_K_write_102 (lv_at hl 2 rfl) ?_
  refine lv_iconst (v := 3) F.1 F.2.1 qd_K_write_104 (by decide) ?_
  refine lv_imul F.1 F.2.1 qd_K_write_105 ?_
  refine lv_iload F.1 F.2.1 qd_K_write_106 (lv_at hl 3 rfl) ?_
  refine lv_iadd F.1 F.2.1 qd_K_write_108 ?_
  refine lv_iload F.1 F.2.1 qd_K_write_109 (lv_at hl 3 rfl) ?_
  refine lv_if_ne (tgt := 118) F.1 F.2.1 qd_K_write_111 (by decide) (fun hc2 => ?_) (fun hc2 => ?_)
  · rw [if_neg hc2] at hM
    refine lv_iconst (v := (-1)) F.1 F.2.1 qd_K_write_118 (by decide) ?_
    exact t_K_write_119 F hR hK hN hA hQ hk_70 _ _ _ _ _ _ hM w (lv_sub hl [0, 1, 2, 3] rfl)
  · rw [if_pos hc2] at hM
    refine lv_iload_n F.1 F.2.1 qd_K_write_114 rfl (lv_at hl 1 rfl) ?_
    refine lv_goto (tgt := 119) F.1 F.2.1 qd_K_write_115 (by decide) ?_
    exact t_K_write_119 F hR hK hN hA hQ hk_70 _ _ _ _ _ _ hM w (lv_sub hl [0, 1, 2, 3] rfl)
set_option maxRecDepth 100000 in
set_option maxHeartbeats 4000000 in
theorem tb_K_write_70 {p : Program} {l : Launch} {e : Env} {R : Room} {s : State} {m : MethodId} {args : Array Value} {below : List Frame} {meth : Method} {c : Code} {Q : State → Prop} {D : va_G} {ad : Nat → Nat} {cI : ClassId} {A : Nat → Prop} (F : CallFix p m c qb_K_write 6 s args qtb "CaptureSubtypes$Classes") (hR : 0 ≤ R.frames ∧ 0 ≤ R.locals) (hK : va_K D qcl [(cI, .int)] s) (hN : qnests xns s) (hA : ∀ q, s.heap.size ≤ q → A q) {res : (Nat → Nat → Int32)} (hQ : ∀ (H : Heap) (locs : List Loc) (pc : Nat) (ls : Array Slot), decode qb_K_write pc = .ok (.return_, 1) → xW D ad cI A s.heap res H locs → W p l e R s m args below meth c H locs 0 0 Q (F0 m pc ls [])) {k_70 : (Nat → Nat → Int32) → Int32 → Int32 → Int32 → Option (Nat → Nat → Int32)} (hk_70 : ∀ (S : Nat → Nat → Int32) (v3 v4 v5 : Int32), k_70 S v3 v4 v5 = some res → ∀ {H : Heap} {locs : List Loc} {ls : Array Slot}, xW D ad cI A s.heap S H locs → lv_has ls 6 [(0, .ref (ad 1)), (3, .int v3), (4, .int v4), (5, .int v5)] → W p l e R s m args below meth c H locs 0 0 Q (F0 m 70 ls [])) (S : (Nat → Nat → Int32)) (v3 v4 v5 : Int32) (hM : fb_K_write_70 k_70 S v3 v4 v5 = some res) {H : Heap} {locs : List Loc} {ls : Array Slot} (w : xW D ad cI A s.heap S H locs) (hl : lv_has ls 6 [(0, .ref (ad 1)), (3, .int v3), (4, .int v4), (5, .int v5)]) : W p l e R s m args below meth c H locs 0 0 Q (F0 m 70 ls []) := by
  unfold fb_K_write_70 at hM
  refine lv_iload F.1 F.2.1 qd_K_write_70 (lv_at hl 3 rfl) ?_
  refine lv_iconst (v := 3) F.1 F.2.1 qd_K_write_72 (by decide) ?_
  refine lv_icmp_ge (tgt := 126) F.1 F.2.1 qd_K_write_73 (by decide) (fun hc1 => ?_) (fun hc1 => ?_)
  · rw [if_pos hc1] at hM
    refine lv_iconst (v := 0) F.1 F.2.1 qd_K_write_126 (by decide) ?_
    refine lv_istore (lv' := [(5, .int (0 : Int32)), (0, .ref (ad 1)), (3, .int v3), (4, .int v4)]) F.1 F.2.1 qd_K_write_127 hl (by decide) rfl (fun ls hl => ?_)
    exact t_K_write_129 F hR hK hN hA hQ  qfu _ _ _ hM w (lv_sub hl [1, 3, 0] rfl)
  · rw [if_neg hc1] at hM
    refine lv_aload_n F.1 F.2.1 qd_K_write_76 rfl (lv_at hl 0 rfl) ?_
    refine xg_K_superTypes F hK w qk_37 qd_K_write_77 ?_
    refine lv_iload F.1 F.2.1 qd_K_write_80 (lv_at hl 2 rfl) ?_
    refine lv_iconst (v := 3) F.1 F.2.1 qd_K_write_82 (by decide) ?_
    refine lv_imul F.1 F.2.1 qd_K_write_83 ?_
    refine lv_iload F.1 F.2.1 qd_K_write_84 (lv_at hl 3 rfl) ?_
    refine lv_iadd F.1 F.2.1 qd_K_write_86 ?_
    refine lv_iload F.1 F.2.1 qd_K_write_87 (lv_at hl 3 rfl) ?_
    refine lv_if_ne (tgt := 96) F.1 F.2.1 qd_K_write_89 (by decide) (fun hc2 => ?_) (fun hc2 => ?_)
    · rw [if_neg hc2] at hM
      refine lv_iconst (v := (-1)) F.1 F.2.1 qd_K_write_96 (by decide) ?_
      exact t_K_write_97 F hR hK hN hA hQ hk_70 _ _ _ _ _ _ hM w (lv_sub hl [0, 1, 2, 3] rfl)
    · rw [if_pos hc2] at hM
      refine lv_iload_n F.1 F.2.1 qd_K_write_92 rfl (lv_at hl 1 rfl) ?_
      refine lv_goto (tgt := 97) F.1 F.2.1 qd_K_write_93 (by decide) ?_
      exact t_K_write_97 F hR hK hN hA hQ hk_70 _ _ _ _ _ _ hM w (lv_sub hl [0, 1, 2, 3] rfl)
set_option maxRecDepth 100000 in
set_option maxHeartbeats 4000000 in
theorem t_K_write_70 {p : Program} {l : Launch} {e : Env} {R : Room} {s : State} {m : MethodId} {args : Array Value} {below : List Frame} {meth : Method} {c : Code} {Q : State → Prop} {D : va_G} {ad : Nat → Nat} {cI : ClassId} {A : Nat → Prop} (F : CallFix p m c qb_K_write 6 s args qtb "CaptureSubtypes$Classes") (hR : 0 ≤ R.frames ∧ 0 ≤ R.locals) (hK : va_K D qcl [(cI, .int)] s) (hN : qnests xns s) (hA : ∀ q, s.heap.size ≤ q → A q) {res : (Nat → Nat → Int32)} (hQ : ∀ (H : Heap) (locs : List Loc) (pc : Nat) (ls : Array Slot), decode qb_K_write pc = .ok (.return_, 1) → xW D ad cI A s.heap res H locs → W p l e R s m args below meth c H locs 0 0 Q (F0 m pc ls [])) : ∀ (n : Nat) (S : (Nat → Nat → Int32)) (v3 v4 v5 : Int32) (hM : f_K_write_70 n S v3 v4 v5 = some res) {H : Heap} {locs : List Loc} {ls : Array Slot} (w : xW D ad cI A s.heap S H locs) (hl : lv_has ls 6 [(0, .ref (ad 1)), (3, .int v3), (4, .int v4), (5, .int v5)]), W p l e R s m args below meth c H locs 0 0 Q (F0 m 70 ls []) := by
  intro n
  induction n with
  | zero => intro S v3 v4 v5 hM; exact absurd hM (by simp [f_K_write_70])
  | succ n ih => intro S v3 v4 v5 hM H locs ls w hl; exact tb_K_write_70 F hR hK hN hA hQ (k_70 := f_K_write_70 n) (fun S v3 v4 v5 hM H locs ls w hl => ih S v3 v4 v5 hM w hl) S v3 v4 v5 hM w hl
set_option maxRecDepth 100000 in
set_option maxHeartbeats 4000000 in
theorem t_K_write {p : Program} {l : Launch} {e : Env} {R : Room} {s : State} {m : MethodId} {args : Array Value} {below : List Frame} {meth : Method} {c : Code} {Q : State → Prop} {D : va_G} {ad : Nat → Nat} {cI : ClassId} {A : Nat → Prop} (F : CallFix p m c qb_K_write 6 s args qtb "CaptureSubtypes$Classes") (hR : 0 ≤ R.frames ∧ 0 ≤ R.locals) (hK : va_K D qcl [(cI, .int)] s) (hN : qnests xns s) (hA : ∀ q, s.heap.size ≤ q → A q) {res : (Nat → Nat → Int32)} (hQ : ∀ (H : Heap) (locs : List Loc) (pc : Nat) (ls : Array Slot), decode qb_K_write pc = .ok (.return_, 1) → xW D ad cI A s.heap res H locs → W p l e R s m args below meth c H locs 0 0 Q (F0 m pc ls [])) (S : (Nat → Nat → Int32)) (a1 a2 a3 : Int32) (hM : f_K_write S a1 a2 a3 = some res) {H : Heap} {locs : List Loc} {ls : Array Slot} (w : xW D ad cI A s.heap S H locs) (hl : lv_has ls 6 [(0, .ref (ad 1)), (1, .int a1), (2, .int a2), (3, .int a3)]) : W p l e R s m args below meth c H locs 0 0 Q (F0 m 0 ls []) := by
  unfold f_K_write at hM
  refine lv_aload_n F.1 F.2.1 qd_K_write_0 rfl (lv_at hl 0 rfl) ?_
  refine xg_K_count F hK w qk_31 qd_K_write_1 ?_
  refine lv_istore (lv' := [(4, .int (S 0 0)), (0, .ref (ad 1)), (1, .int a1), (2, .int a2), (3, .int a3)]) F.1 F.2.1 qd_K_write_4 hl (by decide) rfl (fun ls hl => ?_)
  refine lv_iload F.1 F.2.1 qd_K_write_6 (lv_at hl 0 rfl) ?_
  refine lv_if_lt (tgt := 18) F.1 F.2.1 qd_K_write_8 (by decide) (fun hc1 => ?_) (fun hc1 => ?_)
  · rw [if_pos hc1] at hM
    cases hM
    exact hQ _ _ _ _ qd_K_write_18 w
  · rw [if_neg hc1] at hM
    refine lv_iload F.1 F.2.1 qd_K_write_11 (lv_at hl 0 rfl) ?_
    refine lv_bipush (v := 12) F.1 F.2.1 qd_K_write_13 (by decide) ?_
    refine lv_icmp_lt (tgt := 19) F.1 F.2.1 qd_K_write_15 (by decide) (fun hc2 => ?_) (fun hc2 => ?_)
    · rw [if_pos hc2] at hM
      refine lv_aload_n F.1 F.2.1 qd_K_write_19 rfl (lv_at hl 1 rfl) ?_
      refine lv_iload F.1 F.2.1 qd_K_write_20 (lv_at hl 0 rfl) ?_
      refine lv_iconst (v := 1) F.1 F.2.1 qd_K_write_22 (by decide) ?_
      refine lv_iadd F.1 F.2.1 qd_K_write_23 ?_
      refine xp_K_count F hK w qk_31 qd_K_write_24 (fun H locs w => ?_)
      refine lv_aload_n F.1 F.2.1 qd_K_write_27 rfl (lv_at hl 1 rfl) ?_
      refine xg_K_kinds F hK w qk_35 qd_K_write_28 ?_
      refine lv_iload F.1 F.2.1 qd_K_write_31 (lv_at hl 0 rfl) ?_
      refine lv_iload_n F.1 F.2.1 qd_K_write_33 rfl (lv_at hl 2 rfl) ?_
      obtain ⟨hi3, hM⟩ := qck_ok hM
      refine xs_K_kinds F hK w hi3 qd_K_write_34 (fun H locs w => ?_)
      refine lv_aload_n F.1 F.2.1 qd_K_write_35 rfl (lv_at hl 1 rfl) ?_
      refine xg_K_parameterCounts F hK w qk_36 qd_K_write_36 ?_
      refine lv_iload F.1 F.2.1 qd_K_write_39 (lv_at hl 0 rfl) ?_
      refine lv_iload_n F.1 F.2.1 qd_K_write_41 rfl (lv_at hl 3 rfl) ?_
      obtain ⟨hi4, hM⟩ := qck_ok hM
      refine xs_K_parameterCounts F hK w hi4 qd_K_write_42 (fun H locs w => ?_)
      refine lv_aload_n F.1 F.2.1 qd_K_write_43 rfl (lv_at hl 1 rfl) ?_
      refine xg_K_parents F hK w qk_41 qd_K_write_44 ?_
      refine lv_iload F.1 F.2.1 qd_K_write_47 (lv_at hl 0 rfl) ?_
      refine lv_iconst (v := 0) F.1 F.2.1 qd_K_write_49 (by decide) ?_
      obtain ⟨hi5, hM⟩ := qck_ok hM
      refine xs_K_parents F hK w hi5 qd_K_write_50 (fun H locs w => ?_)
      refine lv_aload_n F.1 F.2.1 qd_K_write_51 rfl (lv_at hl 1 rfl) ?_
      refine xg_K_above F hK w qk_42 qd_K_write_52 ?_
      refine lv_iload F.1 F.2.1 qd_K_write_55 (lv_at hl 0 rfl) ?_
      refine lv_iconst (v := 0) F.1 F.2.1 qd_K_write_57 (by decide) ?_
      obtain ⟨hi6, hM⟩ := qck_ok hM
      refine xs_K_above F hK w hi6 qd_K_write_58 (fun H locs w => ?_)
      refine lv_aload_n F.1 F.2.1 qd_K_write_59 rfl (lv_at hl 1 rfl) ?_
      refine xg_K_apartFrom F hK w qk_43 qd_K_write_60 ?_
      refine lv_iload F.1 F.2.1 qd_K_write_63 (lv_at hl 0 rfl) ?_
      refine lv_iconst (v := 0) F.1 F.2.1 qd_K_write_65 (by decide) ?_
      obtain ⟨hi7, hM⟩ := qck_ok hM
      refine xs_K_apartFrom F hK w hi7 qd_K_write_66 (fun H locs w => ?_)
      refine lv_iconst (v := 0) F.1 F.2.1 qd_K_write_67 (by decide) ?_
      refine lv_istore (lv' := [(5, .int (0 : Int32)), (4, .int (S 0 0)), (0, .ref (ad 1)), (1, .int a1), (2, .int a2), (3, .int a3)]) F.1 F.2.1 qd_K_write_68 hl (by decide) rfl (fun ls hl => ?_)
      exact t_K_write_70 F hR hK hN hA hQ  qfu _ _ _ _ hM w (lv_sub hl [2, 5, 1, 0] rfl)
    · rw [if_neg hc2] at hM
      cases hM
      exact hQ _ _ _ _ qd_K_write_18 w
set_option maxRecDepth 100000 in
theorem c_K_write (l : Launch) (D : va_G) (ad : Nat → Nat) (cI : ClassId) {S : (Nat → Nat → Int32)} {a1 a2 a3 : Int32} {res : (Nat → Nat → Int32)} (hM : f_K_write S a1 a2 a3 = some res) : xMv l qy_K_write qb_K_write 6 none { frames := 0, cells := 0, slots := 0, locals := 0 } D ad cI S [.ref (ad 1), .int a1, .int a2, .int a3] res := x_ofv (by decide +kernel) (Nat.le_of_ble_eq_true rfl) (fun p e s m args below meth c Q A ls F hK hN hA w hl hQ => t_K_write F ⟨Nat.le_refl _, Nat.le_refl _⟩ hK hN hA hQ S a1 a2 a3 hM w hl)
-- K_empty
def f_K_empty (S : (Nat → Nat → Int32)) : Option (Nat → Nat → Int32) := (f_K_write (qwr S 0 0 (0 : Int32)) (0 : Int32) (0 : Int32) (-1 : Int32)).bind (fun q1 => qck (qin (0 : Int32) 12) (some (qwr q1 8 (0 : Int32).toNatClampNeg (1 : Int32))))
set_option maxRecDepth 100000 in
set_option maxHeartbeats 4000000 in
theorem t_K_empty {p : Program} {l : Launch} {e : Env} {R : Room} {s : State} {m : MethodId} {args : Array Value} {below : List Frame} {meth : Method} {c : Code} {Q : State → Prop} {D : va_G} {ad : Nat → Nat} {cI : ClassId} {A : Nat → Prop} (F : CallFix p m c qb_K_empty 1 s args qtb "CaptureSubtypes$Classes") (hR : 1 ≤ R.frames ∧ 25 ≤ R.locals) (hK : va_K D qcl [(cI, .int)] s) (hN : qnests xns s) (hA : ∀ q, s.heap.size ≤ q → A q) {res : (Nat → Nat → Int32)} (hQ : ∀ (H : Heap) (locs : List Loc) (pc : Nat) (ls : Array Slot), decode qb_K_empty pc = .ok (.return_, 1) → xW D ad cI A s.heap res H locs → W p l e R s m args below meth c H locs 0 0 Q (F0 m pc ls [])) (S : (Nat → Nat → Int32)) (hM : f_K_empty S  = some res) {H : Heap} {locs : List Loc} {ls : Array Slot} (w : xW D ad cI A s.heap S H locs) (hl : lv_has ls 1 [(0, .ref (ad 1))]) : W p l e R s m args below meth c H locs 0 0 Q (F0 m 0 ls []) := by
  unfold f_K_empty at hM
  refine lv_aload_n F.1 F.2.1 qd_K_empty_0 rfl (lv_at hl 0 rfl) ?_
  refine lv_iconst (v := 0) F.1 F.2.1 qd_K_empty_1 (by decide) ?_
  refine xp_K_count F hK w qk_31 qd_K_empty_2 (fun H locs w => ?_)
  refine lv_aload_n F.1 F.2.1 qd_K_empty_5 rfl (lv_at hl 0 rfl) ?_
  refine lv_iconst (v := 0) F.1 F.2.1 qd_K_empty_6 (by decide) ?_
  refine lv_iconst (v := 0) F.1 F.2.1 qd_K_empty_7 (by decide) ?_
  refine lv_iconst (v := (-1)) F.1 F.2.1 qd_K_empty_8 (by decide) ?_
  obtain ⟨q1, hq2, hM⟩ := qbd hM
  refine x_callv F hK hN hA w (c_K_write l D ad cI hq2) qk_27 qk_29 qs_K_write qk_2 qk_30 qv_K_write rfl rfl ⟨Nat.le_trans (by decide) hR.1, Nat.le_trans (by decide) hR.2⟩ (ci := 0) rfl (j := 1) rfl hl.1 rfl (Nat.le_of_ble_eq_true rfl) qd_K_empty_9 (fun H locs w => ?_)
  refine lv_aload_n F.1 F.2.1 qd_K_empty_12 rfl (lv_at hl 0 rfl) ?_
  refine xg_K_above F hK w qk_42 qd_K_empty_13 ?_
  refine lv_iconst (v := 0) F.1 F.2.1 qd_K_empty_16 (by decide) ?_
  refine lv_iconst (v := 1) F.1 F.2.1 qd_K_empty_17 (by decide) ?_
  obtain ⟨hi3, hM⟩ := qck_ok hM
  refine xs_K_above F hK w hi3 qd_K_empty_18 (fun H locs w => ?_)
  cases hM
  exact hQ _ _ _ _ qd_K_empty_19 w
set_option maxRecDepth 100000 in
theorem c_K_empty (l : Launch) (D : va_G) (ad : Nat → Nat) (cI : ClassId) {S : (Nat → Nat → Int32)} {res : (Nat → Nat → Int32)} (hM : f_K_empty S  = some res) : xMv l qy_K_empty qb_K_empty 1 none { frames := 1, cells := 0, slots := 0, locals := 25 } D ad cI S [.ref (ad 1)] res := x_ofv (by decide +kernel) (Nat.le_of_ble_eq_true rfl) (fun p e s m args below meth c Q A ls F hK hN hA w hl hQ => t_K_empty F ⟨Nat.le_refl _, Nat.le_refl _⟩ hK hN hA hQ S  hM w hl)
-- T_put
def f_T_put_261 (S : (Nat → Nat → Int32)) (v1 v2 v3 v4 v7 v8 : Int32) : Option (Int32 × (Nat → Nat → Int32)) := qck (qin (S 11 0) 1024) (qck (qin (S 11 0) 1024) (qck (qin (S 11 0) 1024) (qck (qin (S 11 0) 1024) (qck (qin (S 11 0) 1024) (qck (qin (S 11 0) 1024) (qck (qin (S 11 0) 1024) (qck (qin (S 11 0) 1024) (some ((S 11 0), (qwr (qwr (qwr (qwr (qwr (qwr (qwr (qwr (qwr S 11 0 ((S 11 0) + (1 : Int32))) 12 (S 11 0).toNatClampNeg v1) 13 (S 11 0).toNatClampNeg v2) 14 (S 11 0).toNatClampNeg v3) 15 (S 11 0).toNatClampNeg v4) 16 (S 11 0).toNatClampNeg v7) 17 (S 11 0).toNatClampNeg v8) 18 (S 11 0).toNatClampNeg (-1 : Int32)) 19 (S 11 0).toNatClampNeg (-1 : Int32)))))))))))
def f_T_put_214 (S : (Nat → Nat → Int32)) (v1 v2 v3 v4 v5 v7 v8 : Int32) : Option (Int32 × (Nat → Nat → Int32)) := if (S 11 0) < 0 then (some ((-3 : Int32), S)) else (if (1024 : Int32) ≤ (S 11 0) then (some ((-3 : Int32), S)) else (if (S 11 0) < v5 then (if v5 = (150 : Int32) then (if v7 ≤ (6 : Int32) then (f_T_put_261  S v1 v2 v3 v4 v7 v8) else (some ((-4 : Int32), S))) else (f_T_put_261  S v1 v2 v3 v4 v7 v8)) else (some ((-3 : Int32), S))))
def f_T_put_167 (S : (Nat → Nat → Int32)) (v1 v2 v3 v4 v5 v6 v7 v8 : Int32) : Option (Int32 × (Nat → Nat → Int32)) := if v6 = 0 then (f_T_put_214  S v1 v2 v3 v4 v5 v7 v8) else (if v4 < 0 then (f_T_put_214  S v1 v2 v3 v4 v5 v7 v8) else (if (S 11 0) ≤ v4 then (f_T_put_214  S v1 v2 v3 v4 v5 v7 v8) else (qck (qin v4 1024) (qck (qin v4 1024) (f_T_put_214  S v1 v2 v3 v4 v5 (qmax v7 ((1 : Int32) + (S 16 v4.toNatClampNeg))) (v8 ||| (S 17 v4.toNatClampNeg)))))))
def f_T_put_127 (S : (Nat → Nat → Int32)) (v1 v2 v3 v4 v5 v6 v7 s1 : Int32) : Option (Int32 × (Nat → Nat → Int32)) := if v6 = 0 then (f_T_put_167  S v1 v2 v3 v4 v5 v6 v7 s1) else (if v3 < 0 then (f_T_put_167  S v1 v2 v3 v4 v5 v6 v7 s1) else (if (S 11 0) ≤ v3 then (f_T_put_167  S v1 v2 v3 v4 v5 v6 v7 s1) else (qck (qin v3 1024) (qck (qin v3 1024) (f_T_put_167  S v1 v2 v3 v4 v5 v6 ((1 : Int32) + (S 16 v3.toNatClampNeg)) (s1 ||| (S 17 v3.toNatClampNeg)))))))
def f_T_put_99 (S : (Nat → Nat → Int32)) (v1 v2 v3 v4 v5 s1 : Int32) : Option (Int32 × (Nat → Nat → Int32)) := if v1 = (3 : Int32) then (f_T_put_127  S v1 v2 v3 v4 v5 s1 (1 : Int32) ((1 : Int32) <<< (v2 &&& 31))) else (if v1 = (5 : Int32) then (f_T_put_127  S v1 v2 v3 v4 v5 s1 (1 : Int32) (4096 : Int32)) else (f_T_put_127  S v1 v2 v3 v4 v5 s1 (1 : Int32) (0 : Int32)))
def f_T_put_94 (S : (Nat → Nat → Int32)) (v1 v2 v3 v4 v5 : Int32) : Option (Int32 × (Nat → Nat → Int32)) := f_T_put_99  S v1 v2 v3 v4 v5 (1 : Int32)
def fb_T_put_16 (k_16 : (Nat → Nat → Int32) → Int32 → Int32 → Int32 → Int32 → Int32 → Int32 → Option (Int32 × (Nat → Nat → Int32))) (S : (Nat → Nat → Int32)) (v1 v2 v3 v4 v5 v6 : Int32) : Option (Int32 × (Nat → Nat → Int32)) := if (S 11 0) ≤ v6 then (if v1 = (2 : Int32) then (f_T_put_94  S v1 v2 v3 v4 v5) else (if v1 = (4 : Int32) then (f_T_put_94  S v1 v2 v3 v4 v5) else (if v1 = (5 : Int32) then (f_T_put_94  S v1 v2 v3 v4 v5) else (f_T_put_99  S v1 v2 v3 v4 v5 (0 : Int32))))) else (qck (qin v6 1024) (if (S 12 v6.toNatClampNeg) = v1 then (qck (qin v6 1024) (if (S 13 v6.toNatClampNeg) = v2 then (qck (qin v6 1024) (if (S 14 v6.toNatClampNeg) = v3 then (qck (qin v6 1024) (if (S 15 v6.toNatClampNeg) = v4 then (some (v6, S)) else (k_16 S v1 v2 v3 v4 v5 (v6 + (1 : Int32))))) else (k_16 S v1 v2 v3 v4 v5 (v6 + (1 : Int32))))) else (k_16 S v1 v2 v3 v4 v5 (v6 + (1 : Int32))))) else (k_16 S v1 v2 v3 v4 v5 (v6 + (1 : Int32)))))
def f_T_put_16 : Nat → (Nat → Nat → Int32) → Int32 → Int32 → Int32 → Int32 → Int32 → Int32 → Option (Int32 × (Nat → Nat → Int32))
  | 0 => fun _ _ _ _ _ _ _ => none
  | n + 1 => fun S v1 v2 v3 v4 v5 v6 => fb_T_put_16 (f_T_put_16 n) S v1 v2 v3 v4 v5 v6
def f_T_put (S : (Nat → Nat → Int32)) (a1 a2 a3 a4 a5 : Int32) : Option (Int32 × (Nat → Nat → Int32)) := if a1 = (8 : Int32) then (f_T_put_16  qfu S a1 a2 a3 a4 a5 (S 11 0)) else (f_T_put_16  qfu S a1 a2 a3 a4 a5 (0 : Int32))
set_option maxRecDepth 100000 in
set_option maxHeartbeats 4000000 in
theorem t_T_put_261 {p : Program} {l : Launch} {e : Env} {R : Room} {s : State} {m : MethodId} {args : Array Value} {below : List Frame} {meth : Method} {c : Code} {Q : State → Prop} {D : va_G} {ad : Nat → Nat} {cI : ClassId} {A : Nat → Prop} (F : CallFix p m c qb_T_put 10 s args qtb "CaptureSubtypes$Types") (hR : 1 ≤ R.frames ∧ 40 ≤ R.locals) (hK : va_K D qcl [(cI, .int)] s) (hN : qnests xns s) (hA : ∀ q, s.heap.size ≤ q → A q) {res : (Int32 × (Nat → Nat → Int32))} (hQ : ∀ (H : Heap) (locs : List Loc) (pc : Nat) (ls : Array Slot), decode qb_T_put pc = .ok (.ireturn, 1) → xW D ad cI A s.heap res.2 H locs → W p l e R s m args below meth c H locs 0 0 Q (F0 m pc ls [.int res.1])) (S : (Nat → Nat → Int32)) (v1 v2 v3 v4 v7 v8 : Int32) (hM : f_T_put_261 S v1 v2 v3 v4 v7 v8 = some res) {H : Heap} {locs : List Loc} {ls : Array Slot} (w : xW D ad cI A s.heap S H locs) (hl : lv_has ls 10 [(0, .ref (ad 2)), (1, .int v1), (2, .int v2), (3, .int v3), (4, .int v4), (7, .int v7), (8, .int v8)]) : W p l e R s m args below meth c H locs 0 0 Q (F0 m 261 ls []) := by
  unfold f_T_put_261 at hM
  refine lv_aload_n F.1 F.2.1 qd_T_put_261 rfl (lv_at hl 0 rfl) ?_
  refine xg_T_top F hK w qk_89 qd_T_put_262 ?_
  refine lv_istore (lv' := [(9, .int (S 11 0)), (0, .ref (ad 2)), (1, .int v1), (2, .int v2), (3, .int v3), (4, .int v4), (7, .int v7), (8, .int v8)]) F.1 F.2.1 qd_T_put_265 hl (by decide) rfl (fun ls hl => ?_)
  refine lv_aload_n F.1 F.2.1 qd_T_put_267 rfl (lv_at hl 1 rfl) ?_
  refine lv_iload F.1 F.2.1 qd_T_put_268 (lv_at hl 0 rfl) ?_
  refine lv_iconst (v := 1) F.1 F.2.1 qd_T_put_270 (by decide) ?_
  refine lv_iadd F.1 F.2.1 qd_T_put_271 ?_
  refine xp_T_top F hK w qk_89 qd_T_put_272 (fun H locs w => ?_)
  refine lv_aload_n F.1 F.2.1 qd_T_put_275 rfl (lv_at hl 1 rfl) ?_
  refine xg_T_sorts F hK w qk_90 qd_T_put_276 ?_
  refine lv_iload F.1 F.2.1 qd_T_put_279 (lv_at hl 0 rfl) ?_
  refine lv_iload_n F.1 F.2.1 qd_T_put_281 rfl (lv_at hl 2 rfl) ?_
  obtain ⟨hi1, hM⟩ := qck_ok hM
  refine xs_T_sorts F hK w hi1 qd_T_put_282 (fun H locs w => ?_)
  refine lv_aload_n F.1 F.2.1 qd_T_put_283 rfl (lv_at hl 1 rfl) ?_
  refine xg_T_owners F hK w qk_91 qd_T_put_284 ?_
  refine lv_iload F.1 F.2.1 qd_T_put_287 (lv_at hl 0 rfl) ?_
  refine lv_iload_n F.1 F.2.1 qd_T_put_289 rfl (lv_at hl 3 rfl) ?_
  obtain ⟨hi2, hM⟩ := qck_ok hM
  refine xs_T_owners F hK w hi2 qd_T_put_290 (fun H locs w => ?_)
  refine lv_aload_n F.1 F.2.1 qd_T_put_291 rfl (lv_at hl 1 rfl) ?_
  refine xg_T_firsts F hK w qk_92 qd_T_put_292 ?_
  refine lv_iload F.1 F.2.1 qd_T_put_295 (lv_at hl 0 rfl) ?_
  refine lv_iload_n F.1 F.2.1 qd_T_put_297 rfl (lv_at hl 4 rfl) ?_
  obtain ⟨hi3, hM⟩ := qck_ok hM
  refine xs_T_firsts F hK w hi3 qd_T_put_298 (fun H locs w => ?_)
  refine lv_aload_n F.1 F.2.1 qd_T_put_299 rfl (lv_at hl 1 rfl) ?_
  refine xg_T_seconds F hK w qk_93 qd_T_put_300 ?_
  refine lv_iload F.1 F.2.1 qd_T_put_303 (lv_at hl 0 rfl) ?_
  refine lv_iload F.1 F.2.1 qd_T_put_305 (lv_at hl 5 rfl) ?_
  obtain ⟨hi4, hM⟩ := qck_ok hM
  refine xs_T_seconds F hK w hi4 qd_T_put_307 (fun H locs w => ?_)
  refine lv_aload_n F.1 F.2.1 qd_T_put_308 rfl (lv_at hl 1 rfl) ?_
  refine xg_T_depths F hK w qk_94 qd_T_put_309 ?_
  refine lv_iload F.1 F.2.1 qd_T_put_312 (lv_at hl 0 rfl) ?_
  refine lv_iload F.1 F.2.1 qd_T_put_314 (lv_at hl 6 rfl) ?_
  obtain ⟨hi5, hM⟩ := qck_ok hM
  refine xs_T_depths F hK w hi5 qd_T_put_316 (fun H locs w => ?_)
  refine lv_aload_n F.1 F.2.1 qd_T_put_317 rfl (lv_at hl 1 rfl) ?_
  refine xg_T_insides F hK w qk_95 qd_T_put_318 ?_
  refine lv_iload F.1 F.2.1 qd_T_put_321 (lv_at hl 0 rfl) ?_
  refine lv_iload F.1 F.2.1 qd_T_put_323 (lv_at hl 7 rfl) ?_
  obtain ⟨hi6, hM⟩ := qck_ok hM
  refine xs_T_insides F hK w hi6 qd_T_put_325 (fun H locs w => ?_)
  refine lv_aload_n F.1 F.2.1 qd_T_put_326 rfl (lv_at hl 1 rfl) ?_
  refine xg_T_ups F hK w qk_96 qd_T_put_327 ?_
  refine lv_iload F.1 F.2.1 qd_T_put_330 (lv_at hl 0 rfl) ?_
  refine lv_iconst (v := (-1)) F.1 F.2.1 qd_T_put_332 (by decide) ?_
  obtain ⟨hi7, hM⟩ := qck_ok hM
  refine xs_T_ups F hK w hi7 qd_T_put_333 (fun H locs w => ?_)
  refine lv_aload_n F.1 F.2.1 qd_T_put_334 rfl (lv_at hl 1 rfl) ?_
  refine xg_T_lows F hK w qk_97 qd_T_put_335 ?_
  refine lv_iload F.1 F.2.1 qd_T_put_338 (lv_at hl 0 rfl) ?_
  refine lv_iconst (v := (-1)) F.1 F.2.1 qd_T_put_340 (by decide) ?_
  obtain ⟨hi8, hM⟩ := qck_ok hM
  refine xs_T_lows F hK w hi8 qd_T_put_341 (fun H locs w => ?_)
  refine lv_iload F.1 F.2.1 qd_T_put_342 (lv_at hl 0 rfl) ?_
  cases hM
  exact hQ _ _ _ _ qd_T_put_344 w
set_option maxRecDepth 100000 in
set_option maxHeartbeats 4000000 in
theorem t_T_put_214 {p : Program} {l : Launch} {e : Env} {R : Room} {s : State} {m : MethodId} {args : Array Value} {below : List Frame} {meth : Method} {c : Code} {Q : State → Prop} {D : va_G} {ad : Nat → Nat} {cI : ClassId} {A : Nat → Prop} (F : CallFix p m c qb_T_put 10 s args qtb "CaptureSubtypes$Types") (hR : 1 ≤ R.frames ∧ 40 ≤ R.locals) (hK : va_K D qcl [(cI, .int)] s) (hN : qnests xns s) (hA : ∀ q, s.heap.size ≤ q → A q) {res : (Int32 × (Nat → Nat → Int32))} (hQ : ∀ (H : Heap) (locs : List Loc) (pc : Nat) (ls : Array Slot), decode qb_T_put pc = .ok (.ireturn, 1) → xW D ad cI A s.heap res.2 H locs → W p l e R s m args below meth c H locs 0 0 Q (F0 m pc ls [.int res.1])) (S : (Nat → Nat → Int32)) (v1 v2 v3 v4 v5 v7 v8 : Int32) (hM : f_T_put_214 S v1 v2 v3 v4 v5 v7 v8 = some res) {H : Heap} {locs : List Loc} {ls : Array Slot} (w : xW D ad cI A s.heap S H locs) (hl : lv_has ls 10 [(0, .ref (ad 2)), (1, .int v1), (2, .int v2), (3, .int v3), (4, .int v4), (5, .int v5), (7, .int v7), (8, .int v8)]) : W p l e R s m args below meth c H locs 0 0 Q (F0 m 214 ls []) := by
  unfold f_T_put_214 at hM
  refine lv_aload_n F.1 F.2.1 qd_T_put_214 rfl (lv_at hl 0 rfl) ?_
  refine xg_T_top F hK w qk_89 qd_T_put_215 ?_
  refine lv_if_lt (tgt := 240) F.1 F.2.1 qd_T_put_218 (by decide) (fun hc1 => ?_) (fun hc1 => ?_)
  · rw [if_pos hc1] at hM
    refine lv_bipush (v := (-3)) F.1 F.2.1 qd_T_put_240 (by decide) ?_
    cases hM
    exact hQ _ _ _ _ qd_T_put_242 w
  · rw [if_neg hc1] at hM
    refine lv_aload_n F.1 F.2.1 qd_T_put_221 rfl (lv_at hl 0 rfl) ?_
    refine xg_T_top F hK w qk_89 qd_T_put_222 ?_
    refine lv_sipush (v := 1024) F.1 F.2.1 qd_T_put_225 (by decide) ?_
    refine lv_icmp_ge (tgt := 240) F.1 F.2.1 qd_T_put_228 (by decide) (fun hc2 => ?_) (fun hc2 => ?_)
    · rw [if_pos hc2] at hM
      refine lv_bipush (v := (-3)) F.1 F.2.1 qd_T_put_240 (by decide) ?_
      cases hM
      exact hQ _ _ _ _ qd_T_put_242 w
    · rw [if_neg hc2] at hM
      refine lv_aload_n F.1 F.2.1 qd_T_put_231 rfl (lv_at hl 0 rfl) ?_
      refine xg_T_top F hK w qk_89 qd_T_put_232 ?_
      refine lv_iload F.1 F.2.1 qd_T_put_235 (lv_at hl 5 rfl) ?_
      refine lv_icmp_lt (tgt := 243) F.1 F.2.1 qd_T_put_237 (by decide) (fun hc3 => ?_) (fun hc3 => ?_)
      · rw [if_pos hc3] at hM
        refine lv_iload F.1 F.2.1 qd_T_put_243 (lv_at hl 5 rfl) ?_
        refine lv_sipush (v := 150) F.1 F.2.1 qd_T_put_245 (by decide) ?_
        refine lv_icmp_ne (tgt := 261) F.1 F.2.1 qd_T_put_248 (by decide) (fun hc4 => ?_) (fun hc4 => ?_)
        · rw [if_neg hc4] at hM
          exact t_T_put_261 F hR hK hN hA hQ  _ _ _ _ _ _ _ hM w (lv_sub hl [0, 1, 2, 3, 4, 6, 7] rfl)
        · rw [if_pos hc4] at hM
          refine lv_iload F.1 F.2.1 qd_T_put_251 (lv_at hl 6 rfl) ?_
          refine lv_bipush (v := 6) F.1 F.2.1 qd_T_put_253 (by decide) ?_
          refine lv_icmp_le (tgt := 261) F.1 F.2.1 qd_T_put_255 (by decide) (fun hc5 => ?_) (fun hc5 => ?_)
          · rw [if_pos hc5] at hM
            exact t_T_put_261 F hR hK hN hA hQ  _ _ _ _ _ _ _ hM w (lv_sub hl [0, 1, 2, 3, 4, 6, 7] rfl)
          · rw [if_neg hc5] at hM
            refine lv_bipush (v := (-4)) F.1 F.2.1 qd_T_put_258 (by decide) ?_
            cases hM
            exact hQ _ _ _ _ qd_T_put_260 w
      · rw [if_neg hc3] at hM
        refine lv_bipush (v := (-3)) F.1 F.2.1 qd_T_put_240 (by decide) ?_
        cases hM
        exact hQ _ _ _ _ qd_T_put_242 w
set_option maxRecDepth 100000 in
set_option maxHeartbeats 4000000 in
theorem t_T_put_167 {p : Program} {l : Launch} {e : Env} {R : Room} {s : State} {m : MethodId} {args : Array Value} {below : List Frame} {meth : Method} {c : Code} {Q : State → Prop} {D : va_G} {ad : Nat → Nat} {cI : ClassId} {A : Nat → Prop} (F : CallFix p m c qb_T_put 10 s args qtb "CaptureSubtypes$Types") (hR : 1 ≤ R.frames ∧ 40 ≤ R.locals) (hK : va_K D qcl [(cI, .int)] s) (hN : qnests xns s) (hA : ∀ q, s.heap.size ≤ q → A q) {res : (Int32 × (Nat → Nat → Int32))} (hQ : ∀ (H : Heap) (locs : List Loc) (pc : Nat) (ls : Array Slot), decode qb_T_put pc = .ok (.ireturn, 1) → xW D ad cI A s.heap res.2 H locs → W p l e R s m args below meth c H locs 0 0 Q (F0 m pc ls [.int res.1])) (S : (Nat → Nat → Int32)) (v1 v2 v3 v4 v5 v6 v7 v8 : Int32) (hM : f_T_put_167 S v1 v2 v3 v4 v5 v6 v7 v8 = some res) {H : Heap} {locs : List Loc} {ls : Array Slot} (w : xW D ad cI A s.heap S H locs) (hl : lv_has ls 10 [(0, .ref (ad 2)), (1, .int v1), (2, .int v2), (3, .int v3), (4, .int v4), (5, .int v5), (6, .int v6), (7, .int v7), (8, .int v8)]) : W p l e R s m args below meth c H locs 0 0 Q (F0 m 167 ls []) := by
  unfold f_T_put_167 at hM
  refine lv_iload F.1 F.2.1 qd_T_put_167 (lv_at hl 6 rfl) ?_
  refine lv_if_eq (tgt := 214) F.1 F.2.1 qd_T_put_169 (by decide) (fun hc1 => ?_) (fun hc1 => ?_)
  · rw [if_pos hc1] at hM
    exact t_T_put_214 F hR hK hN hA hQ  _ _ _ _ _ _ _ _ hM w (lv_sub hl [0, 1, 2, 3, 4, 5, 7, 8] rfl)
  · rw [if_neg hc1] at hM
    refine lv_iload F.1 F.2.1 qd_T_put_172 (lv_at hl 4 rfl) ?_
    refine lv_if_lt (tgt := 214) F.1 F.2.1 qd_T_put_174 (by decide) (fun hc2 => ?_) (fun hc2 => ?_)
    · rw [if_pos hc2] at hM
      exact t_T_put_214 F hR hK hN hA hQ  _ _ _ _ _ _ _ _ hM w (lv_sub hl [0, 1, 2, 3, 4, 5, 7, 8] rfl)
    · rw [if_neg hc2] at hM
      refine lv_iload F.1 F.2.1 qd_T_put_177 (lv_at hl 4 rfl) ?_
      refine lv_aload_n F.1 F.2.1 qd_T_put_179 rfl (lv_at hl 0 rfl) ?_
      refine xg_T_top F hK w qk_89 qd_T_put_180 ?_
      refine lv_icmp_ge (tgt := 214) F.1 F.2.1 qd_T_put_183 (by decide) (fun hc3 => ?_) (fun hc3 => ?_)
      · rw [if_pos hc3] at hM
        exact t_T_put_214 F hR hK hN hA hQ  _ _ _ _ _ _ _ _ hM w (lv_sub hl [0, 1, 2, 3, 4, 5, 7, 8] rfl)
      · rw [if_neg hc3] at hM
        refine lv_iload F.1 F.2.1 qd_T_put_186 (lv_at hl 7 rfl) ?_
        refine lv_iconst (v := 1) F.1 F.2.1 qd_T_put_188 (by decide) ?_
        refine lv_aload_n F.1 F.2.1 qd_T_put_189 rfl (lv_at hl 0 rfl) ?_
        refine xg_T_depths F hK w qk_94 qd_T_put_190 ?_
        refine lv_iload F.1 F.2.1 qd_T_put_193 (lv_at hl 4 rfl) ?_
        obtain ⟨hi4, hM⟩ := qck_ok hM
        refine xl_T_depths F hK w hi4 qd_T_put_195 ?_
        refine lv_iadd F.1 F.2.1 qd_T_put_196 ?_
        refine q_max F hl.1 qk_84 qk_85 qk_4 qk_86 ⟨Nat.le_trans (by decide) hR.1, Nat.le_trans (by decide) hR.2⟩ (Nat.le_of_ble_eq_true rfl) qd_T_put_197 ?_
        refine lv_istore (lv' := [(7, .int (qmax v7 ((1 : Int32) + (S 16 v4.toNatClampNeg)))), (0, .ref (ad 2)), (1, .int v1), (2, .int v2), (3, .int v3), (4, .int v4), (5, .int v5), (6, .int v6), (8, .int v8)]) F.1 F.2.1 qd_T_put_200 hl (by decide) rfl (fun ls hl => ?_)
        refine lv_iload F.1 F.2.1 qd_T_put_202 (lv_at hl 8 rfl) ?_
        refine lv_aload_n F.1 F.2.1 qd_T_put_204 rfl (lv_at hl 1 rfl) ?_
        refine xg_T_insides F hK w qk_95 qd_T_put_205 ?_
        refine lv_iload F.1 F.2.1 qd_T_put_208 (lv_at hl 5 rfl) ?_
        obtain ⟨hi5, hM⟩ := qck_ok hM
        refine xl_T_insides F hK w hi5 qd_T_put_210 ?_
        refine lv_ior F.1 F.2.1 qd_T_put_211 ?_
        refine lv_istore (lv' := [(8, .int (v8 ||| (S 17 v4.toNatClampNeg))), (7, .int (qmax v7 ((1 : Int32) + (S 16 v4.toNatClampNeg)))), (0, .ref (ad 2)), (1, .int v1), (2, .int v2), (3, .int v3), (4, .int v4), (5, .int v5), (6, .int v6)]) F.1 F.2.1 qd_T_put_212 hl (by decide) rfl (fun ls hl => ?_)
        exact t_T_put_214 F hR hK hN hA hQ  _ _ _ _ _ _ _ _ hM w (lv_sub hl [2, 3, 4, 5, 6, 7, 1, 0] rfl)
set_option maxRecDepth 100000 in
set_option maxHeartbeats 4000000 in
theorem t_T_put_127 {p : Program} {l : Launch} {e : Env} {R : Room} {s : State} {m : MethodId} {args : Array Value} {below : List Frame} {meth : Method} {c : Code} {Q : State → Prop} {D : va_G} {ad : Nat → Nat} {cI : ClassId} {A : Nat → Prop} (F : CallFix p m c qb_T_put 10 s args qtb "CaptureSubtypes$Types") (hR : 1 ≤ R.frames ∧ 40 ≤ R.locals) (hK : va_K D qcl [(cI, .int)] s) (hN : qnests xns s) (hA : ∀ q, s.heap.size ≤ q → A q) {res : (Int32 × (Nat → Nat → Int32))} (hQ : ∀ (H : Heap) (locs : List Loc) (pc : Nat) (ls : Array Slot), decode qb_T_put pc = .ok (.ireturn, 1) → xW D ad cI A s.heap res.2 H locs → W p l e R s m args below meth c H locs 0 0 Q (F0 m pc ls [.int res.1])) (S : (Nat → Nat → Int32)) (v1 v2 v3 v4 v5 v6 v7 s1 : Int32) (hM : f_T_put_127 S v1 v2 v3 v4 v5 v6 v7 s1 = some res) {H : Heap} {locs : List Loc} {ls : Array Slot} (w : xW D ad cI A s.heap S H locs) (hl : lv_has ls 10 [(0, .ref (ad 2)), (1, .int v1), (2, .int v2), (3, .int v3), (4, .int v4), (5, .int v5), (6, .int v6), (7, .int v7)]) : W p l e R s m args below meth c H locs 0 0 Q (F0 m 127 ls [.int s1]) := by
  unfold f_T_put_127 at hM
  refine lv_istore (lv' := [(8, .int s1), (0, .ref (ad 2)), (1, .int v1), (2, .int v2), (3, .int v3), (4, .int v4), (5, .int v5), (6, .int v6), (7, .int v7)]) F.1 F.2.1 qd_T_put_127 hl (by decide) rfl (fun ls hl => ?_)
  refine lv_iload F.1 F.2.1 qd_T_put_129 (lv_at hl 7 rfl) ?_
  refine lv_if_eq (tgt := 167) F.1 F.2.1 qd_T_put_131 (by decide) (fun hc1 => ?_) (fun hc1 => ?_)
  · rw [if_pos hc1] at hM
    exact t_T_put_167 F hR hK hN hA hQ  _ _ _ _ _ _ _ _ _ hM w (lv_sub hl [1, 2, 3, 4, 5, 6, 7, 8, 0] rfl)
  · rw [if_neg hc1] at hM
    refine lv_iload_n F.1 F.2.1 qd_T_put_134 rfl (lv_at hl 4 rfl) ?_
    refine lv_if_lt (tgt := 167) F.1 F.2.1 qd_T_put_135 (by decide) (fun hc2 => ?_) (fun hc2 => ?_)
    · rw [if_pos hc2] at hM
      exact t_T_put_167 F hR hK hN hA hQ  _ _ _ _ _ _ _ _ _ hM w (lv_sub hl [1, 2, 3, 4, 5, 6, 7, 8, 0] rfl)
    · rw [if_neg hc2] at hM
      refine lv_iload_n F.1 F.2.1 qd_T_put_138 rfl (lv_at hl 4 rfl) ?_
      refine lv_aload_n F.1 F.2.1 qd_T_put_139 rfl (lv_at hl 1 rfl) ?_
      refine xg_T_top F hK w qk_89 qd_T_put_140 ?_
      refine lv_icmp_ge (tgt := 167) F.1 F.2.1 qd_T_put_143 (by decide) (fun hc3 => ?_) (fun hc3 => ?_)
      · rw [if_pos hc3] at hM
        exact t_T_put_167 F hR hK hN hA hQ  _ _ _ _ _ _ _ _ _ hM w (lv_sub hl [1, 2, 3, 4, 5, 6, 7, 8, 0] rfl)
      · rw [if_neg hc3] at hM
        refine lv_iconst (v := 1) F.1 F.2.1 qd_T_put_146 (by decide) ?_
        refine lv_aload_n F.1 F.2.1 qd_T_put_147 rfl (lv_at hl 1 rfl) ?_
        refine xg_T_depths F hK w qk_94 qd_T_put_148 ?_
        refine lv_iload_n F.1 F.2.1 qd_T_put_151 rfl (lv_at hl 4 rfl) ?_
        obtain ⟨hi4, hM⟩ := qck_ok hM
        refine xl_T_depths F hK w hi4 qd_T_put_152 ?_
        refine lv_iadd F.1 F.2.1 qd_T_put_153 ?_
        refine lv_istore (lv' := [(7, .int ((1 : Int32) + (S 16 v3.toNatClampNeg))), (8, .int s1), (0, .ref (ad 2)), (1, .int v1), (2, .int v2), (3, .int v3), (4, .int v4), (5, .int v5), (6, .int v6)]) F.1 F.2.1 qd_T_put_154 hl (by decide) rfl (fun ls hl => ?_)
        refine lv_iload F.1 F.2.1 qd_T_put_156 (lv_at hl 1 rfl) ?_
        refine lv_aload_n F.1 F.2.1 qd_T_put_158 rfl (lv_at hl 2 rfl) ?_
        refine xg_T_insides F hK w qk_95 qd_T_put_159 ?_
        refine lv_iload_n F.1 F.2.1 qd_T_put_162 rfl (lv_at hl 5 rfl) ?_
        obtain ⟨hi5, hM⟩ := qck_ok hM
        refine xl_T_insides F hK w hi5 qd_T_put_163 ?_
        refine lv_ior F.1 F.2.1 qd_T_put_164 ?_
        refine lv_istore (lv' := [(8, .int (s1 ||| (S 17 v3.toNatClampNeg))), (7, .int ((1 : Int32) + (S 16 v3.toNatClampNeg))), (0, .ref (ad 2)), (1, .int v1), (2, .int v2), (3, .int v3), (4, .int v4), (5, .int v5), (6, .int v6)]) F.1 F.2.1 qd_T_put_165 hl (by decide) rfl (fun ls hl => ?_)
        exact t_T_put_167 F hR hK hN hA hQ  _ _ _ _ _ _ _ _ _ hM w (lv_sub hl [2, 3, 4, 5, 6, 7, 8, 1, 0] rfl)
set_option maxRecDepth 100000 in
set_option maxHeartbeats 4000000 in
theorem t_T_put_99 {p : Program} {l : Launch} {e : Env} {R : Room} {s : State} {m : MethodId} {args : Array Value} {below : List Frame} {meth : Method} {c : Code} {Q : State → Prop} {D : va_G} {ad : Nat → Nat} {cI : ClassId} {A : Nat → Prop} (F : CallFix p m c qb_T_put 10 s args qtb "CaptureSubtypes$Types") (hR : 1 ≤ R.frames ∧ 40 ≤ R.locals) (hK : va_K D qcl [(cI, .int)] s) (hN : qnests xns s) (hA : ∀ q, s.heap.size ≤ q → A q) {res : (Int32 × (Nat → Nat → Int32))} (hQ : ∀ (H : Heap) (locs : List Loc) (pc : Nat) (ls : Array Slot), decode qb_T_put pc = .ok (.ireturn, 1) → xW D ad cI A s.heap res.2 H locs → W p l e R s m args below meth c H locs 0 0 Q (F0 m pc ls [.int res.1])) (S : (Nat → Nat → Int32)) (v1 v2 v3 v4 v5 s1 : Int32) (hM : f_T_put_99 S v1 v2 v3 v4 v5 s1 = some res) {H : Heap} {locs : List Loc} {ls : Array Slot} (w : xW D ad cI A s.heap S H locs) (hl : lv_has ls 10 [(0, .ref (ad 2)), (1, .int v1), (2, .int v2), (3, .int v3), (4, .int v4), (5, .int v5)]) : W p l e R s m args below meth c H locs 0 0 Q (F0 m 99 ls [.int s1]) := by
  unfold f_T_put_99 at hM
  refine lv_istore (lv' := [(6, .int s1), (0, .ref (ad 2)), (1, .int v1), (2, .int v2), (3, .int v3), (4, .int v4), (5, .int v5)]) F.1 F.2.1 qd_T_put_99 hl (by decide) rfl (fun ls hl => ?_)
  refine lv_iconst (v := 1) F.1 F.2.1 qd_T_put_101 (by decide) ?_
  refine lv_istore (lv' := [(7, .int (1 : Int32)), (6, .int s1), (0, .ref (ad 2)), (1, .int v1), (2, .int v2), (3, .int v3), (4, .int v4), (5, .int v5)]) F.1 F.2.1 qd_T_put_102 hl (by decide) rfl (fun ls hl => ?_)
  refine lv_iload_n F.1 F.2.1 qd_T_put_104 rfl (lv_at hl 3 rfl) ?_
  refine lv_iconst (v := 3) F.1 F.2.1 qd_T_put_105 (by decide) ?_
  refine lv_icmp_ne (tgt := 115) F.1 F.2.1 qd_T_put_106 (by decide) (fun hc1 => ?_) (fun hc1 => ?_)
  · rw [if_neg hc1] at hM
    refine lv_iload_n F.1 F.2.1 qd_T_put_115 rfl (lv_at hl 3 rfl) ?_
    refine lv_iconst (v := 5) F.1 F.2.1 qd_T_put_116 (by decide) ?_
    refine lv_icmp_ne (tgt := 126) F.1 F.2.1 qd_T_put_117 (by decide) (fun hc2 => ?_) (fun hc2 => ?_)
    · rw [if_neg hc2] at hM
      refine lv_iconst (v := 0) F.1 F.2.1 qd_T_put_126 (by decide) ?_
      exact t_T_put_127 F hR hK hN hA hQ  _ _ _ _ _ _ _ _ _ hM w (lv_sub hl [2, 3, 4, 5, 6, 7, 1, 0] rfl)
    · rw [if_pos hc2] at hM
      refine lv_sipush (v := 4096) F.1 F.2.1 qd_T_put_120 (by decide) ?_
      refine lv_goto (tgt := 127) F.1 F.2.1 qd_T_put_123 (by decide) ?_
      exact t_T_put_127 F hR hK hN hA hQ  _ _ _ _ _ _ _ _ _ hM w (lv_sub hl [2, 3, 4, 5, 6, 7, 1, 0] rfl)
  · rw [if_pos hc1] at hM
    refine lv_iconst (v := 1) F.1 F.2.1 qd_T_put_109 (by decide) ?_
    refine lv_iload_n F.1 F.2.1 qd_T_put_110 rfl (lv_at hl 4 rfl) ?_
    refine lv_ishl F.1 F.2.1 qd_T_put_111 ?_
    refine lv_goto (tgt := 127) F.1 F.2.1 qd_T_put_112 (by decide) ?_
    exact t_T_put_127 F hR hK hN hA hQ  _ _ _ _ _ _ _ _ _ hM w (lv_sub hl [2, 3, 4, 5, 6, 7, 1, 0] rfl)
set_option maxRecDepth 100000 in
set_option maxHeartbeats 4000000 in
theorem t_T_put_94 {p : Program} {l : Launch} {e : Env} {R : Room} {s : State} {m : MethodId} {args : Array Value} {below : List Frame} {meth : Method} {c : Code} {Q : State → Prop} {D : va_G} {ad : Nat → Nat} {cI : ClassId} {A : Nat → Prop} (F : CallFix p m c qb_T_put 10 s args qtb "CaptureSubtypes$Types") (hR : 1 ≤ R.frames ∧ 40 ≤ R.locals) (hK : va_K D qcl [(cI, .int)] s) (hN : qnests xns s) (hA : ∀ q, s.heap.size ≤ q → A q) {res : (Int32 × (Nat → Nat → Int32))} (hQ : ∀ (H : Heap) (locs : List Loc) (pc : Nat) (ls : Array Slot), decode qb_T_put pc = .ok (.ireturn, 1) → xW D ad cI A s.heap res.2 H locs → W p l e R s m args below meth c H locs 0 0 Q (F0 m pc ls [.int res.1])) (S : (Nat → Nat → Int32)) (v1 v2 v3 v4 v5 : Int32) (hM : f_T_put_94 S v1 v2 v3 v4 v5 = some res) {H : Heap} {locs : List Loc} {ls : Array Slot} (w : xW D ad cI A s.heap S H locs) (hl : lv_has ls 10 [(0, .ref (ad 2)), (1, .int v1), (2, .int v2), (3, .int v3), (4, .int v4), (5, .int v5)]) : W p l e R s m args below meth c H locs 0 0 Q (F0 m 94 ls []) := by
  unfold f_T_put_94 at hM
  refine lv_iconst (v := 1) F.1 F.2.1 qd_T_put_94 (by decide) ?_
  refine lv_goto (tgt := 99) F.1 F.2.1 qd_T_put_95 (by decide) ?_
  exact t_T_put_99 F hR hK hN hA hQ  _ _ _ _ _ _ _ hM w (lv_sub hl [0, 1, 2, 3, 4, 5] rfl)
set_option maxRecDepth 100000 in
set_option maxHeartbeats 4000000 in
theorem tb_T_put_16 {p : Program} {l : Launch} {e : Env} {R : Room} {s : State} {m : MethodId} {args : Array Value} {below : List Frame} {meth : Method} {c : Code} {Q : State → Prop} {D : va_G} {ad : Nat → Nat} {cI : ClassId} {A : Nat → Prop} (F : CallFix p m c qb_T_put 10 s args qtb "CaptureSubtypes$Types") (hR : 1 ≤ R.frames ∧ 40 ≤ R.locals) (hK : va_K D qcl [(cI, .int)] s) (hN : qnests xns s) (hA : ∀ q, s.heap.size ≤ q → A q) {res : (Int32 × (Nat → Nat → Int32))} (hQ : ∀ (H : Heap) (locs : List Loc) (pc : Nat) (ls : Array Slot), decode qb_T_put pc = .ok (.ireturn, 1) → xW D ad cI A s.heap res.2 H locs → W p l e R s m args below meth c H locs 0 0 Q (F0 m pc ls [.int res.1])) {k_16 : (Nat → Nat → Int32) → Int32 → Int32 → Int32 → Int32 → Int32 → Int32 → Option (Int32 × (Nat → Nat → Int32))} (hk_16 : ∀ (S : Nat → Nat → Int32) (v1 v2 v3 v4 v5 v6 : Int32), k_16 S v1 v2 v3 v4 v5 v6 = some res → ∀ {H : Heap} {locs : List Loc} {ls : Array Slot}, xW D ad cI A s.heap S H locs → lv_has ls 10 [(0, .ref (ad 2)), (1, .int v1), (2, .int v2), (3, .int v3), (4, .int v4), (5, .int v5), (6, .int v6)] → W p l e R s m args below meth c H locs 0 0 Q (F0 m 16 ls [])) (S : (Nat → Nat → Int32)) (v1 v2 v3 v4 v5 v6 : Int32) (hM : fb_T_put_16 k_16 S v1 v2 v3 v4 v5 v6 = some res) {H : Heap} {locs : List Loc} {ls : Array Slot} (w : xW D ad cI A s.heap S H locs) (hl : lv_has ls 10 [(0, .ref (ad 2)), (1, .int v1), (2, .int v2), (3, .int v3), (4, .int v4), (5, .int v5), (6, .int v6)]) : W p l e R s m args below meth c H locs 0 0 Q (F0 m 16 ls []) := by
  unfold fb_T_put_16 at hM
  refine lv_iload F.1 F.2.1 qd_T_put_16 (lv_at hl 6 rfl) ?_
  refine lv_aload_n F.1 F.2.1 qd_T_put_18 rfl (lv_at hl 0 rfl) ?_
  refine xg_T_top F hK w qk_89 qd_T_put_19 ?_
  refine lv_icmp_ge (tgt := 79) F.1 F.2.1 qd_T_put_22 (by decide) (fun hc1 => ?_) (fun hc1 => ?_)
  · rw [if_pos hc1] at hM
    refine lv_iload_n F.1 F.2.1 qd_T_put_79 rfl (lv_at hl 1 rfl) ?_
    refine lv_iconst (v := 2) F.1 F.2.1 qd_T_put_80 (by decide) ?_
    refine lv_icmp_eq (tgt := 94) F.1 F.2.1 qd_T_put_81 (by decide) (fun hc2 => ?_) (fun hc2 => ?_)
    · rw [if_pos hc2] at hM
      exact t_T_put_94 F hR hK hN hA hQ  _ _ _ _ _ _ hM w (lv_sub hl [0, 1, 2, 3, 4, 5] rfl)
    · rw [if_neg hc2] at hM
      refine lv_iload_n F.1 F.2.1 qd_T_put_84 rfl (lv_at hl 1 rfl) ?_
      refine lv_iconst (v := 4) F.1 F.2.1 qd_T_put_85 (by decide) ?_
      refine lv_icmp_eq (tgt := 94) F.1 F.2.1 qd_T_put_86 (by decide) (fun hc3 => ?_) (fun hc3 => ?_)
      · rw [if_pos hc3] at hM
        exact t_T_put_94 F hR hK hN hA hQ  _ _ _ _ _ _ hM w (lv_sub hl [0, 1, 2, 3, 4, 5] rfl)
      · rw [if_neg hc3] at hM
        refine lv_iload_n F.1 F.2.1 qd_T_put_89 rfl (lv_at hl 1 rfl) ?_
        refine lv_iconst (v := 5) F.1 F.2.1 qd_T_put_90 (by decide) ?_
        refine lv_icmp_ne (tgt := 98) F.1 F.2.1 qd_T_put_91 (by decide) (fun hc4 => ?_) (fun hc4 => ?_)
        · rw [if_neg hc4] at hM
          refine lv_iconst (v := 0) F.1 F.2.1 qd_T_put_98 (by decide) ?_
          exact t_T_put_99 F hR hK hN hA hQ  _ _ _ _ _ _ _ hM w (lv_sub hl [0, 1, 2, 3, 4, 5] rfl)
        · rw [if_pos hc4] at hM
          exact t_T_put_94 F hR hK hN hA hQ  _ _ _ _ _ _ hM w (lv_sub hl [0, 1, 2, 3, 4, 5] rfl)
  · rw [if_neg hc1] at hM
    refine lv_aload_n F.1 F.2.1 qd_T_put_25 rfl (lv_at hl 0 rfl) ?_
    refine xg_T_sorts F hK w qk_90 qd_T_put_26 ?_
    refine lv_iload F.1 F.2.1 qd_T_put_29 (lv_at hl 6 rfl) ?_
    obtain ⟨hi5, hM⟩ := qck_ok hM
    refine xl_T_sorts F hK w hi5 qd_T_put_31 ?_
    refine lv_iload_n F.1 F.2.1 qd_T_put_32 rfl (lv_at hl 1 rfl) ?_
    refine lv_icmp_ne (tgt := 73) F.1 F.2.1 qd_T_put_33 (by decide) (fun hc6 => ?_) (fun hc6 => ?_)
    · rw [if_neg hc6] at hM
      refine lv_iinc (v := (v6 + (1 : Int32))) (lv' := [(6, .int (v6 + (1 : Int32))), (0, .ref (ad 2)), (1, .int v1), (2, .int v2), (3, .int v3), (4, .int v4), (5, .int v5)]) F.1 F.2.1 qd_T_put_73 hl (k := 6) rfl rfl (by decide) rfl (fun ls hl => ?_)
      refine lv_goto (tgt := 16) F.1 F.2.1 qd_T_put_76 (by decide) ?_
      exact hk_16 _ _ _ _ _ _ _ hM w (lv_sub hl [1, 2, 3, 4, 5, 6, 0] rfl)
    · rw [if_pos hc6] at hM
      refine lv_aload_n F.1 F.2.1 qd_T_put_36 rfl (lv_at hl 0 rfl) ?_
      refine xg_T_owners F hK w qk_91 qd_T_put_37 ?_
      refine lv_iload F.1 F.2.1 qd_T_put_40 (lv_at hl 6 rfl) ?_
      obtain ⟨hi7, hM⟩ := qck_ok hM
      refine xl_T_owners F hK w hi7 qd_T_put_42 ?_
      refine lv_iload_n F.1 F.2.1 qd_T_put_43 rfl (lv_at hl 2 rfl) ?_
      refine lv_icmp_ne (tgt := 73) F.1 F.2.1 qd_T_put_44 (by decide) (fun hc8 => ?_) (fun hc8 => ?_)
      · rw [if_neg hc8] at hM
        refine lv_iinc (v := (v6 + (1 : Int32))) (lv' := [(6, .int (v6 + (1 : Int32))), (0, .ref (ad 2)), (1, .int v1), (2, .int v2), (3, .int v3), (4, .int v4), (5, .int v5)]) F.1 F.2.1 qd_T_put_73 hl (k := 6) rfl rfl (by decide) rfl (fun ls hl => ?_)
        refine lv_goto (tgt := 16) F.1 F.2.1 qd_T_put_76 (by decide) ?_
        exact hk_16 _ _ _ _ _ _ _ hM w (lv_sub hl [1, 2, 3, 4, 5, 6, 0] rfl)
      · rw [if_pos hc8] at hM
        refine lv_aload_n F.1 F.2.1 qd_T_put_47 rfl (lv_at hl 0 rfl) ?_
        refine xg_T_firsts F hK w qk_92 qd_T_put_48 ?_
        refine lv_iload F.1 F.2.1 qd_T_put_51 (lv_at hl 6 rfl) ?_
        obtain ⟨hi9, hM⟩ := qck_ok hM
        refine xl_T_firsts F hK w hi9 qd_T_put_53 ?_
        refine lv_iload_n F.1 F.2.1 qd_T_put_54 rfl (lv_at hl 3 rfl) ?_
        refine lv_icmp_ne (tgt := 73) F.1 F.2.1 qd_T_put_55 (by decide) (fun hc10 => ?_) (fun hc10 => ?_)
        · rw [if_neg hc10] at hM
          refine lv_iinc (v := (v6 + (1 : Int32))) (lv' := [(6, .int (v6 + (1 : Int32))), (0, .ref (ad 2)), (1, .int v1), (2, .int v2), (3, .int v3), (4, .int v4), (5, .int v5)]) F.1 F.2.1 qd_T_put_73 hl (k := 6) rfl rfl (by decide) rfl (fun ls hl => ?_)
          refine lv_goto (tgt := 16) F.1 F.2.1 qd_T_put_76 (by decide) ?_
          exact hk_16 _ _ _ _ _ _ _ hM w (lv_sub hl [1, 2, 3, 4, 5, 6, 0] rfl)
        · rw [if_pos hc10] at hM
          refine lv_aload_n F.1 F.2.1 qd_T_put_58 rfl (lv_at hl 0 rfl) ?_
          refine xg_T_seconds F hK w qk_93 qd_T_put_59 ?_
          refine lv_iload F.1 F.2.1 qd_T_put_62 (lv_at hl 6 rfl) ?_
          obtain ⟨hi11, hM⟩ := qck_ok hM
          refine xl_T_seconds F hK w hi11 qd_T_put_64 ?_
          refine lv_iload F.1 F.2.1 qd_T_put_65 (lv_at hl 4 rfl) ?_
          refine lv_icmp_ne (tgt := 73) F.1 F.2.1 qd_T_put_67 (by decide) (fun hc12 => ?_) (fun hc12 => ?_)
          · rw [if_neg hc12] at hM
            refine lv_iinc (v := (v6 + (1 : Int32))) (lv' := [(6, .int (v6 + (1 : Int32))), (0, .ref (ad 2)), (1, .int v1), (2, .int v2), (3, .int v3), (4, .int v4), (5, .int v5)]) F.1 F.2.1 qd_T_put_73 hl (k := 6) rfl rfl (by decide) rfl (fun ls hl => ?_)
            refine lv_goto (tgt := 16) F.1 F.2.1 qd_T_put_76 (by decide) ?_
            exact hk_16 _ _ _ _ _ _ _ hM w (lv_sub hl [1, 2, 3, 4, 5, 6, 0] rfl)
          · rw [if_pos hc12] at hM
            refine lv_iload F.1 F.2.1 qd_T_put_70 (lv_at hl 6 rfl) ?_
            cases hM
            exact hQ _ _ _ _ qd_T_put_72 w
set_option maxRecDepth 100000 in
set_option maxHeartbeats 4000000 in
theorem t_T_put_16 {p : Program} {l : Launch} {e : Env} {R : Room} {s : State} {m : MethodId} {args : Array Value} {below : List Frame} {meth : Method} {c : Code} {Q : State → Prop} {D : va_G} {ad : Nat → Nat} {cI : ClassId} {A : Nat → Prop} (F : CallFix p m c qb_T_put 10 s args qtb "CaptureSubtypes$Types") (hR : 1 ≤ R.frames ∧ 40 ≤ R.locals) (hK : va_K D qcl [(cI, .int)] s) (hN : qnests xns s) (hA : ∀ q, s.heap.size ≤ q → A q) {res : (Int32 × (Nat → Nat → Int32))} (hQ : ∀ (H : Heap) (locs : List Loc) (pc : Nat) (ls : Array Slot), decode qb_T_put pc = .ok (.ireturn, 1) → xW D ad cI A s.heap res.2 H locs → W p l e R s m args below meth c H locs 0 0 Q (F0 m pc ls [.int res.1])) : ∀ (n : Nat) (S : (Nat → Nat → Int32)) (v1 v2 v3 v4 v5 v6 : Int32) (hM : f_T_put_16 n S v1 v2 v3 v4 v5 v6 = some res) {H : Heap} {locs : List Loc} {ls : Array Slot} (w : xW D ad cI A s.heap S H locs) (hl : lv_has ls 10 [(0, .ref (ad 2)), (1, .int v1), (2, .int v2), (3, .int v3), (4, .int v4), (5, .int v5), (6, .int v6)]), W p l e R s m args below meth c H locs 0 0 Q (F0 m 16 ls []) := by
  intro n
  induction n with
  | zero => intro S v1 v2 v3 v4 v5 v6 hM; exact absurd hM (by simp [f_T_put_16])
  | succ n ih => intro S v1 v2 v3 v4 v5 v6 hM H locs ls w hl; exact tb_T_put_16 F hR hK hN hA hQ (k_16 := f_T_put_16 n) (fun S v1 v2 v3 v4 v5 v6 hM H locs ls w hl => ih S v1 v2 v3 v4 v5 v6 hM w hl) S v1 v2 v3 v4 v5 v6 hM w hl
set_option maxRecDepth 100000 in
set_option maxHeartbeats 4000000 in
theorem t_T_put {p : Program} {l : Launch} {e : Env} {R : Room} {s : State} {m : MethodId} {args : Array Value} {below : List Frame} {meth : Method} {c : Code} {Q : State → Prop} {D : va_G} {ad : Nat → Nat} {cI : ClassId} {A : Nat → Prop} (F : CallFix p m c qb_T_put 10 s args qtb "CaptureSubtypes$Types") (hR : 1 ≤ R.frames ∧ 40 ≤ R.locals) (hK : va_K D qcl [(cI, .int)] s) (hN : qnests xns s) (hA : ∀ q, s.heap.size ≤ q → A q) {res : (Int32 × (Nat → Nat → Int32))} (hQ : ∀ (H : Heap) (locs : List Loc) (pc : Nat) (ls : Array Slot), decode qb_T_put pc = .ok (.ireturn, 1) → xW D ad cI A s.heap res.2 H locs → W p l e R s m args below meth c H locs 0 0 Q (F0 m pc ls [.int res.1])) (S : (Nat → Nat → Int32)) (a1 a2 a3 a4 a5 : Int32) (hM : f_T_put S a1 a2 a3 a4 a5 = some res) {H : Heap} {locs : List Loc} {ls : Array Slot} (w : xW D ad cI A s.heap S H locs) (hl : lv_has ls 10 [(0, .ref (ad 2)), (1, .int a1), (2, .int a2), (3, .int a3), (4, .int a4), (5, .int a5)]) : W p l e R s m args below meth c H locs 0 0 Q (F0 m 0 ls []) := by
  unfold f_T_put at hM
  refine lv_iload_n F.1 F.2.1 qd_T_put_0 rfl (lv_at hl 1 rfl) ?_
  refine lv_bipush (v := 8) F.1 F.2.1 qd_T_put_1 (by decide) ?_
  refine lv_icmp_ne (tgt := 13) F.1 F.2.1 qd_T_put_3 (by decide) (fun hc1 => ?_) (fun hc1 => ?_)
  · rw [if_neg hc1] at hM
    refine lv_iconst (v := 0) F.1 F.2.1 qd_T_put_13 (by decide) ?_
    refine lv_istore (lv' := [(6, .int (0 : Int32)), (0, .ref (ad 2)), (1, .int a1), (2, .int a2), (3, .int a3), (4, .int a4), (5, .int a5)]) F.1 F.2.1 qd_T_put_14 hl (by decide) rfl (fun ls hl => ?_)
    exact t_T_put_16 F hR hK hN hA hQ  qfu _ _ _ _ _ _ _ hM w (lv_sub hl [1, 2, 3, 4, 5, 6, 0] rfl)
  · rw [if_pos hc1] at hM
    refine lv_aload_n F.1 F.2.1 qd_T_put_6 rfl (lv_at hl 0 rfl) ?_
    refine xg_T_top F hK w qk_89 qd_T_put_7 ?_
    refine lv_goto (tgt := 14) F.1 F.2.1 qd_T_put_10 (by decide) ?_
    refine lv_istore (lv' := [(6, .int (S 11 0)), (0, .ref (ad 2)), (1, .int a1), (2, .int a2), (3, .int a3), (4, .int a4), (5, .int a5)]) F.1 F.2.1 qd_T_put_14 hl (by decide) rfl (fun ls hl => ?_)
    exact t_T_put_16 F hR hK hN hA hQ  qfu _ _ _ _ _ _ _ hM w (lv_sub hl [1, 2, 3, 4, 5, 6, 0] rfl)
set_option maxRecDepth 100000 in
theorem c_T_put (l : Launch) (D : va_G) (ad : Nat → Nat) (cI : ClassId) {S : (Nat → Nat → Int32)} {a1 a2 a3 a4 a5 : Int32} {res : (Int32 × (Nat → Nat → Int32))} (hM : f_T_put S a1 a2 a3 a4 a5 = some res) : xMi l qy_T_put qb_T_put 10 (some .int) { frames := 1, cells := 0, slots := 0, locals := 40 } D ad cI S [.ref (ad 2), .int a1, .int a2, .int a3, .int a4, .int a5] res.1 res.2 := x_ofi (by decide +kernel) (Nat.le_of_ble_eq_true rfl) (fun p e s m args below meth c Q A ls F hK hN hA w hl hQ => t_T_put F ⟨Nat.le_refl _, Nat.le_refl _⟩ hK hN hA hQ S a1 a2 a3 a4 a5 hM w hl)
-- T_keep
def f_T_keep (S : (Nat → Nat → Int32)) (a1 a2 a3 a4 : Int32) : Option (Int32 × (Nat → Nat → Int32)) := (f_T_put S a1 a2 a3 a4 (150 : Int32)).bind (fun q1 => if q1.1 < (q1.2 10 0) then (some (q1.1, q1.2)) else (some (q1.1, (qwr q1.2 10 0 (q1.1 + (1 : Int32))))))
set_option maxRecDepth 100000 in
set_option maxHeartbeats 4000000 in
theorem t_T_keep {p : Program} {l : Launch} {e : Env} {R : Room} {s : State} {m : MethodId} {args : Array Value} {below : List Frame} {meth : Method} {c : Code} {Q : State → Prop} {D : va_G} {ad : Nat → Nat} {cI : ClassId} {A : Nat → Prop} (F : CallFix p m c qb_T_keep 6 s args qtb "CaptureSubtypes$Types") (hR : 2 ≤ R.frames ∧ 69 ≤ R.locals) (hK : va_K D qcl [(cI, .int)] s) (hN : qnests xns s) (hA : ∀ q, s.heap.size ≤ q → A q) {res : (Int32 × (Nat → Nat → Int32))} (hQ : ∀ (H : Heap) (locs : List Loc) (pc : Nat) (ls : Array Slot), decode qb_T_keep pc = .ok (.ireturn, 1) → xW D ad cI A s.heap res.2 H locs → W p l e R s m args below meth c H locs 0 0 Q (F0 m pc ls [.int res.1])) (S : (Nat → Nat → Int32)) (a1 a2 a3 a4 : Int32) (hM : f_T_keep S a1 a2 a3 a4 = some res) {H : Heap} {locs : List Loc} {ls : Array Slot} (w : xW D ad cI A s.heap S H locs) (hl : lv_has ls 6 [(0, .ref (ad 2)), (1, .int a1), (2, .int a2), (3, .int a3), (4, .int a4)]) : W p l e R s m args below meth c H locs 0 0 Q (F0 m 0 ls []) := by
  unfold f_T_keep at hM
  refine lv_aload_n F.1 F.2.1 qd_T_keep_0 rfl (lv_at hl 0 rfl) ?_
  refine lv_iload_n F.1 F.2.1 qd_T_keep_1 rfl (lv_at hl 1 rfl) ?_
  refine lv_iload_n F.1 F.2.1 qd_T_keep_2 rfl (lv_at hl 2 rfl) ?_
  refine lv_iload_n F.1 F.2.1 qd_T_keep_3 rfl (lv_at hl 3 rfl) ?_
  refine lv_iload F.1 F.2.1 qd_T_keep_4 (lv_at hl 4 rfl) ?_
  refine lv_sipush (v := 150) F.1 F.2.1 qd_T_keep_6 (by decide) ?_
  obtain ⟨q1, hq2, hM⟩ := qbd hM
  refine x_calli F hK hN hA w (c_T_put l D ad cI hq2) qk_80 qk_81 qk_82 qk_3 qk_83 qv_T_put rfl rfl ⟨Nat.le_trans (by decide) hR.1, Nat.le_trans (by decide) hR.2⟩ (ci := 1) rfl (j := 2) rfl hl.1 rfl (Nat.le_of_ble_eq_true rfl) qd_T_keep_9 (fun H locs w => ?_)
  refine lv_istore (lv' := [(5, .int q1.1), (0, .ref (ad 2)), (1, .int a1), (2, .int a2), (3, .int a3), (4, .int a4)]) F.1 F.2.1 qd_T_keep_12 hl (by decide) rfl (fun ls hl => ?_)
  refine lv_iload F.1 F.2.1 qd_T_keep_14 (lv_at hl 0 rfl) ?_
  refine lv_aload_n F.1 F.2.1 qd_T_keep_16 rfl (lv_at hl 1 rfl) ?_
  refine xg_T_kept F hK w qk_87 qd_T_keep_17 ?_
  refine lv_icmp_lt (tgt := 31) F.1 F.2.1 qd_T_keep_20 (by decide) (fun hc3 => ?_) (fun hc3 => ?_)
  · rw [if_pos hc3] at hM
    refine lv_iload F.1 F.2.1 qd_T_keep_31 (lv_at hl 0 rfl) ?_
    cases hM
    exact hQ _ _ _ _ qd_T_keep_33 w
  · rw [if_neg hc3] at hM
    refine lv_aload_n F.1 F.2.1 qd_T_keep_23 rfl (lv_at hl 1 rfl) ?_
    refine lv_iload F.1 F.2.1 qd_T_keep_24 (lv_at hl 0 rfl) ?_
    refine lv_iconst (v := 1) F.1 F.2.1 qd_T_keep_26 (by decide) ?_
    refine lv_iadd F.1 F.2.1 qd_T_keep_27 ?_
    refine xp_T_kept F hK w qk_87 qd_T_keep_28 (fun H locs w => ?_)
    refine lv_iload F.1 F.2.1 qd_T_keep_31 (lv_at hl 0 rfl) ?_
    cases hM
    exact hQ _ _ _ _ qd_T_keep_33 w
set_option maxRecDepth 100000 in
theorem c_T_keep (l : Launch) (D : va_G) (ad : Nat → Nat) (cI : ClassId) {S : (Nat → Nat → Int32)} {a1 a2 a3 a4 : Int32} {res : (Int32 × (Nat → Nat → Int32))} (hM : f_T_keep S a1 a2 a3 a4 = some res) : xMi l qy_T_keep qb_T_keep 6 (some .int) { frames := 2, cells := 0, slots := 0, locals := 69 } D ad cI S [.ref (ad 2), .int a1, .int a2, .int a3, .int a4] res.1 res.2 := x_ofi (by decide +kernel) (Nat.le_of_ble_eq_true rfl) (fun p e s m args below meth c Q A ls F hK hN hA w hl hQ => t_T_keep F ⟨Nat.le_refl _, Nat.le_refl _⟩ hK hN hA hQ S a1 a2 a3 a4 hM w hl)
-- T_empty
def f_T_empty (S : (Nat → Nat → Int32)) : Option (Nat → Nat → Int32) := (f_T_keep (qwr (qwr S 10 0 (0 : Int32)) 11 0 (0 : Int32)) (0 : Int32) (0 : Int32) (-1 : Int32) (-1 : Int32)).bind (fun q1 => (f_T_keep q1.2 (6 : Int32) (-1 : Int32) (-1 : Int32) (-1 : Int32)).bind (fun q3 => (f_T_keep q3.2 (7 : Int32) (-1 : Int32) (-1 : Int32) (-1 : Int32)).bind (fun q5 => some q5.2)))
set_option maxRecDepth 100000 in
set_option maxHeartbeats 4000000 in
theorem t_T_empty {p : Program} {l : Launch} {e : Env} {R : Room} {s : State} {m : MethodId} {args : Array Value} {below : List Frame} {meth : Method} {c : Code} {Q : State → Prop} {D : va_G} {ad : Nat → Nat} {cI : ClassId} {A : Nat → Prop} (F : CallFix p m c qb_T_empty 1 s args qtb "CaptureSubtypes$Types") (hR : 3 ≤ R.frames ∧ 94 ≤ R.locals) (hK : va_K D qcl [(cI, .int)] s) (hN : qnests xns s) (hA : ∀ q, s.heap.size ≤ q → A q) {res : (Nat → Nat → Int32)} (hQ : ∀ (H : Heap) (locs : List Loc) (pc : Nat) (ls : Array Slot), decode qb_T_empty pc = .ok (.return_, 1) → xW D ad cI A s.heap res H locs → W p l e R s m args below meth c H locs 0 0 Q (F0 m pc ls [])) (S : (Nat → Nat → Int32)) (hM : f_T_empty S  = some res) {H : Heap} {locs : List Loc} {ls : Array Slot} (w : xW D ad cI A s.heap S H locs) (hl : lv_has ls 1 [(0, .ref (ad 2))]) : W p l e R s m args below meth c H locs 0 0 Q (F0 m 0 ls []) := by
  unfold f_T_empty at hM
  refine lv_aload_n F.1 F.2.1 qd_T_empty_0 rfl (lv_at hl 0 rfl) ?_
  refine lv_iconst (v := 0) F.1 F.2.1 qd_T_empty_1 (by decide) ?_
  refine xp_T_kept F hK w qk_87 qd_T_empty_2 (fun H locs w => ?_)
  refine lv_aload_n F.1 F.2.1 qd_T_empty_5 rfl (lv_at hl 0 rfl) ?_
  refine lv_iconst (v := 0) F.1 F.2.1 qd_T_empty_6 (by decide) ?_
  refine xp_T_top F hK w qk_89 qd_T_empty_7 (fun H locs w => ?_)
  refine lv_aload_n F.1 F.2.1 qd_T_empty_10 rfl (lv_at hl 0 rfl) ?_
  refine lv_iconst (v := 0) F.1 F.2.1 qd_T_empty_11 (by decide) ?_
  refine lv_iconst (v := 0) F.1 F.2.1 qd_T_empty_12 (by decide) ?_
  refine lv_iconst (v := (-1)) F.1 F.2.1 qd_T_empty_13 (by decide) ?_
  refine lv_iconst (v := (-1)) F.1 F.2.1 qd_T_empty_14 (by decide) ?_
  obtain ⟨q1, hq2, hM⟩ := qbd hM
  refine x_calli F hK hN hA w (c_T_keep l D ad cI hq2) qk_76 qk_77 qk_78 qk_3 qk_79 qv_T_keep rfl rfl ⟨Nat.le_trans (by decide) hR.1, Nat.le_trans (by decide) hR.2⟩ (ci := 1) rfl (j := 2) rfl hl.1 rfl (Nat.le_of_ble_eq_true rfl) qd_T_empty_15 (fun H locs w => ?_)
  refine lv_pop F.1 F.2.1 qd_T_empty_18 rfl ?_
  refine lv_aload_n F.1 F.2.1 qd_T_empty_19 rfl (lv_at hl 0 rfl) ?_
  refine lv_bipush (v := 6) F.1 F.2.1 qd_T_empty_20 (by decide) ?_
  refine lv_iconst (v := (-1)) F.1 F.2.1 qd_T_empty_22 (by decide) ?_
  refine lv_iconst (v := (-1)) F.1 F.2.1 qd_T_empty_23 (by decide) ?_
  refine lv_iconst (v := (-1)) F.1 F.2.1 qd_T_empty_24 (by decide) ?_
  obtain ⟨q3, hq4, hM⟩ := qbd hM
  refine x_calli F hK hN hA w (c_T_keep l D ad cI hq4) qk_76 qk_77 qk_78 qk_3 qk_79 qv_T_keep rfl rfl ⟨Nat.le_trans (by decide) hR.1, Nat.le_trans (by decide) hR.2⟩ (ci := 1) rfl (j := 2) rfl hl.1 rfl (Nat.le_of_ble_eq_true rfl) qd_T_empty_25 (fun H locs w => ?_)
  refine lv_pop F.1 F.2.1 qd_T_empty_28 rfl ?_
  refine lv_aload_n F.1 F.2.1 qd_T_empty_29 rfl (lv_at hl 0 rfl) ?_
  refine lv_bipush (v := 7) F.1 F.2.1 qd_T_empty_30 (by decide) ?_
  refine lv_iconst (v := (-1)) F.1 F.2.1 qd_T_empty_32 (by decide) ?_
  refine lv_iconst (v := (-1)) F.1 F.2.1 qd_T_empty_33 (by decide) ?_
  refine lv_iconst (v := (-1)) F.1 F.2.1 qd_T_empty_34 (by decide) ?_
  obtain ⟨q5, hq6, hM⟩ := qbd hM
  refine x_calli F hK hN hA w (c_T_keep l D ad cI hq6) qk_76 qk_77 qk_78 qk_3 qk_79 qv_T_keep rfl rfl ⟨Nat.le_trans (by decide) hR.1, Nat.le_trans (by decide) hR.2⟩ (ci := 1) rfl (j := 2) rfl hl.1 rfl (Nat.le_of_ble_eq_true rfl) qd_T_empty_35 (fun H locs w => ?_)
  refine lv_pop F.1 F.2.1 qd_T_empty_38 rfl ?_
  cases hM
  exact hQ _ _ _ _ qd_T_empty_39 w
set_option maxRecDepth 100000 in
theorem c_T_empty (l : Launch) (D : va_G) (ad : Nat → Nat) (cI : ClassId) {S : (Nat → Nat → Int32)} {res : (Nat → Nat → Int32)} (hM : f_T_empty S  = some res) : xMv l qy_T_empty qb_T_empty 1 none { frames := 3, cells := 0, slots := 0, locals := 94 } D ad cI S [.ref (ad 2)] res := x_ofv (by decide +kernel) (Nat.le_of_ble_eq_true rfl) (fun p e s m args below meth c Q A ls F hK hN hA w hl hQ => t_T_empty F ⟨Nat.le_refl _, Nat.le_refl _⟩ hK hN hA hQ S  hM w hl)
-- X_clear
def f_X_clear (S : (Nat → Nat → Int32)) : Option (Int32 × (Nat → Nat → Int32)) := (f_K_empty S).bind (fun q1 => (f_T_empty q1).bind (fun q3 => some ((S 0 0), q3)))
set_option maxRecDepth 100000 in
set_option maxHeartbeats 4000000 in
theorem t_X_clear {p : Program} {l : Launch} {e : Env} {R : Room} {s : State} {m : MethodId} {args : Array Value} {below : List Frame} {meth : Method} {c : Code} {Q : State → Prop} {D : va_G} {ad : Nat → Nat} {cI : ClassId} {A : Nat → Prop} (F : CallFix p m c qb_X_clear 2 s args qtb "CaptureSubtypes") (hR : 4 ≤ R.frames ∧ 114 ≤ R.locals) (hK : va_K D qcl [(cI, .int)] s) (hN : qnests xns s) (hA : ∀ q, s.heap.size ≤ q → A q) {res : (Int32 × (Nat → Nat → Int32))} (hQ : ∀ (H : Heap) (locs : List Loc) (pc : Nat) (ls : Array Slot), decode qb_X_clear pc = .ok (.ireturn, 1) → xW D ad cI A s.heap res.2 H locs → W p l e R s m args below meth c H locs 0 0 Q (F0 m pc ls [.int res.1])) (S : (Nat → Nat → Int32)) (hM : f_X_clear S  = some res) {H : Heap} {locs : List Loc} {ls : Array Slot} (w : xW D ad cI A s.heap S H locs) (hl : lv_has ls 2 [(0, .ref (ad 0))]) : W p l e R s m args below meth c H locs 0 0 Q (F0 m 0 ls []) := by
  unfold f_X_clear at hM
  refine lv_aload_n F.1 F.2.1 qd_X_clear_0 rfl (lv_at hl 0 rfl) ?_
  refine xg_X_classes F hK w qk_167 qd_X_clear_1 ?_
  refine xg_K_count F hK w qk_32 qd_X_clear_4 ?_
  refine lv_istore_n (lv' := [(1, .int (S 0 0)), (0, .ref (ad 0))]) F.1 F.2.1 qd_X_clear_7 rfl hl (by decide) rfl (fun ls hl => ?_)
  refine lv_aload_n F.1 F.2.1 qd_X_clear_8 rfl (lv_at hl 1 rfl) ?_
  refine xg_X_classes F hK w qk_167 qd_X_clear_9 ?_
  obtain ⟨q1, hq2, hM⟩ := qbd hM
  refine x_callv F hK hN hA w (c_K_empty l D ad cI hq2) qk_187 qk_24 qk_25 qk_2 qk_26 qv_K_empty rfl rfl ⟨Nat.le_trans (by decide) hR.1, Nat.le_trans (by decide) hR.2⟩ (ci := 0) rfl (j := 1) rfl hl.1 rfl (Nat.le_of_ble_eq_true rfl) qd_X_clear_12 (fun H locs w => ?_)
  refine lv_aload_n F.1 F.2.1 qd_X_clear_15 rfl (lv_at hl 1 rfl) ?_
  refine xg_X_types F hK w qk_168 qd_X_clear_16 ?_
  obtain ⟨q3, hq4, hM⟩ := qbd hM
  refine x_callv F hK hN hA w (c_T_empty l D ad cI hq4) qk_188 qk_73 qk_74 qk_3 qk_75 qv_T_empty rfl rfl ⟨Nat.le_trans (by decide) hR.1, Nat.le_trans (by decide) hR.2⟩ (ci := 1) rfl (j := 2) rfl hl.1 rfl (Nat.le_of_ble_eq_true rfl) qd_X_clear_19 (fun H locs w => ?_)
  refine lv_iload_n F.1 F.2.1 qd_X_clear_22 rfl (lv_at hl 0 rfl) ?_
  cases hM
  exact hQ _ _ _ _ qd_X_clear_23 w
set_option maxRecDepth 100000 in
theorem c_X_clear (l : Launch) (D : va_G) (ad : Nat → Nat) (cI : ClassId) {S : (Nat → Nat → Int32)} {res : (Int32 × (Nat → Nat → Int32))} (hM : f_X_clear S  = some res) : xMi l qy_X_clear qb_X_clear 2 (some .int) { frames := 4, cells := 0, slots := 0, locals := 114 } D ad cI S [.ref (ad 0)] res.1 res.2 := x_ofi (by decide +kernel) (Nat.le_of_ble_eq_true rfl) (fun p e s m args below meth c Q A ls F hK hN hA w hl hQ => t_X_clear F ⟨Nat.le_refl _, Nat.le_refl _⟩ hK hN hA hQ S  hM w hl)
-- K_superClass
def f_K_superClass_26 (S : (Nat → Nat → Int32)) (v1 v2 s1 : Int32) : Option Int32 := if s1 = 0 then (some (-1 : Int32)) else (qck (qin ((v1 * (3 : Int32)) + v2) 36) (some (S 4 ((v1 * (3 : Int32)) + v2).toNatClampNeg)))
def f_K_superClass_25 (S : (Nat → Nat → Int32)) (v1 v2 : Int32) : Option Int32 := f_K_superClass_26  S v1 v2 (0 : Int32)
def f_K_superClass (S : (Nat → Nat → Int32)) (a1 a2 : Int32) : Option Int32 := if a1 < 0 then (f_K_superClass_25  S a1 a2) else (if (S 0 0) ≤ a1 then (f_K_superClass_25  S a1 a2) else (if a2 < 0 then (f_K_superClass_25  S a1 a2) else (if (3 : Int32) ≤ a2 then (f_K_superClass_25  S a1 a2) else (f_K_superClass_26  S a1 a2 (1 : Int32)))))
set_option maxRecDepth 100000 in
set_option maxHeartbeats 4000000 in
theorem t_K_superClass_26 {p : Program} {l : Launch} {e : Env} {R : Room} {s : State} {m : MethodId} {args : Array Value} {below : List Frame} {meth : Method} {c : Code} {Q : State → Prop} {D : va_G} {ad : Nat → Nat} {cI : ClassId} {A : Nat → Prop} (F : CallFix p m c qb_K_superClass 4 s args qtb "CaptureSubtypes$Classes") (hR : 0 ≤ R.frames ∧ 0 ≤ R.locals) (hK : va_K D qcl [(cI, .int)] s) (hN : qnests xns s) (hA : ∀ q, s.heap.size ≤ q → A q) {res : Int32} {S : (Nat → Nat → Int32)} (hQ : ∀ (H : Heap) (locs : List Loc) (pc : Nat) (ls : Array Slot), decode qb_K_superClass pc = .ok (.ireturn, 1) → xW D ad cI A s.heap S H locs → W p l e R s m args below meth c H locs 0 0 Q (F0 m pc ls [.int res])) (v1 v2 s1 : Int32) (hM : f_K_superClass_26 S v1 v2 s1 = some res) {H : Heap} {locs : List Loc} {ls : Array Slot} (w : xW D ad cI A s.heap S H locs) (hl : lv_has ls 4 [(0, .ref (ad 1)), (1, .int v1), (2, .int v2)]) : W p l e R s m args below meth c H locs 0 0 Q (F0 m 26 ls [.int s1]) := by
  unfold f_K_superClass_26 at hM
  refine lv_istore_n (lv' := [(3, .int s1), (0, .ref (ad 1)), (1, .int v1), (2, .int v2)]) F.1 F.2.1 qd_K_superClass_26 rfl hl (by decide) rfl (fun ls hl => ?_)
  refine lv_iload_n F.1 F.2.1 qd_K_superClass_27 rfl (lv_at hl 0 rfl) ?_
  refine lv_if_eq (tgt := 44) F.1 F.2.1 qd_K_superClass_28 (by decide) (fun hc1 => ?_) (fun hc1 => ?_)
  · rw [if_pos hc1] at hM
    refine lv_iconst (v := (-1)) F.1 F.2.1 qd_K_superClass_44 (by decide) ?_
    cases hM
    exact hQ _ _ _ _ qd_K_superClass_45 w
  · rw [if_neg hc1] at hM
    refine lv_aload_n F.1 F.2.1 qd_K_superClass_31 rfl (lv_at hl 1 rfl) ?_
    refine xg_K_superClasses F hK w qk_38 qd_K_superClass_32 ?_
    refine lv_iload_n F.1 F.2.1 qd_K_superClass_35 rfl (lv_at hl 2 rfl) ?_
    refine lv_iconst (v := 3) F.1 F.2.1 qd_K_superClass_36 (by decide) ?_
    refine lv_imul F.1 F.2.1 qd_K_superClass_37 ?_
    refine lv_iload_n F.1 F.2.1 qd_K_superClass_38 rfl (lv_at hl 3 rfl) ?_
    refine lv_iadd F.1 F.2.1 qd_K_superClass_39 ?_
    obtain ⟨hi2, hM⟩ := qck_ok hM
    refine xl_K_superClasses F hK w hi2 qd_K_superClass_40 ?_
    refine lv_goto (tgt := 45) F.1 F.2.1 qd_K_superClass_41 (by decide) ?_
    cases hM
    exact hQ _ _ _ _ qd_K_superClass_45 w
set_option maxRecDepth 100000 in
set_option maxHeartbeats 4000000 in
theorem t_K_superClass_25 {p : Program} {l : Launch} {e : Env} {R : Room} {s : State} {m : MethodId} {args : Array Value} {below : List Frame} {meth : Method} {c : Code} {Q : State → Prop} {D : va_G} {ad : Nat → Nat} {cI : ClassId} {A : Nat → Prop} (F : CallFix p m c qb_K_superClass 4 s args qtb "CaptureSubtypes$Classes") (hR : 0 ≤ R.frames ∧ 0 ≤ R.locals) (hK : va_K D qcl [(cI, .int)] s) (hN : qnests xns s) (hA : ∀ q, s.heap.size ≤ q → A q) {res : Int32} {S : (Nat → Nat → Int32)} (hQ : ∀ (H : Heap) (locs : List Loc) (pc : Nat) (ls : Array Slot), decode qb_K_superClass pc = .ok (.ireturn, 1) → xW D ad cI A s.heap S H locs → W p l e R s m args below meth c H locs 0 0 Q (F0 m pc ls [.int res])) (v1 v2 : Int32) (hM : f_K_superClass_25 S v1 v2 = some res) {H : Heap} {locs : List Loc} {ls : Array Slot} (w : xW D ad cI A s.heap S H locs) (hl : lv_has ls 4 [(0, .ref (ad 1)), (1, .int v1), (2, .int v2)]) : W p l e R s m args below meth c H locs 0 0 Q (F0 m 25 ls []) := by
  unfold f_K_superClass_25 at hM
  refine lv_iconst (v := 0) F.1 F.2.1 qd_K_superClass_25 (by decide) ?_
  exact t_K_superClass_26 F hR hK hN hA hQ  _ _ _ hM w (lv_sub hl [0, 1, 2] rfl)
set_option maxRecDepth 100000 in
set_option maxHeartbeats 4000000 in
theorem t_K_superClass {p : Program} {l : Launch} {e : Env} {R : Room} {s : State} {m : MethodId} {args : Array Value} {below : List Frame} {meth : Method} {c : Code} {Q : State → Prop} {D : va_G} {ad : Nat → Nat} {cI : ClassId} {A : Nat → Prop} (F : CallFix p m c qb_K_superClass 4 s args qtb "CaptureSubtypes$Classes") (hR : 0 ≤ R.frames ∧ 0 ≤ R.locals) (hK : va_K D qcl [(cI, .int)] s) (hN : qnests xns s) (hA : ∀ q, s.heap.size ≤ q → A q) {res : Int32} {S : (Nat → Nat → Int32)} (hQ : ∀ (H : Heap) (locs : List Loc) (pc : Nat) (ls : Array Slot), decode qb_K_superClass pc = .ok (.ireturn, 1) → xW D ad cI A s.heap S H locs → W p l e R s m args below meth c H locs 0 0 Q (F0 m pc ls [.int res])) (a1 a2 : Int32) (hM : f_K_superClass S a1 a2 = some res) {H : Heap} {locs : List Loc} {ls : Array Slot} (w : xW D ad cI A s.heap S H locs) (hl : lv_has ls 4 [(0, .ref (ad 1)), (1, .int a1), (2, .int a2)]) : W p l e R s m args below meth c H locs 0 0 Q (F0 m 0 ls []) := by
  unfold f_K_superClass at hM
  refine lv_iload_n F.1 F.2.1 qd_K_superClass_0 rfl (lv_at hl 1 rfl) ?_
  refine lv_if_lt (tgt := 25) F.1 F.2.1 qd_K_superClass_1 (by decide) (fun hc1 => ?_) (fun hc1 => ?_)
  · rw [if_pos hc1] at hM
    exact t_K_superClass_25 F hR hK hN hA hQ  _ _ hM w (lv_sub hl [0, 1, 2] rfl)
  · rw [if_neg hc1] at hM
    refine lv_iload_n F.1 F.2.1 qd_K_superClass_4 rfl (lv_at hl 1 rfl) ?_
    refine lv_aload_n F.1 F.2.1 qd_K_superClass_5 rfl (lv_at hl 0 rfl) ?_
    refine xg_K_count F hK w qk_31 qd_K_superClass_6 ?_
    refine lv_icmp_ge (tgt := 25) F.1 F.2.1 qd_K_superClass_9 (by decide) (fun hc2 => ?_) (fun hc2 => ?_)
    · rw [if_pos hc2] at hM
      exact t_K_superClass_25 F hR hK hN hA hQ  _ _ hM w (lv_sub hl [0, 1, 2] rfl)
    · rw [if_neg hc2] at hM
      refine lv_iload_n F.1 F.2.1 qd_K_superClass_12 rfl (lv_at hl 2 rfl) ?_
      refine lv_if_lt (tgt := 25) F.1 F.2.1 qd_K_superClass_13 (by decide) (fun hc3 => ?_) (fun hc3 => ?_)
      · rw [if_pos hc3] at hM
        exact t_K_superClass_25 F hR hK hN hA hQ  _ _ hM w (lv_sub hl [0, 1, 2] rfl)
      · rw [if_neg hc3] at hM
        refine lv_iload_n F.1 F.2.1 qd_K_superClass_16 rfl (lv_at hl 2 rfl) ?_
        refine lv_iconst (v := 3) F.1 F.2.1 qd_K_superClass_17 (by decide) ?_
        refine lv_icmp_ge (tgt := 25) F.1 F.2.1 qd_K_superClass_18 (by decide) (fun hc4 => ?_) (fun hc4 => ?_)
        · rw [if_pos hc4] at hM
          exact t_K_superClass_25 F hR hK hN hA hQ  _ _ hM w (lv_sub hl [0, 1, 2] rfl)
        · rw [if_neg hc4] at hM
          refine lv_iconst (v := 1) F.1 F.2.1 qd_K_superClass_21 (by decide) ?_
          refine lv_goto (tgt := 26) F.1 F.2.1 qd_K_superClass_22 (by decide) ?_
          exact t_K_superClass_26 F hR hK hN hA hQ  _ _ _ hM w (lv_sub hl [0, 1, 2] rfl)
set_option maxRecDepth 100000 in
theorem c_K_superClass (l : Launch) (D : va_G) (ad : Nat → Nat) (cI : ClassId) {S : (Nat → Nat → Int32)} {a1 a2 : Int32} {res : Int32} (hM : f_K_superClass S a1 a2 = some res) : xMi l qy_K_superClass qb_K_superClass 4 (some .int) { frames := 0, cells := 0, slots := 0, locals := 0 } D ad cI S [.ref (ad 1), .int a1, .int a2] res S := x_ofi (by decide +kernel) (Nat.le_of_ble_eq_true rfl) (fun p e s m args below meth c Q A ls F hK hN hA w hl hQ => t_K_superClass F ⟨Nat.le_refl _, Nat.le_refl _⟩ hK hN hA hQ a1 a2 hM w hl)
-- K_reckonAbove
def fb_K_reckonAbove_30 (k_2 : (Nat → Nat → Int32) → Int32 → Option (Nat → Nat → Int32)) (k_30 : (Nat → Nat → Int32) → Int32 → Int32 → Option (Nat → Nat → Int32)) (S : (Nat → Nat → Int32)) (v1 v2 : Int32) : Option (Nat → Nat → Int32) := if (3 : Int32) ≤ v2 then (k_2 S (v1 + (1 : Int32))) else ((f_K_superClass S v1 v2).bind (fun q2 => if q2 < 0 then (k_30 S v1 (v2 + (1 : Int32))) else (if v1 ≤ q2 then (k_30 S v1 (v2 + (1 : Int32))) else (qck (qin v1 12) (qck (qin v1 12) (qck (qin v1 12) (qck (qin q2 12) (qck (qin v1 12) (k_30 (qwr (qwr S 7 v1.toNatClampNeg ((S 7 v1.toNatClampNeg) ||| ((1 : Int32) <<< (q2 &&& 31)))) 8 v1.toNatClampNeg (((qwr S 7 v1.toNatClampNeg ((S 7 v1.toNatClampNeg) ||| ((1 : Int32) <<< (q2 &&& 31)))) 8 v1.toNatClampNeg) ||| ((qwr S 7 v1.toNatClampNeg ((S 7 v1.toNatClampNeg) ||| ((1 : Int32) <<< (q2 &&& 31)))) 8 q2.toNatClampNeg))) v1 (v2 + (1 : Int32)))))))))))
def f_K_reckonAbove_30 (k_2 : (Nat → Nat → Int32) → Int32 → Option (Nat → Nat → Int32)) : Nat → (Nat → Nat → Int32) → Int32 → Int32 → Option (Nat → Nat → Int32)
  | 0 => fun _ _ _ => none
  | n + 1 => fun S v1 v2 => fb_K_reckonAbove_30 k_2 (f_K_reckonAbove_30 k_2 n) S v1 v2
def fb_K_reckonAbove_2 (k_2 : (Nat → Nat → Int32) → Int32 → Option (Nat → Nat → Int32)) (S : (Nat → Nat → Int32)) (v1 : Int32) : Option (Nat → Nat → Int32) := if (S 0 0) ≤ v1 then (some S) else (qck (qin v1 12) (qck (qin v1 12) (f_K_reckonAbove_30 k_2 qfu (qwr (qwr S 7 v1.toNatClampNeg (0 : Int32)) 8 v1.toNatClampNeg ((1 : Int32) ||| ((1 : Int32) <<< (v1 &&& 31)))) v1 (0 : Int32))))
def f_K_reckonAbove_2 : Nat → (Nat → Nat → Int32) → Int32 → Option (Nat → Nat → Int32)
  | 0 => fun _ _ => none
  | n + 1 => fun S v1 => fb_K_reckonAbove_2 (f_K_reckonAbove_2 n) S v1
def f_K_reckonAbove (S : (Nat → Nat → Int32)) : Option (Nat → Nat → Int32) := f_K_reckonAbove_2  qfu S (0 : Int32)
set_option maxRecDepth 100000 in
set_option maxHeartbeats 4000000 in
theorem tb_K_reckonAbove_30 {p : Program} {l : Launch} {e : Env} {R : Room} {s : State} {m : MethodId} {args : Array Value} {below : List Frame} {meth : Method} {c : Code} {Q : State → Prop} {D : va_G} {ad : Nat → Nat} {cI : ClassId} {A : Nat → Prop} (F : CallFix p m c qb_K_reckonAbove 4 s args qtb "CaptureSubtypes$Classes") (hR : 1 ≤ R.frames ∧ 23 ≤ R.locals) (hK : va_K D qcl [(cI, .int)] s) (hN : qnests xns s) (hA : ∀ q, s.heap.size ≤ q → A q) {res : (Nat → Nat → Int32)} (hQ : ∀ (H : Heap) (locs : List Loc) (pc : Nat) (ls : Array Slot), decode qb_K_reckonAbove pc = .ok (.return_, 1) → xW D ad cI A s.heap res H locs → W p l e R s m args below meth c H locs 0 0 Q (F0 m pc ls [])) {k_2 : (Nat → Nat → Int32) → Int32 → Option (Nat → Nat → Int32)} (hk_2 : ∀ (S : Nat → Nat → Int32) (v1 : Int32), k_2 S v1 = some res → ∀ {H : Heap} {locs : List Loc} {ls : Array Slot}, xW D ad cI A s.heap S H locs → lv_has ls 4 [(0, .ref (ad 1)), (1, .int v1)] → W p l e R s m args below meth c H locs 0 0 Q (F0 m 2 ls [])) {k_30 : (Nat → Nat → Int32) → Int32 → Int32 → Option (Nat → Nat → Int32)} (hk_30 : ∀ (S : Nat → Nat → Int32) (v1 v2 : Int32), k_30 S v1 v2 = some res → ∀ {H : Heap} {locs : List Loc} {ls : Array Slot}, xW D ad cI A s.heap S H locs → lv_has ls 4 [(0, .ref (ad 1)), (1, .int v1), (2, .int v2)] → W p l e R s m args below meth c H locs 0 0 Q (F0 m 30 ls [])) (S : (Nat → Nat → Int32)) (v1 v2 : Int32) (hM : fb_K_reckonAbove_30 k_2 k_30 S v1 v2 = some res) {H : Heap} {locs : List Loc} {ls : Array Slot} (w : xW D ad cI A s.heap S H locs) (hl : lv_has ls 4 [(0, .ref (ad 1)), (1, .int v1), (2, .int v2)]) : W p l e R s m args below meth c H locs 0 0 Q (F0 m 30 ls []) := by
  unfold fb_K_reckonAbove_30 at hM
  refine lv_iload_n F.1 F.2.1 qd_K_reckonAbove_30 rfl (lv_at hl 2 rfl) ?_
  refine lv_iconst (v := 3) F.1 F.2.1 qd_K_reckonAbove_31 (by decide) ?_
  refine lv_icmp_ge (tgt := 84) F.1 F.2.1 qd_K_reckonAbove_32 (by decide) (fun hc1 => ?_) (fun hc1 => ?_)
  · rw [if_pos hc1] at hM
    refine lv_iinc (v := (v1 + (1 : Int32))) (lv' := [(1, .int (v1 + (1 : Int32))), (0, .ref (ad 1)), (2, .int v2)]) F.1 F.2.1 qd_K_reckonAbove_84 hl (k := 1) rfl rfl (by decide) rfl (fun ls hl => ?_)
    refine lv_goto (tgt := 2) F.1 F.2.1 qd_K_reckonAbove_87 (by decide) ?_
    exact hk_2 _ _ hM w (lv_sub hl [1, 0] rfl)
  · rw [if_neg hc1] at hM
    refine lv_aload_n F.1 F.2.1 qd_K_reckonAbove_35 rfl (lv_at hl 0 rfl) ?_
    refine lv_iload_n F.1 F.2.1 qd_K_reckonAbove_36 rfl (lv_at hl 1 rfl) ?_
    refine lv_iload_n F.1 F.2.1 qd_K_reckonAbove_37 rfl (lv_at hl 2 rfl) ?_
    obtain ⟨q2, hq3, hM⟩ := qbd hM
    refine x_calli F hK hN hA w (c_K_superClass l D ad cI hq3) qk_205 qk_206 qk_207 qk_2 qk_208 qv_K_superClass rfl rfl ⟨Nat.le_trans (by decide) hR.1, Nat.le_trans (by decide) hR.2⟩ (ci := 0) rfl (j := 1) rfl hl.1 rfl (Nat.le_of_ble_eq_true rfl) qd_K_reckonAbove_38 (fun H locs w => ?_)
    refine lv_istore_n (lv' := [(3, .int q2), (0, .ref (ad 1)), (1, .int v1), (2, .int v2)]) F.1 F.2.1 qd_K_reckonAbove_41 rfl hl (by decide) rfl (fun ls hl => ?_)
    refine lv_iload_n F.1 F.2.1 qd_K_reckonAbove_42 rfl (lv_at hl 0 rfl) ?_
    refine lv_if_lt (tgt := 78) F.1 F.2.1 qd_K_reckonAbove_43 (by decide) (fun hc4 => ?_) (fun hc4 => ?_)
    · rw [if_pos hc4] at hM
      refine lv_iinc (v := (v2 + (1 : Int32))) (lv' := [(2, .int (v2 + (1 : Int32))), (3, .int q2), (0, .ref (ad 1)), (1, .int v1)]) F.1 F.2.1 qd_K_reckonAbove_78 hl (k := 3) rfl rfl (by decide) rfl (fun ls hl => ?_)
      refine lv_goto (tgt := 30) F.1 F.2.1 qd_K_reckonAbove_81 (by decide) ?_
      exact hk_30 _ _ _ hM w (lv_sub hl [2, 3, 0] rfl)
    · rw [if_neg hc4] at hM
      refine lv_iload_n F.1 F.2.1 qd_K_reckonAbove_46 rfl (lv_at hl 0 rfl) ?_
      refine lv_iload_n F.1 F.2.1 qd_K_reckonAbove_47 rfl (lv_at hl 2 rfl) ?_
      refine lv_icmp_ge (tgt := 78) F.1 F.2.1 qd_K_reckonAbove_48 (by decide) (fun hc5 => ?_) (fun hc5 => ?_)
      · rw [if_pos hc5] at hM
        refine lv_iinc (v := (v2 + (1 : Int32))) (lv' := [(2, .int (v2 + (1 : Int32))), (3, .int q2), (0, .ref (ad 1)), (1, .int v1)]) F.1 F.2.1 qd_K_reckonAbove_78 hl (k := 3) rfl rfl (by decide) rfl (fun ls hl => ?_)
        refine lv_goto (tgt := 30) F.1 F.2.1 qd_K_reckonAbove_81 (by decide) ?_
        exact hk_30 _ _ _ hM w (lv_sub hl [2, 3, 0] rfl)
      · rw [if_neg hc5] at hM
        refine lv_aload_n F.1 F.2.1 qd_K_reckonAbove_51 rfl (lv_at hl 1 rfl) ?_
        refine xg_K_parents F hK w qk_41 qd_K_reckonAbove_52 ?_
        refine lv_iload_n F.1 F.2.1 qd_K_reckonAbove_55 rfl (lv_at hl 2 rfl) ?_
        refine lv_dup2_11 F.1 F.2.1 qd_K_reckonAbove_56 rfl rfl ?_
        obtain ⟨hi6, hM⟩ := qck_ok hM
        refine xl_K_parents F hK w hi6 qd_K_reckonAbove_57 ?_
        refine lv_iconst (v := 1) F.1 F.2.1 qd_K_reckonAbove_58 (by decide) ?_
        refine lv_iload_n F.1 F.2.1 qd_K_reckonAbove_59 rfl (lv_at hl 0 rfl) ?_
        refine lv_ishl F.1 F.2.1 qd_K_reckonAbove_60 ?_
        refine lv_ior F.1 F.2.1 qd_K_reckonAbove_61 ?_
        obtain ⟨hi7, hM⟩ := qck_ok hM
        refine xs_K_parents F hK w hi7 qd_K_reckonAbove_62 (fun H locs w => ?_)
        refine lv_aload_n F.1 F.2.1 qd_K_reckonAbove_63 rfl (lv_at hl 1 rfl) ?_
        refine xg_K_above F hK w qk_42 qd_K_reckonAbove_64 ?_
        refine lv_iload_n F.1 F.2.1 qd_K_reckonAbove_67 rfl (lv_at hl 2 rfl) ?_
        refine lv_dup2_11 F.1 F.2.1 qd_K_reckonAbove_68 rfl rfl ?_
        obtain ⟨hi8, hM⟩ := qck_ok hM
        refine xl_K_above F hK w hi8 qd_K_reckonAbove_69 ?_
        refine lv_aload_n F.1 F.2.1 qd_K_reckonAbove_70 rfl (lv_at hl 1 rfl) ?_
        refine xg_K_above F hK w qk_42 qd_K_reckonAbove_71 ?_
        refine lv_iload_n F.1 F.2.1 qd_K_reckonAbove_74 rfl (lv_at hl 0 rfl) ?_
        obtain ⟨hi9, hM⟩ := qck_ok hM
        refine xl_K_above F hK w hi9 qd_K_reckonAbove_75 ?_
        refine lv_ior F.1 F.2.1 qd_K_reckonAbove_76 ?_
        obtain ⟨hi10, hM⟩ := qck_ok hM
        refine xs_K_above F hK w hi10 qd_K_reckonAbove_77 (fun H locs w => ?_)
        refine lv_iinc (v := (v2 + (1 : Int32))) (lv' := [(2, .int (v2 + (1 : Int32))), (3, .int q2), (0, .ref (ad 1)), (1, .int v1)]) F.1 F.2.1 qd_K_reckonAbove_78 hl (k := 3) rfl rfl (by decide) rfl (fun ls hl => ?_)
        refine lv_goto (tgt := 30) F.1 F.2.1 qd_K_reckonAbove_81 (by decide) ?_
        exact hk_30 _ _ _ hM w (lv_sub hl [2, 3, 0] rfl)
set_option maxRecDepth 100000 in
set_option maxHeartbeats 4000000 in
theorem t_K_reckonAbove_30 {p : Program} {l : Launch} {e : Env} {R : Room} {s : State} {m : MethodId} {args : Array Value} {below : List Frame} {meth : Method} {c : Code} {Q : State → Prop} {D : va_G} {ad : Nat → Nat} {cI : ClassId} {A : Nat → Prop} (F : CallFix p m c qb_K_reckonAbove 4 s args qtb "CaptureSubtypes$Classes") (hR : 1 ≤ R.frames ∧ 23 ≤ R.locals) (hK : va_K D qcl [(cI, .int)] s) (hN : qnests xns s) (hA : ∀ q, s.heap.size ≤ q → A q) {res : (Nat → Nat → Int32)} (hQ : ∀ (H : Heap) (locs : List Loc) (pc : Nat) (ls : Array Slot), decode qb_K_reckonAbove pc = .ok (.return_, 1) → xW D ad cI A s.heap res H locs → W p l e R s m args below meth c H locs 0 0 Q (F0 m pc ls [])) {k_2 : (Nat → Nat → Int32) → Int32 → Option (Nat → Nat → Int32)} (hk_2 : ∀ (S : Nat → Nat → Int32) (v1 : Int32), k_2 S v1 = some res → ∀ {H : Heap} {locs : List Loc} {ls : Array Slot}, xW D ad cI A s.heap S H locs → lv_has ls 4 [(0, .ref (ad 1)), (1, .int v1)] → W p l e R s m args below meth c H locs 0 0 Q (F0 m 2 ls [])) : ∀ (n : Nat) (S : (Nat → Nat → Int32)) (v1 v2 : Int32) (hM : f_K_reckonAbove_30 k_2 n S v1 v2 = some res) {H : Heap} {locs : List Loc} {ls : Array Slot} (w : xW D ad cI A s.heap S H locs) (hl : lv_has ls 4 [(0, .ref (ad 1)), (1, .int v1), (2, .int v2)]), W p l e R s m args below meth c H locs 0 0 Q (F0 m 30 ls []) := by
  intro n
  induction n with
  | zero => intro S v1 v2 hM; exact absurd hM (by simp [f_K_reckonAbove_30])
  | succ n ih => intro S v1 v2 hM H locs ls w hl; exact tb_K_reckonAbove_30 F hR hK hN hA hQ hk_2 (k_30 := f_K_reckonAbove_30 k_2 n) (fun S v1 v2 hM H locs ls w hl => ih S v1 v2 hM w hl) S v1 v2 hM w hl
set_option maxRecDepth 100000 in
set_option maxHeartbeats 4000000 in
theorem tb_K_reckonAbove_2 {p : Program} {l : Launch} {e : Env} {R : Room} {s : State} {m : MethodId} {args : Array Value} {below : List Frame} {meth : Method} {c : Code} {Q : State → Prop} {D : va_G} {ad : Nat → Nat} {cI : ClassId} {A : Nat → Prop} (F : CallFix p m c qb_K_reckonAbove 4 s args qtb "CaptureSubtypes$Classes") (hR : 1 ≤ R.frames ∧ 23 ≤ R.locals) (hK : va_K D qcl [(cI, .int)] s) (hN : qnests xns s) (hA : ∀ q, s.heap.size ≤ q → A q) {res : (Nat → Nat → Int32)} (hQ : ∀ (H : Heap) (locs : List Loc) (pc : Nat) (ls : Array Slot), decode qb_K_reckonAbove pc = .ok (.return_, 1) → xW D ad cI A s.heap res H locs → W p l e R s m args below meth c H locs 0 0 Q (F0 m pc ls [])) {k_2 : (Nat → Nat → Int32) → Int32 → Option (Nat → Nat → Int32)} (hk_2 : ∀ (S : Nat → Nat → Int32) (v1 : Int32), k_2 S v1 = some res → ∀ {H : Heap} {locs : List Loc} {ls : Array Slot}, xW D ad cI A s.heap S H locs → lv_has ls 4 [(0, .ref (ad 1)), (1, .int v1)] → W p l e R s m args below meth c H locs 0 0 Q (F0 m 2 ls [])) (S : (Nat → Nat → Int32)) (v1 : Int32) (hM : fb_K_reckonAbove_2 k_2 S v1 = some res) {H : Heap} {locs : List Loc} {ls : Array Slot} (w : xW D ad cI A s.heap S H locs) (hl : lv_has ls 4 [(0, .ref (ad 1)), (1, .int v1)]) : W p l e R s m args below meth c H locs 0 0 Q (F0 m 2 ls []) := by
  unfold fb_K_reckonAbove_2 at hM
  refine lv_iload_n F.1 F.2.1 qd_K_reckonAbove_2 rfl (lv_at hl 1 rfl) ?_
  refine lv_aload_n F.1 F.2.1 qd_K_reckonAbove_3 rfl (lv_at hl 0 rfl) ?_
  refine xg_K_count F hK w qk_31 qd_K_reckonAbove_4 ?_
  refine lv_icmp_ge (tgt := 90) F.1 F.2.1 qd_K_reckonAbove_7 (by decide) (fun hc1 => ?_) (fun hc1 => ?_)
  · rw [if_pos hc1] at hM
    cases hM
    exact hQ _ _ _ _ qd_K_reckonAbove_90 w
  · rw [if_neg hc1] at hM
    refine lv_aload_n F.1 F.2.1 qd_K_reckonAbove_10 rfl (lv_at hl 0 rfl) ?_
    refine xg_K_parents F hK w qk_41 qd_K_reckonAbove_11 ?_
    refine lv_iload_n F.1 F.2.1 qd_K_reckonAbove_14 rfl (lv_at hl 1 rfl) ?_
    refine lv_iconst (v := 0) F.1 F.2.1 qd_K_reckonAbove_15 (by decide) ?_
    obtain ⟨hi2, hM⟩ := qck_ok hM
    refine xs_K_parents F hK w hi2 qd_K_reckonAbove_16 (fun H locs w => ?_)
    refine lv_aload_n F.1 F.2.1 qd_K_reckonAbove_17 rfl (lv_at hl 0 rfl) ?_
    refine xg_K_above F hK w qk_42 qd_K_reckonAbove_18 ?_
    refine lv_iload_n F.1 F.2.1 qd_K_reckonAbove_21 rfl (lv_at hl 1 rfl) ?_
    refine lv_iconst (v := 1) F.1 F.2.1 qd_K_reckonAbove_22 (by decide) ?_
    refine lv_iconst (v := 1) F.1 F.2.1 qd_K_reckonAbove_23 (by decide) ?_
    refine lv_iload_n F.1 F.2.1 qd_K_reckonAbove_24 rfl (lv_at hl 1 rfl) ?_
    refine lv_ishl F.1 F.2.1 qd_K_reckonAbove_25 ?_
    refine lv_ior F.1 F.2.1 qd_K_reckonAbove_26 ?_
    obtain ⟨hi3, hM⟩ := qck_ok hM
    refine xs_K_above F hK w hi3 qd_K_reckonAbove_27 (fun H locs w => ?_)
    refine lv_iconst (v := 0) F.1 F.2.1 qd_K_reckonAbove_28 (by decide) ?_
    refine lv_istore_n (lv' := [(2, .int (0 : Int32)), (0, .ref (ad 1)), (1, .int v1)]) F.1 F.2.1 qd_K_reckonAbove_29 rfl hl (by decide) rfl (fun ls hl => ?_)
    exact t_K_reckonAbove_30 F hR hK hN hA hQ hk_2 qfu _ _ _ hM w (lv_sub hl [1, 2, 0] rfl)
set_option maxRecDepth 100000 in
set_option maxHeartbeats 4000000 in
theorem t_K_reckonAbove_2 {p : Program} {l : Launch} {e : Env} {R : Room} {s : State} {m : MethodId} {args : Array Value} {below : List Frame} {meth : Method} {c : Code} {Q : State → Prop} {D : va_G} {ad : Nat → Nat} {cI : ClassId} {A : Nat → Prop} (F : CallFix p m c qb_K_reckonAbove 4 s args qtb "CaptureSubtypes$Classes") (hR : 1 ≤ R.frames ∧ 23 ≤ R.locals) (hK : va_K D qcl [(cI, .int)] s) (hN : qnests xns s) (hA : ∀ q, s.heap.size ≤ q → A q) {res : (Nat → Nat → Int32)} (hQ : ∀ (H : Heap) (locs : List Loc) (pc : Nat) (ls : Array Slot), decode qb_K_reckonAbove pc = .ok (.return_, 1) → xW D ad cI A s.heap res H locs → W p l e R s m args below meth c H locs 0 0 Q (F0 m pc ls [])) : ∀ (n : Nat) (S : (Nat → Nat → Int32)) (v1 : Int32) (hM : f_K_reckonAbove_2 n S v1 = some res) {H : Heap} {locs : List Loc} {ls : Array Slot} (w : xW D ad cI A s.heap S H locs) (hl : lv_has ls 4 [(0, .ref (ad 1)), (1, .int v1)]), W p l e R s m args below meth c H locs 0 0 Q (F0 m 2 ls []) := by
  intro n
  induction n with
  | zero => intro S v1 hM; exact absurd hM (by simp [f_K_reckonAbove_2])
  | succ n ih => intro S v1 hM H locs ls w hl; exact tb_K_reckonAbove_2 F hR hK hN hA hQ (k_2 := f_K_reckonAbove_2 n) (fun S v1 hM H locs ls w hl => ih S v1 hM w hl) S v1 hM w hl
set_option maxRecDepth 100000 in
set_option maxHeartbeats 4000000 in
theorem t_K_reckonAbove {p : Program} {l : Launch} {e : Env} {R : Room} {s : State} {m : MethodId} {args : Array Value} {below : List Frame} {meth : Method} {c : Code} {Q : State → Prop} {D : va_G} {ad : Nat → Nat} {cI : ClassId} {A : Nat → Prop} (F : CallFix p m c qb_K_reckonAbove 4 s args qtb "CaptureSubtypes$Classes") (hR : 1 ≤ R.frames ∧ 23 ≤ R.locals) (hK : va_K D qcl [(cI, .int)] s) (hN : qnests xns s) (hA : ∀ q, s.heap.size ≤ q → A q) {res : (Nat → Nat → Int32)} (hQ : ∀ (H : Heap) (locs : List Loc) (pc : Nat) (ls : Array Slot), decode qb_K_reckonAbove pc = .ok (.return_, 1) → xW D ad cI A s.heap res H locs → W p l e R s m args below meth c H locs 0 0 Q (F0 m pc ls [])) (S : (Nat → Nat → Int32)) (hM : f_K_reckonAbove S  = some res) {H : Heap} {locs : List Loc} {ls : Array Slot} (w : xW D ad cI A s.heap S H locs) (hl : lv_has ls 4 [(0, .ref (ad 1))]) : W p l e R s m args below meth c H locs 0 0 Q (F0 m 0 ls []) := by
  unfold f_K_reckonAbove at hM
  refine lv_iconst (v := 0) F.1 F.2.1 qd_K_reckonAbove_0 (by decide) ?_
  refine lv_istore_n (lv' := [(1, .int (0 : Int32)), (0, .ref (ad 1))]) F.1 F.2.1 qd_K_reckonAbove_1 rfl hl (by decide) rfl (fun ls hl => ?_)
  exact t_K_reckonAbove_2 F hR hK hN hA hQ  qfu _ _ hM w (lv_sub hl [1, 0] rfl)
set_option maxRecDepth 100000 in
theorem c_K_reckonAbove (l : Launch) (D : va_G) (ad : Nat → Nat) (cI : ClassId) {S : (Nat → Nat → Int32)} {res : (Nat → Nat → Int32)} (hM : f_K_reckonAbove S  = some res) : xMv l qy_K_reckonAbove qb_K_reckonAbove 4 none { frames := 1, cells := 0, slots := 0, locals := 23 } D ad cI S [.ref (ad 1)] res := x_ofv (by decide +kernel) (Nat.le_of_ble_eq_true rfl) (fun p e s m args below meth c Q A ls F hK hN hA w hl hQ => t_K_reckonAbove F ⟨Nat.le_refl _, Nat.le_refl _⟩ hK hN hA hQ S  hM w hl)
-- K_isUnder
def f_K_isUnder (S : (Nat → Nat → Int32)) (a1 a2 : Int32) : Option Bool := if a1 < 0 then (some false) else (if (S 0 0) ≤ a1 then (some false) else (if a2 < 0 then (some false) else (if (S 0 0) ≤ a2 then (some false) else (qck (qin a1 12) (if (((S 8 a1.toNatClampNeg) >>> (a2 &&& 31)) &&& (1 : Int32)) = (1 : Int32) then (some true) else (some false))))))
set_option maxRecDepth 100000 in
set_option maxHeartbeats 4000000 in
theorem t_K_isUnder {p : Program} {l : Launch} {e : Env} {R : Room} {s : State} {m : MethodId} {args : Array Value} {below : List Frame} {meth : Method} {c : Code} {Q : State → Prop} {D : va_G} {ad : Nat → Nat} {cI : ClassId} {A : Nat → Prop} (F : CallFix p m c qb_K_isUnder 3 s args qtb "CaptureSubtypes$Classes") (hR : 0 ≤ R.frames ∧ 0 ≤ R.locals) (hK : va_K D qcl [(cI, .int)] s) (hN : qnests xns s) (hA : ∀ q, s.heap.size ≤ q → A q) {res : Bool} {S : (Nat → Nat → Int32)} (hQ : ∀ (H : Heap) (locs : List Loc) (pc : Nat) (ls : Array Slot), decode qb_K_isUnder pc = .ok (.ireturn, 1) → xW D ad cI A s.heap S H locs → W p l e R s m args below meth c H locs 0 0 Q (F0 m pc ls [.int (qB res)])) (a1 a2 : Int32) (hM : f_K_isUnder S a1 a2 = some res) {H : Heap} {locs : List Loc} {ls : Array Slot} (w : xW D ad cI A s.heap S H locs) (hl : lv_has ls 3 [(0, .ref (ad 1)), (1, .int a1), (2, .int a2)]) : W p l e R s m args below meth c H locs 0 0 Q (F0 m 0 ls []) := by
  unfold f_K_isUnder at hM
  refine lv_iload_n F.1 F.2.1 qd_K_isUnder_0 rfl (lv_at hl 1 rfl) ?_
  refine lv_if_lt (tgt := 42) F.1 F.2.1 qd_K_isUnder_1 (by decide) (fun hc1 => ?_) (fun hc1 => ?_)
  · rw [if_pos hc1] at hM
    refine lv_iconst (v := 0) F.1 F.2.1 qd_K_isUnder_42 (by decide) ?_
    cases hM
    exact hQ _ _ _ _ qd_K_isUnder_43 w
  · rw [if_neg hc1] at hM
    refine lv_iload_n F.1 F.2.1 qd_K_isUnder_4 rfl (lv_at hl 1 rfl) ?_
    refine lv_aload_n F.1 F.2.1 qd_K_isUnder_5 rfl (lv_at hl 0 rfl) ?_
    refine xg_K_count F hK w qk_31 qd_K_isUnder_6 ?_
    refine lv_icmp_ge (tgt := 42) F.1 F.2.1 qd_K_isUnder_9 (by decide) (fun hc2 => ?_) (fun hc2 => ?_)
    · rw [if_pos hc2] at hM
      refine lv_iconst (v := 0) F.1 F.2.1 qd_K_isUnder_42 (by decide) ?_
      cases hM
      exact hQ _ _ _ _ qd_K_isUnder_43 w
    · rw [if_neg hc2] at hM
      refine lv_iload_n F.1 F.2.1 qd_K_isUnder_12 rfl (lv_at hl 2 rfl) ?_
      refine lv_if_lt (tgt := 42) F.1 F.2.1 qd_K_isUnder_13 (by decide) (fun hc3 => ?_) (fun hc3 => ?_)
      · rw [if_pos hc3] at hM
        refine lv_iconst (v := 0) F.1 F.2.1 qd_K_isUnder_42 (by decide) ?_
        cases hM
        exact hQ _ _ _ _ qd_K_isUnder_43 w
      · rw [if_neg hc3] at hM
        refine lv_iload_n F.1 F.2.1 qd_K_isUnder_16 rfl (lv_at hl 2 rfl) ?_
        refine lv_aload_n F.1 F.2.1 qd_K_isUnder_17 rfl (lv_at hl 0 rfl) ?_
        refine xg_K_count F hK w qk_31 qd_K_isUnder_18 ?_
        refine lv_icmp_ge (tgt := 42) F.1 F.2.1 qd_K_isUnder_21 (by decide) (fun hc4 => ?_) (fun hc4 => ?_)
        · rw [if_pos hc4] at hM
          refine lv_iconst (v := 0) F.1 F.2.1 qd_K_isUnder_42 (by decide) ?_
          cases hM
          exact hQ _ _ _ _ qd_K_isUnder_43 w
        · rw [if_neg hc4] at hM
          refine lv_aload_n F.1 F.2.1 qd_K_isUnder_24 rfl (lv_at hl 0 rfl) ?_
          refine xg_K_above F hK w qk_42 qd_K_isUnder_25 ?_
          refine lv_iload_n F.1 F.2.1 qd_K_isUnder_28 rfl (lv_at hl 1 rfl) ?_
          obtain ⟨hi5, hM⟩ := qck_ok hM
          refine xl_K_above F hK w hi5 qd_K_isUnder_29 ?_
          refine lv_iload_n F.1 F.2.1 qd_K_isUnder_30 rfl (lv_at hl 2 rfl) ?_
          refine lv_ishr F.1 F.2.1 qd_K_isUnder_31 ?_
          refine lv_iconst (v := 1) F.1 F.2.1 qd_K_isUnder_32 (by decide) ?_
          refine lv_iand F.1 F.2.1 qd_K_isUnder_33 ?_
          refine lv_iconst (v := 1) F.1 F.2.1 qd_K_isUnder_34 (by decide) ?_
          refine lv_icmp_ne (tgt := 42) F.1 F.2.1 qd_K_isUnder_35 (by decide) (fun hc6 => ?_) (fun hc6 => ?_)
          · rw [if_neg hc6] at hM
            refine lv_iconst (v := 0) F.1 F.2.1 qd_K_isUnder_42 (by decide) ?_
            cases hM
            exact hQ _ _ _ _ qd_K_isUnder_43 w
          · rw [if_pos hc6] at hM
            refine lv_iconst (v := 1) F.1 F.2.1 qd_K_isUnder_38 (by decide) ?_
            refine lv_goto (tgt := 43) F.1 F.2.1 qd_K_isUnder_39 (by decide) ?_
            cases hM
            exact hQ _ _ _ _ qd_K_isUnder_43 w
set_option maxRecDepth 100000 in
theorem c_K_isUnder (l : Launch) (D : va_G) (ad : Nat → Nat) (cI : ClassId) {S : (Nat → Nat → Int32)} {a1 a2 : Int32} {res : Bool} (hM : f_K_isUnder S a1 a2 = some res) : xMi l qy_K_isUnder qb_K_isUnder 3 (some .boolean) { frames := 0, cells := 0, slots := 0, locals := 0 } D ad cI S [.ref (ad 1), .int a1, .int a2] (qB res) S := x_ofz (by decide +kernel) (Nat.le_of_ble_eq_true rfl) (fun p e s m args below meth c Q A ls F hK hN hA w hl hQ => t_K_isUnder F ⟨Nat.le_refl _, Nat.le_refl _⟩ hK hN hA hQ a1 a2 hM w hl)
-- K_isFace
def f_K_isFace (S : (Nat → Nat → Int32)) (a1 : Int32) : Option Bool := if a1 < 0 then (some false) else (if (S 0 0) ≤ a1 then (some false) else (qck (qin a1 12) (if (S 1 a1.toNatClampNeg) < (3 : Int32) then (some false) else (some true))))
set_option maxRecDepth 100000 in
set_option maxHeartbeats 4000000 in
theorem t_K_isFace {p : Program} {l : Launch} {e : Env} {R : Room} {s : State} {m : MethodId} {args : Array Value} {below : List Frame} {meth : Method} {c : Code} {Q : State → Prop} {D : va_G} {ad : Nat → Nat} {cI : ClassId} {A : Nat → Prop} (F : CallFix p m c qb_K_isFace 2 s args qtb "CaptureSubtypes$Classes") (hR : 0 ≤ R.frames ∧ 0 ≤ R.locals) (hK : va_K D qcl [(cI, .int)] s) (hN : qnests xns s) (hA : ∀ q, s.heap.size ≤ q → A q) {res : Bool} {S : (Nat → Nat → Int32)} (hQ : ∀ (H : Heap) (locs : List Loc) (pc : Nat) (ls : Array Slot), decode qb_K_isFace pc = .ok (.ireturn, 1) → xW D ad cI A s.heap S H locs → W p l e R s m args below meth c H locs 0 0 Q (F0 m pc ls [.int (qB res)])) (a1 : Int32) (hM : f_K_isFace S a1 = some res) {H : Heap} {locs : List Loc} {ls : Array Slot} (w : xW D ad cI A s.heap S H locs) (hl : lv_has ls 2 [(0, .ref (ad 1)), (1, .int a1)]) : W p l e R s m args below meth c H locs 0 0 Q (F0 m 0 ls []) := by
  unfold f_K_isFace at hM
  refine lv_iload_n F.1 F.2.1 qd_K_isFace_0 rfl (lv_at hl 1 rfl) ?_
  refine lv_if_lt (tgt := 26) F.1 F.2.1 qd_K_isFace_1 (by decide) (fun hc1 => ?_) (fun hc1 => ?_)
  · rw [if_pos hc1] at hM
    refine lv_iconst (v := 0) F.1 F.2.1 qd_K_isFace_26 (by decide) ?_
    cases hM
    exact hQ _ _ _ _ qd_K_isFace_27 w
  · rw [if_neg hc1] at hM
    refine lv_iload_n F.1 F.2.1 qd_K_isFace_4 rfl (lv_at hl 1 rfl) ?_
    refine lv_aload_n F.1 F.2.1 qd_K_isFace_5 rfl (lv_at hl 0 rfl) ?_
    refine xg_K_count F hK w qk_31 qd_K_isFace_6 ?_
    refine lv_icmp_ge (tgt := 26) F.1 F.2.1 qd_K_isFace_9 (by decide) (fun hc2 => ?_) (fun hc2 => ?_)
    · rw [if_pos hc2] at hM
      refine lv_iconst (v := 0) F.1 F.2.1 qd_K_isFace_26 (by decide) ?_
      cases hM
      exact hQ _ _ _ _ qd_K_isFace_27 w
    · rw [if_neg hc2] at hM
      refine lv_aload_n F.1 F.2.1 qd_K_isFace_12 rfl (lv_at hl 0 rfl) ?_
      refine xg_K_kinds F hK w qk_35 qd_K_isFace_13 ?_
      refine lv_iload_n F.1 F.2.1 qd_K_isFace_16 rfl (lv_at hl 1 rfl) ?_
      obtain ⟨hi3, hM⟩ := qck_ok hM
      refine xl_K_kinds F hK w hi3 qd_K_isFace_17 ?_
      refine lv_iconst (v := 3) F.1 F.2.1 qd_K_isFace_18 (by decide) ?_
      refine lv_icmp_lt (tgt := 26) F.1 F.2.1 qd_K_isFace_19 (by decide) (fun hc4 => ?_) (fun hc4 => ?_)
      · rw [if_pos hc4] at hM
        refine lv_iconst (v := 0) F.1 F.2.1 qd_K_isFace_26 (by decide) ?_
        cases hM
        exact hQ _ _ _ _ qd_K_isFace_27 w
      · rw [if_neg hc4] at hM
        refine lv_iconst (v := 1) F.1 F.2.1 qd_K_isFace_22 (by decide) ?_
        refine lv_goto (tgt := 27) F.1 F.2.1 qd_K_isFace_23 (by decide) ?_
        cases hM
        exact hQ _ _ _ _ qd_K_isFace_27 w
set_option maxRecDepth 100000 in
theorem c_K_isFace (l : Launch) (D : va_G) (ad : Nat → Nat) (cI : ClassId) {S : (Nat → Nat → Int32)} {a1 : Int32} {res : Bool} (hM : f_K_isFace S a1 = some res) : xMi l qy_K_isFace qb_K_isFace 2 (some .boolean) { frames := 0, cells := 0, slots := 0, locals := 0 } D ad cI S [.ref (ad 1), .int a1] (qB res) S := x_ofz (by decide +kernel) (Nat.le_of_ble_eq_true rfl) (fun p e s m args below meth c Q A ls F hK hN hA w hl hQ => t_K_isFace F ⟨Nat.le_refl _, Nat.le_refl _⟩ hK hN hA hQ a1 hM w hl)
-- K_kindOf
def f_K_kindOf (S : (Nat → Nat → Int32)) (a1 : Int32) : Option Int32 := if a1 < 0 then (some (-1 : Int32)) else (if (S 0 0) ≤ a1 then (some (-1 : Int32)) else (qck (qin a1 12) (some (S 1 a1.toNatClampNeg))))
set_option maxRecDepth 100000 in
set_option maxHeartbeats 4000000 in
theorem t_K_kindOf {p : Program} {l : Launch} {e : Env} {R : Room} {s : State} {m : MethodId} {args : Array Value} {below : List Frame} {meth : Method} {c : Code} {Q : State → Prop} {D : va_G} {ad : Nat → Nat} {cI : ClassId} {A : Nat → Prop} (F : CallFix p m c qb_K_kindOf 2 s args qtb "CaptureSubtypes$Classes") (hR : 0 ≤ R.frames ∧ 0 ≤ R.locals) (hK : va_K D qcl [(cI, .int)] s) (hN : qnests xns s) (hA : ∀ q, s.heap.size ≤ q → A q) {res : Int32} {S : (Nat → Nat → Int32)} (hQ : ∀ (H : Heap) (locs : List Loc) (pc : Nat) (ls : Array Slot), decode qb_K_kindOf pc = .ok (.ireturn, 1) → xW D ad cI A s.heap S H locs → W p l e R s m args below meth c H locs 0 0 Q (F0 m pc ls [.int res])) (a1 : Int32) (hM : f_K_kindOf S a1 = some res) {H : Heap} {locs : List Loc} {ls : Array Slot} (w : xW D ad cI A s.heap S H locs) (hl : lv_has ls 2 [(0, .ref (ad 1)), (1, .int a1)]) : W p l e R s m args below meth c H locs 0 0 Q (F0 m 0 ls []) := by
  unfold f_K_kindOf at hM
  refine lv_iload_n F.1 F.2.1 qd_K_kindOf_0 rfl (lv_at hl 1 rfl) ?_
  refine lv_if_lt (tgt := 21) F.1 F.2.1 qd_K_kindOf_1 (by decide) (fun hc1 => ?_) (fun hc1 => ?_)
  · rw [if_pos hc1] at hM
    refine lv_iconst (v := (-1)) F.1 F.2.1 qd_K_kindOf_21 (by decide) ?_
    cases hM
    exact hQ _ _ _ _ qd_K_kindOf_22 w
  · rw [if_neg hc1] at hM
    refine lv_iload_n F.1 F.2.1 qd_K_kindOf_4 rfl (lv_at hl 1 rfl) ?_
    refine lv_aload_n F.1 F.2.1 qd_K_kindOf_5 rfl (lv_at hl 0 rfl) ?_
    refine xg_K_count F hK w qk_31 qd_K_kindOf_6 ?_
    refine lv_icmp_ge (tgt := 21) F.1 F.2.1 qd_K_kindOf_9 (by decide) (fun hc2 => ?_) (fun hc2 => ?_)
    · rw [if_pos hc2] at hM
      refine lv_iconst (v := (-1)) F.1 F.2.1 qd_K_kindOf_21 (by decide) ?_
      cases hM
      exact hQ _ _ _ _ qd_K_kindOf_22 w
    · rw [if_neg hc2] at hM
      refine lv_aload_n F.1 F.2.1 qd_K_kindOf_12 rfl (lv_at hl 0 rfl) ?_
      refine xg_K_kinds F hK w qk_35 qd_K_kindOf_13 ?_
      refine lv_iload_n F.1 F.2.1 qd_K_kindOf_16 rfl (lv_at hl 1 rfl) ?_
      obtain ⟨hi3, hM⟩ := qck_ok hM
      refine xl_K_kinds F hK w hi3 qd_K_kindOf_17 ?_
      refine lv_goto (tgt := 22) F.1 F.2.1 qd_K_kindOf_18 (by decide) ?_
      cases hM
      exact hQ _ _ _ _ qd_K_kindOf_22 w
set_option maxRecDepth 100000 in
theorem c_K_kindOf (l : Launch) (D : va_G) (ad : Nat → Nat) (cI : ClassId) {S : (Nat → Nat → Int32)} {a1 : Int32} {res : Int32} (hM : f_K_kindOf S a1 = some res) : xMi l qy_K_kindOf qb_K_kindOf 2 (some .int) { frames := 0, cells := 0, slots := 0, locals := 0 } D ad cI S [.ref (ad 1), .int a1] res S := x_ofi (by decide +kernel) (Nat.le_of_ble_eq_true rfl) (fun p e s m args below meth c Q A ls F hK hN hA w hl hQ => t_K_kindOf F ⟨Nat.le_refl _, Nat.le_refl _⟩ hK hN hA hQ a1 hM w hl)
-- K_isSealed
def f_K_isSealed (S : (Nat → Nat → Int32)) (a1 : Int32) : Option Bool := (f_K_kindOf S a1).bind (fun q1 => if q1 = (2 : Int32) then (some true) else (if q1 = (4 : Int32) then (some true) else (some false)))
set_option maxRecDepth 100000 in
set_option maxHeartbeats 4000000 in
theorem t_K_isSealed {p : Program} {l : Launch} {e : Env} {R : Room} {s : State} {m : MethodId} {args : Array Value} {below : List Frame} {meth : Method} {c : Code} {Q : State → Prop} {D : va_G} {ad : Nat → Nat} {cI : ClassId} {A : Nat → Prop} (F : CallFix p m c qb_K_isSealed 3 s args qtb "CaptureSubtypes$Classes") (hR : 1 ≤ R.frames ∧ 21 ≤ R.locals) (hK : va_K D qcl [(cI, .int)] s) (hN : qnests xns s) (hA : ∀ q, s.heap.size ≤ q → A q) {res : Bool} {S : (Nat → Nat → Int32)} (hQ : ∀ (H : Heap) (locs : List Loc) (pc : Nat) (ls : Array Slot), decode qb_K_isSealed pc = .ok (.ireturn, 1) → xW D ad cI A s.heap S H locs → W p l e R s m args below meth c H locs 0 0 Q (F0 m pc ls [.int (qB res)])) (a1 : Int32) (hM : f_K_isSealed S a1 = some res) {H : Heap} {locs : List Loc} {ls : Array Slot} (w : xW D ad cI A s.heap S H locs) (hl : lv_has ls 3 [(0, .ref (ad 1)), (1, .int a1)]) : W p l e R s m args below meth c H locs 0 0 Q (F0 m 0 ls []) := by
  unfold f_K_isSealed at hM
  refine lv_aload_n F.1 F.2.1 qd_K_isSealed_0 rfl (lv_at hl 0 rfl) ?_
  refine lv_iload_n F.1 F.2.1 qd_K_isSealed_1 rfl (lv_at hl 1 rfl) ?_
  obtain ⟨q1, hq2, hM⟩ := qbd hM
  refine x_calli F hK hN hA w (c_K_kindOf l D ad cI hq2) qk_225 qk_226 qk_227 qk_2 qk_228 qv_K_kindOf rfl rfl ⟨Nat.le_trans (by decide) hR.1, Nat.le_trans (by decide) hR.2⟩ (ci := 0) rfl (j := 1) rfl hl.1 rfl (Nat.le_of_ble_eq_true rfl) qd_K_isSealed_2 (fun H locs w => ?_)
  refine lv_istore_n (lv' := [(2, .int q1), (0, .ref (ad 1)), (1, .int a1)]) F.1 F.2.1 qd_K_isSealed_5 rfl hl (by decide) rfl (fun ls hl => ?_)
  refine lv_iload_n F.1 F.2.1 qd_K_isSealed_6 rfl (lv_at hl 0 rfl) ?_
  refine lv_iconst (v := 2) F.1 F.2.1 qd_K_isSealed_7 (by decide) ?_
  refine lv_icmp_eq (tgt := 16) F.1 F.2.1 qd_K_isSealed_8 (by decide) (fun hc3 => ?_) (fun hc3 => ?_)
  · rw [if_pos hc3] at hM
    refine lv_iconst (v := 1) F.1 F.2.1 qd_K_isSealed_16 (by decide) ?_
    refine lv_goto (tgt := 21) F.1 F.2.1 qd_K_isSealed_17 (by decide) ?_
    cases hM
    exact hQ _ _ _ _ qd_K_isSealed_21 w
  · rw [if_neg hc3] at hM
    refine lv_iload_n F.1 F.2.1 qd_K_isSealed_11 rfl (lv_at hl 0 rfl) ?_
    refine lv_iconst (v := 4) F.1 F.2.1 qd_K_isSealed_12 (by decide) ?_
    refine lv_icmp_ne (tgt := 20) F.1 F.2.1 qd_K_isSealed_13 (by decide) (fun hc4 => ?_) (fun hc4 => ?_)
    · rw [if_neg hc4] at hM
      refine lv_iconst (v := 0) F.1 F.2.1 qd_K_isSealed_20 (by decide) ?_
      cases hM
      exact hQ _ _ _ _ qd_K_isSealed_21 w
    · rw [if_pos hc4] at hM
      refine lv_iconst (v := 1) F.1 F.2.1 qd_K_isSealed_16 (by decide) ?_
      refine lv_goto (tgt := 21) F.1 F.2.1 qd_K_isSealed_17 (by decide) ?_
      cases hM
      exact hQ _ _ _ _ qd_K_isSealed_21 w
set_option maxRecDepth 100000 in
theorem c_K_isSealed (l : Launch) (D : va_G) (ad : Nat → Nat) (cI : ClassId) {S : (Nat → Nat → Int32)} {a1 : Int32} {res : Bool} (hM : f_K_isSealed S a1 = some res) : xMi l qy_K_isSealed qb_K_isSealed 3 (some .boolean) { frames := 1, cells := 0, slots := 0, locals := 21 } D ad cI S [.ref (ad 1), .int a1] (qB res) S := x_ofz (by decide +kernel) (Nat.le_of_ble_eq_true rfl) (fun p e s m args below meth c Q A ls F hK hN hA w hl hQ => t_K_isSealed F ⟨Nat.le_refl _, Nat.le_refl _⟩ hK hN hA hQ a1 hM w hl)
-- K_isHeir
def f_K_isHeir (S : (Nat → Nat → Int32)) (a1 a2 : Int32) : Option Bool := if a1 < 0 then (some false) else (if (S 0 0) ≤ a1 then (some false) else (if a2 < 0 then (some false) else (if (S 0 0) ≤ a2 then (some false) else (qck (qin a1 12) (if (((S 7 a1.toNatClampNeg) >>> (a2 &&& 31)) &&& (1 : Int32)) = (1 : Int32) then (some true) else (some false))))))
set_option maxRecDepth 100000 in
set_option maxHeartbeats 4000000 in
theorem t_K_isHeir {p : Program} {l : Launch} {e : Env} {R : Room} {s : State} {m : MethodId} {args : Array Value} {below : List Frame} {meth : Method} {c : Code} {Q : State → Prop} {D : va_G} {ad : Nat → Nat} {cI : ClassId} {A : Nat → Prop} (F : CallFix p m c qb_K_isHeir 3 s args qtb "CaptureSubtypes$Classes") (hR : 0 ≤ R.frames ∧ 0 ≤ R.locals) (hK : va_K D qcl [(cI, .int)] s) (hN : qnests xns s) (hA : ∀ q, s.heap.size ≤ q → A q) {res : Bool} {S : (Nat → Nat → Int32)} (hQ : ∀ (H : Heap) (locs : List Loc) (pc : Nat) (ls : Array Slot), decode qb_K_isHeir pc = .ok (.ireturn, 1) → xW D ad cI A s.heap S H locs → W p l e R s m args below meth c H locs 0 0 Q (F0 m pc ls [.int (qB res)])) (a1 a2 : Int32) (hM : f_K_isHeir S a1 a2 = some res) {H : Heap} {locs : List Loc} {ls : Array Slot} (w : xW D ad cI A s.heap S H locs) (hl : lv_has ls 3 [(0, .ref (ad 1)), (1, .int a1), (2, .int a2)]) : W p l e R s m args below meth c H locs 0 0 Q (F0 m 0 ls []) := by
  unfold f_K_isHeir at hM
  refine lv_iload_n F.1 F.2.1 qd_K_isHeir_0 rfl (lv_at hl 1 rfl) ?_
  refine lv_if_lt (tgt := 42) F.1 F.2.1 qd_K_isHeir_1 (by decide) (fun hc1 => ?_) (fun hc1 => ?_)
  · rw [if_pos hc1] at hM
    refine lv_iconst (v := 0) F.1 F.2.1 qd_K_isHeir_42 (by decide) ?_
    cases hM
    exact hQ _ _ _ _ qd_K_isHeir_43 w
  · rw [if_neg hc1] at hM
    refine lv_iload_n F.1 F.2.1 qd_K_isHeir_4 rfl (lv_at hl 1 rfl) ?_
    refine lv_aload_n F.1 F.2.1 qd_K_isHeir_5 rfl (lv_at hl 0 rfl) ?_
    refine xg_K_count F hK w qk_31 qd_K_isHeir_6 ?_
    refine lv_icmp_ge (tgt := 42) F.1 F.2.1 qd_K_isHeir_9 (by decide) (fun hc2 => ?_) (fun hc2 => ?_)
    · rw [if_pos hc2] at hM
      refine lv_iconst (v := 0) F.1 F.2.1 qd_K_isHeir_42 (by decide) ?_
      cases hM
      exact hQ _ _ _ _ qd_K_isHeir_43 w
    · rw [if_neg hc2] at hM
      refine lv_iload_n F.1 F.2.1 qd_K_isHeir_12 rfl (lv_at hl 2 rfl) ?_
      refine lv_if_lt (tgt := 42) F.1 F.2.1 qd_K_isHeir_13 (by decide) (fun hc3 => ?_) (fun hc3 => ?_)
      · rw [if_pos hc3] at hM
        refine lv_iconst (v := 0) F.1 F.2.1 qd_K_isHeir_42 (by decide) ?_
        cases hM
        exact hQ _ _ _ _ qd_K_isHeir_43 w
      · rw [if_neg hc3] at hM
        refine lv_iload_n F.1 F.2.1 qd_K_isHeir_16 rfl (lv_at hl 2 rfl) ?_
        refine lv_aload_n F.1 F.2.1 qd_K_isHeir_17 rfl (lv_at hl 0 rfl) ?_
        refine xg_K_count F hK w qk_31 qd_K_isHeir_18 ?_
        refine lv_icmp_ge (tgt := 42) F.1 F.2.1 qd_K_isHeir_21 (by decide) (fun hc4 => ?_) (fun hc4 => ?_)
        · rw [if_pos hc4] at hM
          refine lv_iconst (v := 0) F.1 F.2.1 qd_K_isHeir_42 (by decide) ?_
          cases hM
          exact hQ _ _ _ _ qd_K_isHeir_43 w
        · rw [if_neg hc4] at hM
          refine lv_aload_n F.1 F.2.1 qd_K_isHeir_24 rfl (lv_at hl 0 rfl) ?_
          refine xg_K_parents F hK w qk_41 qd_K_isHeir_25 ?_
          refine lv_iload_n F.1 F.2.1 qd_K_isHeir_28 rfl (lv_at hl 1 rfl) ?_
          obtain ⟨hi5, hM⟩ := qck_ok hM
          refine xl_K_parents F hK w hi5 qd_K_isHeir_29 ?_
          refine lv_iload_n F.1 F.2.1 qd_K_isHeir_30 rfl (lv_at hl 2 rfl) ?_
          refine lv_ishr F.1 F.2.1 qd_K_isHeir_31 ?_
          refine lv_iconst (v := 1) F.1 F.2.1 qd_K_isHeir_32 (by decide) ?_
          refine lv_iand F.1 F.2.1 qd_K_isHeir_33 ?_
          refine lv_iconst (v := 1) F.1 F.2.1 qd_K_isHeir_34 (by decide) ?_
          refine lv_icmp_ne (tgt := 42) F.1 F.2.1 qd_K_isHeir_35 (by decide) (fun hc6 => ?_) (fun hc6 => ?_)
          · rw [if_neg hc6] at hM
            refine lv_iconst (v := 0) F.1 F.2.1 qd_K_isHeir_42 (by decide) ?_
            cases hM
            exact hQ _ _ _ _ qd_K_isHeir_43 w
          · rw [if_pos hc6] at hM
            refine lv_iconst (v := 1) F.1 F.2.1 qd_K_isHeir_38 (by decide) ?_
            refine lv_goto (tgt := 43) F.1 F.2.1 qd_K_isHeir_39 (by decide) ?_
            cases hM
            exact hQ _ _ _ _ qd_K_isHeir_43 w
set_option maxRecDepth 100000 in
theorem c_K_isHeir (l : Launch) (D : va_G) (ad : Nat → Nat) (cI : ClassId) {S : (Nat → Nat → Int32)} {a1 a2 : Int32} {res : Bool} (hM : f_K_isHeir S a1 a2 = some res) : xMi l qy_K_isHeir qb_K_isHeir 3 (some .boolean) { frames := 0, cells := 0, slots := 0, locals := 0 } D ad cI S [.ref (ad 1), .int a1, .int a2] (qB res) S := x_ofz (by decide +kernel) (Nat.le_of_ble_eq_true rfl) (fun p e s m args below meth c Q A ls F hK hN hA w hl hQ => t_K_isHeir F ⟨Nat.le_refl _, Nat.le_refl _⟩ hK hN hA hQ a1 a2 hM w hl)
-- K_areApart
def f_K_areApart (S : (Nat → Nat → Int32)) (a1 a2 : Int32) : Option Bool := if a1 < 0 then (some false) else (if (S 0 0) ≤ a1 then (some false) else (if a2 < 0 then (some false) else (if (S 0 0) ≤ a2 then (some false) else (qck (qin a1 12) (if (((S 9 a1.toNatClampNeg) >>> (a2 &&& 31)) &&& (1 : Int32)) = (1 : Int32) then (some true) else (some false))))))
set_option maxRecDepth 100000 in
set_option maxHeartbeats 4000000 in
theorem t_K_areApart {p : Program} {l : Launch} {e : Env} {R : Room} {s : State} {m : MethodId} {args : Array Value} {below : List Frame} {meth : Method} {c : Code} {Q : State → Prop} {D : va_G} {ad : Nat → Nat} {cI : ClassId} {A : Nat → Prop} (F : CallFix p m c qb_K_areApart 3 s args qtb "CaptureSubtypes$Classes") (hR : 0 ≤ R.frames ∧ 0 ≤ R.locals) (hK : va_K D qcl [(cI, .int)] s) (hN : qnests xns s) (hA : ∀ q, s.heap.size ≤ q → A q) {res : Bool} {S : (Nat → Nat → Int32)} (hQ : ∀ (H : Heap) (locs : List Loc) (pc : Nat) (ls : Array Slot), decode qb_K_areApart pc = .ok (.ireturn, 1) → xW D ad cI A s.heap S H locs → W p l e R s m args below meth c H locs 0 0 Q (F0 m pc ls [.int (qB res)])) (a1 a2 : Int32) (hM : f_K_areApart S a1 a2 = some res) {H : Heap} {locs : List Loc} {ls : Array Slot} (w : xW D ad cI A s.heap S H locs) (hl : lv_has ls 3 [(0, .ref (ad 1)), (1, .int a1), (2, .int a2)]) : W p l e R s m args below meth c H locs 0 0 Q (F0 m 0 ls []) := by
  unfold f_K_areApart at hM
  refine lv_iload_n F.1 F.2.1 qd_K_areApart_0 rfl (lv_at hl 1 rfl) ?_
  refine lv_if_lt (tgt := 42) F.1 F.2.1 qd_K_areApart_1 (by decide) (fun hc1 => ?_) (fun hc1 => ?_)
  · rw [if_pos hc1] at hM
    refine lv_iconst (v := 0) F.1 F.2.1 qd_K_areApart_42 (by decide) ?_
    cases hM
    exact hQ _ _ _ _ qd_K_areApart_43 w
  · rw [if_neg hc1] at hM
    refine lv_iload_n F.1 F.2.1 qd_K_areApart_4 rfl (lv_at hl 1 rfl) ?_
    refine lv_aload_n F.1 F.2.1 qd_K_areApart_5 rfl (lv_at hl 0 rfl) ?_
    refine xg_K_count F hK w qk_31 qd_K_areApart_6 ?_
    refine lv_icmp_ge (tgt := 42) F.1 F.2.1 qd_K_areApart_9 (by decide) (fun hc2 => ?_) (fun hc2 => ?_)
    · rw [if_pos hc2] at hM
      refine lv_iconst (v := 0) F.1 F.2.1 qd_K_areApart_42 (by decide) ?_
      cases hM
      exact hQ _ _ _ _ qd_K_areApart_43 w
    · rw [if_neg hc2] at hM
      refine lv_iload_n F.1 F.2.1 qd_K_areApart_12 rfl (lv_at hl 2 rfl) ?_
      refine lv_if_lt (tgt := 42) F.1 F.2.1 qd_K_areApart_13 (by decide) (fun hc3 => ?_) (fun hc3 => ?_)
      · rw [if_pos hc3] at hM
        refine lv_iconst (v := 0) F.1 F.2.1 qd_K_areApart_42 (by decide) ?_
        cases hM
        exact hQ _ _ _ _ qd_K_areApart_43 w
      · rw [if_neg hc3] at hM
        refine lv_iload_n F.1 F.2.1 qd_K_areApart_16 rfl (lv_at hl 2 rfl) ?_
        refine lv_aload_n F.1 F.2.1 qd_K_areApart_17 rfl (lv_at hl 0 rfl) ?_
        refine xg_K_count F hK w qk_31 qd_K_areApart_18 ?_
        refine lv_icmp_ge (tgt := 42) F.1 F.2.1 qd_K_areApart_21 (by decide) (fun hc4 => ?_) (fun hc4 => ?_)
        · rw [if_pos hc4] at hM
          refine lv_iconst (v := 0) F.1 F.2.1 qd_K_areApart_42 (by decide) ?_
          cases hM
          exact hQ _ _ _ _ qd_K_areApart_43 w
        · rw [if_neg hc4] at hM
          refine lv_aload_n F.1 F.2.1 qd_K_areApart_24 rfl (lv_at hl 0 rfl) ?_
          refine xg_K_apartFrom F hK w qk_43 qd_K_areApart_25 ?_
          refine lv_iload_n F.1 F.2.1 qd_K_areApart_28 rfl (lv_at hl 1 rfl) ?_
          obtain ⟨hi5, hM⟩ := qck_ok hM
          refine xl_K_apartFrom F hK w hi5 qd_K_areApart_29 ?_
          refine lv_iload_n F.1 F.2.1 qd_K_areApart_30 rfl (lv_at hl 2 rfl) ?_
          refine lv_ishr F.1 F.2.1 qd_K_areApart_31 ?_
          refine lv_iconst (v := 1) F.1 F.2.1 qd_K_areApart_32 (by decide) ?_
          refine lv_iand F.1 F.2.1 qd_K_areApart_33 ?_
          refine lv_iconst (v := 1) F.1 F.2.1 qd_K_areApart_34 (by decide) ?_
          refine lv_icmp_ne (tgt := 42) F.1 F.2.1 qd_K_areApart_35 (by decide) (fun hc6 => ?_) (fun hc6 => ?_)
          · rw [if_neg hc6] at hM
            refine lv_iconst (v := 0) F.1 F.2.1 qd_K_areApart_42 (by decide) ?_
            cases hM
            exact hQ _ _ _ _ qd_K_areApart_43 w
          · rw [if_pos hc6] at hM
            refine lv_iconst (v := 1) F.1 F.2.1 qd_K_areApart_38 (by decide) ?_
            refine lv_goto (tgt := 43) F.1 F.2.1 qd_K_areApart_39 (by decide) ?_
            cases hM
            exact hQ _ _ _ _ qd_K_areApart_43 w
set_option maxRecDepth 100000 in
theorem c_K_areApart (l : Launch) (D : va_G) (ad : Nat → Nat) (cI : ClassId) {S : (Nat → Nat → Int32)} {a1 a2 : Int32} {res : Bool} (hM : f_K_areApart S a1 a2 = some res) : xMi l qy_K_areApart qb_K_areApart 3 (some .boolean) { frames := 0, cells := 0, slots := 0, locals := 0 } D ad cI S [.ref (ad 1), .int a1, .int a2] (qB res) S := x_ofz (by decide +kernel) (Nat.le_of_ble_eq_true rfl) (fun p e s m args below meth c Q A ls F hK hN hA w hl hQ => t_K_areApart F ⟨Nat.le_refl _, Nat.le_refl _⟩ hK hN hA hQ a1 a2 hM w hl)
-- K_heirsApartFrom
def fb_K_heirsApartFrom_2 (k_2 : (Nat → Nat → Int32) → Int32 → Int32 → Int32 → Option Bool) (S : (Nat → Nat → Int32)) (v1 v2 v3 : Int32) : Option Bool := if (S 0 0) ≤ v3 then (some true) else ((f_K_isHeir S v3 v1).bind (fun q2 => if (qB q2) = 0 then (k_2 S v1 v2 (v3 + (1 : Int32))) else ((f_K_areApart S v3 v2).bind (fun q5 => if (qB q5) = 0 then (some false) else (k_2 S v1 v2 (v3 + (1 : Int32)))))))
def f_K_heirsApartFrom_2 : Nat → (Nat → Nat → Int32) → Int32 → Int32 → Int32 → Option Bool
  | 0 => fun _ _ _ _ => none
  | n + 1 => fun S v1 v2 v3 => fb_K_heirsApartFrom_2 (f_K_heirsApartFrom_2 n) S v1 v2 v3
def f_K_heirsApartFrom (S : (Nat → Nat → Int32)) (a1 a2 : Int32) : Option Bool := f_K_heirsApartFrom_2  qfu S a1 a2 (0 : Int32)
set_option maxRecDepth 100000 in
set_option maxHeartbeats 4000000 in
theorem tb_K_heirsApartFrom_2 {p : Program} {l : Launch} {e : Env} {R : Room} {s : State} {m : MethodId} {args : Array Value} {below : List Frame} {meth : Method} {c : Code} {Q : State → Prop} {D : va_G} {ad : Nat → Nat} {cI : ClassId} {A : Nat → Prop} (F : CallFix p m c qb_K_heirsApartFrom 4 s args qtb "CaptureSubtypes$Classes") (hR : 1 ≤ R.frames ∧ 22 ≤ R.locals) (hK : va_K D qcl [(cI, .int)] s) (hN : qnests xns s) (hA : ∀ q, s.heap.size ≤ q → A q) {res : Bool} {S : (Nat → Nat → Int32)} (hQ : ∀ (H : Heap) (locs : List Loc) (pc : Nat) (ls : Array Slot), decode qb_K_heirsApartFrom pc = .ok (.ireturn, 1) → xW D ad cI A s.heap S H locs → W p l e R s m args below meth c H locs 0 0 Q (F0 m pc ls [.int (qB res)])) {k_2 : (Nat → Nat → Int32) → Int32 → Int32 → Int32 → Option Bool} (hk_2 : ∀  (v1 v2 v3 : Int32), k_2 S v1 v2 v3 = some res → ∀ {H : Heap} {locs : List Loc} {ls : Array Slot}, xW D ad cI A s.heap S H locs → lv_has ls 4 [(0, .ref (ad 1)), (1, .int v1), (2, .int v2), (3, .int v3)] → W p l e R s m args below meth c H locs 0 0 Q (F0 m 2 ls [])) (v1 v2 v3 : Int32) (hM : fb_K_heirsApartFrom_2 k_2 S v1 v2 v3 = some res) {H : Heap} {locs : List Loc} {ls : Array Slot} (w : xW D ad cI A s.heap S H locs) (hl : lv_has ls 4 [(0, .ref (ad 1)), (1, .int v1), (2, .int v2), (3, .int v3)]) : W p l e R s m args below meth c H locs 0 0 Q (F0 m 2 ls []) := by
  unfold fb_K_heirsApartFrom_2 at hM
  refine lv_iload_n F.1 F.2.1 qd_K_heirsApartFrom_2 rfl (lv_at hl 3 rfl) ?_
  refine lv_aload_n F.1 F.2.1 qd_K_heirsApartFrom_3 rfl (lv_at hl 0 rfl) ?_
  refine xg_K_count F hK w qk_31 qd_K_heirsApartFrom_4 ?_
  refine lv_icmp_ge (tgt := 36) F.1 F.2.1 qd_K_heirsApartFrom_7 (by decide) (fun hc1 => ?_) (fun hc1 => ?_)
  · rw [if_pos hc1] at hM
    refine lv_iconst (v := 1) F.1 F.2.1 qd_K_heirsApartFrom_36 (by decide) ?_
    cases hM
    exact hQ _ _ _ _ qd_K_heirsApartFrom_37 w
  · rw [if_neg hc1] at hM
    refine lv_aload_n F.1 F.2.1 qd_K_heirsApartFrom_10 rfl (lv_at hl 0 rfl) ?_
    refine lv_iload_n F.1 F.2.1 qd_K_heirsApartFrom_11 rfl (lv_at hl 3 rfl) ?_
    refine lv_iload_n F.1 F.2.1 qd_K_heirsApartFrom_12 rfl (lv_at hl 1 rfl) ?_
    obtain ⟨q2, hq3, hM⟩ := qbd hM
    refine x_calli F hK hN hA w (c_K_isHeir l D ad cI hq3) qk_237 qk_239 qs_K_isHeir qk_2 qk_240 qv_K_isHeir rfl rfl ⟨Nat.le_trans (by decide) hR.1, Nat.le_trans (by decide) hR.2⟩ (ci := 0) rfl (j := 1) rfl hl.1 rfl (Nat.le_of_ble_eq_true rfl) qd_K_heirsApartFrom_13 (fun H locs w => ?_)
    refine lv_if_eq (tgt := 30) F.1 F.2.1 qd_K_heirsApartFrom_16 (by decide) (fun hc4 => ?_) (fun hc4 => ?_)
    · rw [if_pos hc4] at hM
      refine lv_iinc (v := (v3 + (1 : Int32))) (lv' := [(3, .int (v3 + (1 : Int32))), (0, .ref (ad 1)), (1, .int v1), (2, .int v2)]) F.1 F.2.1 qd_K_heirsApartFrom_30 hl (k := 3) rfl rfl (by decide) rfl (fun ls hl => ?_)
      refine lv_goto (tgt := 2) F.1 F.2.1 qd_K_heirsApartFrom_33 (by decide) ?_
      exact hk_2 _ _ _ hM w (lv_sub hl [1, 2, 3, 0] rfl)
    · rw [if_neg hc4] at hM
      refine lv_aload_n F.1 F.2.1 qd_K_heirsApartFrom_19 rfl (lv_at hl 0 rfl) ?_
      refine lv_iload_n F.1 F.2.1 qd_K_heirsApartFrom_20 rfl (lv_at hl 3 rfl) ?_
      refine lv_iload_n F.1 F.2.1 qd_K_heirsApartFrom_21 rfl (lv_at hl 2 rfl) ?_
      obtain ⟨q5, hq6, hM⟩ := qbd hM
      refine x_calli F hK hN hA w (c_K_areApart l D ad cI hq6) qk_241 qk_242 qk_243 qk_2 qk_244 qv_K_areApart rfl rfl ⟨Nat.le_trans (by decide) hR.1, Nat.le_trans (by decide) hR.2⟩ (ci := 0) rfl (j := 1) rfl hl.1 rfl (Nat.le_of_ble_eq_true rfl) qd_K_heirsApartFrom_22 (fun H locs w => ?_)
      refine lv_if_ne (tgt := 30) F.1 F.2.1 qd_K_heirsApartFrom_25 (by decide) (fun hc7 => ?_) (fun hc7 => ?_)
      · rw [if_neg hc7] at hM
        refine lv_iinc (v := (v3 + (1 : Int32))) (lv' := [(3, .int (v3 + (1 : Int32))), (0, .ref (ad 1)), (1, .int v1), (2, .int v2)]) F.1 F.2.1 qd_K_heirsApartFrom_30 hl (k := 3) rfl rfl (by decide) rfl (fun ls hl => ?_)
        refine lv_goto (tgt := 2) F.1 F.2.1 qd_K_heirsApartFrom_33 (by decide) ?_
        exact hk_2 _ _ _ hM w (lv_sub hl [1, 2, 3, 0] rfl)
      · rw [if_pos hc7] at hM
        refine lv_iconst (v := 0) F.1 F.2.1 qd_K_heirsApartFrom_28 (by decide) ?_
        cases hM
        exact hQ _ _ _ _ qd_K_heirsApartFrom_29 w
set_option maxRecDepth 100000 in
set_option maxHeartbeats 4000000 in
theorem t_K_heirsApartFrom_2 {p : Program} {l : Launch} {e : Env} {R : Room} {s : State} {m : MethodId} {args : Array Value} {below : List Frame} {meth : Method} {c : Code} {Q : State → Prop} {D : va_G} {ad : Nat → Nat} {cI : ClassId} {A : Nat → Prop} (F : CallFix p m c qb_K_heirsApartFrom 4 s args qtb "CaptureSubtypes$Classes") (hR : 1 ≤ R.frames ∧ 22 ≤ R.locals) (hK : va_K D qcl [(cI, .int)] s) (hN : qnests xns s) (hA : ∀ q, s.heap.size ≤ q → A q) {res : Bool} {S : (Nat → Nat → Int32)} (hQ : ∀ (H : Heap) (locs : List Loc) (pc : Nat) (ls : Array Slot), decode qb_K_heirsApartFrom pc = .ok (.ireturn, 1) → xW D ad cI A s.heap S H locs → W p l e R s m args below meth c H locs 0 0 Q (F0 m pc ls [.int (qB res)])) : ∀ (n : Nat) (v1 v2 v3 : Int32) (hM : f_K_heirsApartFrom_2 n S v1 v2 v3 = some res) {H : Heap} {locs : List Loc} {ls : Array Slot} (w : xW D ad cI A s.heap S H locs) (hl : lv_has ls 4 [(0, .ref (ad 1)), (1, .int v1), (2, .int v2), (3, .int v3)]), W p l e R s m args below meth c H locs 0 0 Q (F0 m 2 ls []) := by
  intro n
  induction n with
  | zero => intro v1 v2 v3 hM; exact absurd hM (by simp [f_K_heirsApartFrom_2])
  | succ n ih => intro v1 v2 v3 hM H locs ls w hl; exact tb_K_heirsApartFrom_2 F hR hK hN hA hQ (k_2 := f_K_heirsApartFrom_2 n) (fun v1 v2 v3 hM H locs ls w hl => ih v1 v2 v3 hM w hl) v1 v2 v3 hM w hl
set_option maxRecDepth 100000 in
set_option maxHeartbeats 4000000 in
theorem t_K_heirsApartFrom {p : Program} {l : Launch} {e : Env} {R : Room} {s : State} {m : MethodId} {args : Array Value} {below : List Frame} {meth : Method} {c : Code} {Q : State → Prop} {D : va_G} {ad : Nat → Nat} {cI : ClassId} {A : Nat → Prop} (F : CallFix p m c qb_K_heirsApartFrom 4 s args qtb "CaptureSubtypes$Classes") (hR : 1 ≤ R.frames ∧ 22 ≤ R.locals) (hK : va_K D qcl [(cI, .int)] s) (hN : qnests xns s) (hA : ∀ q, s.heap.size ≤ q → A q) {res : Bool} {S : (Nat → Nat → Int32)} (hQ : ∀ (H : Heap) (locs : List Loc) (pc : Nat) (ls : Array Slot), decode qb_K_heirsApartFrom pc = .ok (.ireturn, 1) → xW D ad cI A s.heap S H locs → W p l e R s m args below meth c H locs 0 0 Q (F0 m pc ls [.int (qB res)])) (a1 a2 : Int32) (hM : f_K_heirsApartFrom S a1 a2 = some res) {H : Heap} {locs : List Loc} {ls : Array Slot} (w : xW D ad cI A s.heap S H locs) (hl : lv_has ls 4 [(0, .ref (ad 1)), (1, .int a1), (2, .int a2)]) : W p l e R s m args below meth c H locs 0 0 Q (F0 m 0 ls []) := by
  unfold f_K_heirsApartFrom at hM
  refine lv_iconst (v := 0) F.1 F.2.1 qd_K_heirsApartFrom_0 (by decide) ?_
  refine lv_istore_n (lv' := [(3, .int (0 : Int32)), (0, .ref (ad 1)), (1, .int a1), (2, .int a2)]) F.1 F.2.1 qd_K_heirsApartFrom_1 rfl hl (by decide) rfl (fun ls hl => ?_)
  exact t_K_heirsApartFrom_2 F hR hK hN hA hQ  qfu _ _ _ hM w (lv_sub hl [1, 2, 3, 0] rfl)
set_option maxRecDepth 100000 in
theorem c_K_heirsApartFrom (l : Launch) (D : va_G) (ad : Nat → Nat) (cI : ClassId) {S : (Nat → Nat → Int32)} {a1 a2 : Int32} {res : Bool} (hM : f_K_heirsApartFrom S a1 a2 = some res) : xMi l qy_K_heirsApartFrom qb_K_heirsApartFrom 4 (some .boolean) { frames := 1, cells := 0, slots := 0, locals := 22 } D ad cI S [.ref (ad 1), .int a1, .int a2] (qB res) S := x_ofz (by decide +kernel) (Nat.le_of_ble_eq_true rfl) (fun p e s m args below meth c Q A ls F hK hN hA w hl hQ => t_K_heirsApartFrom F ⟨Nat.le_refl _, Nat.le_refl _⟩ hK hN hA hQ a1 a2 hM w hl)
-- K_apartFromHeirs
def fb_K_apartFromHeirs_2 (k_2 : (Nat → Nat → Int32) → Int32 → Int32 → Int32 → Option Bool) (S : (Nat → Nat → Int32)) (v1 v2 v3 : Int32) : Option Bool := if (S 0 0) ≤ v3 then (some true) else ((f_K_isHeir S v3 v2).bind (fun q2 => if (qB q2) = 0 then (k_2 S v1 v2 (v3 + (1 : Int32))) else ((f_K_areApart S v1 v3).bind (fun q5 => if (qB q5) = 0 then (some false) else (k_2 S v1 v2 (v3 + (1 : Int32)))))))
def f_K_apartFromHeirs_2 : Nat → (Nat → Nat → Int32) → Int32 → Int32 → Int32 → Option Bool
  | 0 => fun _ _ _ _ => none
  | n + 1 => fun S v1 v2 v3 => fb_K_apartFromHeirs_2 (f_K_apartFromHeirs_2 n) S v1 v2 v3
def f_K_apartFromHeirs (S : (Nat → Nat → Int32)) (a1 a2 : Int32) : Option Bool := f_K_apartFromHeirs_2  qfu S a1 a2 (0 : Int32)
set_option maxRecDepth 100000 in
set_option maxHeartbeats 4000000 in
theorem tb_K_apartFromHeirs_2 {p : Program} {l : Launch} {e : Env} {R : Room} {s : State} {m : MethodId} {args : Array Value} {below : List Frame} {meth : Method} {c : Code} {Q : State → Prop} {D : va_G} {ad : Nat → Nat} {cI : ClassId} {A : Nat → Prop} (F : CallFix p m c qb_K_apartFromHeirs 4 s args qtb "CaptureSubtypes$Classes") (hR : 1 ≤ R.frames ∧ 22 ≤ R.locals) (hK : va_K D qcl [(cI, .int)] s) (hN : qnests xns s) (hA : ∀ q, s.heap.size ≤ q → A q) {res : Bool} {S : (Nat → Nat → Int32)} (hQ : ∀ (H : Heap) (locs : List Loc) (pc : Nat) (ls : Array Slot), decode qb_K_apartFromHeirs pc = .ok (.ireturn, 1) → xW D ad cI A s.heap S H locs → W p l e R s m args below meth c H locs 0 0 Q (F0 m pc ls [.int (qB res)])) {k_2 : (Nat → Nat → Int32) → Int32 → Int32 → Int32 → Option Bool} (hk_2 : ∀  (v1 v2 v3 : Int32), k_2 S v1 v2 v3 = some res → ∀ {H : Heap} {locs : List Loc} {ls : Array Slot}, xW D ad cI A s.heap S H locs → lv_has ls 4 [(0, .ref (ad 1)), (1, .int v1), (2, .int v2), (3, .int v3)] → W p l e R s m args below meth c H locs 0 0 Q (F0 m 2 ls [])) (v1 v2 v3 : Int32) (hM : fb_K_apartFromHeirs_2 k_2 S v1 v2 v3 = some res) {H : Heap} {locs : List Loc} {ls : Array Slot} (w : xW D ad cI A s.heap S H locs) (hl : lv_has ls 4 [(0, .ref (ad 1)), (1, .int v1), (2, .int v2), (3, .int v3)]) : W p l e R s m args below meth c H locs 0 0 Q (F0 m 2 ls []) := by
  unfold fb_K_apartFromHeirs_2 at hM
  refine lv_iload_n F.1 F.2.1 qd_K_apartFromHeirs_2 rfl (lv_at hl 3 rfl) ?_
  refine lv_aload_n F.1 F.2.1 qd_K_apartFromHeirs_3 rfl (lv_at hl 0 rfl) ?_
  refine xg_K_count F hK w qk_31 qd_K_apartFromHeirs_4 ?_
  refine lv_icmp_ge (tgt := 36) F.1 F.2.1 qd_K_apartFromHeirs_7 (by decide) (fun hc1 => ?_) (fun hc1 => ?_)
  · rw [if_pos hc1] at hM
    refine lv_iconst (v := 1) F.1 F.2.1 qd_K_apartFromHeirs_36 (by decide) ?_
    cases hM
    exact hQ _ _ _ _ qd_K_apartFromHeirs_37 w
  · rw [if_neg hc1] at hM
    refine lv_aload_n F.1 F.2.1 qd_K_apartFromHeirs_10 rfl (lv_at hl 0 rfl) ?_
    refine lv_iload_n F.1 F.2.1 qd_K_apartFromHeirs_11 rfl (lv_at hl 3 rfl) ?_
    refine lv_iload_n F.1 F.2.1 qd_K_apartFromHeirs_12 rfl (lv_at hl 2 rfl) ?_
    obtain ⟨q2, hq3, hM⟩ := qbd hM
    refine x_calli F hK hN hA w (c_K_isHeir l D ad cI hq3) qk_237 qk_239 qs_K_isHeir qk_2 qk_240 qv_K_isHeir rfl rfl ⟨Nat.le_trans (by decide) hR.1, Nat.le_trans (by decide) hR.2⟩ (ci := 0) rfl (j := 1) rfl hl.1 rfl (Nat.le_of_ble_eq_true rfl) qd_K_apartFromHeirs_13 (fun H locs w => ?_)
    refine lv_if_eq (tgt := 30) F.1 F.2.1 qd_K_apartFromHeirs_16 (by decide) (fun hc4 => ?_) (fun hc4 => ?_)
    · rw [if_pos hc4] at hM
      refine lv_iinc (v := (v3 + (1 : Int32))) (lv' := [(3, .int (v3 + (1 : Int32))), (0, .ref (ad 1)), (1, .int v1), (2, .int v2)]) F.1 F.2.1 qd_K_apartFromHeirs_30 hl (k := 3) rfl rfl (by decide) rfl (fun ls hl => ?_)
      refine lv_goto (tgt := 2) F.1 F.2.1 qd_K_apartFromHeirs_33 (by decide) ?_
      exact hk_2 _ _ _ hM w (lv_sub hl [1, 2, 3, 0] rfl)
    · rw [if_neg hc4] at hM
      refine lv_aload_n F.1 F.2.1 qd_K_apartFromHeirs_19 rfl (lv_at hl 0 rfl) ?_
      refine lv_iload_n F.1 F.2.1 qd_K_apartFromHeirs_20 rfl (lv_at hl 1 rfl) ?_
      refine lv_iload_n F.1 F.2.1 qd_K_apartFromHeirs_21 rfl (lv_at hl 3 rfl) ?_
      obtain ⟨q5, hq6, hM⟩ := qbd hM
      refine x_calli F hK hN hA w (c_K_areApart l D ad cI hq6) qk_241 qk_242 qk_243 qk_2 qk_244 qv_K_areApart rfl rfl ⟨Nat.le_trans (by decide) hR.1, Nat.le_trans (by decide) hR.2⟩ (ci := 0) rfl (j := 1) rfl hl.1 rfl (Nat.le_of_ble_eq_true rfl) qd_K_apartFromHeirs_22 (fun H locs w => ?_)
      refine lv_if_ne (tgt := 30) F.1 F.2.1 qd_K_apartFromHeirs_25 (by decide) (fun hc7 => ?_) (fun hc7 => ?_)
      · rw [if_neg hc7] at hM
        refine lv_iinc (v := (v3 + (1 : Int32))) (lv' := [(3, .int (v3 + (1 : Int32))), (0, .ref (ad 1)), (1, .int v1), (2, .int v2)]) F.1 F.2.1 qd_K_apartFromHeirs_30 hl (k := 3) rfl rfl (by decide) rfl (fun ls hl => ?_)
        refine lv_goto (tgt := 2) F.1 F.2.1 qd_K_apartFromHeirs_33 (by decide) ?_
        exact hk_2 _ _ _ hM w (lv_sub hl [1, 2, 3, 0] rfl)
      · rw [if_pos hc7] at hM
        refine lv_iconst (v := 0) F.1 F.2.1 qd_K_apartFromHeirs_28 (by decide) ?_
        cases hM
        exact hQ _ _ _ _ qd_K_apartFromHeirs_29 w
set_option maxRecDepth 100000 in
set_option maxHeartbeats 4000000 in
theorem t_K_apartFromHeirs_2 {p : Program} {l : Launch} {e : Env} {R : Room} {s : State} {m : MethodId} {args : Array Value} {below : List Frame} {meth : Method} {c : Code} {Q : State → Prop} {D : va_G} {ad : Nat → Nat} {cI : ClassId} {A : Nat → Prop} (F : CallFix p m c qb_K_apartFromHeirs 4 s args qtb "CaptureSubtypes$Classes") (hR : 1 ≤ R.frames ∧ 22 ≤ R.locals) (hK : va_K D qcl [(cI, .int)] s) (hN : qnests xns s) (hA : ∀ q, s.heap.size ≤ q → A q) {res : Bool} {S : (Nat → Nat → Int32)} (hQ : ∀ (H : Heap) (locs : List Loc) (pc : Nat) (ls : Array Slot), decode qb_K_apartFromHeirs pc = .ok (.ireturn, 1) → xW D ad cI A s.heap S H locs → W p l e R s m args below meth c H locs 0 0 Q (F0 m pc ls [.int (qB res)])) : ∀ (n : Nat) (v1 v2 v3 : Int32) (hM : f_K_apartFromHeirs_2 n S v1 v2 v3 = some res) {H : Heap} {locs : List Loc} {ls : Array Slot} (w : xW D ad cI A s.heap S H locs) (hl : lv_has ls 4 [(0, .ref (ad 1)), (1, .int v1), (2, .int v2), (3, .int v3)]), W p l e R s m args below meth c H locs 0 0 Q (F0 m 2 ls []) := by
  intro n
  induction n with
  | zero => intro v1 v2 v3 hM; exact absurd hM (by simp [f_K_apartFromHeirs_2])
  | succ n ih => intro v1 v2 v3 hM H locs ls w hl; exact tb_K_apartFromHeirs_2 F hR hK hN hA hQ (k_2 := f_K_apartFromHeirs_2 n) (fun v1 v2 v3 hM H locs ls w hl => ih v1 v2 v3 hM w hl) v1 v2 v3 hM w hl
set_option maxRecDepth 100000 in
set_option maxHeartbeats 4000000 in
theorem t_K_apartFromHeirs {p : Program} {l : Launch} {e : Env} {R : Room} {s : State} {m : MethodId} {args : Array Value} {below : List Frame} {meth : Method} {c : Code} {Q : State → Prop} {D : va_G} {ad : Nat → Nat} {cI : ClassId} {A : Nat → Prop} (F : CallFix p m c qb_K_apartFromHeirs 4 s args qtb "CaptureSubtypes$Classes") (hR : 1 ≤ R.frames ∧ 22 ≤ R.locals) (hK : va_K D qcl [(cI, .int)] s) (hN : qnests xns s) (hA : ∀ q, s.heap.size ≤ q → A q) {res : Bool} {S : (Nat → Nat → Int32)} (hQ : ∀ (H : Heap) (locs : List Loc) (pc : Nat) (ls : Array Slot), decode qb_K_apartFromHeirs pc = .ok (.ireturn, 1) → xW D ad cI A s.heap S H locs → W p l e R s m args below meth c H locs 0 0 Q (F0 m pc ls [.int (qB res)])) (a1 a2 : Int32) (hM : f_K_apartFromHeirs S a1 a2 = some res) {H : Heap} {locs : List Loc} {ls : Array Slot} (w : xW D ad cI A s.heap S H locs) (hl : lv_has ls 4 [(0, .ref (ad 1)), (1, .int a1), (2, .int a2)]) : W p l e R s m args below meth c H locs 0 0 Q (F0 m 0 ls []) := by
  unfold f_K_apartFromHeirs at hM
  refine lv_iconst (v := 0) F.1 F.2.1 qd_K_apartFromHeirs_0 (by decide) ?_
  refine lv_istore_n (lv' := [(3, .int (0 : Int32)), (0, .ref (ad 1)), (1, .int a1), (2, .int a2)]) F.1 F.2.1 qd_K_apartFromHeirs_1 rfl hl (by decide) rfl (fun ls hl => ?_)
  exact t_K_apartFromHeirs_2 F hR hK hN hA hQ  qfu _ _ _ hM w (lv_sub hl [1, 2, 3, 0] rfl)
set_option maxRecDepth 100000 in
theorem c_K_apartFromHeirs (l : Launch) (D : va_G) (ad : Nat → Nat) (cI : ClassId) {S : (Nat → Nat → Int32)} {a1 a2 : Int32} {res : Bool} (hM : f_K_apartFromHeirs S a1 a2 = some res) : xMi l qy_K_apartFromHeirs qb_K_apartFromHeirs 4 (some .boolean) { frames := 1, cells := 0, slots := 0, locals := 22 } D ad cI S [.ref (ad 1), .int a1, .int a2] (qB res) S := x_ofz (by decide +kernel) (Nat.le_of_ble_eq_true rfl) (fun p e s m args below meth c Q A ls F hK hN hA w hl hQ => t_K_apartFromHeirs F ⟨Nat.le_refl _, Nat.le_refl _⟩ hK hN hA hQ a1 a2 hM w hl)
-- K_mustBeApart
def f_K_mustBeApart_73 (S : (Nat → Nat → Int32)) (v1 v2 : Int32) : Option Bool := (f_K_isSealed S v2).bind (fun q1 => if (qB q1) = 0 then (some false) else ((f_K_apartFromHeirs S v1 v2).bind (fun q4 => if (qB q4) = 0 then (some false) else (some true))))
def f_K_mustBeApart_36 (S : (Nat → Nat → Int32)) (v1 v2 : Int32) : Option Bool := (f_K_kindOf S v1).bind (fun q1 => if q1 = (1 : Int32) then (some true) else ((f_K_kindOf S v2).bind (fun q4 => if q4 = (1 : Int32) then (some true) else ((f_K_isSealed S v1).bind (fun q7 => if (qB q7) = 0 then (f_K_mustBeApart_73  S v1 v2) else ((f_K_heirsApartFrom S v1 v2).bind (fun q10 => if (qB q10) = 0 then (f_K_mustBeApart_73  S v1 v2) else (some true))))))))
def f_K_mustBeApart (S : (Nat → Nat → Int32)) (a1 a2 : Int32) : Option Bool := (f_K_isUnder S a1 a2).bind (fun q1 => if (qB q1) = 0 then ((f_K_isUnder S a2 a1).bind (fun q4 => if (qB q4) = 0 then ((f_K_isFace S a1).bind (fun q7 => if (qB q7) = 0 then ((f_K_isFace S a2).bind (fun q10 => if (qB q10) = 0 then (some true) else (f_K_mustBeApart_36  S a1 a2))) else (f_K_mustBeApart_36  S a1 a2))) else (some false))) else (some false))
set_option maxRecDepth 100000 in
set_option maxHeartbeats 4000000 in
theorem t_K_mustBeApart_73 {p : Program} {l : Launch} {e : Env} {R : Room} {s : State} {m : MethodId} {args : Array Value} {below : List Frame} {meth : Method} {c : Code} {Q : State → Prop} {D : va_G} {ad : Nat → Nat} {cI : ClassId} {A : Nat → Prop} (F : CallFix p m c qb_K_mustBeApart 3 s args qtb "CaptureSubtypes$Classes") (hR : 2 ≤ R.frames ∧ 45 ≤ R.locals) (hK : va_K D qcl [(cI, .int)] s) (hN : qnests xns s) (hA : ∀ q, s.heap.size ≤ q → A q) {res : Bool} {S : (Nat → Nat → Int32)} (hQ : ∀ (H : Heap) (locs : List Loc) (pc : Nat) (ls : Array Slot), decode qb_K_mustBeApart pc = .ok (.ireturn, 1) → xW D ad cI A s.heap S H locs → W p l e R s m args below meth c H locs 0 0 Q (F0 m pc ls [.int (qB res)])) (v1 v2 : Int32) (hM : f_K_mustBeApart_73 S v1 v2 = some res) {H : Heap} {locs : List Loc} {ls : Array Slot} (w : xW D ad cI A s.heap S H locs) (hl : lv_has ls 3 [(0, .ref (ad 1)), (1, .int v1), (2, .int v2)]) : W p l e R s m args below meth c H locs 0 0 Q (F0 m 73 ls []) := by
  unfold f_K_mustBeApart_73 at hM
  refine lv_aload_n F.1 F.2.1 qd_K_mustBeApart_73 rfl (lv_at hl 0 rfl) ?_
  refine lv_iload_n F.1 F.2.1 qd_K_mustBeApart_74 rfl (lv_at hl 2 rfl) ?_
  obtain ⟨q1, hq2, hM⟩ := qbd hM
  refine x_calli F hK hN hA w (c_K_isSealed l D ad cI hq2) qk_229 qk_231 qs_K_isSealed qk_2 qk_232 qv_K_isSealed rfl rfl ⟨Nat.le_trans (by decide) hR.1, Nat.le_trans (by decide) hR.2⟩ (ci := 0) rfl (j := 1) rfl hl.1 rfl (Nat.le_of_ble_eq_true rfl) qd_K_mustBeApart_75 (fun H locs w => ?_)
  refine lv_if_eq (tgt := 94) F.1 F.2.1 qd_K_mustBeApart_78 (by decide) (fun hc3 => ?_) (fun hc3 => ?_)
  · rw [if_pos hc3] at hM
    refine lv_iconst (v := 0) F.1 F.2.1 qd_K_mustBeApart_94 (by decide) ?_
    cases hM
    exact hQ _ _ _ _ qd_K_mustBeApart_95 w
  · rw [if_neg hc3] at hM
    refine lv_aload_n F.1 F.2.1 qd_K_mustBeApart_81 rfl (lv_at hl 0 rfl) ?_
    refine lv_iload_n F.1 F.2.1 qd_K_mustBeApart_82 rfl (lv_at hl 1 rfl) ?_
    refine lv_iload_n F.1 F.2.1 qd_K_mustBeApart_83 rfl (lv_at hl 2 rfl) ?_
    obtain ⟨q4, hq5, hM⟩ := qbd hM
    refine x_calli F hK hN hA w (c_K_apartFromHeirs l D ad cI hq5) qk_245 qk_247 qs_K_apartFromHeirs qk_2 qk_248 qv_K_apartFromHeirs rfl rfl ⟨Nat.le_trans (by decide) hR.1, Nat.le_trans (by decide) hR.2⟩ (ci := 0) rfl (j := 1) rfl hl.1 rfl (Nat.le_of_ble_eq_true rfl) qd_K_mustBeApart_84 (fun H locs w => ?_)
    refine lv_if_eq (tgt := 94) F.1 F.2.1 qd_K_mustBeApart_87 (by decide) (fun hc6 => ?_) (fun hc6 => ?_)
    · rw [if_pos hc6] at hM
      refine lv_iconst (v := 0) F.1 F.2.1 qd_K_mustBeApart_94 (by decide) ?_
      cases hM
      exact hQ _ _ _ _ qd_K_mustBeApart_95 w
    · rw [if_neg hc6] at hM
      refine lv_iconst (v := 1) F.1 F.2.1 qd_K_mustBeApart_90 (by decide) ?_
      refine lv_goto (tgt := 95) F.1 F.2.1 qd_K_mustBeApart_91 (by decide) ?_
      cases hM
      exact hQ _ _ _ _ qd_K_mustBeApart_95 w
set_option maxRecDepth 100000 in
set_option maxHeartbeats 4000000 in
theorem t_K_mustBeApart_36 {p : Program} {l : Launch} {e : Env} {R : Room} {s : State} {m : MethodId} {args : Array Value} {below : List Frame} {meth : Method} {c : Code} {Q : State → Prop} {D : va_G} {ad : Nat → Nat} {cI : ClassId} {A : Nat → Prop} (F : CallFix p m c qb_K_mustBeApart 3 s args qtb "CaptureSubtypes$Classes") (hR : 2 ≤ R.frames ∧ 45 ≤ R.locals) (hK : va_K D qcl [(cI, .int)] s) (hN : qnests xns s) (hA : ∀ q, s.heap.size ≤ q → A q) {res : Bool} {S : (Nat → Nat → Int32)} (hQ : ∀ (H : Heap) (locs : List Loc) (pc : Nat) (ls : Array Slot), decode qb_K_mustBeApart pc = .ok (.ireturn, 1) → xW D ad cI A s.heap S H locs → W p l e R s m args below meth c H locs 0 0 Q (F0 m pc ls [.int (qB res)])) (v1 v2 : Int32) (hM : f_K_mustBeApart_36 S v1 v2 = some res) {H : Heap} {locs : List Loc} {ls : Array Slot} (w : xW D ad cI A s.heap S H locs) (hl : lv_has ls 3 [(0, .ref (ad 1)), (1, .int v1), (2, .int v2)]) : W p l e R s m args below meth c H locs 0 0 Q (F0 m 36 ls []) := by
  unfold f_K_mustBeApart_36 at hM
  refine lv_aload_n F.1 F.2.1 qd_K_mustBeApart_36 rfl (lv_at hl 0 rfl) ?_
  refine lv_iload_n F.1 F.2.1 qd_K_mustBeApart_37 rfl (lv_at hl 1 rfl) ?_
  obtain ⟨q1, hq2, hM⟩ := qbd hM
  refine x_calli F hK hN hA w (c_K_kindOf l D ad cI hq2) qk_225 qk_226 qk_227 qk_2 qk_228 qv_K_kindOf rfl rfl ⟨Nat.le_trans (by decide) hR.1, Nat.le_trans (by decide) hR.2⟩ (ci := 0) rfl (j := 1) rfl hl.1 rfl (Nat.le_of_ble_eq_true rfl) qd_K_mustBeApart_38 (fun H locs w => ?_)
  refine lv_iconst (v := 1) F.1 F.2.1 qd_K_mustBeApart_41 (by decide) ?_
  refine lv_icmp_eq (tgt := 54) F.1 F.2.1 qd_K_mustBeApart_42 (by decide) (fun hc3 => ?_) (fun hc3 => ?_)
  · rw [if_pos hc3] at hM
    refine lv_iconst (v := 1) F.1 F.2.1 qd_K_mustBeApart_54 (by decide) ?_
    cases hM
    exact hQ _ _ _ _ qd_K_mustBeApart_55 w
  · rw [if_neg hc3] at hM
    refine lv_aload_n F.1 F.2.1 qd_K_mustBeApart_45 rfl (lv_at hl 0 rfl) ?_
    refine lv_iload_n F.1 F.2.1 qd_K_mustBeApart_46 rfl (lv_at hl 2 rfl) ?_
    obtain ⟨q4, hq5, hM⟩ := qbd hM
    refine x_calli F hK hN hA w (c_K_kindOf l D ad cI hq5) qk_225 qk_226 qk_227 qk_2 qk_228 qv_K_kindOf rfl rfl ⟨Nat.le_trans (by decide) hR.1, Nat.le_trans (by decide) hR.2⟩ (ci := 0) rfl (j := 1) rfl hl.1 rfl (Nat.le_of_ble_eq_true rfl) qd_K_mustBeApart_47 (fun H locs w => ?_)
    refine lv_iconst (v := 1) F.1 F.2.1 qd_K_mustBeApart_50 (by decide) ?_
    refine lv_icmp_ne (tgt := 56) F.1 F.2.1 qd_K_mustBeApart_51 (by decide) (fun hc6 => ?_) (fun hc6 => ?_)
    · rw [if_neg hc6] at hM
      refine lv_aload_n F.1 F.2.1 qd_K_mustBeApart_56 rfl (lv_at hl 0 rfl) ?_
      refine lv_iload_n F.1 F.2.1 qd_K_mustBeApart_57 rfl (lv_at hl 1 rfl) ?_
      obtain ⟨q7, hq8, hM⟩ := qbd hM
      refine x_calli F hK hN hA w (c_K_isSealed l D ad cI hq8) qk_229 qk_231 qs_K_isSealed qk_2 qk_232 qv_K_isSealed rfl rfl ⟨Nat.le_trans (by decide) hR.1, Nat.le_trans (by decide) hR.2⟩ (ci := 0) rfl (j := 1) rfl hl.1 rfl (Nat.le_of_ble_eq_true rfl) qd_K_mustBeApart_58 (fun H locs w => ?_)
      refine lv_if_eq (tgt := 73) F.1 F.2.1 qd_K_mustBeApart_61 (by decide) (fun hc9 => ?_) (fun hc9 => ?_)
      · rw [if_pos hc9] at hM
        exact t_K_mustBeApart_73 F hR hK hN hA hQ  _ _ hM w (lv_sub hl [0, 1, 2] rfl)
      · rw [if_neg hc9] at hM
        refine lv_aload_n F.1 F.2.1 qd_K_mustBeApart_64 rfl (lv_at hl 0 rfl) ?_
        refine lv_iload_n F.1 F.2.1 qd_K_mustBeApart_65 rfl (lv_at hl 1 rfl) ?_
        refine lv_iload_n F.1 F.2.1 qd_K_mustBeApart_66 rfl (lv_at hl 2 rfl) ?_
        obtain ⟨q10, hq11, hM⟩ := qbd hM
        refine x_calli F hK hN hA w (c_K_heirsApartFrom l D ad cI hq11) qk_233 qk_235 qs_K_heirsApartFrom qk_2 qk_236 qv_K_heirsApartFrom rfl rfl ⟨Nat.le_trans (by decide) hR.1, Nat.le_trans (by decide) hR.2⟩ (ci := 0) rfl (j := 1) rfl hl.1 rfl (Nat.le_of_ble_eq_true rfl) qd_K_mustBeApart_67 (fun H locs w => ?_)
        refine lv_if_ne (tgt := 90) F.1 F.2.1 qd_K_mustBeApart_70 (by decide) (fun hc12 => ?_) (fun hc12 => ?_)
        · rw [if_neg hc12] at hM
          refine lv_iconst (v := 1) F.1 F.2.1 qd_K_mustBeApart_90 (by decide) ?_
          refine lv_goto (tgt := 95) F.1 F.2.1 qd_K_mustBeApart_91 (by decide) ?_
          cases hM
          exact hQ _ _ _ _ qd_K_mustBeApart_95 w
        · rw [if_pos hc12] at hM
          exact t_K_mustBeApart_73 F hR hK hN hA hQ  _ _ hM w (lv_sub hl [0, 1, 2] rfl)
    · rw [if_pos hc6] at hM
      refine lv_iconst (v := 1) F.1 F.2.1 qd_K_mustBeApart_54 (by decide) ?_
      cases hM
      exact hQ _ _ _ _ qd_K_mustBeApart_55 w
set_option maxRecDepth 100000 in
set_option maxHeartbeats 4000000 in
theorem t_K_mustBeApart {p : Program} {l : Launch} {e : Env} {R : Room} {s : State} {m : MethodId} {args : Array Value} {below : List Frame} {meth : Method} {c : Code} {Q : State → Prop} {D : va_G} {ad : Nat → Nat} {cI : ClassId} {A : Nat → Prop} (F : CallFix p m c qb_K_mustBeApart 3 s args qtb "CaptureSubtypes$Classes") (hR : 2 ≤ R.frames ∧ 45 ≤ R.locals) (hK : va_K D qcl [(cI, .int)] s) (hN : qnests xns s) (hA : ∀ q, s.heap.size ≤ q → A q) {res : Bool} {S : (Nat → Nat → Int32)} (hQ : ∀ (H : Heap) (locs : List Loc) (pc : Nat) (ls : Array Slot), decode qb_K_mustBeApart pc = .ok (.ireturn, 1) → xW D ad cI A s.heap S H locs → W p l e R s m args below meth c H locs 0 0 Q (F0 m pc ls [.int (qB res)])) (a1 a2 : Int32) (hM : f_K_mustBeApart S a1 a2 = some res) {H : Heap} {locs : List Loc} {ls : Array Slot} (w : xW D ad cI A s.heap S H locs) (hl : lv_has ls 3 [(0, .ref (ad 1)), (1, .int a1), (2, .int a2)]) : W p l e R s m args below meth c H locs 0 0 Q (F0 m 0 ls []) := by
  unfold f_K_mustBeApart at hM
  refine lv_aload_n F.1 F.2.1 qd_K_mustBeApart_0 rfl (lv_at hl 0 rfl) ?_
  refine lv_iload_n F.1 F.2.1 qd_K_mustBeApart_1 rfl (lv_at hl 1 rfl) ?_
  refine lv_iload_n F.1 F.2.1 qd_K_mustBeApart_2 rfl (lv_at hl 2 rfl) ?_
  obtain ⟨q1, hq2, hM⟩ := qbd hM
  refine x_calli F hK hN hA w (c_K_isUnder l D ad cI hq2) qk_217 qk_218 qk_219 qk_2 qk_220 qv_K_isUnder rfl rfl ⟨Nat.le_trans (by decide) hR.1, Nat.le_trans (by decide) hR.2⟩ (ci := 0) rfl (j := 1) rfl hl.1 rfl (Nat.le_of_ble_eq_true rfl) qd_K_mustBeApart_3 (fun H locs w => ?_)
  refine lv_if_ne (tgt := 18) F.1 F.2.1 qd_K_mustBeApart_6 (by decide) (fun hc3 => ?_) (fun hc3 => ?_)
  · rw [if_neg hc3] at hM
    refine lv_iconst (v := 0) F.1 F.2.1 qd_K_mustBeApart_18 (by decide) ?_
    cases hM
    exact hQ _ _ _ _ qd_K_mustBeApart_19 w
  · rw [if_pos hc3] at hM
    refine lv_aload_n F.1 F.2.1 qd_K_mustBeApart_9 rfl (lv_at hl 0 rfl) ?_
    refine lv_iload_n F.1 F.2.1 qd_K_mustBeApart_10 rfl (lv_at hl 2 rfl) ?_
    refine lv_iload_n F.1 F.2.1 qd_K_mustBeApart_11 rfl (lv_at hl 1 rfl) ?_
    obtain ⟨q4, hq5, hM⟩ := qbd hM
    refine x_calli F hK hN hA w (c_K_isUnder l D ad cI hq5) qk_217 qk_218 qk_219 qk_2 qk_220 qv_K_isUnder rfl rfl ⟨Nat.le_trans (by decide) hR.1, Nat.le_trans (by decide) hR.2⟩ (ci := 0) rfl (j := 1) rfl hl.1 rfl (Nat.le_of_ble_eq_true rfl) qd_K_mustBeApart_12 (fun H locs w => ?_)
    refine lv_if_eq (tgt := 20) F.1 F.2.1 qd_K_mustBeApart_15 (by decide) (fun hc6 => ?_) (fun hc6 => ?_)
    · rw [if_pos hc6] at hM
      refine lv_aload_n F.1 F.2.1 qd_K_mustBeApart_20 rfl (lv_at hl 0 rfl) ?_
      refine lv_iload_n F.1 F.2.1 qd_K_mustBeApart_21 rfl (lv_at hl 1 rfl) ?_
      obtain ⟨q7, hq8, hM⟩ := qbd hM
      refine x_calli F hK hN hA w (c_K_isFace l D ad cI hq8) qk_221 qk_222 qk_223 qk_2 qk_224 qv_K_isFace rfl rfl ⟨Nat.le_trans (by decide) hR.1, Nat.le_trans (by decide) hR.2⟩ (ci := 0) rfl (j := 1) rfl hl.1 rfl (Nat.le_of_ble_eq_true rfl) qd_K_mustBeApart_22 (fun H locs w => ?_)
      refine lv_if_ne (tgt := 36) F.1 F.2.1 qd_K_mustBeApart_25 (by decide) (fun hc9 => ?_) (fun hc9 => ?_)
      · rw [if_neg hc9] at hM
        exact t_K_mustBeApart_36 F hR hK hN hA hQ  _ _ hM w (lv_sub hl [0, 1, 2] rfl)
      · rw [if_pos hc9] at hM
        refine lv_aload_n F.1 F.2.1 qd_K_mustBeApart_28 rfl (lv_at hl 0 rfl) ?_
        refine lv_iload_n F.1 F.2.1 qd_K_mustBeApart_29 rfl (lv_at hl 2 rfl) ?_
        obtain ⟨q10, hq11, hM⟩ := qbd hM
        refine x_calli F hK hN hA w (c_K_isFace l D ad cI hq11) qk_221 qk_222 qk_223 qk_2 qk_224 qv_K_isFace rfl rfl ⟨Nat.le_trans (by decide) hR.1, Nat.le_trans (by decide) hR.2⟩ (ci := 0) rfl (j := 1) rfl hl.1 rfl (Nat.le_of_ble_eq_true rfl) qd_K_mustBeApart_30 (fun H locs w => ?_)
        refine lv_if_eq (tgt := 54) F.1 F.2.1 qd_K_mustBeApart_33 (by decide) (fun hc12 => ?_) (fun hc12 => ?_)
        · rw [if_pos hc12] at hM
          refine lv_iconst (v := 1) F.1 F.2.1 qd_K_mustBeApart_54 (by decide) ?_
          cases hM
          exact hQ _ _ _ _ qd_K_mustBeApart_55 w
        · rw [if_neg hc12] at hM
          exact t_K_mustBeApart_36 F hR hK hN hA hQ  _ _ hM w (lv_sub hl [0, 1, 2] rfl)
    · rw [if_neg hc6] at hM
      refine lv_iconst (v := 0) F.1 F.2.1 qd_K_mustBeApart_18 (by decide) ?_
      cases hM
      exact hQ _ _ _ _ qd_K_mustBeApart_19 w
set_option maxRecDepth 100000 in
theorem c_K_mustBeApart (l : Launch) (D : va_G) (ad : Nat → Nat) (cI : ClassId) {S : (Nat → Nat → Int32)} {a1 a2 : Int32} {res : Bool} (hM : f_K_mustBeApart S a1 a2 = some res) : xMi l qy_K_mustBeApart qb_K_mustBeApart 3 (some .boolean) { frames := 2, cells := 0, slots := 0, locals := 45 } D ad cI S [.ref (ad 1), .int a1, .int a2] (qB res) S := x_ofz (by decide +kernel) (Nat.le_of_ble_eq_true rfl) (fun p e s m args below meth c Q A ls F hK hN hA w hl hQ => t_K_mustBeApart F ⟨Nat.le_refl _, Nat.le_refl _⟩ hK hN hA hQ a1 a2 hM w hl)
-- K_reckonApart
def fb_K_reckonApart_25 (k_7 : (Nat → Nat → Int32) → Int32 → Option (Nat → Nat → Int32)) (k_25 : (Nat → Nat → Int32) → Int32 → Int32 → Option (Nat → Nat → Int32)) (S : (Nat → Nat → Int32)) (v1 v2 : Int32) : Option (Nat → Nat → Int32) := if v2 < 0 then (k_7 S (v1 + (-1 : Int32))) else ((f_K_mustBeApart S v1 v2).bind (fun q2 => if (qB q2) = 0 then (k_25 S v1 (v2 + (-1 : Int32))) else (qck (qin v1 12) (qck (qin v1 12) (k_25 (qwr S 9 v1.toNatClampNeg ((S 9 v1.toNatClampNeg) ||| ((1 : Int32) <<< (v2 &&& 31)))) v1 (v2 + (-1 : Int32)))))))
def f_K_reckonApart_25 (k_7 : (Nat → Nat → Int32) → Int32 → Option (Nat → Nat → Int32)) : Nat → (Nat → Nat → Int32) → Int32 → Int32 → Option (Nat → Nat → Int32)
  | 0 => fun _ _ _ => none
  | n + 1 => fun S v1 v2 => fb_K_reckonApart_25 k_7 (f_K_reckonApart_25 k_7 n) S v1 v2
def fb_K_reckonApart_7 (k_7 : (Nat → Nat → Int32) → Int32 → Option (Nat → Nat → Int32)) (S : (Nat → Nat → Int32)) (v1 : Int32) : Option (Nat → Nat → Int32) := if v1 < 0 then (some S) else (qck (qin v1 12) (f_K_reckonApart_25 k_7 qfu (qwr S 9 v1.toNatClampNeg (0 : Int32)) v1 (((qwr S 9 v1.toNatClampNeg (0 : Int32)) 0 0) - (1 : Int32))))
def f_K_reckonApart_7 : Nat → (Nat → Nat → Int32) → Int32 → Option (Nat → Nat → Int32)
  | 0 => fun _ _ => none
  | n + 1 => fun S v1 => fb_K_reckonApart_7 (f_K_reckonApart_7 n) S v1
def f_K_reckonApart (S : (Nat → Nat → Int32)) : Option (Nat → Nat → Int32) := f_K_reckonApart_7  qfu S ((S 0 0) - (1 : Int32))
set_option maxRecDepth 100000 in
set_option maxHeartbeats 4000000 in
theorem tb_K_reckonApart_25 {p : Program} {l : Launch} {e : Env} {R : Room} {s : State} {m : MethodId} {args : Array Value} {below : List Frame} {meth : Method} {c : Code} {Q : State → Prop} {D : va_G} {ad : Nat → Nat} {cI : ClassId} {A : Nat → Prop} (F : CallFix p m c qb_K_reckonApart 3 s args qtb "CaptureSubtypes$Classes") (hR : 3 ≤ R.frames ∧ 67 ≤ R.locals) (hK : va_K D qcl [(cI, .int)] s) (hN : qnests xns s) (hA : ∀ q, s.heap.size ≤ q → A q) {res : (Nat → Nat → Int32)} (hQ : ∀ (H : Heap) (locs : List Loc) (pc : Nat) (ls : Array Slot), decode qb_K_reckonApart pc = .ok (.return_, 1) → xW D ad cI A s.heap res H locs → W p l e R s m args below meth c H locs 0 0 Q (F0 m pc ls [])) {k_7 : (Nat → Nat → Int32) → Int32 → Option (Nat → Nat → Int32)} (hk_7 : ∀ (S : Nat → Nat → Int32) (v1 : Int32), k_7 S v1 = some res → ∀ {H : Heap} {locs : List Loc} {ls : Array Slot}, xW D ad cI A s.heap S H locs → lv_has ls 3 [(0, .ref (ad 1)), (1, .int v1)] → W p l e R s m args below meth c H locs 0 0 Q (F0 m 7 ls [])) {k_25 : (Nat → Nat → Int32) → Int32 → Int32 → Option (Nat → Nat → Int32)} (hk_25 : ∀ (S : Nat → Nat → Int32) (v1 v2 : Int32), k_25 S v1 v2 = some res → ∀ {H : Heap} {locs : List Loc} {ls : Array Slot}, xW D ad cI A s.heap S H locs → lv_has ls 3 [(0, .ref (ad 1)), (1, .int v1), (2, .int v2)] → W p l e R s m args below meth c H locs 0 0 Q (F0 m 25 ls [])) (S : (Nat → Nat → Int32)) (v1 v2 : Int32) (hM : fb_K_reckonApart_25 k_7 k_25 S v1 v2 = some res) {H : Heap} {locs : List Loc} {ls : Array Slot} (w : xW D ad cI A s.heap S H locs) (hl : lv_has ls 3 [(0, .ref (ad 1)), (1, .int v1), (2, .int v2)]) : W p l e R s m args below meth c H locs 0 0 Q (F0 m 25 ls []) := by
  unfold fb_K_reckonApart_25 at hM
  refine lv_iload_n F.1 F.2.1 qd_K_reckonApart_25 rfl (lv_at hl 2 rfl) ?_
  refine lv_if_lt (tgt := 56) F.1 F.2.1 qd_K_reckonApart_26 (by decide) (fun hc1 => ?_) (fun hc1 => ?_)
  · rw [if_pos hc1] at hM
    refine lv_iinc (v := (v1 + (-1 : Int32))) (lv' := [(1, .int (v1 + (-1 : Int32))), (0, .ref (ad 1)), (2, .int v2)]) F.1 F.2.1 qd_K_reckonApart_56 hl (k := 1) rfl rfl (by decide) rfl (fun ls hl => ?_)
    refine lv_goto (tgt := 7) F.1 F.2.1 qd_K_reckonApart_59 (by decide) ?_
    exact hk_7 _ _ hM w (lv_sub hl [1, 0] rfl)
  · rw [if_neg hc1] at hM
    refine lv_aload_n F.1 F.2.1 qd_K_reckonApart_29 rfl (lv_at hl 0 rfl) ?_
    refine lv_iload_n F.1 F.2.1 qd_K_reckonApart_30 rfl (lv_at hl 1 rfl) ?_
    refine lv_iload_n F.1 F.2.1 qd_K_reckonApart_31 rfl (lv_at hl 2 rfl) ?_
    obtain ⟨q2, hq3, hM⟩ := qbd hM
    refine x_calli F hK hN hA w (c_K_mustBeApart l D ad cI hq3) qk_213 qk_215 qs_K_mustBeApart qk_2 qk_216 qv_K_mustBeApart rfl rfl ⟨Nat.le_trans (by decide) hR.1, Nat.le_trans (by decide) hR.2⟩ (ci := 0) rfl (j := 1) rfl hl.1 rfl (Nat.le_of_ble_eq_true rfl) qd_K_reckonApart_32 (fun H locs w => ?_)
    refine lv_if_eq (tgt := 50) F.1 F.2.1 qd_K_reckonApart_35 (by decide) (fun hc4 => ?_) (fun hc4 => ?_)
    · rw [if_pos hc4] at hM
      refine lv_iinc (v := (v2 + (-1 : Int32))) (lv' := [(2, .int (v2 + (-1 : Int32))), (0, .ref (ad 1)), (1, .int v1)]) F.1 F.2.1 qd_K_reckonApart_50 hl (k := 2) rfl rfl (by decide) rfl (fun ls hl => ?_)
      refine lv_goto (tgt := 25) F.1 F.2.1 qd_K_reckonApart_53 (by decide) ?_
      exact hk_25 _ _ _ hM w (lv_sub hl [1, 2, 0] rfl)
    · rw [if_neg hc4] at hM
      refine lv_aload_n F.1 F.2.1 qd_K_reckonApart_38 rfl (lv_at hl 0 rfl) ?_
      refine xg_K_apartFrom F hK w qk_43 qd_K_reckonApart_39 ?_
      refine lv_iload_n F.1 F.2.1 qd_K_reckonApart_42 rfl (lv_at hl 1 rfl) ?_
      refine lv_dup2_11 F.1 F.2.1 qd_K_reckonApart_43 rfl rfl ?_
      obtain ⟨hi5, hM⟩ := qck_ok hM
      refine xl_K_apartFrom F hK w hi5 qd_K_reckonApart_44 ?_
      refine lv_iconst (v := 1) F.1 F.2.1 qd_K_reckonApart_45 (by decide) ?_
      refine lv_iload_n F.1 F.2.1 qd_K_reckonApart_46 rfl (lv_at hl 2 rfl) ?_
      refine lv_ishl F.1 F.2.1 qd_K_reckonApart_47 ?_
      refine lv_ior F.1 F.2.1 qd_K_reckonApart_48 ?_
      obtain ⟨hi6, hM⟩ := qck_ok hM
      refine xs_K_apartFrom F hK w hi6 qd_K_reckonApart_49 (fun H locs w => ?_)
      refine lv_iinc (v := (v2 + (-1 : Int32))) (lv' := [(2, .int (v2 + (-1 : Int32))), (0, .ref (ad 1)), (1, .int v1)]) F.1 F.2.1 qd_K_reckonApart_50 hl (k := 2) rfl rfl (by decide) rfl (fun ls hl => ?_)
      refine lv_goto (tgt := 25) F.1 F.2.1 qd_K_reckonApart_53 (by decide) ?_
      exact hk_25 _ _ _ hM w (lv_sub hl [1, 2, 0] rfl)
set_option maxRecDepth 100000 in
set_option maxHeartbeats 4000000 in
theorem t_K_reckonApart_25 {p : Program} {l : Launch} {e : Env} {R : Room} {s : State} {m : MethodId} {args : Array Value} {below : List Frame} {meth : Method} {c : Code} {Q : State → Prop} {D : va_G} {ad : Nat → Nat} {cI : ClassId} {A : Nat → Prop} (F : CallFix p m c qb_K_reckonApart 3 s args qtb "CaptureSubtypes$Classes") (hR : 3 ≤ R.frames ∧ 67 ≤ R.locals) (hK : va_K D qcl [(cI, .int)] s) (hN : qnests xns s) (hA : ∀ q, s.heap.size ≤ q → A q) {res : (Nat → Nat → Int32)} (hQ : ∀ (H : Heap) (locs : List Loc) (pc : Nat) (ls : Array Slot), decode qb_K_reckonApart pc = .ok (.return_, 1) → xW D ad cI A s.heap res H locs → W p l e R s m args below meth c H locs 0 0 Q (F0 m pc ls [])) {k_7 : (Nat → Nat → Int32) → Int32 → Option (Nat → Nat → Int32)} (hk_7 : ∀ (S : Nat → Nat → Int32) (v1 : Int32), k_7 S v1 = some res → ∀ {H : Heap} {locs : List Loc} {ls : Array Slot}, xW D ad cI A s.heap S H locs → lv_has ls 3 [(0, .ref (ad 1)), (1, .int v1)] → W p l e R s m args below meth c H locs 0 0 Q (F0 m 7 ls [])) : ∀ (n : Nat) (S : (Nat → Nat → Int32)) (v1 v2 : Int32) (hM : f_K_reckonApart_25 k_7 n S v1 v2 = some res) {H : Heap} {locs : List Loc} {ls : Array Slot} (w : xW D ad cI A s.heap S H locs) (hl : lv_has ls 3 [(0, .ref (ad 1)), (1, .int v1), (2, .int v2)]), W p l e R s m args below meth c H locs 0 0 Q (F0 m 25 ls []) := by
  intro n
  induction n with
  | zero => intro S v1 v2 hM; exact absurd hM (by simp [f_K_reckonApart_25])
  | succ n ih => intro S v1 v2 hM H locs ls w hl; exact tb_K_reckonApart_25 F hR hK hN hA hQ hk_7 (k_25 := f_K_reckonApart_25 k_7 n) (fun S v1 v2 hM H locs ls w hl => ih S v1 v2 hM w hl) S v1 v2 hM w hl
set_option maxRecDepth 100000 in
set_option maxHeartbeats 4000000 in
theorem tb_K_reckonApart_7 {p : Program} {l : Launch} {e : Env} {R : Room} {s : State} {m : MethodId} {args : Array Value} {below : List Frame} {meth : Method} {c : Code} {Q : State → Prop} {D : va_G} {ad : Nat → Nat} {cI : ClassId} {A : Nat → Prop} (F : CallFix p m c qb_K_reckonApart 3 s args qtb "CaptureSubtypes$Classes") (hR : 3 ≤ R.frames ∧ 67 ≤ R.locals) (hK : va_K D qcl [(cI, .int)] s) (hN : qnests xns s) (hA : ∀ q, s.heap.size ≤ q → A q) {res : (Nat → Nat → Int32)} (hQ : ∀ (H : Heap) (locs : List Loc) (pc : Nat) (ls : Array Slot), decode qb_K_reckonApart pc = .ok (.return_, 1) → xW D ad cI A s.heap res H locs → W p l e R s m args below meth c H locs 0 0 Q (F0 m pc ls [])) {k_7 : (Nat → Nat → Int32) → Int32 → Option (Nat → Nat → Int32)} (hk_7 : ∀ (S : Nat → Nat → Int32) (v1 : Int32), k_7 S v1 = some res → ∀ {H : Heap} {locs : List Loc} {ls : Array Slot}, xW D ad cI A s.heap S H locs → lv_has ls 3 [(0, .ref (ad 1)), (1, .int v1)] → W p l e R s m args below meth c H locs 0 0 Q (F0 m 7 ls [])) (S : (Nat → Nat → Int32)) (v1 : Int32) (hM : fb_K_reckonApart_7 k_7 S v1 = some res) {H : Heap} {locs : List Loc} {ls : Array Slot} (w : xW D ad cI A s.heap S H locs) (hl : lv_has ls 3 [(0, .ref (ad 1)), (1, .int v1)]) : W p l e R s m args below meth c H locs 0 0 Q (F0 m 7 ls []) := by
  unfold fb_K_reckonApart_7 at hM
  refine lv_iload_n F.1 F.2.1 qd_K_reckonApart_7 rfl (lv_at hl 1 rfl) ?_
  refine lv_if_lt (tgt := 62) F.1 F.2.1 qd_K_reckonApart_8 (by decide) (fun hc1 => ?_) (fun hc1 => ?_)
  · rw [if_pos hc1] at hM
    cases hM
    exact hQ _ _ _ _ qd_K_reckonApart_62 w
  · rw [if_neg hc1] at hM
    refine lv_aload_n F.1 F.2.1 qd_K_reckonApart_11 rfl (lv_at hl 0 rfl) ?_
    refine xg_K_apartFrom F hK w qk_43 qd_K_reckonApart_12 ?_
    refine lv_iload_n F.1 F.2.1 qd_K_reckonApart_15 rfl (lv_at hl 1 rfl) ?_
    refine lv_iconst (v := 0) F.1 F.2.1 qd_K_reckonApart_16 (by decide) ?_
    obtain ⟨hi2, hM⟩ := qck_ok hM
    refine xs_K_apartFrom F hK w hi2 qd_K_reckonApart_17 (fun H locs w => ?_)
    refine lv_aload_n F.1 F.2.1 qd_K_reckonApart_18 rfl (lv_at hl 0 rfl) ?_
    refine xg_K_count F hK w qk_31 qd_K_reckonApart_19 ?_
    refine lv_iconst (v := 1) F.1 F.2.1 qd_K_reckonApart_22 (by decide) ?_
    refine lv_isub F.1 F.2.1 qd_K_reckonApart_23 ?_
    refine lv_istore_n (lv' := [(2, .int (((qwr S 9 v1.toNatClampNeg (0 : Int32)) 0 0) - (1 : Int32))), (0, .ref (ad 1)), (1, .int v1)]) F.1 F.2.1 qd_K_reckonApart_24 rfl hl (by decide) rfl (fun ls hl => ?_)
    exact t_K_reckonApart_25 F hR hK hN hA hQ hk_7 qfu _ _ _ hM w (lv_sub hl [1, 2, 0] rfl)
set_option maxRecDepth 100000 in
set_option maxHeartbeats 4000000 in
theorem t_K_reckonApart_7 {p : Program} {l : Launch} {e : Env} {R : Room} {s : State} {m : MethodId} {args : Array Value} {below : List Frame} {meth : Method} {c : Code} {Q : State → Prop} {D : va_G} {ad : Nat → Nat} {cI : ClassId} {A : Nat → Prop} (F : CallFix p m c qb_K_reckonApart 3 s args qtb "CaptureSubtypes$Classes") (hR : 3 ≤ R.frames ∧ 67 ≤ R.locals) (hK : va_K D qcl [(cI, .int)] s) (hN : qnests xns s) (hA : ∀ q, s.heap.size ≤ q → A q) {res : (Nat → Nat → Int32)} (hQ : ∀ (H : Heap) (locs : List Loc) (pc : Nat) (ls : Array Slot), decode qb_K_reckonApart pc = .ok (.return_, 1) → xW D ad cI A s.heap res H locs → W p l e R s m args below meth c H locs 0 0 Q (F0 m pc ls [])) : ∀ (n : Nat) (S : (Nat → Nat → Int32)) (v1 : Int32) (hM : f_K_reckonApart_7 n S v1 = some res) {H : Heap} {locs : List Loc} {ls : Array Slot} (w : xW D ad cI A s.heap S H locs) (hl : lv_has ls 3 [(0, .ref (ad 1)), (1, .int v1)]), W p l e R s m args below meth c H locs 0 0 Q (F0 m 7 ls []) := by
  intro n
  induction n with
  | zero => intro S v1 hM; exact absurd hM (by simp [f_K_reckonApart_7])
  | succ n ih => intro S v1 hM H locs ls w hl; exact tb_K_reckonApart_7 F hR hK hN hA hQ (k_7 := f_K_reckonApart_7 n) (fun S v1 hM H locs ls w hl => ih S v1 hM w hl) S v1 hM w hl
set_option maxRecDepth 100000 in
set_option maxHeartbeats 4000000 in
theorem t_K_reckonApart {p : Program} {l : Launch} {e : Env} {R : Room} {s : State} {m : MethodId} {args : Array Value} {below : List Frame} {meth : Method} {c : Code} {Q : State → Prop} {D : va_G} {ad : Nat → Nat} {cI : ClassId} {A : Nat → Prop} (F : CallFix p m c qb_K_reckonApart 3 s args qtb "CaptureSubtypes$Classes") (hR : 3 ≤ R.frames ∧ 67 ≤ R.locals) (hK : va_K D qcl [(cI, .int)] s) (hN : qnests xns s) (hA : ∀ q, s.heap.size ≤ q → A q) {res : (Nat → Nat → Int32)} (hQ : ∀ (H : Heap) (locs : List Loc) (pc : Nat) (ls : Array Slot), decode qb_K_reckonApart pc = .ok (.return_, 1) → xW D ad cI A s.heap res H locs → W p l e R s m args below meth c H locs 0 0 Q (F0 m pc ls [])) (S : (Nat → Nat → Int32)) (hM : f_K_reckonApart S  = some res) {H : Heap} {locs : List Loc} {ls : Array Slot} (w : xW D ad cI A s.heap S H locs) (hl : lv_has ls 3 [(0, .ref (ad 1))]) : W p l e R s m args below meth c H locs 0 0 Q (F0 m 0 ls []) := by
  unfold f_K_reckonApart at hM
  refine lv_aload_n F.1 F.2.1 qd_K_reckonApart_0 rfl (lv_at hl 0 rfl) ?_
  refine xg_K_count F hK w qk_31 qd_K_reckonApart_1 ?_
  refine lv_iconst (v := 1) F.1 F.2.1 qd_K_reckonApart_4 (by decide) ?_
  refine lv_isub F.1 F.2.1 qd_K_reckonApart_5 ?_
  refine lv_istore_n (lv' := [(1, .int ((S 0 0) - (1 : Int32))), (0, .ref (ad 1))]) F.1 F.2.1 qd_K_reckonApart_6 rfl hl (by decide) rfl (fun ls hl => ?_)
  exact t_K_reckonApart_7 F hR hK hN hA hQ  qfu _ _ hM w (lv_sub hl [1, 0] rfl)
set_option maxRecDepth 100000 in
theorem c_K_reckonApart (l : Launch) (D : va_G) (ad : Nat → Nat) (cI : ClassId) {S : (Nat → Nat → Int32)} {res : (Nat → Nat → Int32)} (hM : f_K_reckonApart S  = some res) : xMv l qy_K_reckonApart qb_K_reckonApart 3 none { frames := 3, cells := 0, slots := 0, locals := 67 } D ad cI S [.ref (ad 1)] res := x_ofv (by decide +kernel) (Nat.le_of_ble_eq_true rfl) (fun p e s m args below meth c Q A ls F hK hN hA w hl hQ => t_K_reckonApart F ⟨Nat.le_refl _, Nat.le_refl _⟩ hK hN hA hQ S  hM w hl)
-- K_reckon
def f_K_reckon (S : (Nat → Nat → Int32)) : Option (Nat → Nat → Int32) := (f_K_reckonAbove S).bind (fun q1 => (f_K_reckonApart q1).bind (fun q3 => some q3))
set_option maxRecDepth 100000 in
set_option maxHeartbeats 4000000 in
theorem t_K_reckon {p : Program} {l : Launch} {e : Env} {R : Room} {s : State} {m : MethodId} {args : Array Value} {below : List Frame} {meth : Method} {c : Code} {Q : State → Prop} {D : va_G} {ad : Nat → Nat} {cI : ClassId} {A : Nat → Prop} (F : CallFix p m c qb_K_reckon 1 s args qtb "CaptureSubtypes$Classes") (hR : 4 ≤ R.frames ∧ 89 ≤ R.locals) (hK : va_K D qcl [(cI, .int)] s) (hN : qnests xns s) (hA : ∀ q, s.heap.size ≤ q → A q) {res : (Nat → Nat → Int32)} (hQ : ∀ (H : Heap) (locs : List Loc) (pc : Nat) (ls : Array Slot), decode qb_K_reckon pc = .ok (.return_, 1) → xW D ad cI A s.heap res H locs → W p l e R s m args below meth c H locs 0 0 Q (F0 m pc ls [])) (S : (Nat → Nat → Int32)) (hM : f_K_reckon S  = some res) {H : Heap} {locs : List Loc} {ls : Array Slot} (w : xW D ad cI A s.heap S H locs) (hl : lv_has ls 1 [(0, .ref (ad 1))]) : W p l e R s m args below meth c H locs 0 0 Q (F0 m 0 ls []) := by
  unfold f_K_reckon at hM
  refine lv_aload_n F.1 F.2.1 qd_K_reckon_0 rfl (lv_at hl 0 rfl) ?_
  obtain ⟨q1, hq2, hM⟩ := qbd hM
  refine x_callv F hK hN hA w (c_K_reckonAbove l D ad cI hq2) qk_201 qk_203 qs_K_reckonAbove qk_2 qk_204 qv_K_reckonAbove rfl rfl ⟨Nat.le_trans (by decide) hR.1, Nat.le_trans (by decide) hR.2⟩ (ci := 0) rfl (j := 1) rfl hl.1 rfl (Nat.le_of_ble_eq_true rfl) qd_K_reckon_1 (fun H locs w => ?_)
  refine lv_aload_n F.1 F.2.1 qd_K_reckon_4 rfl (lv_at hl 0 rfl) ?_
  obtain ⟨q3, hq4, hM⟩ := qbd hM
  refine x_callv F hK hN hA w (c_K_reckonApart l D ad cI hq4) qk_209 qk_211 qs_K_reckonApart qk_2 qk_212 qv_K_reckonApart rfl rfl ⟨Nat.le_trans (by decide) hR.1, Nat.le_trans (by decide) hR.2⟩ (ci := 0) rfl (j := 1) rfl hl.1 rfl (Nat.le_of_ble_eq_true rfl) qd_K_reckon_5 (fun H locs w => ?_)
  cases hM
  exact hQ _ _ _ _ qd_K_reckon_8 w
set_option maxRecDepth 100000 in
theorem c_K_reckon (l : Launch) (D : va_G) (ad : Nat → Nat) (cI : ClassId) {S : (Nat → Nat → Int32)} {res : (Nat → Nat → Int32)} (hM : f_K_reckon S  = some res) : xMv l qy_K_reckon qb_K_reckon 1 none { frames := 4, cells := 0, slots := 0, locals := 89 } D ad cI S [.ref (ad 1)] res := x_ofv (by decide +kernel) (Nat.le_of_ble_eq_true rfl) (fun p e s m args below meth c Q A ls F hK hN hA w hl hQ => t_K_reckon F ⟨Nat.le_refl _, Nat.le_refl _⟩ hK hN hA hQ S  hM w hl)
-- K_add
def f_K_add_25 (S : (Nat → Nat → Int32)) (s1 s2 s3 : Int32) : Option (Int32 × (Nat → Nat → Int32)) := (f_K_write S s1 s2 s3).bind (fun q1 => (f_K_reckon q1).bind (fun q3 => some (((q3 0 0) - (1 : Int32)), q3)))
def f_K_add (S : (Nat → Nat → Int32)) (a1 a2 : Int32) : Option (Int32 × (Nat → Nat → Int32)) := if (S 0 0) < (12 : Int32) then (if (3 : Int32) ≤ a1 then (f_K_add_25  S a1 a2 (-1 : Int32)) else (f_K_add_25  S a1 a2 (0 : Int32))) else (some ((-3 : Int32), S))
set_option maxRecDepth 100000 in
set_option maxHeartbeats 4000000 in
theorem t_K_add_25 {p : Program} {l : Launch} {e : Env} {R : Room} {s : State} {m : MethodId} {args : Array Value} {below : List Frame} {meth : Method} {c : Code} {Q : State → Prop} {D : va_G} {ad : Nat → Nat} {cI : ClassId} {A : Nat → Prop} (F : CallFix p m c qb_K_add 3 s args qtb "CaptureSubtypes$Classes") (hR : 5 ≤ R.frames ∧ 109 ≤ R.locals) (hK : va_K D qcl [(cI, .int)] s) (hN : qnests xns s) (hA : ∀ q, s.heap.size ≤ q → A q) {res : (Int32 × (Nat → Nat → Int32))} (hQ : ∀ (H : Heap) (locs : List Loc) (pc : Nat) (ls : Array Slot), decode qb_K_add pc = .ok (.ireturn, 1) → xW D ad cI A s.heap res.2 H locs → W p l e R s m args below meth c H locs 0 0 Q (F0 m pc ls [.int res.1])) (S : (Nat → Nat → Int32)) (s1 s2 s3 : Int32) (hM : f_K_add_25 S s1 s2 s3 = some res) {H : Heap} {locs : List Loc} {ls : Array Slot} (w : xW D ad cI A s.heap S H locs) (hl : lv_has ls 3 [(0, .ref (ad 1))]) : W p l e R s m args below meth c H locs 0 0 Q (F0 m 25 ls [.int s3, .int s2, .int s1, .ref (ad 1)]) := by
  unfold f_K_add_25 at hM
  obtain ⟨q1, hq2, hM⟩ := qbd hM
  refine x_callv F hK hN hA w (c_K_write l D ad cI hq2) qk_27 qk_29 qs_K_write qk_2 qk_30 qv_K_write rfl rfl ⟨Nat.le_trans (by decide) hR.1, Nat.le_trans (by decide) hR.2⟩ (ci := 0) rfl (j := 1) rfl hl.1 rfl (Nat.le_of_ble_eq_true rfl) qd_K_add_25 (fun H locs w => ?_)
  refine lv_aload_n F.1 F.2.1 qd_K_add_28 rfl (lv_at hl 0 rfl) ?_
  obtain ⟨q3, hq4, hM⟩ := qbd hM
  refine x_callv F hK hN hA w (c_K_reckon l D ad cI hq4) qk_197 qk_199 qs_K_reckon qk_2 qk_200 qv_K_reckon rfl rfl ⟨Nat.le_trans (by decide) hR.1, Nat.le_trans (by decide) hR.2⟩ (ci := 0) rfl (j := 1) rfl hl.1 rfl (Nat.le_of_ble_eq_true rfl) qd_K_add_29 (fun H locs w => ?_)
  refine lv_aload_n F.1 F.2.1 qd_K_add_32 rfl (lv_at hl 0 rfl) ?_
  refine xg_K_count F hK w qk_31 qd_K_add_33 ?_
  refine lv_iconst (v := 1) F.1 F.2.1 qd_K_add_36 (by decide) ?_
  refine lv_isub F.1 F.2.1 qd_K_add_37 ?_
  cases hM
  exact hQ _ _ _ _ qd_K_add_38 w
set_option maxRecDepth 100000 in
set_option maxHeartbeats 4000000 in
theorem t_K_add {p : Program} {l : Launch} {e : Env} {R : Room} {s : State} {m : MethodId} {args : Array Value} {below : List Frame} {meth : Method} {c : Code} {Q : State → Prop} {D : va_G} {ad : Nat → Nat} {cI : ClassId} {A : Nat → Prop} (F : CallFix p m c qb_K_add 3 s args qtb "CaptureSubtypes$Classes") (hR : 5 ≤ R.frames ∧ 109 ≤ R.locals) (hK : va_K D qcl [(cI, .int)] s) (hN : qnests xns s) (hA : ∀ q, s.heap.size ≤ q → A q) {res : (Int32 × (Nat → Nat → Int32))} (hQ : ∀ (H : Heap) (locs : List Loc) (pc : Nat) (ls : Array Slot), decode qb_K_add pc = .ok (.ireturn, 1) → xW D ad cI A s.heap res.2 H locs → W p l e R s m args below meth c H locs 0 0 Q (F0 m pc ls [.int res.1])) (S : (Nat → Nat → Int32)) (a1 a2 : Int32) (hM : f_K_add S a1 a2 = some res) {H : Heap} {locs : List Loc} {ls : Array Slot} (w : xW D ad cI A s.heap S H locs) (hl : lv_has ls 3 [(0, .ref (ad 1)), (1, .int a1), (2, .int a2)]) : W p l e R s m args below meth c H locs 0 0 Q (F0 m 0 ls []) := by
  unfold f_K_add at hM
  refine lv_aload_n F.1 F.2.1 qd_K_add_0 rfl (lv_at hl 0 rfl) ?_
  refine xg_K_count F hK w qk_31 qd_K_add_1 ?_
  refine lv_bipush (v := 12) F.1 F.2.1 qd_K_add_4 (by decide) ?_
  refine lv_icmp_lt (tgt := 12) F.1 F.2.1 qd_K_add_6 (by decide) (fun hc1 => ?_) (fun hc1 => ?_)
  · rw [if_pos hc1] at hM
    refine lv_aload_n F.1 F.2.1 qd_K_add_12 rfl (lv_at hl 0 rfl) ?_
    refine lv_iload_n F.1 F.2.1 qd_K_add_13 rfl (lv_at hl 1 rfl) ?_
    refine lv_iload_n F.1 F.2.1 qd_K_add_14 rfl (lv_at hl 2 rfl) ?_
    refine lv_iload_n F.1 F.2.1 qd_K_add_15 rfl (lv_at hl 1 rfl) ?_
    refine lv_iconst (v := 3) F.1 F.2.1 qd_K_add_16 (by decide) ?_
    refine lv_icmp_ge (tgt := 24) F.1 F.2.1 qd_K_add_17 (by decide) (fun hc2 => ?_) (fun hc2 => ?_)
    · rw [if_pos hc2] at hM
      refine lv_iconst (v := (-1)) F.1 F.2.1 qd_K_add_24 (by decide) ?_
      exact t_K_add_25 F hR hK hN hA hQ  _ _ _ _ hM w (lv_sub hl [0] rfl)
    · rw [if_neg hc2] at hM
      refine lv_iconst (v := 0) F.1 F.2.1 qd_K_add_20 (by decide) ?_
      refine lv_goto (tgt := 25) F.1 F.2.1 qd_K_add_21 (by decide) ?_
      exact t_K_add_25 F hR hK hN hA hQ  _ _ _ _ hM w (lv_sub hl [0] rfl)
  · rw [if_neg hc1] at hM
    refine lv_bipush (v := (-3)) F.1 F.2.1 qd_K_add_9 (by decide) ?_
    cases hM
    exact hQ _ _ _ _ qd_K_add_11 w
set_option maxRecDepth 100000 in
theorem c_K_add (l : Launch) (D : va_G) (ad : Nat → Nat) (cI : ClassId) {S : (Nat → Nat → Int32)} {a1 a2 : Int32} {res : (Int32 × (Nat → Nat → Int32))} (hM : f_K_add S a1 a2 = some res) : xMi l qy_K_add qb_K_add 3 (some .int) { frames := 5, cells := 0, slots := 0, locals := 109 } D ad cI S [.ref (ad 1), .int a1, .int a2] res.1 res.2 := x_ofi (by decide +kernel) (Nat.le_of_ble_eq_true rfl) (fun p e s m args below meth c Q A ls F hK hN hA w hl hQ => t_K_add F ⟨Nat.le_refl _, Nat.le_refl _⟩ hK hN hA hQ S a1 a2 hM w hl)
-- X_declare
def f_X_declare (S : (Nat → Nat → Int32)) (a1 a2 : Int32) : Option (Int32 × (Nat → Nat → Int32)) := if a1 < 0 then (some ((-2 : Int32), S)) else (if (4 : Int32) < a1 then (some ((-2 : Int32), S)) else (if a2 < 0 then (some ((-2 : Int32), S)) else (if a2 ≤ (2 : Int32) then ((f_K_add S a1 a2).bind (fun q5 => some (q5.1, q5.2))) else (some ((-2 : Int32), S)))))
set_option maxRecDepth 100000 in
set_option maxHeartbeats 4000000 in
theorem t_X_declare {p : Program} {l : Launch} {e : Env} {R : Room} {s : State} {m : MethodId} {args : Array Value} {below : List Frame} {meth : Method} {c : Code} {Q : State → Prop} {D : va_G} {ad : Nat → Nat} {cI : ClassId} {A : Nat → Prop} (F : CallFix p m c qb_X_declare 3 s args qtb "CaptureSubtypes") (hR : 6 ≤ R.frames ∧ 131 ≤ R.locals) (hK : va_K D qcl [(cI, .int)] s) (hN : qnests xns s) (hA : ∀ q, s.heap.size ≤ q → A q) {res : (Int32 × (Nat → Nat → Int32))} (hQ : ∀ (H : Heap) (locs : List Loc) (pc : Nat) (ls : Array Slot), decode qb_X_declare pc = .ok (.ireturn, 1) → xW D ad cI A s.heap res.2 H locs → W p l e R s m args below meth c H locs 0 0 Q (F0 m pc ls [.int res.1])) (S : (Nat → Nat → Int32)) (a1 a2 : Int32) (hM : f_X_declare S a1 a2 = some res) {H : Heap} {locs : List Loc} {ls : Array Slot} (w : xW D ad cI A s.heap S H locs) (hl : lv_has ls 3 [(0, .ref (ad 0)), (1, .int a1), (2, .int a2)]) : W p l e R s m args below meth c H locs 0 0 Q (F0 m 0 ls []) := by
  unfold f_X_declare at hM
  refine lv_iload_n F.1 F.2.1 qd_X_declare_0 rfl (lv_at hl 1 rfl) ?_
  refine lv_if_lt (tgt := 18) F.1 F.2.1 qd_X_declare_1 (by decide) (fun hc1 => ?_) (fun hc1 => ?_)
  · rw [if_pos hc1] at hM
    refine lv_bipush (v := (-2)) F.1 F.2.1 qd_X_declare_18 (by decide) ?_
    cases hM
    exact hQ _ _ _ _ qd_X_declare_20 w
  · rw [if_neg hc1] at hM
    refine lv_iload_n F.1 F.2.1 qd_X_declare_4 rfl (lv_at hl 1 rfl) ?_
    refine lv_iconst (v := 4) F.1 F.2.1 qd_X_declare_5 (by decide) ?_
    refine lv_icmp_gt (tgt := 18) F.1 F.2.1 qd_X_declare_6 (by decide) (fun hc2 => ?_) (fun hc2 => ?_)
    · rw [if_pos hc2] at hM
      refine lv_bipush (v := (-2)) F.1 F.2.1 qd_X_declare_18 (by decide) ?_
      cases hM
      exact hQ _ _ _ _ qd_X_declare_20 w
    · rw [if_neg hc2] at hM
      refine lv_iload_n F.1 F.2.1 qd_X_declare_9 rfl (lv_at hl 2 rfl) ?_
      refine lv_if_lt (tgt := 18) F.1 F.2.1 qd_X_declare_10 (by decide) (fun hc3 => ?_) (fun hc3 => ?_)
      · rw [if_pos hc3] at hM
        refine lv_bipush (v := (-2)) F.1 F.2.1 qd_X_declare_18 (by decide) ?_
        cases hM
        exact hQ _ _ _ _ qd_X_declare_20 w
      · rw [if_neg hc3] at hM
        refine lv_iload_n F.1 F.2.1 qd_X_declare_13 rfl (lv_at hl 2 rfl) ?_
        refine lv_iconst (v := 2) F.1 F.2.1 qd_X_declare_14 (by decide) ?_
        refine lv_icmp_le (tgt := 21) F.1 F.2.1 qd_X_declare_15 (by decide) (fun hc4 => ?_) (fun hc4 => ?_)
        · rw [if_pos hc4] at hM
          refine lv_aload_n F.1 F.2.1 qd_X_declare_21 rfl (lv_at hl 0 rfl) ?_
          refine xg_X_classes F hK w qk_167 qd_X_declare_22 ?_
          refine lv_iload_n F.1 F.2.1 qd_X_declare_25 rfl (lv_at hl 1 rfl) ?_
          refine lv_iload_n F.1 F.2.1 qd_X_declare_26 rfl (lv_at hl 2 rfl) ?_
          obtain ⟨q5, hq6, hM⟩ := qbd hM
          refine x_calli F hK hN hA w (c_K_add l D ad cI hq6) qk_193 qk_194 qk_195 qk_2 qk_196 qv_K_add rfl rfl ⟨Nat.le_trans (by decide) hR.1, Nat.le_trans (by decide) hR.2⟩ (ci := 0) rfl (j := 1) rfl hl.1 rfl (Nat.le_of_ble_eq_true rfl) qd_X_declare_27 (fun H locs w => ?_)
          cases hM
          exact hQ _ _ _ _ qd_X_declare_30 w
        · rw [if_neg hc4] at hM
          refine lv_bipush (v := (-2)) F.1 F.2.1 qd_X_declare_18 (by decide) ?_
          cases hM
          exact hQ _ _ _ _ qd_X_declare_20 w
set_option maxRecDepth 100000 in
theorem c_X_declare (l : Launch) (D : va_G) (ad : Nat → Nat) (cI : ClassId) {S : (Nat → Nat → Int32)} {a1 a2 : Int32} {res : (Int32 × (Nat → Nat → Int32))} (hM : f_X_declare S a1 a2 = some res) : xMi l qy_X_declare qb_X_declare 3 (some .int) { frames := 6, cells := 0, slots := 0, locals := 131 } D ad cI S [.ref (ad 0), .int a1, .int a2] res.1 res.2 := x_ofi (by decide +kernel) (Nat.le_of_ble_eq_true rfl) (fun p e s m args below meth c Q A ls F hK hN hA w hl hQ => t_X_declare F ⟨Nat.le_refl _, Nat.le_refl _⟩ hK hN hA hQ S a1 a2 hM w hl)
-- K_has
def f_K_has (S : (Nat → Nat → Int32)) (a1 : Int32) : Option Bool := if a1 < 0 then (some false) else (if (S 0 0) ≤ a1 then (some false) else (some true))
set_option maxRecDepth 100000 in
set_option maxHeartbeats 4000000 in
theorem t_K_has {p : Program} {l : Launch} {e : Env} {R : Room} {s : State} {m : MethodId} {args : Array Value} {below : List Frame} {meth : Method} {c : Code} {Q : State → Prop} {D : va_G} {ad : Nat → Nat} {cI : ClassId} {A : Nat → Prop} (F : CallFix p m c qb_K_has 2 s args qtb "CaptureSubtypes$Classes") (hR : 0 ≤ R.frames ∧ 0 ≤ R.locals) (hK : va_K D qcl [(cI, .int)] s) (hN : qnests xns s) (hA : ∀ q, s.heap.size ≤ q → A q) {res : Bool} {S : (Nat → Nat → Int32)} (hQ : ∀ (H : Heap) (locs : List Loc) (pc : Nat) (ls : Array Slot), decode qb_K_has pc = .ok (.ireturn, 1) → xW D ad cI A s.heap S H locs → W p l e R s m args below meth c H locs 0 0 Q (F0 m pc ls [.int (qB res)])) (a1 : Int32) (hM : f_K_has S a1 = some res) {H : Heap} {locs : List Loc} {ls : Array Slot} (w : xW D ad cI A s.heap S H locs) (hl : lv_has ls 2 [(0, .ref (ad 1)), (1, .int a1)]) : W p l e R s m args below meth c H locs 0 0 Q (F0 m 0 ls []) := by
  unfold f_K_has at hM
  refine lv_iload_n F.1 F.2.1 qd_K_has_0 rfl (lv_at hl 1 rfl) ?_
  refine lv_if_lt (tgt := 16) F.1 F.2.1 qd_K_has_1 (by decide) (fun hc1 => ?_) (fun hc1 => ?_)
  · rw [if_pos hc1] at hM
    refine lv_iconst (v := 0) F.1 F.2.1 qd_K_has_16 (by decide) ?_
    cases hM
    exact hQ _ _ _ _ qd_K_has_17 w
  · rw [if_neg hc1] at hM
    refine lv_iload_n F.1 F.2.1 qd_K_has_4 rfl (lv_at hl 1 rfl) ?_
    refine lv_aload_n F.1 F.2.1 qd_K_has_5 rfl (lv_at hl 0 rfl) ?_
    refine xg_K_count F hK w qk_31 qd_K_has_6 ?_
    refine lv_icmp_ge (tgt := 16) F.1 F.2.1 qd_K_has_9 (by decide) (fun hc2 => ?_) (fun hc2 => ?_)
    · rw [if_pos hc2] at hM
      refine lv_iconst (v := 0) F.1 F.2.1 qd_K_has_16 (by decide) ?_
      cases hM
      exact hQ _ _ _ _ qd_K_has_17 w
    · rw [if_neg hc2] at hM
      refine lv_iconst (v := 1) F.1 F.2.1 qd_K_has_12 (by decide) ?_
      refine lv_goto (tgt := 17) F.1 F.2.1 qd_K_has_13 (by decide) ?_
      cases hM
      exact hQ _ _ _ _ qd_K_has_17 w
set_option maxRecDepth 100000 in
theorem c_K_has (l : Launch) (D : va_G) (ad : Nat → Nat) (cI : ClassId) {S : (Nat → Nat → Int32)} {a1 : Int32} {res : Bool} (hM : f_K_has S a1 = some res) : xMi l qy_K_has qb_K_has 2 (some .boolean) { frames := 0, cells := 0, slots := 0, locals := 0 } D ad cI S [.ref (ad 1), .int a1] (qB res) S := x_ofz (by decide +kernel) (Nat.le_of_ble_eq_true rfl) (fun p e s m args below meth c Q A ls F hK hN hA w hl hQ => t_K_has F ⟨Nat.le_refl _, Nat.le_refl _⟩ hK hN hA hQ a1 hM w hl)
-- T_has
def f_T_has (S : (Nat → Nat → Int32)) (a1 : Int32) : Option Bool := if a1 < 0 then (some false) else (if (S 10 0) ≤ a1 then (some false) else (some true))
set_option maxRecDepth 100000 in
set_option maxHeartbeats 4000000 in
theorem t_T_has {p : Program} {l : Launch} {e : Env} {R : Room} {s : State} {m : MethodId} {args : Array Value} {below : List Frame} {meth : Method} {c : Code} {Q : State → Prop} {D : va_G} {ad : Nat → Nat} {cI : ClassId} {A : Nat → Prop} (F : CallFix p m c qb_T_has 2 s args qtb "CaptureSubtypes$Types") (hR : 0 ≤ R.frames ∧ 0 ≤ R.locals) (hK : va_K D qcl [(cI, .int)] s) (hN : qnests xns s) (hA : ∀ q, s.heap.size ≤ q → A q) {res : Bool} {S : (Nat → Nat → Int32)} (hQ : ∀ (H : Heap) (locs : List Loc) (pc : Nat) (ls : Array Slot), decode qb_T_has pc = .ok (.ireturn, 1) → xW D ad cI A s.heap S H locs → W p l e R s m args below meth c H locs 0 0 Q (F0 m pc ls [.int (qB res)])) (a1 : Int32) (hM : f_T_has S a1 = some res) {H : Heap} {locs : List Loc} {ls : Array Slot} (w : xW D ad cI A s.heap S H locs) (hl : lv_has ls 2 [(0, .ref (ad 2)), (1, .int a1)]) : W p l e R s m args below meth c H locs 0 0 Q (F0 m 0 ls []) := by
  unfold f_T_has at hM
  refine lv_iload_n F.1 F.2.1 qd_T_has_0 rfl (lv_at hl 1 rfl) ?_
  refine lv_if_lt (tgt := 16) F.1 F.2.1 qd_T_has_1 (by decide) (fun hc1 => ?_) (fun hc1 => ?_)
  · rw [if_pos hc1] at hM
    refine lv_iconst (v := 0) F.1 F.2.1 qd_T_has_16 (by decide) ?_
    cases hM
    exact hQ _ _ _ _ qd_T_has_17 w
  · rw [if_neg hc1] at hM
    refine lv_iload_n F.1 F.2.1 qd_T_has_4 rfl (lv_at hl 1 rfl) ?_
    refine lv_aload_n F.1 F.2.1 qd_T_has_5 rfl (lv_at hl 0 rfl) ?_
    refine xg_T_kept F hK w qk_87 qd_T_has_6 ?_
    refine lv_icmp_ge (tgt := 16) F.1 F.2.1 qd_T_has_9 (by decide) (fun hc2 => ?_) (fun hc2 => ?_)
    · rw [if_pos hc2] at hM
      refine lv_iconst (v := 0) F.1 F.2.1 qd_T_has_16 (by decide) ?_
      cases hM
      exact hQ _ _ _ _ qd_T_has_17 w
    · rw [if_neg hc2] at hM
      refine lv_iconst (v := 1) F.1 F.2.1 qd_T_has_12 (by decide) ?_
      refine lv_goto (tgt := 17) F.1 F.2.1 qd_T_has_13 (by decide) ?_
      cases hM
      exact hQ _ _ _ _ qd_T_has_17 w
set_option maxRecDepth 100000 in
theorem c_T_has (l : Launch) (D : va_G) (ad : Nat → Nat) (cI : ClassId) {S : (Nat → Nat → Int32)} {a1 : Int32} {res : Bool} (hM : f_T_has S a1 = some res) : xMi l qy_T_has qb_T_has 2 (some .boolean) { frames := 0, cells := 0, slots := 0, locals := 0 } D ad cI S [.ref (ad 2), .int a1] (qB res) S := x_ofz (by decide +kernel) (Nat.le_of_ble_eq_true rfl) (fun p e s m args below meth c Q A ls F hK hN hA w hl hQ => t_T_has F ⟨Nat.le_refl _, Nat.le_refl _⟩ hK hN hA hQ a1 hM w hl)
-- T_sortOf
def f_T_sortOf (S : (Nat → Nat → Int32)) (a1 : Int32) : Option Int32 := if a1 < 0 then (some (-1 : Int32)) else (if (S 11 0) ≤ a1 then (some (-1 : Int32)) else (qck (qin a1 1024) (some (S 12 a1.toNatClampNeg))))
set_option maxRecDepth 100000 in
set_option maxHeartbeats 4000000 in
theorem t_T_sortOf {p : Program} {l : Launch} {e : Env} {R : Room} {s : State} {m : MethodId} {args : Array Value} {below : List Frame} {meth : Method} {c : Code} {Q : State → Prop} {D : va_G} {ad : Nat → Nat} {cI : ClassId} {A : Nat → Prop} (F : CallFix p m c qb_T_sortOf 2 s args qtb "CaptureSubtypes$Types") (hR : 0 ≤ R.frames ∧ 0 ≤ R.locals) (hK : va_K D qcl [(cI, .int)] s) (hN : qnests xns s) (hA : ∀ q, s.heap.size ≤ q → A q) {res : Int32} {S : (Nat → Nat → Int32)} (hQ : ∀ (H : Heap) (locs : List Loc) (pc : Nat) (ls : Array Slot), decode qb_T_sortOf pc = .ok (.ireturn, 1) → xW D ad cI A s.heap S H locs → W p l e R s m args below meth c H locs 0 0 Q (F0 m pc ls [.int res])) (a1 : Int32) (hM : f_T_sortOf S a1 = some res) {H : Heap} {locs : List Loc} {ls : Array Slot} (w : xW D ad cI A s.heap S H locs) (hl : lv_has ls 2 [(0, .ref (ad 2)), (1, .int a1)]) : W p l e R s m args below meth c H locs 0 0 Q (F0 m 0 ls []) := by
  unfold f_T_sortOf at hM
  refine lv_iload_n F.1 F.2.1 qd_T_sortOf_0 rfl (lv_at hl 1 rfl) ?_
  refine lv_if_lt (tgt := 21) F.1 F.2.1 qd_T_sortOf_1 (by decide) (fun hc1 => ?_) (fun hc1 => ?_)
  · rw [if_pos hc1] at hM
    refine lv_iconst (v := (-1)) F.1 F.2.1 qd_T_sortOf_21 (by decide) ?_
    cases hM
    exact hQ _ _ _ _ qd_T_sortOf_22 w
  · rw [if_neg hc1] at hM
    refine lv_iload_n F.1 F.2.1 qd_T_sortOf_4 rfl (lv_at hl 1 rfl) ?_
    refine lv_aload_n F.1 F.2.1 qd_T_sortOf_5 rfl (lv_at hl 0 rfl) ?_
    refine xg_T_top F hK w qk_89 qd_T_sortOf_6 ?_
    refine lv_icmp_ge (tgt := 21) F.1 F.2.1 qd_T_sortOf_9 (by decide) (fun hc2 => ?_) (fun hc2 => ?_)
    · rw [if_pos hc2] at hM
      refine lv_iconst (v := (-1)) F.1 F.2.1 qd_T_sortOf_21 (by decide) ?_
      cases hM
      exact hQ _ _ _ _ qd_T_sortOf_22 w
    · rw [if_neg hc2] at hM
      refine lv_aload_n F.1 F.2.1 qd_T_sortOf_12 rfl (lv_at hl 0 rfl) ?_
      refine xg_T_sorts F hK w qk_90 qd_T_sortOf_13 ?_
      refine lv_iload_n F.1 F.2.1 qd_T_sortOf_16 rfl (lv_at hl 1 rfl) ?_
      obtain ⟨hi3, hM⟩ := qck_ok hM
      refine xl_T_sorts F hK w hi3 qd_T_sortOf_17 ?_
      refine lv_goto (tgt := 22) F.1 F.2.1 qd_T_sortOf_18 (by decide) ?_
      cases hM
      exact hQ _ _ _ _ qd_T_sortOf_22 w
set_option maxRecDepth 100000 in
theorem c_T_sortOf (l : Launch) (D : va_G) (ad : Nat → Nat) (cI : ClassId) {S : (Nat → Nat → Int32)} {a1 : Int32} {res : Int32} (hM : f_T_sortOf S a1 = some res) : xMi l qy_T_sortOf qb_T_sortOf 2 (some .int) { frames := 0, cells := 0, slots := 0, locals := 0 } D ad cI S [.ref (ad 2), .int a1] res S := x_ofi (by decide +kernel) (Nat.le_of_ble_eq_true rfl) (fun p e s m args below meth c Q A ls F hK hN hA w hl hQ => t_T_sortOf F ⟨Nat.le_refl _, Nat.le_refl _⟩ hK hN hA hQ a1 hM w hl)
-- T_isOfClass
def f_T_isOfClass (S : (Nat → Nat → Int32)) (a1 : Int32) : Option Bool := (f_T_sortOf S a1).bind (fun q1 => if q1 = 0 then (some true) else (if q1 = (1 : Int32) then (some true) else (if q1 = (2 : Int32) then (some true) else (some false))))
set_option maxRecDepth 100000 in
set_option maxHeartbeats 4000000 in
theorem t_T_isOfClass {p : Program} {l : Launch} {e : Env} {R : Room} {s : State} {m : MethodId} {args : Array Value} {below : List Frame} {meth : Method} {c : Code} {Q : State → Prop} {D : va_G} {ad : Nat → Nat} {cI : ClassId} {A : Nat → Prop} (F : CallFix p m c qb_T_isOfClass 3 s args qtb "CaptureSubtypes$Types") (hR : 1 ≤ R.frames ∧ 21 ≤ R.locals) (hK : va_K D qcl [(cI, .int)] s) (hN : qnests xns s) (hA : ∀ q, s.heap.size ≤ q → A q) {res : Bool} {S : (Nat → Nat → Int32)} (hQ : ∀ (H : Heap) (locs : List Loc) (pc : Nat) (ls : Array Slot), decode qb_T_isOfClass pc = .ok (.ireturn, 1) → xW D ad cI A s.heap S H locs → W p l e R s m args below meth c H locs 0 0 Q (F0 m pc ls [.int (qB res)])) (a1 : Int32) (hM : f_T_isOfClass S a1 = some res) {H : Heap} {locs : List Loc} {ls : Array Slot} (w : xW D ad cI A s.heap S H locs) (hl : lv_has ls 3 [(0, .ref (ad 2)), (1, .int a1)]) : W p l e R s m args below meth c H locs 0 0 Q (F0 m 0 ls []) := by
  unfold f_T_isOfClass at hM
  refine lv_aload_n F.1 F.2.1 qd_T_isOfClass_0 rfl (lv_at hl 0 rfl) ?_
  refine lv_iload_n F.1 F.2.1 qd_T_isOfClass_1 rfl (lv_at hl 1 rfl) ?_
  obtain ⟨q1, hq2, hM⟩ := qbd hM
  refine x_calli F hK hN hA w (c_T_sortOf l D ad cI hq2) qk_269 qk_270 qk_271 qk_3 qk_272 qv_T_sortOf rfl rfl ⟨Nat.le_trans (by decide) hR.1, Nat.le_trans (by decide) hR.2⟩ (ci := 1) rfl (j := 2) rfl hl.1 rfl (Nat.le_of_ble_eq_true rfl) qd_T_isOfClass_2 (fun H locs w => ?_)
  refine lv_istore_n (lv' := [(2, .int q1), (0, .ref (ad 2)), (1, .int a1)]) F.1 F.2.1 qd_T_isOfClass_5 rfl hl (by decide) rfl (fun ls hl => ?_)
  refine lv_iload_n F.1 F.2.1 qd_T_isOfClass_6 rfl (lv_at hl 0 rfl) ?_
  refine lv_if_eq (tgt := 20) F.1 F.2.1 qd_T_isOfClass_7 (by decide) (fun hc3 => ?_) (fun hc3 => ?_)
  · rw [if_pos hc3] at hM
    refine lv_iconst (v := 1) F.1 F.2.1 qd_T_isOfClass_20 (by decide) ?_
    refine lv_goto (tgt := 25) F.1 F.2.1 qd_T_isOfClass_21 (by decide) ?_
    cases hM
    exact hQ _ _ _ _ qd_T_isOfClass_25 w
  · rw [if_neg hc3] at hM
    refine lv_iload_n F.1 F.2.1 qd_T_isOfClass_10 rfl (lv_at hl 0 rfl) ?_
    refine lv_iconst (v := 1) F.1 F.2.1 qd_T_isOfClass_11 (by decide) ?_
    refine lv_icmp_eq (tgt := 20) F.1 F.2.1 qd_T_isOfClass_12 (by decide) (fun hc4 => ?_) (fun hc4 => ?_)
    · rw [if_pos hc4] at hM
      refine lv_iconst (v := 1) F.1 F.2.1 qd_T_isOfClass_20 (by decide) ?_
      refine lv_goto (tgt := 25) F.1 F.2.1 qd_T_isOfClass_21 (by decide) ?_
      cases hM
      exact hQ _ _ _ _ qd_T_isOfClass_25 w
    · rw [if_neg hc4] at hM
      refine lv_iload_n F.1 F.2.1 qd_T_isOfClass_15 rfl (lv_at hl 0 rfl) ?_
      refine lv_iconst (v := 2) F.1 F.2.1 qd_T_isOfClass_16 (by decide) ?_
      refine lv_icmp_ne (tgt := 24) F.1 F.2.1 qd_T_isOfClass_17 (by decide) (fun hc5 => ?_) (fun hc5 => ?_)
      · rw [if_neg hc5] at hM
        refine lv_iconst (v := 0) F.1 F.2.1 qd_T_isOfClass_24 (by decide) ?_
        cases hM
        exact hQ _ _ _ _ qd_T_isOfClass_25 w
      · rw [if_pos hc5] at hM
        refine lv_iconst (v := 1) F.1 F.2.1 qd_T_isOfClass_20 (by decide) ?_
        refine lv_goto (tgt := 25) F.1 F.2.1 qd_T_isOfClass_21 (by decide) ?_
        cases hM
        exact hQ _ _ _ _ qd_T_isOfClass_25 w
set_option maxRecDepth 100000 in
theorem c_T_isOfClass (l : Launch) (D : va_G) (ad : Nat → Nat) (cI : ClassId) {S : (Nat → Nat → Int32)} {a1 : Int32} {res : Bool} (hM : f_T_isOfClass S a1 = some res) : xMi l qy_T_isOfClass qb_T_isOfClass 3 (some .boolean) { frames := 1, cells := 0, slots := 0, locals := 21 } D ad cI S [.ref (ad 2), .int a1] (qB res) S := x_ofz (by decide +kernel) (Nat.le_of_ble_eq_true rfl) (fun p e s m args below meth c Q A ls F hK hN hA w hl hQ => t_T_isOfClass F ⟨Nat.le_refl _, Nat.le_refl _⟩ hK hN hA hQ a1 hM w hl)
-- T_ownerOf
def f_T_ownerOf (S : (Nat → Nat → Int32)) (a1 : Int32) : Option Int32 := if a1 < 0 then (some (-1 : Int32)) else (if (S 11 0) ≤ a1 then (some (-1 : Int32)) else (qck (qin a1 1024) (some (S 13 a1.toNatClampNeg))))
set_option maxRecDepth 100000 in
set_option maxHeartbeats 4000000 in
theorem t_T_ownerOf {p : Program} {l : Launch} {e : Env} {R : Room} {s : State} {m : MethodId} {args : Array Value} {below : List Frame} {meth : Method} {c : Code} {Q : State → Prop} {D : va_G} {ad : Nat → Nat} {cI : ClassId} {A : Nat → Prop} (F : CallFix p m c qb_T_ownerOf 2 s args qtb "CaptureSubtypes$Types") (hR : 0 ≤ R.frames ∧ 0 ≤ R.locals) (hK : va_K D qcl [(cI, .int)] s) (hN : qnests xns s) (hA : ∀ q, s.heap.size ≤ q → A q) {res : Int32} {S : (Nat → Nat → Int32)} (hQ : ∀ (H : Heap) (locs : List Loc) (pc : Nat) (ls : Array Slot), decode qb_T_ownerOf pc = .ok (.ireturn, 1) → xW D ad cI A s.heap S H locs → W p l e R s m args below meth c H locs 0 0 Q (F0 m pc ls [.int res])) (a1 : Int32) (hM : f_T_ownerOf S a1 = some res) {H : Heap} {locs : List Loc} {ls : Array Slot} (w : xW D ad cI A s.heap S H locs) (hl : lv_has ls 2 [(0, .ref (ad 2)), (1, .int a1)]) : W p l e R s m args below meth c H locs 0 0 Q (F0 m 0 ls []) := by
  unfold f_T_ownerOf at hM
  refine lv_iload_n F.1 F.2.1 qd_T_ownerOf_0 rfl (lv_at hl 1 rfl) ?_
  refine lv_if_lt (tgt := 21) F.1 F.2.1 qd_T_ownerOf_1 (by decide) (fun hc1 => ?_) (fun hc1 => ?_)
  · rw [if_pos hc1] at hM
    refine lv_iconst (v := (-1)) F.1 F.2.1 qd_T_ownerOf_21 (by decide) ?_
    cases hM
    exact hQ _ _ _ _ qd_T_ownerOf_22 w
  · rw [if_neg hc1] at hM
    refine lv_iload_n F.1 F.2.1 qd_T_ownerOf_4 rfl (lv_at hl 1 rfl) ?_
    refine lv_aload_n F.1 F.2.1 qd_T_ownerOf_5 rfl (lv_at hl 0 rfl) ?_
    refine xg_T_top F hK w qk_89 qd_T_ownerOf_6 ?_
    refine lv_icmp_ge (tgt := 21) F.1 F.2.1 qd_T_ownerOf_9 (by decide) (fun hc2 => ?_) (fun hc2 => ?_)
    · rw [if_pos hc2] at hM
      refine lv_iconst (v := (-1)) F.1 F.2.1 qd_T_ownerOf_21 (by decide) ?_
      cases hM
      exact hQ _ _ _ _ qd_T_ownerOf_22 w
    · rw [if_neg hc2] at hM
      refine lv_aload_n F.1 F.2.1 qd_T_ownerOf_12 rfl (lv_at hl 0 rfl) ?_
      refine xg_T_owners F hK w qk_91 qd_T_ownerOf_13 ?_
      refine lv_iload_n F.1 F.2.1 qd_T_ownerOf_16 rfl (lv_at hl 1 rfl) ?_
      obtain ⟨hi3, hM⟩ := qck_ok hM
      refine xl_T_owners F hK w hi3 qd_T_ownerOf_17 ?_
      refine lv_goto (tgt := 22) F.1 F.2.1 qd_T_ownerOf_18 (by decide) ?_
      cases hM
      exact hQ _ _ _ _ qd_T_ownerOf_22 w
set_option maxRecDepth 100000 in
theorem c_T_ownerOf (l : Launch) (D : va_G) (ad : Nat → Nat) (cI : ClassId) {S : (Nat → Nat → Int32)} {a1 : Int32} {res : Int32} (hM : f_T_ownerOf S a1 = some res) : xMi l qy_T_ownerOf qb_T_ownerOf 2 (some .int) { frames := 0, cells := 0, slots := 0, locals := 0 } D ad cI S [.ref (ad 2), .int a1] res S := x_ofi (by decide +kernel) (Nat.le_of_ble_eq_true rfl) (fun p e s m args below meth c Q A ls F hK hN hA w hl hQ => t_T_ownerOf F ⟨Nat.le_refl _, Nat.le_refl _⟩ hK hN hA hQ a1 hM w hl)
-- T_isInWordsOf
def f_T_isInWordsOf (S : (Nat → Nat → Int32)) (a1 a2 : Int32) : Option Bool := if a1 < 0 then (some false) else (if (S 11 0) ≤ a1 then (some false) else (if a2 < 0 then (some false) else (if (12 : Int32) ≤ a2 then (some false) else (qck (qin a1 1024) (if ((S 17 a1.toNatClampNeg) &&& (((1 : Int32) <<< (a2 &&& 31)) ^^^ (-1 : Int32))) = 0 then (some true) else (some false))))))
set_option maxRecDepth 100000 in
set_option maxHeartbeats 4000000 in
theorem t_T_isInWordsOf {p : Program} {l : Launch} {e : Env} {R : Room} {s : State} {m : MethodId} {args : Array Value} {below : List Frame} {meth : Method} {c : Code} {Q : State → Prop} {D : va_G} {ad : Nat → Nat} {cI : ClassId} {A : Nat → Prop} (F : CallFix p m c qb_T_isInWordsOf 3 s args qtb "CaptureSubtypes$Types") (hR : 0 ≤ R.frames ∧ 0 ≤ R.locals) (hK : va_K D qcl [(cI, .int)] s) (hN : qnests xns s) (hA : ∀ q, s.heap.size ≤ q → A q) {res : Bool} {S : (Nat → Nat → Int32)} (hQ : ∀ (H : Heap) (locs : List Loc) (pc : Nat) (ls : Array Slot), decode qb_T_isInWordsOf pc = .ok (.ireturn, 1) → xW D ad cI A s.heap S H locs → W p l e R s m args below meth c H locs 0 0 Q (F0 m pc ls [.int (qB res)])) (a1 a2 : Int32) (hM : f_T_isInWordsOf S a1 a2 = some res) {H : Heap} {locs : List Loc} {ls : Array Slot} (w : xW D ad cI A s.heap S H locs) (hl : lv_has ls 3 [(0, .ref (ad 2)), (1, .int a1), (2, .int a2)]) : W p l e R s m args below meth c H locs 0 0 Q (F0 m 0 ls []) := by
  unfold f_T_isInWordsOf at hM
  refine lv_iload_n F.1 F.2.1 qd_T_isInWordsOf_0 rfl (lv_at hl 1 rfl) ?_
  refine lv_if_lt (tgt := 41) F.1 F.2.1 qd_T_isInWordsOf_1 (by decide) (fun hc1 => ?_) (fun hc1 => ?_)
  · rw [if_pos hc1] at hM
    refine lv_iconst (v := 0) F.1 F.2.1 qd_T_isInWordsOf_41 (by decide) ?_
    cases hM
    exact hQ _ _ _ _ qd_T_isInWordsOf_42 w
  · rw [if_neg hc1] at hM
    refine lv_iload_n F.1 F.2.1 qd_T_isInWordsOf_4 rfl (lv_at hl 1 rfl) ?_
    refine lv_aload_n F.1 F.2.1 qd_T_isInWordsOf_5 rfl (lv_at hl 0 rfl) ?_
    refine xg_T_top F hK w qk_89 qd_T_isInWordsOf_6 ?_
    refine lv_icmp_ge (tgt := 41) F.1 F.2.1 qd_T_isInWordsOf_9 (by decide) (fun hc2 => ?_) (fun hc2 => ?_)
    · rw [if_pos hc2] at hM
      refine lv_iconst (v := 0) F.1 F.2.1 qd_T_isInWordsOf_41 (by decide) ?_
      cases hM
      exact hQ _ _ _ _ qd_T_isInWordsOf_42 w
    · rw [if_neg hc2] at hM
      refine lv_iload_n F.1 F.2.1 qd_T_isInWordsOf_12 rfl (lv_at hl 2 rfl) ?_
      refine lv_if_lt (tgt := 41) F.1 F.2.1 qd_T_isInWordsOf_13 (by decide) (fun hc3 => ?_) (fun hc3 => ?_)
      · rw [if_pos hc3] at hM
        refine lv_iconst (v := 0) F.1 F.2.1 qd_T_isInWordsOf_41 (by decide) ?_
        cases hM
        exact hQ _ _ _ _ qd_T_isInWordsOf_42 w
      · rw [if_neg hc3] at hM
        refine lv_iload_n F.1 F.2.1 qd_T_isInWordsOf_16 rfl (lv_at hl 2 rfl) ?_
        refine lv_bipush (v := 12) F.1 F.2.1 qd_T_isInWordsOf_17 (by decide) ?_
        refine lv_icmp_ge (tgt := 41) F.1 F.2.1 qd_T_isInWordsOf_19 (by decide) (fun hc4 => ?_) (fun hc4 => ?_)
        · rw [if_pos hc4] at hM
          refine lv_iconst (v := 0) F.1 F.2.1 qd_T_isInWordsOf_41 (by decide) ?_
          cases hM
          exact hQ _ _ _ _ qd_T_isInWordsOf_42 w
        · rw [if_neg hc4] at hM
          refine lv_aload_n F.1 F.2.1 qd_T_isInWordsOf_22 rfl (lv_at hl 0 rfl) ?_
          refine xg_T_insides F hK w qk_95 qd_T_isInWordsOf_23 ?_
          refine lv_iload_n F.1 F.2.1 qd_T_isInWordsOf_26 rfl (lv_at hl 1 rfl) ?_
          obtain ⟨hi5, hM⟩ := qck_ok hM
          refine xl_T_insides F hK w hi5 qd_T_isInWordsOf_27 ?_
          refine lv_iconst (v := 1) F.1 F.2.1 qd_T_isInWordsOf_28 (by decide) ?_
          refine lv_iload_n F.1 F.2.1 qd_T_isInWordsOf_29 rfl (lv_at hl 2 rfl) ?_
          refine lv_ishl F.1 F.2.1 qd_T_isInWordsOf_30 ?_
          refine lv_iconst (v := (-1)) F.1 F.2.1 qd_T_isInWordsOf_31 (by decide) ?_
          refine lv_ixor F.1 F.2.1 qd_T_isInWordsOf_32 ?_
          refine lv_iand F.1 F.2.1 qd_T_isInWordsOf_33 ?_
          refine lv_if_ne (tgt := 41) F.1 F.2.1 qd_T_isInWordsOf_34 (by decide) (fun hc6 => ?_) (fun hc6 => ?_)
          · rw [if_neg hc6] at hM
            refine lv_iconst (v := 0) F.1 F.2.1 qd_T_isInWordsOf_41 (by decide) ?_
            cases hM
            exact hQ _ _ _ _ qd_T_isInWordsOf_42 w
          · rw [if_pos hc6] at hM
            refine lv_iconst (v := 1) F.1 F.2.1 qd_T_isInWordsOf_37 (by decide) ?_
            refine lv_goto (tgt := 42) F.1 F.2.1 qd_T_isInWordsOf_38 (by decide) ?_
            cases hM
            exact hQ _ _ _ _ qd_T_isInWordsOf_42 w
set_option maxRecDepth 100000 in
theorem c_T_isInWordsOf (l : Launch) (D : va_G) (ad : Nat → Nat) (cI : ClassId) {S : (Nat → Nat → Int32)} {a1 a2 : Int32} {res : Bool} (hM : f_T_isInWordsOf S a1 a2 = some res) : xMi l qy_T_isInWordsOf qb_T_isInWordsOf 3 (some .boolean) { frames := 0, cells := 0, slots := 0, locals := 0 } D ad cI S [.ref (ad 2), .int a1, .int a2] (qB res) S := x_ofz (by decide +kernel) (Nat.le_of_ble_eq_true rfl) (fun p e s m args below meth c Q A ls F hK hN hA w hl hQ => t_T_isInWordsOf F ⟨Nat.le_refl _, Nat.le_refl _⟩ hK hN hA hQ a1 a2 hM w hl)
-- X_mayBeSuper
def f_X_mayBeSuper (S : (Nat → Nat → Int32)) (a1 a2 : Int32) : Option Bool := (f_K_has S a1).bind (fun q1 => if (qB q1) = 0 then (some false) else ((f_T_has S a2).bind (fun q4 => if (qB q4) = 0 then (some false) else (if a2 = 0 then (some false) else ((f_T_isOfClass S a2).bind (fun q8 => if (qB q8) = 0 then (some false) else ((f_T_ownerOf S a2).bind (fun q11 => if a1 ≤ q11 then (some false) else ((f_K_kindOf S q11).bind (fun q14 => if q14 = (1 : Int32) then (some false) else ((f_T_isInWordsOf S a2 a1).bind (fun q17 => if (qB q17) = 0 then (some false) else ((f_K_isFace S q11).bind (fun q20 => if (qB q20) = 0 then ((f_K_isFace S a1).bind (fun q23 => if (qB q23) = 0 then (some true) else (some false))) else (some true)))))))))))))))
set_option maxRecDepth 100000 in
set_option maxHeartbeats 4000000 in
theorem t_X_mayBeSuper {p : Program} {l : Launch} {e : Env} {R : Room} {s : State} {m : MethodId} {args : Array Value} {below : List Frame} {meth : Method} {c : Code} {Q : State → Prop} {D : va_G} {ad : Nat → Nat} {cI : ClassId} {A : Nat → Prop} (F : CallFix p m c qb_X_mayBeSuper 4 s args qtb "CaptureSubtypes") (hR : 2 ≤ R.frames ∧ 43 ≤ R.locals) (hK : va_K D qcl [(cI, .int)] s) (hN : qnests xns s) (hA : ∀ q, s.heap.size ≤ q → A q) {res : Bool} {S : (Nat → Nat → Int32)} (hQ : ∀ (H : Heap) (locs : List Loc) (pc : Nat) (ls : Array Slot), decode qb_X_mayBeSuper pc = .ok (.ireturn, 1) → xW D ad cI A s.heap S H locs → W p l e R s m args below meth c H locs 0 0 Q (F0 m pc ls [.int (qB res)])) (a1 a2 : Int32) (hM : f_X_mayBeSuper S a1 a2 = some res) {H : Heap} {locs : List Loc} {ls : Array Slot} (w : xW D ad cI A s.heap S H locs) (hl : lv_has ls 4 [(0, .ref (ad 0)), (1, .int a1), (2, .int a2)]) : W p l e R s m args below meth c H locs 0 0 Q (F0 m 0 ls []) := by
  unfold f_X_mayBeSuper at hM
  refine lv_aload_n F.1 F.2.1 qd_X_mayBeSuper_0 rfl (lv_at hl 0 rfl) ?_
  refine xg_X_classes F hK w qk_167 qd_X_mayBeSuper_1 ?_
  refine lv_iload_n F.1 F.2.1 qd_X_mayBeSuper_4 rfl (lv_at hl 1 rfl) ?_
  obtain ⟨q1, hq2, hM⟩ := qbd hM
  refine x_calli F hK hN hA w (c_K_has l D ad cI hq2) qk_257 qk_258 qk_259 qk_2 qk_260 qv_K_has rfl rfl ⟨Nat.le_trans (by decide) hR.1, Nat.le_trans (by decide) hR.2⟩ (ci := 0) rfl (j := 1) rfl hl.1 rfl (Nat.le_of_ble_eq_true rfl) qd_X_mayBeSuper_5 (fun H locs w => ?_)
  refine lv_if_eq (tgt := 37) F.1 F.2.1 qd_X_mayBeSuper_8 (by decide) (fun hc3 => ?_) (fun hc3 => ?_)
  · rw [if_pos hc3] at hM
    refine lv_iconst (v := 0) F.1 F.2.1 qd_X_mayBeSuper_37 (by decide) ?_
    cases hM
    exact hQ _ _ _ _ qd_X_mayBeSuper_38 w
  · rw [if_neg hc3] at hM
    refine lv_aload_n F.1 F.2.1 qd_X_mayBeSuper_11 rfl (lv_at hl 0 rfl) ?_
    refine xg_X_types F hK w qk_168 qd_X_mayBeSuper_12 ?_
    refine lv_iload_n F.1 F.2.1 qd_X_mayBeSuper_15 rfl (lv_at hl 2 rfl) ?_
    obtain ⟨q4, hq5, hM⟩ := qbd hM
    refine x_calli F hK hN hA w (c_T_has l D ad cI hq5) qk_261 qk_262 qk_263 qk_3 qk_264 qv_T_has rfl rfl ⟨Nat.le_trans (by decide) hR.1, Nat.le_trans (by decide) hR.2⟩ (ci := 1) rfl (j := 2) rfl hl.1 rfl (Nat.le_of_ble_eq_true rfl) qd_X_mayBeSuper_16 (fun H locs w => ?_)
    refine lv_if_eq (tgt := 37) F.1 F.2.1 qd_X_mayBeSuper_19 (by decide) (fun hc6 => ?_) (fun hc6 => ?_)
    · rw [if_pos hc6] at hM
      refine lv_iconst (v := 0) F.1 F.2.1 qd_X_mayBeSuper_37 (by decide) ?_
      cases hM
      exact hQ _ _ _ _ qd_X_mayBeSuper_38 w
    · rw [if_neg hc6] at hM
      refine lv_iload_n F.1 F.2.1 qd_X_mayBeSuper_22 rfl (lv_at hl 2 rfl) ?_
      refine lv_if_eq (tgt := 37) F.1 F.2.1 qd_X_mayBeSuper_23 (by decide) (fun hc7 => ?_) (fun hc7 => ?_)
      · rw [if_pos hc7] at hM
        refine lv_iconst (v := 0) F.1 F.2.1 qd_X_mayBeSuper_37 (by decide) ?_
        cases hM
        exact hQ _ _ _ _ qd_X_mayBeSuper_38 w
      · rw [if_neg hc7] at hM
        refine lv_aload_n F.1 F.2.1 qd_X_mayBeSuper_26 rfl (lv_at hl 0 rfl) ?_
        refine xg_X_types F hK w qk_168 qd_X_mayBeSuper_27 ?_
        refine lv_iload_n F.1 F.2.1 qd_X_mayBeSuper_30 rfl (lv_at hl 2 rfl) ?_
        obtain ⟨q8, hq9, hM⟩ := qbd hM
        refine x_calli F hK hN hA w (c_T_isOfClass l D ad cI hq9) qk_265 qk_266 qk_267 qk_3 qk_268 qv_T_isOfClass rfl rfl ⟨Nat.le_trans (by decide) hR.1, Nat.le_trans (by decide) hR.2⟩ (ci := 1) rfl (j := 2) rfl hl.1 rfl (Nat.le_of_ble_eq_true rfl) qd_X_mayBeSuper_31 (fun H locs w => ?_)
        refine lv_if_ne (tgt := 39) F.1 F.2.1 qd_X_mayBeSuper_34 (by decide) (fun hc10 => ?_) (fun hc10 => ?_)
        · rw [if_neg hc10] at hM
          refine lv_aload_n F.1 F.2.1 qd_X_mayBeSuper_39 rfl (lv_at hl 0 rfl) ?_
          refine xg_X_types F hK w qk_168 qd_X_mayBeSuper_40 ?_
          refine lv_iload_n F.1 F.2.1 qd_X_mayBeSuper_43 rfl (lv_at hl 2 rfl) ?_
          obtain ⟨q11, hq12, hM⟩ := qbd hM
          refine x_calli F hK hN hA w (c_T_ownerOf l D ad cI hq12) qk_273 qk_274 qk_275 qk_3 qk_276 qv_T_ownerOf rfl rfl ⟨Nat.le_trans (by decide) hR.1, Nat.le_trans (by decide) hR.2⟩ (ci := 1) rfl (j := 2) rfl hl.1 rfl (Nat.le_of_ble_eq_true rfl) qd_X_mayBeSuper_44 (fun H locs w => ?_)
          refine lv_istore_n (lv' := [(3, .int q11), (0, .ref (ad 0)), (1, .int a1), (2, .int a2)]) F.1 F.2.1 qd_X_mayBeSuper_47 rfl hl (by decide) rfl (fun ls hl => ?_)
          refine lv_iload_n F.1 F.2.1 qd_X_mayBeSuper_48 rfl (lv_at hl 0 rfl) ?_
          refine lv_iload_n F.1 F.2.1 qd_X_mayBeSuper_49 rfl (lv_at hl 2 rfl) ?_
          refine lv_icmp_ge (tgt := 77) F.1 F.2.1 qd_X_mayBeSuper_50 (by decide) (fun hc13 => ?_) (fun hc13 => ?_)
          · rw [if_pos hc13] at hM
            refine lv_iconst (v := 0) F.1 F.2.1 qd_X_mayBeSuper_77 (by decide) ?_
            cases hM
            exact hQ _ _ _ _ qd_X_mayBeSuper_78 w
          · rw [if_neg hc13] at hM
            refine lv_aload_n F.1 F.2.1 qd_X_mayBeSuper_53 rfl (lv_at hl 1 rfl) ?_
            refine xg_X_classes F hK w qk_167 qd_X_mayBeSuper_54 ?_
            refine lv_iload_n F.1 F.2.1 qd_X_mayBeSuper_57 rfl (lv_at hl 0 rfl) ?_
            obtain ⟨q14, hq15, hM⟩ := qbd hM
            refine x_calli F hK hN hA w (c_K_kindOf l D ad cI hq15) qk_277 qk_226 qk_227 qk_2 qk_228 qv_K_kindOf rfl rfl ⟨Nat.le_trans (by decide) hR.1, Nat.le_trans (by decide) hR.2⟩ (ci := 0) rfl (j := 1) rfl hl.1 rfl (Nat.le_of_ble_eq_true rfl) qd_X_mayBeSuper_58 (fun H locs w => ?_)
            refine lv_iconst (v := 1) F.1 F.2.1 qd_X_mayBeSuper_61 (by decide) ?_
            refine lv_icmp_eq (tgt := 77) F.1 F.2.1 qd_X_mayBeSuper_62 (by decide) (fun hc16 => ?_) (fun hc16 => ?_)
            · rw [if_pos hc16] at hM
              refine lv_iconst (v := 0) F.1 F.2.1 qd_X_mayBeSuper_77 (by decide) ?_
              cases hM
              exact hQ _ _ _ _ qd_X_mayBeSuper_78 w
            · rw [if_neg hc16] at hM
              refine lv_aload_n F.1 F.2.1 qd_X_mayBeSuper_65 rfl (lv_at hl 1 rfl) ?_
              refine xg_X_types F hK w qk_168 qd_X_mayBeSuper_66 ?_
              refine lv_iload_n F.1 F.2.1 qd_X_mayBeSuper_69 rfl (lv_at hl 3 rfl) ?_
              refine lv_iload_n F.1 F.2.1 qd_X_mayBeSuper_70 rfl (lv_at hl 2 rfl) ?_
              obtain ⟨q17, hq18, hM⟩ := qbd hM
              refine x_calli F hK hN hA w (c_T_isInWordsOf l D ad cI hq18) qk_278 qk_279 qk_280 qk_3 qk_281 qv_T_isInWordsOf rfl rfl ⟨Nat.le_trans (by decide) hR.1, Nat.le_trans (by decide) hR.2⟩ (ci := 1) rfl (j := 2) rfl hl.1 rfl (Nat.le_of_ble_eq_true rfl) qd_X_mayBeSuper_71 (fun H locs w => ?_)
              refine lv_if_ne (tgt := 79) F.1 F.2.1 qd_X_mayBeSuper_74 (by decide) (fun hc19 => ?_) (fun hc19 => ?_)
              · rw [if_neg hc19] at hM
                refine lv_aload_n F.1 F.2.1 qd_X_mayBeSuper_79 rfl (lv_at hl 1 rfl) ?_
                refine xg_X_classes F hK w qk_167 qd_X_mayBeSuper_80 ?_
                refine lv_iload_n F.1 F.2.1 qd_X_mayBeSuper_83 rfl (lv_at hl 0 rfl) ?_
                obtain ⟨q20, hq21, hM⟩ := qbd hM
                refine x_calli F hK hN hA w (c_K_isFace l D ad cI hq21) qk_282 qk_222 qk_223 qk_2 qk_224 qv_K_isFace rfl rfl ⟨Nat.le_trans (by decide) hR.1, Nat.le_trans (by decide) hR.2⟩ (ci := 0) rfl (j := 1) rfl hl.1 rfl (Nat.le_of_ble_eq_true rfl) qd_X_mayBeSuper_84 (fun H locs w => ?_)
                refine lv_if_ne (tgt := 101) F.1 F.2.1 qd_X_mayBeSuper_87 (by decide) (fun hc22 => ?_) (fun hc22 => ?_)
                · rw [if_neg hc22] at hM
                  refine lv_iconst (v := 1) F.1 F.2.1 qd_X_mayBeSuper_101 (by decide) ?_
                  refine lv_goto (tgt := 106) F.1 F.2.1 qd_X_mayBeSuper_102 (by decide) ?_
                  cases hM
                  exact hQ _ _ _ _ qd_X_mayBeSuper_106 w
                · rw [if_pos hc22] at hM
                  refine lv_aload_n F.1 F.2.1 qd_X_mayBeSuper_90 rfl (lv_at hl 1 rfl) ?_
                  refine xg_X_classes F hK w qk_167 qd_X_mayBeSuper_91 ?_
                  refine lv_iload_n F.1 F.2.1 qd_X_mayBeSuper_94 rfl (lv_at hl 2 rfl) ?_
                  obtain ⟨q23, hq24, hM⟩ := qbd hM
                  refine x_calli F hK hN hA w (c_K_isFace l D ad cI hq24) qk_282 qk_222 qk_223 qk_2 qk_224 qv_K_isFace rfl rfl ⟨Nat.le_trans (by decide) hR.1, Nat.le_trans (by decide) hR.2⟩ (ci := 0) rfl (j := 1) rfl hl.1 rfl (Nat.le_of_ble_eq_true rfl) qd_X_mayBeSuper_95 (fun H locs w => ?_)
                  refine lv_if_ne (tgt := 105) F.1 F.2.1 qd_X_mayBeSuper_98 (by decide) (fun hc25 => ?_) (fun hc25 => ?_)
                  · rw [if_neg hc25] at hM
                    refine lv_iconst (v := 0) F.1 F.2.1 qd_X_mayBeSuper_105 (by decide) ?_
                    cases hM
                    exact hQ _ _ _ _ qd_X_mayBeSuper_106 w
                  · rw [if_pos hc25] at hM
                    refine lv_iconst (v := 1) F.1 F.2.1 qd_X_mayBeSuper_101 (by decide) ?_
                    refine lv_goto (tgt := 106) F.1 F.2.1 qd_X_mayBeSuper_102 (by decide) ?_
                    cases hM
                    exact hQ _ _ _ _ qd_X_mayBeSuper_106 w
              · rw [if_pos hc19] at hM
                refine lv_iconst (v := 0) F.1 F.2.1 qd_X_mayBeSuper_77 (by decide) ?_
                cases hM
                exact hQ _ _ _ _ qd_X_mayBeSuper_78 w
        · rw [if_pos hc10] at hM
          refine lv_iconst (v := 0) F.1 F.2.1 qd_X_mayBeSuper_37 (by decide) ?_
          cases hM
          exact hQ _ _ _ _ qd_X_mayBeSuper_38 w
set_option maxRecDepth 100000 in
theorem c_X_mayBeSuper (l : Launch) (D : va_G) (ad : Nat → Nat) (cI : ClassId) {S : (Nat → Nat → Int32)} {a1 a2 : Int32} {res : Bool} (hM : f_X_mayBeSuper S a1 a2 = some res) : xMi l qy_X_mayBeSuper qb_X_mayBeSuper 4 (some .boolean) { frames := 2, cells := 0, slots := 0, locals := 43 } D ad cI S [.ref (ad 0), .int a1, .int a2] (qB res) S := x_ofz (by decide +kernel) (Nat.le_of_ble_eq_true rfl) (fun p e s m args below meth c Q A ls F hK hN hA w hl hQ => t_X_mayBeSuper F ⟨Nat.le_refl _, Nat.le_refl _⟩ hK hN hA hQ a1 a2 hM w hl)
-- K_superType
def f_K_superType_26 (S : (Nat → Nat → Int32)) (v1 v2 s1 : Int32) : Option Int32 := if s1 = 0 then (some (-1 : Int32)) else (qck (qin ((v1 * (3 : Int32)) + v2) 36) (some (S 3 ((v1 * (3 : Int32)) + v2).toNatClampNeg)))
def f_K_superType_25 (S : (Nat → Nat → Int32)) (v1 v2 : Int32) : Option Int32 := f_K_superType_26  S v1 v2 (0 : Int32)
def f_K_superType (S : (Nat → Nat → Int32)) (a1 a2 : Int32) : Option Int32 := if a1 < 0 then (f_K_superType_25  S a1 a2) else (if (S 0 0) ≤ a1 then (f_K_superType_25  S a1 a2) else (if a2 < 0 then (f_K_superType_25  S a1 a2) else (if (3 : Int32) ≤ a2 then (f_K_superType_25  S a1 a2) else (f_K_superType_26  S a1 a2 (1 : Int32)))))
set_option maxRecDepth 100000 in
set_option maxHeartbeats 4000000 in
theorem t_K_superType_26 {p : Program} {l : Launch} {e : Env} {R : Room} {s : State} {m : MethodId} {args : Array Value} {below : List Frame} {meth : Method} {c : Code} {Q : State → Prop} {D : va_G} {ad : Nat → Nat} {cI : ClassId} {A : Nat → Prop} (F : CallFix p m c qb_K_superType 4 s args qtb "CaptureSubtypes$Classes") (hR : 0 ≤ R.frames ∧ 0 ≤ R.locals) (hK : va_K D qcl [(cI, .int)] s) (hN : qnests xns s) (hA : ∀ q, s.heap.size ≤ q → A q) {res : Int32} {S : (Nat → Nat → Int32)} (hQ : ∀ (H : Heap) (locs : List Loc) (pc : Nat) (ls : Array Slot), decode qb_K_superType pc = .ok (.ireturn, 1) → xW D ad cI A s.heap S H locs → W p l e R s m args below meth c H locs 0 0 Q (F0 m pc ls [.int res])) (v1 v2 s1 : Int32) (hM : f_K_superType_26 S v1 v2 s1 = some res) {H : Heap} {locs : List Loc} {ls : Array Slot} (w : xW D ad cI A s.heap S H locs) (hl : lv_has ls 4 [(0, .ref (ad 1)), (1, .int v1), (2, .int v2)]) : W p l e R s m args below meth c H locs 0 0 Q (F0 m 26 ls [.int s1]) := by
  unfold f_K_superType_26 at hM
  refine lv_istore_n (lv' := [(3, .int s1), (0, .ref (ad 1)), (1, .int v1), (2, .int v2)]) F.1 F.2.1 qd_K_superType_26 rfl hl (by decide) rfl (fun ls hl => ?_)
  refine lv_iload_n F.1 F.2.1 qd_K_superType_27 rfl (lv_at hl 0 rfl) ?_
  refine lv_if_eq (tgt := 44) F.1 F.2.1 qd_K_superType_28 (by decide) (fun hc1 => ?_) (fun hc1 => ?_)
  · rw [if_pos hc1] at hM
    refine lv_iconst (v := (-1)) F.1 F.2.1 qd_K_superType_44 (by decide) ?_
    cases hM
    exact hQ _ _ _ _ qd_K_superType_45 w
  · rw [if_neg hc1] at hM
    refine lv_aload_n F.1 F.2.1 qd_K_superType_31 rfl (lv_at hl 1 rfl) ?_
    refine xg_K_superTypes F hK w qk_37 qd_K_superType_32 ?_
    refine lv_iload_n F.1 F.2.1 qd_K_superType_35 rfl (lv_at hl 2 rfl) ?_
    refine lv_iconst (v := 3) F.1 F.2.1 qd_K_superType_36 (by decide) ?_
    refine lv_imul F.1 F.2.1 qd_K_superType_37 ?_
    refine lv_iload_n F.1 F.2.1 qd_K_superType_38 rfl (lv_at hl 3 rfl) ?_
    refine lv_iadd F.1 F.2.1 qd_K_superType_39 ?_
    obtain ⟨hi2, hM⟩ := qck_ok hM
    refine xl_K_superTypes F hK w hi2 qd_K_superType_40 ?_
    refine lv_goto (tgt := 45) F.1 F.2.1 qd_K_superType_41 (by decide) ?_
    cases hM
    exact hQ _ _ _ _ qd_K_superType_45 w
set_option maxRecDepth 100000 in
set_option maxHeartbeats 4000000 in
theorem t_K_superType_25 {p : Program} {l : Launch} {e : Env} {R : Room} {s : State} {m : MethodId} {args : Array Value} {below : List Frame} {meth : Method} {c : Code} {Q : State → Prop} {D : va_G} {ad : Nat → Nat} {cI : ClassId} {A : Nat → Prop} (F : CallFix p m c qb_K_superType 4 s args qtb "CaptureSubtypes$Classes") (hR : 0 ≤ R.frames ∧ 0 ≤ R.locals) (hK : va_K D qcl [(cI, .int)] s) (hN : qnests xns s) (hA : ∀ q, s.heap.size ≤ q → A q) {res : Int32} {S : (Nat → Nat → Int32)} (hQ : ∀ (H : Heap) (locs : List Loc) (pc : Nat) (ls : Array Slot), decode qb_K_superType pc = .ok (.ireturn, 1) → xW D ad cI A s.heap S H locs → W p l e R s m args below meth c H locs 0 0 Q (F0 m pc ls [.int res])) (v1 v2 : Int32) (hM : f_K_superType_25 S v1 v2 = some res) {H : Heap} {locs : List Loc} {ls : Array Slot} (w : xW D ad cI A s.heap S H locs) (hl : lv_has ls 4 [(0, .ref (ad 1)), (1, .int v1), (2, .int v2)]) : W p l e R s m args below meth c H locs 0 0 Q (F0 m 25 ls []) := by
  unfold f_K_superType_25 at hM
  refine lv_iconst (v := 0) F.1 F.2.1 qd_K_superType_25 (by decide) ?_
  exact t_K_superType_26 F hR hK hN hA hQ  _ _ _ hM w (lv_sub hl [0, 1, 2] rfl)
set_option maxRecDepth 100000 in
set_option maxHeartbeats 4000000 in
theorem t_K_superType {p : Program} {l : Launch} {e : Env} {R : Room} {s : State} {m : MethodId} {args : Array Value} {below : List Frame} {meth : Method} {c : Code} {Q : State → Prop} {D : va_G} {ad : Nat → Nat} {cI : ClassId} {A : Nat → Prop} (F : CallFix p m c qb_K_superType 4 s args qtb "CaptureSubtypes$Classes") (hR : 0 ≤ R.frames ∧ 0 ≤ R.locals) (hK : va_K D qcl [(cI, .int)] s) (hN : qnests xns s) (hA : ∀ q, s.heap.size ≤ q → A q) {res : Int32} {S : (Nat → Nat → Int32)} (hQ : ∀ (H : Heap) (locs : List Loc) (pc : Nat) (ls : Array Slot), decode qb_K_superType pc = .ok (.ireturn, 1) → xW D ad cI A s.heap S H locs → W p l e R s m args below meth c H locs 0 0 Q (F0 m pc ls [.int res])) (a1 a2 : Int32) (hM : f_K_superType S a1 a2 = some res) {H : Heap} {locs : List Loc} {ls : Array Slot} (w : xW D ad cI A s.heap S H locs) (hl : lv_has ls 4 [(0, .ref (ad 1)), (1, .int a1), (2, .int a2)]) : W p l e R s m args below meth c H locs 0 0 Q (F0 m 0 ls []) := by
  unfold f_K_superType at hM
  refine lv_iload_n F.1 F.2.1 qd_K_superType_0 rfl (lv_at hl 1 rfl) ?_
  refine lv_if_lt (tgt := 25) F.1 F.2.1 qd_K_superType_1 (by decide) (fun hc1 => ?_) (fun hc1 => ?_)
  · rw [if_pos hc1] at hM
    exact t_K_superType_25 F hR hK hN hA hQ  _ _ hM w (lv_sub hl [0, 1, 2] rfl)
  · rw [if_neg hc1] at hM
    refine lv_iload_n F.1 F.2.1 qd_K_superType_4 rfl (lv_at hl 1 rfl) ?_
    refine lv_aload_n F.1 F.2.1 qd_K_superType_5 rfl (lv_at hl 0 rfl) ?_
    refine xg_K_count F hK w qk_31 qd_K_superType_6 ?_
    refine lv_icmp_ge (tgt := 25) F.1 F.2.1 qd_K_superType_9 (by decide) (fun hc2 => ?_) (fun hc2 => ?_)
    · rw [if_pos hc2] at hM
      exact t_K_superType_25 F hR hK hN hA hQ  _ _ hM w (lv_sub hl [0, 1, 2] rfl)
    · rw [if_neg hc2] at hM
      refine lv_iload_n F.1 F.2.1 qd_K_superType_12 rfl (lv_at hl 2 rfl) ?_
      refine lv_if_lt (tgt := 25) F.1 F.2.1 qd_K_superType_13 (by decide) (fun hc3 => ?_) (fun hc3 => ?_)
      · rw [if_pos hc3] at hM
        exact t_K_superType_25 F hR hK hN hA hQ  _ _ hM w (lv_sub hl [0, 1, 2] rfl)
      · rw [if_neg hc3] at hM
        refine lv_iload_n F.1 F.2.1 qd_K_superType_16 rfl (lv_at hl 2 rfl) ?_
        refine lv_iconst (v := 3) F.1 F.2.1 qd_K_superType_17 (by decide) ?_
        refine lv_icmp_ge (tgt := 25) F.1 F.2.1 qd_K_superType_18 (by decide) (fun hc4 => ?_) (fun hc4 => ?_)
        · rw [if_pos hc4] at hM
          exact t_K_superType_25 F hR hK hN hA hQ  _ _ hM w (lv_sub hl [0, 1, 2] rfl)
        · rw [if_neg hc4] at hM
          refine lv_iconst (v := 1) F.1 F.2.1 qd_K_superType_21 (by decide) ?_
          refine lv_goto (tgt := 26) F.1 F.2.1 qd_K_superType_22 (by decide) ?_
          exact t_K_superType_26 F hR hK hN hA hQ  _ _ _ hM w (lv_sub hl [0, 1, 2] rfl)
set_option maxRecDepth 100000 in
theorem c_K_superType (l : Launch) (D : va_G) (ad : Nat → Nat) (cI : ClassId) {S : (Nat → Nat → Int32)} {a1 a2 : Int32} {res : Int32} (hM : f_K_superType S a1 a2 = some res) : xMi l qy_K_superType qb_K_superType 4 (some .int) { frames := 0, cells := 0, slots := 0, locals := 0 } D ad cI S [.ref (ad 1), .int a1, .int a2] res S := x_ofi (by decide +kernel) (Nat.le_of_ble_eq_true rfl) (fun p e s m args below meth c Q A ls F hK hN hA w hl hQ => t_K_superType F ⟨Nat.le_refl _, Nat.le_refl _⟩ hK hN hA hQ a1 a2 hM w hl)
-- K_freeSlot
def fb_K_freeSlot_25 (k_25 : (Nat → Nat → Int32) → Int32 → Int32 → Option Int32) (S : (Nat → Nat → Int32)) (v1 v3 : Int32) : Option Int32 := if (3 : Int32) ≤ v3 then (some (-1 : Int32)) else ((f_K_superType S v1 v3).bind (fun q2 => if q2 = (-1 : Int32) then (some v3) else (k_25 S v1 (v3 + (1 : Int32)))))
def f_K_freeSlot_25 : Nat → (Nat → Nat → Int32) → Int32 → Int32 → Option Int32
  | 0 => fun _ _ _ => none
  | n + 1 => fun S v1 v3 => fb_K_freeSlot_25 (f_K_freeSlot_25 n) S v1 v3
def f_K_freeSlot (S : (Nat → Nat → Int32)) (a1 a2 : Int32) : Option Int32 := (f_K_isFace S a2).bind (fun q1 => if (qB q1) = 0 then ((f_K_superType S a1 (0 : Int32)).bind (fun q4 => if q4 = 0 then (some (0 : Int32)) else (some (-1 : Int32)))) else (f_K_freeSlot_25  qfu S a1 (1 : Int32)))
set_option maxRecDepth 100000 in
set_option maxHeartbeats 4000000 in
theorem tb_K_freeSlot_25 {p : Program} {l : Launch} {e : Env} {R : Room} {s : State} {m : MethodId} {args : Array Value} {below : List Frame} {meth : Method} {c : Code} {Q : State → Prop} {D : va_G} {ad : Nat → Nat} {cI : ClassId} {A : Nat → Prop} (F : CallFix p m c qb_K_freeSlot 4 s args qtb "CaptureSubtypes$Classes") (hR : 1 ≤ R.frames ∧ 23 ≤ R.locals) (hK : va_K D qcl [(cI, .int)] s) (hN : qnests xns s) (hA : ∀ q, s.heap.size ≤ q → A q) {res : Int32} {S : (Nat → Nat → Int32)} (hQ : ∀ (H : Heap) (locs : List Loc) (pc : Nat) (ls : Array Slot), decode qb_K_freeSlot pc = .ok (.ireturn, 1) → xW D ad cI A s.heap S H locs → W p l e R s m args below meth c H locs 0 0 Q (F0 m pc ls [.int res])) {k_25 : (Nat → Nat → Int32) → Int32 → Int32 → Option Int32} (hk_25 : ∀  (v1 v3 : Int32), k_25 S v1 v3 = some res → ∀ {H : Heap} {locs : List Loc} {ls : Array Slot}, xW D ad cI A s.heap S H locs → lv_has ls 4 [(0, .ref (ad 1)), (1, .int v1), (3, .int v3)] → W p l e R s m args below meth c H locs 0 0 Q (F0 m 25 ls [])) (v1 v3 : Int32) (hM : fb_K_freeSlot_25 k_25 S v1 v3 = some res) {H : Heap} {locs : List Loc} {ls : Array Slot} (w : xW D ad cI A s.heap S H locs) (hl : lv_has ls 4 [(0, .ref (ad 1)), (1, .int v1), (3, .int v3)]) : W p l e R s m args below meth c H locs 0 0 Q (F0 m 25 ls []) := by
  unfold fb_K_freeSlot_25 at hM
  refine lv_iload_n F.1 F.2.1 qd_K_freeSlot_25 rfl (lv_at hl 2 rfl) ?_
  refine lv_iconst (v := 3) F.1 F.2.1 qd_K_freeSlot_26 (by decide) ?_
  refine lv_icmp_ge (tgt := 48) F.1 F.2.1 qd_K_freeSlot_27 (by decide) (fun hc1 => ?_) (fun hc1 => ?_)
  · rw [if_pos hc1] at hM
    refine lv_iconst (v := (-1)) F.1 F.2.1 qd_K_freeSlot_48 (by decide) ?_
    cases hM
    exact hQ _ _ _ _ qd_K_freeSlot_49 w
  · rw [if_neg hc1] at hM
    refine lv_aload_n F.1 F.2.1 qd_K_freeSlot_30 rfl (lv_at hl 0 rfl) ?_
    refine lv_iload_n F.1 F.2.1 qd_K_freeSlot_31 rfl (lv_at hl 1 rfl) ?_
    refine lv_iload_n F.1 F.2.1 qd_K_freeSlot_32 rfl (lv_at hl 2 rfl) ?_
    obtain ⟨q2, hq3, hM⟩ := qbd hM
    refine x_calli F hK hN hA w (c_K_superType l D ad cI hq3) qk_287 qk_288 qk_289 qk_2 qk_290 qv_K_superType rfl rfl ⟨Nat.le_trans (by decide) hR.1, Nat.le_trans (by decide) hR.2⟩ (ci := 0) rfl (j := 1) rfl hl.1 rfl (Nat.le_of_ble_eq_true rfl) qd_K_freeSlot_33 (fun H locs w => ?_)
    refine lv_iconst (v := (-1)) F.1 F.2.1 qd_K_freeSlot_36 (by decide) ?_
    refine lv_icmp_ne (tgt := 42) F.1 F.2.1 qd_K_freeSlot_37 (by decide) (fun hc4 => ?_) (fun hc4 => ?_)
    · rw [if_neg hc4] at hM
      refine lv_iinc (v := (v3 + (1 : Int32))) (lv' := [(3, .int (v3 + (1 : Int32))), (0, .ref (ad 1)), (1, .int v1)]) F.1 F.2.1 qd_K_freeSlot_42 hl (k := 2) rfl rfl (by decide) rfl (fun ls hl => ?_)
      refine lv_goto (tgt := 25) F.1 F.2.1 qd_K_freeSlot_45 (by decide) ?_
      exact hk_25 _ _ hM w (lv_sub hl [1, 2, 0] rfl)
    · rw [if_pos hc4] at hM
      refine lv_iload_n F.1 F.2.1 qd_K_freeSlot_40 rfl (lv_at hl 2 rfl) ?_
      cases hM
      exact hQ _ _ _ _ qd_K_freeSlot_41 w
set_option maxRecDepth 100000 in
set_option maxHeartbeats 4000000 in
theorem t_K_freeSlot_25 {p : Program} {l : Launch} {e : Env} {R : Room} {s : State} {m : MethodId} {args : Array Value} {below : List Frame} {meth : Method} {c : Code} {Q : State → Prop} {D : va_G} {ad : Nat → Nat} {cI : ClassId} {A : Nat → Prop} (F : CallFix p m c qb_K_freeSlot 4 s args qtb "CaptureSubtypes$Classes") (hR : 1 ≤ R.frames ∧ 23 ≤ R.locals) (hK : va_K D qcl [(cI, .int)] s) (hN : qnests xns s) (hA : ∀ q, s.heap.size ≤ q → A q) {res : Int32} {S : (Nat → Nat → Int32)} (hQ : ∀ (H : Heap) (locs : List Loc) (pc : Nat) (ls : Array Slot), decode qb_K_freeSlot pc = .ok (.ireturn, 1) → xW D ad cI A s.heap S H locs → W p l e R s m args below meth c H locs 0 0 Q (F0 m pc ls [.int res])) : ∀ (n : Nat) (v1 v3 : Int32) (hM : f_K_freeSlot_25 n S v1 v3 = some res) {H : Heap} {locs : List Loc} {ls : Array Slot} (w : xW D ad cI A s.heap S H locs) (hl : lv_has ls 4 [(0, .ref (ad 1)), (1, .int v1), (3, .int v3)]), W p l e R s m args below meth c H locs 0 0 Q (F0 m 25 ls []) := by
  intro n
  induction n with
  | zero => intro v1 v3 hM; exact absurd hM (by simp [f_K_freeSlot_25])
  | succ n ih => intro v1 v3 hM H locs ls w hl; exact tb_K_freeSlot_25 F hR hK hN hA hQ (k_25 := f_K_freeSlot_25 n) (fun v1 v3 hM H locs ls w hl => ih v1 v3 hM w hl) v1 v3 hM w hl
set_option maxRecDepth 100000 in
set_option maxHeartbeats 4000000 in
theorem t_K_freeSlot {p : Program} {l : Launch} {e : Env} {R : Room} {s : State} {m : MethodId} {args : Array Value} {below : List Frame} {meth : Method} {c : Code} {Q : State → Prop} {D : va_G} {ad : Nat → Nat} {cI : ClassId} {A : Nat → Prop} (F : CallFix p m c qb_K_freeSlot 4 s args qtb "CaptureSubtypes$Classes") (hR : 1 ≤ R.frames ∧ 23 ≤ R.locals) (hK : va_K D qcl [(cI, .int)] s) (hN : qnests xns s) (hA : ∀ q, s.heap.size ≤ q → A q) {res : Int32} {S : (Nat → Nat → Int32)} (hQ : ∀ (H : Heap) (locs : List Loc) (pc : Nat) (ls : Array Slot), decode qb_K_freeSlot pc = .ok (.ireturn, 1) → xW D ad cI A s.heap S H locs → W p l e R s m args below meth c H locs 0 0 Q (F0 m pc ls [.int res])) (a1 a2 : Int32) (hM : f_K_freeSlot S a1 a2 = some res) {H : Heap} {locs : List Loc} {ls : Array Slot} (w : xW D ad cI A s.heap S H locs) (hl : lv_has ls 4 [(0, .ref (ad 1)), (1, .int a1), (2, .int a2)]) : W p l e R s m args below meth c H locs 0 0 Q (F0 m 0 ls []) := by
  unfold f_K_freeSlot at hM
  refine lv_aload_n F.1 F.2.1 qd_K_freeSlot_0 rfl (lv_at hl 0 rfl) ?_
  refine lv_iload_n F.1 F.2.1 qd_K_freeSlot_1 rfl (lv_at hl 2 rfl) ?_
  obtain ⟨q1, hq2, hM⟩ := qbd hM
  refine x_calli F hK hN hA w (c_K_isFace l D ad cI hq2) qk_221 qk_222 qk_223 qk_2 qk_224 qv_K_isFace rfl rfl ⟨Nat.le_trans (by decide) hR.1, Nat.le_trans (by decide) hR.2⟩ (ci := 0) rfl (j := 1) rfl hl.1 rfl (Nat.le_of_ble_eq_true rfl) qd_K_freeSlot_2 (fun H locs w => ?_)
  refine lv_if_ne (tgt := 23) F.1 F.2.1 qd_K_freeSlot_5 (by decide) (fun hc3 => ?_) (fun hc3 => ?_)
  · rw [if_neg hc3] at hM
    refine lv_iconst (v := 1) F.1 F.2.1 qd_K_freeSlot_23 (by decide) ?_
    refine lv_istore_n (lv' := [(3, .int (1 : Int32)), (0, .ref (ad 1)), (1, .int a1), (2, .int a2)]) F.1 F.2.1 qd_K_freeSlot_24 rfl hl (by decide) rfl (fun ls hl => ?_)
    exact t_K_freeSlot_25 F hR hK hN hA hQ  qfu _ _ hM w (lv_sub hl [1, 2, 0] rfl)
  · rw [if_pos hc3] at hM
    refine lv_aload_n F.1 F.2.1 qd_K_freeSlot_8 rfl (lv_at hl 0 rfl) ?_
    refine lv_iload_n F.1 F.2.1 qd_K_freeSlot_9 rfl (lv_at hl 1 rfl) ?_
    refine lv_iconst (v := 0) F.1 F.2.1 qd_K_freeSlot_10 (by decide) ?_
    obtain ⟨q4, hq5, hM⟩ := qbd hM
    refine x_calli F hK hN hA w (c_K_superType l D ad cI hq5) qk_287 qk_288 qk_289 qk_2 qk_290 qv_K_superType rfl rfl ⟨Nat.le_trans (by decide) hR.1, Nat.le_trans (by decide) hR.2⟩ (ci := 0) rfl (j := 1) rfl hl.1 rfl (Nat.le_of_ble_eq_true rfl) qd_K_freeSlot_11 (fun H locs w => ?_)
    refine lv_if_ne (tgt := 21) F.1 F.2.1 qd_K_freeSlot_14 (by decide) (fun hc6 => ?_) (fun hc6 => ?_)
    · rw [if_neg hc6] at hM
      refine lv_iconst (v := (-1)) F.1 F.2.1 qd_K_freeSlot_21 (by decide) ?_
      cases hM
      exact hQ _ _ _ _ qd_K_freeSlot_22 w
    · rw [if_pos hc6] at hM
      refine lv_iconst (v := 0) F.1 F.2.1 qd_K_freeSlot_17 (by decide) ?_
      refine lv_goto (tgt := 22) F.1 F.2.1 qd_K_freeSlot_18 (by decide) ?_
      cases hM
      exact hQ _ _ _ _ qd_K_freeSlot_22 w
set_option maxRecDepth 100000 in
theorem c_K_freeSlot (l : Launch) (D : va_G) (ad : Nat → Nat) (cI : ClassId) {S : (Nat → Nat → Int32)} {a1 a2 : Int32} {res : Int32} (hM : f_K_freeSlot S a1 a2 = some res) : xMi l qy_K_freeSlot qb_K_freeSlot 4 (some .int) { frames := 1, cells := 0, slots := 0, locals := 23 } D ad cI S [.ref (ad 1), .int a1, .int a2] res S := x_ofi (by decide +kernel) (Nat.le_of_ble_eq_true rfl) (fun p e s m args below meth c Q A ls F hK hN hA w hl hQ => t_K_freeSlot F ⟨Nat.le_refl _, Nat.le_refl _⟩ hK hN hA hQ a1 a2 hM w hl)
-- K_setSuper
def f_K_setSuper (S : (Nat → Nat → Int32)) (a1 a2 a3 a4 : Int32) : Option (Nat → Nat → Int32) := if a1 < 0 then (some S) else (if (S 0 0) ≤ a1 then (some S) else (if a2 < 0 then (some S) else (if (3 : Int32) ≤ a2 then (some S) else (qck (qin ((a1 * (3 : Int32)) + a2) 36) (qck (qin ((a1 * (3 : Int32)) + a2) 36) ((f_K_reckon (qwr (qwr S 3 ((a1 * (3 : Int32)) + a2).toNatClampNeg a3) 4 ((a1 * (3 : Int32)) + a2).toNatClampNeg a4)).bind (fun q7 => some q7)))))))
set_option maxRecDepth 100000 in
set_option maxHeartbeats 4000000 in
theorem t_K_setSuper {p : Program} {l : Launch} {e : Env} {R : Room} {s : State} {m : MethodId} {args : Array Value} {below : List Frame} {meth : Method} {c : Code} {Q : State → Prop} {D : va_G} {ad : Nat → Nat} {cI : ClassId} {A : Nat → Prop} (F : CallFix p m c qb_K_setSuper 5 s args qtb "CaptureSubtypes$Classes") (hR : 5 ≤ R.frames ∧ 109 ≤ R.locals) (hK : va_K D qcl [(cI, .int)] s) (hN : qnests xns s) (hA : ∀ q, s.heap.size ≤ q → A q) {res : (Nat → Nat → Int32)} (hQ : ∀ (H : Heap) (locs : List Loc) (pc : Nat) (ls : Array Slot), decode qb_K_setSuper pc = .ok (.return_, 1) → xW D ad cI A s.heap res H locs → W p l e R s m args below meth c H locs 0 0 Q (F0 m pc ls [])) (S : (Nat → Nat → Int32)) (a1 a2 a3 a4 : Int32) (hM : f_K_setSuper S a1 a2 a3 a4 = some res) {H : Heap} {locs : List Loc} {ls : Array Slot} (w : xW D ad cI A s.heap S H locs) (hl : lv_has ls 5 [(0, .ref (ad 1)), (1, .int a1), (2, .int a2), (3, .int a3), (4, .int a4)]) : W p l e R s m args below meth c H locs 0 0 Q (F0 m 0 ls []) := by
  unfold f_K_setSuper at hM
  refine lv_iload_n F.1 F.2.1 qd_K_setSuper_0 rfl (lv_at hl 1 rfl) ?_
  refine lv_if_lt (tgt := 48) F.1 F.2.1 qd_K_setSuper_1 (by decide) (fun hc1 => ?_) (fun hc1 => ?_)
  · rw [if_pos hc1] at hM
    cases hM
    exact hQ _ _ _ _ qd_K_setSuper_48 w
  · rw [if_neg hc1] at hM
    refine lv_iload_n F.1 F.2.1 qd_K_setSuper_4 rfl (lv_at hl 1 rfl) ?_
    refine lv_aload_n F.1 F.2.1 qd_K_setSuper_5 rfl (lv_at hl 0 rfl) ?_
    refine xg_K_count F hK w qk_31 qd_K_setSuper_6 ?_
    refine lv_icmp_ge (tgt := 48) F.1 F.2.1 qd_K_setSuper_9 (by decide) (fun hc2 => ?_) (fun hc2 => ?_)
    · rw [if_pos hc2] at hM
      cases hM
      exact hQ _ _ _ _ qd_K_setSuper_48 w
    · rw [if_neg hc2] at hM
      refine lv_iload_n F.1 F.2.1 qd_K_setSuper_12 rfl (lv_at hl 2 rfl) ?_
      refine lv_if_lt (tgt := 48) F.1 F.2.1 qd_K_setSuper_13 (by decide) (fun hc3 => ?_) (fun hc3 => ?_)
      · rw [if_pos hc3] at hM
        cases hM
        exact hQ _ _ _ _ qd_K_setSuper_48 w
      · rw [if_neg hc3] at hM
        refine lv_iload_n F.1 F.2.1 qd_K_setSuper_16 rfl (lv_at hl 2 rfl) ?_
        refine lv_iconst (v := 3) F.1 F.2.1 qd_K_setSuper_17 (by decide) ?_
        refine lv_icmp_ge (tgt := 48) F.1 F.2.1 qd_K_setSuper_18 (by decide) (fun hc4 => ?_) (fun hc4 => ?_)
        · rw [if_pos hc4] at hM
          cases hM
          exact hQ _ _ _ _ qd_K_setSuper_48 w
        · rw [if_neg hc4] at hM
          refine lv_aload_n F.1 F.2.1 qd_K_setSuper_21 rfl (lv_at hl 0 rfl) ?_
          refine xg_K_superTypes F hK w qk_37 qd_K_setSuper_22 ?_
          refine lv_iload_n F.1 F.2.1 qd_K_setSuper_25 rfl (lv_at hl 1 rfl) ?_
          refine lv_iconst (v := 3) F.1 F.2.1 qd_K_setSuper_26 (by decide) ?_
          refine lv_imul F.1 F.2.1 qd_K_setSuper_27 ?_
          refine lv_iload_n F.1 F.2.1 qd_K_setSuper_28 rfl (lv_at hl 2 rfl) ?_
          refine lv_iadd F.1 F.2.1 qd_K_setSuper_29 ?_
          refine lv_iload_n F.1 F.2.1 qd_K_setSuper_30 rfl (lv_at hl 3 rfl) ?_
          obtain ⟨hi5, hM⟩ := qck_ok hM
          refine xs_K_superTypes F hK w hi5 qd_K_setSuper_31 (fun H locs w => ?_)
          refine lv_aload_n F.1 F.2.1 qd_K_setSuper_32 rfl (lv_at hl 0 rfl) ?_
          refine xg_K_superClasses F hK w qk_38 qd_K_setSuper_33 ?_
          refine lv_iload_n F.1 F.2.1 qd_K_setSuper_36 rfl (lv_at hl 1 rfl) ?_
          refine lv_iconst (v := 3) F.1 F.2.1 qd_K_setSuper_37 (by decide) ?_
          refine lv_imul F.1 F.2.1 qd_K_setSuper_38 ?_
          refine lv_iload_n F.1 F.2.1 qd_K_setSuper_39 rfl (lv_at hl 2 rfl) ?_
          refine lv_iadd F.1 F.2.1 qd_K_setSuper_40 ?_
          refine lv_iload F.1 F.2.1 qd_K_setSuper_41 (lv_at hl 4 rfl) ?_
          obtain ⟨hi6, hM⟩ := qck_ok hM
          refine xs_K_superClasses F hK w hi6 qd_K_setSuper_43 (fun H locs w => ?_)
          refine lv_aload_n F.1 F.2.1 qd_K_setSuper_44 rfl (lv_at hl 0 rfl) ?_
          obtain ⟨q7, hq8, hM⟩ := qbd hM
          refine x_callv F hK hN hA w (c_K_reckon l D ad cI hq8) qk_197 qk_199 qs_K_reckon qk_2 qk_200 qv_K_reckon rfl rfl ⟨Nat.le_trans (by decide) hR.1, Nat.le_trans (by decide) hR.2⟩ (ci := 0) rfl (j := 1) rfl hl.1 rfl (Nat.le_of_ble_eq_true rfl) qd_K_setSuper_45 (fun H locs w => ?_)
          cases hM
          exact hQ _ _ _ _ qd_K_setSuper_48 w
set_option maxRecDepth 100000 in
theorem c_K_setSuper (l : Launch) (D : va_G) (ad : Nat → Nat) (cI : ClassId) {S : (Nat → Nat → Int32)} {a1 a2 a3 a4 : Int32} {res : (Nat → Nat → Int32)} (hM : f_K_setSuper S a1 a2 a3 a4 = some res) : xMv l qy_K_setSuper qb_K_setSuper 5 none { frames := 5, cells := 0, slots := 0, locals := 109 } D ad cI S [.ref (ad 1), .int a1, .int a2, .int a3, .int a4] res := x_ofv (by decide +kernel) (Nat.le_of_ble_eq_true rfl) (fun p e s m args below meth c Q A ls F hK hN hA w hl hQ => t_K_setSuper F ⟨Nat.le_refl _, Nat.le_refl _⟩ hK hN hA hQ S a1 a2 a3 a4 hM w hl)
-- T_mark
def f_T_mark (S : (Nat → Nat → Int32)) : Option Int32 := some (S 11 0)
set_option maxRecDepth 100000 in
set_option maxHeartbeats 4000000 in
theorem t_T_mark {p : Program} {l : Launch} {e : Env} {R : Room} {s : State} {m : MethodId} {args : Array Value} {below : List Frame} {meth : Method} {c : Code} {Q : State → Prop} {D : va_G} {ad : Nat → Nat} {cI : ClassId} {A : Nat → Prop} (F : CallFix p m c qb_T_mark 1 s args qtb "CaptureSubtypes$Types") (hR : 0 ≤ R.frames ∧ 0 ≤ R.locals) (hK : va_K D qcl [(cI, .int)] s) (hN : qnests xns s) (hA : ∀ q, s.heap.size ≤ q → A q) {res : Int32} {S : (Nat → Nat → Int32)} (hQ : ∀ (H : Heap) (locs : List Loc) (pc : Nat) (ls : Array Slot), decode qb_T_mark pc = .ok (.ireturn, 1) → xW D ad cI A s.heap S H locs → W p l e R s m args below meth c H locs 0 0 Q (F0 m pc ls [.int res])) (hM : f_T_mark S  = some res) {H : Heap} {locs : List Loc} {ls : Array Slot} (w : xW D ad cI A s.heap S H locs) (hl : lv_has ls 1 [(0, .ref (ad 2))]) : W p l e R s m args below meth c H locs 0 0 Q (F0 m 0 ls []) := by
  unfold f_T_mark at hM
  refine lv_aload_n F.1 F.2.1 qd_T_mark_0 rfl (lv_at hl 0 rfl) ?_
  refine xg_T_top F hK w qk_89 qd_T_mark_1 ?_
  cases hM
  exact hQ _ _ _ _ qd_T_mark_4 w
set_option maxRecDepth 100000 in
theorem c_T_mark (l : Launch) (D : va_G) (ad : Nat → Nat) (cI : ClassId) {S : (Nat → Nat → Int32)} {res : Int32} (hM : f_T_mark S  = some res) : xMi l qy_T_mark qb_T_mark 1 (some .int) { frames := 0, cells := 0, slots := 0, locals := 0 } D ad cI S [.ref (ad 2)] res S := x_ofi (by decide +kernel) (Nat.le_of_ble_eq_true rfl) (fun p e s m args below meth c Q A ls F hK hN hA w hl hQ => t_T_mark F ⟨Nat.le_refl _, Nat.le_refl _⟩ hK hN hA hQ  hM w hl)
-- K_slotTowards
def fb_K_slotTowards_2 (k_2 : (Nat → Nat → Int32) → Int32 → Int32 → Int32 → Option Int32) (S : (Nat → Nat → Int32)) (v1 v2 v3 : Int32) : Option Int32 := if (3 : Int32) ≤ v3 then (some (-1 : Int32)) else ((f_K_superClass S v1 v3).bind (fun q2 => (f_K_isUnder S q2 v2).bind (fun q4 => if (qB q4) = 0 then (k_2 S v1 v2 (v3 + (1 : Int32))) else (some v3))))
def f_K_slotTowards_2 : Nat → (Nat → Nat → Int32) → Int32 → Int32 → Int32 → Option Int32
  | 0 => fun _ _ _ _ => none
  | n + 1 => fun S v1 v2 v3 => fb_K_slotTowards_2 (f_K_slotTowards_2 n) S v1 v2 v3
def f_K_slotTowards (S : (Nat → Nat → Int32)) (a1 a2 : Int32) : Option Int32 := f_K_slotTowards_2  qfu S a1 a2 (0 : Int32)
set_option maxRecDepth 100000 in
set_option maxHeartbeats 4000000 in
theorem tb_K_slotTowards_2 {p : Program} {l : Launch} {e : Env} {R : Room} {s : State} {m : MethodId} {args : Array Value} {below : List Frame} {meth : Method} {c : Code} {Q : State → Prop} {D : va_G} {ad : Nat → Nat} {cI : ClassId} {A : Nat → Prop} (F : CallFix p m c qb_K_slotTowards 4 s args qtb "CaptureSubtypes$Classes") (hR : 1 ≤ R.frames ∧ 23 ≤ R.locals) (hK : va_K D qcl [(cI, .int)] s) (hN : qnests xns s) (hA : ∀ q, s.heap.size ≤ q → A q) {res : Int32} {S : (Nat → Nat → Int32)} (hQ : ∀ (H : Heap) (locs : List Loc) (pc : Nat) (ls : Array Slot), decode qb_K_slotTowards pc = .ok (.ireturn, 1) → xW D ad cI A s.heap S H locs → W p l e R s m args below meth c H locs 0 0 Q (F0 m pc ls [.int res])) {k_2 : (Nat → Nat → Int32) → Int32 → Int32 → Int32 → Option Int32} (hk_2 : ∀  (v1 v2 v3 : Int32), k_2 S v1 v2 v3 = some res → ∀ {H : Heap} {locs : List Loc} {ls : Array Slot}, xW D ad cI A s.heap S H locs → lv_has ls 4 [(0, .ref (ad 1)), (1, .int v1), (2, .int v2), (3, .int v3)] → W p l e R s m args below meth c H locs 0 0 Q (F0 m 2 ls [])) (v1 v2 v3 : Int32) (hM : fb_K_slotTowards_2 k_2 S v1 v2 v3 = some res) {H : Heap} {locs : List Loc} {ls : Array Slot} (w : xW D ad cI A s.heap S H locs) (hl : lv_has ls 4 [(0, .ref (ad 1)), (1, .int v1), (2, .int v2), (3, .int v3)]) : W p l e R s m args below meth c H locs 0 0 Q (F0 m 2 ls []) := by
  unfold fb_K_slotTowards_2 at hM
  refine lv_iload_n F.1 F.2.1 qd_K_slotTowards_2 rfl (lv_at hl 3 rfl) ?_
  refine lv_iconst (v := 3) F.1 F.2.1 qd_K_slotTowards_3 (by decide) ?_
  refine lv_icmp_ge (tgt := 29) F.1 F.2.1 qd_K_slotTowards_4 (by decide) (fun hc1 => ?_) (fun hc1 => ?_)
  · rw [if_pos hc1] at hM
    refine lv_iconst (v := (-1)) F.1 F.2.1 qd_K_slotTowards_29 (by decide) ?_
    cases hM
    exact hQ _ _ _ _ qd_K_slotTowards_30 w
  · rw [if_neg hc1] at hM
    refine lv_aload_n F.1 F.2.1 qd_K_slotTowards_7 rfl (lv_at hl 0 rfl) ?_
    refine lv_aload_n F.1 F.2.1 qd_K_slotTowards_8 rfl (lv_at hl 0 rfl) ?_
    refine lv_iload_n F.1 F.2.1 qd_K_slotTowards_9 rfl (lv_at hl 1 rfl) ?_
    refine lv_iload_n F.1 F.2.1 qd_K_slotTowards_10 rfl (lv_at hl 3 rfl) ?_
    obtain ⟨q2, hq3, hM⟩ := qbd hM
    refine x_calli F hK hN hA w (c_K_superClass l D ad cI hq3) qk_205 qk_206 qk_207 qk_2 qk_208 qv_K_superClass rfl rfl ⟨Nat.le_trans (by decide) hR.1, Nat.le_trans (by decide) hR.2⟩ (ci := 0) rfl (j := 1) rfl hl.1 rfl (Nat.le_of_ble_eq_true rfl) qd_K_slotTowards_11 (fun H locs w => ?_)
    refine lv_iload_n F.1 F.2.1 qd_K_slotTowards_14 rfl (lv_at hl 2 rfl) ?_
    obtain ⟨q4, hq5, hM⟩ := qbd hM
    refine x_calli F hK hN hA w (c_K_isUnder l D ad cI hq5) qk_217 qk_218 qk_219 qk_2 qk_220 qv_K_isUnder rfl rfl ⟨Nat.le_trans (by decide) hR.1, Nat.le_trans (by decide) hR.2⟩ (ci := 0) rfl (j := 1) rfl hl.1 rfl (Nat.le_of_ble_eq_true rfl) qd_K_slotTowards_15 (fun H locs w => ?_)
    refine lv_if_eq (tgt := 23) F.1 F.2.1 qd_K_slotTowards_18 (by decide) (fun hc6 => ?_) (fun hc6 => ?_)
    · rw [if_pos hc6] at hM
      refine lv_iinc (v := (v3 + (1 : Int32))) (lv' := [(3, .int (v3 + (1 : Int32))), (0, .ref (ad 1)), (1, .int v1), (2, .int v2)]) F.1 F.2.1 qd_K_slotTowards_23 hl (k := 3) rfl rfl (by decide) rfl (fun ls hl => ?_)
      refine lv_goto (tgt := 2) F.1 F.2.1 qd_K_slotTowards_26 (by decide) ?_
      exact hk_2 _ _ _ hM w (lv_sub hl [1, 2, 3, 0] rfl)
    · rw [if_neg hc6] at hM
      refine lv_iload_n F.1 F.2.1 qd_K_slotTowards_21 rfl (lv_at hl 3 rfl) ?_
      cases hM
      exact hQ _ _ _ _ qd_K_slotTowards_22 w
set_option maxRecDepth 100000 in
set_option maxHeartbeats 4000000 in
theorem t_K_slotTowards_2 {p : Program} {l : Launch} {e : Env} {R : Room} {s : State} {m : MethodId} {args : Array Value} {below : List Frame} {meth : Method} {c : Code} {Q : State → Prop} {D : va_G} {ad : Nat → Nat} {cI : ClassId} {A : Nat → Prop} (F : CallFix p m c qb_K_slotTowards 4 s args qtb "CaptureSubtypes$Classes") (hR : 1 ≤ R.frames ∧ 23 ≤ R.locals) (hK : va_K D qcl [(cI, .int)] s) (hN : qnests xns s) (hA : ∀ q, s.heap.size ≤ q → A q) {res : Int32} {S : (Nat → Nat → Int32)} (hQ : ∀ (H : Heap) (locs : List Loc) (pc : Nat) (ls : Array Slot), decode qb_K_slotTowards pc = .ok (.ireturn, 1) → xW D ad cI A s.heap S H locs → W p l e R s m args below meth c H locs 0 0 Q (F0 m pc ls [.int res])) : ∀ (n : Nat) (v1 v2 v3 : Int32) (hM : f_K_slotTowards_2 n S v1 v2 v3 = some res) {H : Heap} {locs : List Loc} {ls : Array Slot} (w : xW D ad cI A s.heap S H locs) (hl : lv_has ls 4 [(0, .ref (ad 1)), (1, .int v1), (2, .int v2), (3, .int v3)]), W p l e R s m args below meth c H locs 0 0 Q (F0 m 2 ls []) := by
  intro n
  induction n with
  | zero => intro v1 v2 v3 hM; exact absurd hM (by simp [f_K_slotTowards_2])
  | succ n ih => intro v1 v2 v3 hM H locs ls w hl; exact tb_K_slotTowards_2 F hR hK hN hA hQ (k_2 := f_K_slotTowards_2 n) (fun v1 v2 v3 hM H locs ls w hl => ih v1 v2 v3 hM w hl) v1 v2 v3 hM w hl
set_option maxRecDepth 100000 in
set_option maxHeartbeats 4000000 in
theorem t_K_slotTowards {p : Program} {l : Launch} {e : Env} {R : Room} {s : State} {m : MethodId} {args : Array Value} {below : List Frame} {meth : Method} {c : Code} {Q : State → Prop} {D : va_G} {ad : Nat → Nat} {cI : ClassId} {A : Nat → Prop} (F : CallFix p m c qb_K_slotTowards 4 s args qtb "CaptureSubtypes$Classes") (hR : 1 ≤ R.frames ∧ 23 ≤ R.locals) (hK : va_K D qcl [(cI, .int)] s) (hN : qnests xns s) (hA : ∀ q, s.heap.size ≤ q → A q) {res : Int32} {S : (Nat → Nat → Int32)} (hQ : ∀ (H : Heap) (locs : List Loc) (pc : Nat) (ls : Array Slot), decode qb_K_slotTowards pc = .ok (.ireturn, 1) → xW D ad cI A s.heap S H locs → W p l e R s m args below meth c H locs 0 0 Q (F0 m pc ls [.int res])) (a1 a2 : Int32) (hM : f_K_slotTowards S a1 a2 = some res) {H : Heap} {locs : List Loc} {ls : Array Slot} (w : xW D ad cI A s.heap S H locs) (hl : lv_has ls 4 [(0, .ref (ad 1)), (1, .int a1), (2, .int a2)]) : W p l e R s m args below meth c H locs 0 0 Q (F0 m 0 ls []) := by
  unfold f_K_slotTowards at hM
  refine lv_iconst (v := 0) F.1 F.2.1 qd_K_slotTowards_0 (by decide) ?_
  refine lv_istore_n (lv' := [(3, .int (0 : Int32)), (0, .ref (ad 1)), (1, .int a1), (2, .int a2)]) F.1 F.2.1 qd_K_slotTowards_1 rfl hl (by decide) rfl (fun ls hl => ?_)
  exact t_K_slotTowards_2 F hR hK hN hA hQ  qfu _ _ _ hM w (lv_sub hl [1, 2, 3, 0] rfl)
set_option maxRecDepth 100000 in
theorem c_K_slotTowards (l : Launch) (D : va_G) (ad : Nat → Nat) (cI : ClassId) {S : (Nat → Nat → Int32)} {a1 a2 : Int32} {res : Int32} (hM : f_K_slotTowards S a1 a2 = some res) : xMi l qy_K_slotTowards qb_K_slotTowards 4 (some .int) { frames := 1, cells := 0, slots := 0, locals := 23 } D ad cI S [.ref (ad 1), .int a1, .int a2] res S := x_ofi (by decide +kernel) (Nat.le_of_ble_eq_true rfl) (fun p e s m args below meth c Q A ls F hK hN hA w hl hQ => t_K_slotTowards F ⟨Nat.le_refl _, Nat.le_refl _⟩ hK hN hA hQ a1 a2 hM w hl)
-- K_nameSort
def f_K_nameSort (S : (Nat → Nat → Int32)) (a1 : Int32) : Option Int32 := if a1 < 0 then (some (0 : Int32)) else (if (S 0 0) ≤ a1 then (some (0 : Int32)) else (qck (qin a1 12) (if (S 2 a1.toNatClampNeg) ≤ 0 then (some (0 : Int32)) else (some (1 : Int32)))))
set_option maxRecDepth 100000 in
set_option maxHeartbeats 4000000 in
theorem t_K_nameSort {p : Program} {l : Launch} {e : Env} {R : Room} {s : State} {m : MethodId} {args : Array Value} {below : List Frame} {meth : Method} {c : Code} {Q : State → Prop} {D : va_G} {ad : Nat → Nat} {cI : ClassId} {A : Nat → Prop} (F : CallFix p m c qb_K_nameSort 2 s args qtb "CaptureSubtypes$Classes") (hR : 0 ≤ R.frames ∧ 0 ≤ R.locals) (hK : va_K D qcl [(cI, .int)] s) (hN : qnests xns s) (hA : ∀ q, s.heap.size ≤ q → A q) {res : Int32} {S : (Nat → Nat → Int32)} (hQ : ∀ (H : Heap) (locs : List Loc) (pc : Nat) (ls : Array Slot), decode qb_K_nameSort pc = .ok (.ireturn, 1) → xW D ad cI A s.heap S H locs → W p l e R s m args below meth c H locs 0 0 Q (F0 m pc ls [.int res])) (a1 : Int32) (hM : f_K_nameSort S a1 = some res) {H : Heap} {locs : List Loc} {ls : Array Slot} (w : xW D ad cI A s.heap S H locs) (hl : lv_has ls 2 [(0, .ref (ad 1)), (1, .int a1)]) : W p l e R s m args below meth c H locs 0 0 Q (F0 m 0 ls []) := by
  unfold f_K_nameSort at hM
  refine lv_iload_n F.1 F.2.1 qd_K_nameSort_0 rfl (lv_at hl 1 rfl) ?_
  refine lv_if_lt (tgt := 25) F.1 F.2.1 qd_K_nameSort_1 (by decide) (fun hc1 => ?_) (fun hc1 => ?_)
  · rw [if_pos hc1] at hM
    refine lv_iconst (v := 0) F.1 F.2.1 qd_K_nameSort_25 (by decide) ?_
    cases hM
    exact hQ _ _ _ _ qd_K_nameSort_26 w
  · rw [if_neg hc1] at hM
    refine lv_iload_n F.1 F.2.1 qd_K_nameSort_4 rfl (lv_at hl 1 rfl) ?_
    refine lv_aload_n F.1 F.2.1 qd_K_nameSort_5 rfl (lv_at hl 0 rfl) ?_
    refine xg_K_count F hK w qk_31 qd_K_nameSort_6 ?_
    refine lv_icmp_ge (tgt := 25) F.1 F.2.1 qd_K_nameSort_9 (by decide) (fun hc2 => ?_) (fun hc2 => ?_)
    · rw [if_pos hc2] at hM
      refine lv_iconst (v := 0) F.1 F.2.1 qd_K_nameSort_25 (by decide) ?_
      cases hM
      exact hQ _ _ _ _ qd_K_nameSort_26 w
    · rw [if_neg hc2] at hM
      refine lv_aload_n F.1 F.2.1 qd_K_nameSort_12 rfl (lv_at hl 0 rfl) ?_
      refine xg_K_parameterCounts F hK w qk_36 qd_K_nameSort_13 ?_
      refine lv_iload_n F.1 F.2.1 qd_K_nameSort_16 rfl (lv_at hl 1 rfl) ?_
      obtain ⟨hi3, hM⟩ := qck_ok hM
      refine xl_K_parameterCounts F hK w hi3 qd_K_nameSort_17 ?_
      refine lv_if_le (tgt := 25) F.1 F.2.1 qd_K_nameSort_18 (by decide) (fun hc4 => ?_) (fun hc4 => ?_)
      · rw [if_pos hc4] at hM
        refine lv_iconst (v := 0) F.1 F.2.1 qd_K_nameSort_25 (by decide) ?_
        cases hM
        exact hQ _ _ _ _ qd_K_nameSort_26 w
      · rw [if_neg hc4] at hM
        refine lv_iconst (v := 1) F.1 F.2.1 qd_K_nameSort_21 (by decide) ?_
        refine lv_goto (tgt := 26) F.1 F.2.1 qd_K_nameSort_22 (by decide) ?_
        cases hM
        exact hQ _ _ _ _ qd_K_nameSort_26 w
set_option maxRecDepth 100000 in
theorem c_K_nameSort (l : Launch) (D : va_G) (ad : Nat → Nat) (cI : ClassId) {S : (Nat → Nat → Int32)} {a1 : Int32} {res : Int32} (hM : f_K_nameSort S a1 = some res) : xMi l qy_K_nameSort qb_K_nameSort 2 (some .int) { frames := 0, cells := 0, slots := 0, locals := 0 } D ad cI S [.ref (ad 1), .int a1] res S := x_ofi (by decide +kernel) (Nat.le_of_ble_eq_true rfl) (fun p e s m args below meth c Q A ls F hK hN hA w hl hQ => t_K_nameSort F ⟨Nat.le_refl _, Nat.le_refl _⟩ hK hN hA hQ a1 hM w hl)
-- S_nameAlone
def f_S_nameAlone (S : (Nat → Nat → Int32)) (a1 : Int32) : Option (Int32 × (Nat → Nat → Int32)) := (f_K_has S a1).bind (fun q1 => if (qB q1) = 0 then (some ((-3 : Int32), S)) else ((f_K_nameSort S a1).bind (fun q4 => (f_T_put S q4 a1 (-1 : Int32) (-1 : Int32) (1024 : Int32)).bind (fun q6 => some (q6.1, q6.2)))))
set_option maxRecDepth 100000 in
set_option maxHeartbeats 4000000 in
theorem t_S_nameAlone {p : Program} {l : Launch} {e : Env} {R : Room} {s : State} {m : MethodId} {args : Array Value} {below : List Frame} {meth : Method} {c : Code} {Q : State → Prop} {D : va_G} {ad : Nat → Nat} {cI : ClassId} {A : Nat → Prop} (F : CallFix p m c qb_S_nameAlone 2 s args qtb "CaptureSubtypes$Shapes") (hR : 2 ≤ R.frames ∧ 69 ≤ R.locals) (hK : va_K D qcl [(cI, .int)] s) (hN : qnests xns s) (hA : ∀ q, s.heap.size ≤ q → A q) {res : (Int32 × (Nat → Nat → Int32))} (hQ : ∀ (H : Heap) (locs : List Loc) (pc : Nat) (ls : Array Slot), decode qb_S_nameAlone pc = .ok (.ireturn, 1) → xW D ad cI A s.heap res.2 H locs → W p l e R s m args below meth c H locs 0 0 Q (F0 m pc ls [.int res.1])) (S : (Nat → Nat → Int32)) (a1 : Int32) (hM : f_S_nameAlone S a1 = some res) {H : Heap} {locs : List Loc} {ls : Array Slot} (w : xW D ad cI A s.heap S H locs) (hl : lv_has ls 2 [(0, .ref (ad 3)), (1, .int a1)]) : W p l e R s m args below meth c H locs 0 0 Q (F0 m 0 ls []) := by
  unfold f_S_nameAlone at hM
  refine lv_aload_n F.1 F.2.1 qd_S_nameAlone_0 rfl (lv_at hl 0 rfl) ?_
  refine xg_S_classes F hK w qk_125 qd_S_nameAlone_1 ?_
  refine lv_iload_n F.1 F.2.1 qd_S_nameAlone_4 rfl (lv_at hl 1 rfl) ?_
  obtain ⟨q1, hq2, hM⟩ := qbd hM
  refine x_calli F hK hN hA w (c_K_has l D ad cI hq2) qk_327 qk_258 qk_259 qk_2 qk_260 qv_K_has rfl rfl ⟨Nat.le_trans (by decide) hR.1, Nat.le_trans (by decide) hR.2⟩ (ci := 0) rfl (j := 1) rfl hl.1 rfl (Nat.le_of_ble_eq_true rfl) qd_S_nameAlone_5 (fun H locs w => ?_)
  refine lv_if_ne (tgt := 14) F.1 F.2.1 qd_S_nameAlone_8 (by decide) (fun hc3 => ?_) (fun hc3 => ?_)
  · rw [if_neg hc3] at hM
    refine lv_aload_n F.1 F.2.1 qd_S_nameAlone_14 rfl (lv_at hl 0 rfl) ?_
    refine xg_S_types F hK w qk_126 qd_S_nameAlone_15 ?_
    refine lv_aload_n F.1 F.2.1 qd_S_nameAlone_18 rfl (lv_at hl 0 rfl) ?_
    refine xg_S_classes F hK w qk_125 qd_S_nameAlone_19 ?_
    refine lv_iload_n F.1 F.2.1 qd_S_nameAlone_22 rfl (lv_at hl 1 rfl) ?_
    obtain ⟨q4, hq5, hM⟩ := qbd hM
    refine x_calli F hK hN hA w (c_K_nameSort l D ad cI hq5) qk_328 qk_329 qk_330 qk_2 qk_331 qv_K_nameSort rfl rfl ⟨Nat.le_trans (by decide) hR.1, Nat.le_trans (by decide) hR.2⟩ (ci := 0) rfl (j := 1) rfl hl.1 rfl (Nat.le_of_ble_eq_true rfl) qd_S_nameAlone_23 (fun H locs w => ?_)
    refine lv_iload_n F.1 F.2.1 qd_S_nameAlone_26 rfl (lv_at hl 1 rfl) ?_
    refine lv_iconst (v := (-1)) F.1 F.2.1 qd_S_nameAlone_27 (by decide) ?_
    refine lv_iconst (v := (-1)) F.1 F.2.1 qd_S_nameAlone_28 (by decide) ?_
    refine lv_sipush (v := 1024) F.1 F.2.1 qd_S_nameAlone_29 (by decide) ?_
    obtain ⟨q6, hq7, hM⟩ := qbd hM
    refine x_calli F hK hN hA w (c_T_put l D ad cI hq7) qk_332 qk_81 qk_82 qk_3 qk_83 qv_T_put rfl rfl ⟨Nat.le_trans (by decide) hR.1, Nat.le_trans (by decide) hR.2⟩ (ci := 1) rfl (j := 2) rfl hl.1 rfl (Nat.le_of_ble_eq_true rfl) qd_S_nameAlone_32 (fun H locs w => ?_)
    cases hM
    exact hQ _ _ _ _ qd_S_nameAlone_35 w
  · rw [if_pos hc3] at hM
    refine lv_bipush (v := (-3)) F.1 F.2.1 qd_S_nameAlone_11 (by decide) ?_
    cases hM
    exact hQ _ _ _ _ qd_S_nameAlone_13 w
set_option maxRecDepth 100000 in
theorem c_S_nameAlone (l : Launch) (D : va_G) (ad : Nat → Nat) (cI : ClassId) {S : (Nat → Nat → Int32)} {a1 : Int32} {res : (Int32 × (Nat → Nat → Int32))} (hM : f_S_nameAlone S a1 = some res) : xMi l qy_S_nameAlone qb_S_nameAlone 2 (some .int) { frames := 2, cells := 0, slots := 0, locals := 69 } D ad cI S [.ref (ad 3), .int a1] res.1 res.2 := x_ofi (by decide +kernel) (Nat.le_of_ble_eq_true rfl) (fun p e s m args below meth c Q A ls F hK hN hA w hl hQ => t_S_nameAlone F ⟨Nat.le_refl _, Nat.le_refl _⟩ hK hN hA hQ S a1 hM w hl)
-- T_mentions
def f_T_mentions (S : (Nat → Nat → Int32)) (a1 a2 : Int32) : Option Bool := if a1 < 0 then (some false) else (if (S 11 0) ≤ a1 then (some false) else (if a2 < 0 then (some false) else (if (12 : Int32) ≤ a2 then (some false) else (qck (qin a1 1024) (if (((S 17 a1.toNatClampNeg) >>> (a2 &&& 31)) &&& (1 : Int32)) = (1 : Int32) then (some true) else (some false))))))
set_option maxRecDepth 100000 in
set_option maxHeartbeats 4000000 in
theorem t_T_mentions {p : Program} {l : Launch} {e : Env} {R : Room} {s : State} {m : MethodId} {args : Array Value} {below : List Frame} {meth : Method} {c : Code} {Q : State → Prop} {D : va_G} {ad : Nat → Nat} {cI : ClassId} {A : Nat → Prop} (F : CallFix p m c qb_T_mentions 3 s args qtb "CaptureSubtypes$Types") (hR : 0 ≤ R.frames ∧ 0 ≤ R.locals) (hK : va_K D qcl [(cI, .int)] s) (hN : qnests xns s) (hA : ∀ q, s.heap.size ≤ q → A q) {res : Bool} {S : (Nat → Nat → Int32)} (hQ : ∀ (H : Heap) (locs : List Loc) (pc : Nat) (ls : Array Slot), decode qb_T_mentions pc = .ok (.ireturn, 1) → xW D ad cI A s.heap S H locs → W p l e R s m args below meth c H locs 0 0 Q (F0 m pc ls [.int (qB res)])) (a1 a2 : Int32) (hM : f_T_mentions S a1 a2 = some res) {H : Heap} {locs : List Loc} {ls : Array Slot} (w : xW D ad cI A s.heap S H locs) (hl : lv_has ls 3 [(0, .ref (ad 2)), (1, .int a1), (2, .int a2)]) : W p l e R s m args below meth c H locs 0 0 Q (F0 m 0 ls []) := by
  unfold f_T_mentions at hM
  refine lv_iload_n F.1 F.2.1 qd_T_mentions_0 rfl (lv_at hl 1 rfl) ?_
  refine lv_if_lt (tgt := 40) F.1 F.2.1 qd_T_mentions_1 (by decide) (fun hc1 => ?_) (fun hc1 => ?_)
  · rw [if_pos hc1] at hM
    refine lv_iconst (v := 0) F.1 F.2.1 qd_T_mentions_40 (by decide) ?_
    cases hM
    exact hQ _ _ _ _ qd_T_mentions_41 w
  · rw [if_neg hc1] at hM
    refine lv_iload_n F.1 F.2.1 qd_T_mentions_4 rfl (lv_at hl 1 rfl) ?_
    refine lv_aload_n F.1 F.2.1 qd_T_mentions_5 rfl (lv_at hl 0 rfl) ?_
    refine xg_T_top F hK w qk_89 qd_T_mentions_6 ?_
    refine lv_icmp_ge (tgt := 40) F.1 F.2.1 qd_T_mentions_9 (by decide) (fun hc2 => ?_) (fun hc2 => ?_)
    · rw [if_pos hc2] at hM
      refine lv_iconst (v := 0) F.1 F.2.1 qd_T_mentions_40 (by decide) ?_
      cases hM
      exact hQ _ _ _ _ qd_T_mentions_41 w
    · rw [if_neg hc2] at hM
      refine lv_iload_n F.1 F.2.1 qd_T_mentions_12 rfl (lv_at hl 2 rfl) ?_
      refine lv_if_lt (tgt := 40) F.1 F.2.1 qd_T_mentions_13 (by decide) (fun hc3 => ?_) (fun hc3 => ?_)
      · rw [if_pos hc3] at hM
        refine lv_iconst (v := 0) F.1 F.2.1 qd_T_mentions_40 (by decide) ?_
        cases hM
        exact hQ _ _ _ _ qd_T_mentions_41 w
      · rw [if_neg hc3] at hM
        refine lv_iload_n F.1 F.2.1 qd_T_mentions_16 rfl (lv_at hl 2 rfl) ?_
        refine lv_bipush (v := 12) F.1 F.2.1 qd_T_mentions_17 (by decide) ?_
        refine lv_icmp_ge (tgt := 40) F.1 F.2.1 qd_T_mentions_19 (by decide) (fun hc4 => ?_) (fun hc4 => ?_)
        · rw [if_pos hc4] at hM
          refine lv_iconst (v := 0) F.1 F.2.1 qd_T_mentions_40 (by decide) ?_
          cases hM
          exact hQ _ _ _ _ qd_T_mentions_41 w
        · rw [if_neg hc4] at hM
          refine lv_aload_n F.1 F.2.1 qd_T_mentions_22 rfl (lv_at hl 0 rfl) ?_
          refine xg_T_insides F hK w qk_95 qd_T_mentions_23 ?_
          refine lv_iload_n F.1 F.2.1 qd_T_mentions_26 rfl (lv_at hl 1 rfl) ?_
          obtain ⟨hi5, hM⟩ := qck_ok hM
          refine xl_T_insides F hK w hi5 qd_T_mentions_27 ?_
          refine lv_iload_n F.1 F.2.1 qd_T_mentions_28 rfl (lv_at hl 2 rfl) ?_
          refine lv_ishr F.1 F.2.1 qd_T_mentions_29 ?_
          refine lv_iconst (v := 1) F.1 F.2.1 qd_T_mentions_30 (by decide) ?_
          refine lv_iand F.1 F.2.1 qd_T_mentions_31 ?_
          refine lv_iconst (v := 1) F.1 F.2.1 qd_T_mentions_32 (by decide) ?_
          refine lv_icmp_ne (tgt := 40) F.1 F.2.1 qd_T_mentions_33 (by decide) (fun hc6 => ?_) (fun hc6 => ?_)
          · rw [if_neg hc6] at hM
            refine lv_iconst (v := 0) F.1 F.2.1 qd_T_mentions_40 (by decide) ?_
            cases hM
            exact hQ _ _ _ _ qd_T_mentions_41 w
          · rw [if_pos hc6] at hM
            refine lv_iconst (v := 1) F.1 F.2.1 qd_T_mentions_36 (by decide) ?_
            refine lv_goto (tgt := 41) F.1 F.2.1 qd_T_mentions_37 (by decide) ?_
            cases hM
            exact hQ _ _ _ _ qd_T_mentions_41 w
set_option maxRecDepth 100000 in
theorem c_T_mentions (l : Launch) (D : va_G) (ad : Nat → Nat) (cI : ClassId) {S : (Nat → Nat → Int32)} {a1 a2 : Int32} {res : Bool} (hM : f_T_mentions S a1 a2 = some res) : xMi l qy_T_mentions qb_T_mentions 3 (some .boolean) { frames := 0, cells := 0, slots := 0, locals := 0 } D ad cI S [.ref (ad 2), .int a1, .int a2] (qB res) S := x_ofz (by decide +kernel) (Nat.le_of_ble_eq_true rfl) (fun p e s m args below meth c Q A ls F hK hN hA w hl hQ => t_T_mentions F ⟨Nat.le_refl _, Nat.le_refl _⟩ hK hN hA hQ a1 a2 hM w hl)
-- T_firstOf
def f_T_firstOf (S : (Nat → Nat → Int32)) (a1 : Int32) : Option Int32 := if a1 < 0 then (some (-1 : Int32)) else (if (S 11 0) ≤ a1 then (some (-1 : Int32)) else (qck (qin a1 1024) (some (S 14 a1.toNatClampNeg))))
set_option maxRecDepth 100000 in
set_option maxHeartbeats 4000000 in
theorem t_T_firstOf {p : Program} {l : Launch} {e : Env} {R : Room} {s : State} {m : MethodId} {args : Array Value} {below : List Frame} {meth : Method} {c : Code} {Q : State → Prop} {D : va_G} {ad : Nat → Nat} {cI : ClassId} {A : Nat → Prop} (F : CallFix p m c qb_T_firstOf 2 s args qtb "CaptureSubtypes$Types") (hR : 0 ≤ R.frames ∧ 0 ≤ R.locals) (hK : va_K D qcl [(cI, .int)] s) (hN : qnests xns s) (hA : ∀ q, s.heap.size ≤ q → A q) {res : Int32} {S : (Nat → Nat → Int32)} (hQ : ∀ (H : Heap) (locs : List Loc) (pc : Nat) (ls : Array Slot), decode qb_T_firstOf pc = .ok (.ireturn, 1) → xW D ad cI A s.heap S H locs → W p l e R s m args below meth c H locs 0 0 Q (F0 m pc ls [.int res])) (a1 : Int32) (hM : f_T_firstOf S a1 = some res) {H : Heap} {locs : List Loc} {ls : Array Slot} (w : xW D ad cI A s.heap S H locs) (hl : lv_has ls 2 [(0, .ref (ad 2)), (1, .int a1)]) : W p l e R s m args below meth c H locs 0 0 Q (F0 m 0 ls []) := by
  unfold f_T_firstOf at hM
  refine lv_iload_n F.1 F.2.1 qd_T_firstOf_0 rfl (lv_at hl 1 rfl) ?_
  refine lv_if_lt (tgt := 21) F.1 F.2.1 qd_T_firstOf_1 (by decide) (fun hc1 => ?_) (fun hc1 => ?_)
  · rw [if_pos hc1] at hM
    refine lv_iconst (v := (-1)) F.1 F.2.1 qd_T_firstOf_21 (by decide) ?_
    cases hM
    exact hQ _ _ _ _ qd_T_firstOf_22 w
  · rw [if_neg hc1] at hM
    refine lv_iload_n F.1 F.2.1 qd_T_firstOf_4 rfl (lv_at hl 1 rfl) ?_
    refine lv_aload_n F.1 F.2.1 qd_T_firstOf_5 rfl (lv_at hl 0 rfl) ?_
    refine xg_T_top F hK w qk_89 qd_T_firstOf_6 ?_
    refine lv_icmp_ge (tgt := 21) F.1 F.2.1 qd_T_firstOf_9 (by decide) (fun hc2 => ?_) (fun hc2 => ?_)
    · rw [if_pos hc2] at hM
      refine lv_iconst (v := (-1)) F.1 F.2.1 qd_T_firstOf_21 (by decide) ?_
      cases hM
      exact hQ _ _ _ _ qd_T_firstOf_22 w
    · rw [if_neg hc2] at hM
      refine lv_aload_n F.1 F.2.1 qd_T_firstOf_12 rfl (lv_at hl 0 rfl) ?_
      refine xg_T_firsts F hK w qk_92 qd_T_firstOf_13 ?_
      refine lv_iload_n F.1 F.2.1 qd_T_firstOf_16 rfl (lv_at hl 1 rfl) ?_
      obtain ⟨hi3, hM⟩ := qck_ok hM
      refine xl_T_firsts F hK w hi3 qd_T_firstOf_17 ?_
      refine lv_goto (tgt := 22) F.1 F.2.1 qd_T_firstOf_18 (by decide) ?_
      cases hM
      exact hQ _ _ _ _ qd_T_firstOf_22 w
set_option maxRecDepth 100000 in
theorem c_T_firstOf (l : Launch) (D : va_G) (ad : Nat → Nat) (cI : ClassId) {S : (Nat → Nat → Int32)} {a1 : Int32} {res : Int32} (hM : f_T_firstOf S a1 = some res) : xMi l qy_T_firstOf qb_T_firstOf 2 (some .int) { frames := 0, cells := 0, slots := 0, locals := 0 } D ad cI S [.ref (ad 2), .int a1] res S := x_ofi (by decide +kernel) (Nat.le_of_ble_eq_true rfl) (fun p e s m args below meth c Q A ls F hK hN hA w hl hQ => t_T_firstOf F ⟨Nat.le_refl _, Nat.le_refl _⟩ hK hN hA hQ a1 hM w hl)
-- T_argumentOf
def f_T_argumentOf (S : (Nat → Nat → Int32)) (a1 a2 : Int32) : Option Int32 := if a1 < 0 then (some (-1 : Int32)) else (if a1 < (S 11 0) then (if a2 = 0 then (qck (qin a1 1024) (some (S 14 a1.toNatClampNeg))) else (qck (qin a1 1024) (some (S 15 a1.toNatClampNeg)))) else (some (-1 : Int32)))
set_option maxRecDepth 100000 in
set_option maxHeartbeats 4000000 in
theorem t_T_argumentOf {p : Program} {l : Launch} {e : Env} {R : Room} {s : State} {m : MethodId} {args : Array Value} {below : List Frame} {meth : Method} {c : Code} {Q : State → Prop} {D : va_G} {ad : Nat → Nat} {cI : ClassId} {A : Nat → Prop} (F : CallFix p m c qb_T_argumentOf 3 s args qtb "CaptureSubtypes$Types") (hR : 0 ≤ R.frames ∧ 0 ≤ R.locals) (hK : va_K D qcl [(cI, .int)] s) (hN : qnests xns s) (hA : ∀ q, s.heap.size ≤ q → A q) {res : Int32} {S : (Nat → Nat → Int32)} (hQ : ∀ (H : Heap) (locs : List Loc) (pc : Nat) (ls : Array Slot), decode qb_T_argumentOf pc = .ok (.ireturn, 1) → xW D ad cI A s.heap S H locs → W p l e R s m args below meth c H locs 0 0 Q (F0 m pc ls [.int res])) (a1 a2 : Int32) (hM : f_T_argumentOf S a1 a2 = some res) {H : Heap} {locs : List Loc} {ls : Array Slot} (w : xW D ad cI A s.heap S H locs) (hl : lv_has ls 3 [(0, .ref (ad 2)), (1, .int a1), (2, .int a2)]) : W p l e R s m args below meth c H locs 0 0 Q (F0 m 0 ls []) := by
  unfold f_T_argumentOf at hM
  refine lv_iload_n F.1 F.2.1 qd_T_argumentOf_0 rfl (lv_at hl 1 rfl) ?_
  refine lv_if_lt (tgt := 12) F.1 F.2.1 qd_T_argumentOf_1 (by decide) (fun hc1 => ?_) (fun hc1 => ?_)
  · rw [if_pos hc1] at hM
    refine lv_iconst (v := (-1)) F.1 F.2.1 qd_T_argumentOf_12 (by decide) ?_
    cases hM
    exact hQ _ _ _ _ qd_T_argumentOf_13 w
  · rw [if_neg hc1] at hM
    refine lv_iload_n F.1 F.2.1 qd_T_argumentOf_4 rfl (lv_at hl 1 rfl) ?_
    refine lv_aload_n F.1 F.2.1 qd_T_argumentOf_5 rfl (lv_at hl 0 rfl) ?_
    refine xg_T_top F hK w qk_89 qd_T_argumentOf_6 ?_
    refine lv_icmp_lt (tgt := 14) F.1 F.2.1 qd_T_argumentOf_9 (by decide) (fun hc2 => ?_) (fun hc2 => ?_)
    · rw [if_pos hc2] at hM
      refine lv_iload_n F.1 F.2.1 qd_T_argumentOf_14 rfl (lv_at hl 2 rfl) ?_
      refine lv_if_ne (tgt := 27) F.1 F.2.1 qd_T_argumentOf_15 (by decide) (fun hc3 => ?_) (fun hc3 => ?_)
      · rw [if_neg hc3] at hM
        refine lv_aload_n F.1 F.2.1 qd_T_argumentOf_27 rfl (lv_at hl 0 rfl) ?_
        refine xg_T_seconds F hK w qk_93 qd_T_argumentOf_28 ?_
        refine lv_iload_n F.1 F.2.1 qd_T_argumentOf_31 rfl (lv_at hl 1 rfl) ?_
        obtain ⟨hi4, hM⟩ := qck_ok hM
        refine xl_T_seconds F hK w hi4 qd_T_argumentOf_32 ?_
        cases hM
        exact hQ _ _ _ _ qd_T_argumentOf_33 w
      · rw [if_pos hc3] at hM
        refine lv_aload_n F.1 F.2.1 qd_T_argumentOf_18 rfl (lv_at hl 0 rfl) ?_
        refine xg_T_firsts F hK w qk_92 qd_T_argumentOf_19 ?_
        refine lv_iload_n F.1 F.2.1 qd_T_argumentOf_22 rfl (lv_at hl 1 rfl) ?_
        obtain ⟨hi5, hM⟩ := qck_ok hM
        refine xl_T_firsts F hK w hi5 qd_T_argumentOf_23 ?_
        refine lv_goto (tgt := 33) F.1 F.2.1 qd_T_argumentOf_24 (by decide) ?_
        cases hM
        exact hQ _ _ _ _ qd_T_argumentOf_33 w
    · rw [if_neg hc2] at hM
      refine lv_iconst (v := (-1)) F.1 F.2.1 qd_T_argumentOf_12 (by decide) ?_
      cases hM
      exact hQ _ _ _ _ qd_T_argumentOf_13 w
set_option maxRecDepth 100000 in
theorem c_T_argumentOf (l : Launch) (D : va_G) (ad : Nat → Nat) (cI : ClassId) {S : (Nat → Nat → Int32)} {a1 a2 : Int32} {res : Int32} (hM : f_T_argumentOf S a1 a2 = some res) : xMi l qy_T_argumentOf qb_T_argumentOf 3 (some .int) { frames := 0, cells := 0, slots := 0, locals := 0 } D ad cI S [.ref (ad 2), .int a1, .int a2] res S := x_ofi (by decide +kernel) (Nat.le_of_ble_eq_true rfl) (fun p e s m args below meth c Q A ls F hK hN hA w hl hQ => t_T_argumentOf F ⟨Nat.le_refl _, Nat.le_refl _⟩ hK hN hA hQ a1 a2 hM w hl)
-- T_secondOf
def f_T_secondOf (S : (Nat → Nat → Int32)) (a1 : Int32) : Option Int32 := if a1 < 0 then (some (-1 : Int32)) else (if (S 11 0) ≤ a1 then (some (-1 : Int32)) else (qck (qin a1 1024) (some (S 15 a1.toNatClampNeg))))
set_option maxRecDepth 100000 in
set_option maxHeartbeats 4000000 in
theorem t_T_secondOf {p : Program} {l : Launch} {e : Env} {R : Room} {s : State} {m : MethodId} {args : Array Value} {below : List Frame} {meth : Method} {c : Code} {Q : State → Prop} {D : va_G} {ad : Nat → Nat} {cI : ClassId} {A : Nat → Prop} (F : CallFix p m c qb_T_secondOf 2 s args qtb "CaptureSubtypes$Types") (hR : 0 ≤ R.frames ∧ 0 ≤ R.locals) (hK : va_K D qcl [(cI, .int)] s) (hN : qnests xns s) (hA : ∀ q, s.heap.size ≤ q → A q) {res : Int32} {S : (Nat → Nat → Int32)} (hQ : ∀ (H : Heap) (locs : List Loc) (pc : Nat) (ls : Array Slot), decode qb_T_secondOf pc = .ok (.ireturn, 1) → xW D ad cI A s.heap S H locs → W p l e R s m args below meth c H locs 0 0 Q (F0 m pc ls [.int res])) (a1 : Int32) (hM : f_T_secondOf S a1 = some res) {H : Heap} {locs : List Loc} {ls : Array Slot} (w : xW D ad cI A s.heap S H locs) (hl : lv_has ls 2 [(0, .ref (ad 2)), (1, .int a1)]) : W p l e R s m args below meth c H locs 0 0 Q (F0 m 0 ls []) := by
  unfold f_T_secondOf at hM
  refine lv_iload_n F.1 F.2.1 qd_T_secondOf_0 rfl (lv_at hl 1 rfl) ?_
  refine lv_if_lt (tgt := 21) F.1 F.2.1 qd_T_secondOf_1 (by decide) (fun hc1 => ?_) (fun hc1 => ?_)
  · rw [if_pos hc1] at hM
    refine lv_iconst (v := (-1)) F.1 F.2.1 qd_T_secondOf_21 (by decide) ?_
    cases hM
    exact hQ _ _ _ _ qd_T_secondOf_22 w
  · rw [if_neg hc1] at hM
    refine lv_iload_n F.1 F.2.1 qd_T_secondOf_4 rfl (lv_at hl 1 rfl) ?_
    refine lv_aload_n F.1 F.2.1 qd_T_secondOf_5 rfl (lv_at hl 0 rfl) ?_
    refine xg_T_top F hK w qk_89 qd_T_secondOf_6 ?_
    refine lv_icmp_ge (tgt := 21) F.1 F.2.1 qd_T_secondOf_9 (by decide) (fun hc2 => ?_) (fun hc2 => ?_)
    · rw [if_pos hc2] at hM
      refine lv_iconst (v := (-1)) F.1 F.2.1 qd_T_secondOf_21 (by decide) ?_
      cases hM
      exact hQ _ _ _ _ qd_T_secondOf_22 w
    · rw [if_neg hc2] at hM
      refine lv_aload_n F.1 F.2.1 qd_T_secondOf_12 rfl (lv_at hl 0 rfl) ?_
      refine xg_T_seconds F hK w qk_93 qd_T_secondOf_13 ?_
      refine lv_iload_n F.1 F.2.1 qd_T_secondOf_16 rfl (lv_at hl 1 rfl) ?_
      obtain ⟨hi3, hM⟩ := qck_ok hM
      refine xl_T_seconds F hK w hi3 qd_T_secondOf_17 ?_
      refine lv_goto (tgt := 22) F.1 F.2.1 qd_T_secondOf_18 (by decide) ?_
      cases hM
      exact hQ _ _ _ _ qd_T_secondOf_22 w
set_option maxRecDepth 100000 in
theorem c_T_secondOf (l : Launch) (D : va_G) (ad : Nat → Nat) (cI : ClassId) {S : (Nat → Nat → Int32)} {a1 : Int32} {res : Int32} (hM : f_T_secondOf S a1 = some res) : xMi l qy_T_secondOf qb_T_secondOf 2 (some .int) { frames := 0, cells := 0, slots := 0, locals := 0 } D ad cI S [.ref (ad 2), .int a1] res S := x_ofi (by decide +kernel) (Nat.le_of_ble_eq_true rfl) (fun p e s m args below meth c Q A ls F hK hN hA w hl hQ => t_T_secondOf F ⟨Nat.le_refl _, Nat.le_refl _⟩ hK hN hA hQ a1 hM w hl)
-- S_putIn
def f_S_putIn_155 (k : (Nat → Nat → Int32) → Int32 → Int32 → Int32 → Option (Int32 × (Nat → Nat → Int32))) (S : (Nat → Nat → Int32)) (v1 v4 v6 v7 : Int32) : Option (Int32 × (Nat → Nat → Int32)) := (f_T_ownerOf S v1).bind (fun q1 => (f_T_put S v4 q1 v6 v7 (1024 : Int32)).bind (fun q3 => some (q3.1, q3.2)))
def f_S_putIn_135 (k : (Nat → Nat → Int32) → Int32 → Int32 → Int32 → Option (Int32 × (Nat → Nat → Int32))) (S : (Nat → Nat → Int32)) (v1 v4 v5 v6 s1 : Int32) : Option (Int32 × (Nat → Nat → Int32)) := if v6 < 0 then (some ((-3 : Int32), S)) else (if v5 = 0 then (f_S_putIn_155 k  S v1 v4 v6 s1) else (if 0 ≤ s1 then (f_S_putIn_155 k  S v1 v4 v6 s1) else (some ((-3 : Int32), S))))
def f_S_putIn_90 (k : (Nat → Nat → Int32) → Int32 → Int32 → Int32 → Option (Int32 × (Nat → Nat → Int32))) (S : (Nat → Nat → Int32)) (v1 v2 v3 v4 s1 : Int32) : Option (Int32 × (Nat → Nat → Int32)) := (f_T_firstOf S v1).bind (fun q1 => (k S q1 v2 (v3 - (1 : Int32))).bind (fun q3 => if s1 = 0 then (f_S_putIn_135 k  q3.2 v1 v4 s1 q3.1 (-1 : Int32)) else ((f_T_secondOf q3.2 v1).bind (fun q6 => (k q3.2 q6 v2 (v3 - (1 : Int32))).bind (fun q8 => f_S_putIn_135 k  q8.2 v1 v4 s1 q3.1 q8.1)))))
def fb_S_putIn (k : (Nat → Nat → Int32) → Int32 → Int32 → Int32 → Option (Int32 × (Nat → Nat → Int32))) (S : (Nat → Nat → Int32)) (a1 a2 a3 : Int32) : Option (Int32 × (Nat → Nat → Int32)) := (f_T_sortOf S a1).bind (fun q1 => if 0 < a3 then ((f_T_sortOf S a2).bind (fun q4 => if q4 = (2 : Int32) then ((f_T_ownerOf S a2).bind (fun q7 => (f_T_mentions S a1 q7).bind (fun q9 => if (qB q9) = 0 then (some (a1, S)) else (if q1 = (3 : Int32) then ((f_T_firstOf S a1).bind (fun q16 => (f_T_argumentOf S a2 q16).bind (fun q18 => some (q18, S)))) else ((f_T_secondOf S a1).bind (fun q13 => if q13 = (-1 : Int32) then (f_S_putIn_90 k  S a1 a2 a3 q1 (0 : Int32)) else (f_S_putIn_90 k  S a1 a2 a3 q1 (1 : Int32)))))))) else (some (a1, S)))) else (some ((-3 : Int32), S)))
def f_S_putIn : Nat → (Nat → Nat → Int32) → Int32 → Int32 → Int32 → Option (Int32 × (Nat → Nat → Int32))
  | 0 => fun _ _ _ _ => none
  | n + 1 => fun S a1 a2 a3 => fb_S_putIn (f_S_putIn n) S a1 a2 a3
set_option maxRecDepth 100000 in
set_option maxHeartbeats 4000000 in
theorem t_S_putIn_155 {p : Program} {l : Launch} {e : Env} {R : Room} {s : State} {m : MethodId} {args : Array Value} {below : List Frame} {meth : Method} {c : Code} {Q : State → Prop} {D : va_G} {ad : Nat → Nat} {cI : ClassId} {A : Nat → Prop} {k : (Nat → Nat → Int32) → Int32 → Int32 → Int32 → Option (Int32 × (Nat → Nat → Int32))} {nn : Nat} (F : CallFix p m c qb_S_putIn 8 s args qtb "CaptureSubtypes$Shapes") (hR : 1 * nn + 3 ≤ R.frames ∧ 27 * nn + 96 ≤ R.locals) (hK : va_K D qcl [(cI, .int)] s) (hN : qnests xns s) (hA : ∀ q, s.heap.size ≤ q → A q) (hk : ∀ {S : (Nat → Nat → Int32)} {a1 a2 a3 : Int32} {res : Int32 × (Nat → Nat → Int32)}, k S a1 a2 a3 = some res → xMi l qy_S_putIn qb_S_putIn 8 (some .int) { frames := 1 * nn + 2, cells := 0, slots := 0, locals := 27 * nn + 69 } D ad cI S [.ref (ad 3), .int a1, .int a2, .int a3] res.1 res.2) {res : (Int32 × (Nat → Nat → Int32))} (hQ : ∀ (H : Heap) (locs : List Loc) (pc : Nat) (ls : Array Slot), decode qb_S_putIn pc = .ok (.ireturn, 1) → xW D ad cI A s.heap res.2 H locs → W p l e R s m args below meth c H locs 0 0 Q (F0 m pc ls [.int res.1])) (S : (Nat → Nat → Int32)) (v1 v4 v6 v7 : Int32) (hM : f_S_putIn_155 k S v1 v4 v6 v7 = some res) {H : Heap} {locs : List Loc} {ls : Array Slot} (w : xW D ad cI A s.heap S H locs) (hl : lv_has ls 8 [(0, .ref (ad 3)), (1, .int v1), (4, .int v4), (6, .int v6), (7, .int v7)]) : W p l e R s m args below meth c H locs 0 0 Q (F0 m 155 ls []) := by
  unfold f_S_putIn_155 at hM
  refine lv_aload_n F.1 F.2.1 qd_S_putIn_155 rfl (lv_at hl 0 rfl) ?_
  refine xg_S_types F hK w qk_126 qd_S_putIn_156 ?_
  refine lv_iload F.1 F.2.1 qd_S_putIn_159 (lv_at hl 2 rfl) ?_
  refine lv_aload_n F.1 F.2.1 qd_S_putIn_161 rfl (lv_at hl 0 rfl) ?_
  refine xg_S_types F hK w qk_126 qd_S_putIn_162 ?_
  refine lv_iload_n F.1 F.2.1 qd_S_putIn_165 rfl (lv_at hl 1 rfl) ?_
  obtain ⟨q1, hq2, hM⟩ := qbd hM
  refine x_calli F hK hN hA w (c_T_ownerOf l D ad cI hq2) qk_316 qk_274 qk_275 qk_3 qk_276 qv_T_ownerOf rfl rfl ⟨Nat.le_trans (by show 0 + 1 ≤ 1 * nn + 3; omega) hR.1, Nat.le_trans (by show 8 + (2 + 11) + 0 ≤ 27 * nn + 96; omega) hR.2⟩ (ci := 1) rfl (j := 2) rfl hl.1 rfl (Nat.le_of_ble_eq_true rfl) qd_S_putIn_166 (fun H locs w => ?_)
  refine lv_iload F.1 F.2.1 qd_S_putIn_169 (lv_at hl 3 rfl) ?_
  refine lv_iload F.1 F.2.1 qd_S_putIn_171 (lv_at hl 4 rfl) ?_
  refine lv_sipush (v := 1024) F.1 F.2.1 qd_S_putIn_173 (by decide) ?_
  obtain ⟨q3, hq4, hM⟩ := qbd hM
  refine x_calli F hK hN hA w (c_T_put l D ad cI hq4) qk_332 qk_81 qk_82 qk_3 qk_83 qv_T_put rfl rfl ⟨Nat.le_trans (by show 1 + 1 ≤ 1 * nn + 3; omega) hR.1, Nat.le_trans (by show 8 + (10 + 11) + 40 ≤ 27 * nn + 96; omega) hR.2⟩ (ci := 1) rfl (j := 2) rfl hl.1 rfl (Nat.le_of_ble_eq_true rfl) qd_S_putIn_176 (fun H locs w => ?_)
  cases hM
  exact hQ _ _ _ _ qd_S_putIn_179 w
set_option maxRecDepth 100000 in
set_option maxHeartbeats 4000000 in
theorem t_S_putIn_135 {p : Program} {l : Launch} {e : Env} {R : Room} {s : State} {m : MethodId} {args : Array Value} {below : List Frame} {meth : Method} {c : Code} {Q : State → Prop} {D : va_G} {ad : Nat → Nat} {cI : ClassId} {A : Nat → Prop} {k : (Nat → Nat → Int32) → Int32 → Int32 → Int32 → Option (Int32 × (Nat → Nat → Int32))} {nn : Nat} (F : CallFix p m c qb_S_putIn 8 s args qtb "CaptureSubtypes$Shapes") (hR : 1 * nn + 3 ≤ R.frames ∧ 27 * nn + 96 ≤ R.locals) (hK : va_K D qcl [(cI, .int)] s) (hN : qnests xns s) (hA : ∀ q, s.heap.size ≤ q → A q) (hk : ∀ {S : (Nat → Nat → Int32)} {a1 a2 a3 : Int32} {res : Int32 × (Nat → Nat → Int32)}, k S a1 a2 a3 = some res → xMi l qy_S_putIn qb_S_putIn 8 (some .int) { frames := 1 * nn + 2, cells := 0, slots := 0, locals := 27 * nn + 69 } D ad cI S [.ref (ad 3), .int a1, .int a2, .int a3] res.1 res.2) {res : (Int32 × (Nat → Nat → Int32))} (hQ : ∀ (H : Heap) (locs : List Loc) (pc : Nat) (ls : Array Slot), decode qb_S_putIn pc = .ok (.ireturn, 1) → xW D ad cI A s.heap res.2 H locs → W p l e R s m args below meth c H locs 0 0 Q (F0 m pc ls [.int res.1])) (S : (Nat → Nat → Int32)) (v1 v4 v5 v6 s1 : Int32) (hM : f_S_putIn_135 k S v1 v4 v5 v6 s1 = some res) {H : Heap} {locs : List Loc} {ls : Array Slot} (w : xW D ad cI A s.heap S H locs) (hl : lv_has ls 8 [(0, .ref (ad 3)), (1, .int v1), (4, .int v4), (5, .int v5), (6, .int v6)]) : W p l e R s m args below meth c H locs 0 0 Q (F0 m 135 ls [.int s1]) := by
  unfold f_S_putIn_135 at hM
  refine lv_istore (lv' := [(7, .int s1), (0, .ref (ad 3)), (1, .int v1), (4, .int v4), (5, .int v5), (6, .int v6)]) F.1 F.2.1 qd_S_putIn_135 hl (by decide) rfl (fun ls hl => ?_)
  refine lv_iload F.1 F.2.1 qd_S_putIn_137 (lv_at hl 5 rfl) ?_
  refine lv_if_lt (tgt := 152) F.1 F.2.1 qd_S_putIn_139 (by decide) (fun hc1 => ?_) (fun hc1 => ?_)
  · rw [if_pos hc1] at hM
    refine lv_bipush (v := (-3)) F.1 F.2.1 qd_S_putIn_152 (by decide) ?_
    cases hM
    exact hQ _ _ _ _ qd_S_putIn_154 w
  · rw [if_neg hc1] at hM
    refine lv_iload F.1 F.2.1 qd_S_putIn_142 (lv_at hl 4 rfl) ?_
    refine lv_if_eq (tgt := 155) F.1 F.2.1 qd_S_putIn_144 (by decide) (fun hc2 => ?_) (fun hc2 => ?_)
    · rw [if_pos hc2] at hM
      exact t_S_putIn_155 F hR hK hN hA hk hQ  _ _ _ _ _ hM w (lv_sub hl [1, 2, 3, 5, 0] rfl)
    · rw [if_neg hc2] at hM
      refine lv_iload F.1 F.2.1 qd_S_putIn_147 (lv_at hl 0 rfl) ?_
      refine lv_if_ge (tgt := 155) F.1 F.2.1 qd_S_putIn_149 (by decide) (fun hc3 => ?_) (fun hc3 => ?_)
      · rw [if_pos hc3] at hM
        exact t_S_putIn_155 F hR hK hN hA hk hQ  _ _ _ _ _ hM w (lv_sub hl [1, 2, 3, 5, 0] rfl)
      · rw [if_neg hc3] at hM
        refine lv_bipush (v := (-3)) F.1 F.2.1 qd_S_putIn_152 (by decide) ?_
        cases hM
        exact hQ _ _ _ _ qd_S_putIn_154 w
set_option maxRecDepth 100000 in
set_option maxHeartbeats 4000000 in
theorem t_S_putIn_90 {p : Program} {l : Launch} {e : Env} {R : Room} {s : State} {m : MethodId} {args : Array Value} {below : List Frame} {meth : Method} {c : Code} {Q : State → Prop} {D : va_G} {ad : Nat → Nat} {cI : ClassId} {A : Nat → Prop} {k : (Nat → Nat → Int32) → Int32 → Int32 → Int32 → Option (Int32 × (Nat → Nat → Int32))} {nn : Nat} (F : CallFix p m c qb_S_putIn 8 s args qtb "CaptureSubtypes$Shapes") (hR : 1 * nn + 3 ≤ R.frames ∧ 27 * nn + 96 ≤ R.locals) (hK : va_K D qcl [(cI, .int)] s) (hN : qnests xns s) (hA : ∀ q, s.heap.size ≤ q → A q) (hk : ∀ {S : (Nat → Nat → Int32)} {a1 a2 a3 : Int32} {res : Int32 × (Nat → Nat → Int32)}, k S a1 a2 a3 = some res → xMi l qy_S_putIn qb_S_putIn 8 (some .int) { frames := 1 * nn + 2, cells := 0, slots := 0, locals := 27 * nn + 69 } D ad cI S [.ref (ad 3), .int a1, .int a2, .int a3] res.1 res.2) {res : (Int32 × (Nat → Nat → Int32))} (hQ : ∀ (H : Heap) (locs : List Loc) (pc : Nat) (ls : Array Slot), decode qb_S_putIn pc = .ok (.ireturn, 1) → xW D ad cI A s.heap res.2 H locs → W p l e R s m args below meth c H locs 0 0 Q (F0 m pc ls [.int res.1])) (S : (Nat → Nat → Int32)) (v1 v2 v3 v4 s1 : Int32) (hM : f_S_putIn_90 k S v1 v2 v3 v4 s1 = some res) {H : Heap} {locs : List Loc} {ls : Array Slot} (w : xW D ad cI A s.heap S H locs) (hl : lv_has ls 8 [(0, .ref (ad 3)), (1, .int v1), (2, .int v2), (3, .int v3), (4, .int v4)]) : W p l e R s m args below meth c H locs 0 0 Q (F0 m 90 ls [.int s1]) := by
  unfold f_S_putIn_90 at hM
  refine lv_istore (lv' := [(5, .int s1), (0, .ref (ad 3)), (1, .int v1), (2, .int v2), (3, .int v3), (4, .int v4)]) F.1 F.2.1 qd_S_putIn_90 hl (by decide) rfl (fun ls hl => ?_)
  refine lv_aload_n F.1 F.2.1 qd_S_putIn_92 rfl (lv_at hl 1 rfl) ?_
  refine lv_aload_n F.1 F.2.1 qd_S_putIn_93 rfl (lv_at hl 1 rfl) ?_
  refine xg_S_types F hK w qk_126 qd_S_putIn_94 ?_
  refine lv_iload_n F.1 F.2.1 qd_S_putIn_97 rfl (lv_at hl 2 rfl) ?_
  obtain ⟨q1, hq2, hM⟩ := qbd hM
  refine x_calli F hK hN hA w (c_T_firstOf l D ad cI hq2) qk_341 qk_342 qk_343 qk_3 qk_344 qv_T_firstOf rfl rfl ⟨Nat.le_trans (by show 0 + 1 ≤ 1 * nn + 3; omega) hR.1, Nat.le_trans (by show 8 + (2 + 11) + 0 ≤ 27 * nn + 96; omega) hR.2⟩ (ci := 1) rfl (j := 2) rfl hl.1 rfl (Nat.le_of_ble_eq_true rfl) qd_S_putIn_98 (fun H locs w => ?_)
  refine lv_iload_n F.1 F.2.1 qd_S_putIn_101 rfl (lv_at hl 3 rfl) ?_
  refine lv_iload_n F.1 F.2.1 qd_S_putIn_102 rfl (lv_at hl 4 rfl) ?_
  refine lv_iconst (v := 1) F.1 F.2.1 qd_S_putIn_103 (by decide) ?_
  refine lv_isub F.1 F.2.1 qd_S_putIn_104 ?_
  obtain ⟨q3, hq4, hM⟩ := qbd hM
  refine x_calli F hK hN hA w (hk hq4) qk_333 qk_335 qs_S_putIn qk_5 qk_336 qv_S_putIn rfl rfl ⟨Nat.le_trans (by show 1 * nn + 2 + 1 ≤ 1 * nn + 3; omega) hR.1, Nat.le_trans (by show 8 + (8 + 11) + (27 * nn + 69) ≤ 27 * nn + 96; omega) hR.2⟩ (ci := 2) rfl (j := 3) rfl hl.1 rfl (Nat.le_of_ble_eq_true rfl) qd_S_putIn_105 (fun H locs w => ?_)
  refine lv_istore (lv' := [(6, .int q3.1), (5, .int s1), (0, .ref (ad 3)), (1, .int v1), (2, .int v2), (3, .int v3), (4, .int v4)]) F.1 F.2.1 qd_S_putIn_108 hl (by decide) rfl (fun ls hl => ?_)
  refine lv_iload F.1 F.2.1 qd_S_putIn_110 (lv_at hl 1 rfl) ?_
  refine lv_if_eq (tgt := 134) F.1 F.2.1 qd_S_putIn_112 (by decide) (fun hc5 => ?_) (fun hc5 => ?_)
  · rw [if_pos hc5] at hM
    refine lv_iconst (v := (-1)) F.1 F.2.1 qd_S_putIn_134 (by decide) ?_
    exact t_S_putIn_135 F hR hK hN hA hk hQ  _ _ _ _ _ _ hM w (lv_sub hl [2, 3, 6, 1, 0] rfl)
  · rw [if_neg hc5] at hM
    refine lv_aload_n F.1 F.2.1 qd_S_putIn_115 rfl (lv_at hl 2 rfl) ?_
    refine lv_aload_n F.1 F.2.1 qd_S_putIn_116 rfl (lv_at hl 2 rfl) ?_
    refine xg_S_types F hK w qk_126 qd_S_putIn_117 ?_
    refine lv_iload_n F.1 F.2.1 qd_S_putIn_120 rfl (lv_at hl 3 rfl) ?_
    obtain ⟨q6, hq7, hM⟩ := qbd hM
    refine x_calli F hK hN hA w (c_T_secondOf l D ad cI hq7) qk_349 qk_350 qk_351 qk_3 qk_352 qv_T_secondOf rfl rfl ⟨Nat.le_trans (by show 0 + 1 ≤ 1 * nn + 3; omega) hR.1, Nat.le_trans (by show 8 + (2 + 11) + 0 ≤ 27 * nn + 96; omega) hR.2⟩ (ci := 1) rfl (j := 2) rfl hl.1 rfl (Nat.le_of_ble_eq_true rfl) qd_S_putIn_121 (fun H locs w => ?_)
    refine lv_iload_n F.1 F.2.1 qd_S_putIn_124 rfl (lv_at hl 4 rfl) ?_
    refine lv_iload_n F.1 F.2.1 qd_S_putIn_125 rfl (lv_at hl 5 rfl) ?_
    refine lv_iconst (v := 1) F.1 F.2.1 qd_S_putIn_126 (by decide) ?_
    refine lv_isub F.1 F.2.1 qd_S_putIn_127 ?_
    obtain ⟨q8, hq9, hM⟩ := qbd hM
    refine x_calli F hK hN hA w (hk hq9) qk_333 qk_335 qs_S_putIn qk_5 qk_336 qv_S_putIn rfl rfl ⟨Nat.le_trans (by show 1 * nn + 2 + 1 ≤ 1 * nn + 3; omega) hR.1, Nat.le_trans (by show 8 + (8 + 11) + (27 * nn + 69) ≤ 27 * nn + 96; omega) hR.2⟩ (ci := 2) rfl (j := 3) rfl hl.1 rfl (Nat.le_of_ble_eq_true rfl) qd_S_putIn_128 (fun H locs w => ?_)
    refine lv_goto (tgt := 135) F.1 F.2.1 qd_S_putIn_131 (by decide) ?_
    exact t_S_putIn_135 F hR hK hN hA hk hQ  _ _ _ _ _ _ hM w (lv_sub hl [2, 3, 6, 1, 0] rfl)
set_option maxRecDepth 100000 in
set_option maxHeartbeats 4000000 in
theorem t_S_putIn {p : Program} {l : Launch} {e : Env} {R : Room} {s : State} {m : MethodId} {args : Array Value} {below : List Frame} {meth : Method} {c : Code} {Q : State → Prop} {D : va_G} {ad : Nat → Nat} {cI : ClassId} {A : Nat → Prop} {k : (Nat → Nat → Int32) → Int32 → Int32 → Int32 → Option (Int32 × (Nat → Nat → Int32))} {nn : Nat} (F : CallFix p m c qb_S_putIn 8 s args qtb "CaptureSubtypes$Shapes") (hR : 1 * nn + 3 ≤ R.frames ∧ 27 * nn + 96 ≤ R.locals) (hK : va_K D qcl [(cI, .int)] s) (hN : qnests xns s) (hA : ∀ q, s.heap.size ≤ q → A q) (hk : ∀ {S : (Nat → Nat → Int32)} {a1 a2 a3 : Int32} {res : Int32 × (Nat → Nat → Int32)}, k S a1 a2 a3 = some res → xMi l qy_S_putIn qb_S_putIn 8 (some .int) { frames := 1 * nn + 2, cells := 0, slots := 0, locals := 27 * nn + 69 } D ad cI S [.ref (ad 3), .int a1, .int a2, .int a3] res.1 res.2) {res : (Int32 × (Nat → Nat → Int32))} (hQ : ∀ (H : Heap) (locs : List Loc) (pc : Nat) (ls : Array Slot), decode qb_S_putIn pc = .ok (.ireturn, 1) → xW D ad cI A s.heap res.2 H locs → W p l e R s m args below meth c H locs 0 0 Q (F0 m pc ls [.int res.1])) (S : (Nat → Nat → Int32)) (a1 a2 a3 : Int32) (hM : fb_S_putIn k S a1 a2 a3 = some res) {H : Heap} {locs : List Loc} {ls : Array Slot} (w : xW D ad cI A s.heap S H locs) (hl : lv_has ls 8 [(0, .ref (ad 3)), (1, .int a1), (2, .int a2), (3, .int a3)]) : W p l e R s m args below meth c H locs 0 0 Q (F0 m 0 ls []) := by
  unfold fb_S_putIn at hM
  refine lv_aload_n F.1 F.2.1 qd_S_putIn_0 rfl (lv_at hl 0 rfl) ?_
  refine xg_S_types F hK w qk_126 qd_S_putIn_1 ?_
  refine lv_iload_n F.1 F.2.1 qd_S_putIn_4 rfl (lv_at hl 1 rfl) ?_
  obtain ⟨q1, hq2, hM⟩ := qbd hM
  refine x_calli F hK hN hA w (c_T_sortOf l D ad cI hq2) qk_322 qk_270 qk_271 qk_3 qk_272 qv_T_sortOf rfl rfl ⟨Nat.le_trans (by show 0 + 1 ≤ 1 * nn + 3; omega) hR.1, Nat.le_trans (by show 8 + (2 + 11) + 0 ≤ 27 * nn + 96; omega) hR.2⟩ (ci := 1) rfl (j := 2) rfl hl.1 rfl (Nat.le_of_ble_eq_true rfl) qd_S_putIn_5 (fun H locs w => ?_)
  refine lv_istore (lv' := [(4, .int q1), (0, .ref (ad 3)), (1, .int a1), (2, .int a2), (3, .int a3)]) F.1 F.2.1 qd_S_putIn_8 hl (by decide) rfl (fun ls hl => ?_)
  refine lv_iload_n F.1 F.2.1 qd_S_putIn_10 rfl (lv_at hl 4 rfl) ?_
  refine lv_if_gt (tgt := 17) F.1 F.2.1 qd_S_putIn_11 (by decide) (fun hc3 => ?_) (fun hc3 => ?_)
  · rw [if_pos hc3] at hM
    refine lv_aload_n F.1 F.2.1 qd_S_putIn_17 rfl (lv_at hl 1 rfl) ?_
    refine xg_S_types F hK w qk_126 qd_S_putIn_18 ?_
    refine lv_iload_n F.1 F.2.1 qd_S_putIn_21 rfl (lv_at hl 3 rfl) ?_
    obtain ⟨q4, hq5, hM⟩ := qbd hM
    refine x_calli F hK hN hA w (c_T_sortOf l D ad cI hq5) qk_322 qk_270 qk_271 qk_3 qk_272 qv_T_sortOf rfl rfl ⟨Nat.le_trans (by show 0 + 1 ≤ 1 * nn + 3; omega) hR.1, Nat.le_trans (by show 8 + (2 + 11) + 0 ≤ 27 * nn + 96; omega) hR.2⟩ (ci := 1) rfl (j := 2) rfl hl.1 rfl (Nat.le_of_ble_eq_true rfl) qd_S_putIn_22 (fun H locs w => ?_)
    refine lv_iconst (v := 2) F.1 F.2.1 qd_S_putIn_25 (by decide) ?_
    refine lv_icmp_ne (tgt := 48) F.1 F.2.1 qd_S_putIn_26 (by decide) (fun hc6 => ?_) (fun hc6 => ?_)
    · rw [if_neg hc6] at hM
      refine lv_iload_n F.1 F.2.1 qd_S_putIn_48 rfl (lv_at hl 2 rfl) ?_
      cases hM
      exact hQ _ _ _ _ qd_S_putIn_49 w
    · rw [if_pos hc6] at hM
      refine lv_aload_n F.1 F.2.1 qd_S_putIn_29 rfl (lv_at hl 1 rfl) ?_
      refine xg_S_types F hK w qk_126 qd_S_putIn_30 ?_
      refine lv_iload_n F.1 F.2.1 qd_S_putIn_33 rfl (lv_at hl 2 rfl) ?_
      refine lv_aload_n F.1 F.2.1 qd_S_putIn_34 rfl (lv_at hl 1 rfl) ?_
      refine xg_S_types F hK w qk_126 qd_S_putIn_35 ?_
      refine lv_iload_n F.1 F.2.1 qd_S_putIn_38 rfl (lv_at hl 3 rfl) ?_
      obtain ⟨q7, hq8, hM⟩ := qbd hM
      refine x_calli F hK hN hA w (c_T_ownerOf l D ad cI hq8) qk_316 qk_274 qk_275 qk_3 qk_276 qv_T_ownerOf rfl rfl ⟨Nat.le_trans (by show 0 + 1 ≤ 1 * nn + 3; omega) hR.1, Nat.le_trans (by show 8 + (2 + 11) + 0 ≤ 27 * nn + 96; omega) hR.2⟩ (ci := 1) rfl (j := 2) rfl hl.1 rfl (Nat.le_of_ble_eq_true rfl) qd_S_putIn_39 (fun H locs w => ?_)
      obtain ⟨q9, hq10, hM⟩ := qbd hM
      refine x_calli F hK hN hA w (c_T_mentions l D ad cI hq10) qk_337 qk_338 qk_339 qk_3 qk_340 qv_T_mentions rfl rfl ⟨Nat.le_trans (by show 0 + 1 ≤ 1 * nn + 3; omega) hR.1, Nat.le_trans (by show 8 + (3 + 11) + 0 ≤ 27 * nn + 96; omega) hR.2⟩ (ci := 1) rfl (j := 2) rfl hl.1 rfl (Nat.le_of_ble_eq_true rfl) qd_S_putIn_42 (fun H locs w => ?_)
      refine lv_if_ne (tgt := 50) F.1 F.2.1 qd_S_putIn_45 (by decide) (fun hc11 => ?_) (fun hc11 => ?_)
      · rw [if_neg hc11] at hM
        refine lv_iload F.1 F.2.1 qd_S_putIn_50 (lv_at hl 0 rfl) ?_
        refine lv_iconst (v := 3) F.1 F.2.1 qd_S_putIn_52 (by decide) ?_
        refine lv_icmp_ne (tgt := 73) F.1 F.2.1 qd_S_putIn_53 (by decide) (fun hc12 => ?_) (fun hc12 => ?_)
        · rw [if_neg hc12] at hM
          refine lv_aload_n F.1 F.2.1 qd_S_putIn_73 rfl (lv_at hl 1 rfl) ?_
          refine xg_S_types F hK w qk_126 qd_S_putIn_74 ?_
          refine lv_iload_n F.1 F.2.1 qd_S_putIn_77 rfl (lv_at hl 2 rfl) ?_
          obtain ⟨q13, hq14, hM⟩ := qbd hM
          refine x_calli F hK hN hA w (c_T_secondOf l D ad cI hq14) qk_349 qk_350 qk_351 qk_3 qk_352 qv_T_secondOf rfl rfl ⟨Nat.le_trans (by show 0 + 1 ≤ 1 * nn + 3; omega) hR.1, Nat.le_trans (by show 8 + (2 + 11) + 0 ≤ 27 * nn + 96; omega) hR.2⟩ (ci := 1) rfl (j := 2) rfl hl.1 rfl (Nat.le_of_ble_eq_true rfl) qd_S_putIn_78 (fun H locs w => ?_)
          refine lv_iconst (v := (-1)) F.1 F.2.1 qd_S_putIn_81 (by decide) ?_
          refine lv_icmp_eq (tgt := 89) F.1 F.2.1 qd_S_putIn_82 (by decide) (fun hc15 => ?_) (fun hc15 => ?_)
          · rw [if_pos hc15] at hM
            refine lv_iconst (v := 0) F.1 F.2.1 qd_S_putIn_89 (by decide) ?_
            exact t_S_putIn_90 F hR hK hN hA hk hQ  _ _ _ _ _ _ hM w (lv_sub hl [1, 2, 3, 4, 0] rfl)
          · rw [if_neg hc15] at hM
            refine lv_iconst (v := 1) F.1 F.2.1 qd_S_putIn_85 (by decide) ?_
            refine lv_goto (tgt := 90) F.1 F.2.1 qd_S_putIn_86 (by decide) ?_
            exact t_S_putIn_90 F hR hK hN hA hk hQ  _ _ _ _ _ _ hM w (lv_sub hl [1, 2, 3, 4, 0] rfl)
        · rw [if_pos hc12] at hM
          refine lv_aload_n F.1 F.2.1 qd_S_putIn_56 rfl (lv_at hl 1 rfl) ?_
          refine xg_S_types F hK w qk_126 qd_S_putIn_57 ?_
          refine lv_iload_n F.1 F.2.1 qd_S_putIn_60 rfl (lv_at hl 3 rfl) ?_
          refine lv_aload_n F.1 F.2.1 qd_S_putIn_61 rfl (lv_at hl 1 rfl) ?_
          refine xg_S_types F hK w qk_126 qd_S_putIn_62 ?_
          refine lv_iload_n F.1 F.2.1 qd_S_putIn_65 rfl (lv_at hl 2 rfl) ?_
          obtain ⟨q16, hq17, hM⟩ := qbd hM
          refine x_calli F hK hN hA w (c_T_firstOf l D ad cI hq17) qk_341 qk_342 qk_343 qk_3 qk_344 qv_T_firstOf rfl rfl ⟨Nat.le_trans (by show 0 + 1 ≤ 1 * nn + 3; omega) hR.1, Nat.le_trans (by show 8 + (2 + 11) + 0 ≤ 27 * nn + 96; omega) hR.2⟩ (ci := 1) rfl (j := 2) rfl hl.1 rfl (Nat.le_of_ble_eq_true rfl) qd_S_putIn_66 (fun H locs w => ?_)
          obtain ⟨q18, hq19, hM⟩ := qbd hM
          refine x_calli F hK hN hA w (c_T_argumentOf l D ad cI hq19) qk_345 qk_346 qk_347 qk_3 qk_348 qv_T_argumentOf rfl rfl ⟨Nat.le_trans (by show 0 + 1 ≤ 1 * nn + 3; omega) hR.1, Nat.le_trans (by show 8 + (3 + 11) + 0 ≤ 27 * nn + 96; omega) hR.2⟩ (ci := 1) rfl (j := 2) rfl hl.1 rfl (Nat.le_of_ble_eq_true rfl) qd_S_putIn_69 (fun H locs w => ?_)
          cases hM
          exact hQ _ _ _ _ qd_S_putIn_72 w
      · rw [if_pos hc11] at hM
        refine lv_iload_n F.1 F.2.1 qd_S_putIn_48 rfl (lv_at hl 2 rfl) ?_
        cases hM
        exact hQ _ _ _ _ qd_S_putIn_49 w
  · rw [if_neg hc3] at hM
    refine lv_bipush (v := (-3)) F.1 F.2.1 qd_S_putIn_14 (by decide) ?_
    cases hM
    exact hQ _ _ _ _ qd_S_putIn_16 w
set_option maxRecDepth 100000 in
theorem c_S_putIn (l : Launch) (D : va_G) (ad : Nat → Nat) (cI : ClassId) : ∀ (n : Nat) {S : (Nat → Nat → Int32)} {a1 a2 a3 : Int32} {res : (Int32 × (Nat → Nat → Int32))} (hM : f_S_putIn n S a1 a2 a3 = some res), xMi l qy_S_putIn qb_S_putIn 8 (some .int) { frames := 1 * n + 2, cells := 0, slots := 0, locals := 27 * n + 69 } D ad cI S [.ref (ad 3), .int a1, .int a2, .int a3] res.1 res.2 := by
  intro n
  induction n with
  | zero => intro S a1 a2 a3 res hM; exact absurd hM (by simp [f_S_putIn])
  | succ nn ih => intro S a1 a2 a3 res hM; exact x_ofi (by decide +kernel) (Nat.le_of_ble_eq_true rfl) (fun p e s m args below meth c Q A ls F hK hN hA w hl hQ => t_S_putIn F ⟨(show 1 * nn + 3 ≤ 1 * (nn + 1) + 2 by omega), (show 27 * nn + 96 ≤ 27 * (nn + 1) + 69 by omega)⟩ hK hN hA ih hQ S a1 a2 a3 hM w hl)
-- S_viewedAs
def fb_S_viewedAs_11 (k_11 : (Nat → Nat → Int32) → Int32 → Int32 → Int32 → Option (Int32 × (Nat → Nat → Int32))) (S : (Nat → Nat → Int32)) (v2 v3 v4 : Int32) : Option (Int32 × (Nat → Nat → Int32)) := if (12 : Int32) ≤ v4 then (some ((-3 : Int32), S)) else ((f_T_ownerOf S v3).bind (fun q2 => (f_T_isOfClass S v3).bind (fun q4 => if (qB q4) = 0 then (some (v3, S)) else (if q2 = v2 then (some (v3, S)) else ((f_K_slotTowards S q2 v2).bind (fun q8 => (f_T_sortOf S v3).bind (fun q10 => if q10 = (1 : Int32) then ((f_K_superClass S q2 q8).bind (fun q17 => (f_S_nameAlone S q17).bind (fun q19 => k_11 q19.2 v2 q19.1 (v4 + (1 : Int32))))) else ((f_K_superType S q2 q8).bind (fun q13 => (f_S_putIn 64 S q13 v3 (20 : Int32)).bind (fun q15 => k_11 q15.2 v2 q15.1 (v4 + (1 : Int32))))))))))))
def f_S_viewedAs_11 : Nat → (Nat → Nat → Int32) → Int32 → Int32 → Int32 → Option (Int32 × (Nat → Nat → Int32))
  | 0 => fun _ _ _ _ => none
  | n + 1 => fun S v2 v3 v4 => fb_S_viewedAs_11 (f_S_viewedAs_11 n) S v2 v3 v4
def f_S_viewedAs (S : (Nat → Nat → Int32)) (a1 a2 : Int32) : Option (Int32 × (Nat → Nat → Int32)) := if a2 = 0 then (some ((0 : Int32), S)) else (f_S_viewedAs_11  qfu S a2 a1 (0 : Int32))
set_option maxRecDepth 100000 in
set_option maxHeartbeats 4000000 in
theorem tb_S_viewedAs_11 {p : Program} {l : Launch} {e : Env} {R : Room} {s : State} {m : MethodId} {args : Array Value} {below : List Frame} {meth : Method} {c : Code} {Q : State → Prop} {D : va_G} {ad : Nat → Nat} {cI : ClassId} {A : Nat → Prop} (F : CallFix p m c qb_S_viewedAs 7 s args qtb "CaptureSubtypes$Shapes") (hR : 67 ≤ R.frames ∧ 1824 ≤ R.locals) (hK : va_K D qcl [(cI, .int)] s) (hN : qnests xns s) (hA : ∀ q, s.heap.size ≤ q → A q) {res : (Int32 × (Nat → Nat → Int32))} (hQ : ∀ (H : Heap) (locs : List Loc) (pc : Nat) (ls : Array Slot), decode qb_S_viewedAs pc = .ok (.ireturn, 1) → xW D ad cI A s.heap res.2 H locs → W p l e R s m args below meth c H locs 0 0 Q (F0 m pc ls [.int res.1])) {k_11 : (Nat → Nat → Int32) → Int32 → Int32 → Int32 → Option (Int32 × (Nat → Nat → Int32))} (hk_11 : ∀ (S : Nat → Nat → Int32) (v2 v3 v4 : Int32), k_11 S v2 v3 v4 = some res → ∀ {H : Heap} {locs : List Loc} {ls : Array Slot}, xW D ad cI A s.heap S H locs → lv_has ls 7 [(0, .ref (ad 3)), (2, .int v2), (3, .int v3), (4, .int v4)] → W p l e R s m args below meth c H locs 0 0 Q (F0 m 11 ls [])) (S : (Nat → Nat → Int32)) (v2 v3 v4 : Int32) (hM : fb_S_viewedAs_11 k_11 S v2 v3 v4 = some res) {H : Heap} {locs : List Loc} {ls : Array Slot} (w : xW D ad cI A s.heap S H locs) (hl : lv_has ls 7 [(0, .ref (ad 3)), (2, .int v2), (3, .int v3), (4, .int v4)]) : W p l e R s m args below meth c H locs 0 0 Q (F0 m 11 ls []) := by
  unfold fb_S_viewedAs_11 at hM
  refine lv_iload F.1 F.2.1 qd_S_viewedAs_11 (lv_at hl 3 rfl) ?_
  refine lv_bipush (v := 12) F.1 F.2.1 qd_S_viewedAs_13 (by decide) ?_
  refine lv_icmp_ge (tgt := 115) F.1 F.2.1 qd_S_viewedAs_15 (by decide) (fun hc1 => ?_) (fun hc1 => ?_)
  · rw [if_pos hc1] at hM
    refine lv_bipush (v := (-3)) F.1 F.2.1 qd_S_viewedAs_115 (by decide) ?_
    cases hM
    exact hQ _ _ _ _ qd_S_viewedAs_117 w
  · rw [if_neg hc1] at hM
    refine lv_aload_n F.1 F.2.1 qd_S_viewedAs_18 rfl (lv_at hl 0 rfl) ?_
    refine xg_S_types F hK w qk_126 qd_S_viewedAs_19 ?_
    refine lv_iload_n F.1 F.2.1 qd_S_viewedAs_22 rfl (lv_at hl 2 rfl) ?_
    obtain ⟨q2, hq3, hM⟩ := qbd hM
    refine x_calli F hK hN hA w (c_T_ownerOf l D ad cI hq3) qk_316 qk_274 qk_275 qk_3 qk_276 qv_T_ownerOf rfl rfl ⟨Nat.le_trans (by decide) hR.1, Nat.le_trans (by decide) hR.2⟩ (ci := 1) rfl (j := 2) rfl hl.1 rfl (Nat.le_of_ble_eq_true rfl) qd_S_viewedAs_23 (fun H locs w => ?_)
    refine lv_istore (lv' := [(5, .int q2), (0, .ref (ad 3)), (2, .int v2), (3, .int v3), (4, .int v4)]) F.1 F.2.1 qd_S_viewedAs_26 hl (by decide) rfl (fun ls hl => ?_)
    refine lv_aload_n F.1 F.2.1 qd_S_viewedAs_28 rfl (lv_at hl 1 rfl) ?_
    refine xg_S_types F hK w qk_126 qd_S_viewedAs_29 ?_
    refine lv_iload_n F.1 F.2.1 qd_S_viewedAs_32 rfl (lv_at hl 3 rfl) ?_
    obtain ⟨q4, hq5, hM⟩ := qbd hM
    refine x_calli F hK hN hA w (c_T_isOfClass l D ad cI hq5) qk_317 qk_266 qk_267 qk_3 qk_268 qv_T_isOfClass rfl rfl ⟨Nat.le_trans (by decide) hR.1, Nat.le_trans (by decide) hR.2⟩ (ci := 1) rfl (j := 2) rfl hl.1 rfl (Nat.le_of_ble_eq_true rfl) qd_S_viewedAs_33 (fun H locs w => ?_)
    refine lv_if_eq (tgt := 45) F.1 F.2.1 qd_S_viewedAs_36 (by decide) (fun hc6 => ?_) (fun hc6 => ?_)
    · rw [if_pos hc6] at hM
      refine lv_iload_n F.1 F.2.1 qd_S_viewedAs_45 rfl (lv_at hl 3 rfl) ?_
      cases hM
      exact hQ _ _ _ _ qd_S_viewedAs_46 w
    · rw [if_neg hc6] at hM
      refine lv_iload F.1 F.2.1 qd_S_viewedAs_39 (lv_at hl 0 rfl) ?_
      refine lv_iload_n F.1 F.2.1 qd_S_viewedAs_41 rfl (lv_at hl 2 rfl) ?_
      refine lv_icmp_ne (tgt := 47) F.1 F.2.1 qd_S_viewedAs_42 (by decide) (fun hc7 => ?_) (fun hc7 => ?_)
      · rw [if_neg hc7] at hM
        refine lv_aload_n F.1 F.2.1 qd_S_viewedAs_47 rfl (lv_at hl 1 rfl) ?_
        refine xg_S_classes F hK w qk_125 qd_S_viewedAs_48 ?_
        refine lv_iload F.1 F.2.1 qd_S_viewedAs_51 (lv_at hl 0 rfl) ?_
        refine lv_iload_n F.1 F.2.1 qd_S_viewedAs_53 rfl (lv_at hl 2 rfl) ?_
        obtain ⟨q8, hq9, hM⟩ := qbd hM
        refine x_calli F hK hN hA w (c_K_slotTowards l D ad cI hq9) qk_318 qk_319 qk_320 qk_2 qk_321 qv_K_slotTowards rfl rfl ⟨Nat.le_trans (by decide) hR.1, Nat.le_trans (by decide) hR.2⟩ (ci := 0) rfl (j := 1) rfl hl.1 rfl (Nat.le_of_ble_eq_true rfl) qd_S_viewedAs_54 (fun H locs w => ?_)
        refine lv_istore (lv' := [(6, .int q8), (5, .int q2), (0, .ref (ad 3)), (2, .int v2), (3, .int v3), (4, .int v4)]) F.1 F.2.1 qd_S_viewedAs_57 hl (by decide) rfl (fun ls hl => ?_)
        refine lv_aload_n F.1 F.2.1 qd_S_viewedAs_59 rfl (lv_at hl 2 rfl) ?_
        refine xg_S_types F hK w qk_126 qd_S_viewedAs_60 ?_
        refine lv_iload_n F.1 F.2.1 qd_S_viewedAs_63 rfl (lv_at hl 4 rfl) ?_
        obtain ⟨q10, hq11, hM⟩ := qbd hM
        refine x_calli F hK hN hA w (c_T_sortOf l D ad cI hq11) qk_322 qk_270 qk_271 qk_3 qk_272 qv_T_sortOf rfl rfl ⟨Nat.le_trans (by decide) hR.1, Nat.le_trans (by decide) hR.2⟩ (ci := 1) rfl (j := 2) rfl hl.1 rfl (Nat.le_of_ble_eq_true rfl) qd_S_viewedAs_64 (fun H locs w => ?_)
        refine lv_iconst (v := 1) F.1 F.2.1 qd_S_viewedAs_67 (by decide) ?_
        refine lv_icmp_ne (tgt := 90) F.1 F.2.1 qd_S_viewedAs_68 (by decide) (fun hc12 => ?_) (fun hc12 => ?_)
        · rw [if_neg hc12] at hM
          refine lv_aload_n F.1 F.2.1 qd_S_viewedAs_90 rfl (lv_at hl 2 rfl) ?_
          refine lv_aload_n F.1 F.2.1 qd_S_viewedAs_91 rfl (lv_at hl 2 rfl) ?_
          refine xg_S_classes F hK w qk_125 qd_S_viewedAs_92 ?_
          refine lv_iload F.1 F.2.1 qd_S_viewedAs_95 (lv_at hl 1 rfl) ?_
          refine lv_iload F.1 F.2.1 qd_S_viewedAs_97 (lv_at hl 0 rfl) ?_
          obtain ⟨q13, hq14, hM⟩ := qbd hM
          refine x_calli F hK hN hA w (c_K_superType l D ad cI hq14) qk_311 qk_288 qk_289 qk_2 qk_290 qv_K_superType rfl rfl ⟨Nat.le_trans (by decide) hR.1, Nat.le_trans (by decide) hR.2⟩ (ci := 0) rfl (j := 1) rfl hl.1 rfl (Nat.le_of_ble_eq_true rfl) qd_S_viewedAs_99 (fun H locs w => ?_)
          refine lv_iload_n F.1 F.2.1 qd_S_viewedAs_102 rfl (lv_at hl 4 rfl) ?_
          refine lv_bipush (v := 20) F.1 F.2.1 qd_S_viewedAs_103 (by decide) ?_
          obtain ⟨q15, hq16, hM⟩ := qbd hM
          refine x_calli F hK hN hA w (c_S_putIn l D ad cI 64 hq16) qk_333 qk_335 qs_S_putIn qk_5 qk_336 qv_S_putIn rfl rfl ⟨Nat.le_trans (by decide) hR.1, Nat.le_trans (by decide) hR.2⟩ (ci := 2) rfl (j := 3) rfl hl.1 rfl (Nat.le_of_ble_eq_true rfl) qd_S_viewedAs_105 (fun H locs w => ?_)
          refine lv_istore_n (lv' := [(3, .int q15.1), (6, .int q8), (5, .int q2), (0, .ref (ad 3)), (2, .int v2), (4, .int v4)]) F.1 F.2.1 qd_S_viewedAs_108 rfl hl (by decide) rfl (fun ls hl => ?_)
          refine lv_iinc (v := (v4 + (1 : Int32))) (lv' := [(4, .int (v4 + (1 : Int32))), (3, .int q15.1), (6, .int q8), (5, .int q2), (0, .ref (ad 3)), (2, .int v2)]) F.1 F.2.1 qd_S_viewedAs_109 hl (k := 5) rfl rfl (by decide) rfl (fun ls hl => ?_)
          refine lv_goto (tgt := 11) F.1 F.2.1 qd_S_viewedAs_112 (by decide) ?_
          exact hk_11 _ _ _ _ hM w (lv_sub hl [4, 5, 1, 0] rfl)
        · rw [if_pos hc12] at hM
          refine lv_aload_n F.1 F.2.1 qd_S_viewedAs_71 rfl (lv_at hl 2 rfl) ?_
          refine lv_aload_n F.1 F.2.1 qd_S_viewedAs_72 rfl (lv_at hl 2 rfl) ?_
          refine xg_S_classes F hK w qk_125 qd_S_viewedAs_73 ?_
          refine lv_iload F.1 F.2.1 qd_S_viewedAs_76 (lv_at hl 1 rfl) ?_
          refine lv_iload F.1 F.2.1 qd_S_viewedAs_78 (lv_at hl 0 rfl) ?_
          obtain ⟨q17, hq18, hM⟩ := qbd hM
          refine x_calli F hK hN hA w (c_K_superClass l D ad cI hq18) qk_309 qk_206 qk_207 qk_2 qk_208 qv_K_superClass rfl rfl ⟨Nat.le_trans (by decide) hR.1, Nat.le_trans (by decide) hR.2⟩ (ci := 0) rfl (j := 1) rfl hl.1 rfl (Nat.le_of_ble_eq_true rfl) qd_S_viewedAs_80 (fun H locs w => ?_)
          obtain ⟨q19, hq20, hM⟩ := qbd hM
          refine x_calli F hK hN hA w (c_S_nameAlone l D ad cI hq20) qk_323 qk_325 qs_S_nameAlone qk_5 qk_326 qv_S_nameAlone rfl rfl ⟨Nat.le_trans (by decide) hR.1, Nat.le_trans (by decide) hR.2⟩ (ci := 2) rfl (j := 3) rfl hl.1 rfl (Nat.le_of_ble_eq_true rfl) qd_S_viewedAs_83 (fun H locs w => ?_)
          refine lv_istore_n (lv' := [(3, .int q19.1), (6, .int q8), (5, .int q2), (0, .ref (ad 3)), (2, .int v2), (4, .int v4)]) F.1 F.2.1 qd_S_viewedAs_86 rfl hl (by decide) rfl (fun ls hl => ?_)
          refine lv_goto (tgt := 109) F.1 F.2.1 qd_S_viewedAs_87 (by decide) ?_
          refine lv_iinc (v := (v4 + (1 : Int32))) (lv' := [(4, .int (v4 + (1 : Int32))), (3, .int q19.1), (6, .int q8), (5, .int q2), (0, .ref (ad 3)), (2, .int v2)]) F.1 F.2.1 qd_S_viewedAs_109 hl (k := 5) rfl rfl (by decide) rfl (fun ls hl => ?_)
          refine lv_goto (tgt := 11) F.1 F.2.1 qd_S_viewedAs_112 (by decide) ?_
          exact hk_11 _ _ _ _ hM w (lv_sub hl [4, 5, 1, 0] rfl)
      · rw [if_pos hc7] at hM
        refine lv_iload_n F.1 F.2.1 qd_S_viewedAs_45 rfl (lv_at hl 3 rfl) ?_
        cases hM
        exact hQ _ _ _ _ qd_S_viewedAs_46 w
set_option maxRecDepth 100000 in
set_option maxHeartbeats 4000000 in
theorem t_S_viewedAs_11 {p : Program} {l : Launch} {e : Env} {R : Room} {s : State} {m : MethodId} {args : Array Value} {below : List Frame} {meth : Method} {c : Code} {Q : State → Prop} {D : va_G} {ad : Nat → Nat} {cI : ClassId} {A : Nat → Prop} (F : CallFix p m c qb_S_viewedAs 7 s args qtb "CaptureSubtypes$Shapes") (hR : 67 ≤ R.frames ∧ 1824 ≤ R.locals) (hK : va_K D qcl [(cI, .int)] s) (hN : qnests xns s) (hA : ∀ q, s.heap.size ≤ q → A q) {res : (Int32 × (Nat → Nat → Int32))} (hQ : ∀ (H : Heap) (locs : List Loc) (pc : Nat) (ls : Array Slot), decode qb_S_viewedAs pc = .ok (.ireturn, 1) → xW D ad cI A s.heap res.2 H locs → W p l e R s m args below meth c H locs 0 0 Q (F0 m pc ls [.int res.1])) : ∀ (n : Nat) (S : (Nat → Nat → Int32)) (v2 v3 v4 : Int32) (hM : f_S_viewedAs_11 n S v2 v3 v4 = some res) {H : Heap} {locs : List Loc} {ls : Array Slot} (w : xW D ad cI A s.heap S H locs) (hl : lv_has ls 7 [(0, .ref (ad 3)), (2, .int v2), (3, .int v3), (4, .int v4)]), W p l e R s m args below meth c H locs 0 0 Q (F0 m 11 ls []) := by
  intro n
  induction n with
  | zero => intro S v2 v3 v4 hM; exact absurd hM (by simp [f_S_viewedAs_11])
  | succ n ih => intro S v2 v3 v4 hM H locs ls w hl; exact tb_S_viewedAs_11 F hR hK hN hA hQ (k_11 := f_S_viewedAs_11 n) (fun S v2 v3 v4 hM H locs ls w hl => ih S v2 v3 v4 hM w hl) S v2 v3 v4 hM w hl
set_option maxRecDepth 100000 in
set_option maxHeartbeats 4000000 in
theorem t_S_viewedAs {p : Program} {l : Launch} {e : Env} {R : Room} {s : State} {m : MethodId} {args : Array Value} {below : List Frame} {meth : Method} {c : Code} {Q : State → Prop} {D : va_G} {ad : Nat → Nat} {cI : ClassId} {A : Nat → Prop} (F : CallFix p m c qb_S_viewedAs 7 s args qtb "CaptureSubtypes$Shapes") (hR : 67 ≤ R.frames ∧ 1824 ≤ R.locals) (hK : va_K D qcl [(cI, .int)] s) (hN : qnests xns s) (hA : ∀ q, s.heap.size ≤ q → A q) {res : (Int32 × (Nat → Nat → Int32))} (hQ : ∀ (H : Heap) (locs : List Loc) (pc : Nat) (ls : Array Slot), decode qb_S_viewedAs pc = .ok (.ireturn, 1) → xW D ad cI A s.heap res.2 H locs → W p l e R s m args below meth c H locs 0 0 Q (F0 m pc ls [.int res.1])) (S : (Nat → Nat → Int32)) (a1 a2 : Int32) (hM : f_S_viewedAs S a1 a2 = some res) {H : Heap} {locs : List Loc} {ls : Array Slot} (w : xW D ad cI A s.heap S H locs) (hl : lv_has ls 7 [(0, .ref (ad 3)), (1, .int a1), (2, .int a2)]) : W p l e R s m args below meth c H locs 0 0 Q (F0 m 0 ls []) := by
  unfold f_S_viewedAs at hM
  refine lv_iload_n F.1 F.2.1 qd_S_viewedAs_0 rfl (lv_at hl 2 rfl) ?_
  refine lv_if_ne (tgt := 6) F.1 F.2.1 qd_S_viewedAs_1 (by decide) (fun hc1 => ?_) (fun hc1 => ?_)
  · rw [if_neg hc1] at hM
    refine lv_iload_n F.1 F.2.1 qd_S_viewedAs_6 rfl (lv_at hl 1 rfl) ?_
    refine lv_istore_n (lv' := [(3, .int a1), (0, .ref (ad 3)), (1, .int a1), (2, .int a2)]) F.1 F.2.1 qd_S_viewedAs_7 rfl hl (by decide) rfl (fun ls hl => ?_)
    refine lv_iconst (v := 0) F.1 F.2.1 qd_S_viewedAs_8 (by decide) ?_
    refine lv_istore (lv' := [(4, .int (0 : Int32)), (3, .int a1), (0, .ref (ad 3)), (1, .int a1), (2, .int a2)]) F.1 F.2.1 qd_S_viewedAs_9 hl (by decide) rfl (fun ls hl => ?_)
    exact t_S_viewedAs_11 F hR hK hN hA hQ  qfu _ _ _ _ hM w (lv_sub hl [2, 4, 1, 0] rfl)
  · rw [if_pos hc1] at hM
    refine lv_iconst (v := 0) F.1 F.2.1 qd_S_viewedAs_4 (by decide) ?_
    cases hM
    exact hQ _ _ _ _ qd_S_viewedAs_5 w
set_option maxRecDepth 100000 in
theorem c_S_viewedAs (l : Launch) (D : va_G) (ad : Nat → Nat) (cI : ClassId) {S : (Nat → Nat → Int32)} {a1 a2 : Int32} {res : (Int32 × (Nat → Nat → Int32))} (hM : f_S_viewedAs S a1 a2 = some res) : xMi l qy_S_viewedAs qb_S_viewedAs 7 (some .int) { frames := 67, cells := 0, slots := 0, locals := 1824 } D ad cI S [.ref (ad 3), .int a1, .int a2] res.1 res.2 := x_ofi (by decide +kernel) (Nat.le_of_ble_eq_true rfl) (fun p e s m args below meth c Q A ls F hK hN hA w hl hQ => t_S_viewedAs F ⟨Nat.le_refl _, Nat.le_refl _⟩ hK hN hA hQ S a1 a2 hM w hl)
-- T_dropTo
def f_T_dropTo (S : (Nat → Nat → Int32)) (a1 : Int32) : Option (Nat → Nat → Int32) := if a1 < (S 10 0) then (some S) else (if (S 11 0) ≤ a1 then (some S) else (some (qwr S 11 0 a1)))
set_option maxRecDepth 100000 in
set_option maxHeartbeats 4000000 in
theorem t_T_dropTo {p : Program} {l : Launch} {e : Env} {R : Room} {s : State} {m : MethodId} {args : Array Value} {below : List Frame} {meth : Method} {c : Code} {Q : State → Prop} {D : va_G} {ad : Nat → Nat} {cI : ClassId} {A : Nat → Prop} (F : CallFix p m c qb_T_dropTo 2 s args qtb "CaptureSubtypes$Types") (hR : 0 ≤ R.frames ∧ 0 ≤ R.locals) (hK : va_K D qcl [(cI, .int)] s) (hN : qnests xns s) (hA : ∀ q, s.heap.size ≤ q → A q) {res : (Nat → Nat → Int32)} (hQ : ∀ (H : Heap) (locs : List Loc) (pc : Nat) (ls : Array Slot), decode qb_T_dropTo pc = .ok (.return_, 1) → xW D ad cI A s.heap res H locs → W p l e R s m args below meth c H locs 0 0 Q (F0 m pc ls [])) (S : (Nat → Nat → Int32)) (a1 : Int32) (hM : f_T_dropTo S a1 = some res) {H : Heap} {locs : List Loc} {ls : Array Slot} (w : xW D ad cI A s.heap S H locs) (hl : lv_has ls 2 [(0, .ref (ad 2)), (1, .int a1)]) : W p l e R s m args below meth c H locs 0 0 Q (F0 m 0 ls []) := by
  unfold f_T_dropTo at hM
  refine lv_iload_n F.1 F.2.1 qd_T_dropTo_0 rfl (lv_at hl 1 rfl) ?_
  refine lv_aload_n F.1 F.2.1 qd_T_dropTo_1 rfl (lv_at hl 0 rfl) ?_
  refine xg_T_kept F hK w qk_87 qd_T_dropTo_2 ?_
  refine lv_icmp_lt (tgt := 21) F.1 F.2.1 qd_T_dropTo_5 (by decide) (fun hc1 => ?_) (fun hc1 => ?_)
  · rw [if_pos hc1] at hM
    cases hM
    exact hQ _ _ _ _ qd_T_dropTo_21 w
  · rw [if_neg hc1] at hM
    refine lv_iload_n F.1 F.2.1 qd_T_dropTo_8 rfl (lv_at hl 1 rfl) ?_
    refine lv_aload_n F.1 F.2.1 qd_T_dropTo_9 rfl (lv_at hl 0 rfl) ?_
    refine xg_T_top F hK w qk_89 qd_T_dropTo_10 ?_
    refine lv_icmp_ge (tgt := 21) F.1 F.2.1 qd_T_dropTo_13 (by decide) (fun hc2 => ?_) (fun hc2 => ?_)
    · rw [if_pos hc2] at hM
      cases hM
      exact hQ _ _ _ _ qd_T_dropTo_21 w
    · rw [if_neg hc2] at hM
      refine lv_aload_n F.1 F.2.1 qd_T_dropTo_16 rfl (lv_at hl 0 rfl) ?_
      refine lv_iload_n F.1 F.2.1 qd_T_dropTo_17 rfl (lv_at hl 1 rfl) ?_
      refine xp_T_top F hK w qk_89 qd_T_dropTo_18 (fun H locs w => ?_)
      cases hM
      exact hQ _ _ _ _ qd_T_dropTo_21 w
set_option maxRecDepth 100000 in
theorem c_T_dropTo (l : Launch) (D : va_G) (ad : Nat → Nat) (cI : ClassId) {S : (Nat → Nat → Int32)} {a1 : Int32} {res : (Nat → Nat → Int32)} (hM : f_T_dropTo S a1 = some res) : xMv l qy_T_dropTo qb_T_dropTo 2 none { frames := 0, cells := 0, slots := 0, locals := 0 } D ad cI S [.ref (ad 2), .int a1] res := x_ofv (by decide +kernel) (Nat.le_of_ble_eq_true rfl) (fun p e s m args below meth c Q A ls F hK hN hA w hl hQ => t_T_dropTo F ⟨Nat.le_refl _, Nat.le_refl _⟩ hK hN hA hQ S a1 hM w hl)
-- S_clashesAt
def f_S_clashesAt_79 (k_17 : (Nat → Nat → Int32) → Int32 → Int32 → Int32 → Int32 → Int32 → Int32 → Option (Bool × (Nat → Nat → Int32))) (S : (Nat → Nat → Int32)) (v1 v2 v3 v6 v7 : Int32) : Option (Bool × (Nat → Nat → Int32)) := k_17 S v1 v2 v3 v7 (1 : Int32) (v6 + (1 : Int32))
def fb_S_clashesAt_17 (k_17 : (Nat → Nat → Int32) → Int32 → Int32 → Int32 → Int32 → Int32 → Int32 → Option (Bool × (Nat → Nat → Int32))) (S : (Nat → Nat → Int32)) (v1 v2 v3 v4 v5 v6 : Int32) : Option (Bool × (Nat → Nat → Int32)) := if (3 : Int32) ≤ v6 then ((f_T_dropTo S v3).bind (fun q2 => qck (q01 v5) (some (decide (v5 = 1), q2)))) else ((f_K_superClass S v1 v6).bind (fun q4 => (f_K_isUnder S q4 v2).bind (fun q6 => if (qB q6) = 0 then (k_17 S v1 v2 v3 v4 v5 (v6 + (1 : Int32))) else ((f_K_superType S v1 v6).bind (fun q9 => (f_S_viewedAs S q9 v2).bind (fun q11 => if v5 = 0 then (if v4 = (-1 : Int32) then (k_17 q11.2 v1 v2 v3 q11.1 (0 : Int32) (v6 + (1 : Int32))) else (if v4 = q11.1 then (k_17 q11.2 v1 v2 v3 q11.1 (0 : Int32) (v6 + (1 : Int32))) else (f_S_clashesAt_79 k_17 q11.2 v1 v2 v3 v6 q11.1))) else (f_S_clashesAt_79 k_17 q11.2 v1 v2 v3 v6 q11.1)))))))
def f_S_clashesAt_17 : Nat → (Nat → Nat → Int32) → Int32 → Int32 → Int32 → Int32 → Int32 → Int32 → Option (Bool × (Nat → Nat → Int32))
  | 0 => fun _ _ _ _ _ _ _ => none
  | n + 1 => fun S v1 v2 v3 v4 v5 v6 => fb_S_clashesAt_17 (f_S_clashesAt_17 n) S v1 v2 v3 v4 v5 v6
def f_S_clashesAt (S : (Nat → Nat → Int32)) (a1 a2 : Int32) : Option (Bool × (Nat → Nat → Int32)) := (f_T_mark S).bind (fun q1 => f_S_clashesAt_17  qfu S a1 a2 q1 (-1 : Int32) (0 : Int32) (0 : Int32))
set_option maxRecDepth 100000 in
set_option maxHeartbeats 4000000 in
theorem t_S_clashesAt_79 {p : Program} {l : Launch} {e : Env} {R : Room} {s : State} {m : MethodId} {args : Array Value} {below : List Frame} {meth : Method} {c : Code} {Q : State → Prop} {D : va_G} {ad : Nat → Nat} {cI : ClassId} {A : Nat → Prop} (F : CallFix p m c qb_S_clashesAt 8 s args qtb "CaptureSubtypes$Shapes") (hR : 68 ≤ R.frames ∧ 1850 ≤ R.locals) (hK : va_K D qcl [(cI, .int)] s) (hN : qnests xns s) (hA : ∀ q, s.heap.size ≤ q → A q) {res : (Bool × (Nat → Nat → Int32))} (hQ : ∀ (H : Heap) (locs : List Loc) (pc : Nat) (ls : Array Slot), decode qb_S_clashesAt pc = .ok (.ireturn, 1) → xW D ad cI A s.heap res.2 H locs → W p l e R s m args below meth c H locs 0 0 Q (F0 m pc ls [.int (qB res.1)])) {k_17 : (Nat → Nat → Int32) → Int32 → Int32 → Int32 → Int32 → Int32 → Int32 → Option (Bool × (Nat → Nat → Int32))} (hk_17 : ∀ (S : Nat → Nat → Int32) (v1 v2 v3 v4 v5 v6 : Int32), k_17 S v1 v2 v3 v4 v5 v6 = some res → ∀ {H : Heap} {locs : List Loc} {ls : Array Slot}, xW D ad cI A s.heap S H locs → lv_has ls 8 [(0, .ref (ad 3)), (1, .int v1), (2, .int v2), (3, .int v3), (4, .int v4), (5, .int v5), (6, .int v6)] → W p l e R s m args below meth c H locs 0 0 Q (F0 m 17 ls [])) (S : (Nat → Nat → Int32)) (v1 v2 v3 v6 v7 : Int32) (hM : f_S_clashesAt_79 k_17 S v1 v2 v3 v6 v7 = some res) {H : Heap} {locs : List Loc} {ls : Array Slot} (w : xW D ad cI A s.heap S H locs) (hl : lv_has ls 8 [(0, .ref (ad 3)), (1, .int v1), (2, .int v2), (3, .int v3), (6, .int v6), (7, .int v7)]) : W p l e R s m args below meth c H locs 0 0 Q (F0 m 79 ls []) := by
  unfold f_S_clashesAt_79 at hM
  refine lv_iconst (v := 1) F.1 F.2.1 qd_S_clashesAt_79 (by decide) ?_
  refine lv_goto (tgt := 84) F.1 F.2.1 qd_S_clashesAt_80 (by decide) ?_
  refine lv_istore (lv' := [(5, .int (1 : Int32)), (0, .ref (ad 3)), (1, .int v1), (2, .int v2), (3, .int v3), (6, .int v6), (7, .int v7)]) F.1 F.2.1 qd_S_clashesAt_84 hl (by decide) rfl (fun ls hl => ?_)
  refine lv_iload F.1 F.2.1 qd_S_clashesAt_86 (lv_at hl 6 rfl) ?_
  refine lv_istore (lv' := [(4, .int v7), (5, .int (1 : Int32)), (0, .ref (ad 3)), (1, .int v1), (2, .int v2), (3, .int v3), (6, .int v6), (7, .int v7)]) F.1 F.2.1 qd_S_clashesAt_88 hl (by decide) rfl (fun ls hl => ?_)
  refine lv_iinc (v := (v6 + (1 : Int32))) (lv' := [(6, .int (v6 + (1 : Int32))), (4, .int v7), (5, .int (1 : Int32)), (0, .ref (ad 3)), (1, .int v1), (2, .int v2), (3, .int v3), (7, .int v7)]) F.1 F.2.1 qd_S_clashesAt_90 hl (k := 6) rfl rfl (by decide) rfl (fun ls hl => ?_)
  refine lv_goto (tgt := 17) F.1 F.2.1 qd_S_clashesAt_93 (by decide) ?_
  exact hk_17 _ _ _ _ _ _ _ hM w (lv_sub hl [3, 4, 5, 6, 1, 2, 0] rfl)
set_option maxRecDepth 100000 in
set_option maxHeartbeats 4000000 in
theorem tb_S_clashesAt_17 {p : Program} {l : Launch} {e : Env} {R : Room} {s : State} {m : MethodId} {args : Array Value} {below : List Frame} {meth : Method} {c : Code} {Q : State → Prop} {D : va_G} {ad : Nat → Nat} {cI : ClassId} {A : Nat → Prop} (F : CallFix p m c qb_S_clashesAt 8 s args qtb "CaptureSubtypes$Shapes") (hR : 68 ≤ R.frames ∧ 1850 ≤ R.locals) (hK : va_K D qcl [(cI, .int)] s) (hN : qnests xns s) (hA : ∀ q, s.heap.size ≤ q → A q) {res : (Bool × (Nat → Nat → Int32))} (hQ : ∀ (H : Heap) (locs : List Loc) (pc : Nat) (ls : Array Slot), decode qb_S_clashesAt pc = .ok (.ireturn, 1) → xW D ad cI A s.heap res.2 H locs → W p l e R s m args below meth c H locs 0 0 Q (F0 m pc ls [.int (qB res.1)])) {k_17 : (Nat → Nat → Int32) → Int32 → Int32 → Int32 → Int32 → Int32 → Int32 → Option (Bool × (Nat → Nat → Int32))} (hk_17 : ∀ (S : Nat → Nat → Int32) (v1 v2 v3 v4 v5 v6 : Int32), k_17 S v1 v2 v3 v4 v5 v6 = some res → ∀ {H : Heap} {locs : List Loc} {ls : Array Slot}, xW D ad cI A s.heap S H locs → lv_has ls 8 [(0, .ref (ad 3)), (1, .int v1), (2, .int v2), (3, .int v3), (4, .int v4), (5, .int v5), (6, .int v6)] → W p l e R s m args below meth c H locs 0 0 Q (F0 m 17 ls [])) (S : (Nat → Nat → Int32)) (v1 v2 v3 v4 v5 v6 : Int32) (hM : fb_S_clashesAt_17 k_17 S v1 v2 v3 v4 v5 v6 = some res) {H : Heap} {locs : List Loc} {ls : Array Slot} (w : xW D ad cI A s.heap S H locs) (hl : lv_has ls 8 [(0, .ref (ad 3)), (1, .int v1), (2, .int v2), (3, .int v3), (4, .int v4), (5, .int v5), (6, .int v6)]) : W p l e R s m args below meth c H locs 0 0 Q (F0 m 17 ls []) := by
  unfold fb_S_clashesAt_17 at hM
  refine lv_iload F.1 F.2.1 qd_S_clashesAt_17 (lv_at hl 6 rfl) ?_
  refine lv_iconst (v := 3) F.1 F.2.1 qd_S_clashesAt_19 (by decide) ?_
  refine lv_icmp_ge (tgt := 96) F.1 F.2.1 qd_S_clashesAt_20 (by decide) (fun hc1 => ?_) (fun hc1 => ?_)
  · rw [if_pos hc1] at hM
    refine lv_aload_n F.1 F.2.1 qd_S_clashesAt_96 rfl (lv_at hl 0 rfl) ?_
    refine xg_S_types F hK w qk_126 qd_S_clashesAt_97 ?_
    refine lv_iload_n F.1 F.2.1 qd_S_clashesAt_100 rfl (lv_at hl 3 rfl) ?_
    obtain ⟨q2, hq3, hM⟩ := qbd hM
    refine x_callv F hK hN hA w (c_T_dropTo l D ad cI hq3) qk_353 qk_354 qk_355 qk_3 qk_356 qv_T_dropTo rfl rfl ⟨Nat.le_trans (by decide) hR.1, Nat.le_trans (by decide) hR.2⟩ (ci := 1) rfl (j := 2) rfl hl.1 rfl (Nat.le_of_ble_eq_true rfl) qd_S_clashesAt_101 (fun H locs w => ?_)
    refine lv_iload F.1 F.2.1 qd_S_clashesAt_104 (lv_at hl 5 rfl) ?_
    obtain ⟨h01, hM⟩ := qck_ok hM
    cases hM
    have hz := hQ _ _ _ ls qd_S_clashesAt_106 w
    rw [q01_B h01] at hz
    exact hz
  · rw [if_neg hc1] at hM
    refine lv_aload_n F.1 F.2.1 qd_S_clashesAt_23 rfl (lv_at hl 0 rfl) ?_
    refine xg_S_classes F hK w qk_125 qd_S_clashesAt_24 ?_
    refine lv_aload_n F.1 F.2.1 qd_S_clashesAt_27 rfl (lv_at hl 0 rfl) ?_
    refine xg_S_classes F hK w qk_125 qd_S_clashesAt_28 ?_
    refine lv_iload_n F.1 F.2.1 qd_S_clashesAt_31 rfl (lv_at hl 1 rfl) ?_
    refine lv_iload F.1 F.2.1 qd_S_clashesAt_32 (lv_at hl 6 rfl) ?_
    obtain ⟨q4, hq5, hM⟩ := qbd hM
    refine x_calli F hK hN hA w (c_K_superClass l D ad cI hq5) qk_309 qk_206 qk_207 qk_2 qk_208 qv_K_superClass rfl rfl ⟨Nat.le_trans (by decide) hR.1, Nat.le_trans (by decide) hR.2⟩ (ci := 0) rfl (j := 1) rfl hl.1 rfl (Nat.le_of_ble_eq_true rfl) qd_S_clashesAt_34 (fun H locs w => ?_)
    refine lv_iload_n F.1 F.2.1 qd_S_clashesAt_37 rfl (lv_at hl 2 rfl) ?_
    obtain ⟨q6, hq7, hM⟩ := qbd hM
    refine x_calli F hK hN hA w (c_K_isUnder l D ad cI hq7) qk_310 qk_218 qk_219 qk_2 qk_220 qv_K_isUnder rfl rfl ⟨Nat.le_trans (by decide) hR.1, Nat.le_trans (by decide) hR.2⟩ (ci := 0) rfl (j := 1) rfl hl.1 rfl (Nat.le_of_ble_eq_true rfl) qd_S_clashesAt_38 (fun H locs w => ?_)
    refine lv_if_eq (tgt := 90) F.1 F.2.1 qd_S_clashesAt_41 (by decide) (fun hc8 => ?_) (fun hc8 => ?_)
    · rw [if_pos hc8] at hM
      refine lv_iinc (v := (v6 + (1 : Int32))) (lv' := [(6, .int (v6 + (1 : Int32))), (0, .ref (ad 3)), (1, .int v1), (2, .int v2), (3, .int v3), (4, .int v4), (5, .int v5)]) F.1 F.2.1 qd_S_clashesAt_90 hl (k := 6) rfl rfl (by decide) rfl (fun ls hl => ?_)
      refine lv_goto (tgt := 17) F.1 F.2.1 qd_S_clashesAt_93 (by decide) ?_
      exact hk_17 _ _ _ _ _ _ _ hM w (lv_sub hl [1, 2, 3, 4, 5, 6, 0] rfl)
    · rw [if_neg hc8] at hM
      refine lv_aload_n F.1 F.2.1 qd_S_clashesAt_44 rfl (lv_at hl 0 rfl) ?_
      refine lv_aload_n F.1 F.2.1 qd_S_clashesAt_45 rfl (lv_at hl 0 rfl) ?_
      refine xg_S_classes F hK w qk_125 qd_S_clashesAt_46 ?_
      refine lv_iload_n F.1 F.2.1 qd_S_clashesAt_49 rfl (lv_at hl 1 rfl) ?_
      refine lv_iload F.1 F.2.1 qd_S_clashesAt_50 (lv_at hl 6 rfl) ?_
      obtain ⟨q9, hq10, hM⟩ := qbd hM
      refine x_calli F hK hN hA w (c_K_superType l D ad cI hq10) qk_311 qk_288 qk_289 qk_2 qk_290 qv_K_superType rfl rfl ⟨Nat.le_trans (by decide) hR.1, Nat.le_trans (by decide) hR.2⟩ (ci := 0) rfl (j := 1) rfl hl.1 rfl (Nat.le_of_ble_eq_true rfl) qd_S_clashesAt_52 (fun H locs w => ?_)
      refine lv_iload_n F.1 F.2.1 qd_S_clashesAt_55 rfl (lv_at hl 2 rfl) ?_
      obtain ⟨q11, hq12, hM⟩ := qbd hM
      refine x_calli F hK hN hA w (c_S_viewedAs l D ad cI hq12) qk_312 qk_313 qk_314 qk_5 qk_315 qv_S_viewedAs rfl rfl ⟨Nat.le_trans (by decide) hR.1, Nat.le_trans (by decide) hR.2⟩ (ci := 2) rfl (j := 3) rfl hl.1 rfl (Nat.le_of_ble_eq_true rfl) qd_S_clashesAt_56 (fun H locs w => ?_)
      refine lv_istore (lv' := [(7, .int q11.1), (0, .ref (ad 3)), (1, .int v1), (2, .int v2), (3, .int v3), (4, .int v4), (5, .int v5), (6, .int v6)]) F.1 F.2.1 qd_S_clashesAt_59 hl (by decide) rfl (fun ls hl => ?_)
      refine lv_iload F.1 F.2.1 qd_S_clashesAt_61 (lv_at hl 6 rfl) ?_
      refine lv_if_ne (tgt := 79) F.1 F.2.1 qd_S_clashesAt_63 (by decide) (fun hc13 => ?_) (fun hc13 => ?_)
      · rw [if_neg hc13] at hM
        exact t_S_clashesAt_79 F hR hK hN hA hQ hk_17 _ _ _ _ _ _ hM w (lv_sub hl [1, 2, 3, 4, 7, 0] rfl)
      · rw [if_pos hc13] at hM
        refine lv_iload F.1 F.2.1 qd_S_clashesAt_66 (lv_at hl 5 rfl) ?_
        refine lv_iconst (v := (-1)) F.1 F.2.1 qd_S_clashesAt_68 (by decide) ?_
        refine lv_icmp_eq (tgt := 83) F.1 F.2.1 qd_S_clashesAt_69 (by decide) (fun hc14 => ?_) (fun hc14 => ?_)
        · rw [if_pos hc14] at hM
          refine lv_iconst (v := 0) F.1 F.2.1 qd_S_clashesAt_83 (by decide) ?_
          refine lv_istore (lv' := [(5, .int (0 : Int32)), (7, .int q11.1), (0, .ref (ad 3)), (1, .int v1), (2, .int v2), (3, .int v3), (4, .int v4), (6, .int v6)]) F.1 F.2.1 qd_S_clashesAt_84 hl (by decide) rfl (fun ls hl => ?_)
          refine lv_iload F.1 F.2.1 qd_S_clashesAt_86 (lv_at hl 1 rfl) ?_
          refine lv_istore (lv' := [(4, .int q11.1), (5, .int (0 : Int32)), (7, .int q11.1), (0, .ref (ad 3)), (1, .int v1), (2, .int v2), (3, .int v3), (6, .int v6)]) F.1 F.2.1 qd_S_clashesAt_88 hl (by decide) rfl (fun ls hl => ?_)
          refine lv_iinc (v := (v6 + (1 : Int32))) (lv' := [(6, .int (v6 + (1 : Int32))), (4, .int q11.1), (5, .int (0 : Int32)), (7, .int q11.1), (0, .ref (ad 3)), (1, .int v1), (2, .int v2), (3, .int v3)]) F.1 F.2.1 qd_S_clashesAt_90 hl (k := 7) rfl rfl (by decide) rfl (fun ls hl => ?_)
          refine lv_goto (tgt := 17) F.1 F.2.1 qd_S_clashesAt_93 (by decide) ?_
          exact hk_17 _ _ _ _ _ _ _ hM w (lv_sub hl [4, 5, 6, 7, 1, 2, 0] rfl)
        · rw [if_neg hc14] at hM
          refine lv_iload F.1 F.2.1 qd_S_clashesAt_72 (lv_at hl 5 rfl) ?_
          refine lv_iload F.1 F.2.1 qd_S_clashesAt_74 (lv_at hl 0 rfl) ?_
          refine lv_icmp_eq (tgt := 83) F.1 F.2.1 qd_S_clashesAt_76 (by decide) (fun hc15 => ?_) (fun hc15 => ?_)
          · rw [if_pos hc15] at hM
            refine lv_iconst (v := 0) F.1 F.2.1 qd_S_clashesAt_83 (by decide) ?_
            refine lv_istore (lv' := [(5, .int (0 : Int32)), (7, .int q11.1), (0, .ref (ad 3)), (1, .int v1), (2, .int v2), (3, .int v3), (4, .int v4), (6, .int v6)]) F.1 F.2.1 qd_S_clashesAt_84 hl (by decide) rfl (fun ls hl => ?_)
            refine lv_iload F.1 F.2.1 qd_S_clashesAt_86 (lv_at hl 1 rfl) ?_
            refine lv_istore (lv' := [(4, .int q11.1), (5, .int (0 : Int32)), (7, .int q11.1), (0, .ref (ad 3)), (1, .int v1), (2, .int v2), (3, .int v3), (6, .int v6)]) F.1 F.2.1 qd_S_clashesAt_88 hl (by decide) rfl (fun ls hl => ?_)
            refine lv_iinc (v := (v6 + (1 : Int32))) (lv' := [(6, .int (v6 + (1 : Int32))), (4, .int q11.1), (5, .int (0 : Int32)), (7, .int q11.1), (0, .ref (ad 3)), (1, .int v1), (2, .int v2), (3, .int v3)]) F.1 F.2.1 qd_S_clashesAt_90 hl (k := 7) rfl rfl (by decide) rfl (fun ls hl => ?_)
            refine lv_goto (tgt := 17) F.1 F.2.1 qd_S_clashesAt_93 (by decide) ?_
            exact hk_17 _ _ _ _ _ _ _ hM w (lv_sub hl [4, 5, 6, 7, 1, 2, 0] rfl)
          · rw [if_neg hc15] at hM
            exact t_S_clashesAt_79 F hR hK hN hA hQ hk_17 _ _ _ _ _ _ hM w (lv_sub hl [1, 2, 3, 4, 7, 0] rfl)
set_option maxRecDepth 100000 in
set_option maxHeartbeats 4000000 in
theorem t_S_clashesAt_17 {p : Program} {l : Launch} {e : Env} {R : Room} {s : State} {m : MethodId} {args : Array Value} {below : List Frame} {meth : Method} {c : Code} {Q : State → Prop} {D : va_G} {ad : Nat → Nat} {cI : ClassId} {A : Nat → Prop} (F : CallFix p m c qb_S_clashesAt 8 s args qtb "CaptureSubtypes$Shapes") (hR : 68 ≤ R.frames ∧ 1850 ≤ R.locals) (hK : va_K D qcl [(cI, .int)] s) (hN : qnests xns s) (hA : ∀ q, s.heap.size ≤ q → A q) {res : (Bool × (Nat → Nat → Int32))} (hQ : ∀ (H : Heap) (locs : List Loc) (pc : Nat) (ls : Array Slot), decode qb_S_clashesAt pc = .ok (.ireturn, 1) → xW D ad cI A s.heap res.2 H locs → W p l e R s m args below meth c H locs 0 0 Q (F0 m pc ls [.int (qB res.1)])) : ∀ (n : Nat) (S : (Nat → Nat → Int32)) (v1 v2 v3 v4 v5 v6 : Int32) (hM : f_S_clashesAt_17 n S v1 v2 v3 v4 v5 v6 = some res) {H : Heap} {locs : List Loc} {ls : Array Slot} (w : xW D ad cI A s.heap S H locs) (hl : lv_has ls 8 [(0, .ref (ad 3)), (1, .int v1), (2, .int v2), (3, .int v3), (4, .int v4), (5, .int v5), (6, .int v6)]), W p l e R s m args below meth c H locs 0 0 Q (F0 m 17 ls []) := by
  intro n
  induction n with
  | zero => intro S v1 v2 v3 v4 v5 v6 hM; exact absurd hM (by simp [f_S_clashesAt_17])
  | succ n ih => intro S v1 v2 v3 v4 v5 v6 hM H locs ls w hl; exact tb_S_clashesAt_17 F hR hK hN hA hQ (k_17 := f_S_clashesAt_17 n) (fun S v1 v2 v3 v4 v5 v6 hM H locs ls w hl => ih S v1 v2 v3 v4 v5 v6 hM w hl) S v1 v2 v3 v4 v5 v6 hM w hl
set_option maxRecDepth 100000 in
set_option maxHeartbeats 4000000 in
theorem t_S_clashesAt {p : Program} {l : Launch} {e : Env} {R : Room} {s : State} {m : MethodId} {args : Array Value} {below : List Frame} {meth : Method} {c : Code} {Q : State → Prop} {D : va_G} {ad : Nat → Nat} {cI : ClassId} {A : Nat → Prop} (F : CallFix p m c qb_S_clashesAt 8 s args qtb "CaptureSubtypes$Shapes") (hR : 68 ≤ R.frames ∧ 1850 ≤ R.locals) (hK : va_K D qcl [(cI, .int)] s) (hN : qnests xns s) (hA : ∀ q, s.heap.size ≤ q → A q) {res : (Bool × (Nat → Nat → Int32))} (hQ : ∀ (H : Heap) (locs : List Loc) (pc : Nat) (ls : Array Slot), decode qb_S_clashesAt pc = .ok (.ireturn, 1) → xW D ad cI A s.heap res.2 H locs → W p l e R s m args below meth c H locs 0 0 Q (F0 m pc ls [.int (qB res.1)])) (S : (Nat → Nat → Int32)) (a1 a2 : Int32) (hM : f_S_clashesAt S a1 a2 = some res) {H : Heap} {locs : List Loc} {ls : Array Slot} (w : xW D ad cI A s.heap S H locs) (hl : lv_has ls 8 [(0, .ref (ad 3)), (1, .int a1), (2, .int a2)]) : W p l e R s m args below meth c H locs 0 0 Q (F0 m 0 ls []) := by
  unfold f_S_clashesAt at hM
  refine lv_aload_n F.1 F.2.1 qd_S_clashesAt_0 rfl (lv_at hl 0 rfl) ?_
  refine xg_S_types F hK w qk_126 qd_S_clashesAt_1 ?_
  obtain ⟨q1, hq2, hM⟩ := qbd hM
  refine x_calli F hK hN hA w (c_T_mark l D ad cI hq2) qk_305 qk_306 qk_307 qk_3 qk_308 qv_T_mark rfl rfl ⟨Nat.le_trans (by decide) hR.1, Nat.le_trans (by decide) hR.2⟩ (ci := 1) rfl (j := 2) rfl hl.1 rfl (Nat.le_of_ble_eq_true rfl) qd_S_clashesAt_4 (fun H locs w => ?_)
  refine lv_istore_n (lv' := [(3, .int q1), (0, .ref (ad 3)), (1, .int a1), (2, .int a2)]) F.1 F.2.1 qd_S_clashesAt_7 rfl hl (by decide) rfl (fun ls hl => ?_)
  refine lv_iconst (v := (-1)) F.1 F.2.1 qd_S_clashesAt_8 (by decide) ?_
  refine lv_istore (lv' := [(4, .int (-1 : Int32)), (3, .int q1), (0, .ref (ad 3)), (1, .int a1), (2, .int a2)]) F.1 F.2.1 qd_S_clashesAt_9 hl (by decide) rfl (fun ls hl => ?_)
  refine lv_iconst (v := 0) F.1 F.2.1 qd_S_clashesAt_11 (by decide) ?_
  refine lv_istore (lv' := [(5, .int (0 : Int32)), (4, .int (-1 : Int32)), (3, .int q1), (0, .ref (ad 3)), (1, .int a1), (2, .int a2)]) F.1 F.2.1 qd_S_clashesAt_12 hl (by decide) rfl (fun ls hl => ?_)
  refine lv_iconst (v := 0) F.1 F.2.1 qd_S_clashesAt_14 (by decide) ?_
  refine lv_istore (lv' := [(6, .int (0 : Int32)), (5, .int (0 : Int32)), (4, .int (-1 : Int32)), (3, .int q1), (0, .ref (ad 3)), (1, .int a1), (2, .int a2)]) F.1 F.2.1 qd_S_clashesAt_15 hl (by decide) rfl (fun ls hl => ?_)
  exact t_S_clashesAt_17 F hR hK hN hA hQ  qfu _ _ _ _ _ _ _ hM w (lv_sub hl [4, 5, 6, 3, 2, 1, 0] rfl)
set_option maxRecDepth 100000 in
theorem c_S_clashesAt (l : Launch) (D : va_G) (ad : Nat → Nat) (cI : ClassId) {S : (Nat → Nat → Int32)} {a1 a2 : Int32} {res : (Bool × (Nat → Nat → Int32))} (hM : f_S_clashesAt S a1 a2 = some res) : xMi l qy_S_clashesAt qb_S_clashesAt 8 (some .boolean) { frames := 68, cells := 0, slots := 0, locals := 1850 } D ad cI S [.ref (ad 3), .int a1, .int a2] (qB res.1) res.2 := x_ofz (by decide +kernel) (Nat.le_of_ble_eq_true rfl) (fun p e s m args below meth c Q A ls F hK hN hA w hl hQ => t_S_clashesAt F ⟨Nat.le_refl _, Nat.le_refl _⟩ hK hN hA hQ S a1 a2 hM w hl)
-- S_clashes
def fb_S_clashes_15 (k_2 : (Nat → Nat → Int32) → Int32 → Option (Bool × (Nat → Nat → Int32))) (k_15 : (Nat → Nat → Int32) → Int32 → Int32 → Option (Bool × (Nat → Nat → Int32))) (S : (Nat → Nat → Int32)) (v1 v2 : Int32) : Option (Bool × (Nat → Nat → Int32)) := if v1 ≤ v2 then (k_2 S (v1 + (1 : Int32))) else ((f_S_clashesAt S v1 v2).bind (fun q2 => if (qB q2.1) = 0 then (k_15 q2.2 v1 (v2 + (1 : Int32))) else (some (true, q2.2))))
def f_S_clashes_15 (k_2 : (Nat → Nat → Int32) → Int32 → Option (Bool × (Nat → Nat → Int32))) : Nat → (Nat → Nat → Int32) → Int32 → Int32 → Option (Bool × (Nat → Nat → Int32))
  | 0 => fun _ _ _ => none
  | n + 1 => fun S v1 v2 => fb_S_clashes_15 k_2 (f_S_clashes_15 k_2 n) S v1 v2
def fb_S_clashes_2 (k_2 : (Nat → Nat → Int32) → Int32 → Option (Bool × (Nat → Nat → Int32))) (S : (Nat → Nat → Int32)) (v1 : Int32) : Option (Bool × (Nat → Nat → Int32)) := if (S 0 0) ≤ v1 then (some (false, S)) else (f_S_clashes_15 k_2 qfu S v1 (1 : Int32))
def f_S_clashes_2 : Nat → (Nat → Nat → Int32) → Int32 → Option (Bool × (Nat → Nat → Int32))
  | 0 => fun _ _ => none
  | n + 1 => fun S v1 => fb_S_clashes_2 (f_S_clashes_2 n) S v1
def f_S_clashes (S : (Nat → Nat → Int32)) : Option (Bool × (Nat → Nat → Int32)) := f_S_clashes_2  qfu S (1 : Int32)
set_option maxRecDepth 100000 in
set_option maxHeartbeats 4000000 in
theorem tb_S_clashes_15 {p : Program} {l : Launch} {e : Env} {R : Room} {s : State} {m : MethodId} {args : Array Value} {below : List Frame} {meth : Method} {c : Code} {Q : State → Prop} {D : va_G} {ad : Nat → Nat} {cI : ClassId} {A : Nat → Prop} (F : CallFix p m c qb_S_clashes 3 s args qtb "CaptureSubtypes$Shapes") (hR : 69 ≤ R.frames ∧ 1877 ≤ R.locals) (hK : va_K D qcl [(cI, .int)] s) (hN : qnests xns s) (hA : ∀ q, s.heap.size ≤ q → A q) {res : (Bool × (Nat → Nat → Int32))} (hQ : ∀ (H : Heap) (locs : List Loc) (pc : Nat) (ls : Array Slot), decode qb_S_clashes pc = .ok (.ireturn, 1) → xW D ad cI A s.heap res.2 H locs → W p l e R s m args below meth c H locs 0 0 Q (F0 m pc ls [.int (qB res.1)])) {k_2 : (Nat → Nat → Int32) → Int32 → Option (Bool × (Nat → Nat → Int32))} (hk_2 : ∀ (S : Nat → Nat → Int32) (v1 : Int32), k_2 S v1 = some res → ∀ {H : Heap} {locs : List Loc} {ls : Array Slot}, xW D ad cI A s.heap S H locs → lv_has ls 3 [(0, .ref (ad 3)), (1, .int v1)] → W p l e R s m args below meth c H locs 0 0 Q (F0 m 2 ls [])) {k_15 : (Nat → Nat → Int32) → Int32 → Int32 → Option (Bool × (Nat → Nat → Int32))} (hk_15 : ∀ (S : Nat → Nat → Int32) (v1 v2 : Int32), k_15 S v1 v2 = some res → ∀ {H : Heap} {locs : List Loc} {ls : Array Slot}, xW D ad cI A s.heap S H locs → lv_has ls 3 [(0, .ref (ad 3)), (1, .int v1), (2, .int v2)] → W p l e R s m args below meth c H locs 0 0 Q (F0 m 15 ls [])) (S : (Nat → Nat → Int32)) (v1 v2 : Int32) (hM : fb_S_clashes_15 k_2 k_15 S v1 v2 = some res) {H : Heap} {locs : List Loc} {ls : Array Slot} (w : xW D ad cI A s.heap S H locs) (hl : lv_has ls 3 [(0, .ref (ad 3)), (1, .int v1), (2, .int v2)]) : W p l e R s m args below meth c H locs 0 0 Q (F0 m 15 ls []) := by
  unfold fb_S_clashes_15 at hM
  refine lv_iload_n F.1 F.2.1 qd_S_clashes_15 rfl (lv_at hl 2 rfl) ?_
  refine lv_iload_n F.1 F.2.1 qd_S_clashes_16 rfl (lv_at hl 1 rfl) ?_
  refine lv_icmp_ge (tgt := 37) F.1 F.2.1 qd_S_clashes_17 (by decide) (fun hc1 => ?_) (fun hc1 => ?_)
  · rw [if_pos hc1] at hM
    refine lv_iinc (v := (v1 + (1 : Int32))) (lv' := [(1, .int (v1 + (1 : Int32))), (0, .ref (ad 3)), (2, .int v2)]) F.1 F.2.1 qd_S_clashes_37 hl (k := 1) rfl rfl (by decide) rfl (fun ls hl => ?_)
    refine lv_goto (tgt := 2) F.1 F.2.1 qd_S_clashes_40 (by decide) ?_
    exact hk_2 _ _ hM w (lv_sub hl [1, 0] rfl)
  · rw [if_neg hc1] at hM
    refine lv_aload_n F.1 F.2.1 qd_S_clashes_20 rfl (lv_at hl 0 rfl) ?_
    refine lv_iload_n F.1 F.2.1 qd_S_clashes_21 rfl (lv_at hl 1 rfl) ?_
    refine lv_iload_n F.1 F.2.1 qd_S_clashes_22 rfl (lv_at hl 2 rfl) ?_
    obtain ⟨q2, hq3, hM⟩ := qbd hM
    refine x_calli F hK hN hA w (c_S_clashesAt l D ad cI hq3) qk_301 qk_303 qs_S_clashesAt qk_5 qk_304 qv_S_clashesAt rfl rfl ⟨Nat.le_trans (by decide) hR.1, Nat.le_trans (by decide) hR.2⟩ (ci := 2) rfl (j := 3) rfl hl.1 rfl (Nat.le_of_ble_eq_true rfl) qd_S_clashes_23 (fun H locs w => ?_)
    refine lv_if_eq (tgt := 31) F.1 F.2.1 qd_S_clashes_26 (by decide) (fun hc4 => ?_) (fun hc4 => ?_)
    · rw [if_pos hc4] at hM
      refine lv_iinc (v := (v2 + (1 : Int32))) (lv' := [(2, .int (v2 + (1 : Int32))), (0, .ref (ad 3)), (1, .int v1)]) F.1 F.2.1 qd_S_clashes_31 hl (k := 2) rfl rfl (by decide) rfl (fun ls hl => ?_)
      refine lv_goto (tgt := 15) F.1 F.2.1 qd_S_clashes_34 (by decide) ?_
      exact hk_15 _ _ _ hM w (lv_sub hl [1, 2, 0] rfl)
    · rw [if_neg hc4] at hM
      refine lv_iconst (v := 1) F.1 F.2.1 qd_S_clashes_29 (by decide) ?_
      cases hM
      exact hQ _ _ _ _ qd_S_clashes_30 w
set_option maxRecDepth 100000 in
set_option maxHeartbeats 4000000 in
theorem t_S_clashes_15 {p : Program} {l : Launch} {e : Env} {R : Room} {s : State} {m : MethodId} {args : Array Value} {below : List Frame} {meth : Method} {c : Code} {Q : State → Prop} {D : va_G} {ad : Nat → Nat} {cI : ClassId} {A : Nat → Prop} (F : CallFix p m c qb_S_clashes 3 s args qtb "CaptureSubtypes$Shapes") (hR : 69 ≤ R.frames ∧ 1877 ≤ R.locals) (hK : va_K D qcl [(cI, .int)] s) (hN : qnests xns s) (hA : ∀ q, s.heap.size ≤ q → A q) {res : (Bool × (Nat → Nat → Int32))} (hQ : ∀ (H : Heap) (locs : List Loc) (pc : Nat) (ls : Array Slot), decode qb_S_clashes pc = .ok (.ireturn, 1) → xW D ad cI A s.heap res.2 H locs → W p l e R s m args below meth c H locs 0 0 Q (F0 m pc ls [.int (qB res.1)])) {k_2 : (Nat → Nat → Int32) → Int32 → Option (Bool × (Nat → Nat → Int32))} (hk_2 : ∀ (S : Nat → Nat → Int32) (v1 : Int32), k_2 S v1 = some res → ∀ {H : Heap} {locs : List Loc} {ls : Array Slot}, xW D ad cI A s.heap S H locs → lv_has ls 3 [(0, .ref (ad 3)), (1, .int v1)] → W p l e R s m args below meth c H locs 0 0 Q (F0 m 2 ls [])) : ∀ (n : Nat) (S : (Nat → Nat → Int32)) (v1 v2 : Int32) (hM : f_S_clashes_15 k_2 n S v1 v2 = some res) {H : Heap} {locs : List Loc} {ls : Array Slot} (w : xW D ad cI A s.heap S H locs) (hl : lv_has ls 3 [(0, .ref (ad 3)), (1, .int v1), (2, .int v2)]), W p l e R s m args below meth c H locs 0 0 Q (F0 m 15 ls []) := by
  intro n
  induction n with
  | zero => intro S v1 v2 hM; exact absurd hM (by simp [f_S_clashes_15])
  | succ n ih => intro S v1 v2 hM H locs ls w hl; exact tb_S_clashes_15 F hR hK hN hA hQ hk_2 (k_15 := f_S_clashes_15 k_2 n) (fun S v1 v2 hM H locs ls w hl => ih S v1 v2 hM w hl) S v1 v2 hM w hl
set_option maxRecDepth 100000 in
set_option maxHeartbeats 4000000 in
theorem tb_S_clashes_2 {p : Program} {l : Launch} {e : Env} {R : Room} {s : State} {m : MethodId} {args : Array Value} {below : List Frame} {meth : Method} {c : Code} {Q : State → Prop} {D : va_G} {ad : Nat → Nat} {cI : ClassId} {A : Nat → Prop} (F : CallFix p m c qb_S_clashes 3 s args qtb "CaptureSubtypes$Shapes") (hR : 69 ≤ R.frames ∧ 1877 ≤ R.locals) (hK : va_K D qcl [(cI, .int)] s) (hN : qnests xns s) (hA : ∀ q, s.heap.size ≤ q → A q) {res : (Bool × (Nat → Nat → Int32))} (hQ : ∀ (H : Heap) (locs : List Loc) (pc : Nat) (ls : Array Slot), decode qb_S_clashes pc = .ok (.ireturn, 1) → xW D ad cI A s.heap res.2 H locs → W p l e R s m args below meth c H locs 0 0 Q (F0 m pc ls [.int (qB res.1)])) {k_2 : (Nat → Nat → Int32) → Int32 → Option (Bool × (Nat → Nat → Int32))} (hk_2 : ∀ (S : Nat → Nat → Int32) (v1 : Int32), k_2 S v1 = some res → ∀ {H : Heap} {locs : List Loc} {ls : Array Slot}, xW D ad cI A s.heap S H locs → lv_has ls 3 [(0, .ref (ad 3)), (1, .int v1)] → W p l e R s m args below meth c H locs 0 0 Q (F0 m 2 ls [])) (S : (Nat → Nat → Int32)) (v1 : Int32) (hM : fb_S_clashes_2 k_2 S v1 = some res) {H : Heap} {locs : List Loc} {ls : Array Slot} (w : xW D ad cI A s.heap S H locs) (hl : lv_has ls 3 [(0, .ref (ad 3)), (1, .int v1)]) : W p l e R s m args below meth c H locs 0 0 Q (F0 m 2 ls []) := by
  unfold fb_S_clashes_2 at hM
  refine lv_iload_n F.1 F.2.1 qd_S_clashes_2 rfl (lv_at hl 1 rfl) ?_
  refine lv_aload_n F.1 F.2.1 qd_S_clashes_3 rfl (lv_at hl 0 rfl) ?_
  refine xg_S_classes F hK w qk_125 qd_S_clashes_4 ?_
  refine xg_K_count F hK w qk_34 qd_S_clashes_7 ?_
  refine lv_icmp_ge (tgt := 43) F.1 F.2.1 qd_S_clashes_10 (by decide) (fun hc1 => ?_) (fun hc1 => ?_)
  · rw [if_pos hc1] at hM
    refine lv_iconst (v := 0) F.1 F.2.1 qd_S_clashes_43 (by decide) ?_
    cases hM
    exact hQ _ _ _ _ qd_S_clashes_44 w
  · rw [if_neg hc1] at hM
    refine lv_iconst (v := 1) F.1 F.2.1 qd_S_clashes_13 (by decide) ?_
    refine lv_istore_n (lv' := [(2, .int (1 : Int32)), (0, .ref (ad 3)), (1, .int v1)]) F.1 F.2.1 qd_S_clashes_14 rfl hl (by decide) rfl (fun ls hl => ?_)
    exact t_S_clashes_15 F hR hK hN hA hQ hk_2 qfu _ _ _ hM w (lv_sub hl [1, 2, 0] rfl)
set_option maxRecDepth 100000 in
set_option maxHeartbeats 4000000 in
theorem t_S_clashes_2 {p : Program} {l : Launch} {e : Env} {R : Room} {s : State} {m : MethodId} {args : Array Value} {below : List Frame} {meth : Method} {c : Code} {Q : State → Prop} {D : va_G} {ad : Nat → Nat} {cI : ClassId} {A : Nat → Prop} (F : CallFix p m c qb_S_clashes 3 s args qtb "CaptureSubtypes$Shapes") (hR : 69 ≤ R.frames ∧ 1877 ≤ R.locals) (hK : va_K D qcl [(cI, .int)] s) (hN : qnests xns s) (hA : ∀ q, s.heap.size ≤ q → A q) {res : (Bool × (Nat → Nat → Int32))} (hQ : ∀ (H : Heap) (locs : List Loc) (pc : Nat) (ls : Array Slot), decode qb_S_clashes pc = .ok (.ireturn, 1) → xW D ad cI A s.heap res.2 H locs → W p l e R s m args below meth c H locs 0 0 Q (F0 m pc ls [.int (qB res.1)])) : ∀ (n : Nat) (S : (Nat → Nat → Int32)) (v1 : Int32) (hM : f_S_clashes_2 n S v1 = some res) {H : Heap} {locs : List Loc} {ls : Array Slot} (w : xW D ad cI A s.heap S H locs) (hl : lv_has ls 3 [(0, .ref (ad 3)), (1, .int v1)]), W p l e R s m args below meth c H locs 0 0 Q (F0 m 2 ls []) := by
  intro n
  induction n with
  | zero => intro S v1 hM; exact absurd hM (by simp [f_S_clashes_2])
  | succ n ih => intro S v1 hM H locs ls w hl; exact tb_S_clashes_2 F hR hK hN hA hQ (k_2 := f_S_clashes_2 n) (fun S v1 hM H locs ls w hl => ih S v1 hM w hl) S v1 hM w hl
set_option maxRecDepth 100000 in
set_option maxHeartbeats 4000000 in
theorem t_S_clashes {p : Program} {l : Launch} {e : Env} {R : Room} {s : State} {m : MethodId} {args : Array Value} {below : List Frame} {meth : Method} {c : Code} {Q : State → Prop} {D : va_G} {ad : Nat → Nat} {cI : ClassId} {A : Nat → Prop} (F : CallFix p m c qb_S_clashes 3 s args qtb "CaptureSubtypes$Shapes") (hR : 69 ≤ R.frames ∧ 1877 ≤ R.locals) (hK : va_K D qcl [(cI, .int)] s) (hN : qnests xns s) (hA : ∀ q, s.heap.size ≤ q → A q) {res : (Bool × (Nat → Nat → Int32))} (hQ : ∀ (H : Heap) (locs : List Loc) (pc : Nat) (ls : Array Slot), decode qb_S_clashes pc = .ok (.ireturn, 1) → xW D ad cI A s.heap res.2 H locs → W p l e R s m args below meth c H locs 0 0 Q (F0 m pc ls [.int (qB res.1)])) (S : (Nat → Nat → Int32)) (hM : f_S_clashes S  = some res) {H : Heap} {locs : List Loc} {ls : Array Slot} (w : xW D ad cI A s.heap S H locs) (hl : lv_has ls 3 [(0, .ref (ad 3))]) : W p l e R s m args below meth c H locs 0 0 Q (F0 m 0 ls []) := by
  unfold f_S_clashes at hM
  refine lv_iconst (v := 1) F.1 F.2.1 qd_S_clashes_0 (by decide) ?_
  refine lv_istore_n (lv' := [(1, .int (1 : Int32)), (0, .ref (ad 3))]) F.1 F.2.1 qd_S_clashes_1 rfl hl (by decide) rfl (fun ls hl => ?_)
  exact t_S_clashes_2 F hR hK hN hA hQ  qfu _ _ hM w (lv_sub hl [1, 0] rfl)
set_option maxRecDepth 100000 in
theorem c_S_clashes (l : Launch) (D : va_G) (ad : Nat → Nat) (cI : ClassId) {S : (Nat → Nat → Int32)} {res : (Bool × (Nat → Nat → Int32))} (hM : f_S_clashes S  = some res) : xMi l qy_S_clashes qb_S_clashes 3 (some .boolean) { frames := 69, cells := 0, slots := 0, locals := 1877 } D ad cI S [.ref (ad 3)] (qB res.1) res.2 := x_ofz (by decide +kernel) (Nat.le_of_ble_eq_true rfl) (fun p e s m args below meth c Q A ls F hK hN hA w hl hQ => t_S_clashes F ⟨Nat.le_refl _, Nat.le_refl _⟩ hK hN hA hQ S  hM w hl)
-- K_putInCount
def fb_K_putInCount_4 (k_4 : (Nat → Nat → Int32) → Int32 → Int32 → Int32 → Option Int32) (S : (Nat → Nat → Int32)) (v1 v2 v3 : Int32) : Option Int32 := if (3 : Int32) ≤ v3 then (some v2) else ((f_K_superType S v1 v3).bind (fun q2 => if q2 ≤ 0 then (k_4 S v1 v2 (v3 + (1 : Int32))) else (k_4 S v1 (v2 + (1 : Int32)) (v3 + (1 : Int32)))))
def f_K_putInCount_4 : Nat → (Nat → Nat → Int32) → Int32 → Int32 → Int32 → Option Int32
  | 0 => fun _ _ _ _ => none
  | n + 1 => fun S v1 v2 v3 => fb_K_putInCount_4 (f_K_putInCount_4 n) S v1 v2 v3
def f_K_putInCount (S : (Nat → Nat → Int32)) (a1 : Int32) : Option Int32 := f_K_putInCount_4  qfu S a1 (0 : Int32) (0 : Int32)
set_option maxRecDepth 100000 in
set_option maxHeartbeats 4000000 in
theorem tb_K_putInCount_4 {p : Program} {l : Launch} {e : Env} {R : Room} {s : State} {m : MethodId} {args : Array Value} {below : List Frame} {meth : Method} {c : Code} {Q : State → Prop} {D : va_G} {ad : Nat → Nat} {cI : ClassId} {A : Nat → Prop} (F : CallFix p m c qb_K_putInCount 4 s args qtb "CaptureSubtypes$Classes") (hR : 1 ≤ R.frames ∧ 23 ≤ R.locals) (hK : va_K D qcl [(cI, .int)] s) (hN : qnests xns s) (hA : ∀ q, s.heap.size ≤ q → A q) {res : Int32} {S : (Nat → Nat → Int32)} (hQ : ∀ (H : Heap) (locs : List Loc) (pc : Nat) (ls : Array Slot), decode qb_K_putInCount pc = .ok (.ireturn, 1) → xW D ad cI A s.heap S H locs → W p l e R s m args below meth c H locs 0 0 Q (F0 m pc ls [.int res])) {k_4 : (Nat → Nat → Int32) → Int32 → Int32 → Int32 → Option Int32} (hk_4 : ∀  (v1 v2 v3 : Int32), k_4 S v1 v2 v3 = some res → ∀ {H : Heap} {locs : List Loc} {ls : Array Slot}, xW D ad cI A s.heap S H locs → lv_has ls 4 [(0, .ref (ad 1)), (1, .int v1), (2, .int v2), (3, .int v3)] → W p l e R s m args below meth c H locs 0 0 Q (F0 m 4 ls [])) (v1 v2 v3 : Int32) (hM : fb_K_putInCount_4 k_4 S v1 v2 v3 = some res) {H : Heap} {locs : List Loc} {ls : Array Slot} (w : xW D ad cI A s.heap S H locs) (hl : lv_has ls 4 [(0, .ref (ad 1)), (1, .int v1), (2, .int v2), (3, .int v3)]) : W p l e R s m args below meth c H locs 0 0 Q (F0 m 4 ls []) := by
  unfold fb_K_putInCount_4 at hM
  refine lv_iload_n F.1 F.2.1 qd_K_putInCount_4 rfl (lv_at hl 3 rfl) ?_
  refine lv_iconst (v := 3) F.1 F.2.1 qd_K_putInCount_5 (by decide) ?_
  refine lv_icmp_ge (tgt := 27) F.1 F.2.1 qd_K_putInCount_6 (by decide) (fun hc1 => ?_) (fun hc1 => ?_)
  · rw [if_pos hc1] at hM
    refine lv_iload_n F.1 F.2.1 qd_K_putInCount_27 rfl (lv_at hl 2 rfl) ?_
    cases hM
    exact hQ _ _ _ _ qd_K_putInCount_28 w
  · rw [if_neg hc1] at hM
    refine lv_aload_n F.1 F.2.1 qd_K_putInCount_9 rfl (lv_at hl 0 rfl) ?_
    refine lv_iload_n F.1 F.2.1 qd_K_putInCount_10 rfl (lv_at hl 1 rfl) ?_
    refine lv_iload_n F.1 F.2.1 qd_K_putInCount_11 rfl (lv_at hl 3 rfl) ?_
    obtain ⟨q2, hq3, hM⟩ := qbd hM
    refine x_calli F hK hN hA w (c_K_superType l D ad cI hq3) qk_287 qk_288 qk_289 qk_2 qk_290 qv_K_superType rfl rfl ⟨Nat.le_trans (by decide) hR.1, Nat.le_trans (by decide) hR.2⟩ (ci := 0) rfl (j := 1) rfl hl.1 rfl (Nat.le_of_ble_eq_true rfl) qd_K_putInCount_12 (fun H locs w => ?_)
    refine lv_if_le (tgt := 21) F.1 F.2.1 qd_K_putInCount_15 (by decide) (fun hc4 => ?_) (fun hc4 => ?_)
    · rw [if_pos hc4] at hM
      refine lv_iinc (v := (v3 + (1 : Int32))) (lv' := [(3, .int (v3 + (1 : Int32))), (0, .ref (ad 1)), (1, .int v1), (2, .int v2)]) F.1 F.2.1 qd_K_putInCount_21 hl (k := 3) rfl rfl (by decide) rfl (fun ls hl => ?_)
      refine lv_goto (tgt := 4) F.1 F.2.1 qd_K_putInCount_24 (by decide) ?_
      exact hk_4 _ _ _ hM w (lv_sub hl [1, 2, 3, 0] rfl)
    · rw [if_neg hc4] at hM
      refine lv_iinc (v := (v2 + (1 : Int32))) (lv' := [(2, .int (v2 + (1 : Int32))), (0, .ref (ad 1)), (1, .int v1), (3, .int v3)]) F.1 F.2.1 qd_K_putInCount_18 hl (k := 2) rfl rfl (by decide) rfl (fun ls hl => ?_)
      refine lv_iinc (v := (v3 + (1 : Int32))) (lv' := [(3, .int (v3 + (1 : Int32))), (2, .int (v2 + (1 : Int32))), (0, .ref (ad 1)), (1, .int v1)]) F.1 F.2.1 qd_K_putInCount_21 hl (k := 3) rfl rfl (by decide) rfl (fun ls hl => ?_)
      refine lv_goto (tgt := 4) F.1 F.2.1 qd_K_putInCount_24 (by decide) ?_
      exact hk_4 _ _ _ hM w (lv_sub hl [2, 3, 1, 0] rfl)
set_option maxRecDepth 100000 in
set_option maxHeartbeats 4000000 in
theorem t_K_putInCount_4 {p : Program} {l : Launch} {e : Env} {R : Room} {s : State} {m : MethodId} {args : Array Value} {below : List Frame} {meth : Method} {c : Code} {Q : State → Prop} {D : va_G} {ad : Nat → Nat} {cI : ClassId} {A : Nat → Prop} (F : CallFix p m c qb_K_putInCount 4 s args qtb "CaptureSubtypes$Classes") (hR : 1 ≤ R.frames ∧ 23 ≤ R.locals) (hK : va_K D qcl [(cI, .int)] s) (hN : qnests xns s) (hA : ∀ q, s.heap.size ≤ q → A q) {res : Int32} {S : (Nat → Nat → Int32)} (hQ : ∀ (H : Heap) (locs : List Loc) (pc : Nat) (ls : Array Slot), decode qb_K_putInCount pc = .ok (.ireturn, 1) → xW D ad cI A s.heap S H locs → W p l e R s m args below meth c H locs 0 0 Q (F0 m pc ls [.int res])) : ∀ (n : Nat) (v1 v2 v3 : Int32) (hM : f_K_putInCount_4 n S v1 v2 v3 = some res) {H : Heap} {locs : List Loc} {ls : Array Slot} (w : xW D ad cI A s.heap S H locs) (hl : lv_has ls 4 [(0, .ref (ad 1)), (1, .int v1), (2, .int v2), (3, .int v3)]), W p l e R s m args below meth c H locs 0 0 Q (F0 m 4 ls []) := by
  intro n
  induction n with
  | zero => intro v1 v2 v3 hM; exact absurd hM (by simp [f_K_putInCount_4])
  | succ n ih => intro v1 v2 v3 hM H locs ls w hl; exact tb_K_putInCount_4 F hR hK hN hA hQ (k_4 := f_K_putInCount_4 n) (fun v1 v2 v3 hM H locs ls w hl => ih v1 v2 v3 hM w hl) v1 v2 v3 hM w hl
set_option maxRecDepth 100000 in
set_option maxHeartbeats 4000000 in
theorem t_K_putInCount {p : Program} {l : Launch} {e : Env} {R : Room} {s : State} {m : MethodId} {args : Array Value} {below : List Frame} {meth : Method} {c : Code} {Q : State → Prop} {D : va_G} {ad : Nat → Nat} {cI : ClassId} {A : Nat → Prop} (F : CallFix p m c qb_K_putInCount 4 s args qtb "CaptureSubtypes$Classes") (hR : 1 ≤ R.frames ∧ 23 ≤ R.locals) (hK : va_K D qcl [(cI, .int)] s) (hN : qnests xns s) (hA : ∀ q, s.heap.size ≤ q → A q) {res : Int32} {S : (Nat → Nat → Int32)} (hQ : ∀ (H : Heap) (locs : List Loc) (pc : Nat) (ls : Array Slot), decode qb_K_putInCount pc = .ok (.ireturn, 1) → xW D ad cI A s.heap S H locs → W p l e R s m args below meth c H locs 0 0 Q (F0 m pc ls [.int res])) (a1 : Int32) (hM : f_K_putInCount S a1 = some res) {H : Heap} {locs : List Loc} {ls : Array Slot} (w : xW D ad cI A s.heap S H locs) (hl : lv_has ls 4 [(0, .ref (ad 1)), (1, .int a1)]) : W p l e R s m args below meth c H locs 0 0 Q (F0 m 0 ls []) := by
  unfold f_K_putInCount at hM
  refine lv_iconst (v := 0) F.1 F.2.1 qd_K_putInCount_0 (by decide) ?_
  refine lv_istore_n (lv' := [(2, .int (0 : Int32)), (0, .ref (ad 1)), (1, .int a1)]) F.1 F.2.1 qd_K_putInCount_1 rfl hl (by decide) rfl (fun ls hl => ?_)
  refine lv_iconst (v := 0) F.1 F.2.1 qd_K_putInCount_2 (by decide) ?_
  refine lv_istore_n (lv' := [(3, .int (0 : Int32)), (2, .int (0 : Int32)), (0, .ref (ad 1)), (1, .int a1)]) F.1 F.2.1 qd_K_putInCount_3 rfl hl (by decide) rfl (fun ls hl => ?_)
  exact t_K_putInCount_4 F hR hK hN hA hQ  qfu _ _ _ hM w (lv_sub hl [2, 3, 1, 0] rfl)
set_option maxRecDepth 100000 in
theorem c_K_putInCount (l : Launch) (D : va_G) (ad : Nat → Nat) (cI : ClassId) {S : (Nat → Nat → Int32)} {a1 : Int32} {res : Int32} (hM : f_K_putInCount S a1 = some res) : xMi l qy_K_putInCount qb_K_putInCount 4 (some .int) { frames := 1, cells := 0, slots := 0, locals := 23 } D ad cI S [.ref (ad 1), .int a1] res S := x_ofi (by decide +kernel) (Nat.le_of_ble_eq_true rfl) (fun p e s m args below meth c Q A ls F hK hN hA w hl hQ => t_K_putInCount F ⟨Nat.le_refl _, Nat.le_refl _⟩ hK hN hA hQ a1 hM w hl)
-- X_inherit
def f_X_inherit (S : (Nat → Nat → Int32)) (a1 a2 : Int32) : Option (Int32 × (Nat → Nat → Int32)) := (f_X_mayBeSuper S a1 a2).bind (fun q1 => if (qB q1) = 0 then (some ((-2 : Int32), S)) else ((f_T_ownerOf S a2).bind (fun q4 => (f_K_freeSlot S a1 q4).bind (fun q6 => if q6 = (-1 : Int32) then (some ((-3 : Int32), S)) else ((f_K_superType S a1 q6).bind (fun q9 => (f_K_superClass S a1 q6).bind (fun q11 => (f_K_setSuper S a1 q6 a2 q4).bind (fun q13 => (f_S_clashes q13).bind (fun q15 => if (qB q15.1) = 0 then ((f_K_putInCount q15.2 a1).bind (fun q18 => some (q18, q15.2))) else ((f_K_setSuper q15.2 a1 q6 q9 q11).bind (fun q20 => some ((-5 : Int32), q20))))))))))))
set_option maxRecDepth 100000 in
set_option maxHeartbeats 4000000 in
theorem t_X_inherit {p : Program} {l : Launch} {e : Env} {R : Room} {s : State} {m : MethodId} {args : Array Value} {below : List Frame} {meth : Method} {c : Code} {Q : State → Prop} {D : va_G} {ad : Nat → Nat} {cI : ClassId} {A : Nat → Prop} (F : CallFix p m c qb_X_inherit 7 s args qtb "CaptureSubtypes") (hR : 70 ≤ R.frames ∧ 1899 ≤ R.locals) (hK : va_K D qcl [(cI, .int)] s) (hN : qnests xns s) (hA : ∀ q, s.heap.size ≤ q → A q) {res : (Int32 × (Nat → Nat → Int32))} (hQ : ∀ (H : Heap) (locs : List Loc) (pc : Nat) (ls : Array Slot), decode qb_X_inherit pc = .ok (.ireturn, 1) → xW D ad cI A s.heap res.2 H locs → W p l e R s m args below meth c H locs 0 0 Q (F0 m pc ls [.int res.1])) (S : (Nat → Nat → Int32)) (a1 a2 : Int32) (hM : f_X_inherit S a1 a2 = some res) {H : Heap} {locs : List Loc} {ls : Array Slot} (w : xW D ad cI A s.heap S H locs) (hl : lv_has ls 7 [(0, .ref (ad 0)), (1, .int a1), (2, .int a2)]) : W p l e R s m args below meth c H locs 0 0 Q (F0 m 0 ls []) := by
  unfold f_X_inherit at hM
  refine lv_aload_n F.1 F.2.1 qd_X_inherit_0 rfl (lv_at hl 0 rfl) ?_
  refine lv_iload_n F.1 F.2.1 qd_X_inherit_1 rfl (lv_at hl 1 rfl) ?_
  refine lv_iload_n F.1 F.2.1 qd_X_inherit_2 rfl (lv_at hl 2 rfl) ?_
  obtain ⟨q1, hq2, hM⟩ := qbd hM
  refine x_calli F hK hN hA w (c_X_mayBeSuper l D ad cI hq2) qk_253 qk_255 qs_X_mayBeSuper qk_1 qk_256 qv_X_mayBeSuper rfl rfl ⟨Nat.le_trans (by decide) hR.1, Nat.le_trans (by decide) hR.2⟩ (ci := 5) rfl (j := 0) rfl hl.1 rfl (Nat.le_of_ble_eq_true rfl) qd_X_inherit_3 (fun H locs w => ?_)
  refine lv_if_ne (tgt := 12) F.1 F.2.1 qd_X_inherit_6 (by decide) (fun hc3 => ?_) (fun hc3 => ?_)
  · rw [if_neg hc3] at hM
    refine lv_aload_n F.1 F.2.1 qd_X_inherit_12 rfl (lv_at hl 0 rfl) ?_
    refine xg_X_types F hK w qk_168 qd_X_inherit_13 ?_
    refine lv_iload_n F.1 F.2.1 qd_X_inherit_16 rfl (lv_at hl 2 rfl) ?_
    obtain ⟨q4, hq5, hM⟩ := qbd hM
    refine x_calli F hK hN hA w (c_T_ownerOf l D ad cI hq5) qk_273 qk_274 qk_275 qk_3 qk_276 qv_T_ownerOf rfl rfl ⟨Nat.le_trans (by decide) hR.1, Nat.le_trans (by decide) hR.2⟩ (ci := 1) rfl (j := 2) rfl hl.1 rfl (Nat.le_of_ble_eq_true rfl) qd_X_inherit_17 (fun H locs w => ?_)
    refine lv_istore_n (lv' := [(3, .int q4), (0, .ref (ad 0)), (1, .int a1), (2, .int a2)]) F.1 F.2.1 qd_X_inherit_20 rfl hl (by decide) rfl (fun ls hl => ?_)
    refine lv_aload_n F.1 F.2.1 qd_X_inherit_21 rfl (lv_at hl 1 rfl) ?_
    refine xg_X_classes F hK w qk_167 qd_X_inherit_22 ?_
    refine lv_iload_n F.1 F.2.1 qd_X_inherit_25 rfl (lv_at hl 2 rfl) ?_
    refine lv_iload_n F.1 F.2.1 qd_X_inherit_26 rfl (lv_at hl 0 rfl) ?_
    obtain ⟨q6, hq7, hM⟩ := qbd hM
    refine x_calli F hK hN hA w (c_K_freeSlot l D ad cI hq7) qk_283 qk_284 qk_285 qk_2 qk_286 qv_K_freeSlot rfl rfl ⟨Nat.le_trans (by decide) hR.1, Nat.le_trans (by decide) hR.2⟩ (ci := 0) rfl (j := 1) rfl hl.1 rfl (Nat.le_of_ble_eq_true rfl) qd_X_inherit_27 (fun H locs w => ?_)
    refine lv_istore (lv' := [(4, .int q6), (3, .int q4), (0, .ref (ad 0)), (1, .int a1), (2, .int a2)]) F.1 F.2.1 qd_X_inherit_30 hl (by decide) rfl (fun ls hl => ?_)
    refine lv_iload F.1 F.2.1 qd_X_inherit_32 (lv_at hl 0 rfl) ?_
    refine lv_iconst (v := (-1)) F.1 F.2.1 qd_X_inherit_34 (by decide) ?_
    refine lv_icmp_ne (tgt := 41) F.1 F.2.1 qd_X_inherit_35 (by decide) (fun hc8 => ?_) (fun hc8 => ?_)
    · rw [if_neg hc8] at hM
      refine lv_aload_n F.1 F.2.1 qd_X_inherit_41 rfl (lv_at hl 2 rfl) ?_
      refine xg_X_classes F hK w qk_167 qd_X_inherit_42 ?_
      refine lv_iload_n F.1 F.2.1 qd_X_inherit_45 rfl (lv_at hl 3 rfl) ?_
      refine lv_iload F.1 F.2.1 qd_X_inherit_46 (lv_at hl 0 rfl) ?_
      obtain ⟨q9, hq10, hM⟩ := qbd hM
      refine x_calli F hK hN hA w (c_K_superType l D ad cI hq10) qk_291 qk_288 qk_289 qk_2 qk_290 qv_K_superType rfl rfl ⟨Nat.le_trans (by decide) hR.1, Nat.le_trans (by decide) hR.2⟩ (ci := 0) rfl (j := 1) rfl hl.1 rfl (Nat.le_of_ble_eq_true rfl) qd_X_inherit_48 (fun H locs w => ?_)
      refine lv_istore (lv' := [(5, .int q9), (4, .int q6), (3, .int q4), (0, .ref (ad 0)), (1, .int a1), (2, .int a2)]) F.1 F.2.1 qd_X_inherit_51 hl (by decide) rfl (fun ls hl => ?_)
      refine lv_aload_n F.1 F.2.1 qd_X_inherit_53 rfl (lv_at hl 3 rfl) ?_
      refine xg_X_classes F hK w qk_167 qd_X_inherit_54 ?_
      refine lv_iload_n F.1 F.2.1 qd_X_inherit_57 rfl (lv_at hl 4 rfl) ?_
      refine lv_iload F.1 F.2.1 qd_X_inherit_58 (lv_at hl 1 rfl) ?_
      obtain ⟨q11, hq12, hM⟩ := qbd hM
      refine x_calli F hK hN hA w (c_K_superClass l D ad cI hq12) qk_292 qk_206 qk_207 qk_2 qk_208 qv_K_superClass rfl rfl ⟨Nat.le_trans (by decide) hR.1, Nat.le_trans (by decide) hR.2⟩ (ci := 0) rfl (j := 1) rfl hl.1 rfl (Nat.le_of_ble_eq_true rfl) qd_X_inherit_60 (fun H locs w => ?_)
      refine lv_istore (lv' := [(6, .int q11), (5, .int q9), (4, .int q6), (3, .int q4), (0, .ref (ad 0)), (1, .int a1), (2, .int a2)]) F.1 F.2.1 qd_X_inherit_63 hl (by decide) rfl (fun ls hl => ?_)
      refine lv_aload_n F.1 F.2.1 qd_X_inherit_65 rfl (lv_at hl 4 rfl) ?_
      refine xg_X_classes F hK w qk_167 qd_X_inherit_66 ?_
      refine lv_iload_n F.1 F.2.1 qd_X_inherit_69 rfl (lv_at hl 5 rfl) ?_
      refine lv_iload F.1 F.2.1 qd_X_inherit_70 (lv_at hl 2 rfl) ?_
      refine lv_iload_n F.1 F.2.1 qd_X_inherit_72 rfl (lv_at hl 6 rfl) ?_
      refine lv_iload_n F.1 F.2.1 qd_X_inherit_73 rfl (lv_at hl 3 rfl) ?_
      obtain ⟨q13, hq14, hM⟩ := qbd hM
      refine x_callv F hK hN hA w (c_K_setSuper l D ad cI hq14) qk_293 qk_294 qk_295 qk_2 qk_296 qv_K_setSuper rfl rfl ⟨Nat.le_trans (by decide) hR.1, Nat.le_trans (by decide) hR.2⟩ (ci := 0) rfl (j := 1) rfl hl.1 rfl (Nat.le_of_ble_eq_true rfl) qd_X_inherit_74 (fun H locs w => ?_)
      refine lv_aload_n F.1 F.2.1 qd_X_inherit_77 rfl (lv_at hl 4 rfl) ?_
      refine xg_X_shapes F hK w qk_169 qd_X_inherit_78 ?_
      obtain ⟨q15, hq16, hM⟩ := qbd hM
      refine x_calli F hK hN hA w (c_S_clashes l D ad cI hq16) qk_297 qk_298 qk_299 qk_5 qk_300 qv_S_clashes rfl rfl ⟨Nat.le_trans (by decide) hR.1, Nat.le_trans (by decide) hR.2⟩ (ci := 2) rfl (j := 3) rfl hl.1 rfl (Nat.le_of_ble_eq_true rfl) qd_X_inherit_81 (fun H locs w => ?_)
      refine lv_if_eq (tgt := 104) F.1 F.2.1 qd_X_inherit_84 (by decide) (fun hc17 => ?_) (fun hc17 => ?_)
      · rw [if_pos hc17] at hM
        refine lv_aload_n F.1 F.2.1 qd_X_inherit_104 rfl (lv_at hl 4 rfl) ?_
        refine xg_X_classes F hK w qk_167 qd_X_inherit_105 ?_
        refine lv_iload_n F.1 F.2.1 qd_X_inherit_108 rfl (lv_at hl 5 rfl) ?_
        obtain ⟨q18, hq19, hM⟩ := qbd hM
        refine x_calli F hK hN hA w (c_K_putInCount l D ad cI hq19) qk_357 qk_358 qk_359 qk_2 qk_360 qv_K_putInCount rfl rfl ⟨Nat.le_trans (by decide) hR.1, Nat.le_trans (by decide) hR.2⟩ (ci := 0) rfl (j := 1) rfl hl.1 rfl (Nat.le_of_ble_eq_true rfl) qd_X_inherit_109 (fun H locs w => ?_)
        cases hM
        exact hQ _ _ _ _ qd_X_inherit_112 w
      · rw [if_neg hc17] at hM
        refine lv_aload_n F.1 F.2.1 qd_X_inherit_87 rfl (lv_at hl 4 rfl) ?_
        refine xg_X_classes F hK w qk_167 qd_X_inherit_88 ?_
        refine lv_iload_n F.1 F.2.1 qd_X_inherit_91 rfl (lv_at hl 5 rfl) ?_
        refine lv_iload F.1 F.2.1 qd_X_inherit_92 (lv_at hl 2 rfl) ?_
        refine lv_iload F.1 F.2.1 qd_X_inherit_94 (lv_at hl 1 rfl) ?_
        refine lv_iload F.1 F.2.1 qd_X_inherit_96 (lv_at hl 0 rfl) ?_
        obtain ⟨q20, hq21, hM⟩ := qbd hM
        refine x_callv F hK hN hA w (c_K_setSuper l D ad cI hq21) qk_293 qk_294 qk_295 qk_2 qk_296 qv_K_setSuper rfl rfl ⟨Nat.le_trans (by decide) hR.1, Nat.le_trans (by decide) hR.2⟩ (ci := 0) rfl (j := 1) rfl hl.1 rfl (Nat.le_of_ble_eq_true rfl) qd_X_inherit_98 (fun H locs w => ?_)
        refine lv_bipush (v := (-5)) F.1 F.2.1 qd_X_inherit_101 (by decide) ?_
        cases hM
        exact hQ _ _ _ _ qd_X_inherit_103 w
    · rw [if_pos hc8] at hM
      refine lv_bipush (v := (-3)) F.1 F.2.1 qd_X_inherit_38 (by decide) ?_
      cases hM
      exact hQ _ _ _ _ qd_X_inherit_40 w
  · rw [if_pos hc3] at hM
    refine lv_bipush (v := (-2)) F.1 F.2.1 qd_X_inherit_9 (by decide) ?_
    cases hM
    exact hQ _ _ _ _ qd_X_inherit_11 w
set_option maxRecDepth 100000 in
theorem c_X_inherit (l : Launch) (D : va_G) (ad : Nat → Nat) (cI : ClassId) {S : (Nat → Nat → Int32)} {a1 a2 : Int32} {res : (Int32 × (Nat → Nat → Int32))} (hM : f_X_inherit S a1 a2 = some res) : xMi l qy_X_inherit qb_X_inherit 7 (some .int) { frames := 70, cells := 0, slots := 0, locals := 1899 } D ad cI S [.ref (ad 0), .int a1, .int a2] res.1 res.2 := x_ofi (by decide +kernel) (Nat.le_of_ble_eq_true rfl) (fun p e s m args below meth c Q A ls F hK hN hA w hl hQ => t_X_inherit F ⟨Nat.le_refl _, Nat.le_refl _⟩ hK hN hA hQ S a1 a2 hM w hl)
-- K_hasParameter
def f_K_hasParameter (S : (Nat → Nat → Int32)) (a1 a2 : Int32) : Option Bool := if a1 < 0 then (some false) else (if (S 0 0) ≤ a1 then (some false) else (if a2 < 0 then (some false) else (qck (qin a1 12) (if (S 2 a1.toNatClampNeg) ≤ a2 then (some false) else (some true)))))
set_option maxRecDepth 100000 in
set_option maxHeartbeats 4000000 in
theorem t_K_hasParameter {p : Program} {l : Launch} {e : Env} {R : Room} {s : State} {m : MethodId} {args : Array Value} {below : List Frame} {meth : Method} {c : Code} {Q : State → Prop} {D : va_G} {ad : Nat → Nat} {cI : ClassId} {A : Nat → Prop} (F : CallFix p m c qb_K_hasParameter 3 s args qtb "CaptureSubtypes$Classes") (hR : 0 ≤ R.frames ∧ 0 ≤ R.locals) (hK : va_K D qcl [(cI, .int)] s) (hN : qnests xns s) (hA : ∀ q, s.heap.size ≤ q → A q) {res : Bool} {S : (Nat → Nat → Int32)} (hQ : ∀ (H : Heap) (locs : List Loc) (pc : Nat) (ls : Array Slot), decode qb_K_hasParameter pc = .ok (.ireturn, 1) → xW D ad cI A s.heap S H locs → W p l e R s m args below meth c H locs 0 0 Q (F0 m pc ls [.int (qB res)])) (a1 a2 : Int32) (hM : f_K_hasParameter S a1 a2 = some res) {H : Heap} {locs : List Loc} {ls : Array Slot} (w : xW D ad cI A s.heap S H locs) (hl : lv_has ls 3 [(0, .ref (ad 1)), (1, .int a1), (2, .int a2)]) : W p l e R s m args below meth c H locs 0 0 Q (F0 m 0 ls []) := by
  unfold f_K_hasParameter at hM
  refine lv_iload_n F.1 F.2.1 qd_K_hasParameter_0 rfl (lv_at hl 1 rfl) ?_
  refine lv_if_lt (tgt := 30) F.1 F.2.1 qd_K_hasParameter_1 (by decide) (fun hc1 => ?_) (fun hc1 => ?_)
  · rw [if_pos hc1] at hM
    refine lv_iconst (v := 0) F.1 F.2.1 qd_K_hasParameter_30 (by decide) ?_
    cases hM
    exact hQ _ _ _ _ qd_K_hasParameter_31 w
  · rw [if_neg hc1] at hM
    refine lv_iload_n F.1 F.2.1 qd_K_hasParameter_4 rfl (lv_at hl 1 rfl) ?_
    refine lv_aload_n F.1 F.2.1 qd_K_hasParameter_5 rfl (lv_at hl 0 rfl) ?_
    refine xg_K_count F hK w qk_31 qd_K_hasParameter_6 ?_
    refine lv_icmp_ge (tgt := 30) F.1 F.2.1 qd_K_hasParameter_9 (by decide) (fun hc2 => ?_) (fun hc2 => ?_)
    · rw [if_pos hc2] at hM
      refine lv_iconst (v := 0) F.1 F.2.1 qd_K_hasParameter_30 (by decide) ?_
      cases hM
      exact hQ _ _ _ _ qd_K_hasParameter_31 w
    · rw [if_neg hc2] at hM
      refine lv_iload_n F.1 F.2.1 qd_K_hasParameter_12 rfl (lv_at hl 2 rfl) ?_
      refine lv_if_lt (tgt := 30) F.1 F.2.1 qd_K_hasParameter_13 (by decide) (fun hc3 => ?_) (fun hc3 => ?_)
      · rw [if_pos hc3] at hM
        refine lv_iconst (v := 0) F.1 F.2.1 qd_K_hasParameter_30 (by decide) ?_
        cases hM
        exact hQ _ _ _ _ qd_K_hasParameter_31 w
      · rw [if_neg hc3] at hM
        refine lv_iload_n F.1 F.2.1 qd_K_hasParameter_16 rfl (lv_at hl 2 rfl) ?_
        refine lv_aload_n F.1 F.2.1 qd_K_hasParameter_17 rfl (lv_at hl 0 rfl) ?_
        refine xg_K_parameterCounts F hK w qk_36 qd_K_hasParameter_18 ?_
        refine lv_iload_n F.1 F.2.1 qd_K_hasParameter_21 rfl (lv_at hl 1 rfl) ?_
        obtain ⟨hi4, hM⟩ := qck_ok hM
        refine xl_K_parameterCounts F hK w hi4 qd_K_hasParameter_22 ?_
        refine lv_icmp_ge (tgt := 30) F.1 F.2.1 qd_K_hasParameter_23 (by decide) (fun hc5 => ?_) (fun hc5 => ?_)
        · rw [if_pos hc5] at hM
          refine lv_iconst (v := 0) F.1 F.2.1 qd_K_hasParameter_30 (by decide) ?_
          cases hM
          exact hQ _ _ _ _ qd_K_hasParameter_31 w
        · rw [if_neg hc5] at hM
          refine lv_iconst (v := 1) F.1 F.2.1 qd_K_hasParameter_26 (by decide) ?_
          refine lv_goto (tgt := 31) F.1 F.2.1 qd_K_hasParameter_27 (by decide) ?_
          cases hM
          exact hQ _ _ _ _ qd_K_hasParameter_31 w
set_option maxRecDepth 100000 in
theorem c_K_hasParameter (l : Launch) (D : va_G) (ad : Nat → Nat) (cI : ClassId) {S : (Nat → Nat → Int32)} {a1 a2 : Int32} {res : Bool} (hM : f_K_hasParameter S a1 a2 = some res) : xMi l qy_K_hasParameter qb_K_hasParameter 3 (some .boolean) { frames := 0, cells := 0, slots := 0, locals := 0 } D ad cI S [.ref (ad 1), .int a1, .int a2] (qB res) S := x_ofz (by decide +kernel) (Nat.le_of_ble_eq_true rfl) (fun p e s m args below meth c Q A ls F hK hN hA w hl hQ => t_K_hasParameter F ⟨Nat.le_refl _, Nat.le_refl _⟩ hK hN hA hQ a1 a2 hM w hl)
-- K_boundCount
def f_K_boundCount_31 (S : (Nat → Nat → Int32)) (v1 v2 s1 : Int32) : Option Int32 := if s1 = 0 then (some (0 : Int32)) else (qck (qin ((v1 * (2 : Int32)) + v2) 24) (some (S 6 ((v1 * (2 : Int32)) + v2).toNatClampNeg)))
def f_K_boundCount_30 (S : (Nat → Nat → Int32)) (v1 v2 : Int32) : Option Int32 := f_K_boundCount_31  S v1 v2 (0 : Int32)
def f_K_boundCount (S : (Nat → Nat → Int32)) (a1 a2 : Int32) : Option Int32 := if a1 < 0 then (f_K_boundCount_30  S a1 a2) else (if (S 0 0) ≤ a1 then (f_K_boundCount_30  S a1 a2) else (if a2 < 0 then (f_K_boundCount_30  S a1 a2) else (qck (qin a1 12) (if (S 2 a1.toNatClampNeg) ≤ a2 then (f_K_boundCount_30  S a1 a2) else (f_K_boundCount_31  S a1 a2 (1 : Int32))))))
set_option maxRecDepth 100000 in
set_option maxHeartbeats 4000000 in
theorem t_K_boundCount_31 {p : Program} {l : Launch} {e : Env} {R : Room} {s : State} {m : MethodId} {args : Array Value} {below : List Frame} {meth : Method} {c : Code} {Q : State → Prop} {D : va_G} {ad : Nat → Nat} {cI : ClassId} {A : Nat → Prop} (F : CallFix p m c qb_K_boundCount 4 s args qtb "CaptureSubtypes$Classes") (hR : 0 ≤ R.frames ∧ 0 ≤ R.locals) (hK : va_K D qcl [(cI, .int)] s) (hN : qnests xns s) (hA : ∀ q, s.heap.size ≤ q → A q) {res : Int32} {S : (Nat → Nat → Int32)} (hQ : ∀ (H : Heap) (locs : List Loc) (pc : Nat) (ls : Array Slot), decode qb_K_boundCount pc = .ok (.ireturn, 1) → xW D ad cI A s.heap S H locs → W p l e R s m args below meth c H locs 0 0 Q (F0 m pc ls [.int res])) (v1 v2 s1 : Int32) (hM : f_K_boundCount_31 S v1 v2 s1 = some res) {H : Heap} {locs : List Loc} {ls : Array Slot} (w : xW D ad cI A s.heap S H locs) (hl : lv_has ls 4 [(0, .ref (ad 1)), (1, .int v1), (2, .int v2)]) : W p l e R s m args below meth c H locs 0 0 Q (F0 m 31 ls [.int s1]) := by
  unfold f_K_boundCount_31 at hM
  refine lv_istore_n (lv' := [(3, .int s1), (0, .ref (ad 1)), (1, .int v1), (2, .int v2)]) F.1 F.2.1 qd_K_boundCount_31 rfl hl (by decide) rfl (fun ls hl => ?_)
  refine lv_iload_n F.1 F.2.1 qd_K_boundCount_32 rfl (lv_at hl 0 rfl) ?_
  refine lv_if_eq (tgt := 49) F.1 F.2.1 qd_K_boundCount_33 (by decide) (fun hc1 => ?_) (fun hc1 => ?_)
  · rw [if_pos hc1] at hM
    refine lv_iconst (v := 0) F.1 F.2.1 qd_K_boundCount_49 (by decide) ?_
    cases hM
    exact hQ _ _ _ _ qd_K_boundCount_50 w
  · rw [if_neg hc1] at hM
    refine lv_aload_n F.1 F.2.1 qd_K_boundCount_36 rfl (lv_at hl 1 rfl) ?_
    refine xg_K_boundCounts F hK w qk_40 qd_K_boundCount_37 ?_
    refine lv_iload_n F.1 F.2.1 qd_K_boundCount_40 rfl (lv_at hl 2 rfl) ?_
    refine lv_iconst (v := 2) F.1 F.2.1 qd_K_boundCount_41 (by decide) ?_
    refine lv_imul F.1 F.2.1 qd_K_boundCount_42 ?_
    refine lv_iload_n F.1 F.2.1 qd_K_boundCount_43 rfl (lv_at hl 3 rfl) ?_
    refine lv_iadd F.1 F.2.1 qd_K_boundCount_44 ?_
    obtain ⟨hi2, hM⟩ := qck_ok hM
    refine xl_K_boundCounts F hK w hi2 qd_K_boundCount_45 ?_
    refine lv_goto (tgt := 50) F.1 F.2.1 qd_K_boundCount_46 (by decide) ?_
    cases hM
    exact hQ _ _ _ _ qd_K_boundCount_50 w
set_option maxRecDepth 100000 in
set_option maxHeartbeats 4000000 in
theorem t_K_boundCount_30 {p : Program} {l : Launch} {e : Env} {R : Room} {s : State} {m : MethodId} {args : Array Value} {below : List Frame} {meth : Method} {c : Code} {Q : State → Prop} {D : va_G} {ad : Nat → Nat} {cI : ClassId} {A : Nat → Prop} (F : CallFix p m c qb_K_boundCount 4 s args qtb "CaptureSubtypes$Classes") (hR : 0 ≤ R.frames ∧ 0 ≤ R.locals) (hK : va_K D qcl [(cI, .int)] s) (hN : qnests xns s) (hA : ∀ q, s.heap.size ≤ q → A q) {res : Int32} {S : (Nat → Nat → Int32)} (hQ : ∀ (H : Heap) (locs : List Loc) (pc : Nat) (ls : Array Slot), decode qb_K_boundCount pc = .ok (.ireturn, 1) → xW D ad cI A s.heap S H locs → W p l e R s m args below meth c H locs 0 0 Q (F0 m pc ls [.int res])) (v1 v2 : Int32) (hM : f_K_boundCount_30 S v1 v2 = some res) {H : Heap} {locs : List Loc} {ls : Array Slot} (w : xW D ad cI A s.heap S H locs) (hl : lv_has ls 4 [(0, .ref (ad 1)), (1, .int v1), (2, .int v2)]) : W p l e R s m args below meth c H locs 0 0 Q (F0 m 30 ls []) := by
  unfold f_K_boundCount_30 at hM
  refine lv_iconst (v := 0) F.1 F.2.1 qd_K_boundCount_30 (by decide) ?_
  exact t_K_boundCount_31 F hR hK hN hA hQ  _ _ _ hM w (lv_sub hl [0, 1, 2] rfl)
set_option maxRecDepth 100000 in
set_option maxHeartbeats 4000000 in
theorem t_K_boundCount {p : Program} {l : Launch} {e : Env} {R : Room} {s : State} {m : MethodId} {args : Array Value} {below : List Frame} {meth : Method} {c : Code} {Q : State → Prop} {D : va_G} {ad : Nat → Nat} {cI : ClassId} {A : Nat → Prop} (F : CallFix p m c qb_K_boundCount 4 s args qtb "CaptureSubtypes$Classes") (hR : 0 ≤ R.frames ∧ 0 ≤ R.locals) (hK : va_K D qcl [(cI, .int)] s) (hN : qnests xns s) (hA : ∀ q, s.heap.size ≤ q → A q) {res : Int32} {S : (Nat → Nat → Int32)} (hQ : ∀ (H : Heap) (locs : List Loc) (pc : Nat) (ls : Array Slot), decode qb_K_boundCount pc = .ok (.ireturn, 1) → xW D ad cI A s.heap S H locs → W p l e R s m args below meth c H locs 0 0 Q (F0 m pc ls [.int res])) (a1 a2 : Int32) (hM : f_K_boundCount S a1 a2 = some res) {H : Heap} {locs : List Loc} {ls : Array Slot} (w : xW D ad cI A s.heap S H locs) (hl : lv_has ls 4 [(0, .ref (ad 1)), (1, .int a1), (2, .int a2)]) : W p l e R s m args below meth c H locs 0 0 Q (F0 m 0 ls []) := by
  unfold f_K_boundCount at hM
  refine lv_iload_n F.1 F.2.1 qd_K_boundCount_0 rfl (lv_at hl 1 rfl) ?_
  refine lv_if_lt (tgt := 30) F.1 F.2.1 qd_K_boundCount_1 (by decide) (fun hc1 => ?_) (fun hc1 => ?_)
  · rw [if_pos hc1] at hM
    exact t_K_boundCount_30 F hR hK hN hA hQ  _ _ hM w (lv_sub hl [0, 1, 2] rfl)
  · rw [if_neg hc1] at hM
    refine lv_iload_n F.1 F.2.1 qd_K_boundCount_4 rfl (lv_at hl 1 rfl) ?_
    refine lv_aload_n F.1 F.2.1 qd_K_boundCount_5 rfl (lv_at hl 0 rfl) ?_
    refine xg_K_count F hK w qk_31 qd_K_boundCount_6 ?_
    refine lv_icmp_ge (tgt := 30) F.1 F.2.1 qd_K_boundCount_9 (by decide) (fun hc2 => ?_) (fun hc2 => ?_)
    · rw [if_pos hc2] at hM
      exact t_K_boundCount_30 F hR hK hN hA hQ  _ _ hM w (lv_sub hl [0, 1, 2] rfl)
    · rw [if_neg hc2] at hM
      refine lv_iload_n F.1 F.2.1 qd_K_boundCount_12 rfl (lv_at hl 2 rfl) ?_
      refine lv_if_lt (tgt := 30) F.1 F.2.1 qd_K_boundCount_13 (by decide) (fun hc3 => ?_) (fun hc3 => ?_)
      · rw [if_pos hc3] at hM
        exact t_K_boundCount_30 F hR hK hN hA hQ  _ _ hM w (lv_sub hl [0, 1, 2] rfl)
      · rw [if_neg hc3] at hM
        refine lv_iload_n F.1 F.2.1 qd_K_boundCount_16 rfl (lv_at hl 2 rfl) ?_
        refine lv_aload_n F.1 F.2.1 qd_K_boundCount_17 rfl (lv_at hl 0 rfl) ?_
        refine xg_K_parameterCounts F hK w qk_36 qd_K_boundCount_18 ?_
        refine lv_iload_n F.1 F.2.1 qd_K_boundCount_21 rfl (lv_at hl 1 rfl) ?_
        obtain ⟨hi4, hM⟩ := qck_ok hM
        refine xl_K_parameterCounts F hK w hi4 qd_K_boundCount_22 ?_
        refine lv_icmp_ge (tgt := 30) F.1 F.2.1 qd_K_boundCount_23 (by decide) (fun hc5 => ?_) (fun hc5 => ?_)
        · rw [if_pos hc5] at hM
          exact t_K_boundCount_30 F hR hK hN hA hQ  _ _ hM w (lv_sub hl [0, 1, 2] rfl)
        · rw [if_neg hc5] at hM
          refine lv_iconst (v := 1) F.1 F.2.1 qd_K_boundCount_26 (by decide) ?_
          refine lv_goto (tgt := 31) F.1 F.2.1 qd_K_boundCount_27 (by decide) ?_
          exact t_K_boundCount_31 F hR hK hN hA hQ  _ _ _ hM w (lv_sub hl [0, 1, 2] rfl)
set_option maxRecDepth 100000 in
theorem c_K_boundCount (l : Launch) (D : va_G) (ad : Nat → Nat) (cI : ClassId) {S : (Nat → Nat → Int32)} {a1 a2 : Int32} {res : Int32} (hM : f_K_boundCount S a1 a2 = some res) : xMi l qy_K_boundCount qb_K_boundCount 4 (some .int) { frames := 0, cells := 0, slots := 0, locals := 0 } D ad cI S [.ref (ad 1), .int a1, .int a2] res S := x_ofi (by decide +kernel) (Nat.le_of_ble_eq_true rfl) (fun p e s m args below meth c Q A ls F hK hN hA w hl hQ => t_K_boundCount F ⟨Nat.le_refl _, Nat.le_refl _⟩ hK hN hA hQ a1 a2 hM w hl)
-- X_mayBeBound
def f_X_mayBeBound_46 (S : (Nat → Nat → Int32)) (v2 v3 s1 : Int32) : Option Bool := (f_T_sortOf S v3).bind (fun q1 => if q1 = (3 : Int32) then (if s1 = 0 then (some false) else ((f_T_firstOf S v3).bind (fun q14 => if v2 ≤ q14 then (some false) else (some true)))) else ((f_T_isOfClass S v3).bind (fun q4 => if (qB q4) = 0 then (some false) else (if s1 = 0 then ((f_T_ownerOf S v3).bind (fun q8 => (f_K_isFace S q8).bind (fun q10 => if (qB q10) = 0 then (some false) else (some true)))) else (some true)))))
def f_X_mayBeBound (S : (Nat → Nat → Int32)) (a1 a2 a3 : Int32) : Option Bool := (f_T_has S a3).bind (fun q1 => if (qB q1) = 0 then (some false) else (if a3 = 0 then (some false) else ((f_T_isInWordsOf S a3 a1).bind (fun q5 => if (qB q5) = 0 then (some false) else ((f_K_boundCount S a1 a2).bind (fun q8 => if q8 = 0 then (f_X_mayBeBound_46  S a2 a3 (1 : Int32)) else (f_X_mayBeBound_46  S a2 a3 (0 : Int32))))))))
set_option maxRecDepth 100000 in
set_option maxHeartbeats 4000000 in
theorem t_X_mayBeBound_46 {p : Program} {l : Launch} {e : Env} {R : Room} {s : State} {m : MethodId} {args : Array Value} {below : List Frame} {meth : Method} {c : Code} {Q : State → Prop} {D : va_G} {ad : Nat → Nat} {cI : ClassId} {A : Nat → Prop} (F : CallFix p m c qb_X_mayBeBound 5 s args qtb "CaptureSubtypes") (hR : 2 ≤ R.frames ∧ 43 ≤ R.locals) (hK : va_K D qcl [(cI, .int)] s) (hN : qnests xns s) (hA : ∀ q, s.heap.size ≤ q → A q) {res : Bool} {S : (Nat → Nat → Int32)} (hQ : ∀ (H : Heap) (locs : List Loc) (pc : Nat) (ls : Array Slot), decode qb_X_mayBeBound pc = .ok (.ireturn, 1) → xW D ad cI A s.heap S H locs → W p l e R s m args below meth c H locs 0 0 Q (F0 m pc ls [.int (qB res)])) (v2 v3 s1 : Int32) (hM : f_X_mayBeBound_46 S v2 v3 s1 = some res) {H : Heap} {locs : List Loc} {ls : Array Slot} (w : xW D ad cI A s.heap S H locs) (hl : lv_has ls 5 [(0, .ref (ad 0)), (2, .int v2), (3, .int v3)]) : W p l e R s m args below meth c H locs 0 0 Q (F0 m 46 ls [.int s1]) := by
  unfold f_X_mayBeBound_46 at hM
  refine lv_istore (lv' := [(4, .int s1), (0, .ref (ad 0)), (2, .int v2), (3, .int v3)]) F.1 F.2.1 qd_X_mayBeBound_46 hl (by decide) rfl (fun ls hl => ?_)
  refine lv_aload_n F.1 F.2.1 qd_X_mayBeBound_48 rfl (lv_at hl 1 rfl) ?_
  refine xg_X_types F hK w qk_168 qd_X_mayBeBound_49 ?_
  refine lv_iload_n F.1 F.2.1 qd_X_mayBeBound_52 rfl (lv_at hl 3 rfl) ?_
  obtain ⟨q1, hq2, hM⟩ := qbd hM
  refine x_calli F hK hN hA w (c_T_sortOf l D ad cI hq2) qk_377 qk_270 qk_271 qk_3 qk_272 qv_T_sortOf rfl rfl ⟨Nat.le_trans (by decide) hR.1, Nat.le_trans (by decide) hR.2⟩ (ci := 1) rfl (j := 2) rfl hl.1 rfl (Nat.le_of_ble_eq_true rfl) qd_X_mayBeBound_53 (fun H locs w => ?_)
  refine lv_iconst (v := 3) F.1 F.2.1 qd_X_mayBeBound_56 (by decide) ?_
  refine lv_icmp_ne (tgt := 83) F.1 F.2.1 qd_X_mayBeBound_57 (by decide) (fun hc3 => ?_) (fun hc3 => ?_)
  · rw [if_neg hc3] at hM
    refine lv_aload_n F.1 F.2.1 qd_X_mayBeBound_83 rfl (lv_at hl 1 rfl) ?_
    refine xg_X_types F hK w qk_168 qd_X_mayBeBound_84 ?_
    refine lv_iload_n F.1 F.2.1 qd_X_mayBeBound_87 rfl (lv_at hl 3 rfl) ?_
    obtain ⟨q4, hq5, hM⟩ := qbd hM
    refine x_calli F hK hN hA w (c_T_isOfClass l D ad cI hq5) qk_265 qk_266 qk_267 qk_3 qk_268 qv_T_isOfClass rfl rfl ⟨Nat.le_trans (by decide) hR.1, Nat.le_trans (by decide) hR.2⟩ (ci := 1) rfl (j := 2) rfl hl.1 rfl (Nat.le_of_ble_eq_true rfl) qd_X_mayBeBound_88 (fun H locs w => ?_)
    refine lv_if_eq (tgt := 121) F.1 F.2.1 qd_X_mayBeBound_91 (by decide) (fun hc6 => ?_) (fun hc6 => ?_)
    · rw [if_pos hc6] at hM
      refine lv_iconst (v := 0) F.1 F.2.1 qd_X_mayBeBound_121 (by decide) ?_
      cases hM
      exact hQ _ _ _ _ qd_X_mayBeBound_122 w
    · rw [if_neg hc6] at hM
      refine lv_iload F.1 F.2.1 qd_X_mayBeBound_94 (lv_at hl 0 rfl) ?_
      refine lv_if_ne (tgt := 117) F.1 F.2.1 qd_X_mayBeBound_96 (by decide) (fun hc7 => ?_) (fun hc7 => ?_)
      · rw [if_neg hc7] at hM
        refine lv_iconst (v := 1) F.1 F.2.1 qd_X_mayBeBound_117 (by decide) ?_
        refine lv_goto (tgt := 122) F.1 F.2.1 qd_X_mayBeBound_118 (by decide) ?_
        cases hM
        exact hQ _ _ _ _ qd_X_mayBeBound_122 w
      · rw [if_pos hc7] at hM
        refine lv_aload_n F.1 F.2.1 qd_X_mayBeBound_99 rfl (lv_at hl 1 rfl) ?_
        refine xg_X_classes F hK w qk_167 qd_X_mayBeBound_100 ?_
        refine lv_aload_n F.1 F.2.1 qd_X_mayBeBound_103 rfl (lv_at hl 1 rfl) ?_
        refine xg_X_types F hK w qk_168 qd_X_mayBeBound_104 ?_
        refine lv_iload_n F.1 F.2.1 qd_X_mayBeBound_107 rfl (lv_at hl 3 rfl) ?_
        obtain ⟨q8, hq9, hM⟩ := qbd hM
        refine x_calli F hK hN hA w (c_T_ownerOf l D ad cI hq9) qk_273 qk_274 qk_275 qk_3 qk_276 qv_T_ownerOf rfl rfl ⟨Nat.le_trans (by decide) hR.1, Nat.le_trans (by decide) hR.2⟩ (ci := 1) rfl (j := 2) rfl hl.1 rfl (Nat.le_of_ble_eq_true rfl) qd_X_mayBeBound_108 (fun H locs w => ?_)
        obtain ⟨q10, hq11, hM⟩ := qbd hM
        refine x_calli F hK hN hA w (c_K_isFace l D ad cI hq11) qk_282 qk_222 qk_223 qk_2 qk_224 qv_K_isFace rfl rfl ⟨Nat.le_trans (by decide) hR.1, Nat.le_trans (by decide) hR.2⟩ (ci := 0) rfl (j := 1) rfl hl.1 rfl (Nat.le_of_ble_eq_true rfl) qd_X_mayBeBound_111 (fun H locs w => ?_)
        refine lv_if_eq (tgt := 121) F.1 F.2.1 qd_X_mayBeBound_114 (by decide) (fun hc12 => ?_) (fun hc12 => ?_)
        · rw [if_pos hc12] at hM
          refine lv_iconst (v := 0) F.1 F.2.1 qd_X_mayBeBound_121 (by decide) ?_
          cases hM
          exact hQ _ _ _ _ qd_X_mayBeBound_122 w
        · rw [if_neg hc12] at hM
          refine lv_iconst (v := 1) F.1 F.2.1 qd_X_mayBeBound_117 (by decide) ?_
          refine lv_goto (tgt := 122) F.1 F.2.1 qd_X_mayBeBound_118 (by decide) ?_
          cases hM
          exact hQ _ _ _ _ qd_X_mayBeBound_122 w
  · rw [if_pos hc3] at hM
    refine lv_iload F.1 F.2.1 qd_X_mayBeBound_60 (lv_at hl 0 rfl) ?_
    refine lv_if_eq (tgt := 81) F.1 F.2.1 qd_X_mayBeBound_62 (by decide) (fun hc13 => ?_) (fun hc13 => ?_)
    · rw [if_pos hc13] at hM
      refine lv_iconst (v := 0) F.1 F.2.1 qd_X_mayBeBound_81 (by decide) ?_
      cases hM
      exact hQ _ _ _ _ qd_X_mayBeBound_82 w
    · rw [if_neg hc13] at hM
      refine lv_aload_n F.1 F.2.1 qd_X_mayBeBound_65 rfl (lv_at hl 1 rfl) ?_
      refine xg_X_types F hK w qk_168 qd_X_mayBeBound_66 ?_
      refine lv_iload_n F.1 F.2.1 qd_X_mayBeBound_69 rfl (lv_at hl 3 rfl) ?_
      obtain ⟨q14, hq15, hM⟩ := qbd hM
      refine x_calli F hK hN hA w (c_T_firstOf l D ad cI hq15) qk_378 qk_342 qk_343 qk_3 qk_344 qv_T_firstOf rfl rfl ⟨Nat.le_trans (by decide) hR.1, Nat.le_trans (by decide) hR.2⟩ (ci := 1) rfl (j := 2) rfl hl.1 rfl (Nat.le_of_ble_eq_true rfl) qd_X_mayBeBound_70 (fun H locs w => ?_)
      refine lv_iload_n F.1 F.2.1 qd_X_mayBeBound_73 rfl (lv_at hl 2 rfl) ?_
      refine lv_icmp_ge (tgt := 81) F.1 F.2.1 qd_X_mayBeBound_74 (by decide) (fun hc16 => ?_) (fun hc16 => ?_)
      · rw [if_pos hc16] at hM
        refine lv_iconst (v := 0) F.1 F.2.1 qd_X_mayBeBound_81 (by decide) ?_
        cases hM
        exact hQ _ _ _ _ qd_X_mayBeBound_82 w
      · rw [if_neg hc16] at hM
        refine lv_iconst (v := 1) F.1 F.2.1 qd_X_mayBeBound_77 (by decide) ?_
        refine lv_goto (tgt := 82) F.1 F.2.1 qd_X_mayBeBound_78 (by decide) ?_
        cases hM
        exact hQ _ _ _ _ qd_X_mayBeBound_82 w
set_option maxRecDepth 100000 in
set_option maxHeartbeats 4000000 in
theorem t_X_mayBeBound {p : Program} {l : Launch} {e : Env} {R : Room} {s : State} {m : MethodId} {args : Array Value} {below : List Frame} {meth : Method} {c : Code} {Q : State → Prop} {D : va_G} {ad : Nat → Nat} {cI : ClassId} {A : Nat → Prop} (F : CallFix p m c qb_X_mayBeBound 5 s args qtb "CaptureSubtypes") (hR : 2 ≤ R.frames ∧ 43 ≤ R.locals) (hK : va_K D qcl [(cI, .int)] s) (hN : qnests xns s) (hA : ∀ q, s.heap.size ≤ q → A q) {res : Bool} {S : (Nat → Nat → Int32)} (hQ : ∀ (H : Heap) (locs : List Loc) (pc : Nat) (ls : Array Slot), decode qb_X_mayBeBound pc = .ok (.ireturn, 1) → xW D ad cI A s.heap S H locs → W p l e R s m args below meth c H locs 0 0 Q (F0 m pc ls [.int (qB res)])) (a1 a2 a3 : Int32) (hM : f_X_mayBeBound S a1 a2 a3 = some res) {H : Heap} {locs : List Loc} {ls : Array Slot} (w : xW D ad cI A s.heap S H locs) (hl : lv_has ls 5 [(0, .ref (ad 0)), (1, .int a1), (2, .int a2), (3, .int a3)]) : W p l e R s m args below meth c H locs 0 0 Q (F0 m 0 ls []) := by
  unfold f_X_mayBeBound at hM
  refine lv_aload_n F.1 F.2.1 qd_X_mayBeBound_0 rfl (lv_at hl 0 rfl) ?_
  refine xg_X_types F hK w qk_168 qd_X_mayBeBound_1 ?_
  refine lv_iload_n F.1 F.2.1 qd_X_mayBeBound_4 rfl (lv_at hl 3 rfl) ?_
  obtain ⟨q1, hq2, hM⟩ := qbd hM
  refine x_calli F hK hN hA w (c_T_has l D ad cI hq2) qk_261 qk_262 qk_263 qk_3 qk_264 qv_T_has rfl rfl ⟨Nat.le_trans (by decide) hR.1, Nat.le_trans (by decide) hR.2⟩ (ci := 1) rfl (j := 2) rfl hl.1 rfl (Nat.le_of_ble_eq_true rfl) qd_X_mayBeBound_5 (fun H locs w => ?_)
  refine lv_if_eq (tgt := 27) F.1 F.2.1 qd_X_mayBeBound_8 (by decide) (fun hc3 => ?_) (fun hc3 => ?_)
  · rw [if_pos hc3] at hM
    refine lv_iconst (v := 0) F.1 F.2.1 qd_X_mayBeBound_27 (by decide) ?_
    cases hM
    exact hQ _ _ _ _ qd_X_mayBeBound_28 w
  · rw [if_neg hc3] at hM
    refine lv_iload_n F.1 F.2.1 qd_X_mayBeBound_11 rfl (lv_at hl 3 rfl) ?_
    refine lv_if_eq (tgt := 27) F.1 F.2.1 qd_X_mayBeBound_12 (by decide) (fun hc4 => ?_) (fun hc4 => ?_)
    · rw [if_pos hc4] at hM
      refine lv_iconst (v := 0) F.1 F.2.1 qd_X_mayBeBound_27 (by decide) ?_
      cases hM
      exact hQ _ _ _ _ qd_X_mayBeBound_28 w
    · rw [if_neg hc4] at hM
      refine lv_aload_n F.1 F.2.1 qd_X_mayBeBound_15 rfl (lv_at hl 0 rfl) ?_
      refine xg_X_types F hK w qk_168 qd_X_mayBeBound_16 ?_
      refine lv_iload_n F.1 F.2.1 qd_X_mayBeBound_19 rfl (lv_at hl 3 rfl) ?_
      refine lv_iload_n F.1 F.2.1 qd_X_mayBeBound_20 rfl (lv_at hl 1 rfl) ?_
      obtain ⟨q5, hq6, hM⟩ := qbd hM
      refine x_calli F hK hN hA w (c_T_isInWordsOf l D ad cI hq6) qk_278 qk_279 qk_280 qk_3 qk_281 qv_T_isInWordsOf rfl rfl ⟨Nat.le_trans (by decide) hR.1, Nat.le_trans (by decide) hR.2⟩ (ci := 1) rfl (j := 2) rfl hl.1 rfl (Nat.le_of_ble_eq_true rfl) qd_X_mayBeBound_21 (fun H locs w => ?_)
      refine lv_if_ne (tgt := 29) F.1 F.2.1 qd_X_mayBeBound_24 (by decide) (fun hc7 => ?_) (fun hc7 => ?_)
      · rw [if_neg hc7] at hM
        refine lv_aload_n F.1 F.2.1 qd_X_mayBeBound_29 rfl (lv_at hl 0 rfl) ?_
        refine xg_X_classes F hK w qk_167 qd_X_mayBeBound_30 ?_
        refine lv_iload_n F.1 F.2.1 qd_X_mayBeBound_33 rfl (lv_at hl 1 rfl) ?_
        refine lv_iload_n F.1 F.2.1 qd_X_mayBeBound_34 rfl (lv_at hl 2 rfl) ?_
        obtain ⟨q8, hq9, hM⟩ := qbd hM
        refine x_calli F hK hN hA w (c_K_boundCount l D ad cI hq9) qk_373 qk_374 qk_375 qk_2 qk_376 qv_K_boundCount rfl rfl ⟨Nat.le_trans (by decide) hR.1, Nat.le_trans (by decide) hR.2⟩ (ci := 0) rfl (j := 1) rfl hl.1 rfl (Nat.le_of_ble_eq_true rfl) qd_X_mayBeBound_35 (fun H locs w => ?_)
        refine lv_if_ne (tgt := 45) F.1 F.2.1 qd_X_mayBeBound_38 (by decide) (fun hc10 => ?_) (fun hc10 => ?_)
        · rw [if_neg hc10] at hM
          refine lv_iconst (v := 0) F.1 F.2.1 qd_X_mayBeBound_45 (by decide) ?_
          exact t_X_mayBeBound_46 F hR hK hN hA hQ  _ _ _ hM w (lv_sub hl [0, 2, 3] rfl)
        · rw [if_pos hc10] at hM
          refine lv_iconst (v := 1) F.1 F.2.1 qd_X_mayBeBound_41 (by decide) ?_
          refine lv_goto (tgt := 46) F.1 F.2.1 qd_X_mayBeBound_42 (by decide) ?_
          exact t_X_mayBeBound_46 F hR hK hN hA hQ  _ _ _ hM w (lv_sub hl [0, 2, 3] rfl)
      · rw [if_pos hc7] at hM
        refine lv_iconst (v := 0) F.1 F.2.1 qd_X_mayBeBound_27 (by decide) ?_
        cases hM
        exact hQ _ _ _ _ qd_X_mayBeBound_28 w
set_option maxRecDepth 100000 in
theorem c_X_mayBeBound (l : Launch) (D : va_G) (ad : Nat → Nat) (cI : ClassId) {S : (Nat → Nat → Int32)} {a1 a2 a3 : Int32} {res : Bool} (hM : f_X_mayBeBound S a1 a2 a3 = some res) : xMi l qy_X_mayBeBound qb_X_mayBeBound 5 (some .boolean) { frames := 2, cells := 0, slots := 0, locals := 43 } D ad cI S [.ref (ad 0), .int a1, .int a2, .int a3] (qB res) S := x_ofz (by decide +kernel) (Nat.le_of_ble_eq_true rfl) (fun p e s m args below meth c Q A ls F hK hN hA w hl hQ => t_X_mayBeBound F ⟨Nat.le_refl _, Nat.le_refl _⟩ hK hN hA hQ a1 a2 a3 hM w hl)
-- K_addBound
def f_K_addBound (S : (Nat → Nat → Int32)) (a1 a2 a3 : Int32) : Option (Int32 × (Nat → Nat → Int32)) := (f_K_boundCount S a1 a2).bind (fun q1 => (f_K_hasParameter S a1 a2).bind (fun q3 => if (qB q3) = 0 then (some ((-3 : Int32), S)) else (if q1 < (2 : Int32) then (qck (qin ((((a1 * (2 : Int32)) + a2) * (2 : Int32)) + q1) 48) (qck (qin ((a1 * (2 : Int32)) + a2) 24) (some ((q1 + (1 : Int32)), (qwr (qwr S 5 ((((a1 * (2 : Int32)) + a2) * (2 : Int32)) + q1).toNatClampNeg a3) 6 ((a1 * (2 : Int32)) + a2).toNatClampNeg (q1 + (1 : Int32))))))) else (some ((-3 : Int32), S)))))
set_option maxRecDepth 100000 in
set_option maxHeartbeats 4000000 in
theorem t_K_addBound {p : Program} {l : Launch} {e : Env} {R : Room} {s : State} {m : MethodId} {args : Array Value} {below : List Frame} {meth : Method} {c : Code} {Q : State → Prop} {D : va_G} {ad : Nat → Nat} {cI : ClassId} {A : Nat → Prop} (F : CallFix p m c qb_K_addBound 5 s args qtb "CaptureSubtypes$Classes") (hR : 1 ≤ R.frames ∧ 23 ≤ R.locals) (hK : va_K D qcl [(cI, .int)] s) (hN : qnests xns s) (hA : ∀ q, s.heap.size ≤ q → A q) {res : (Int32 × (Nat → Nat → Int32))} (hQ : ∀ (H : Heap) (locs : List Loc) (pc : Nat) (ls : Array Slot), decode qb_K_addBound pc = .ok (.ireturn, 1) → xW D ad cI A s.heap res.2 H locs → W p l e R s m args below meth c H locs 0 0 Q (F0 m pc ls [.int res.1])) (S : (Nat → Nat → Int32)) (a1 a2 a3 : Int32) (hM : f_K_addBound S a1 a2 a3 = some res) {H : Heap} {locs : List Loc} {ls : Array Slot} (w : xW D ad cI A s.heap S H locs) (hl : lv_has ls 5 [(0, .ref (ad 1)), (1, .int a1), (2, .int a2), (3, .int a3)]) : W p l e R s m args below meth c H locs 0 0 Q (F0 m 0 ls []) := by
  unfold f_K_addBound at hM
  refine lv_aload_n F.1 F.2.1 qd_K_addBound_0 rfl (lv_at hl 0 rfl) ?_
  refine lv_iload_n F.1 F.2.1 qd_K_addBound_1 rfl (lv_at hl 1 rfl) ?_
  refine lv_iload_n F.1 F.2.1 qd_K_addBound_2 rfl (lv_at hl 2 rfl) ?_
  obtain ⟨q1, hq2, hM⟩ := qbd hM
  refine x_calli F hK hN hA w (c_K_boundCount l D ad cI hq2) qk_383 qk_374 qk_375 qk_2 qk_376 qv_K_boundCount rfl rfl ⟨Nat.le_trans (by decide) hR.1, Nat.le_trans (by decide) hR.2⟩ (ci := 0) rfl (j := 1) rfl hl.1 rfl (Nat.le_of_ble_eq_true rfl) qd_K_addBound_3 (fun H locs w => ?_)
  refine lv_istore (lv' := [(4, .int q1), (0, .ref (ad 1)), (1, .int a1), (2, .int a2), (3, .int a3)]) F.1 F.2.1 qd_K_addBound_6 hl (by decide) rfl (fun ls hl => ?_)
  refine lv_aload_n F.1 F.2.1 qd_K_addBound_8 rfl (lv_at hl 1 rfl) ?_
  refine lv_iload_n F.1 F.2.1 qd_K_addBound_9 rfl (lv_at hl 2 rfl) ?_
  refine lv_iload_n F.1 F.2.1 qd_K_addBound_10 rfl (lv_at hl 3 rfl) ?_
  obtain ⟨q3, hq4, hM⟩ := qbd hM
  refine x_calli F hK hN hA w (c_K_hasParameter l D ad cI hq4) qk_384 qk_366 qk_367 qk_2 qk_368 qv_K_hasParameter rfl rfl ⟨Nat.le_trans (by decide) hR.1, Nat.le_trans (by decide) hR.2⟩ (ci := 0) rfl (j := 1) rfl hl.1 rfl (Nat.le_of_ble_eq_true rfl) qd_K_addBound_11 (fun H locs w => ?_)
  refine lv_if_eq (tgt := 23) F.1 F.2.1 qd_K_addBound_14 (by decide) (fun hc5 => ?_) (fun hc5 => ?_)
  · rw [if_pos hc5] at hM
    refine lv_bipush (v := (-3)) F.1 F.2.1 qd_K_addBound_23 (by decide) ?_
    cases hM
    exact hQ _ _ _ _ qd_K_addBound_25 w
  · rw [if_neg hc5] at hM
    refine lv_iload F.1 F.2.1 qd_K_addBound_17 (lv_at hl 0 rfl) ?_
    refine lv_iconst (v := 2) F.1 F.2.1 qd_K_addBound_19 (by decide) ?_
    refine lv_icmp_lt (tgt := 26) F.1 F.2.1 qd_K_addBound_20 (by decide) (fun hc6 => ?_) (fun hc6 => ?_)
    · rw [if_pos hc6] at hM
      refine lv_aload_n F.1 F.2.1 qd_K_addBound_26 rfl (lv_at hl 1 rfl) ?_
      refine xg_K_bounds F hK w qk_39 qd_K_addBound_27 ?_
      refine lv_iload_n F.1 F.2.1 qd_K_addBound_30 rfl (lv_at hl 2 rfl) ?_
      refine lv_iconst (v := 2) F.1 F.2.1 qd_K_addBound_31 (by decide) ?_
      refine lv_imul F.1 F.2.1 qd_K_addBound_32 ?_
      refine lv_iload_n F.1 F.2.1 qd_K_addBound_33 rfl (lv_at hl 3 rfl) ?_
      refine lv_iadd F.1 F.2.1 qd_K_addBound_34 ?_
      refine lv_iconst (v := 2) F.1 F.2.1 qd_K_addBound_35 (by decide) ?_
      refine lv_imul F.1 F.2.1 qd_K_addBound_36 ?_
      refine lv_iload F.1 F.2.1 qd_K_addBound_37 (lv_at hl 0 rfl) ?_
      refine lv_iadd F.1 F.2.1 qd_K_addBound_39 ?_
      refine lv_iload_n F.1 F.2.1 qd_K_addBound_40 rfl (lv_at hl 4 rfl) ?_
      obtain ⟨hi7, hM⟩ := qck_ok hM
      refine xs_K_bounds F hK w hi7 qd_K_addBound_41 (fun H locs w => ?_)
      refine lv_aload_n F.1 F.2.1 qd_K_addBound_42 rfl (lv_at hl 1 rfl) ?_
      refine xg_K_boundCounts F hK w qk_40 qd_K_addBound_43 ?_
      refine lv_iload_n F.1 F.2.1 qd_K_addBound_46 rfl (lv_at hl 2 rfl) ?_
      refine lv_iconst (v := 2) F.1 F.2.1 qd_K_addBound_47 (by decide) ?_
      refine lv_imul F.1 F.2.1 qd_K_addBound_48 ?_
      refine lv_iload_n F.1 F.2.1 qd_K_addBound_49 rfl (lv_at hl 3 rfl) ?_
      refine lv_iadd F.1 F.2.1 qd_K_addBound_50 ?_
      refine lv_iload F.1 F.2.1 qd_K_addBound_51 (lv_at hl 0 rfl) ?_
      refine lv_iconst (v := 1) F.1 F.2.1 qd_K_addBound_53 (by decide) ?_
      refine lv_iadd F.1 F.2.1 qd_K_addBound_54 ?_
      obtain ⟨hi8, hM⟩ := qck_ok hM
      refine xs_K_boundCounts F hK w hi8 qd_K_addBound_55 (fun H locs w => ?_)
      refine lv_iload F.1 F.2.1 qd_K_addBound_56 (lv_at hl 0 rfl) ?_
      refine lv_iconst (v := 1) F.1 F.2.1 qd_K_addBound_58 (by decide) ?_
      refine lv_iadd F.1 F.2.1 qd_K_addBound_59 ?_
      cases hM
      exact hQ _ _ _ _ qd_K_addBound_60 w
    · rw [if_neg hc6] at hM
      refine lv_bipush (v := (-3)) F.1 F.2.1 qd_K_addBound_23 (by decide) ?_
      cases hM
      exact hQ _ _ _ _ qd_K_addBound_25 w
set_option maxRecDepth 100000 in
theorem c_K_addBound (l : Launch) (D : va_G) (ad : Nat → Nat) (cI : ClassId) {S : (Nat → Nat → Int32)} {a1 a2 a3 : Int32} {res : (Int32 × (Nat → Nat → Int32))} (hM : f_K_addBound S a1 a2 a3 = some res) : xMi l qy_K_addBound qb_K_addBound 5 (some .int) { frames := 1, cells := 0, slots := 0, locals := 23 } D ad cI S [.ref (ad 1), .int a1, .int a2, .int a3] res.1 res.2 := x_ofi (by decide +kernel) (Nat.le_of_ble_eq_true rfl) (fun p e s m args below meth c Q A ls F hK hN hA w hl hQ => t_K_addBound F ⟨Nat.le_refl _, Nat.le_refl _⟩ hK hN hA hQ S a1 a2 a3 hM w hl)
-- X_bind
def f_X_bind (S : (Nat → Nat → Int32)) (a1 a2 a3 : Int32) : Option (Int32 × (Nat → Nat → Int32)) := (f_K_hasParameter S a1 a2).bind (fun q1 => if (qB q1) = 0 then (some ((-2 : Int32), S)) else ((f_X_mayBeBound S a1 a2 a3).bind (fun q4 => if (qB q4) = 0 then (some ((-2 : Int32), S)) else ((f_K_addBound S a1 a2 a3).bind (fun q7 => some (q7.1, q7.2))))))
set_option maxRecDepth 100000 in
set_option maxHeartbeats 4000000 in
theorem t_X_bind {p : Program} {l : Launch} {e : Env} {R : Room} {s : State} {m : MethodId} {args : Array Value} {below : List Frame} {meth : Method} {c : Code} {Q : State → Prop} {D : va_G} {ad : Nat → Nat} {cI : ClassId} {A : Nat → Prop} (F : CallFix p m c qb_X_bind 4 s args qtb "CaptureSubtypes") (hR : 3 ≤ R.frames ∧ 67 ≤ R.locals) (hK : va_K D qcl [(cI, .int)] s) (hN : qnests xns s) (hA : ∀ q, s.heap.size ≤ q → A q) {res : (Int32 × (Nat → Nat → Int32))} (hQ : ∀ (H : Heap) (locs : List Loc) (pc : Nat) (ls : Array Slot), decode qb_X_bind pc = .ok (.ireturn, 1) → xW D ad cI A s.heap res.2 H locs → W p l e R s m args below meth c H locs 0 0 Q (F0 m pc ls [.int res.1])) (S : (Nat → Nat → Int32)) (a1 a2 a3 : Int32) (hM : f_X_bind S a1 a2 a3 = some res) {H : Heap} {locs : List Loc} {ls : Array Slot} (w : xW D ad cI A s.heap S H locs) (hl : lv_has ls 4 [(0, .ref (ad 0)), (1, .int a1), (2, .int a2), (3, .int a3)]) : W p l e R s m args below meth c H locs 0 0 Q (F0 m 0 ls []) := by
  unfold f_X_bind at hM
  refine lv_aload_n F.1 F.2.1 qd_X_bind_0 rfl (lv_at hl 0 rfl) ?_
  refine xg_X_classes F hK w qk_167 qd_X_bind_1 ?_
  refine lv_iload_n F.1 F.2.1 qd_X_bind_4 rfl (lv_at hl 1 rfl) ?_
  refine lv_iload_n F.1 F.2.1 qd_X_bind_5 rfl (lv_at hl 2 rfl) ?_
  obtain ⟨q1, hq2, hM⟩ := qbd hM
  refine x_calli F hK hN hA w (c_K_hasParameter l D ad cI hq2) qk_365 qk_366 qk_367 qk_2 qk_368 qv_K_hasParameter rfl rfl ⟨Nat.le_trans (by decide) hR.1, Nat.le_trans (by decide) hR.2⟩ (ci := 0) rfl (j := 1) rfl hl.1 rfl (Nat.le_of_ble_eq_true rfl) qd_X_bind_6 (fun H locs w => ?_)
  refine lv_if_eq (tgt := 22) F.1 F.2.1 qd_X_bind_9 (by decide) (fun hc3 => ?_) (fun hc3 => ?_)
  · rw [if_pos hc3] at hM
    refine lv_bipush (v := (-2)) F.1 F.2.1 qd_X_bind_22 (by decide) ?_
    cases hM
    exact hQ _ _ _ _ qd_X_bind_24 w
  · rw [if_neg hc3] at hM
    refine lv_aload_n F.1 F.2.1 qd_X_bind_12 rfl (lv_at hl 0 rfl) ?_
    refine lv_iload_n F.1 F.2.1 qd_X_bind_13 rfl (lv_at hl 1 rfl) ?_
    refine lv_iload_n F.1 F.2.1 qd_X_bind_14 rfl (lv_at hl 2 rfl) ?_
    refine lv_iload_n F.1 F.2.1 qd_X_bind_15 rfl (lv_at hl 3 rfl) ?_
    obtain ⟨q4, hq5, hM⟩ := qbd hM
    refine x_calli F hK hN hA w (c_X_mayBeBound l D ad cI hq5) qk_369 qk_371 qs_X_mayBeBound qk_1 qk_372 qv_X_mayBeBound rfl rfl ⟨Nat.le_trans (by decide) hR.1, Nat.le_trans (by decide) hR.2⟩ (ci := 5) rfl (j := 0) rfl hl.1 rfl (Nat.le_of_ble_eq_true rfl) qd_X_bind_16 (fun H locs w => ?_)
    refine lv_if_ne (tgt := 25) F.1 F.2.1 qd_X_bind_19 (by decide) (fun hc6 => ?_) (fun hc6 => ?_)
    · rw [if_neg hc6] at hM
      refine lv_aload_n F.1 F.2.1 qd_X_bind_25 rfl (lv_at hl 0 rfl) ?_
      refine xg_X_classes F hK w qk_167 qd_X_bind_26 ?_
      refine lv_iload_n F.1 F.2.1 qd_X_bind_29 rfl (lv_at hl 1 rfl) ?_
      refine lv_iload_n F.1 F.2.1 qd_X_bind_30 rfl (lv_at hl 2 rfl) ?_
      refine lv_iload_n F.1 F.2.1 qd_X_bind_31 rfl (lv_at hl 3 rfl) ?_
      obtain ⟨q7, hq8, hM⟩ := qbd hM
      refine x_calli F hK hN hA w (c_K_addBound l D ad cI hq8) qk_379 qk_380 qk_381 qk_2 qk_382 qv_K_addBound rfl rfl ⟨Nat.le_trans (by decide) hR.1, Nat.le_trans (by decide) hR.2⟩ (ci := 0) rfl (j := 1) rfl hl.1 rfl (Nat.le_of_ble_eq_true rfl) qd_X_bind_32 (fun H locs w => ?_)
      cases hM
      exact hQ _ _ _ _ qd_X_bind_35 w
    · rw [if_pos hc6] at hM
      refine lv_bipush (v := (-2)) F.1 F.2.1 qd_X_bind_22 (by decide) ?_
      cases hM
      exact hQ _ _ _ _ qd_X_bind_24 w
set_option maxRecDepth 100000 in
theorem c_X_bind (l : Launch) (D : va_G) (ad : Nat → Nat) (cI : ClassId) {S : (Nat → Nat → Int32)} {a1 a2 a3 : Int32} {res : (Int32 × (Nat → Nat → Int32))} (hM : f_X_bind S a1 a2 a3 = some res) : xMi l qy_X_bind qb_X_bind 4 (some .int) { frames := 3, cells := 0, slots := 0, locals := 67 } D ad cI S [.ref (ad 0), .int a1, .int a2, .int a3] res.1 res.2 := x_ofi (by decide +kernel) (Nat.le_of_ble_eq_true rfl) (fun p e s m args below meth c Q A ls F hK hN hA w hl hQ => t_X_bind F ⟨Nat.le_refl _, Nat.le_refl _⟩ hK hN hA hQ S a1 a2 a3 hM w hl)
-- X_plain
def f_X_plain (S : (Nat → Nat → Int32)) (a1 : Int32) : Option (Int32 × (Nat → Nat → Int32)) := (f_K_has S a1).bind (fun q1 => if (qB q1) = 0 then (some ((-2 : Int32), S)) else ((f_K_nameSort S a1).bind (fun q4 => (f_T_keep S q4 a1 (-1 : Int32) (-1 : Int32)).bind (fun q6 => some (q6.1, q6.2)))))
set_option maxRecDepth 100000 in
set_option maxHeartbeats 4000000 in
theorem t_X_plain {p : Program} {l : Launch} {e : Env} {R : Room} {s : State} {m : MethodId} {args : Array Value} {below : List Frame} {meth : Method} {c : Code} {Q : State → Prop} {D : va_G} {ad : Nat → Nat} {cI : ClassId} {A : Nat → Prop} (F : CallFix p m c qb_X_plain 2 s args qtb "CaptureSubtypes") (hR : 3 ≤ R.frames ∧ 94 ≤ R.locals) (hK : va_K D qcl [(cI, .int)] s) (hN : qnests xns s) (hA : ∀ q, s.heap.size ≤ q → A q) {res : (Int32 × (Nat → Nat → Int32))} (hQ : ∀ (H : Heap) (locs : List Loc) (pc : Nat) (ls : Array Slot), decode qb_X_plain pc = .ok (.ireturn, 1) → xW D ad cI A s.heap res.2 H locs → W p l e R s m args below meth c H locs 0 0 Q (F0 m pc ls [.int res.1])) (S : (Nat → Nat → Int32)) (a1 : Int32) (hM : f_X_plain S a1 = some res) {H : Heap} {locs : List Loc} {ls : Array Slot} (w : xW D ad cI A s.heap S H locs) (hl : lv_has ls 2 [(0, .ref (ad 0)), (1, .int a1)]) : W p l e R s m args below meth c H locs 0 0 Q (F0 m 0 ls []) := by
  unfold f_X_plain at hM
  refine lv_aload_n F.1 F.2.1 qd_X_plain_0 rfl (lv_at hl 0 rfl) ?_
  refine xg_X_classes F hK w qk_167 qd_X_plain_1 ?_
  refine lv_iload_n F.1 F.2.1 qd_X_plain_4 rfl (lv_at hl 1 rfl) ?_
  obtain ⟨q1, hq2, hM⟩ := qbd hM
  refine x_calli F hK hN hA w (c_K_has l D ad cI hq2) qk_257 qk_258 qk_259 qk_2 qk_260 qv_K_has rfl rfl ⟨Nat.le_trans (by decide) hR.1, Nat.le_trans (by decide) hR.2⟩ (ci := 0) rfl (j := 1) rfl hl.1 rfl (Nat.le_of_ble_eq_true rfl) qd_X_plain_5 (fun H locs w => ?_)
  refine lv_if_ne (tgt := 14) F.1 F.2.1 qd_X_plain_8 (by decide) (fun hc3 => ?_) (fun hc3 => ?_)
  · rw [if_neg hc3] at hM
    refine lv_aload_n F.1 F.2.1 qd_X_plain_14 rfl (lv_at hl 0 rfl) ?_
    refine xg_X_types F hK w qk_168 qd_X_plain_15 ?_
    refine lv_aload_n F.1 F.2.1 qd_X_plain_18 rfl (lv_at hl 0 rfl) ?_
    refine xg_X_classes F hK w qk_167 qd_X_plain_19 ?_
    refine lv_iload_n F.1 F.2.1 qd_X_plain_22 rfl (lv_at hl 1 rfl) ?_
    obtain ⟨q4, hq5, hM⟩ := qbd hM
    refine x_calli F hK hN hA w (c_K_nameSort l D ad cI hq5) qk_389 qk_329 qk_330 qk_2 qk_331 qv_K_nameSort rfl rfl ⟨Nat.le_trans (by decide) hR.1, Nat.le_trans (by decide) hR.2⟩ (ci := 0) rfl (j := 1) rfl hl.1 rfl (Nat.le_of_ble_eq_true rfl) qd_X_plain_23 (fun H locs w => ?_)
    refine lv_iload_n F.1 F.2.1 qd_X_plain_26 rfl (lv_at hl 1 rfl) ?_
    refine lv_iconst (v := (-1)) F.1 F.2.1 qd_X_plain_27 (by decide) ?_
    refine lv_iconst (v := (-1)) F.1 F.2.1 qd_X_plain_28 (by decide) ?_
    obtain ⟨q6, hq7, hM⟩ := qbd hM
    refine x_calli F hK hN hA w (c_T_keep l D ad cI hq7) qk_390 qk_77 qk_78 qk_3 qk_79 qv_T_keep rfl rfl ⟨Nat.le_trans (by decide) hR.1, Nat.le_trans (by decide) hR.2⟩ (ci := 1) rfl (j := 2) rfl hl.1 rfl (Nat.le_of_ble_eq_true rfl) qd_X_plain_29 (fun H locs w => ?_)
    cases hM
    exact hQ _ _ _ _ qd_X_plain_32 w
  · rw [if_pos hc3] at hM
    refine lv_bipush (v := (-2)) F.1 F.2.1 qd_X_plain_11 (by decide) ?_
    cases hM
    exact hQ _ _ _ _ qd_X_plain_13 w
set_option maxRecDepth 100000 in
theorem c_X_plain (l : Launch) (D : va_G) (ad : Nat → Nat) (cI : ClassId) {S : (Nat → Nat → Int32)} {a1 : Int32} {res : (Int32 × (Nat → Nat → Int32))} (hM : f_X_plain S a1 = some res) : xMi l qy_X_plain qb_X_plain 2 (some .int) { frames := 3, cells := 0, slots := 0, locals := 94 } D ad cI S [.ref (ad 0), .int a1] res.1 res.2 := x_ofi (by decide +kernel) (Nat.le_of_ble_eq_true rfl) (fun p e s m args below meth c Q A ls F hK hN hA w hl hQ => t_X_plain F ⟨Nat.le_refl _, Nat.le_refl _⟩ hK hN hA hQ S a1 hM w hl)
-- K_parametersOf
def f_K_parametersOf (S : (Nat → Nat → Int32)) (a1 : Int32) : Option Int32 := if a1 < 0 then (some (0 : Int32)) else (if (S 0 0) ≤ a1 then (some (0 : Int32)) else (qck (qin a1 12) (some (S 2 a1.toNatClampNeg))))
set_option maxRecDepth 100000 in
set_option maxHeartbeats 4000000 in
theorem t_K_parametersOf {p : Program} {l : Launch} {e : Env} {R : Room} {s : State} {m : MethodId} {args : Array Value} {below : List Frame} {meth : Method} {c : Code} {Q : State → Prop} {D : va_G} {ad : Nat → Nat} {cI : ClassId} {A : Nat → Prop} (F : CallFix p m c qb_K_parametersOf 2 s args qtb "CaptureSubtypes$Classes") (hR : 0 ≤ R.frames ∧ 0 ≤ R.locals) (hK : va_K D qcl [(cI, .int)] s) (hN : qnests xns s) (hA : ∀ q, s.heap.size ≤ q → A q) {res : Int32} {S : (Nat → Nat → Int32)} (hQ : ∀ (H : Heap) (locs : List Loc) (pc : Nat) (ls : Array Slot), decode qb_K_parametersOf pc = .ok (.ireturn, 1) → xW D ad cI A s.heap S H locs → W p l e R s m args below meth c H locs 0 0 Q (F0 m pc ls [.int res])) (a1 : Int32) (hM : f_K_parametersOf S a1 = some res) {H : Heap} {locs : List Loc} {ls : Array Slot} (w : xW D ad cI A s.heap S H locs) (hl : lv_has ls 2 [(0, .ref (ad 1)), (1, .int a1)]) : W p l e R s m args below meth c H locs 0 0 Q (F0 m 0 ls []) := by
  unfold f_K_parametersOf at hM
  refine lv_iload_n F.1 F.2.1 qd_K_parametersOf_0 rfl (lv_at hl 1 rfl) ?_
  refine lv_if_lt (tgt := 21) F.1 F.2.1 qd_K_parametersOf_1 (by decide) (fun hc1 => ?_) (fun hc1 => ?_)
  · rw [if_pos hc1] at hM
    refine lv_iconst (v := 0) F.1 F.2.1 qd_K_parametersOf_21 (by decide) ?_
    cases hM
    exact hQ _ _ _ _ qd_K_parametersOf_22 w
  · rw [if_neg hc1] at hM
    refine lv_iload_n F.1 F.2.1 qd_K_parametersOf_4 rfl (lv_at hl 1 rfl) ?_
    refine lv_aload_n F.1 F.2.1 qd_K_parametersOf_5 rfl (lv_at hl 0 rfl) ?_
    refine xg_K_count F hK w qk_31 qd_K_parametersOf_6 ?_
    refine lv_icmp_ge (tgt := 21) F.1 F.2.1 qd_K_parametersOf_9 (by decide) (fun hc2 => ?_) (fun hc2 => ?_)
    · rw [if_pos hc2] at hM
      refine lv_iconst (v := 0) F.1 F.2.1 qd_K_parametersOf_21 (by decide) ?_
      cases hM
      exact hQ _ _ _ _ qd_K_parametersOf_22 w
    · rw [if_neg hc2] at hM
      refine lv_aload_n F.1 F.2.1 qd_K_parametersOf_12 rfl (lv_at hl 0 rfl) ?_
      refine xg_K_parameterCounts F hK w qk_36 qd_K_parametersOf_13 ?_
      refine lv_iload_n F.1 F.2.1 qd_K_parametersOf_16 rfl (lv_at hl 1 rfl) ?_
      obtain ⟨hi3, hM⟩ := qck_ok hM
      refine xl_K_parameterCounts F hK w hi3 qd_K_parametersOf_17 ?_
      refine lv_goto (tgt := 22) F.1 F.2.1 qd_K_parametersOf_18 (by decide) ?_
      cases hM
      exact hQ _ _ _ _ qd_K_parametersOf_22 w
set_option maxRecDepth 100000 in
theorem c_K_parametersOf (l : Launch) (D : va_G) (ad : Nat → Nat) (cI : ClassId) {S : (Nat → Nat → Int32)} {a1 : Int32} {res : Int32} (hM : f_K_parametersOf S a1 = some res) : xMi l qy_K_parametersOf qb_K_parametersOf 2 (some .int) { frames := 0, cells := 0, slots := 0, locals := 0 } D ad cI S [.ref (ad 1), .int a1] res S := x_ofi (by decide +kernel) (Nat.le_of_ble_eq_true rfl) (fun p e s m args below meth c Q A ls F hK hN hA w hl hQ => t_K_parametersOf F ⟨Nat.le_refl _, Nat.le_refl _⟩ hK hN hA hQ a1 hM w hl)
-- T_mayBeArgument
def f_T_mayBeArgument (S : (Nat → Nat → Int32)) (a1 : Int32) : Option Bool := if a1 < 0 then (some false) else (if (S 10 0) ≤ a1 then (some false) else (if a1 = (1 : Int32) then (some false) else (if a1 = (2 : Int32) then (some false) else (some true))))
set_option maxRecDepth 100000 in
set_option maxHeartbeats 4000000 in
theorem t_T_mayBeArgument {p : Program} {l : Launch} {e : Env} {R : Room} {s : State} {m : MethodId} {args : Array Value} {below : List Frame} {meth : Method} {c : Code} {Q : State → Prop} {D : va_G} {ad : Nat → Nat} {cI : ClassId} {A : Nat → Prop} (F : CallFix p m c qb_T_mayBeArgument 2 s args qtb "CaptureSubtypes$Types") (hR : 0 ≤ R.frames ∧ 0 ≤ R.locals) (hK : va_K D qcl [(cI, .int)] s) (hN : qnests xns s) (hA : ∀ q, s.heap.size ≤ q → A q) {res : Bool} {S : (Nat → Nat → Int32)} (hQ : ∀ (H : Heap) (locs : List Loc) (pc : Nat) (ls : Array Slot), decode qb_T_mayBeArgument pc = .ok (.ireturn, 1) → xW D ad cI A s.heap S H locs → W p l e R s m args below meth c H locs 0 0 Q (F0 m pc ls [.int (qB res)])) (a1 : Int32) (hM : f_T_mayBeArgument S a1 = some res) {H : Heap} {locs : List Loc} {ls : Array Slot} (w : xW D ad cI A s.heap S H locs) (hl : lv_has ls 2 [(0, .ref (ad 2)), (1, .int a1)]) : W p l e R s m args below meth c H locs 0 0 Q (F0 m 0 ls []) := by
  unfold f_T_mayBeArgument at hM
  refine lv_iload_n F.1 F.2.1 qd_T_mayBeArgument_0 rfl (lv_at hl 1 rfl) ?_
  refine lv_if_lt (tgt := 26) F.1 F.2.1 qd_T_mayBeArgument_1 (by decide) (fun hc1 => ?_) (fun hc1 => ?_)
  · rw [if_pos hc1] at hM
    refine lv_iconst (v := 0) F.1 F.2.1 qd_T_mayBeArgument_26 (by decide) ?_
    cases hM
    exact hQ _ _ _ _ qd_T_mayBeArgument_27 w
  · rw [if_neg hc1] at hM
    refine lv_iload_n F.1 F.2.1 qd_T_mayBeArgument_4 rfl (lv_at hl 1 rfl) ?_
    refine lv_aload_n F.1 F.2.1 qd_T_mayBeArgument_5 rfl (lv_at hl 0 rfl) ?_
    refine xg_T_kept F hK w qk_87 qd_T_mayBeArgument_6 ?_
    refine lv_icmp_ge (tgt := 26) F.1 F.2.1 qd_T_mayBeArgument_9 (by decide) (fun hc2 => ?_) (fun hc2 => ?_)
    · rw [if_pos hc2] at hM
      refine lv_iconst (v := 0) F.1 F.2.1 qd_T_mayBeArgument_26 (by decide) ?_
      cases hM
      exact hQ _ _ _ _ qd_T_mayBeArgument_27 w
    · rw [if_neg hc2] at hM
      refine lv_iload_n F.1 F.2.1 qd_T_mayBeArgument_12 rfl (lv_at hl 1 rfl) ?_
      refine lv_iconst (v := 1) F.1 F.2.1 qd_T_mayBeArgument_13 (by decide) ?_
      refine lv_icmp_eq (tgt := 26) F.1 F.2.1 qd_T_mayBeArgument_14 (by decide) (fun hc3 => ?_) (fun hc3 => ?_)
      · rw [if_pos hc3] at hM
        refine lv_iconst (v := 0) F.1 F.2.1 qd_T_mayBeArgument_26 (by decide) ?_
        cases hM
        exact hQ _ _ _ _ qd_T_mayBeArgument_27 w
      · rw [if_neg hc3] at hM
        refine lv_iload_n F.1 F.2.1 qd_T_mayBeArgument_17 rfl (lv_at hl 1 rfl) ?_
        refine lv_iconst (v := 2) F.1 F.2.1 qd_T_mayBeArgument_18 (by decide) ?_
        refine lv_icmp_eq (tgt := 26) F.1 F.2.1 qd_T_mayBeArgument_19 (by decide) (fun hc4 => ?_) (fun hc4 => ?_)
        · rw [if_pos hc4] at hM
          refine lv_iconst (v := 0) F.1 F.2.1 qd_T_mayBeArgument_26 (by decide) ?_
          cases hM
          exact hQ _ _ _ _ qd_T_mayBeArgument_27 w
        · rw [if_neg hc4] at hM
          refine lv_iconst (v := 1) F.1 F.2.1 qd_T_mayBeArgument_22 (by decide) ?_
          refine lv_goto (tgt := 27) F.1 F.2.1 qd_T_mayBeArgument_23 (by decide) ?_
          cases hM
          exact hQ _ _ _ _ qd_T_mayBeArgument_27 w
set_option maxRecDepth 100000 in
theorem c_T_mayBeArgument (l : Launch) (D : va_G) (ad : Nat → Nat) (cI : ClassId) {S : (Nat → Nat → Int32)} {a1 : Int32} {res : Bool} (hM : f_T_mayBeArgument S a1 = some res) : xMi l qy_T_mayBeArgument qb_T_mayBeArgument 2 (some .boolean) { frames := 0, cells := 0, slots := 0, locals := 0 } D ad cI S [.ref (ad 2), .int a1] (qB res) S := x_ofz (by decide +kernel) (Nat.le_of_ble_eq_true rfl) (fun p e s m args below meth c Q A ls F hK hN hA w hl hQ => t_T_mayBeArgument F ⟨Nat.le_refl _, Nat.le_refl _⟩ hK hN hA hQ a1 hM w hl)
-- X_of
def f_X_of (S : (Nat → Nat → Int32)) (a1 a2 a3 : Int32) : Option (Int32 × (Nat → Nat → Int32)) := (f_K_parametersOf S a1).bind (fun q1 => if q1 = 0 then (some ((-2 : Int32), S)) else ((f_T_mayBeArgument S a2).bind (fun q4 => if (qB q4) = 0 then (some ((-2 : Int32), S)) else (if q1 = (1 : Int32) then ((f_T_keep S (2 : Int32) a1 a2 (-1 : Int32)).bind (fun q13 => some (q13.1, q13.2))) else ((f_T_mayBeArgument S a3).bind (fun q8 => if (qB q8) = 0 then (some ((-2 : Int32), S)) else ((f_T_keep S (2 : Int32) a1 a2 a3).bind (fun q11 => some (q11.1, q11.2)))))))))
set_option maxRecDepth 100000 in
set_option maxHeartbeats 4000000 in
theorem t_X_of {p : Program} {l : Launch} {e : Env} {R : Room} {s : State} {m : MethodId} {args : Array Value} {below : List Frame} {meth : Method} {c : Code} {Q : State → Prop} {D : va_G} {ad : Nat → Nat} {cI : ClassId} {A : Nat → Prop} (F : CallFix p m c qb_X_of 5 s args qtb "CaptureSubtypes") (hR : 3 ≤ R.frames ∧ 94 ≤ R.locals) (hK : va_K D qcl [(cI, .int)] s) (hN : qnests xns s) (hA : ∀ q, s.heap.size ≤ q → A q) {res : (Int32 × (Nat → Nat → Int32))} (hQ : ∀ (H : Heap) (locs : List Loc) (pc : Nat) (ls : Array Slot), decode qb_X_of pc = .ok (.ireturn, 1) → xW D ad cI A s.heap res.2 H locs → W p l e R s m args below meth c H locs 0 0 Q (F0 m pc ls [.int res.1])) (S : (Nat → Nat → Int32)) (a1 a2 a3 : Int32) (hM : f_X_of S a1 a2 a3 = some res) {H : Heap} {locs : List Loc} {ls : Array Slot} (w : xW D ad cI A s.heap S H locs) (hl : lv_has ls 5 [(0, .ref (ad 0)), (1, .int a1), (2, .int a2), (3, .int a3)]) : W p l e R s m args below meth c H locs 0 0 Q (F0 m 0 ls []) := by
  unfold f_X_of at hM
  refine lv_aload_n F.1 F.2.1 qd_X_of_0 rfl (lv_at hl 0 rfl) ?_
  refine xg_X_classes F hK w qk_167 qd_X_of_1 ?_
  refine lv_iload_n F.1 F.2.1 qd_X_of_4 rfl (lv_at hl 1 rfl) ?_
  obtain ⟨q1, hq2, hM⟩ := qbd hM
  refine x_calli F hK hN hA w (c_K_parametersOf l D ad cI hq2) qk_395 qk_396 qk_397 qk_2 qk_398 qv_K_parametersOf rfl rfl ⟨Nat.le_trans (by decide) hR.1, Nat.le_trans (by decide) hR.2⟩ (ci := 0) rfl (j := 1) rfl hl.1 rfl (Nat.le_of_ble_eq_true rfl) qd_X_of_5 (fun H locs w => ?_)
  refine lv_istore (lv' := [(4, .int q1), (0, .ref (ad 0)), (1, .int a1), (2, .int a2), (3, .int a3)]) F.1 F.2.1 qd_X_of_8 hl (by decide) rfl (fun ls hl => ?_)
  refine lv_iload F.1 F.2.1 qd_X_of_10 (lv_at hl 0 rfl) ?_
  refine lv_if_eq (tgt := 26) F.1 F.2.1 qd_X_of_12 (by decide) (fun hc3 => ?_) (fun hc3 => ?_)
  · rw [if_pos hc3] at hM
    refine lv_bipush (v := (-2)) F.1 F.2.1 qd_X_of_26 (by decide) ?_
    cases hM
    exact hQ _ _ _ _ qd_X_of_28 w
  · rw [if_neg hc3] at hM
    refine lv_aload_n F.1 F.2.1 qd_X_of_15 rfl (lv_at hl 1 rfl) ?_
    refine xg_X_types F hK w qk_168 qd_X_of_16 ?_
    refine lv_iload_n F.1 F.2.1 qd_X_of_19 rfl (lv_at hl 3 rfl) ?_
    obtain ⟨q4, hq5, hM⟩ := qbd hM
    refine x_calli F hK hN hA w (c_T_mayBeArgument l D ad cI hq5) qk_399 qk_400 qk_401 qk_3 qk_402 qv_T_mayBeArgument rfl rfl ⟨Nat.le_trans (by decide) hR.1, Nat.le_trans (by decide) hR.2⟩ (ci := 1) rfl (j := 2) rfl hl.1 rfl (Nat.le_of_ble_eq_true rfl) qd_X_of_20 (fun H locs w => ?_)
    refine lv_if_ne (tgt := 29) F.1 F.2.1 qd_X_of_23 (by decide) (fun hc6 => ?_) (fun hc6 => ?_)
    · rw [if_neg hc6] at hM
      refine lv_iload F.1 F.2.1 qd_X_of_29 (lv_at hl 0 rfl) ?_
      refine lv_iconst (v := 1) F.1 F.2.1 qd_X_of_31 (by decide) ?_
      refine lv_icmp_ne (tgt := 47) F.1 F.2.1 qd_X_of_32 (by decide) (fun hc7 => ?_) (fun hc7 => ?_)
      · rw [if_neg hc7] at hM
        refine lv_aload_n F.1 F.2.1 qd_X_of_47 rfl (lv_at hl 1 rfl) ?_
        refine xg_X_types F hK w qk_168 qd_X_of_48 ?_
        refine lv_iload_n F.1 F.2.1 qd_X_of_51 rfl (lv_at hl 4 rfl) ?_
        obtain ⟨q8, hq9, hM⟩ := qbd hM
        refine x_calli F hK hN hA w (c_T_mayBeArgument l D ad cI hq9) qk_399 qk_400 qk_401 qk_3 qk_402 qv_T_mayBeArgument rfl rfl ⟨Nat.le_trans (by decide) hR.1, Nat.le_trans (by decide) hR.2⟩ (ci := 1) rfl (j := 2) rfl hl.1 rfl (Nat.le_of_ble_eq_true rfl) qd_X_of_52 (fun H locs w => ?_)
        refine lv_if_eq (tgt := 72) F.1 F.2.1 qd_X_of_55 (by decide) (fun hc10 => ?_) (fun hc10 => ?_)
        · rw [if_pos hc10] at hM
          refine lv_bipush (v := (-2)) F.1 F.2.1 qd_X_of_72 (by decide) ?_
          cases hM
          exact hQ _ _ _ _ qd_X_of_74 w
        · rw [if_neg hc10] at hM
          refine lv_aload_n F.1 F.2.1 qd_X_of_58 rfl (lv_at hl 1 rfl) ?_
          refine xg_X_types F hK w qk_168 qd_X_of_59 ?_
          refine lv_iconst (v := 2) F.1 F.2.1 qd_X_of_62 (by decide) ?_
          refine lv_iload_n F.1 F.2.1 qd_X_of_63 rfl (lv_at hl 2 rfl) ?_
          refine lv_iload_n F.1 F.2.1 qd_X_of_64 rfl (lv_at hl 3 rfl) ?_
          refine lv_iload_n F.1 F.2.1 qd_X_of_65 rfl (lv_at hl 4 rfl) ?_
          obtain ⟨q11, hq12, hM⟩ := qbd hM
          refine x_calli F hK hN hA w (c_T_keep l D ad cI hq12) qk_390 qk_77 qk_78 qk_3 qk_79 qv_T_keep rfl rfl ⟨Nat.le_trans (by decide) hR.1, Nat.le_trans (by decide) hR.2⟩ (ci := 1) rfl (j := 2) rfl hl.1 rfl (Nat.le_of_ble_eq_true rfl) qd_X_of_66 (fun H locs w => ?_)
          refine lv_goto (tgt := 74) F.1 F.2.1 qd_X_of_69 (by decide) ?_
          cases hM
          exact hQ _ _ _ _ qd_X_of_74 w
      · rw [if_pos hc7] at hM
        refine lv_aload_n F.1 F.2.1 qd_X_of_35 rfl (lv_at hl 1 rfl) ?_
        refine xg_X_types F hK w qk_168 qd_X_of_36 ?_
        refine lv_iconst (v := 2) F.1 F.2.1 qd_X_of_39 (by decide) ?_
        refine lv_iload_n F.1 F.2.1 qd_X_of_40 rfl (lv_at hl 2 rfl) ?_
        refine lv_iload_n F.1 F.2.1 qd_X_of_41 rfl (lv_at hl 3 rfl) ?_
        refine lv_iconst (v := (-1)) F.1 F.2.1 qd_X_of_42 (by decide) ?_
        obtain ⟨q13, hq14, hM⟩ := qbd hM
        refine x_calli F hK hN hA w (c_T_keep l D ad cI hq14) qk_390 qk_77 qk_78 qk_3 qk_79 qv_T_keep rfl rfl ⟨Nat.le_trans (by decide) hR.1, Nat.le_trans (by decide) hR.2⟩ (ci := 1) rfl (j := 2) rfl hl.1 rfl (Nat.le_of_ble_eq_true rfl) qd_X_of_43 (fun H locs w => ?_)
        cases hM
        exact hQ _ _ _ _ qd_X_of_46 w
    · rw [if_pos hc6] at hM
      refine lv_bipush (v := (-2)) F.1 F.2.1 qd_X_of_26 (by decide) ?_
      cases hM
      exact hQ _ _ _ _ qd_X_of_28 w
set_option maxRecDepth 100000 in
theorem c_X_of (l : Launch) (D : va_G) (ad : Nat → Nat) (cI : ClassId) {S : (Nat → Nat → Int32)} {a1 a2 a3 : Int32} {res : (Int32 × (Nat → Nat → Int32))} (hM : f_X_of S a1 a2 a3 = some res) : xMi l qy_X_of qb_X_of 5 (some .int) { frames := 3, cells := 0, slots := 0, locals := 94 } D ad cI S [.ref (ad 0), .int a1, .int a2, .int a3] res.1 res.2 := x_ofi (by decide +kernel) (Nat.le_of_ble_eq_true rfl) (fun p e s m args below meth c Q A ls F hK hN hA w hl hQ => t_X_of F ⟨Nat.le_refl _, Nat.le_refl _⟩ hK hN hA hQ S a1 a2 a3 hM w hl)
-- X_wild
def f_X_wild_29 (S : (Nat → Nat → Int32)) (v1 v2 : Int32) : Option (Int32 × (Nat → Nat → Int32)) := (f_T_mayBeArgument S v2).bind (fun q1 => if (qB q1) = 0 then (some ((-2 : Int32), S)) else ((f_T_sortOf S v2).bind (fun q4 => if q4 = (5 : Int32) then (some ((-2 : Int32), S)) else ((f_T_keep S (5 : Int32) v1 v2 (-1 : Int32)).bind (fun q7 => some (q7.1, q7.2))))))
def f_X_wild (S : (Nat → Nat → Int32)) (a1 a2 : Int32) : Option (Int32 × (Nat → Nat → Int32)) := if a1 = 0 then ((f_T_keep S (5 : Int32) (0 : Int32) (-1 : Int32) (-1 : Int32)).bind (fun q4 => some (q4.1, q4.2))) else (if a1 = (1 : Int32) then (f_X_wild_29  S a1 a2) else (if a1 = (2 : Int32) then (f_X_wild_29  S a1 a2) else (some ((-2 : Int32), S))))
set_option maxRecDepth 100000 in
set_option maxHeartbeats 4000000 in
theorem t_X_wild_29 {p : Program} {l : Launch} {e : Env} {R : Room} {s : State} {m : MethodId} {args : Array Value} {below : List Frame} {meth : Method} {c : Code} {Q : State → Prop} {D : va_G} {ad : Nat → Nat} {cI : ClassId} {A : Nat → Prop} (F : CallFix p m c qb_X_wild 3 s args qtb "CaptureSubtypes") (hR : 3 ≤ R.frames ∧ 94 ≤ R.locals) (hK : va_K D qcl [(cI, .int)] s) (hN : qnests xns s) (hA : ∀ q, s.heap.size ≤ q → A q) {res : (Int32 × (Nat → Nat → Int32))} (hQ : ∀ (H : Heap) (locs : List Loc) (pc : Nat) (ls : Array Slot), decode qb_X_wild pc = .ok (.ireturn, 1) → xW D ad cI A s.heap res.2 H locs → W p l e R s m args below meth c H locs 0 0 Q (F0 m pc ls [.int res.1])) (S : (Nat → Nat → Int32)) (v1 v2 : Int32) (hM : f_X_wild_29 S v1 v2 = some res) {H : Heap} {locs : List Loc} {ls : Array Slot} (w : xW D ad cI A s.heap S H locs) (hl : lv_has ls 3 [(0, .ref (ad 0)), (1, .int v1), (2, .int v2)]) : W p l e R s m args below meth c H locs 0 0 Q (F0 m 29 ls []) := by
  unfold f_X_wild_29 at hM
  refine lv_aload_n F.1 F.2.1 qd_X_wild_29 rfl (lv_at hl 0 rfl) ?_
  refine xg_X_types F hK w qk_168 qd_X_wild_30 ?_
  refine lv_iload_n F.1 F.2.1 qd_X_wild_33 rfl (lv_at hl 2 rfl) ?_
  obtain ⟨q1, hq2, hM⟩ := qbd hM
  refine x_calli F hK hN hA w (c_T_mayBeArgument l D ad cI hq2) qk_399 qk_400 qk_401 qk_3 qk_402 qv_T_mayBeArgument rfl rfl ⟨Nat.le_trans (by decide) hR.1, Nat.le_trans (by decide) hR.2⟩ (ci := 1) rfl (j := 2) rfl hl.1 rfl (Nat.le_of_ble_eq_true rfl) qd_X_wild_34 (fun H locs w => ?_)
  refine lv_if_eq (tgt := 52) F.1 F.2.1 qd_X_wild_37 (by decide) (fun hc3 => ?_) (fun hc3 => ?_)
  · rw [if_pos hc3] at hM
    refine lv_bipush (v := (-2)) F.1 F.2.1 qd_X_wild_52 (by decide) ?_
    cases hM
    exact hQ _ _ _ _ qd_X_wild_54 w
  · rw [if_neg hc3] at hM
    refine lv_aload_n F.1 F.2.1 qd_X_wild_40 rfl (lv_at hl 0 rfl) ?_
    refine xg_X_types F hK w qk_168 qd_X_wild_41 ?_
    refine lv_iload_n F.1 F.2.1 qd_X_wild_44 rfl (lv_at hl 2 rfl) ?_
    obtain ⟨q4, hq5, hM⟩ := qbd hM
    refine x_calli F hK hN hA w (c_T_sortOf l D ad cI hq5) qk_377 qk_270 qk_271 qk_3 qk_272 qv_T_sortOf rfl rfl ⟨Nat.le_trans (by decide) hR.1, Nat.le_trans (by decide) hR.2⟩ (ci := 1) rfl (j := 2) rfl hl.1 rfl (Nat.le_of_ble_eq_true rfl) qd_X_wild_45 (fun H locs w => ?_)
    refine lv_iconst (v := 5) F.1 F.2.1 qd_X_wild_48 (by decide) ?_
    refine lv_icmp_ne (tgt := 55) F.1 F.2.1 qd_X_wild_49 (by decide) (fun hc6 => ?_) (fun hc6 => ?_)
    · rw [if_neg hc6] at hM
      refine lv_aload_n F.1 F.2.1 qd_X_wild_55 rfl (lv_at hl 0 rfl) ?_
      refine xg_X_types F hK w qk_168 qd_X_wild_56 ?_
      refine lv_iconst (v := 5) F.1 F.2.1 qd_X_wild_59 (by decide) ?_
      refine lv_iload_n F.1 F.2.1 qd_X_wild_60 rfl (lv_at hl 1 rfl) ?_
      refine lv_iload_n F.1 F.2.1 qd_X_wild_61 rfl (lv_at hl 2 rfl) ?_
      refine lv_iconst (v := (-1)) F.1 F.2.1 qd_X_wild_62 (by decide) ?_
      obtain ⟨q7, hq8, hM⟩ := qbd hM
      refine x_calli F hK hN hA w (c_T_keep l D ad cI hq8) qk_390 qk_77 qk_78 qk_3 qk_79 qv_T_keep rfl rfl ⟨Nat.le_trans (by decide) hR.1, Nat.le_trans (by decide) hR.2⟩ (ci := 1) rfl (j := 2) rfl hl.1 rfl (Nat.le_of_ble_eq_true rfl) qd_X_wild_63 (fun H locs w => ?_)
      cases hM
      exact hQ _ _ _ _ qd_X_wild_66 w
    · rw [if_pos hc6] at hM
      refine lv_bipush (v := (-2)) F.1 F.2.1 qd_X_wild_52 (by decide) ?_
      cases hM
      exact hQ _ _ _ _ qd_X_wild_54 w
set_option maxRecDepth 100000 in
set_option maxHeartbeats 4000000 in
theorem t_X_wild {p : Program} {l : Launch} {e : Env} {R : Room} {s : State} {m : MethodId} {args : Array Value} {below : List Frame} {meth : Method} {c : Code} {Q : State → Prop} {D : va_G} {ad : Nat → Nat} {cI : ClassId} {A : Nat → Prop} (F : CallFix p m c qb_X_wild 3 s args qtb "CaptureSubtypes") (hR : 3 ≤ R.frames ∧ 94 ≤ R.locals) (hK : va_K D qcl [(cI, .int)] s) (hN : qnests xns s) (hA : ∀ q, s.heap.size ≤ q → A q) {res : (Int32 × (Nat → Nat → Int32))} (hQ : ∀ (H : Heap) (locs : List Loc) (pc : Nat) (ls : Array Slot), decode qb_X_wild pc = .ok (.ireturn, 1) → xW D ad cI A s.heap res.2 H locs → W p l e R s m args below meth c H locs 0 0 Q (F0 m pc ls [.int res.1])) (S : (Nat → Nat → Int32)) (a1 a2 : Int32) (hM : f_X_wild S a1 a2 = some res) {H : Heap} {locs : List Loc} {ls : Array Slot} (w : xW D ad cI A s.heap S H locs) (hl : lv_has ls 3 [(0, .ref (ad 0)), (1, .int a1), (2, .int a2)]) : W p l e R s m args below meth c H locs 0 0 Q (F0 m 0 ls []) := by
  unfold f_X_wild at hM
  refine lv_iload_n F.1 F.2.1 qd_X_wild_0 rfl (lv_at hl 1 rfl) ?_
  refine lv_if_ne (tgt := 16) F.1 F.2.1 qd_X_wild_1 (by decide) (fun hc1 => ?_) (fun hc1 => ?_)
  · rw [if_neg hc1] at hM
    refine lv_iload_n F.1 F.2.1 qd_X_wild_16 rfl (lv_at hl 1 rfl) ?_
    refine lv_iconst (v := 1) F.1 F.2.1 qd_X_wild_17 (by decide) ?_
    refine lv_icmp_eq (tgt := 29) F.1 F.2.1 qd_X_wild_18 (by decide) (fun hc2 => ?_) (fun hc2 => ?_)
    · rw [if_pos hc2] at hM
      exact t_X_wild_29 F hR hK hN hA hQ  _ _ _ hM w (lv_sub hl [0, 1, 2] rfl)
    · rw [if_neg hc2] at hM
      refine lv_iload_n F.1 F.2.1 qd_X_wild_21 rfl (lv_at hl 1 rfl) ?_
      refine lv_iconst (v := 2) F.1 F.2.1 qd_X_wild_22 (by decide) ?_
      refine lv_icmp_eq (tgt := 29) F.1 F.2.1 qd_X_wild_23 (by decide) (fun hc3 => ?_) (fun hc3 => ?_)
      · rw [if_pos hc3] at hM
        exact t_X_wild_29 F hR hK hN hA hQ  _ _ _ hM w (lv_sub hl [0, 1, 2] rfl)
      · rw [if_neg hc3] at hM
        refine lv_bipush (v := (-2)) F.1 F.2.1 qd_X_wild_26 (by decide) ?_
        cases hM
        exact hQ _ _ _ _ qd_X_wild_28 w
  · rw [if_pos hc1] at hM
    refine lv_aload_n F.1 F.2.1 qd_X_wild_4 rfl (lv_at hl 0 rfl) ?_
    refine xg_X_types F hK w qk_168 qd_X_wild_5 ?_
    refine lv_iconst (v := 5) F.1 F.2.1 qd_X_wild_8 (by decide) ?_
    refine lv_iconst (v := 0) F.1 F.2.1 qd_X_wild_9 (by decide) ?_
    refine lv_iconst (v := (-1)) F.1 F.2.1 qd_X_wild_10 (by decide) ?_
    refine lv_iconst (v := (-1)) F.1 F.2.1 qd_X_wild_11 (by decide) ?_
    obtain ⟨q4, hq5, hM⟩ := qbd hM
    refine x_calli F hK hN hA w (c_T_keep l D ad cI hq5) qk_390 qk_77 qk_78 qk_3 qk_79 qv_T_keep rfl rfl ⟨Nat.le_trans (by decide) hR.1, Nat.le_trans (by decide) hR.2⟩ (ci := 1) rfl (j := 2) rfl hl.1 rfl (Nat.le_of_ble_eq_true rfl) qd_X_wild_12 (fun H locs w => ?_)
    cases hM
    exact hQ _ _ _ _ qd_X_wild_15 w
set_option maxRecDepth 100000 in
theorem c_X_wild (l : Launch) (D : va_G) (ad : Nat → Nat) (cI : ClassId) {S : (Nat → Nat → Int32)} {a1 a2 : Int32} {res : (Int32 × (Nat → Nat → Int32))} (hM : f_X_wild S a1 a2 = some res) : xMi l qy_X_wild qb_X_wild 3 (some .int) { frames := 3, cells := 0, slots := 0, locals := 94 } D ad cI S [.ref (ad 0), .int a1, .int a2] res.1 res.2 := x_ofi (by decide +kernel) (Nat.le_of_ble_eq_true rfl) (fun p e s m args below meth c Q A ls F hK hN hA w hl hQ => t_X_wild F ⟨Nat.le_refl _, Nat.le_refl _⟩ hK hN hA hQ S a1 a2 hM w hl)
-- X_variable
def f_X_variable (S : (Nat → Nat → Int32)) (a1 a2 : Int32) : Option (Int32 × (Nat → Nat → Int32)) := (f_K_hasParameter S a1 a2).bind (fun q1 => if (qB q1) = 0 then (some ((-2 : Int32), S)) else ((f_T_keep S (3 : Int32) a1 a2 (-1 : Int32)).bind (fun q4 => some (q4.1, q4.2))))
set_option maxRecDepth 100000 in
set_option maxHeartbeats 4000000 in
theorem t_X_variable {p : Program} {l : Launch} {e : Env} {R : Room} {s : State} {m : MethodId} {args : Array Value} {below : List Frame} {meth : Method} {c : Code} {Q : State → Prop} {D : va_G} {ad : Nat → Nat} {cI : ClassId} {A : Nat → Prop} (F : CallFix p m c qb_X_variable 3 s args qtb "CaptureSubtypes") (hR : 3 ≤ R.frames ∧ 94 ≤ R.locals) (hK : va_K D qcl [(cI, .int)] s) (hN : qnests xns s) (hA : ∀ q, s.heap.size ≤ q → A q) {res : (Int32 × (Nat → Nat → Int32))} (hQ : ∀ (H : Heap) (locs : List Loc) (pc : Nat) (ls : Array Slot), decode qb_X_variable pc = .ok (.ireturn, 1) → xW D ad cI A s.heap res.2 H locs → W p l e R s m args below meth c H locs 0 0 Q (F0 m pc ls [.int res.1])) (S : (Nat → Nat → Int32)) (a1 a2 : Int32) (hM : f_X_variable S a1 a2 = some res) {H : Heap} {locs : List Loc} {ls : Array Slot} (w : xW D ad cI A s.heap S H locs) (hl : lv_has ls 3 [(0, .ref (ad 0)), (1, .int a1), (2, .int a2)]) : W p l e R s m args below meth c H locs 0 0 Q (F0 m 0 ls []) := by
  unfold f_X_variable at hM
  refine lv_aload_n F.1 F.2.1 qd_X_variable_0 rfl (lv_at hl 0 rfl) ?_
  refine xg_X_classes F hK w qk_167 qd_X_variable_1 ?_
  refine lv_iload_n F.1 F.2.1 qd_X_variable_4 rfl (lv_at hl 1 rfl) ?_
  refine lv_iload_n F.1 F.2.1 qd_X_variable_5 rfl (lv_at hl 2 rfl) ?_
  obtain ⟨q1, hq2, hM⟩ := qbd hM
  refine x_calli F hK hN hA w (c_K_hasParameter l D ad cI hq2) qk_365 qk_366 qk_367 qk_2 qk_368 qv_K_hasParameter rfl rfl ⟨Nat.le_trans (by decide) hR.1, Nat.le_trans (by decide) hR.2⟩ (ci := 0) rfl (j := 1) rfl hl.1 rfl (Nat.le_of_ble_eq_true rfl) qd_X_variable_6 (fun H locs w => ?_)
  refine lv_if_ne (tgt := 15) F.1 F.2.1 qd_X_variable_9 (by decide) (fun hc3 => ?_) (fun hc3 => ?_)
  · rw [if_neg hc3] at hM
    refine lv_aload_n F.1 F.2.1 qd_X_variable_15 rfl (lv_at hl 0 rfl) ?_
    refine xg_X_types F hK w qk_168 qd_X_variable_16 ?_
    refine lv_iconst (v := 3) F.1 F.2.1 qd_X_variable_19 (by decide) ?_
    refine lv_iload_n F.1 F.2.1 qd_X_variable_20 rfl (lv_at hl 1 rfl) ?_
    refine lv_iload_n F.1 F.2.1 qd_X_variable_21 rfl (lv_at hl 2 rfl) ?_
    refine lv_iconst (v := (-1)) F.1 F.2.1 qd_X_variable_22 (by decide) ?_
    obtain ⟨q4, hq5, hM⟩ := qbd hM
    refine x_calli F hK hN hA w (c_T_keep l D ad cI hq5) qk_390 qk_77 qk_78 qk_3 qk_79 qv_T_keep rfl rfl ⟨Nat.le_trans (by decide) hR.1, Nat.le_trans (by decide) hR.2⟩ (ci := 1) rfl (j := 2) rfl hl.1 rfl (Nat.le_of_ble_eq_true rfl) qd_X_variable_23 (fun H locs w => ?_)
    cases hM
    exact hQ _ _ _ _ qd_X_variable_26 w
  · rw [if_pos hc3] at hM
    refine lv_bipush (v := (-2)) F.1 F.2.1 qd_X_variable_12 (by decide) ?_
    cases hM
    exact hQ _ _ _ _ qd_X_variable_14 w
set_option maxRecDepth 100000 in
theorem c_X_variable (l : Launch) (D : va_G) (ad : Nat → Nat) (cI : ClassId) {S : (Nat → Nat → Int32)} {a1 a2 : Int32} {res : (Int32 × (Nat → Nat → Int32))} (hM : f_X_variable S a1 a2 = some res) : xMi l qy_X_variable qb_X_variable 3 (some .int) { frames := 3, cells := 0, slots := 0, locals := 94 } D ad cI S [.ref (ad 0), .int a1, .int a2] res.1 res.2 := x_ofi (by decide +kernel) (Nat.le_of_ble_eq_true rfl) (fun p e s m args below meth c Q A ls F hK hN hA w hl hQ => t_X_variable F ⟨Nat.le_refl _, Nat.le_refl _⟩ hK hN hA hQ S a1 a2 hM w hl)
-- T_standsAlone
def f_T_standsAlone (S : (Nat → Nat → Int32)) (a1 : Int32) : Option Bool := if a1 < 0 then (some false) else (if (S 10 0) ≤ a1 then (some false) else (qck (qin a1 1024) (if (S 12 a1.toNatClampNeg) = (5 : Int32) then (some false) else (some true))))
set_option maxRecDepth 100000 in
set_option maxHeartbeats 4000000 in
theorem t_T_standsAlone {p : Program} {l : Launch} {e : Env} {R : Room} {s : State} {m : MethodId} {args : Array Value} {below : List Frame} {meth : Method} {c : Code} {Q : State → Prop} {D : va_G} {ad : Nat → Nat} {cI : ClassId} {A : Nat → Prop} (F : CallFix p m c qb_T_standsAlone 2 s args qtb "CaptureSubtypes$Types") (hR : 0 ≤ R.frames ∧ 0 ≤ R.locals) (hK : va_K D qcl [(cI, .int)] s) (hN : qnests xns s) (hA : ∀ q, s.heap.size ≤ q → A q) {res : Bool} {S : (Nat → Nat → Int32)} (hQ : ∀ (H : Heap) (locs : List Loc) (pc : Nat) (ls : Array Slot), decode qb_T_standsAlone pc = .ok (.ireturn, 1) → xW D ad cI A s.heap S H locs → W p l e R s m args below meth c H locs 0 0 Q (F0 m pc ls [.int (qB res)])) (a1 : Int32) (hM : f_T_standsAlone S a1 = some res) {H : Heap} {locs : List Loc} {ls : Array Slot} (w : xW D ad cI A s.heap S H locs) (hl : lv_has ls 2 [(0, .ref (ad 2)), (1, .int a1)]) : W p l e R s m args below meth c H locs 0 0 Q (F0 m 0 ls []) := by
  unfold f_T_standsAlone at hM
  refine lv_iload_n F.1 F.2.1 qd_T_standsAlone_0 rfl (lv_at hl 1 rfl) ?_
  refine lv_if_lt (tgt := 26) F.1 F.2.1 qd_T_standsAlone_1 (by decide) (fun hc1 => ?_) (fun hc1 => ?_)
  · rw [if_pos hc1] at hM
    refine lv_iconst (v := 0) F.1 F.2.1 qd_T_standsAlone_26 (by decide) ?_
    cases hM
    exact hQ _ _ _ _ qd_T_standsAlone_27 w
  · rw [if_neg hc1] at hM
    refine lv_iload_n F.1 F.2.1 qd_T_standsAlone_4 rfl (lv_at hl 1 rfl) ?_
    refine lv_aload_n F.1 F.2.1 qd_T_standsAlone_5 rfl (lv_at hl 0 rfl) ?_
    refine xg_T_kept F hK w qk_87 qd_T_standsAlone_6 ?_
    refine lv_icmp_ge (tgt := 26) F.1 F.2.1 qd_T_standsAlone_9 (by decide) (fun hc2 => ?_) (fun hc2 => ?_)
    · rw [if_pos hc2] at hM
      refine lv_iconst (v := 0) F.1 F.2.1 qd_T_standsAlone_26 (by decide) ?_
      cases hM
      exact hQ _ _ _ _ qd_T_standsAlone_27 w
    · rw [if_neg hc2] at hM
      refine lv_aload_n F.1 F.2.1 qd_T_standsAlone_12 rfl (lv_at hl 0 rfl) ?_
      refine xg_T_sorts F hK w qk_90 qd_T_standsAlone_13 ?_
      refine lv_iload_n F.1 F.2.1 qd_T_standsAlone_16 rfl (lv_at hl 1 rfl) ?_
      obtain ⟨hi3, hM⟩ := qck_ok hM
      refine xl_T_sorts F hK w hi3 qd_T_standsAlone_17 ?_
      refine lv_iconst (v := 5) F.1 F.2.1 qd_T_standsAlone_18 (by decide) ?_
      refine lv_icmp_eq (tgt := 26) F.1 F.2.1 qd_T_standsAlone_19 (by decide) (fun hc4 => ?_) (fun hc4 => ?_)
      · rw [if_pos hc4] at hM
        refine lv_iconst (v := 0) F.1 F.2.1 qd_T_standsAlone_26 (by decide) ?_
        cases hM
        exact hQ _ _ _ _ qd_T_standsAlone_27 w
      · rw [if_neg hc4] at hM
        refine lv_iconst (v := 1) F.1 F.2.1 qd_T_standsAlone_22 (by decide) ?_
        refine lv_goto (tgt := 27) F.1 F.2.1 qd_T_standsAlone_23 (by decide) ?_
        cases hM
        exact hQ _ _ _ _ qd_T_standsAlone_27 w
set_option maxRecDepth 100000 in
theorem c_T_standsAlone (l : Launch) (D : va_G) (ad : Nat → Nat) (cI : ClassId) {S : (Nat → Nat → Int32)} {a1 : Int32} {res : Bool} (hM : f_T_standsAlone S a1 = some res) : xMi l qy_T_standsAlone qb_T_standsAlone 2 (some .boolean) { frames := 0, cells := 0, slots := 0, locals := 0 } D ad cI S [.ref (ad 2), .int a1] (qB res) S := x_ofz (by decide +kernel) (Nat.le_of_ble_eq_true rfl) (fun p e s m args below meth c Q A ls F hK hN hA w hl hQ => t_T_standsAlone F ⟨Nat.le_refl _, Nat.le_refl _⟩ hK hN hA hQ a1 hM w hl)
-- X_row
def f_X_row (S : (Nat → Nat → Int32)) (a1 : Int32) : Option (Int32 × (Nat → Nat → Int32)) := (f_T_standsAlone S a1).bind (fun q1 => if (qB q1) = 0 then (some ((-2 : Int32), S)) else (if a1 = (2 : Int32) then (some ((-2 : Int32), S)) else ((f_T_keep S (4 : Int32) (-1 : Int32) a1 (-1 : Int32)).bind (fun q5 => some (q5.1, q5.2)))))
set_option maxRecDepth 100000 in
set_option maxHeartbeats 4000000 in
theorem t_X_row {p : Program} {l : Launch} {e : Env} {R : Room} {s : State} {m : MethodId} {args : Array Value} {below : List Frame} {meth : Method} {c : Code} {Q : State → Prop} {D : va_G} {ad : Nat → Nat} {cI : ClassId} {A : Nat → Prop} (F : CallFix p m c qb_X_row 2 s args qtb "CaptureSubtypes") (hR : 3 ≤ R.frames ∧ 94 ≤ R.locals) (hK : va_K D qcl [(cI, .int)] s) (hN : qnests xns s) (hA : ∀ q, s.heap.size ≤ q → A q) {res : (Int32 × (Nat → Nat → Int32))} (hQ : ∀ (H : Heap) (locs : List Loc) (pc : Nat) (ls : Array Slot), decode qb_X_row pc = .ok (.ireturn, 1) → xW D ad cI A s.heap res.2 H locs → W p l e R s m args below meth c H locs 0 0 Q (F0 m pc ls [.int res.1])) (S : (Nat → Nat → Int32)) (a1 : Int32) (hM : f_X_row S a1 = some res) {H : Heap} {locs : List Loc} {ls : Array Slot} (w : xW D ad cI A s.heap S H locs) (hl : lv_has ls 2 [(0, .ref (ad 0)), (1, .int a1)]) : W p l e R s m args below meth c H locs 0 0 Q (F0 m 0 ls []) := by
  unfold f_X_row at hM
  refine lv_aload_n F.1 F.2.1 qd_X_row_0 rfl (lv_at hl 0 rfl) ?_
  refine xg_X_types F hK w qk_168 qd_X_row_1 ?_
  refine lv_iload_n F.1 F.2.1 qd_X_row_4 rfl (lv_at hl 1 rfl) ?_
  obtain ⟨q1, hq2, hM⟩ := qbd hM
  refine x_calli F hK hN hA w (c_T_standsAlone l D ad cI hq2) qk_415 qk_416 qk_417 qk_3 qk_418 qv_T_standsAlone rfl rfl ⟨Nat.le_trans (by decide) hR.1, Nat.le_trans (by decide) hR.2⟩ (ci := 1) rfl (j := 2) rfl hl.1 rfl (Nat.le_of_ble_eq_true rfl) qd_X_row_5 (fun H locs w => ?_)
  refine lv_if_eq (tgt := 16) F.1 F.2.1 qd_X_row_8 (by decide) (fun hc3 => ?_) (fun hc3 => ?_)
  · rw [if_pos hc3] at hM
    refine lv_bipush (v := (-2)) F.1 F.2.1 qd_X_row_16 (by decide) ?_
    cases hM
    exact hQ _ _ _ _ qd_X_row_18 w
  · rw [if_neg hc3] at hM
    refine lv_iload_n F.1 F.2.1 qd_X_row_11 rfl (lv_at hl 1 rfl) ?_
    refine lv_iconst (v := 2) F.1 F.2.1 qd_X_row_12 (by decide) ?_
    refine lv_icmp_ne (tgt := 19) F.1 F.2.1 qd_X_row_13 (by decide) (fun hc4 => ?_) (fun hc4 => ?_)
    · rw [if_neg hc4] at hM
      refine lv_aload_n F.1 F.2.1 qd_X_row_19 rfl (lv_at hl 0 rfl) ?_
      refine xg_X_types F hK w qk_168 qd_X_row_20 ?_
      refine lv_iconst (v := 4) F.1 F.2.1 qd_X_row_23 (by decide) ?_
      refine lv_iconst (v := (-1)) F.1 F.2.1 qd_X_row_24 (by decide) ?_
      refine lv_iload_n F.1 F.2.1 qd_X_row_25 rfl (lv_at hl 1 rfl) ?_
      refine lv_iconst (v := (-1)) F.1 F.2.1 qd_X_row_26 (by decide) ?_
      obtain ⟨q5, hq6, hM⟩ := qbd hM
      refine x_calli F hK hN hA w (c_T_keep l D ad cI hq6) qk_390 qk_77 qk_78 qk_3 qk_79 qv_T_keep rfl rfl ⟨Nat.le_trans (by decide) hR.1, Nat.le_trans (by decide) hR.2⟩ (ci := 1) rfl (j := 2) rfl hl.1 rfl (Nat.le_of_ble_eq_true rfl) qd_X_row_27 (fun H locs w => ?_)
      cases hM
      exact hQ _ _ _ _ qd_X_row_30 w
    · rw [if_pos hc4] at hM
      refine lv_bipush (v := (-2)) F.1 F.2.1 qd_X_row_16 (by decide) ?_
      cases hM
      exact hQ _ _ _ _ qd_X_row_18 w
set_option maxRecDepth 100000 in
theorem c_X_row (l : Launch) (D : va_G) (ad : Nat → Nat) (cI : ClassId) {S : (Nat → Nat → Int32)} {a1 : Int32} {res : (Int32 × (Nat → Nat → Int32))} (hM : f_X_row S a1 = some res) : xMi l qy_X_row qb_X_row 2 (some .int) { frames := 3, cells := 0, slots := 0, locals := 94 } D ad cI S [.ref (ad 0), .int a1] res.1 res.2 := x_ofi (by decide +kernel) (Nat.le_of_ble_eq_true rfl) (fun p e s m args below meth c Q A ls F hK hN hA w hl hQ => t_X_row F ⟨Nat.le_refl _, Nat.le_refl _⟩ hK hN hA hQ S a1 hM w hl)
-- X_count
def f_X_count (S : (Nat → Nat → Int32)) (a1 : Int32) : Option Int32 := if a1 = 0 then (some (S 0 0)) else (if a1 = (1 : Int32) then (some (S 10 0)) else (some (-2 : Int32)))
set_option maxRecDepth 100000 in
set_option maxHeartbeats 4000000 in
theorem t_X_count {p : Program} {l : Launch} {e : Env} {R : Room} {s : State} {m : MethodId} {args : Array Value} {below : List Frame} {meth : Method} {c : Code} {Q : State → Prop} {D : va_G} {ad : Nat → Nat} {cI : ClassId} {A : Nat → Prop} (F : CallFix p m c qb_X_count 2 s args qtb "CaptureSubtypes") (hR : 0 ≤ R.frames ∧ 0 ≤ R.locals) (hK : va_K D qcl [(cI, .int)] s) (hN : qnests xns s) (hA : ∀ q, s.heap.size ≤ q → A q) {res : Int32} {S : (Nat → Nat → Int32)} (hQ : ∀ (H : Heap) (locs : List Loc) (pc : Nat) (ls : Array Slot), decode qb_X_count pc = .ok (.ireturn, 1) → xW D ad cI A s.heap S H locs → W p l e R s m args below meth c H locs 0 0 Q (F0 m pc ls [.int res])) (a1 : Int32) (hM : f_X_count S a1 = some res) {H : Heap} {locs : List Loc} {ls : Array Slot} (w : xW D ad cI A s.heap S H locs) (hl : lv_has ls 2 [(0, .ref (ad 0)), (1, .int a1)]) : W p l e R s m args below meth c H locs 0 0 Q (F0 m 0 ls []) := by
  unfold f_X_count at hM
  refine lv_iload_n F.1 F.2.1 qd_X_count_0 rfl (lv_at hl 1 rfl) ?_
  refine lv_if_ne (tgt := 12) F.1 F.2.1 qd_X_count_1 (by decide) (fun hc1 => ?_) (fun hc1 => ?_)
  · rw [if_neg hc1] at hM
    refine lv_iload_n F.1 F.2.1 qd_X_count_12 rfl (lv_at hl 1 rfl) ?_
    refine lv_iconst (v := 1) F.1 F.2.1 qd_X_count_13 (by decide) ?_
    refine lv_icmp_ne (tgt := 27) F.1 F.2.1 qd_X_count_14 (by decide) (fun hc2 => ?_) (fun hc2 => ?_)
    · rw [if_neg hc2] at hM
      refine lv_bipush (v := (-2)) F.1 F.2.1 qd_X_count_27 (by decide) ?_
      cases hM
      exact hQ _ _ _ _ qd_X_count_29 w
    · rw [if_pos hc2] at hM
      refine lv_aload_n F.1 F.2.1 qd_X_count_17 rfl (lv_at hl 0 rfl) ?_
      refine xg_X_types F hK w qk_168 qd_X_count_18 ?_
      refine xg_T_kept F hK w qk_88 qd_X_count_21 ?_
      refine lv_goto (tgt := 29) F.1 F.2.1 qd_X_count_24 (by decide) ?_
      cases hM
      exact hQ _ _ _ _ qd_X_count_29 w
  · rw [if_pos hc1] at hM
    refine lv_aload_n F.1 F.2.1 qd_X_count_4 rfl (lv_at hl 0 rfl) ?_
    refine xg_X_classes F hK w qk_167 qd_X_count_5 ?_
    refine xg_K_count F hK w qk_32 qd_X_count_8 ?_
    cases hM
    exact hQ _ _ _ _ qd_X_count_11 w
set_option maxRecDepth 100000 in
theorem c_X_count (l : Launch) (D : va_G) (ad : Nat → Nat) (cI : ClassId) {S : (Nat → Nat → Int32)} {a1 : Int32} {res : Int32} (hM : f_X_count S a1 = some res) : xMi l qy_X_count qb_X_count 2 (some .int) { frames := 0, cells := 0, slots := 0, locals := 0 } D ad cI S [.ref (ad 0), .int a1] res S := x_ofi (by decide +kernel) (Nat.le_of_ble_eq_true rfl) (fun p e s m args below meth c Q A ls F hK hN hA w hl hQ => t_X_count F ⟨Nat.le_refl _, Nat.le_refl _⟩ hK hN hA hQ a1 hM w hl)
-- T_depthOf
def f_T_depthOf (S : (Nat → Nat → Int32)) (a1 : Int32) : Option Int32 := if a1 < 0 then (some (0 : Int32)) else (if (S 11 0) ≤ a1 then (some (0 : Int32)) else (qck (qin a1 1024) (some (S 16 a1.toNatClampNeg))))
set_option maxRecDepth 100000 in
set_option maxHeartbeats 4000000 in
theorem t_T_depthOf {p : Program} {l : Launch} {e : Env} {R : Room} {s : State} {m : MethodId} {args : Array Value} {below : List Frame} {meth : Method} {c : Code} {Q : State → Prop} {D : va_G} {ad : Nat → Nat} {cI : ClassId} {A : Nat → Prop} (F : CallFix p m c qb_T_depthOf 2 s args qtb "CaptureSubtypes$Types") (hR : 0 ≤ R.frames ∧ 0 ≤ R.locals) (hK : va_K D qcl [(cI, .int)] s) (hN : qnests xns s) (hA : ∀ q, s.heap.size ≤ q → A q) {res : Int32} {S : (Nat → Nat → Int32)} (hQ : ∀ (H : Heap) (locs : List Loc) (pc : Nat) (ls : Array Slot), decode qb_T_depthOf pc = .ok (.ireturn, 1) → xW D ad cI A s.heap S H locs → W p l e R s m args below meth c H locs 0 0 Q (F0 m pc ls [.int res])) (a1 : Int32) (hM : f_T_depthOf S a1 = some res) {H : Heap} {locs : List Loc} {ls : Array Slot} (w : xW D ad cI A s.heap S H locs) (hl : lv_has ls 2 [(0, .ref (ad 2)), (1, .int a1)]) : W p l e R s m args below meth c H locs 0 0 Q (F0 m 0 ls []) := by
  unfold f_T_depthOf at hM
  refine lv_iload_n F.1 F.2.1 qd_T_depthOf_0 rfl (lv_at hl 1 rfl) ?_
  refine lv_if_lt (tgt := 21) F.1 F.2.1 qd_T_depthOf_1 (by decide) (fun hc1 => ?_) (fun hc1 => ?_)
  · rw [if_pos hc1] at hM
    refine lv_iconst (v := 0) F.1 F.2.1 qd_T_depthOf_21 (by decide) ?_
    cases hM
    exact hQ _ _ _ _ qd_T_depthOf_22 w
  · rw [if_neg hc1] at hM
    refine lv_iload_n F.1 F.2.1 qd_T_depthOf_4 rfl (lv_at hl 1 rfl) ?_
    refine lv_aload_n F.1 F.2.1 qd_T_depthOf_5 rfl (lv_at hl 0 rfl) ?_
    refine xg_T_top F hK w qk_89 qd_T_depthOf_6 ?_
    refine lv_icmp_ge (tgt := 21) F.1 F.2.1 qd_T_depthOf_9 (by decide) (fun hc2 => ?_) (fun hc2 => ?_)
    · rw [if_pos hc2] at hM
      refine lv_iconst (v := 0) F.1 F.2.1 qd_T_depthOf_21 (by decide) ?_
      cases hM
      exact hQ _ _ _ _ qd_T_depthOf_22 w
    · rw [if_neg hc2] at hM
      refine lv_aload_n F.1 F.2.1 qd_T_depthOf_12 rfl (lv_at hl 0 rfl) ?_
      refine xg_T_depths F hK w qk_94 qd_T_depthOf_13 ?_
      refine lv_iload_n F.1 F.2.1 qd_T_depthOf_16 rfl (lv_at hl 1 rfl) ?_
      obtain ⟨hi3, hM⟩ := qck_ok hM
      refine xl_T_depths F hK w hi3 qd_T_depthOf_17 ?_
      refine lv_goto (tgt := 22) F.1 F.2.1 qd_T_depthOf_18 (by decide) ?_
      cases hM
      exact hQ _ _ _ _ qd_T_depthOf_22 w
set_option maxRecDepth 100000 in
theorem c_T_depthOf (l : Launch) (D : va_G) (ad : Nat → Nat) (cI : ClassId) {S : (Nat → Nat → Int32)} {a1 : Int32} {res : Int32} (hM : f_T_depthOf S a1 = some res) : xMi l qy_T_depthOf qb_T_depthOf 2 (some .int) { frames := 0, cells := 0, slots := 0, locals := 0 } D ad cI S [.ref (ad 2), .int a1] res S := x_ofi (by decide +kernel) (Nat.le_of_ble_eq_true rfl) (fun p e s m args below meth c Q A ls F hK hN hA w hl hQ => t_T_depthOf F ⟨Nat.le_refl _, Nat.le_refl _⟩ hK hN hA hQ a1 hM w hl)
-- X_told
def f_X_told (S : (Nat → Nat → Int32)) (a1 a2 : Int32) : Option Int32 := (f_T_has S a1).bind (fun q1 => if (qB q1) = 0 then (some (-2 : Int32)) else (if a2 = 0 then ((f_T_sortOf S a1).bind (fun q5 => some q5)) else (if a2 = 1 then ((f_T_ownerOf S a1).bind (fun q8 => some q8)) else (if a2 = 2 then ((f_T_firstOf S a1).bind (fun q11 => some q11)) else (if a2 = 3 then ((f_T_secondOf S a1).bind (fun q14 => some q14)) else (if a2 = 4 then ((f_T_depthOf S a1).bind (fun q17 => some q17)) else (some (-2 : Int32))))))))
set_option maxRecDepth 100000 in
set_option maxHeartbeats 4000000 in
theorem t_X_told {p : Program} {l : Launch} {e : Env} {R : Room} {s : State} {m : MethodId} {args : Array Value} {below : List Frame} {meth : Method} {c : Code} {Q : State → Prop} {D : va_G} {ad : Nat → Nat} {cI : ClassId} {A : Nat → Prop} (F : CallFix p m c qb_X_told 3 s args qtb "CaptureSubtypes") (hR : 1 ≤ R.frames ∧ 21 ≤ R.locals) (hK : va_K D qcl [(cI, .int)] s) (hN : qnests xns s) (hA : ∀ q, s.heap.size ≤ q → A q) {res : Int32} {S : (Nat → Nat → Int32)} (hQ : ∀ (H : Heap) (locs : List Loc) (pc : Nat) (ls : Array Slot), decode qb_X_told pc = .ok (.ireturn, 1) → xW D ad cI A s.heap S H locs → W p l e R s m args below meth c H locs 0 0 Q (F0 m pc ls [.int res])) (a1 a2 : Int32) (hM : f_X_told S a1 a2 = some res) {H : Heap} {locs : List Loc} {ls : Array Slot} (w : xW D ad cI A s.heap S H locs) (hl : lv_has ls 3 [(0, .ref (ad 0)), (1, .int a1), (2, .int a2)]) : W p l e R s m args below meth c H locs 0 0 Q (F0 m 0 ls []) := by
  unfold f_X_told at hM
  refine lv_aload_n F.1 F.2.1 qd_X_told_0 rfl (lv_at hl 0 rfl) ?_
  refine xg_X_types F hK w qk_168 qd_X_told_1 ?_
  refine lv_iload_n F.1 F.2.1 qd_X_told_4 rfl (lv_at hl 1 rfl) ?_
  obtain ⟨q1, hq2, hM⟩ := qbd hM
  refine x_calli F hK hN hA w (c_T_has l D ad cI hq2) qk_261 qk_262 qk_263 qk_3 qk_264 qv_T_has rfl rfl ⟨Nat.le_trans (by decide) hR.1, Nat.le_trans (by decide) hR.2⟩ (ci := 1) rfl (j := 2) rfl hl.1 rfl (Nat.le_of_ble_eq_true rfl) qd_X_told_5 (fun H locs w => ?_)
  refine lv_if_ne (tgt := 14) F.1 F.2.1 qd_X_told_8 (by decide) (fun hc3 => ?_) (fun hc3 => ?_)
  · rw [if_neg hc3] at hM
    refine lv_iload_n F.1 F.2.1 qd_X_told_14 rfl (lv_at hl 2 rfl) ?_
    by_cases hs4 : a2 = 0
    · rw [if_pos hs4] at hM
      rw [hs4]
      refine lv_tableIn (tgt := 48) F.1 F.2.1 qd_X_told_15 (by decide) (by decide) rfl (by decide) ?_
      refine lv_aload_n F.1 F.2.1 qd_X_told_48 rfl (lv_at hl 0 rfl) ?_
      refine xg_X_types F hK w qk_168 qd_X_told_49 ?_
      refine lv_iload_n F.1 F.2.1 qd_X_told_52 rfl (lv_at hl 1 rfl) ?_
      obtain ⟨q5, hq6, hM⟩ := qbd hM
      refine x_calli F hK hN hA w (c_T_sortOf l D ad cI hq6) qk_377 qk_270 qk_271 qk_3 qk_272 qv_T_sortOf rfl rfl ⟨Nat.le_trans (by decide) hR.1, Nat.le_trans (by decide) hR.2⟩ (ci := 1) rfl (j := 2) rfl hl.1 rfl (Nat.le_of_ble_eq_true rfl) qd_X_told_53 (fun H locs w => ?_)
      cases hM
      exact hQ _ _ _ _ qd_X_told_56 w
    · rw [if_neg hs4] at hM
      by_cases hs7 : a2 = 1
      · rw [if_pos hs7] at hM
        rw [hs7]
        refine lv_tableIn (tgt := 57) F.1 F.2.1 qd_X_told_15 (by decide) (by decide) rfl (by decide) ?_
        refine lv_aload_n F.1 F.2.1 qd_X_told_57 rfl (lv_at hl 0 rfl) ?_
        refine xg_X_types F hK w qk_168 qd_X_told_58 ?_
        refine lv_iload_n F.1 F.2.1 qd_X_told_61 rfl (lv_at hl 1 rfl) ?_
        obtain ⟨q8, hq9, hM⟩ := qbd hM
        refine x_calli F hK hN hA w (c_T_ownerOf l D ad cI hq9) qk_273 qk_274 qk_275 qk_3 qk_276 qv_T_ownerOf rfl rfl ⟨Nat.le_trans (by decide) hR.1, Nat.le_trans (by decide) hR.2⟩ (ci := 1) rfl (j := 2) rfl hl.1 rfl (Nat.le_of_ble_eq_true rfl) qd_X_told_62 (fun H locs w => ?_)
        cases hM
        exact hQ _ _ _ _ qd_X_told_65 w
      · rw [if_neg hs7] at hM
        by_cases hs10 : a2 = 2
        · rw [if_pos hs10] at hM
          rw [hs10]
          refine lv_tableIn (tgt := 66) F.1 F.2.1 qd_X_told_15 (by decide) (by decide) rfl (by decide) ?_
          refine lv_aload_n F.1 F.2.1 qd_X_told_66 rfl (lv_at hl 0 rfl) ?_
          refine xg_X_types F hK w qk_168 qd_X_told_67 ?_
          refine lv_iload_n F.1 F.2.1 qd_X_told_70 rfl (lv_at hl 1 rfl) ?_
          obtain ⟨q11, hq12, hM⟩ := qbd hM
          refine x_calli F hK hN hA w (c_T_firstOf l D ad cI hq12) qk_378 qk_342 qk_343 qk_3 qk_344 qv_T_firstOf rfl rfl ⟨Nat.le_trans (by decide) hR.1, Nat.le_trans (by decide) hR.2⟩ (ci := 1) rfl (j := 2) rfl hl.1 rfl (Nat.le_of_ble_eq_true rfl) qd_X_told_71 (fun H locs w => ?_)
          cases hM
          exact hQ _ _ _ _ qd_X_told_74 w
        · rw [if_neg hs10] at hM
          by_cases hs13 : a2 = 3
          · rw [if_pos hs13] at hM
            rw [hs13]
            refine lv_tableIn (tgt := 75) F.1 F.2.1 qd_X_told_15 (by decide) (by decide) rfl (by decide) ?_
            refine lv_aload_n F.1 F.2.1 qd_X_told_75 rfl (lv_at hl 0 rfl) ?_
            refine xg_X_types F hK w qk_168 qd_X_told_76 ?_
            refine lv_iload_n F.1 F.2.1 qd_X_told_79 rfl (lv_at hl 1 rfl) ?_
            obtain ⟨q14, hq15, hM⟩ := qbd hM
            refine x_calli F hK hN hA w (c_T_secondOf l D ad cI hq15) qk_427 qk_350 qk_351 qk_3 qk_352 qv_T_secondOf rfl rfl ⟨Nat.le_trans (by decide) hR.1, Nat.le_trans (by decide) hR.2⟩ (ci := 1) rfl (j := 2) rfl hl.1 rfl (Nat.le_of_ble_eq_true rfl) qd_X_told_80 (fun H locs w => ?_)
            cases hM
            exact hQ _ _ _ _ qd_X_told_83 w
          · rw [if_neg hs13] at hM
            by_cases hs16 : a2 = 4
            · rw [if_pos hs16] at hM
              rw [hs16]
              refine lv_tableIn (tgt := 84) F.1 F.2.1 qd_X_told_15 (by decide) (by decide) rfl (by decide) ?_
              refine lv_aload_n F.1 F.2.1 qd_X_told_84 rfl (lv_at hl 0 rfl) ?_
              refine xg_X_types F hK w qk_168 qd_X_told_85 ?_
              refine lv_iload_n F.1 F.2.1 qd_X_told_88 rfl (lv_at hl 1 rfl) ?_
              obtain ⟨q17, hq18, hM⟩ := qbd hM
              refine x_calli F hK hN hA w (c_T_depthOf l D ad cI hq18) qk_428 qk_429 qk_430 qk_3 qk_431 qv_T_depthOf rfl rfl ⟨Nat.le_trans (by decide) hR.1, Nat.le_trans (by decide) hR.2⟩ (ci := 1) rfl (j := 2) rfl hl.1 rfl (Nat.le_of_ble_eq_true rfl) qd_X_told_89 (fun H locs w => ?_)
              cases hM
              exact hQ _ _ _ _ qd_X_told_92 w
            · rw [if_neg hs16] at hM
              refine lv_tableOut (tgt := 93) F.1 F.2.1 qd_X_told_15 (by have z0 := lv_neT hs4 (a := 0) rfl; have z1 := lv_neT hs7 (a := 1) rfl; have z2 := lv_neT hs10 (a := 2) rfl; have z3 := lv_neT hs13 (a := 3) rfl; have z4 := lv_neT hs16 (a := 4) rfl; omega) (by decide) ?_
              refine lv_bipush (v := (-2)) F.1 F.2.1 qd_X_told_93 (by decide) ?_
              cases hM
              exact hQ _ _ _ _ qd_X_told_95 w
  · rw [if_pos hc3] at hM
    refine lv_bipush (v := (-2)) F.1 F.2.1 qd_X_told_11 (by decide) ?_
    cases hM
    exact hQ _ _ _ _ qd_X_told_13 w
set_option maxRecDepth 100000 in
theorem c_X_told (l : Launch) (D : va_G) (ad : Nat → Nat) (cI : ClassId) {S : (Nat → Nat → Int32)} {a1 a2 : Int32} {res : Int32} (hM : f_X_told S a1 a2 = some res) : xMi l qy_X_told qb_X_told 3 (some .int) { frames := 1, cells := 0, slots := 0, locals := 21 } D ad cI S [.ref (ad 0), .int a1, .int a2] res S := x_ofi (by decide +kernel) (Nat.le_of_ble_eq_true rfl) (fun p e s m args below meth c Q A ls F hK hN hA w hl hQ => t_X_told F ⟨Nat.le_refl _, Nat.le_refl _⟩ hK hN hA hQ a1 a2 hM w hl)
-- K_heirCount
def fb_K_heirCount_4 (k_4 : (Nat → Nat → Int32) → Int32 → Int32 → Int32 → Option Int32) (S : (Nat → Nat → Int32)) (v1 v2 v3 : Int32) : Option Int32 := if (S 0 0) ≤ v3 then (some v2) else ((f_K_isHeir S v3 v1).bind (fun q2 => if (qB q2) = 0 then (k_4 S v1 v2 (v3 + (1 : Int32))) else (k_4 S v1 (v2 + (1 : Int32)) (v3 + (1 : Int32)))))
def f_K_heirCount_4 : Nat → (Nat → Nat → Int32) → Int32 → Int32 → Int32 → Option Int32
  | 0 => fun _ _ _ _ => none
  | n + 1 => fun S v1 v2 v3 => fb_K_heirCount_4 (f_K_heirCount_4 n) S v1 v2 v3
def f_K_heirCount (S : (Nat → Nat → Int32)) (a1 : Int32) : Option Int32 := f_K_heirCount_4  qfu S a1 (0 : Int32) (0 : Int32)
set_option maxRecDepth 100000 in
set_option maxHeartbeats 4000000 in
theorem tb_K_heirCount_4 {p : Program} {l : Launch} {e : Env} {R : Room} {s : State} {m : MethodId} {args : Array Value} {below : List Frame} {meth : Method} {c : Code} {Q : State → Prop} {D : va_G} {ad : Nat → Nat} {cI : ClassId} {A : Nat → Prop} (F : CallFix p m c qb_K_heirCount 4 s args qtb "CaptureSubtypes$Classes") (hR : 1 ≤ R.frames ∧ 22 ≤ R.locals) (hK : va_K D qcl [(cI, .int)] s) (hN : qnests xns s) (hA : ∀ q, s.heap.size ≤ q → A q) {res : Int32} {S : (Nat → Nat → Int32)} (hQ : ∀ (H : Heap) (locs : List Loc) (pc : Nat) (ls : Array Slot), decode qb_K_heirCount pc = .ok (.ireturn, 1) → xW D ad cI A s.heap S H locs → W p l e R s m args below meth c H locs 0 0 Q (F0 m pc ls [.int res])) {k_4 : (Nat → Nat → Int32) → Int32 → Int32 → Int32 → Option Int32} (hk_4 : ∀  (v1 v2 v3 : Int32), k_4 S v1 v2 v3 = some res → ∀ {H : Heap} {locs : List Loc} {ls : Array Slot}, xW D ad cI A s.heap S H locs → lv_has ls 4 [(0, .ref (ad 1)), (1, .int v1), (2, .int v2), (3, .int v3)] → W p l e R s m args below meth c H locs 0 0 Q (F0 m 4 ls [])) (v1 v2 v3 : Int32) (hM : fb_K_heirCount_4 k_4 S v1 v2 v3 = some res) {H : Heap} {locs : List Loc} {ls : Array Slot} (w : xW D ad cI A s.heap S H locs) (hl : lv_has ls 4 [(0, .ref (ad 1)), (1, .int v1), (2, .int v2), (3, .int v3)]) : W p l e R s m args below meth c H locs 0 0 Q (F0 m 4 ls []) := by
  unfold fb_K_heirCount_4 at hM
  refine lv_iload_n F.1 F.2.1 qd_K_heirCount_4 rfl (lv_at hl 3 rfl) ?_
  refine lv_aload_n F.1 F.2.1 qd_K_heirCount_5 rfl (lv_at hl 0 rfl) ?_
  refine xg_K_count F hK w qk_31 qd_K_heirCount_6 ?_
  refine lv_icmp_ge (tgt := 30) F.1 F.2.1 qd_K_heirCount_9 (by decide) (fun hc1 => ?_) (fun hc1 => ?_)
  · rw [if_pos hc1] at hM
    refine lv_iload_n F.1 F.2.1 qd_K_heirCount_30 rfl (lv_at hl 2 rfl) ?_
    cases hM
    exact hQ _ _ _ _ qd_K_heirCount_31 w
  · rw [if_neg hc1] at hM
    refine lv_aload_n F.1 F.2.1 qd_K_heirCount_12 rfl (lv_at hl 0 rfl) ?_
    refine lv_iload_n F.1 F.2.1 qd_K_heirCount_13 rfl (lv_at hl 3 rfl) ?_
    refine lv_iload_n F.1 F.2.1 qd_K_heirCount_14 rfl (lv_at hl 1 rfl) ?_
    obtain ⟨q2, hq3, hM⟩ := qbd hM
    refine x_calli F hK hN hA w (c_K_isHeir l D ad cI hq3) qk_237 qk_239 qs_K_isHeir qk_2 qk_240 qv_K_isHeir rfl rfl ⟨Nat.le_trans (by decide) hR.1, Nat.le_trans (by decide) hR.2⟩ (ci := 0) rfl (j := 1) rfl hl.1 rfl (Nat.le_of_ble_eq_true rfl) qd_K_heirCount_15 (fun H locs w => ?_)
    refine lv_if_eq (tgt := 24) F.1 F.2.1 qd_K_heirCount_18 (by decide) (fun hc4 => ?_) (fun hc4 => ?_)
    · rw [if_pos hc4] at hM
      refine lv_iinc (v := (v3 + (1 : Int32))) (lv' := [(3, .int (v3 + (1 : Int32))), (0, .ref (ad 1)), (1, .int v1), (2, .int v2)]) F.1 F.2.1 qd_K_heirCount_24 hl (k := 3) rfl rfl (by decide) rfl (fun ls hl => ?_)
      refine lv_goto (tgt := 4) F.1 F.2.1 qd_K_heirCount_27 (by decide) ?_
      exact hk_4 _ _ _ hM w (lv_sub hl [1, 2, 3, 0] rfl)
    · rw [if_neg hc4] at hM
      refine lv_iinc (v := (v2 + (1 : Int32))) (lv' := [(2, .int (v2 + (1 : Int32))), (0, .ref (ad 1)), (1, .int v1), (3, .int v3)]) F.1 F.2.1 qd_K_heirCount_21 hl (k := 2) rfl rfl (by decide) rfl (fun ls hl => ?_)
      refine lv_iinc (v := (v3 + (1 : Int32))) (lv' := [(3, .int (v3 + (1 : Int32))), (2, .int (v2 + (1 : Int32))), (0, .ref (ad 1)), (1, .int v1)]) F.1 F.2.1 qd_K_heirCount_24 hl (k := 3) rfl rfl (by decide) rfl (fun ls hl => ?_)
      refine lv_goto (tgt := 4) F.1 F.2.1 qd_K_heirCount_27 (by decide) ?_
      exact hk_4 _ _ _ hM w (lv_sub hl [2, 3, 1, 0] rfl)
set_option maxRecDepth 100000 in
set_option maxHeartbeats 4000000 in
theorem t_K_heirCount_4 {p : Program} {l : Launch} {e : Env} {R : Room} {s : State} {m : MethodId} {args : Array Value} {below : List Frame} {meth : Method} {c : Code} {Q : State → Prop} {D : va_G} {ad : Nat → Nat} {cI : ClassId} {A : Nat → Prop} (F : CallFix p m c qb_K_heirCount 4 s args qtb "CaptureSubtypes$Classes") (hR : 1 ≤ R.frames ∧ 22 ≤ R.locals) (hK : va_K D qcl [(cI, .int)] s) (hN : qnests xns s) (hA : ∀ q, s.heap.size ≤ q → A q) {res : Int32} {S : (Nat → Nat → Int32)} (hQ : ∀ (H : Heap) (locs : List Loc) (pc : Nat) (ls : Array Slot), decode qb_K_heirCount pc = .ok (.ireturn, 1) → xW D ad cI A s.heap S H locs → W p l e R s m args below meth c H locs 0 0 Q (F0 m pc ls [.int res])) : ∀ (n : Nat) (v1 v2 v3 : Int32) (hM : f_K_heirCount_4 n S v1 v2 v3 = some res) {H : Heap} {locs : List Loc} {ls : Array Slot} (w : xW D ad cI A s.heap S H locs) (hl : lv_has ls 4 [(0, .ref (ad 1)), (1, .int v1), (2, .int v2), (3, .int v3)]), W p l e R s m args below meth c H locs 0 0 Q (F0 m 4 ls []) := by
  intro n
  induction n with
  | zero => intro v1 v2 v3 hM; exact absurd hM (by simp [f_K_heirCount_4])
  | succ n ih => intro v1 v2 v3 hM H locs ls w hl; exact tb_K_heirCount_4 F hR hK hN hA hQ (k_4 := f_K_heirCount_4 n) (fun v1 v2 v3 hM H locs ls w hl => ih v1 v2 v3 hM w hl) v1 v2 v3 hM w hl
set_option maxRecDepth 100000 in
set_option maxHeartbeats 4000000 in
theorem t_K_heirCount {p : Program} {l : Launch} {e : Env} {R : Room} {s : State} {m : MethodId} {args : Array Value} {below : List Frame} {meth : Method} {c : Code} {Q : State → Prop} {D : va_G} {ad : Nat → Nat} {cI : ClassId} {A : Nat → Prop} (F : CallFix p m c qb_K_heirCount 4 s args qtb "CaptureSubtypes$Classes") (hR : 1 ≤ R.frames ∧ 22 ≤ R.locals) (hK : va_K D qcl [(cI, .int)] s) (hN : qnests xns s) (hA : ∀ q, s.heap.size ≤ q → A q) {res : Int32} {S : (Nat → Nat → Int32)} (hQ : ∀ (H : Heap) (locs : List Loc) (pc : Nat) (ls : Array Slot), decode qb_K_heirCount pc = .ok (.ireturn, 1) → xW D ad cI A s.heap S H locs → W p l e R s m args below meth c H locs 0 0 Q (F0 m pc ls [.int res])) (a1 : Int32) (hM : f_K_heirCount S a1 = some res) {H : Heap} {locs : List Loc} {ls : Array Slot} (w : xW D ad cI A s.heap S H locs) (hl : lv_has ls 4 [(0, .ref (ad 1)), (1, .int a1)]) : W p l e R s m args below meth c H locs 0 0 Q (F0 m 0 ls []) := by
  unfold f_K_heirCount at hM
  refine lv_iconst (v := 0) F.1 F.2.1 qd_K_heirCount_0 (by decide) ?_
  refine lv_istore_n (lv' := [(2, .int (0 : Int32)), (0, .ref (ad 1)), (1, .int a1)]) F.1 F.2.1 qd_K_heirCount_1 rfl hl (by decide) rfl (fun ls hl => ?_)
  refine lv_iconst (v := 0) F.1 F.2.1 qd_K_heirCount_2 (by decide) ?_
  refine lv_istore_n (lv' := [(3, .int (0 : Int32)), (2, .int (0 : Int32)), (0, .ref (ad 1)), (1, .int a1)]) F.1 F.2.1 qd_K_heirCount_3 rfl hl (by decide) rfl (fun ls hl => ?_)
  exact t_K_heirCount_4 F hR hK hN hA hQ  qfu _ _ _ hM w (lv_sub hl [2, 3, 1, 0] rfl)
set_option maxRecDepth 100000 in
theorem c_K_heirCount (l : Launch) (D : va_G) (ad : Nat → Nat) (cI : ClassId) {S : (Nat → Nat → Int32)} {a1 : Int32} {res : Int32} (hM : f_K_heirCount S a1 = some res) : xMi l qy_K_heirCount qb_K_heirCount 4 (some .int) { frames := 1, cells := 0, slots := 0, locals := 22 } D ad cI S [.ref (ad 1), .int a1] res S := x_ofi (by decide +kernel) (Nat.le_of_ble_eq_true rfl) (fun p e s m args below meth c Q A ls F hK hN hA w hl hQ => t_K_heirCount F ⟨Nat.le_refl _, Nat.le_refl _⟩ hK hN hA hQ a1 hM w hl)
-- K_underCount
def fb_K_underCount_4 (k_4 : (Nat → Nat → Int32) → Int32 → Int32 → Int32 → Option Int32) (S : (Nat → Nat → Int32)) (v1 v2 v3 : Int32) : Option Int32 := if (S 0 0) ≤ v3 then (some v2) else ((f_K_isUnder S v3 v1).bind (fun q2 => if (qB q2) = 0 then (k_4 S v1 v2 (v3 + (1 : Int32))) else (k_4 S v1 (v2 + (1 : Int32)) (v3 + (1 : Int32)))))
def f_K_underCount_4 : Nat → (Nat → Nat → Int32) → Int32 → Int32 → Int32 → Option Int32
  | 0 => fun _ _ _ _ => none
  | n + 1 => fun S v1 v2 v3 => fb_K_underCount_4 (f_K_underCount_4 n) S v1 v2 v3
def f_K_underCount (S : (Nat → Nat → Int32)) (a1 : Int32) : Option Int32 := f_K_underCount_4  qfu S a1 (0 : Int32) (0 : Int32)
set_option maxRecDepth 100000 in
set_option maxHeartbeats 4000000 in
theorem tb_K_underCount_4 {p : Program} {l : Launch} {e : Env} {R : Room} {s : State} {m : MethodId} {args : Array Value} {below : List Frame} {meth : Method} {c : Code} {Q : State → Prop} {D : va_G} {ad : Nat → Nat} {cI : ClassId} {A : Nat → Prop} (F : CallFix p m c qb_K_underCount 4 s args qtb "CaptureSubtypes$Classes") (hR : 1 ≤ R.frames ∧ 22 ≤ R.locals) (hK : va_K D qcl [(cI, .int)] s) (hN : qnests xns s) (hA : ∀ q, s.heap.size ≤ q → A q) {res : Int32} {S : (Nat → Nat → Int32)} (hQ : ∀ (H : Heap) (locs : List Loc) (pc : Nat) (ls : Array Slot), decode qb_K_underCount pc = .ok (.ireturn, 1) → xW D ad cI A s.heap S H locs → W p l e R s m args below meth c H locs 0 0 Q (F0 m pc ls [.int res])) {k_4 : (Nat → Nat → Int32) → Int32 → Int32 → Int32 → Option Int32} (hk_4 : ∀  (v1 v2 v3 : Int32), k_4 S v1 v2 v3 = some res → ∀ {H : Heap} {locs : List Loc} {ls : Array Slot}, xW D ad cI A s.heap S H locs → lv_has ls 4 [(0, .ref (ad 1)), (1, .int v1), (2, .int v2), (3, .int v3)] → W p l e R s m args below meth c H locs 0 0 Q (F0 m 4 ls [])) (v1 v2 v3 : Int32) (hM : fb_K_underCount_4 k_4 S v1 v2 v3 = some res) {H : Heap} {locs : List Loc} {ls : Array Slot} (w : xW D ad cI A s.heap S H locs) (hl : lv_has ls 4 [(0, .ref (ad 1)), (1, .int v1), (2, .int v2), (3, .int v3)]) : W p l e R s m args below meth c H locs 0 0 Q (F0 m 4 ls []) := by
  unfold fb_K_underCount_4 at hM
  refine lv_iload_n F.1 F.2.1 qd_K_underCount_4 rfl (lv_at hl 3 rfl) ?_
  refine lv_aload_n F.1 F.2.1 qd_K_underCount_5 rfl (lv_at hl 0 rfl) ?_
  refine xg_K_count F hK w qk_31 qd_K_underCount_6 ?_
  refine lv_icmp_ge (tgt := 30) F.1 F.2.1 qd_K_underCount_9 (by decide) (fun hc1 => ?_) (fun hc1 => ?_)
  · rw [if_pos hc1] at hM
    refine lv_iload_n F.1 F.2.1 qd_K_underCount_30 rfl (lv_at hl 2 rfl) ?_
    cases hM
    exact hQ _ _ _ _ qd_K_underCount_31 w
  · rw [if_neg hc1] at hM
    refine lv_aload_n F.1 F.2.1 qd_K_underCount_12 rfl (lv_at hl 0 rfl) ?_
    refine lv_iload_n F.1 F.2.1 qd_K_underCount_13 rfl (lv_at hl 3 rfl) ?_
    refine lv_iload_n F.1 F.2.1 qd_K_underCount_14 rfl (lv_at hl 1 rfl) ?_
    obtain ⟨q2, hq3, hM⟩ := qbd hM
    refine x_calli F hK hN hA w (c_K_isUnder l D ad cI hq3) qk_217 qk_218 qk_219 qk_2 qk_220 qv_K_isUnder rfl rfl ⟨Nat.le_trans (by decide) hR.1, Nat.le_trans (by decide) hR.2⟩ (ci := 0) rfl (j := 1) rfl hl.1 rfl (Nat.le_of_ble_eq_true rfl) qd_K_underCount_15 (fun H locs w => ?_)
    refine lv_if_eq (tgt := 24) F.1 F.2.1 qd_K_underCount_18 (by decide) (fun hc4 => ?_) (fun hc4 => ?_)
    · rw [if_pos hc4] at hM
      refine lv_iinc (v := (v3 + (1 : Int32))) (lv' := [(3, .int (v3 + (1 : Int32))), (0, .ref (ad 1)), (1, .int v1), (2, .int v2)]) F.1 F.2.1 qd_K_underCount_24 hl (k := 3) rfl rfl (by decide) rfl (fun ls hl => ?_)
      refine lv_goto (tgt := 4) F.1 F.2.1 qd_K_underCount_27 (by decide) ?_
      exact hk_4 _ _ _ hM w (lv_sub hl [1, 2, 3, 0] rfl)
    · rw [if_neg hc4] at hM
      refine lv_iinc (v := (v2 + (1 : Int32))) (lv' := [(2, .int (v2 + (1 : Int32))), (0, .ref (ad 1)), (1, .int v1), (3, .int v3)]) F.1 F.2.1 qd_K_underCount_21 hl (k := 2) rfl rfl (by decide) rfl (fun ls hl => ?_)
      refine lv_iinc (v := (v3 + (1 : Int32))) (lv' := [(3, .int (v3 + (1 : Int32))), (2, .int (v2 + (1 : Int32))), (0, .ref (ad 1)), (1, .int v1)]) F.1 F.2.1 qd_K_underCount_24 hl (k := 3) rfl rfl (by decide) rfl (fun ls hl => ?_)
      refine lv_goto (tgt := 4) F.1 F.2.1 qd_K_underCount_27 (by decide) ?_
      exact hk_4 _ _ _ hM w (lv_sub hl [2, 3, 1, 0] rfl)
set_option maxRecDepth 100000 in
set_option maxHeartbeats 4000000 in
theorem t_K_underCount_4 {p : Program} {l : Launch} {e : Env} {R : Room} {s : State} {m : MethodId} {args : Array Value} {below : List Frame} {meth : Method} {c : Code} {Q : State → Prop} {D : va_G} {ad : Nat → Nat} {cI : ClassId} {A : Nat → Prop} (F : CallFix p m c qb_K_underCount 4 s args qtb "CaptureSubtypes$Classes") (hR : 1 ≤ R.frames ∧ 22 ≤ R.locals) (hK : va_K D qcl [(cI, .int)] s) (hN : qnests xns s) (hA : ∀ q, s.heap.size ≤ q → A q) {res : Int32} {S : (Nat → Nat → Int32)} (hQ : ∀ (H : Heap) (locs : List Loc) (pc : Nat) (ls : Array Slot), decode qb_K_underCount pc = .ok (.ireturn, 1) → xW D ad cI A s.heap S H locs → W p l e R s m args below meth c H locs 0 0 Q (F0 m pc ls [.int res])) : ∀ (n : Nat) (v1 v2 v3 : Int32) (hM : f_K_underCount_4 n S v1 v2 v3 = some res) {H : Heap} {locs : List Loc} {ls : Array Slot} (w : xW D ad cI A s.heap S H locs) (hl : lv_has ls 4 [(0, .ref (ad 1)), (1, .int v1), (2, .int v2), (3, .int v3)]), W p l e R s m args below meth c H locs 0 0 Q (F0 m 4 ls []) := by
  intro n
  induction n with
  | zero => intro v1 v2 v3 hM; exact absurd hM (by simp [f_K_underCount_4])
  | succ n ih => intro v1 v2 v3 hM H locs ls w hl; exact tb_K_underCount_4 F hR hK hN hA hQ (k_4 := f_K_underCount_4 n) (fun v1 v2 v3 hM H locs ls w hl => ih v1 v2 v3 hM w hl) v1 v2 v3 hM w hl
set_option maxRecDepth 100000 in
set_option maxHeartbeats 4000000 in
theorem t_K_underCount {p : Program} {l : Launch} {e : Env} {R : Room} {s : State} {m : MethodId} {args : Array Value} {below : List Frame} {meth : Method} {c : Code} {Q : State → Prop} {D : va_G} {ad : Nat → Nat} {cI : ClassId} {A : Nat → Prop} (F : CallFix p m c qb_K_underCount 4 s args qtb "CaptureSubtypes$Classes") (hR : 1 ≤ R.frames ∧ 22 ≤ R.locals) (hK : va_K D qcl [(cI, .int)] s) (hN : qnests xns s) (hA : ∀ q, s.heap.size ≤ q → A q) {res : Int32} {S : (Nat → Nat → Int32)} (hQ : ∀ (H : Heap) (locs : List Loc) (pc : Nat) (ls : Array Slot), decode qb_K_underCount pc = .ok (.ireturn, 1) → xW D ad cI A s.heap S H locs → W p l e R s m args below meth c H locs 0 0 Q (F0 m pc ls [.int res])) (a1 : Int32) (hM : f_K_underCount S a1 = some res) {H : Heap} {locs : List Loc} {ls : Array Slot} (w : xW D ad cI A s.heap S H locs) (hl : lv_has ls 4 [(0, .ref (ad 1)), (1, .int a1)]) : W p l e R s m args below meth c H locs 0 0 Q (F0 m 0 ls []) := by
  unfold f_K_underCount at hM
  refine lv_iconst (v := 0) F.1 F.2.1 qd_K_underCount_0 (by decide) ?_
  refine lv_istore_n (lv' := [(2, .int (0 : Int32)), (0, .ref (ad 1)), (1, .int a1)]) F.1 F.2.1 qd_K_underCount_1 rfl hl (by decide) rfl (fun ls hl => ?_)
  refine lv_iconst (v := 0) F.1 F.2.1 qd_K_underCount_2 (by decide) ?_
  refine lv_istore_n (lv' := [(3, .int (0 : Int32)), (2, .int (0 : Int32)), (0, .ref (ad 1)), (1, .int a1)]) F.1 F.2.1 qd_K_underCount_3 rfl hl (by decide) rfl (fun ls hl => ?_)
  exact t_K_underCount_4 F hR hK hN hA hQ  qfu _ _ _ hM w (lv_sub hl [2, 3, 1, 0] rfl)
set_option maxRecDepth 100000 in
theorem c_K_underCount (l : Launch) (D : va_G) (ad : Nat → Nat) (cI : ClassId) {S : (Nat → Nat → Int32)} {a1 : Int32} {res : Int32} (hM : f_K_underCount S a1 = some res) : xMi l qy_K_underCount qb_K_underCount 4 (some .int) { frames := 1, cells := 0, slots := 0, locals := 22 } D ad cI S [.ref (ad 1), .int a1] res S := x_ofi (by decide +kernel) (Nat.le_of_ble_eq_true rfl) (fun p e s m args below meth c Q A ls F hK hN hA w hl hQ => t_K_underCount F ⟨Nat.le_refl _, Nat.le_refl _⟩ hK hN hA hQ a1 hM w hl)
-- X_known
def f_X_known (S : (Nat → Nat → Int32)) (a1 a2 : Int32) : Option Int32 := (f_K_has S a1).bind (fun q1 => if (qB q1) = 0 then (some (-2 : Int32)) else (if a2 = 0 then ((f_K_kindOf S a1).bind (fun q5 => some q5)) else (if a2 = 1 then ((f_K_parametersOf S a1).bind (fun q8 => some q8)) else (if a2 = 2 then ((f_K_heirCount S a1).bind (fun q11 => some q11)) else (if a2 = 3 then ((f_K_underCount S a1).bind (fun q14 => some q14)) else (some (-2 : Int32)))))))
set_option maxRecDepth 100000 in
set_option maxHeartbeats 4000000 in
theorem t_X_known {p : Program} {l : Launch} {e : Env} {R : Room} {s : State} {m : MethodId} {args : Array Value} {below : List Frame} {meth : Method} {c : Code} {Q : State → Prop} {D : va_G} {ad : Nat → Nat} {cI : ClassId} {A : Nat → Prop} (F : CallFix p m c qb_X_known 3 s args qtb "CaptureSubtypes") (hR : 2 ≤ R.frames ∧ 45 ≤ R.locals) (hK : va_K D qcl [(cI, .int)] s) (hN : qnests xns s) (hA : ∀ q, s.heap.size ≤ q → A q) {res : Int32} {S : (Nat → Nat → Int32)} (hQ : ∀ (H : Heap) (locs : List Loc) (pc : Nat) (ls : Array Slot), decode qb_X_known pc = .ok (.ireturn, 1) → xW D ad cI A s.heap S H locs → W p l e R s m args below meth c H locs 0 0 Q (F0 m pc ls [.int res])) (a1 a2 : Int32) (hM : f_X_known S a1 a2 = some res) {H : Heap} {locs : List Loc} {ls : Array Slot} (w : xW D ad cI A s.heap S H locs) (hl : lv_has ls 3 [(0, .ref (ad 0)), (1, .int a1), (2, .int a2)]) : W p l e R s m args below meth c H locs 0 0 Q (F0 m 0 ls []) := by
  unfold f_X_known at hM
  refine lv_aload_n F.1 F.2.1 qd_X_known_0 rfl (lv_at hl 0 rfl) ?_
  refine xg_X_classes F hK w qk_167 qd_X_known_1 ?_
  refine lv_iload_n F.1 F.2.1 qd_X_known_4 rfl (lv_at hl 1 rfl) ?_
  obtain ⟨q1, hq2, hM⟩ := qbd hM
  refine x_calli F hK hN hA w (c_K_has l D ad cI hq2) qk_257 qk_258 qk_259 qk_2 qk_260 qv_K_has rfl rfl ⟨Nat.le_trans (by decide) hR.1, Nat.le_trans (by decide) hR.2⟩ (ci := 0) rfl (j := 1) rfl hl.1 rfl (Nat.le_of_ble_eq_true rfl) qd_X_known_5 (fun H locs w => ?_)
  refine lv_if_ne (tgt := 14) F.1 F.2.1 qd_X_known_8 (by decide) (fun hc3 => ?_) (fun hc3 => ?_)
  · rw [if_neg hc3] at hM
    refine lv_iload_n F.1 F.2.1 qd_X_known_14 rfl (lv_at hl 2 rfl) ?_
    by_cases hs4 : a2 = 0
    · rw [if_pos hs4] at hM
      rw [hs4]
      refine lv_tableIn (tgt := 44) F.1 F.2.1 qd_X_known_15 (by decide) (by decide) rfl (by decide) ?_
      refine lv_aload_n F.1 F.2.1 qd_X_known_44 rfl (lv_at hl 0 rfl) ?_
      refine xg_X_classes F hK w qk_167 qd_X_known_45 ?_
      refine lv_iload_n F.1 F.2.1 qd_X_known_48 rfl (lv_at hl 1 rfl) ?_
      obtain ⟨q5, hq6, hM⟩ := qbd hM
      refine x_calli F hK hN hA w (c_K_kindOf l D ad cI hq6) qk_277 qk_226 qk_227 qk_2 qk_228 qv_K_kindOf rfl rfl ⟨Nat.le_trans (by decide) hR.1, Nat.le_trans (by decide) hR.2⟩ (ci := 0) rfl (j := 1) rfl hl.1 rfl (Nat.le_of_ble_eq_true rfl) qd_X_known_49 (fun H locs w => ?_)
      cases hM
      exact hQ _ _ _ _ qd_X_known_52 w
    · rw [if_neg hs4] at hM
      by_cases hs7 : a2 = 1
      · rw [if_pos hs7] at hM
        rw [hs7]
        refine lv_tableIn (tgt := 53) F.1 F.2.1 qd_X_known_15 (by decide) (by decide) rfl (by decide) ?_
        refine lv_aload_n F.1 F.2.1 qd_X_known_53 rfl (lv_at hl 0 rfl) ?_
        refine xg_X_classes F hK w qk_167 qd_X_known_54 ?_
        refine lv_iload_n F.1 F.2.1 qd_X_known_57 rfl (lv_at hl 1 rfl) ?_
        obtain ⟨q8, hq9, hM⟩ := qbd hM
        refine x_calli F hK hN hA w (c_K_parametersOf l D ad cI hq9) qk_395 qk_396 qk_397 qk_2 qk_398 qv_K_parametersOf rfl rfl ⟨Nat.le_trans (by decide) hR.1, Nat.le_trans (by decide) hR.2⟩ (ci := 0) rfl (j := 1) rfl hl.1 rfl (Nat.le_of_ble_eq_true rfl) qd_X_known_58 (fun H locs w => ?_)
        cases hM
        exact hQ _ _ _ _ qd_X_known_61 w
      · rw [if_neg hs7] at hM
        by_cases hs10 : a2 = 2
        · rw [if_pos hs10] at hM
          rw [hs10]
          refine lv_tableIn (tgt := 62) F.1 F.2.1 qd_X_known_15 (by decide) (by decide) rfl (by decide) ?_
          refine lv_aload_n F.1 F.2.1 qd_X_known_62 rfl (lv_at hl 0 rfl) ?_
          refine xg_X_classes F hK w qk_167 qd_X_known_63 ?_
          refine lv_iload_n F.1 F.2.1 qd_X_known_66 rfl (lv_at hl 1 rfl) ?_
          obtain ⟨q11, hq12, hM⟩ := qbd hM
          refine x_calli F hK hN hA w (c_K_heirCount l D ad cI hq12) qk_436 qk_437 qk_438 qk_2 qk_439 qv_K_heirCount rfl rfl ⟨Nat.le_trans (by decide) hR.1, Nat.le_trans (by decide) hR.2⟩ (ci := 0) rfl (j := 1) rfl hl.1 rfl (Nat.le_of_ble_eq_true rfl) qd_X_known_67 (fun H locs w => ?_)
          cases hM
          exact hQ _ _ _ _ qd_X_known_70 w
        · rw [if_neg hs10] at hM
          by_cases hs13 : a2 = 3
          · rw [if_pos hs13] at hM
            rw [hs13]
            refine lv_tableIn (tgt := 71) F.1 F.2.1 qd_X_known_15 (by decide) (by decide) rfl (by decide) ?_
            refine lv_aload_n F.1 F.2.1 qd_X_known_71 rfl (lv_at hl 0 rfl) ?_
            refine xg_X_classes F hK w qk_167 qd_X_known_72 ?_
            refine lv_iload_n F.1 F.2.1 qd_X_known_75 rfl (lv_at hl 1 rfl) ?_
            obtain ⟨q14, hq15, hM⟩ := qbd hM
            refine x_calli F hK hN hA w (c_K_underCount l D ad cI hq15) qk_440 qk_441 qk_442 qk_2 qk_443 qv_K_underCount rfl rfl ⟨Nat.le_trans (by decide) hR.1, Nat.le_trans (by decide) hR.2⟩ (ci := 0) rfl (j := 1) rfl hl.1 rfl (Nat.le_of_ble_eq_true rfl) qd_X_known_76 (fun H locs w => ?_)
            cases hM
            exact hQ _ _ _ _ qd_X_known_79 w
          · rw [if_neg hs13] at hM
            refine lv_tableOut (tgt := 80) F.1 F.2.1 qd_X_known_15 (by have z0 := lv_neT hs4 (a := 0) rfl; have z1 := lv_neT hs7 (a := 1) rfl; have z2 := lv_neT hs10 (a := 2) rfl; have z3 := lv_neT hs13 (a := 3) rfl; omega) (by decide) ?_
            refine lv_bipush (v := (-2)) F.1 F.2.1 qd_X_known_80 (by decide) ?_
            cases hM
            exact hQ _ _ _ _ qd_X_known_82 w
  · rw [if_pos hc3] at hM
    refine lv_bipush (v := (-2)) F.1 F.2.1 qd_X_known_11 (by decide) ?_
    cases hM
    exact hQ _ _ _ _ qd_X_known_13 w
set_option maxRecDepth 100000 in
theorem c_X_known (l : Launch) (D : va_G) (ad : Nat → Nat) (cI : ClassId) {S : (Nat → Nat → Int32)} {a1 a2 : Int32} {res : Int32} (hM : f_X_known S a1 a2 = some res) : xMi l qy_X_known qb_X_known 3 (some .int) { frames := 2, cells := 0, slots := 0, locals := 45 } D ad cI S [.ref (ad 0), .int a1, .int a2] res S := x_ofi (by decide +kernel) (Nat.le_of_ble_eq_true rfl) (fun p e s m args below meth c Q A ls F hK hN hA w hl hQ => t_X_known F ⟨Nat.le_refl _, Nat.le_refl _⟩ hK hN hA hQ a1 a2 hM w hl)
-- X_below
def f_X_below (S : (Nat → Nat → Int32)) (a1 a2 : Int32) : Option Int32 := (f_K_has S a1).bind (fun q1 => if (qB q1) = 0 then (some (-2 : Int32)) else ((f_K_has S a2).bind (fun q4 => if (qB q4) = 0 then (some (-2 : Int32)) else ((f_K_isUnder S a1 a2).bind (fun q7 => if (qB q7) = 0 then (some (0 : Int32)) else (some (1 : Int32)))))))
set_option maxRecDepth 100000 in
set_option maxHeartbeats 4000000 in
theorem t_X_below {p : Program} {l : Launch} {e : Env} {R : Room} {s : State} {m : MethodId} {args : Array Value} {below : List Frame} {meth : Method} {c : Code} {Q : State → Prop} {D : va_G} {ad : Nat → Nat} {cI : ClassId} {A : Nat → Prop} (F : CallFix p m c qb_X_below 3 s args qtb "CaptureSubtypes") (hR : 1 ≤ R.frames ∧ 22 ≤ R.locals) (hK : va_K D qcl [(cI, .int)] s) (hN : qnests xns s) (hA : ∀ q, s.heap.size ≤ q → A q) {res : Int32} {S : (Nat → Nat → Int32)} (hQ : ∀ (H : Heap) (locs : List Loc) (pc : Nat) (ls : Array Slot), decode qb_X_below pc = .ok (.ireturn, 1) → xW D ad cI A s.heap S H locs → W p l e R s m args below meth c H locs 0 0 Q (F0 m pc ls [.int res])) (a1 a2 : Int32) (hM : f_X_below S a1 a2 = some res) {H : Heap} {locs : List Loc} {ls : Array Slot} (w : xW D ad cI A s.heap S H locs) (hl : lv_has ls 3 [(0, .ref (ad 0)), (1, .int a1), (2, .int a2)]) : W p l e R s m args below meth c H locs 0 0 Q (F0 m 0 ls []) := by
  unfold f_X_below at hM
  refine lv_aload_n F.1 F.2.1 qd_X_below_0 rfl (lv_at hl 0 rfl) ?_
  refine xg_X_classes F hK w qk_167 qd_X_below_1 ?_
  refine lv_iload_n F.1 F.2.1 qd_X_below_4 rfl (lv_at hl 1 rfl) ?_
  obtain ⟨q1, hq2, hM⟩ := qbd hM
  refine x_calli F hK hN hA w (c_K_has l D ad cI hq2) qk_257 qk_258 qk_259 qk_2 qk_260 qv_K_has rfl rfl ⟨Nat.le_trans (by decide) hR.1, Nat.le_trans (by decide) hR.2⟩ (ci := 0) rfl (j := 1) rfl hl.1 rfl (Nat.le_of_ble_eq_true rfl) qd_X_below_5 (fun H locs w => ?_)
  refine lv_if_eq (tgt := 22) F.1 F.2.1 qd_X_below_8 (by decide) (fun hc3 => ?_) (fun hc3 => ?_)
  · rw [if_pos hc3] at hM
    refine lv_bipush (v := (-2)) F.1 F.2.1 qd_X_below_22 (by decide) ?_
    cases hM
    exact hQ _ _ _ _ qd_X_below_24 w
  · rw [if_neg hc3] at hM
    refine lv_aload_n F.1 F.2.1 qd_X_below_11 rfl (lv_at hl 0 rfl) ?_
    refine xg_X_classes F hK w qk_167 qd_X_below_12 ?_
    refine lv_iload_n F.1 F.2.1 qd_X_below_15 rfl (lv_at hl 2 rfl) ?_
    obtain ⟨q4, hq5, hM⟩ := qbd hM
    refine x_calli F hK hN hA w (c_K_has l D ad cI hq5) qk_257 qk_258 qk_259 qk_2 qk_260 qv_K_has rfl rfl ⟨Nat.le_trans (by decide) hR.1, Nat.le_trans (by decide) hR.2⟩ (ci := 0) rfl (j := 1) rfl hl.1 rfl (Nat.le_of_ble_eq_true rfl) qd_X_below_16 (fun H locs w => ?_)
    refine lv_if_ne (tgt := 25) F.1 F.2.1 qd_X_below_19 (by decide) (fun hc6 => ?_) (fun hc6 => ?_)
    · rw [if_neg hc6] at hM
      refine lv_aload_n F.1 F.2.1 qd_X_below_25 rfl (lv_at hl 0 rfl) ?_
      refine xg_X_classes F hK w qk_167 qd_X_below_26 ?_
      refine lv_iload_n F.1 F.2.1 qd_X_below_29 rfl (lv_at hl 1 rfl) ?_
      refine lv_iload_n F.1 F.2.1 qd_X_below_30 rfl (lv_at hl 2 rfl) ?_
      obtain ⟨q7, hq8, hM⟩ := qbd hM
      refine x_calli F hK hN hA w (c_K_isUnder l D ad cI hq8) qk_448 qk_218 qk_219 qk_2 qk_220 qv_K_isUnder rfl rfl ⟨Nat.le_trans (by decide) hR.1, Nat.le_trans (by decide) hR.2⟩ (ci := 0) rfl (j := 1) rfl hl.1 rfl (Nat.le_of_ble_eq_true rfl) qd_X_below_31 (fun H locs w => ?_)
      refine lv_if_eq (tgt := 41) F.1 F.2.1 qd_X_below_34 (by decide) (fun hc9 => ?_) (fun hc9 => ?_)
      · rw [if_pos hc9] at hM
        refine lv_iconst (v := 0) F.1 F.2.1 qd_X_below_41 (by decide) ?_
        cases hM
        exact hQ _ _ _ _ qd_X_below_42 w
      · rw [if_neg hc9] at hM
        refine lv_iconst (v := 1) F.1 F.2.1 qd_X_below_37 (by decide) ?_
        refine lv_goto (tgt := 42) F.1 F.2.1 qd_X_below_38 (by decide) ?_
        cases hM
        exact hQ _ _ _ _ qd_X_below_42 w
    · rw [if_pos hc6] at hM
      refine lv_bipush (v := (-2)) F.1 F.2.1 qd_X_below_22 (by decide) ?_
      cases hM
      exact hQ _ _ _ _ qd_X_below_24 w
set_option maxRecDepth 100000 in
theorem c_X_below (l : Launch) (D : va_G) (ad : Nat → Nat) (cI : ClassId) {S : (Nat → Nat → Int32)} {a1 a2 : Int32} {res : Int32} (hM : f_X_below S a1 a2 = some res) : xMi l qy_X_below qb_X_below 3 (some .int) { frames := 1, cells := 0, slots := 0, locals := 22 } D ad cI S [.ref (ad 0), .int a1, .int a2] res S := x_ofi (by decide +kernel) (Nat.le_of_ble_eq_true rfl) (fun p e s m args below meth c Q A ls F hK hN hA w hl hQ => t_X_below F ⟨Nat.le_refl _, Nat.le_refl _⟩ hK hN hA hQ a1 a2 hM w hl)
-- X_apart
def f_X_apart (S : (Nat → Nat → Int32)) (a1 a2 : Int32) : Option Int32 := (f_K_has S a1).bind (fun q1 => if (qB q1) = 0 then (some (-2 : Int32)) else ((f_K_has S a2).bind (fun q4 => if (qB q4) = 0 then (some (-2 : Int32)) else ((f_K_areApart S a1 a2).bind (fun q7 => if (qB q7) = 0 then (some (0 : Int32)) else (some (1 : Int32)))))))
set_option maxRecDepth 100000 in
set_option maxHeartbeats 4000000 in
theorem t_X_apart {p : Program} {l : Launch} {e : Env} {R : Room} {s : State} {m : MethodId} {args : Array Value} {below : List Frame} {meth : Method} {c : Code} {Q : State → Prop} {D : va_G} {ad : Nat → Nat} {cI : ClassId} {A : Nat → Prop} (F : CallFix p m c qb_X_apart 3 s args qtb "CaptureSubtypes") (hR : 1 ≤ R.frames ∧ 22 ≤ R.locals) (hK : va_K D qcl [(cI, .int)] s) (hN : qnests xns s) (hA : ∀ q, s.heap.size ≤ q → A q) {res : Int32} {S : (Nat → Nat → Int32)} (hQ : ∀ (H : Heap) (locs : List Loc) (pc : Nat) (ls : Array Slot), decode qb_X_apart pc = .ok (.ireturn, 1) → xW D ad cI A s.heap S H locs → W p l e R s m args below meth c H locs 0 0 Q (F0 m pc ls [.int res])) (a1 a2 : Int32) (hM : f_X_apart S a1 a2 = some res) {H : Heap} {locs : List Loc} {ls : Array Slot} (w : xW D ad cI A s.heap S H locs) (hl : lv_has ls 3 [(0, .ref (ad 0)), (1, .int a1), (2, .int a2)]) : W p l e R s m args below meth c H locs 0 0 Q (F0 m 0 ls []) := by
  unfold f_X_apart at hM
  refine lv_aload_n F.1 F.2.1 qd_X_apart_0 rfl (lv_at hl 0 rfl) ?_
  refine xg_X_classes F hK w qk_167 qd_X_apart_1 ?_
  refine lv_iload_n F.1 F.2.1 qd_X_apart_4 rfl (lv_at hl 1 rfl) ?_
  obtain ⟨q1, hq2, hM⟩ := qbd hM
  refine x_calli F hK hN hA w (c_K_has l D ad cI hq2) qk_257 qk_258 qk_259 qk_2 qk_260 qv_K_has rfl rfl ⟨Nat.le_trans (by decide) hR.1, Nat.le_trans (by decide) hR.2⟩ (ci := 0) rfl (j := 1) rfl hl.1 rfl (Nat.le_of_ble_eq_true rfl) qd_X_apart_5 (fun H locs w => ?_)
  refine lv_if_eq (tgt := 22) F.1 F.2.1 qd_X_apart_8 (by decide) (fun hc3 => ?_) (fun hc3 => ?_)
  · rw [if_pos hc3] at hM
    refine lv_bipush (v := (-2)) F.1 F.2.1 qd_X_apart_22 (by decide) ?_
    cases hM
    exact hQ _ _ _ _ qd_X_apart_24 w
  · rw [if_neg hc3] at hM
    refine lv_aload_n F.1 F.2.1 qd_X_apart_11 rfl (lv_at hl 0 rfl) ?_
    refine xg_X_classes F hK w qk_167 qd_X_apart_12 ?_
    refine lv_iload_n F.1 F.2.1 qd_X_apart_15 rfl (lv_at hl 2 rfl) ?_
    obtain ⟨q4, hq5, hM⟩ := qbd hM
    refine x_calli F hK hN hA w (c_K_has l D ad cI hq5) qk_257 qk_258 qk_259 qk_2 qk_260 qv_K_has rfl rfl ⟨Nat.le_trans (by decide) hR.1, Nat.le_trans (by decide) hR.2⟩ (ci := 0) rfl (j := 1) rfl hl.1 rfl (Nat.le_of_ble_eq_true rfl) qd_X_apart_16 (fun H locs w => ?_)
    refine lv_if_ne (tgt := 25) F.1 F.2.1 qd_X_apart_19 (by decide) (fun hc6 => ?_) (fun hc6 => ?_)
    · rw [if_neg hc6] at hM
      refine lv_aload_n F.1 F.2.1 qd_X_apart_25 rfl (lv_at hl 0 rfl) ?_
      refine xg_X_classes F hK w qk_167 qd_X_apart_26 ?_
      refine lv_iload_n F.1 F.2.1 qd_X_apart_29 rfl (lv_at hl 1 rfl) ?_
      refine lv_iload_n F.1 F.2.1 qd_X_apart_30 rfl (lv_at hl 2 rfl) ?_
      obtain ⟨q7, hq8, hM⟩ := qbd hM
      refine x_calli F hK hN hA w (c_K_areApart l D ad cI hq8) qk_453 qk_242 qk_243 qk_2 qk_244 qv_K_areApart rfl rfl ⟨Nat.le_trans (by decide) hR.1, Nat.le_trans (by decide) hR.2⟩ (ci := 0) rfl (j := 1) rfl hl.1 rfl (Nat.le_of_ble_eq_true rfl) qd_X_apart_31 (fun H locs w => ?_)
      refine lv_if_eq (tgt := 41) F.1 F.2.1 qd_X_apart_34 (by decide) (fun hc9 => ?_) (fun hc9 => ?_)
      · rw [if_pos hc9] at hM
        refine lv_iconst (v := 0) F.1 F.2.1 qd_X_apart_41 (by decide) ?_
        cases hM
        exact hQ _ _ _ _ qd_X_apart_42 w
      · rw [if_neg hc9] at hM
        refine lv_iconst (v := 1) F.1 F.2.1 qd_X_apart_37 (by decide) ?_
        refine lv_goto (tgt := 42) F.1 F.2.1 qd_X_apart_38 (by decide) ?_
        cases hM
        exact hQ _ _ _ _ qd_X_apart_42 w
    · rw [if_pos hc6] at hM
      refine lv_bipush (v := (-2)) F.1 F.2.1 qd_X_apart_22 (by decide) ?_
      cases hM
      exact hQ _ _ _ _ qd_X_apart_24 w
set_option maxRecDepth 100000 in
theorem c_X_apart (l : Launch) (D : va_G) (ad : Nat → Nat) (cI : ClassId) {S : (Nat → Nat → Int32)} {a1 a2 : Int32} {res : Int32} (hM : f_X_apart S a1 a2 = some res) : xMi l qy_X_apart qb_X_apart 3 (some .int) { frames := 1, cells := 0, slots := 0, locals := 22 } D ad cI S [.ref (ad 0), .int a1, .int a2] res S := x_ofi (by decide +kernel) (Nat.le_of_ble_eq_true rfl) (fun p e s m args below meth c Q A ls F hK hN hA w hl hQ => t_X_apart F ⟨Nat.le_refl _, Nat.le_refl _⟩ hK hN hA hQ a1 a2 hM w hl)
-- T_isVariable
def f_T_isVariable (S : (Nat → Nat → Int32)) (a1 : Int32) : Option Bool := (f_T_sortOf S a1).bind (fun q1 => if q1 = (3 : Int32) then (some true) else (if q1 = (8 : Int32) then (some true) else (some false)))
set_option maxRecDepth 100000 in
set_option maxHeartbeats 4000000 in
theorem t_T_isVariable {p : Program} {l : Launch} {e : Env} {R : Room} {s : State} {m : MethodId} {args : Array Value} {below : List Frame} {meth : Method} {c : Code} {Q : State → Prop} {D : va_G} {ad : Nat → Nat} {cI : ClassId} {A : Nat → Prop} (F : CallFix p m c qb_T_isVariable 3 s args qtb "CaptureSubtypes$Types") (hR : 1 ≤ R.frames ∧ 21 ≤ R.locals) (hK : va_K D qcl [(cI, .int)] s) (hN : qnests xns s) (hA : ∀ q, s.heap.size ≤ q → A q) {res : Bool} {S : (Nat → Nat → Int32)} (hQ : ∀ (H : Heap) (locs : List Loc) (pc : Nat) (ls : Array Slot), decode qb_T_isVariable pc = .ok (.ireturn, 1) → xW D ad cI A s.heap S H locs → W p l e R s m args below meth c H locs 0 0 Q (F0 m pc ls [.int (qB res)])) (a1 : Int32) (hM : f_T_isVariable S a1 = some res) {H : Heap} {locs : List Loc} {ls : Array Slot} (w : xW D ad cI A s.heap S H locs) (hl : lv_has ls 3 [(0, .ref (ad 2)), (1, .int a1)]) : W p l e R s m args below meth c H locs 0 0 Q (F0 m 0 ls []) := by
  unfold f_T_isVariable at hM
  refine lv_aload_n F.1 F.2.1 qd_T_isVariable_0 rfl (lv_at hl 0 rfl) ?_
  refine lv_iload_n F.1 F.2.1 qd_T_isVariable_1 rfl (lv_at hl 1 rfl) ?_
  obtain ⟨q1, hq2, hM⟩ := qbd hM
  refine x_calli F hK hN hA w (c_T_sortOf l D ad cI hq2) qk_269 qk_270 qk_271 qk_3 qk_272 qv_T_sortOf rfl rfl ⟨Nat.le_trans (by decide) hR.1, Nat.le_trans (by decide) hR.2⟩ (ci := 1) rfl (j := 2) rfl hl.1 rfl (Nat.le_of_ble_eq_true rfl) qd_T_isVariable_2 (fun H locs w => ?_)
  refine lv_istore_n (lv' := [(2, .int q1), (0, .ref (ad 2)), (1, .int a1)]) F.1 F.2.1 qd_T_isVariable_5 rfl hl (by decide) rfl (fun ls hl => ?_)
  refine lv_iload_n F.1 F.2.1 qd_T_isVariable_6 rfl (lv_at hl 0 rfl) ?_
  refine lv_iconst (v := 3) F.1 F.2.1 qd_T_isVariable_7 (by decide) ?_
  refine lv_icmp_eq (tgt := 17) F.1 F.2.1 qd_T_isVariable_8 (by decide) (fun hc3 => ?_) (fun hc3 => ?_)
  · rw [if_pos hc3] at hM
    refine lv_iconst (v := 1) F.1 F.2.1 qd_T_isVariable_17 (by decide) ?_
    refine lv_goto (tgt := 22) F.1 F.2.1 qd_T_isVariable_18 (by decide) ?_
    cases hM
    exact hQ _ _ _ _ qd_T_isVariable_22 w
  · rw [if_neg hc3] at hM
    refine lv_iload_n F.1 F.2.1 qd_T_isVariable_11 rfl (lv_at hl 0 rfl) ?_
    refine lv_bipush (v := 8) F.1 F.2.1 qd_T_isVariable_12 (by decide) ?_
    refine lv_icmp_ne (tgt := 21) F.1 F.2.1 qd_T_isVariable_14 (by decide) (fun hc4 => ?_) (fun hc4 => ?_)
    · rw [if_neg hc4] at hM
      refine lv_iconst (v := 0) F.1 F.2.1 qd_T_isVariable_21 (by decide) ?_
      cases hM
      exact hQ _ _ _ _ qd_T_isVariable_22 w
    · rw [if_pos hc4] at hM
      refine lv_iconst (v := 1) F.1 F.2.1 qd_T_isVariable_17 (by decide) ?_
      refine lv_goto (tgt := 22) F.1 F.2.1 qd_T_isVariable_18 (by decide) ?_
      cases hM
      exact hQ _ _ _ _ qd_T_isVariable_22 w
set_option maxRecDepth 100000 in
theorem c_T_isVariable (l : Launch) (D : va_G) (ad : Nat → Nat) (cI : ClassId) {S : (Nat → Nat → Int32)} {a1 : Int32} {res : Bool} (hM : f_T_isVariable S a1 = some res) : xMi l qy_T_isVariable qb_T_isVariable 3 (some .boolean) { frames := 1, cells := 0, slots := 0, locals := 21 } D ad cI S [.ref (ad 2), .int a1] (qB res) S := x_ofz (by decide +kernel) (Nat.le_of_ble_eq_true rfl) (fun p e s m args below meth c Q A ls F hK hN hA w hl hQ => t_T_isVariable F ⟨Nat.le_refl _, Nat.le_refl _⟩ hK hN hA hQ a1 hM w hl)
-- T_upOf
def f_T_upOf (S : (Nat → Nat → Int32)) (a1 : Int32) : Option Int32 := if a1 < 0 then (some (-1 : Int32)) else (if (S 11 0) ≤ a1 then (some (-1 : Int32)) else (qck (qin a1 1024) (some (S 18 a1.toNatClampNeg))))
set_option maxRecDepth 100000 in
set_option maxHeartbeats 4000000 in
theorem t_T_upOf {p : Program} {l : Launch} {e : Env} {R : Room} {s : State} {m : MethodId} {args : Array Value} {below : List Frame} {meth : Method} {c : Code} {Q : State → Prop} {D : va_G} {ad : Nat → Nat} {cI : ClassId} {A : Nat → Prop} (F : CallFix p m c qb_T_upOf 2 s args qtb "CaptureSubtypes$Types") (hR : 0 ≤ R.frames ∧ 0 ≤ R.locals) (hK : va_K D qcl [(cI, .int)] s) (hN : qnests xns s) (hA : ∀ q, s.heap.size ≤ q → A q) {res : Int32} {S : (Nat → Nat → Int32)} (hQ : ∀ (H : Heap) (locs : List Loc) (pc : Nat) (ls : Array Slot), decode qb_T_upOf pc = .ok (.ireturn, 1) → xW D ad cI A s.heap S H locs → W p l e R s m args below meth c H locs 0 0 Q (F0 m pc ls [.int res])) (a1 : Int32) (hM : f_T_upOf S a1 = some res) {H : Heap} {locs : List Loc} {ls : Array Slot} (w : xW D ad cI A s.heap S H locs) (hl : lv_has ls 2 [(0, .ref (ad 2)), (1, .int a1)]) : W p l e R s m args below meth c H locs 0 0 Q (F0 m 0 ls []) := by
  unfold f_T_upOf at hM
  refine lv_iload_n F.1 F.2.1 qd_T_upOf_0 rfl (lv_at hl 1 rfl) ?_
  refine lv_if_lt (tgt := 21) F.1 F.2.1 qd_T_upOf_1 (by decide) (fun hc1 => ?_) (fun hc1 => ?_)
  · rw [if_pos hc1] at hM
    refine lv_iconst (v := (-1)) F.1 F.2.1 qd_T_upOf_21 (by decide) ?_
    cases hM
    exact hQ _ _ _ _ qd_T_upOf_22 w
  · rw [if_neg hc1] at hM
    refine lv_iload_n F.1 F.2.1 qd_T_upOf_4 rfl (lv_at hl 1 rfl) ?_
    refine lv_aload_n F.1 F.2.1 qd_T_upOf_5 rfl (lv_at hl 0 rfl) ?_
    refine xg_T_top F hK w qk_89 qd_T_upOf_6 ?_
    refine lv_icmp_ge (tgt := 21) F.1 F.2.1 qd_T_upOf_9 (by decide) (fun hc2 => ?_) (fun hc2 => ?_)
    · rw [if_pos hc2] at hM
      refine lv_iconst (v := (-1)) F.1 F.2.1 qd_T_upOf_21 (by decide) ?_
      cases hM
      exact hQ _ _ _ _ qd_T_upOf_22 w
    · rw [if_neg hc2] at hM
      refine lv_aload_n F.1 F.2.1 qd_T_upOf_12 rfl (lv_at hl 0 rfl) ?_
      refine xg_T_ups F hK w qk_96 qd_T_upOf_13 ?_
      refine lv_iload_n F.1 F.2.1 qd_T_upOf_16 rfl (lv_at hl 1 rfl) ?_
      obtain ⟨hi3, hM⟩ := qck_ok hM
      refine xl_T_ups F hK w hi3 qd_T_upOf_17 ?_
      refine lv_goto (tgt := 22) F.1 F.2.1 qd_T_upOf_18 (by decide) ?_
      cases hM
      exact hQ _ _ _ _ qd_T_upOf_22 w
set_option maxRecDepth 100000 in
theorem c_T_upOf (l : Launch) (D : va_G) (ad : Nat → Nat) (cI : ClassId) {S : (Nat → Nat → Int32)} {a1 : Int32} {res : Int32} (hM : f_T_upOf S a1 = some res) : xMi l qy_T_upOf qb_T_upOf 2 (some .int) { frames := 0, cells := 0, slots := 0, locals := 0 } D ad cI S [.ref (ad 2), .int a1] res S := x_ofi (by decide +kernel) (Nat.le_of_ble_eq_true rfl) (fun p e s m args below meth c Q A ls F hK hN hA w hl hQ => t_T_upOf F ⟨Nat.le_refl _, Nat.le_refl _⟩ hK hN hA hQ a1 hM w hl)
-- S_boundCountOf
def f_S_boundCountOf (S : (Nat → Nat → Int32)) (a1 : Int32) : Option Int32 := (f_T_ownerOf S a1).bind (fun q1 => (f_T_firstOf S a1).bind (fun q3 => (f_K_boundCount S q1 q3).bind (fun q5 => (f_T_upOf S a1).bind (fun q7 => if q7 = (-1 : Int32) then (some (qmax (1 : Int32) q5)) else (some ((qmax (1 : Int32) q5) + (1 : Int32)))))))
set_option maxRecDepth 100000 in
set_option maxHeartbeats 4000000 in
theorem t_S_boundCountOf {p : Program} {l : Launch} {e : Env} {R : Room} {s : State} {m : MethodId} {args : Array Value} {below : List Frame} {meth : Method} {c : Code} {Q : State → Prop} {D : va_G} {ad : Nat → Nat} {cI : ClassId} {A : Nat → Prop} (F : CallFix p m c qb_S_boundCountOf 3 s args qtb "CaptureSubtypes$Shapes") (hR : 1 ≤ R.frames ∧ 40 ≤ R.locals) (hK : va_K D qcl [(cI, .int)] s) (hN : qnests xns s) (hA : ∀ q, s.heap.size ≤ q → A q) {res : Int32} {S : (Nat → Nat → Int32)} (hQ : ∀ (H : Heap) (locs : List Loc) (pc : Nat) (ls : Array Slot), decode qb_S_boundCountOf pc = .ok (.ireturn, 1) → xW D ad cI A s.heap S H locs → W p l e R s m args below meth c H locs 0 0 Q (F0 m pc ls [.int res])) (a1 : Int32) (hM : f_S_boundCountOf S a1 = some res) {H : Heap} {locs : List Loc} {ls : Array Slot} (w : xW D ad cI A s.heap S H locs) (hl : lv_has ls 3 [(0, .ref (ad 3)), (1, .int a1)]) : W p l e R s m args below meth c H locs 0 0 Q (F0 m 0 ls []) := by
  unfold f_S_boundCountOf at hM
  refine lv_iconst (v := 1) F.1 F.2.1 qd_S_boundCountOf_0 (by decide) ?_
  refine lv_aload_n F.1 F.2.1 qd_S_boundCountOf_1 rfl (lv_at hl 0 rfl) ?_
  refine xg_S_classes F hK w qk_125 qd_S_boundCountOf_2 ?_
  refine lv_aload_n F.1 F.2.1 qd_S_boundCountOf_5 rfl (lv_at hl 0 rfl) ?_
  refine xg_S_types F hK w qk_126 qd_S_boundCountOf_6 ?_
  refine lv_iload_n F.1 F.2.1 qd_S_boundCountOf_9 rfl (lv_at hl 1 rfl) ?_
  obtain ⟨q1, hq2, hM⟩ := qbd hM
  refine x_calli F hK hN hA w (c_T_ownerOf l D ad cI hq2) qk_316 qk_274 qk_275 qk_3 qk_276 qv_T_ownerOf rfl rfl ⟨Nat.le_trans (by decide) hR.1, Nat.le_trans (by decide) hR.2⟩ (ci := 1) rfl (j := 2) rfl hl.1 rfl (Nat.le_of_ble_eq_true rfl) qd_S_boundCountOf_10 (fun H locs w => ?_)
  refine lv_aload_n F.1 F.2.1 qd_S_boundCountOf_13 rfl (lv_at hl 0 rfl) ?_
  refine xg_S_types F hK w qk_126 qd_S_boundCountOf_14 ?_
  refine lv_iload_n F.1 F.2.1 qd_S_boundCountOf_17 rfl (lv_at hl 1 rfl) ?_
  obtain ⟨q3, hq4, hM⟩ := qbd hM
  refine x_calli F hK hN hA w (c_T_firstOf l D ad cI hq4) qk_341 qk_342 qk_343 qk_3 qk_344 qv_T_firstOf rfl rfl ⟨Nat.le_trans (by decide) hR.1, Nat.le_trans (by decide) hR.2⟩ (ci := 1) rfl (j := 2) rfl hl.1 rfl (Nat.le_of_ble_eq_true rfl) qd_S_boundCountOf_18 (fun H locs w => ?_)
  obtain ⟨q5, hq6, hM⟩ := qbd hM
  refine x_calli F hK hN hA w (c_K_boundCount l D ad cI hq6) qk_479 qk_374 qk_375 qk_2 qk_376 qv_K_boundCount rfl rfl ⟨Nat.le_trans (by decide) hR.1, Nat.le_trans (by decide) hR.2⟩ (ci := 0) rfl (j := 1) rfl hl.1 rfl (Nat.le_of_ble_eq_true rfl) qd_S_boundCountOf_21 (fun H locs w => ?_)
  refine q_max F hl.1 qk_480 qk_85 qk_4 qk_86 ⟨Nat.le_trans (by decide) hR.1, Nat.le_trans (by decide) hR.2⟩ (Nat.le_of_ble_eq_true rfl) qd_S_boundCountOf_24 ?_
  refine lv_istore_n (lv' := [(2, .int (qmax (1 : Int32) q5)), (0, .ref (ad 3)), (1, .int a1)]) F.1 F.2.1 qd_S_boundCountOf_27 rfl hl (by decide) rfl (fun ls hl => ?_)
  refine lv_aload_n F.1 F.2.1 qd_S_boundCountOf_28 rfl (lv_at hl 1 rfl) ?_
  refine xg_S_types F hK w qk_126 qd_S_boundCountOf_29 ?_
  refine lv_iload_n F.1 F.2.1 qd_S_boundCountOf_32 rfl (lv_at hl 2 rfl) ?_
  obtain ⟨q7, hq8, hM⟩ := qbd hM
  refine x_calli F hK hN hA w (c_T_upOf l D ad cI hq8) qk_481 qk_482 qk_483 qk_3 qk_484 qv_T_upOf rfl rfl ⟨Nat.le_trans (by decide) hR.1, Nat.le_trans (by decide) hR.2⟩ (ci := 1) rfl (j := 2) rfl hl.1 rfl (Nat.le_of_ble_eq_true rfl) qd_S_boundCountOf_33 (fun H locs w => ?_)
  refine lv_iconst (v := (-1)) F.1 F.2.1 qd_S_boundCountOf_36 (by decide) ?_
  refine lv_icmp_ne (tgt := 44) F.1 F.2.1 qd_S_boundCountOf_37 (by decide) (fun hc9 => ?_) (fun hc9 => ?_)
  · rw [if_neg hc9] at hM
    refine lv_iload_n F.1 F.2.1 qd_S_boundCountOf_44 rfl (lv_at hl 0 rfl) ?_
    refine lv_iconst (v := 1) F.1 F.2.1 qd_S_boundCountOf_45 (by decide) ?_
    refine lv_iadd F.1 F.2.1 qd_S_boundCountOf_46 ?_
    cases hM
    exact hQ _ _ _ _ qd_S_boundCountOf_47 w
  · rw [if_pos hc9] at hM
    refine lv_iload_n F.1 F.2.1 qd_S_boundCountOf_40 rfl (lv_at hl 0 rfl) ?_
    refine lv_goto (tgt := 47) F.1 F.2.1 qd_S_boundCountOf_41 (by decide) ?_
    cases hM
    exact hQ _ _ _ _ qd_S_boundCountOf_47 w
set_option maxRecDepth 100000 in
theorem c_S_boundCountOf (l : Launch) (D : va_G) (ad : Nat → Nat) (cI : ClassId) {S : (Nat → Nat → Int32)} {a1 : Int32} {res : Int32} (hM : f_S_boundCountOf S a1 = some res) : xMi l qy_S_boundCountOf qb_S_boundCountOf 3 (some .int) { frames := 1, cells := 0, slots := 0, locals := 40 } D ad cI S [.ref (ad 3), .int a1] res S := x_ofi (by decide +kernel) (Nat.le_of_ble_eq_true rfl) (fun p e s m args below meth c Q A ls F hK hN hA w hl hQ => t_S_boundCountOf F ⟨Nat.le_refl _, Nat.le_refl _⟩ hK hN hA hQ a1 hM w hl)
-- K_boundAt
def f_K_boundAt (S : (Nat → Nat → Int32)) (a1 a2 a3 : Int32) : Option Int32 := if a3 < 0 then (some (0 : Int32)) else ((f_K_boundCount S a1 a2).bind (fun q2 => if a3 < q2 then (qck (qin ((((a1 * (2 : Int32)) + a2) * (2 : Int32)) + a3) 48) (some (S 5 ((((a1 * (2 : Int32)) + a2) * (2 : Int32)) + a3).toNatClampNeg))) else (some (0 : Int32))))
set_option maxRecDepth 100000 in
set_option maxHeartbeats 4000000 in
theorem t_K_boundAt {p : Program} {l : Launch} {e : Env} {R : Room} {s : State} {m : MethodId} {args : Array Value} {below : List Frame} {meth : Method} {c : Code} {Q : State → Prop} {D : va_G} {ad : Nat → Nat} {cI : ClassId} {A : Nat → Prop} (F : CallFix p m c qb_K_boundAt 4 s args qtb "CaptureSubtypes$Classes") (hR : 1 ≤ R.frames ∧ 23 ≤ R.locals) (hK : va_K D qcl [(cI, .int)] s) (hN : qnests xns s) (hA : ∀ q, s.heap.size ≤ q → A q) {res : Int32} {S : (Nat → Nat → Int32)} (hQ : ∀ (H : Heap) (locs : List Loc) (pc : Nat) (ls : Array Slot), decode qb_K_boundAt pc = .ok (.ireturn, 1) → xW D ad cI A s.heap S H locs → W p l e R s m args below meth c H locs 0 0 Q (F0 m pc ls [.int res])) (a1 a2 a3 : Int32) (hM : f_K_boundAt S a1 a2 a3 = some res) {H : Heap} {locs : List Loc} {ls : Array Slot} (w : xW D ad cI A s.heap S H locs) (hl : lv_has ls 4 [(0, .ref (ad 1)), (1, .int a1), (2, .int a2), (3, .int a3)]) : W p l e R s m args below meth c H locs 0 0 Q (F0 m 0 ls []) := by
  unfold f_K_boundAt at hM
  refine lv_iload_n F.1 F.2.1 qd_K_boundAt_0 rfl (lv_at hl 3 rfl) ?_
  refine lv_if_lt (tgt := 14) F.1 F.2.1 qd_K_boundAt_1 (by decide) (fun hc1 => ?_) (fun hc1 => ?_)
  · rw [if_pos hc1] at hM
    refine lv_iconst (v := 0) F.1 F.2.1 qd_K_boundAt_14 (by decide) ?_
    cases hM
    exact hQ _ _ _ _ qd_K_boundAt_15 w
  · rw [if_neg hc1] at hM
    refine lv_iload_n F.1 F.2.1 qd_K_boundAt_4 rfl (lv_at hl 3 rfl) ?_
    refine lv_aload_n F.1 F.2.1 qd_K_boundAt_5 rfl (lv_at hl 0 rfl) ?_
    refine lv_iload_n F.1 F.2.1 qd_K_boundAt_6 rfl (lv_at hl 1 rfl) ?_
    refine lv_iload_n F.1 F.2.1 qd_K_boundAt_7 rfl (lv_at hl 2 rfl) ?_
    obtain ⟨q2, hq3, hM⟩ := qbd hM
    refine x_calli F hK hN hA w (c_K_boundCount l D ad cI hq3) qk_383 qk_374 qk_375 qk_2 qk_376 qv_K_boundCount rfl rfl ⟨Nat.le_trans (by decide) hR.1, Nat.le_trans (by decide) hR.2⟩ (ci := 0) rfl (j := 1) rfl hl.1 rfl (Nat.le_of_ble_eq_true rfl) qd_K_boundAt_8 (fun H locs w => ?_)
    refine lv_icmp_lt (tgt := 16) F.1 F.2.1 qd_K_boundAt_11 (by decide) (fun hc4 => ?_) (fun hc4 => ?_)
    · rw [if_pos hc4] at hM
      refine lv_aload_n F.1 F.2.1 qd_K_boundAt_16 rfl (lv_at hl 0 rfl) ?_
      refine xg_K_bounds F hK w qk_39 qd_K_boundAt_17 ?_
      refine lv_iload_n F.1 F.2.1 qd_K_boundAt_20 rfl (lv_at hl 1 rfl) ?_
      refine lv_iconst (v := 2) F.1 F.2.1 qd_K_boundAt_21 (by decide) ?_
      refine lv_imul F.1 F.2.1 qd_K_boundAt_22 ?_
      refine lv_iload_n F.1 F.2.1 qd_K_boundAt_23 rfl (lv_at hl 2 rfl) ?_
      refine lv_iadd F.1 F.2.1 qd_K_boundAt_24 ?_
      refine lv_iconst (v := 2) F.1 F.2.1 qd_K_boundAt_25 (by decide) ?_
      refine lv_imul F.1 F.2.1 qd_K_boundAt_26 ?_
      refine lv_iload_n F.1 F.2.1 qd_K_boundAt_27 rfl (lv_at hl 3 rfl) ?_
      refine lv_iadd F.1 F.2.1 qd_K_boundAt_28 ?_
      obtain ⟨hi5, hM⟩ := qck_ok hM
      refine xl_K_bounds F hK w hi5 qd_K_boundAt_29 ?_
      cases hM
      exact hQ _ _ _ _ qd_K_boundAt_30 w
    · rw [if_neg hc4] at hM
      refine lv_iconst (v := 0) F.1 F.2.1 qd_K_boundAt_14 (by decide) ?_
      cases hM
      exact hQ _ _ _ _ qd_K_boundAt_15 w
set_option maxRecDepth 100000 in
theorem c_K_boundAt (l : Launch) (D : va_G) (ad : Nat → Nat) (cI : ClassId) {S : (Nat → Nat → Int32)} {a1 a2 a3 : Int32} {res : Int32} (hM : f_K_boundAt S a1 a2 a3 = some res) : xMi l qy_K_boundAt qb_K_boundAt 4 (some .int) { frames := 1, cells := 0, slots := 0, locals := 23 } D ad cI S [.ref (ad 1), .int a1, .int a2, .int a3] res S := x_ofi (by decide +kernel) (Nat.le_of_ble_eq_true rfl) (fun p e s m args below meth c Q A ls F hK hN hA w hl hQ => t_K_boundAt F ⟨Nat.le_refl _, Nat.le_refl _⟩ hK hN hA hQ a1 a2 a3 hM w hl)
-- S_boundOf
def f_S_boundOf_17 (S : (Nat → Nat → Int32)) (v1 v2 s1 : Int32) : Option (Int32 × (Nat → Nat → Int32)) := if s1 ≤ v2 then ((f_T_ownerOf S v1).bind (fun q2 => (f_T_firstOf S v1).bind (fun q4 => (f_K_boundAt S q2 q4 (v2 - s1)).bind (fun q6 => (f_T_sortOf S v1).bind (fun q8 => if q8 = (8 : Int32) then ((f_T_secondOf S v1).bind (fun q11 => (f_S_putIn 64 S q6 q11 (20 : Int32)).bind (fun q13 => some (q13.1, q13.2)))) else (some (q6, S))))))) else ((f_T_upOf S v1).bind (fun q15 => some (q15, S)))
def f_S_boundOf (S : (Nat → Nat → Int32)) (a1 a2 : Int32) : Option (Int32 × (Nat → Nat → Int32)) := (f_T_upOf S a1).bind (fun q1 => if q1 = (-1 : Int32) then (f_S_boundOf_17  S a1 a2 (0 : Int32)) else (f_S_boundOf_17  S a1 a2 (1 : Int32)))
set_option maxRecDepth 100000 in
set_option maxHeartbeats 4000000 in
theorem t_S_boundOf_17 {p : Program} {l : Launch} {e : Env} {R : Room} {s : State} {m : MethodId} {args : Array Value} {below : List Frame} {meth : Method} {c : Code} {Q : State → Prop} {D : va_G} {ad : Nat → Nat} {cI : ClassId} {A : Nat → Prop} (F : CallFix p m c qb_S_boundOf 5 s args qtb "CaptureSubtypes$Shapes") (hR : 67 ≤ R.frames ∧ 1824 ≤ R.locals) (hK : va_K D qcl [(cI, .int)] s) (hN : qnests xns s) (hA : ∀ q, s.heap.size ≤ q → A q) {res : (Int32 × (Nat → Nat → Int32))} (hQ : ∀ (H : Heap) (locs : List Loc) (pc : Nat) (ls : Array Slot), decode qb_S_boundOf pc = .ok (.ireturn, 1) → xW D ad cI A s.heap res.2 H locs → W p l e R s m args below meth c H locs 0 0 Q (F0 m pc ls [.int res.1])) (S : (Nat → Nat → Int32)) (v1 v2 s1 : Int32) (hM : f_S_boundOf_17 S v1 v2 s1 = some res) {H : Heap} {locs : List Loc} {ls : Array Slot} (w : xW D ad cI A s.heap S H locs) (hl : lv_has ls 5 [(0, .ref (ad 3)), (1, .int v1), (2, .int v2)]) : W p l e R s m args below meth c H locs 0 0 Q (F0 m 17 ls [.int s1]) := by
  unfold f_S_boundOf_17 at hM
  refine lv_istore_n (lv' := [(3, .int s1), (0, .ref (ad 3)), (1, .int v1), (2, .int v2)]) F.1 F.2.1 qd_S_boundOf_17 rfl hl (by decide) rfl (fun ls hl => ?_)
  refine lv_iload_n F.1 F.2.1 qd_S_boundOf_18 rfl (lv_at hl 3 rfl) ?_
  refine lv_iload_n F.1 F.2.1 qd_S_boundOf_19 rfl (lv_at hl 0 rfl) ?_
  refine lv_icmp_ge (tgt := 32) F.1 F.2.1 qd_S_boundOf_20 (by decide) (fun hc1 => ?_) (fun hc1 => ?_)
  · rw [if_pos hc1] at hM
    refine lv_aload_n F.1 F.2.1 qd_S_boundOf_32 rfl (lv_at hl 1 rfl) ?_
    refine xg_S_classes F hK w qk_125 qd_S_boundOf_33 ?_
    refine lv_aload_n F.1 F.2.1 qd_S_boundOf_36 rfl (lv_at hl 1 rfl) ?_
    refine xg_S_types F hK w qk_126 qd_S_boundOf_37 ?_
    refine lv_iload_n F.1 F.2.1 qd_S_boundOf_40 rfl (lv_at hl 2 rfl) ?_
    obtain ⟨q2, hq3, hM⟩ := qbd hM
    refine x_calli F hK hN hA w (c_T_ownerOf l D ad cI hq3) qk_316 qk_274 qk_275 qk_3 qk_276 qv_T_ownerOf rfl rfl ⟨Nat.le_trans (by decide) hR.1, Nat.le_trans (by decide) hR.2⟩ (ci := 1) rfl (j := 2) rfl hl.1 rfl (Nat.le_of_ble_eq_true rfl) qd_S_boundOf_41 (fun H locs w => ?_)
    refine lv_aload_n F.1 F.2.1 qd_S_boundOf_44 rfl (lv_at hl 1 rfl) ?_
    refine xg_S_types F hK w qk_126 qd_S_boundOf_45 ?_
    refine lv_iload_n F.1 F.2.1 qd_S_boundOf_48 rfl (lv_at hl 2 rfl) ?_
    obtain ⟨q4, hq5, hM⟩ := qbd hM
    refine x_calli F hK hN hA w (c_T_firstOf l D ad cI hq5) qk_341 qk_342 qk_343 qk_3 qk_344 qv_T_firstOf rfl rfl ⟨Nat.le_trans (by decide) hR.1, Nat.le_trans (by decide) hR.2⟩ (ci := 1) rfl (j := 2) rfl hl.1 rfl (Nat.le_of_ble_eq_true rfl) qd_S_boundOf_49 (fun H locs w => ?_)
    refine lv_iload_n F.1 F.2.1 qd_S_boundOf_52 rfl (lv_at hl 3 rfl) ?_
    refine lv_iload_n F.1 F.2.1 qd_S_boundOf_53 rfl (lv_at hl 0 rfl) ?_
    refine lv_isub F.1 F.2.1 qd_S_boundOf_54 ?_
    obtain ⟨q6, hq7, hM⟩ := qbd hM
    refine x_calli F hK hN hA w (c_K_boundAt l D ad cI hq7) qk_489 qk_490 qk_491 qk_2 qk_492 qv_K_boundAt rfl rfl ⟨Nat.le_trans (by decide) hR.1, Nat.le_trans (by decide) hR.2⟩ (ci := 0) rfl (j := 1) rfl hl.1 rfl (Nat.le_of_ble_eq_true rfl) qd_S_boundOf_55 (fun H locs w => ?_)
    refine lv_istore (lv' := [(4, .int q6), (3, .int s1), (0, .ref (ad 3)), (1, .int v1), (2, .int v2)]) F.1 F.2.1 qd_S_boundOf_58 hl (by decide) rfl (fun ls hl => ?_)
    refine lv_aload_n F.1 F.2.1 qd_S_boundOf_60 rfl (lv_at hl 2 rfl) ?_
    refine xg_S_types F hK w qk_126 qd_S_boundOf_61 ?_
    refine lv_iload_n F.1 F.2.1 qd_S_boundOf_64 rfl (lv_at hl 3 rfl) ?_
    obtain ⟨q8, hq9, hM⟩ := qbd hM
    refine x_calli F hK hN hA w (c_T_sortOf l D ad cI hq9) qk_322 qk_270 qk_271 qk_3 qk_272 qv_T_sortOf rfl rfl ⟨Nat.le_trans (by decide) hR.1, Nat.le_trans (by decide) hR.2⟩ (ci := 1) rfl (j := 2) rfl hl.1 rfl (Nat.le_of_ble_eq_true rfl) qd_S_boundOf_65 (fun H locs w => ?_)
    refine lv_bipush (v := 8) F.1 F.2.1 qd_S_boundOf_68 (by decide) ?_
    refine lv_icmp_ne (tgt := 90) F.1 F.2.1 qd_S_boundOf_70 (by decide) (fun hc10 => ?_) (fun hc10 => ?_)
    · rw [if_neg hc10] at hM
      refine lv_iload F.1 F.2.1 qd_S_boundOf_90 (lv_at hl 0 rfl) ?_
      cases hM
      exact hQ _ _ _ _ qd_S_boundOf_92 w
    · rw [if_pos hc10] at hM
      refine lv_aload_n F.1 F.2.1 qd_S_boundOf_73 rfl (lv_at hl 2 rfl) ?_
      refine lv_iload F.1 F.2.1 qd_S_boundOf_74 (lv_at hl 0 rfl) ?_
      refine lv_aload_n F.1 F.2.1 qd_S_boundOf_76 rfl (lv_at hl 2 rfl) ?_
      refine xg_S_types F hK w qk_126 qd_S_boundOf_77 ?_
      refine lv_iload_n F.1 F.2.1 qd_S_boundOf_80 rfl (lv_at hl 3 rfl) ?_
      obtain ⟨q11, hq12, hM⟩ := qbd hM
      refine x_calli F hK hN hA w (c_T_secondOf l D ad cI hq12) qk_349 qk_350 qk_351 qk_3 qk_352 qv_T_secondOf rfl rfl ⟨Nat.le_trans (by decide) hR.1, Nat.le_trans (by decide) hR.2⟩ (ci := 1) rfl (j := 2) rfl hl.1 rfl (Nat.le_of_ble_eq_true rfl) qd_S_boundOf_81 (fun H locs w => ?_)
      refine lv_bipush (v := 20) F.1 F.2.1 qd_S_boundOf_84 (by decide) ?_
      obtain ⟨q13, hq14, hM⟩ := qbd hM
      refine x_calli F hK hN hA w (c_S_putIn l D ad cI 64 hq14) qk_333 qk_335 qs_S_putIn qk_5 qk_336 qv_S_putIn rfl rfl ⟨Nat.le_trans (by decide) hR.1, Nat.le_trans (by decide) hR.2⟩ (ci := 2) rfl (j := 3) rfl hl.1 rfl (Nat.le_of_ble_eq_true rfl) qd_S_boundOf_86 (fun H locs w => ?_)
      cases hM
      exact hQ _ _ _ _ qd_S_boundOf_89 w
  · rw [if_neg hc1] at hM
    refine lv_aload_n F.1 F.2.1 qd_S_boundOf_23 rfl (lv_at hl 1 rfl) ?_
    refine xg_S_types F hK w qk_126 qd_S_boundOf_24 ?_
    refine lv_iload_n F.1 F.2.1 qd_S_boundOf_27 rfl (lv_at hl 2 rfl) ?_
    obtain ⟨q15, hq16, hM⟩ := qbd hM
    refine x_calli F hK hN hA w (c_T_upOf l D ad cI hq16) qk_481 qk_482 qk_483 qk_3 qk_484 qv_T_upOf rfl rfl ⟨Nat.le_trans (by decide) hR.1, Nat.le_trans (by decide) hR.2⟩ (ci := 1) rfl (j := 2) rfl hl.1 rfl (Nat.le_of_ble_eq_true rfl) qd_S_boundOf_28 (fun H locs w => ?_)
    cases hM
    exact hQ _ _ _ _ qd_S_boundOf_31 w
set_option maxRecDepth 100000 in
set_option maxHeartbeats 4000000 in
theorem t_S_boundOf {p : Program} {l : Launch} {e : Env} {R : Room} {s : State} {m : MethodId} {args : Array Value} {below : List Frame} {meth : Method} {c : Code} {Q : State → Prop} {D : va_G} {ad : Nat → Nat} {cI : ClassId} {A : Nat → Prop} (F : CallFix p m c qb_S_boundOf 5 s args qtb "CaptureSubtypes$Shapes") (hR : 67 ≤ R.frames ∧ 1824 ≤ R.locals) (hK : va_K D qcl [(cI, .int)] s) (hN : qnests xns s) (hA : ∀ q, s.heap.size ≤ q → A q) {res : (Int32 × (Nat → Nat → Int32))} (hQ : ∀ (H : Heap) (locs : List Loc) (pc : Nat) (ls : Array Slot), decode qb_S_boundOf pc = .ok (.ireturn, 1) → xW D ad cI A s.heap res.2 H locs → W p l e R s m args below meth c H locs 0 0 Q (F0 m pc ls [.int res.1])) (S : (Nat → Nat → Int32)) (a1 a2 : Int32) (hM : f_S_boundOf S a1 a2 = some res) {H : Heap} {locs : List Loc} {ls : Array Slot} (w : xW D ad cI A s.heap S H locs) (hl : lv_has ls 5 [(0, .ref (ad 3)), (1, .int a1), (2, .int a2)]) : W p l e R s m args below meth c H locs 0 0 Q (F0 m 0 ls []) := by
  unfold f_S_boundOf at hM
  refine lv_aload_n F.1 F.2.1 qd_S_boundOf_0 rfl (lv_at hl 0 rfl) ?_
  refine xg_S_types F hK w qk_126 qd_S_boundOf_1 ?_
  refine lv_iload_n F.1 F.2.1 qd_S_boundOf_4 rfl (lv_at hl 1 rfl) ?_
  obtain ⟨q1, hq2, hM⟩ := qbd hM
  refine x_calli F hK hN hA w (c_T_upOf l D ad cI hq2) qk_481 qk_482 qk_483 qk_3 qk_484 qv_T_upOf rfl rfl ⟨Nat.le_trans (by decide) hR.1, Nat.le_trans (by decide) hR.2⟩ (ci := 1) rfl (j := 2) rfl hl.1 rfl (Nat.le_of_ble_eq_true rfl) qd_S_boundOf_5 (fun H locs w => ?_)
  refine lv_iconst (v := (-1)) F.1 F.2.1 qd_S_boundOf_8 (by decide) ?_
  refine lv_icmp_ne (tgt := 16) F.1 F.2.1 qd_S_boundOf_9 (by decide) (fun hc3 => ?_) (fun hc3 => ?_)
  · rw [if_neg hc3] at hM
    refine lv_iconst (v := 1) F.1 F.2.1 qd_S_boundOf_16 (by decide) ?_
    exact t_S_boundOf_17 F hR hK hN hA hQ  _ _ _ _ hM w (lv_sub hl [0, 1, 2] rfl)
  · rw [if_pos hc3] at hM
    refine lv_iconst (v := 0) F.1 F.2.1 qd_S_boundOf_12 (by decide) ?_
    refine lv_goto (tgt := 17) F.1 F.2.1 qd_S_boundOf_13 (by decide) ?_
    exact t_S_boundOf_17 F hR hK hN hA hQ  _ _ _ _ hM w (lv_sub hl [0, 1, 2] rfl)
set_option maxRecDepth 100000 in
theorem c_S_boundOf (l : Launch) (D : va_G) (ad : Nat → Nat) (cI : ClassId) {S : (Nat → Nat → Int32)} {a1 a2 : Int32} {res : (Int32 × (Nat → Nat → Int32))} (hM : f_S_boundOf S a1 a2 = some res) : xMi l qy_S_boundOf qb_S_boundOf 5 (some .int) { frames := 67, cells := 0, slots := 0, locals := 1824 } D ad cI S [.ref (ad 3), .int a1, .int a2] res.1 res.2 := x_ofi (by decide +kernel) (Nat.le_of_ble_eq_true rfl) (fun p e s m args below meth c Q A ls F hK hN hA w hl hQ => t_S_boundOf F ⟨Nat.le_refl _, Nat.le_refl _⟩ hK hN hA hQ S a1 a2 hM w hl)
-- T_lowOf
def f_T_lowOf (S : (Nat → Nat → Int32)) (a1 : Int32) : Option Int32 := if a1 < 0 then (some (-1 : Int32)) else (if (S 11 0) ≤ a1 then (some (-1 : Int32)) else (qck (qin a1 1024) (some (S 19 a1.toNatClampNeg))))
set_option maxRecDepth 100000 in
set_option maxHeartbeats 4000000 in
theorem t_T_lowOf {p : Program} {l : Launch} {e : Env} {R : Room} {s : State} {m : MethodId} {args : Array Value} {below : List Frame} {meth : Method} {c : Code} {Q : State → Prop} {D : va_G} {ad : Nat → Nat} {cI : ClassId} {A : Nat → Prop} (F : CallFix p m c qb_T_lowOf 2 s args qtb "CaptureSubtypes$Types") (hR : 0 ≤ R.frames ∧ 0 ≤ R.locals) (hK : va_K D qcl [(cI, .int)] s) (hN : qnests xns s) (hA : ∀ q, s.heap.size ≤ q → A q) {res : Int32} {S : (Nat → Nat → Int32)} (hQ : ∀ (H : Heap) (locs : List Loc) (pc : Nat) (ls : Array Slot), decode qb_T_lowOf pc = .ok (.ireturn, 1) → xW D ad cI A s.heap S H locs → W p l e R s m args below meth c H locs 0 0 Q (F0 m pc ls [.int res])) (a1 : Int32) (hM : f_T_lowOf S a1 = some res) {H : Heap} {locs : List Loc} {ls : Array Slot} (w : xW D ad cI A s.heap S H locs) (hl : lv_has ls 2 [(0, .ref (ad 2)), (1, .int a1)]) : W p l e R s m args below meth c H locs 0 0 Q (F0 m 0 ls []) := by
  unfold f_T_lowOf at hM
  refine lv_iload_n F.1 F.2.1 qd_T_lowOf_0 rfl (lv_at hl 1 rfl) ?_
  refine lv_if_lt (tgt := 21) F.1 F.2.1 qd_T_lowOf_1 (by decide) (fun hc1 => ?_) (fun hc1 => ?_)
  · rw [if_pos hc1] at hM
    refine lv_iconst (v := (-1)) F.1 F.2.1 qd_T_lowOf_21 (by decide) ?_
    cases hM
    exact hQ _ _ _ _ qd_T_lowOf_22 w
  · rw [if_neg hc1] at hM
    refine lv_iload_n F.1 F.2.1 qd_T_lowOf_4 rfl (lv_at hl 1 rfl) ?_
    refine lv_aload_n F.1 F.2.1 qd_T_lowOf_5 rfl (lv_at hl 0 rfl) ?_
    refine xg_T_top F hK w qk_89 qd_T_lowOf_6 ?_
    refine lv_icmp_ge (tgt := 21) F.1 F.2.1 qd_T_lowOf_9 (by decide) (fun hc2 => ?_) (fun hc2 => ?_)
    · rw [if_pos hc2] at hM
      refine lv_iconst (v := (-1)) F.1 F.2.1 qd_T_lowOf_21 (by decide) ?_
      cases hM
      exact hQ _ _ _ _ qd_T_lowOf_22 w
    · rw [if_neg hc2] at hM
      refine lv_aload_n F.1 F.2.1 qd_T_lowOf_12 rfl (lv_at hl 0 rfl) ?_
      refine xg_T_lows F hK w qk_97 qd_T_lowOf_13 ?_
      refine lv_iload_n F.1 F.2.1 qd_T_lowOf_16 rfl (lv_at hl 1 rfl) ?_
      obtain ⟨hi3, hM⟩ := qck_ok hM
      refine xl_T_lows F hK w hi3 qd_T_lowOf_17 ?_
      refine lv_goto (tgt := 22) F.1 F.2.1 qd_T_lowOf_18 (by decide) ?_
      cases hM
      exact hQ _ _ _ _ qd_T_lowOf_22 w
set_option maxRecDepth 100000 in
theorem c_T_lowOf (l : Launch) (D : va_G) (ad : Nat → Nat) (cI : ClassId) {S : (Nat → Nat → Int32)} {a1 : Int32} {res : Int32} (hM : f_T_lowOf S a1 = some res) : xMi l qy_T_lowOf qb_T_lowOf 2 (some .int) { frames := 0, cells := 0, slots := 0, locals := 0 } D ad cI S [.ref (ad 2), .int a1] res S := x_ofi (by decide +kernel) (Nat.le_of_ble_eq_true rfl) (fun p e s m args below meth c Q A ls F hK hN hA w hl hQ => t_T_lowOf F ⟨Nat.le_refl _, Nat.le_refl _⟩ hK hN hA hQ a1 hM w hl)
-- T_hasWildArgument
def f_T_hasWildArgument (S : (Nat → Nat → Int32)) (a1 : Int32) : Option Bool := (f_T_sortOf S a1).bind (fun q1 => if q1 = (2 : Int32) then ((f_T_firstOf S a1).bind (fun q4 => (f_T_sortOf S q4).bind (fun q6 => if q6 = (5 : Int32) then (some true) else ((f_T_secondOf S a1).bind (fun q9 => (f_T_sortOf S q9).bind (fun q11 => if q11 = (5 : Int32) then (some true) else (some false))))))) else (some false))
set_option maxRecDepth 100000 in
set_option maxHeartbeats 4000000 in
theorem t_T_hasWildArgument {p : Program} {l : Launch} {e : Env} {R : Room} {s : State} {m : MethodId} {args : Array Value} {below : List Frame} {meth : Method} {c : Code} {Q : State → Prop} {D : va_G} {ad : Nat → Nat} {cI : ClassId} {A : Nat → Prop} (F : CallFix p m c qb_T_hasWildArgument 2 s args qtb "CaptureSubtypes$Types") (hR : 1 ≤ R.frames ∧ 21 ≤ R.locals) (hK : va_K D qcl [(cI, .int)] s) (hN : qnests xns s) (hA : ∀ q, s.heap.size ≤ q → A q) {res : Bool} {S : (Nat → Nat → Int32)} (hQ : ∀ (H : Heap) (locs : List Loc) (pc : Nat) (ls : Array Slot), decode qb_T_hasWildArgument pc = .ok (.ireturn, 1) → xW D ad cI A s.heap S H locs → W p l e R s m args below meth c H locs 0 0 Q (F0 m pc ls [.int (qB res)])) (a1 : Int32) (hM : f_T_hasWildArgument S a1 = some res) {H : Heap} {locs : List Loc} {ls : Array Slot} (w : xW D ad cI A s.heap S H locs) (hl : lv_has ls 2 [(0, .ref (ad 2)), (1, .int a1)]) : W p l e R s m args below meth c H locs 0 0 Q (F0 m 0 ls []) := by
  unfold f_T_hasWildArgument at hM
  refine lv_aload_n F.1 F.2.1 qd_T_hasWildArgument_0 rfl (lv_at hl 0 rfl) ?_
  refine lv_iload_n F.1 F.2.1 qd_T_hasWildArgument_1 rfl (lv_at hl 1 rfl) ?_
  obtain ⟨q1, hq2, hM⟩ := qbd hM
  refine x_calli F hK hN hA w (c_T_sortOf l D ad cI hq2) qk_269 qk_270 qk_271 qk_3 qk_272 qv_T_sortOf rfl rfl ⟨Nat.le_trans (by decide) hR.1, Nat.le_trans (by decide) hR.2⟩ (ci := 1) rfl (j := 2) rfl hl.1 rfl (Nat.le_of_ble_eq_true rfl) qd_T_hasWildArgument_2 (fun H locs w => ?_)
  refine lv_iconst (v := 2) F.1 F.2.1 qd_T_hasWildArgument_5 (by decide) ?_
  refine lv_icmp_ne (tgt := 39) F.1 F.2.1 qd_T_hasWildArgument_6 (by decide) (fun hc3 => ?_) (fun hc3 => ?_)
  · rw [if_neg hc3] at hM
    refine lv_iconst (v := 0) F.1 F.2.1 qd_T_hasWildArgument_39 (by decide) ?_
    cases hM
    exact hQ _ _ _ _ qd_T_hasWildArgument_40 w
  · rw [if_pos hc3] at hM
    refine lv_aload_n F.1 F.2.1 qd_T_hasWildArgument_9 rfl (lv_at hl 0 rfl) ?_
    refine lv_aload_n F.1 F.2.1 qd_T_hasWildArgument_10 rfl (lv_at hl 0 rfl) ?_
    refine lv_iload_n F.1 F.2.1 qd_T_hasWildArgument_11 rfl (lv_at hl 1 rfl) ?_
    obtain ⟨q4, hq5, hM⟩ := qbd hM
    refine x_calli F hK hN hA w (c_T_firstOf l D ad cI hq5) qk_515 qk_342 qk_343 qk_3 qk_344 qv_T_firstOf rfl rfl ⟨Nat.le_trans (by decide) hR.1, Nat.le_trans (by decide) hR.2⟩ (ci := 1) rfl (j := 2) rfl hl.1 rfl (Nat.le_of_ble_eq_true rfl) qd_T_hasWildArgument_12 (fun H locs w => ?_)
    obtain ⟨q6, hq7, hM⟩ := qbd hM
    refine x_calli F hK hN hA w (c_T_sortOf l D ad cI hq7) qk_269 qk_270 qk_271 qk_3 qk_272 qv_T_sortOf rfl rfl ⟨Nat.le_trans (by decide) hR.1, Nat.le_trans (by decide) hR.2⟩ (ci := 1) rfl (j := 2) rfl hl.1 rfl (Nat.le_of_ble_eq_true rfl) qd_T_hasWildArgument_15 (fun H locs w => ?_)
    refine lv_iconst (v := 5) F.1 F.2.1 qd_T_hasWildArgument_18 (by decide) ?_
    refine lv_icmp_eq (tgt := 35) F.1 F.2.1 qd_T_hasWildArgument_19 (by decide) (fun hc8 => ?_) (fun hc8 => ?_)
    · rw [if_pos hc8] at hM
      refine lv_iconst (v := 1) F.1 F.2.1 qd_T_hasWildArgument_35 (by decide) ?_
      refine lv_goto (tgt := 40) F.1 F.2.1 qd_T_hasWildArgument_36 (by decide) ?_
      cases hM
      exact hQ _ _ _ _ qd_T_hasWildArgument_40 w
    · rw [if_neg hc8] at hM
      refine lv_aload_n F.1 F.2.1 qd_T_hasWildArgument_22 rfl (lv_at hl 0 rfl) ?_
      refine lv_aload_n F.1 F.2.1 qd_T_hasWildArgument_23 rfl (lv_at hl 0 rfl) ?_
      refine lv_iload_n F.1 F.2.1 qd_T_hasWildArgument_24 rfl (lv_at hl 1 rfl) ?_
      obtain ⟨q9, hq10, hM⟩ := qbd hM
      refine x_calli F hK hN hA w (c_T_secondOf l D ad cI hq10) qk_516 qk_350 qk_351 qk_3 qk_352 qv_T_secondOf rfl rfl ⟨Nat.le_trans (by decide) hR.1, Nat.le_trans (by decide) hR.2⟩ (ci := 1) rfl (j := 2) rfl hl.1 rfl (Nat.le_of_ble_eq_true rfl) qd_T_hasWildArgument_25 (fun H locs w => ?_)
      obtain ⟨q11, hq12, hM⟩ := qbd hM
      refine x_calli F hK hN hA w (c_T_sortOf l D ad cI hq12) qk_269 qk_270 qk_271 qk_3 qk_272 qv_T_sortOf rfl rfl ⟨Nat.le_trans (by decide) hR.1, Nat.le_trans (by decide) hR.2⟩ (ci := 1) rfl (j := 2) rfl hl.1 rfl (Nat.le_of_ble_eq_true rfl) qd_T_hasWildArgument_28 (fun H locs w => ?_)
      refine lv_iconst (v := 5) F.1 F.2.1 qd_T_hasWildArgument_31 (by decide) ?_
      refine lv_icmp_ne (tgt := 39) F.1 F.2.1 qd_T_hasWildArgument_32 (by decide) (fun hc13 => ?_) (fun hc13 => ?_)
      · rw [if_neg hc13] at hM
        refine lv_iconst (v := 0) F.1 F.2.1 qd_T_hasWildArgument_39 (by decide) ?_
        cases hM
        exact hQ _ _ _ _ qd_T_hasWildArgument_40 w
      · rw [if_pos hc13] at hM
        refine lv_iconst (v := 1) F.1 F.2.1 qd_T_hasWildArgument_35 (by decide) ?_
        refine lv_goto (tgt := 40) F.1 F.2.1 qd_T_hasWildArgument_36 (by decide) ?_
        cases hM
        exact hQ _ _ _ _ qd_T_hasWildArgument_40 w
set_option maxRecDepth 100000 in
theorem c_T_hasWildArgument (l : Launch) (D : va_G) (ad : Nat → Nat) (cI : ClassId) {S : (Nat → Nat → Int32)} {a1 : Int32} {res : Bool} (hM : f_T_hasWildArgument S a1 = some res) : xMi l qy_T_hasWildArgument qb_T_hasWildArgument 2 (some .boolean) { frames := 1, cells := 0, slots := 0, locals := 21 } D ad cI S [.ref (ad 2), .int a1] (qB res) S := x_ofz (by decide +kernel) (Nat.le_of_ble_eq_true rfl) (fun p e s m args below meth c Q A ls F hK hN hA w hl hQ => t_T_hasWildArgument F ⟨Nat.le_refl _, Nat.le_refl _⟩ hK hN hA hQ a1 hM w hl)
-- T_hold
def f_T_hold_88 (S : (Nat → Nat → Int32)) (v4 s1 s2 : Int32) : Option (Int32 × (Nat → Nat → Int32)) := qck (qin s1 1024) (some (v4, (qwr S 19 s1.toNatClampNeg s2)))
def f_T_hold_63 (S : (Nat → Nat → Int32)) (v3 v4 s1 s2 : Int32) : Option (Int32 × (Nat → Nat → Int32)) := qck (qin s1 1024) ((f_T_ownerOf (qwr S 18 s1.toNatClampNeg s2) v3).bind (fun q2 => if q2 = (2 : Int32) then ((f_T_firstOf (qwr S 18 s1.toNatClampNeg s2) v3).bind (fun q5 => f_T_hold_88  (qwr S 18 s1.toNatClampNeg s2) v4 v4 q5)) else (f_T_hold_88  (qwr S 18 s1.toNatClampNeg s2) v4 v4 (-1 : Int32))))
def f_T_hold (S : (Nat → Nat → Int32)) (a1 a2 a3 : Int32) : Option (Int32 × (Nat → Nat → Int32)) := (f_T_sortOf S a3).bind (fun q1 => if q1 = (5 : Int32) then ((f_T_put S (8 : Int32) a1 a2 (-1 : Int32) (1024 : Int32)).bind (fun q4 => if q4.1 < 0 then (some (q4.1, q4.2)) else (if (q4.2 11 0) ≤ q4.1 then (some (q4.1, q4.2)) else ((f_T_ownerOf q4.2 a3).bind (fun q8 => if q8 = (1 : Int32) then ((f_T_firstOf q4.2 a3).bind (fun q11 => f_T_hold_63  q4.2 a3 q4.1 q4.1 q11)) else (f_T_hold_63  q4.2 a3 q4.1 q4.1 (-1 : Int32))))))) else (some (a3, S)))
set_option maxRecDepth 100000 in
set_option maxHeartbeats 4000000 in
theorem t_T_hold_88 {p : Program} {l : Launch} {e : Env} {R : Room} {s : State} {m : MethodId} {args : Array Value} {below : List Frame} {meth : Method} {c : Code} {Q : State → Prop} {D : va_G} {ad : Nat → Nat} {cI : ClassId} {A : Nat → Prop} (F : CallFix p m c qb_T_hold 5 s args qtb "CaptureSubtypes$Types") (hR : 2 ≤ R.frames ∧ 69 ≤ R.locals) (hK : va_K D qcl [(cI, .int)] s) (hN : qnests xns s) (hA : ∀ q, s.heap.size ≤ q → A q) {res : (Int32 × (Nat → Nat → Int32))} (hQ : ∀ (H : Heap) (locs : List Loc) (pc : Nat) (ls : Array Slot), decode qb_T_hold pc = .ok (.ireturn, 1) → xW D ad cI A s.heap res.2 H locs → W p l e R s m args below meth c H locs 0 0 Q (F0 m pc ls [.int res.1])) (S : (Nat → Nat → Int32)) (v4 s1 s2 : Int32) (hM : f_T_hold_88 S v4 s1 s2 = some res) {H : Heap} {locs : List Loc} {ls : Array Slot} (w : xW D ad cI A s.heap S H locs) (hl : lv_has ls 5 [(0, .ref (ad 2)), (4, .int v4)]) : W p l e R s m args below meth c H locs 0 0 Q (F0 m 88 ls [.int s2, .int s1, .ref (ad 22)]) := by
  unfold f_T_hold_88 at hM
  obtain ⟨hi1, hM⟩ := qck_ok hM
  refine xs_T_lows F hK w hi1 qd_T_hold_88 (fun H locs w => ?_)
  refine lv_iload F.1 F.2.1 qd_T_hold_89 (lv_at hl 1 rfl) ?_
  cases hM
  exact hQ _ _ _ _ qd_T_hold_91 w
set_option maxRecDepth 100000 in
set_option maxHeartbeats 4000000 in
theorem t_T_hold_63 {p : Program} {l : Launch} {e : Env} {R : Room} {s : State} {m : MethodId} {args : Array Value} {below : List Frame} {meth : Method} {c : Code} {Q : State → Prop} {D : va_G} {ad : Nat → Nat} {cI : ClassId} {A : Nat → Prop} (F : CallFix p m c qb_T_hold 5 s args qtb "CaptureSubtypes$Types") (hR : 2 ≤ R.frames ∧ 69 ≤ R.locals) (hK : va_K D qcl [(cI, .int)] s) (hN : qnests xns s) (hA : ∀ q, s.heap.size ≤ q → A q) {res : (Int32 × (Nat → Nat → Int32))} (hQ : ∀ (H : Heap) (locs : List Loc) (pc : Nat) (ls : Array Slot), decode qb_T_hold pc = .ok (.ireturn, 1) → xW D ad cI A s.heap res.2 H locs → W p l e R s m args below meth c H locs 0 0 Q (F0 m pc ls [.int res.1])) (S : (Nat → Nat → Int32)) (v3 v4 s1 s2 : Int32) (hM : f_T_hold_63 S v3 v4 s1 s2 = some res) {H : Heap} {locs : List Loc} {ls : Array Slot} (w : xW D ad cI A s.heap S H locs) (hl : lv_has ls 5 [(0, .ref (ad 2)), (3, .int v3), (4, .int v4)]) : W p l e R s m args below meth c H locs 0 0 Q (F0 m 63 ls [.int s2, .int s1, .ref (ad 21)]) := by
  unfold f_T_hold_63 at hM
  obtain ⟨hi1, hM⟩ := qck_ok hM
  refine xs_T_ups F hK w hi1 qd_T_hold_63 (fun H locs w => ?_)
  refine lv_aload_n F.1 F.2.1 qd_T_hold_64 rfl (lv_at hl 0 rfl) ?_
  refine xg_T_lows F hK w qk_97 qd_T_hold_65 ?_
  refine lv_iload F.1 F.2.1 qd_T_hold_68 (lv_at hl 2 rfl) ?_
  refine lv_aload_n F.1 F.2.1 qd_T_hold_70 rfl (lv_at hl 0 rfl) ?_
  refine lv_iload_n F.1 F.2.1 qd_T_hold_71 rfl (lv_at hl 1 rfl) ?_
  obtain ⟨q2, hq3, hM⟩ := qbd hM
  refine x_calli F hK hN hA w (c_T_ownerOf l D ad cI hq3) qk_521 qk_274 qk_275 qk_3 qk_276 qv_T_ownerOf rfl rfl ⟨Nat.le_trans (by decide) hR.1, Nat.le_trans (by decide) hR.2⟩ (ci := 1) rfl (j := 2) rfl hl.1 rfl (Nat.le_of_ble_eq_true rfl) qd_T_hold_72 (fun H locs w => ?_)
  refine lv_iconst (v := 2) F.1 F.2.1 qd_T_hold_75 (by decide) ?_
  refine lv_icmp_ne (tgt := 87) F.1 F.2.1 qd_T_hold_76 (by decide) (fun hc4 => ?_) (fun hc4 => ?_)
  · rw [if_neg hc4] at hM
    refine lv_iconst (v := (-1)) F.1 F.2.1 qd_T_hold_87 (by decide) ?_
    exact t_T_hold_88 F hR hK hN hA hQ  _ _ _ _ hM w (lv_sub hl [0, 2] rfl)
  · rw [if_pos hc4] at hM
    refine lv_aload_n F.1 F.2.1 qd_T_hold_79 rfl (lv_at hl 0 rfl) ?_
    refine lv_iload_n F.1 F.2.1 qd_T_hold_80 rfl (lv_at hl 1 rfl) ?_
    obtain ⟨q5, hq6, hM⟩ := qbd hM
    refine x_calli F hK hN hA w (c_T_firstOf l D ad cI hq6) qk_515 qk_342 qk_343 qk_3 qk_344 qv_T_firstOf rfl rfl ⟨Nat.le_trans (by decide) hR.1, Nat.le_trans (by decide) hR.2⟩ (ci := 1) rfl (j := 2) rfl hl.1 rfl (Nat.le_of_ble_eq_true rfl) qd_T_hold_81 (fun H locs w => ?_)
    refine lv_goto (tgt := 88) F.1 F.2.1 qd_T_hold_84 (by decide) ?_
    exact t_T_hold_88 F hR hK hN hA hQ  _ _ _ _ hM w (lv_sub hl [0, 2] rfl)
set_option maxRecDepth 100000 in
set_option maxHeartbeats 4000000 in
theorem t_T_hold {p : Program} {l : Launch} {e : Env} {R : Room} {s : State} {m : MethodId} {args : Array Value} {below : List Frame} {meth : Method} {c : Code} {Q : State → Prop} {D : va_G} {ad : Nat → Nat} {cI : ClassId} {A : Nat → Prop} (F : CallFix p m c qb_T_hold 5 s args qtb "CaptureSubtypes$Types") (hR : 2 ≤ R.frames ∧ 69 ≤ R.locals) (hK : va_K D qcl [(cI, .int)] s) (hN : qnests xns s) (hA : ∀ q, s.heap.size ≤ q → A q) {res : (Int32 × (Nat → Nat → Int32))} (hQ : ∀ (H : Heap) (locs : List Loc) (pc : Nat) (ls : Array Slot), decode qb_T_hold pc = .ok (.ireturn, 1) → xW D ad cI A s.heap res.2 H locs → W p l e R s m args below meth c H locs 0 0 Q (F0 m pc ls [.int res.1])) (S : (Nat → Nat → Int32)) (a1 a2 a3 : Int32) (hM : f_T_hold S a1 a2 a3 = some res) {H : Heap} {locs : List Loc} {ls : Array Slot} (w : xW D ad cI A s.heap S H locs) (hl : lv_has ls 5 [(0, .ref (ad 2)), (1, .int a1), (2, .int a2), (3, .int a3)]) : W p l e R s m args below meth c H locs 0 0 Q (F0 m 0 ls []) := by
  unfold f_T_hold at hM
  refine lv_aload_n F.1 F.2.1 qd_T_hold_0 rfl (lv_at hl 0 rfl) ?_
  refine lv_iload_n F.1 F.2.1 qd_T_hold_1 rfl (lv_at hl 3 rfl) ?_
  obtain ⟨q1, hq2, hM⟩ := qbd hM
  refine x_calli F hK hN hA w (c_T_sortOf l D ad cI hq2) qk_269 qk_270 qk_271 qk_3 qk_272 qv_T_sortOf rfl rfl ⟨Nat.le_trans (by decide) hR.1, Nat.le_trans (by decide) hR.2⟩ (ci := 1) rfl (j := 2) rfl hl.1 rfl (Nat.le_of_ble_eq_true rfl) qd_T_hold_2 (fun H locs w => ?_)
  refine lv_iconst (v := 5) F.1 F.2.1 qd_T_hold_5 (by decide) ?_
  refine lv_icmp_eq (tgt := 11) F.1 F.2.1 qd_T_hold_6 (by decide) (fun hc3 => ?_) (fun hc3 => ?_)
  · rw [if_pos hc3] at hM
    refine lv_aload_n F.1 F.2.1 qd_T_hold_11 rfl (lv_at hl 0 rfl) ?_
    refine lv_bipush (v := 8) F.1 F.2.1 qd_T_hold_12 (by decide) ?_
    refine lv_iload_n F.1 F.2.1 qd_T_hold_14 rfl (lv_at hl 1 rfl) ?_
    refine lv_iload_n F.1 F.2.1 qd_T_hold_15 rfl (lv_at hl 2 rfl) ?_
    refine lv_iconst (v := (-1)) F.1 F.2.1 qd_T_hold_16 (by decide) ?_
    refine lv_sipush (v := 1024) F.1 F.2.1 qd_T_hold_17 (by decide) ?_
    obtain ⟨q4, hq5, hM⟩ := qbd hM
    refine x_calli F hK hN hA w (c_T_put l D ad cI hq5) qk_80 qk_81 qk_82 qk_3 qk_83 qv_T_put rfl rfl ⟨Nat.le_trans (by decide) hR.1, Nat.le_trans (by decide) hR.2⟩ (ci := 1) rfl (j := 2) rfl hl.1 rfl (Nat.le_of_ble_eq_true rfl) qd_T_hold_20 (fun H locs w => ?_)
    refine lv_istore (lv' := [(4, .int q4.1), (0, .ref (ad 2)), (1, .int a1), (2, .int a2), (3, .int a3)]) F.1 F.2.1 qd_T_hold_23 hl (by decide) rfl (fun ls hl => ?_)
    refine lv_iload F.1 F.2.1 qd_T_hold_25 (lv_at hl 0 rfl) ?_
    refine lv_if_lt (tgt := 89) F.1 F.2.1 qd_T_hold_27 (by decide) (fun hc6 => ?_) (fun hc6 => ?_)
    · rw [if_pos hc6] at hM
      refine lv_iload F.1 F.2.1 qd_T_hold_89 (lv_at hl 0 rfl) ?_
      cases hM
      exact hQ _ _ _ _ qd_T_hold_91 w
    · rw [if_neg hc6] at hM
      refine lv_iload F.1 F.2.1 qd_T_hold_30 (lv_at hl 0 rfl) ?_
      refine lv_aload_n F.1 F.2.1 qd_T_hold_32 rfl (lv_at hl 1 rfl) ?_
      refine xg_T_top F hK w qk_89 qd_T_hold_33 ?_
      refine lv_icmp_ge (tgt := 89) F.1 F.2.1 qd_T_hold_36 (by decide) (fun hc7 => ?_) (fun hc7 => ?_)
      · rw [if_pos hc7] at hM
        refine lv_iload F.1 F.2.1 qd_T_hold_89 (lv_at hl 0 rfl) ?_
        cases hM
        exact hQ _ _ _ _ qd_T_hold_91 w
      · rw [if_neg hc7] at hM
        refine lv_aload_n F.1 F.2.1 qd_T_hold_39 rfl (lv_at hl 1 rfl) ?_
        refine xg_T_ups F hK w qk_96 qd_T_hold_40 ?_
        refine lv_iload F.1 F.2.1 qd_T_hold_43 (lv_at hl 0 rfl) ?_
        refine lv_aload_n F.1 F.2.1 qd_T_hold_45 rfl (lv_at hl 1 rfl) ?_
        refine lv_iload_n F.1 F.2.1 qd_T_hold_46 rfl (lv_at hl 4 rfl) ?_
        obtain ⟨q8, hq9, hM⟩ := qbd hM
        refine x_calli F hK hN hA w (c_T_ownerOf l D ad cI hq9) qk_521 qk_274 qk_275 qk_3 qk_276 qv_T_ownerOf rfl rfl ⟨Nat.le_trans (by decide) hR.1, Nat.le_trans (by decide) hR.2⟩ (ci := 1) rfl (j := 2) rfl hl.1 rfl (Nat.le_of_ble_eq_true rfl) qd_T_hold_47 (fun H locs w => ?_)
        refine lv_iconst (v := 1) F.1 F.2.1 qd_T_hold_50 (by decide) ?_
        refine lv_icmp_ne (tgt := 62) F.1 F.2.1 qd_T_hold_51 (by decide) (fun hc10 => ?_) (fun hc10 => ?_)
        · rw [if_neg hc10] at hM
          refine lv_iconst (v := (-1)) F.1 F.2.1 qd_T_hold_62 (by decide) ?_
          exact t_T_hold_63 F hR hK hN hA hQ  _ _ _ _ _ hM w (lv_sub hl [1, 4, 0] rfl)
        · rw [if_pos hc10] at hM
          refine lv_aload_n F.1 F.2.1 qd_T_hold_54 rfl (lv_at hl 1 rfl) ?_
          refine lv_iload_n F.1 F.2.1 qd_T_hold_55 rfl (lv_at hl 4 rfl) ?_
          obtain ⟨q11, hq12, hM⟩ := qbd hM
          refine x_calli F hK hN hA w (c_T_firstOf l D ad cI hq12) qk_515 qk_342 qk_343 qk_3 qk_344 qv_T_firstOf rfl rfl ⟨Nat.le_trans (by decide) hR.1, Nat.le_trans (by decide) hR.2⟩ (ci := 1) rfl (j := 2) rfl hl.1 rfl (Nat.le_of_ble_eq_true rfl) qd_T_hold_56 (fun H locs w => ?_)
          refine lv_goto (tgt := 63) F.1 F.2.1 qd_T_hold_59 (by decide) ?_
          exact t_T_hold_63 F hR hK hN hA hQ  _ _ _ _ _ hM w (lv_sub hl [1, 4, 0] rfl)
  · rw [if_neg hc3] at hM
    refine lv_iload_n F.1 F.2.1 qd_T_hold_9 rfl (lv_at hl 3 rfl) ?_
    cases hM
    exact hQ _ _ _ _ qd_T_hold_10 w
set_option maxRecDepth 100000 in
theorem c_T_hold (l : Launch) (D : va_G) (ad : Nat → Nat) (cI : ClassId) {S : (Nat → Nat → Int32)} {a1 a2 a3 : Int32} {res : (Int32 × (Nat → Nat → Int32))} (hM : f_T_hold S a1 a2 a3 = some res) : xMi l qy_T_hold qb_T_hold 5 (some .int) { frames := 2, cells := 0, slots := 0, locals := 69 } D ad cI S [.ref (ad 2), .int a1, .int a2, .int a3] res.1 res.2 := x_ofi (by decide +kernel) (Nat.le_of_ble_eq_true rfl) (fun p e s m args below meth c Q A ls F hK hN hA w hl hQ => t_T_hold F ⟨Nat.le_refl _, Nat.le_refl _⟩ hK hN hA hQ S a1 a2 a3 hM w hl)
-- T_setHome
def f_T_setHome (S : (Nat → Nat → Int32)) (a1 a2 : Int32) : Option (Nat → Nat → Int32) := if a1 < 0 then (some S) else (if (S 11 0) ≤ a1 then (some S) else (qck (qin a1 1024) (if (S 12 a1.toNatClampNeg) = (8 : Int32) then (qck (qin a1 1024) (if (S 15 a1.toNatClampNeg) = (-1 : Int32) then (qck (qin a1 1024) (some (qwr S 15 a1.toNatClampNeg a2))) else (some S))) else (some S))))
set_option maxRecDepth 100000 in
set_option maxHeartbeats 4000000 in
theorem t_T_setHome {p : Program} {l : Launch} {e : Env} {R : Room} {s : State} {m : MethodId} {args : Array Value} {below : List Frame} {meth : Method} {c : Code} {Q : State → Prop} {D : va_G} {ad : Nat → Nat} {cI : ClassId} {A : Nat → Prop} (F : CallFix p m c qb_T_setHome 3 s args qtb "CaptureSubtypes$Types") (hR : 0 ≤ R.frames ∧ 0 ≤ R.locals) (hK : va_K D qcl [(cI, .int)] s) (hN : qnests xns s) (hA : ∀ q, s.heap.size ≤ q → A q) {res : (Nat → Nat → Int32)} (hQ : ∀ (H : Heap) (locs : List Loc) (pc : Nat) (ls : Array Slot), decode qb_T_setHome pc = .ok (.return_, 1) → xW D ad cI A s.heap res H locs → W p l e R s m args below meth c H locs 0 0 Q (F0 m pc ls [])) (S : (Nat → Nat → Int32)) (a1 a2 : Int32) (hM : f_T_setHome S a1 a2 = some res) {H : Heap} {locs : List Loc} {ls : Array Slot} (w : xW D ad cI A s.heap S H locs) (hl : lv_has ls 3 [(0, .ref (ad 2)), (1, .int a1), (2, .int a2)]) : W p l e R s m args below meth c H locs 0 0 Q (F0 m 0 ls []) := by
  unfold f_T_setHome at hM
  refine lv_iload_n F.1 F.2.1 qd_T_setHome_0 rfl (lv_at hl 1 rfl) ?_
  refine lv_if_lt (tgt := 40) F.1 F.2.1 qd_T_setHome_1 (by decide) (fun hc1 => ?_) (fun hc1 => ?_)
  · rw [if_pos hc1] at hM
    cases hM
    exact hQ _ _ _ _ qd_T_setHome_40 w
  · rw [if_neg hc1] at hM
    refine lv_iload_n F.1 F.2.1 qd_T_setHome_4 rfl (lv_at hl 1 rfl) ?_
    refine lv_aload_n F.1 F.2.1 qd_T_setHome_5 rfl (lv_at hl 0 rfl) ?_
    refine xg_T_top F hK w qk_89 qd_T_setHome_6 ?_
    refine lv_icmp_ge (tgt := 40) F.1 F.2.1 qd_T_setHome_9 (by decide) (fun hc2 => ?_) (fun hc2 => ?_)
    · rw [if_pos hc2] at hM
      cases hM
      exact hQ _ _ _ _ qd_T_setHome_40 w
    · rw [if_neg hc2] at hM
      refine lv_aload_n F.1 F.2.1 qd_T_setHome_12 rfl (lv_at hl 0 rfl) ?_
      refine xg_T_sorts F hK w qk_90 qd_T_setHome_13 ?_
      refine lv_iload_n F.1 F.2.1 qd_T_setHome_16 rfl (lv_at hl 1 rfl) ?_
      obtain ⟨hi3, hM⟩ := qck_ok hM
      refine xl_T_sorts F hK w hi3 qd_T_setHome_17 ?_
      refine lv_bipush (v := 8) F.1 F.2.1 qd_T_setHome_18 (by decide) ?_
      refine lv_icmp_ne (tgt := 40) F.1 F.2.1 qd_T_setHome_20 (by decide) (fun hc4 => ?_) (fun hc4 => ?_)
      · rw [if_neg hc4] at hM
        cases hM
        exact hQ _ _ _ _ qd_T_setHome_40 w
      · rw [if_pos hc4] at hM
        refine lv_aload_n F.1 F.2.1 qd_T_setHome_23 rfl (lv_at hl 0 rfl) ?_
        refine xg_T_seconds F hK w qk_93 qd_T_setHome_24 ?_
        refine lv_iload_n F.1 F.2.1 qd_T_setHome_27 rfl (lv_at hl 1 rfl) ?_
        obtain ⟨hi5, hM⟩ := qck_ok hM
        refine xl_T_seconds F hK w hi5 qd_T_setHome_28 ?_
        refine lv_iconst (v := (-1)) F.1 F.2.1 qd_T_setHome_29 (by decide) ?_
        refine lv_icmp_ne (tgt := 40) F.1 F.2.1 qd_T_setHome_30 (by decide) (fun hc6 => ?_) (fun hc6 => ?_)
        · rw [if_neg hc6] at hM
          cases hM
          exact hQ _ _ _ _ qd_T_setHome_40 w
        · rw [if_pos hc6] at hM
          refine lv_aload_n F.1 F.2.1 qd_T_setHome_33 rfl (lv_at hl 0 rfl) ?_
          refine xg_T_seconds F hK w qk_93 qd_T_setHome_34 ?_
          refine lv_iload_n F.1 F.2.1 qd_T_setHome_37 rfl (lv_at hl 1 rfl) ?_
          refine lv_iload_n F.1 F.2.1 qd_T_setHome_38 rfl (lv_at hl 2 rfl) ?_
          obtain ⟨hi7, hM⟩ := qck_ok hM
          refine xs_T_seconds F hK w hi7 qd_T_setHome_39 (fun H locs w => ?_)
          cases hM
          exact hQ _ _ _ _ qd_T_setHome_40 w
set_option maxRecDepth 100000 in
theorem c_T_setHome (l : Launch) (D : va_G) (ad : Nat → Nat) (cI : ClassId) {S : (Nat → Nat → Int32)} {a1 a2 : Int32} {res : (Nat → Nat → Int32)} (hM : f_T_setHome S a1 a2 = some res) : xMv l qy_T_setHome qb_T_setHome 3 none { frames := 0, cells := 0, slots := 0, locals := 0 } D ad cI S [.ref (ad 2), .int a1, .int a2] res := x_ofv (by decide +kernel) (Nat.le_of_ble_eq_true rfl) (fun p e s m args below meth c Q A ls F hK hN hA w hl hQ => t_T_setHome F ⟨Nat.le_refl _, Nat.le_refl _⟩ hK hN hA hQ S a1 a2 hM w hl)
-- S_caught
def f_S_caught_103 (S : (Nat → Nat → Int32)) (v2 v4 v5 : Int32) : Option (Int32 × (Nat → Nat → Int32)) := (f_T_put S (2 : Int32) v2 v4 v5 (1024 : Int32)).bind (fun q1 => (f_T_setHome q1.2 v4 q1.1).bind (fun q3 => (f_T_setHome q3 v5 q1.1).bind (fun q5 => some (q1.1, q5))))
def f_S_caught_84 (S : (Nat → Nat → Int32)) (v2 v3 v4 s1 : Int32) : Option (Int32 × (Nat → Nat → Int32)) := if v4 < 0 then (some ((-3 : Int32), S)) else (if v3 = 0 then (f_S_caught_103  S v2 v4 s1) else (if 0 ≤ s1 then (f_S_caught_103  S v2 v4 s1) else (some ((-3 : Int32), S))))
def f_S_caught_39 (S : (Nat → Nat → Int32)) (v1 v2 s1 : Int32) : Option (Int32 × (Nat → Nat → Int32)) := (f_T_firstOf S v1).bind (fun q1 => (f_T_hold S v2 (0 : Int32) q1).bind (fun q3 => if s1 = 0 then (f_S_caught_84  q3.2 v2 s1 q3.1 (-1 : Int32)) else ((f_T_secondOf q3.2 v1).bind (fun q6 => (f_T_hold q3.2 v2 (1 : Int32) q6).bind (fun q8 => f_S_caught_84  q8.2 v2 s1 q3.1 q8.1)))))
def f_S_caught (S : (Nat → Nat → Int32)) (a1 : Int32) : Option (Int32 × (Nat → Nat → Int32)) := (f_T_hasWildArgument S a1).bind (fun q1 => if (qB q1) = 0 then (some (a1, S)) else ((f_T_ownerOf S a1).bind (fun q4 => (f_T_secondOf S a1).bind (fun q6 => if q6 = (-1 : Int32) then (f_S_caught_39  S a1 q4 (0 : Int32)) else (f_S_caught_39  S a1 q4 (1 : Int32))))))
set_option maxRecDepth 100000 in
set_option maxHeartbeats 4000000 in
theorem t_S_caught_103 {p : Program} {l : Launch} {e : Env} {R : Room} {s : State} {m : MethodId} {args : Array Value} {below : List Frame} {meth : Method} {c : Code} {Q : State → Prop} {D : va_G} {ad : Nat → Nat} {cI : ClassId} {A : Nat → Prop} (F : CallFix p m c qb_S_caught 7 s args qtb "CaptureSubtypes$Shapes") (hR : 3 ≤ R.frames ∧ 93 ≤ R.locals) (hK : va_K D qcl [(cI, .int)] s) (hN : qnests xns s) (hA : ∀ q, s.heap.size ≤ q → A q) {res : (Int32 × (Nat → Nat → Int32))} (hQ : ∀ (H : Heap) (locs : List Loc) (pc : Nat) (ls : Array Slot), decode qb_S_caught pc = .ok (.ireturn, 1) → xW D ad cI A s.heap res.2 H locs → W p l e R s m args below meth c H locs 0 0 Q (F0 m pc ls [.int res.1])) (S : (Nat → Nat → Int32)) (v2 v4 v5 : Int32) (hM : f_S_caught_103 S v2 v4 v5 = some res) {H : Heap} {locs : List Loc} {ls : Array Slot} (w : xW D ad cI A s.heap S H locs) (hl : lv_has ls 7 [(0, .ref (ad 3)), (2, .int v2), (4, .int v4), (5, .int v5)]) : W p l e R s m args below meth c H locs 0 0 Q (F0 m 103 ls []) := by
  unfold f_S_caught_103 at hM
  refine lv_aload_n F.1 F.2.1 qd_S_caught_103 rfl (lv_at hl 0 rfl) ?_
  refine xg_S_types F hK w qk_126 qd_S_caught_104 ?_
  refine lv_iconst (v := 2) F.1 F.2.1 qd_S_caught_107 (by decide) ?_
  refine lv_iload_n F.1 F.2.1 qd_S_caught_108 rfl (lv_at hl 1 rfl) ?_
  refine lv_iload F.1 F.2.1 qd_S_caught_109 (lv_at hl 2 rfl) ?_
  refine lv_iload F.1 F.2.1 qd_S_caught_111 (lv_at hl 3 rfl) ?_
  refine lv_sipush (v := 1024) F.1 F.2.1 qd_S_caught_113 (by decide) ?_
  obtain ⟨q1, hq2, hM⟩ := qbd hM
  refine x_calli F hK hN hA w (c_T_put l D ad cI hq2) qk_332 qk_81 qk_82 qk_3 qk_83 qv_T_put rfl rfl ⟨Nat.le_trans (by decide) hR.1, Nat.le_trans (by decide) hR.2⟩ (ci := 1) rfl (j := 2) rfl hl.1 rfl (Nat.le_of_ble_eq_true rfl) qd_S_caught_116 (fun H locs w => ?_)
  refine lv_istore (lv' := [(6, .int q1.1), (0, .ref (ad 3)), (2, .int v2), (4, .int v4), (5, .int v5)]) F.1 F.2.1 qd_S_caught_119 hl (by decide) rfl (fun ls hl => ?_)
  refine lv_aload_n F.1 F.2.1 qd_S_caught_121 rfl (lv_at hl 1 rfl) ?_
  refine xg_S_types F hK w qk_126 qd_S_caught_122 ?_
  refine lv_iload F.1 F.2.1 qd_S_caught_125 (lv_at hl 3 rfl) ?_
  refine lv_iload F.1 F.2.1 qd_S_caught_127 (lv_at hl 0 rfl) ?_
  obtain ⟨q3, hq4, hM⟩ := qbd hM
  refine x_callv F hK hN hA w (c_T_setHome l D ad cI hq4) qk_522 qk_523 qk_524 qk_3 qk_525 qv_T_setHome rfl rfl ⟨Nat.le_trans (by decide) hR.1, Nat.le_trans (by decide) hR.2⟩ (ci := 1) rfl (j := 2) rfl hl.1 rfl (Nat.le_of_ble_eq_true rfl) qd_S_caught_129 (fun H locs w => ?_)
  refine lv_aload_n F.1 F.2.1 qd_S_caught_132 rfl (lv_at hl 1 rfl) ?_
  refine xg_S_types F hK w qk_126 qd_S_caught_133 ?_
  refine lv_iload F.1 F.2.1 qd_S_caught_136 (lv_at hl 4 rfl) ?_
  refine lv_iload F.1 F.2.1 qd_S_caught_138 (lv_at hl 0 rfl) ?_
  obtain ⟨q5, hq6, hM⟩ := qbd hM
  refine x_callv F hK hN hA w (c_T_setHome l D ad cI hq6) qk_522 qk_523 qk_524 qk_3 qk_525 qv_T_setHome rfl rfl ⟨Nat.le_trans (by decide) hR.1, Nat.le_trans (by decide) hR.2⟩ (ci := 1) rfl (j := 2) rfl hl.1 rfl (Nat.le_of_ble_eq_true rfl) qd_S_caught_140 (fun H locs w => ?_)
  refine lv_iload F.1 F.2.1 qd_S_caught_143 (lv_at hl 0 rfl) ?_
  cases hM
  exact hQ _ _ _ _ qd_S_caught_145 w
set_option maxRecDepth 100000 in
set_option maxHeartbeats 4000000 in
theorem t_S_caught_84 {p : Program} {l : Launch} {e : Env} {R : Room} {s : State} {m : MethodId} {args : Array Value} {below : List Frame} {meth : Method} {c : Code} {Q : State → Prop} {D : va_G} {ad : Nat → Nat} {cI : ClassId} {A : Nat → Prop} (F : CallFix p m c qb_S_caught 7 s args qtb "CaptureSubtypes$Shapes") (hR : 3 ≤ R.frames ∧ 93 ≤ R.locals) (hK : va_K D qcl [(cI, .int)] s) (hN : qnests xns s) (hA : ∀ q, s.heap.size ≤ q → A q) {res : (Int32 × (Nat → Nat → Int32))} (hQ : ∀ (H : Heap) (locs : List Loc) (pc : Nat) (ls : Array Slot), decode qb_S_caught pc = .ok (.ireturn, 1) → xW D ad cI A s.heap res.2 H locs → W p l e R s m args below meth c H locs 0 0 Q (F0 m pc ls [.int res.1])) (S : (Nat → Nat → Int32)) (v2 v3 v4 s1 : Int32) (hM : f_S_caught_84 S v2 v3 v4 s1 = some res) {H : Heap} {locs : List Loc} {ls : Array Slot} (w : xW D ad cI A s.heap S H locs) (hl : lv_has ls 7 [(0, .ref (ad 3)), (2, .int v2), (3, .int v3), (4, .int v4)]) : W p l e R s m args below meth c H locs 0 0 Q (F0 m 84 ls [.int s1]) := by
  unfold f_S_caught_84 at hM
  refine lv_istore (lv' := [(5, .int s1), (0, .ref (ad 3)), (2, .int v2), (3, .int v3), (4, .int v4)]) F.1 F.2.1 qd_S_caught_84 hl (by decide) rfl (fun ls hl => ?_)
  refine lv_iload F.1 F.2.1 qd_S_caught_86 (lv_at hl 4 rfl) ?_
  refine lv_if_lt (tgt := 100) F.1 F.2.1 qd_S_caught_88 (by decide) (fun hc1 => ?_) (fun hc1 => ?_)
  · rw [if_pos hc1] at hM
    refine lv_bipush (v := (-3)) F.1 F.2.1 qd_S_caught_100 (by decide) ?_
    cases hM
    exact hQ _ _ _ _ qd_S_caught_102 w
  · rw [if_neg hc1] at hM
    refine lv_iload_n F.1 F.2.1 qd_S_caught_91 rfl (lv_at hl 3 rfl) ?_
    refine lv_if_eq (tgt := 103) F.1 F.2.1 qd_S_caught_92 (by decide) (fun hc2 => ?_) (fun hc2 => ?_)
    · rw [if_pos hc2] at hM
      exact t_S_caught_103 F hR hK hN hA hQ  _ _ _ _ hM w (lv_sub hl [1, 2, 4, 0] rfl)
    · rw [if_neg hc2] at hM
      refine lv_iload F.1 F.2.1 qd_S_caught_95 (lv_at hl 0 rfl) ?_
      refine lv_if_ge (tgt := 103) F.1 F.2.1 qd_S_caught_97 (by decide) (fun hc3 => ?_) (fun hc3 => ?_)
      · rw [if_pos hc3] at hM
        exact t_S_caught_103 F hR hK hN hA hQ  _ _ _ _ hM w (lv_sub hl [1, 2, 4, 0] rfl)
      · rw [if_neg hc3] at hM
        refine lv_bipush (v := (-3)) F.1 F.2.1 qd_S_caught_100 (by decide) ?_
        cases hM
        exact hQ _ _ _ _ qd_S_caught_102 w
set_option maxRecDepth 100000 in
set_option maxHeartbeats 4000000 in
theorem t_S_caught_39 {p : Program} {l : Launch} {e : Env} {R : Room} {s : State} {m : MethodId} {args : Array Value} {below : List Frame} {meth : Method} {c : Code} {Q : State → Prop} {D : va_G} {ad : Nat → Nat} {cI : ClassId} {A : Nat → Prop} (F : CallFix p m c qb_S_caught 7 s args qtb "CaptureSubtypes$Shapes") (hR : 3 ≤ R.frames ∧ 93 ≤ R.locals) (hK : va_K D qcl [(cI, .int)] s) (hN : qnests xns s) (hA : ∀ q, s.heap.size ≤ q → A q) {res : (Int32 × (Nat → Nat → Int32))} (hQ : ∀ (H : Heap) (locs : List Loc) (pc : Nat) (ls : Array Slot), decode qb_S_caught pc = .ok (.ireturn, 1) → xW D ad cI A s.heap res.2 H locs → W p l e R s m args below meth c H locs 0 0 Q (F0 m pc ls [.int res.1])) (S : (Nat → Nat → Int32)) (v1 v2 s1 : Int32) (hM : f_S_caught_39 S v1 v2 s1 = some res) {H : Heap} {locs : List Loc} {ls : Array Slot} (w : xW D ad cI A s.heap S H locs) (hl : lv_has ls 7 [(0, .ref (ad 3)), (1, .int v1), (2, .int v2)]) : W p l e R s m args below meth c H locs 0 0 Q (F0 m 39 ls [.int s1]) := by
  unfold f_S_caught_39 at hM
  refine lv_istore_n (lv' := [(3, .int s1), (0, .ref (ad 3)), (1, .int v1), (2, .int v2)]) F.1 F.2.1 qd_S_caught_39 rfl hl (by decide) rfl (fun ls hl => ?_)
  refine lv_aload_n F.1 F.2.1 qd_S_caught_40 rfl (lv_at hl 1 rfl) ?_
  refine xg_S_types F hK w qk_126 qd_S_caught_41 ?_
  refine lv_iload_n F.1 F.2.1 qd_S_caught_44 rfl (lv_at hl 3 rfl) ?_
  refine lv_iconst (v := 0) F.1 F.2.1 qd_S_caught_45 (by decide) ?_
  refine lv_aload_n F.1 F.2.1 qd_S_caught_46 rfl (lv_at hl 1 rfl) ?_
  refine xg_S_types F hK w qk_126 qd_S_caught_47 ?_
  refine lv_iload_n F.1 F.2.1 qd_S_caught_50 rfl (lv_at hl 2 rfl) ?_
  obtain ⟨q1, hq2, hM⟩ := qbd hM
  refine x_calli F hK hN hA w (c_T_firstOf l D ad cI hq2) qk_341 qk_342 qk_343 qk_3 qk_344 qv_T_firstOf rfl rfl ⟨Nat.le_trans (by decide) hR.1, Nat.le_trans (by decide) hR.2⟩ (ci := 1) rfl (j := 2) rfl hl.1 rfl (Nat.le_of_ble_eq_true rfl) qd_S_caught_51 (fun H locs w => ?_)
  obtain ⟨q3, hq4, hM⟩ := qbd hM
  refine x_calli F hK hN hA w (c_T_hold l D ad cI hq4) qk_517 qk_518 qk_519 qk_3 qk_520 qv_T_hold rfl rfl ⟨Nat.le_trans (by decide) hR.1, Nat.le_trans (by decide) hR.2⟩ (ci := 1) rfl (j := 2) rfl hl.1 rfl (Nat.le_of_ble_eq_true rfl) qd_S_caught_54 (fun H locs w => ?_)
  refine lv_istore (lv' := [(4, .int q3.1), (3, .int s1), (0, .ref (ad 3)), (1, .int v1), (2, .int v2)]) F.1 F.2.1 qd_S_caught_57 hl (by decide) rfl (fun ls hl => ?_)
  refine lv_iload_n F.1 F.2.1 qd_S_caught_59 rfl (lv_at hl 1 rfl) ?_
  refine lv_if_eq (tgt := 83) F.1 F.2.1 qd_S_caught_60 (by decide) (fun hc5 => ?_) (fun hc5 => ?_)
  · rw [if_pos hc5] at hM
    refine lv_iconst (v := (-1)) F.1 F.2.1 qd_S_caught_83 (by decide) ?_
    exact t_S_caught_84 F hR hK hN hA hQ  _ _ _ _ _ hM w (lv_sub hl [2, 4, 1, 0] rfl)
  · rw [if_neg hc5] at hM
    refine lv_aload_n F.1 F.2.1 qd_S_caught_63 rfl (lv_at hl 2 rfl) ?_
    refine xg_S_types F hK w qk_126 qd_S_caught_64 ?_
    refine lv_iload_n F.1 F.2.1 qd_S_caught_67 rfl (lv_at hl 4 rfl) ?_
    refine lv_iconst (v := 1) F.1 F.2.1 qd_S_caught_68 (by decide) ?_
    refine lv_aload_n F.1 F.2.1 qd_S_caught_69 rfl (lv_at hl 2 rfl) ?_
    refine xg_S_types F hK w qk_126 qd_S_caught_70 ?_
    refine lv_iload_n F.1 F.2.1 qd_S_caught_73 rfl (lv_at hl 3 rfl) ?_
    obtain ⟨q6, hq7, hM⟩ := qbd hM
    refine x_calli F hK hN hA w (c_T_secondOf l D ad cI hq7) qk_349 qk_350 qk_351 qk_3 qk_352 qv_T_secondOf rfl rfl ⟨Nat.le_trans (by decide) hR.1, Nat.le_trans (by decide) hR.2⟩ (ci := 1) rfl (j := 2) rfl hl.1 rfl (Nat.le_of_ble_eq_true rfl) qd_S_caught_74 (fun H locs w => ?_)
    obtain ⟨q8, hq9, hM⟩ := qbd hM
    refine x_calli F hK hN hA w (c_T_hold l D ad cI hq9) qk_517 qk_518 qk_519 qk_3 qk_520 qv_T_hold rfl rfl ⟨Nat.le_trans (by decide) hR.1, Nat.le_trans (by decide) hR.2⟩ (ci := 1) rfl (j := 2) rfl hl.1 rfl (Nat.le_of_ble_eq_true rfl) qd_S_caught_77 (fun H locs w => ?_)
    refine lv_goto (tgt := 84) F.1 F.2.1 qd_S_caught_80 (by decide) ?_
    exact t_S_caught_84 F hR hK hN hA hQ  _ _ _ _ _ hM w (lv_sub hl [2, 4, 1, 0] rfl)
set_option maxRecDepth 100000 in
set_option maxHeartbeats 4000000 in
theorem t_S_caught {p : Program} {l : Launch} {e : Env} {R : Room} {s : State} {m : MethodId} {args : Array Value} {below : List Frame} {meth : Method} {c : Code} {Q : State → Prop} {D : va_G} {ad : Nat → Nat} {cI : ClassId} {A : Nat → Prop} (F : CallFix p m c qb_S_caught 7 s args qtb "CaptureSubtypes$Shapes") (hR : 3 ≤ R.frames ∧ 93 ≤ R.locals) (hK : va_K D qcl [(cI, .int)] s) (hN : qnests xns s) (hA : ∀ q, s.heap.size ≤ q → A q) {res : (Int32 × (Nat → Nat → Int32))} (hQ : ∀ (H : Heap) (locs : List Loc) (pc : Nat) (ls : Array Slot), decode qb_S_caught pc = .ok (.ireturn, 1) → xW D ad cI A s.heap res.2 H locs → W p l e R s m args below meth c H locs 0 0 Q (F0 m pc ls [.int res.1])) (S : (Nat → Nat → Int32)) (a1 : Int32) (hM : f_S_caught S a1 = some res) {H : Heap} {locs : List Loc} {ls : Array Slot} (w : xW D ad cI A s.heap S H locs) (hl : lv_has ls 7 [(0, .ref (ad 3)), (1, .int a1)]) : W p l e R s m args below meth c H locs 0 0 Q (F0 m 0 ls []) := by
  unfold f_S_caught at hM
  refine lv_aload_n F.1 F.2.1 qd_S_caught_0 rfl (lv_at hl 0 rfl) ?_
  refine xg_S_types F hK w qk_126 qd_S_caught_1 ?_
  refine lv_iload_n F.1 F.2.1 qd_S_caught_4 rfl (lv_at hl 1 rfl) ?_
  obtain ⟨q1, hq2, hM⟩ := qbd hM
  refine x_calli F hK hN hA w (c_T_hasWildArgument l D ad cI hq2) qk_511 qk_512 qk_513 qk_3 qk_514 qv_T_hasWildArgument rfl rfl ⟨Nat.le_trans (by decide) hR.1, Nat.le_trans (by decide) hR.2⟩ (ci := 1) rfl (j := 2) rfl hl.1 rfl (Nat.le_of_ble_eq_true rfl) qd_S_caught_5 (fun H locs w => ?_)
  refine lv_if_ne (tgt := 13) F.1 F.2.1 qd_S_caught_8 (by decide) (fun hc3 => ?_) (fun hc3 => ?_)
  · rw [if_neg hc3] at hM
    refine lv_aload_n F.1 F.2.1 qd_S_caught_13 rfl (lv_at hl 0 rfl) ?_
    refine xg_S_types F hK w qk_126 qd_S_caught_14 ?_
    refine lv_iload_n F.1 F.2.1 qd_S_caught_17 rfl (lv_at hl 1 rfl) ?_
    obtain ⟨q4, hq5, hM⟩ := qbd hM
    refine x_calli F hK hN hA w (c_T_ownerOf l D ad cI hq5) qk_316 qk_274 qk_275 qk_3 qk_276 qv_T_ownerOf rfl rfl ⟨Nat.le_trans (by decide) hR.1, Nat.le_trans (by decide) hR.2⟩ (ci := 1) rfl (j := 2) rfl hl.1 rfl (Nat.le_of_ble_eq_true rfl) qd_S_caught_18 (fun H locs w => ?_)
    refine lv_istore_n (lv' := [(2, .int q4), (0, .ref (ad 3)), (1, .int a1)]) F.1 F.2.1 qd_S_caught_21 rfl hl (by decide) rfl (fun ls hl => ?_)
    refine lv_aload_n F.1 F.2.1 qd_S_caught_22 rfl (lv_at hl 1 rfl) ?_
    refine xg_S_types F hK w qk_126 qd_S_caught_23 ?_
    refine lv_iload_n F.1 F.2.1 qd_S_caught_26 rfl (lv_at hl 2 rfl) ?_
    obtain ⟨q6, hq7, hM⟩ := qbd hM
    refine x_calli F hK hN hA w (c_T_secondOf l D ad cI hq7) qk_349 qk_350 qk_351 qk_3 qk_352 qv_T_secondOf rfl rfl ⟨Nat.le_trans (by decide) hR.1, Nat.le_trans (by decide) hR.2⟩ (ci := 1) rfl (j := 2) rfl hl.1 rfl (Nat.le_of_ble_eq_true rfl) qd_S_caught_27 (fun H locs w => ?_)
    refine lv_iconst (v := (-1)) F.1 F.2.1 qd_S_caught_30 (by decide) ?_
    refine lv_icmp_eq (tgt := 38) F.1 F.2.1 qd_S_caught_31 (by decide) (fun hc8 => ?_) (fun hc8 => ?_)
    · rw [if_pos hc8] at hM
      refine lv_iconst (v := 0) F.1 F.2.1 qd_S_caught_38 (by decide) ?_
      exact t_S_caught_39 F hR hK hN hA hQ  _ _ _ _ hM w (lv_sub hl [1, 2, 0] rfl)
    · rw [if_neg hc8] at hM
      refine lv_iconst (v := 1) F.1 F.2.1 qd_S_caught_34 (by decide) ?_
      refine lv_goto (tgt := 39) F.1 F.2.1 qd_S_caught_35 (by decide) ?_
      exact t_S_caught_39 F hR hK hN hA hQ  _ _ _ _ hM w (lv_sub hl [1, 2, 0] rfl)
  · rw [if_pos hc3] at hM
    refine lv_iload_n F.1 F.2.1 qd_S_caught_11 rfl (lv_at hl 1 rfl) ?_
    cases hM
    exact hQ _ _ _ _ qd_S_caught_12 w
set_option maxRecDepth 100000 in
theorem c_S_caught (l : Launch) (D : va_G) (ad : Nat → Nat) (cI : ClassId) {S : (Nat → Nat → Int32)} {a1 : Int32} {res : (Int32 × (Nat → Nat → Int32))} (hM : f_S_caught S a1 = some res) : xMi l qy_S_caught qb_S_caught 7 (some .int) { frames := 3, cells := 0, slots := 0, locals := 93 } D ad cI S [.ref (ad 3), .int a1] res.1 res.2 := x_ofi (by decide +kernel) (Nat.le_of_ble_eq_true rfl) (fun p e s m args below meth c Q A ls F hK hN hA w hl hQ => t_S_caught F ⟨Nat.le_refl _, Nat.le_refl _⟩ hK hN hA hQ S a1 hM w hl)
-- O_isIn
def f_O_isIn (k : (Nat → Nat → Int32) → Int32 → Int32 → Int32 → Option (Bool × (Nat → Nat → Int32))) (S : (Nat → Nat → Int32)) (a1 a2 a3 : Int32) : Option (Bool × (Nat → Nat → Int32)) := if a1 = a2 then (some (true, S)) else ((f_T_sortOf S a2).bind (fun q2 => if q2 = (5 : Int32) then ((f_T_ownerOf S a2).bind (fun q5 => if q5 = 1 then ((f_T_firstOf S a2).bind (fun q8 => (k S a1 q8 a3).bind (fun q10 => some (q10.1, q10.2)))) else (if q5 = 2 then ((f_T_firstOf S a2).bind (fun q13 => (k S q13 a1 a3).bind (fun q15 => some (q15.1, q15.2)))) else (some (true, S))))) else (some (false, S))))
set_option maxRecDepth 100000 in
set_option maxHeartbeats 4000000 in
theorem t_O_isIn {p : Program} {l : Launch} {e : Env} {R : Room} {s : State} {m : MethodId} {args : Array Value} {below : List Frame} {meth : Method} {c : Code} {Q : State → Prop} {D : va_G} {ad : Nat → Nat} {cI : ClassId} {A : Nat → Prop} {k : (Nat → Nat → Int32) → Int32 → Int32 → Int32 → Option (Bool × (Nat → Nat → Int32))} {nn : Nat} (F : CallFix p m c qb_O_isIn 4 s args qtb "CaptureSubtypes$Order") (hR : 4 * nn + 69 ≤ R.frames ∧ 96 * nn + 1875 ≤ R.locals) (hK : va_K D qcl [(cI, .int)] s) (hN : qnests xns s) (hA : ∀ q, s.heap.size ≤ q → A q) (hk : ∀ {S : (Nat → Nat → Int32)} {a1 a2 a3 : Int32} {res : Bool × (Nat → Nat → Int32)}, k S a1 a2 a3 = some res → xMi l qy_O_isOne qb_O_isOne 6 (some .boolean) { frames := 4 * nn + 68, cells := 0, slots := 0, locals := 96 * nn + 1850 } D ad cI S [.ref (ad 4), .int a1, .int a2, .int a3] (qB res.1) res.2) {res : (Bool × (Nat → Nat → Int32))} (hQ : ∀ (H : Heap) (locs : List Loc) (pc : Nat) (ls : Array Slot), decode qb_O_isIn pc = .ok (.ireturn, 1) → xW D ad cI A s.heap res.2 H locs → W p l e R s m args below meth c H locs 0 0 Q (F0 m pc ls [.int (qB res.1)])) (S : (Nat → Nat → Int32)) (a1 a2 a3 : Int32) (hM : f_O_isIn k S a1 a2 a3 = some res) {H : Heap} {locs : List Loc} {ls : Array Slot} (w : xW D ad cI A s.heap S H locs) (hl : lv_has ls 4 [(0, .ref (ad 4)), (1, .int a1), (2, .int a2), (3, .int a3)]) : W p l e R s m args below meth c H locs 0 0 Q (F0 m 0 ls []) := by
  unfold f_O_isIn at hM
  refine lv_iload_n F.1 F.2.1 qd_O_isIn_0 rfl (lv_at hl 1 rfl) ?_
  refine lv_iload_n F.1 F.2.1 qd_O_isIn_1 rfl (lv_at hl 2 rfl) ?_
  refine lv_icmp_ne (tgt := 7) F.1 F.2.1 qd_O_isIn_2 (by decide) (fun hc1 => ?_) (fun hc1 => ?_)
  · rw [if_neg hc1] at hM
    refine lv_aload_n F.1 F.2.1 qd_O_isIn_7 rfl (lv_at hl 0 rfl) ?_
    refine xg_O_types F hK w qk_139 qd_O_isIn_8 ?_
    refine lv_iload_n F.1 F.2.1 qd_O_isIn_11 rfl (lv_at hl 2 rfl) ?_
    obtain ⟨q2, hq3, hM⟩ := qbd hM
    refine x_calli F hK hN hA w (c_T_sortOf l D ad cI hq3) qk_498 qk_270 qk_271 qk_3 qk_272 qv_T_sortOf rfl rfl ⟨Nat.le_trans (by show 0 + 1 ≤ 4 * nn + 69; omega) hR.1, Nat.le_trans (by show 8 + (2 + 11) + 0 ≤ 96 * nn + 1875; omega) hR.2⟩ (ci := 1) rfl (j := 2) rfl hl.1 rfl (Nat.le_of_ble_eq_true rfl) qd_O_isIn_12 (fun H locs w => ?_)
    refine lv_iconst (v := 5) F.1 F.2.1 qd_O_isIn_15 (by decide) ?_
    refine lv_icmp_eq (tgt := 21) F.1 F.2.1 qd_O_isIn_16 (by decide) (fun hc4 => ?_) (fun hc4 => ?_)
    · rw [if_pos hc4] at hM
      refine lv_aload_n F.1 F.2.1 qd_O_isIn_21 rfl (lv_at hl 0 rfl) ?_
      refine xg_O_types F hK w qk_139 qd_O_isIn_22 ?_
      refine lv_iload_n F.1 F.2.1 qd_O_isIn_25 rfl (lv_at hl 2 rfl) ?_
      obtain ⟨q5, hq6, hM⟩ := qbd hM
      refine x_calli F hK hN hA w (c_T_ownerOf l D ad cI hq6) qk_505 qk_274 qk_275 qk_3 qk_276 qv_T_ownerOf rfl rfl ⟨Nat.le_trans (by show 0 + 1 ≤ 4 * nn + 69; omega) hR.1, Nat.le_trans (by show 8 + (2 + 11) + 0 ≤ 96 * nn + 1875; omega) hR.2⟩ (ci := 1) rfl (j := 2) rfl hl.1 rfl (Nat.le_of_ble_eq_true rfl) qd_O_isIn_26 (fun H locs w => ?_)
      by_cases hs7 : q5 = 1
      · rw [if_pos hs7] at hM
        rw [hs7]
        refine lv_lookup (tgt := 56) F.1 F.2.1 qd_O_isIn_29 (by decide) rfl (by decide) ?_
        refine lv_aload_n F.1 F.2.1 qd_O_isIn_56 rfl (lv_at hl 0 rfl) ?_
        refine lv_iload_n F.1 F.2.1 qd_O_isIn_57 rfl (lv_at hl 1 rfl) ?_
        refine lv_aload_n F.1 F.2.1 qd_O_isIn_58 rfl (lv_at hl 0 rfl) ?_
        refine xg_O_types F hK w qk_139 qd_O_isIn_59 ?_
        refine lv_iload_n F.1 F.2.1 qd_O_isIn_62 rfl (lv_at hl 2 rfl) ?_
        obtain ⟨q8, hq9, hM⟩ := qbd hM
        refine x_calli F hK hN hA w (c_T_firstOf l D ad cI hq9) qk_499 qk_342 qk_343 qk_3 qk_344 qv_T_firstOf rfl rfl ⟨Nat.le_trans (by show 0 + 1 ≤ 4 * nn + 69; omega) hR.1, Nat.le_trans (by show 8 + (2 + 11) + 0 ≤ 96 * nn + 1875; omega) hR.2⟩ (ci := 1) rfl (j := 2) rfl hl.1 rfl (Nat.le_of_ble_eq_true rfl) qd_O_isIn_63 (fun H locs w => ?_)
        refine lv_iload_n F.1 F.2.1 qd_O_isIn_66 rfl (lv_at hl 3 rfl) ?_
        obtain ⟨q10, hq11, hM⟩ := qbd hM
        refine x_calli F hK hN hA w (hk hq11) qk_493 qk_460 qs_O_isOne qk_6 qk_461 qv_O_isOne rfl rfl ⟨Nat.le_trans (by show 4 * nn + 68 + 1 ≤ 4 * nn + 69; omega) hR.1, Nat.le_trans (by show 8 + (6 + 11) + (96 * nn + 1850) ≤ 96 * nn + 1875; omega) hR.2⟩ (ci := 3) rfl (j := 4) rfl hl.1 rfl (Nat.le_of_ble_eq_true rfl) qd_O_isIn_67 (fun H locs w => ?_)
        cases hM
        exact hQ _ _ _ _ qd_O_isIn_70 w
      · rw [if_neg hs7] at hM
        by_cases hs12 : q5 = 2
        · rw [if_pos hs12] at hM
          rw [hs12]
          refine lv_lookup (tgt := 71) F.1 F.2.1 qd_O_isIn_29 (by decide) rfl (by decide) ?_
          refine lv_aload_n F.1 F.2.1 qd_O_isIn_71 rfl (lv_at hl 0 rfl) ?_
          refine lv_aload_n F.1 F.2.1 qd_O_isIn_72 rfl (lv_at hl 0 rfl) ?_
          refine xg_O_types F hK w qk_139 qd_O_isIn_73 ?_
          refine lv_iload_n F.1 F.2.1 qd_O_isIn_76 rfl (lv_at hl 2 rfl) ?_
          obtain ⟨q13, hq14, hM⟩ := qbd hM
          refine x_calli F hK hN hA w (c_T_firstOf l D ad cI hq14) qk_499 qk_342 qk_343 qk_3 qk_344 qv_T_firstOf rfl rfl ⟨Nat.le_trans (by show 0 + 1 ≤ 4 * nn + 69; omega) hR.1, Nat.le_trans (by show 8 + (2 + 11) + 0 ≤ 96 * nn + 1875; omega) hR.2⟩ (ci := 1) rfl (j := 2) rfl hl.1 rfl (Nat.le_of_ble_eq_true rfl) qd_O_isIn_77 (fun H locs w => ?_)
          refine lv_iload_n F.1 F.2.1 qd_O_isIn_80 rfl (lv_at hl 1 rfl) ?_
          refine lv_iload_n F.1 F.2.1 qd_O_isIn_81 rfl (lv_at hl 3 rfl) ?_
          obtain ⟨q15, hq16, hM⟩ := qbd hM
          refine x_calli F hK hN hA w (hk hq16) qk_493 qk_460 qs_O_isOne qk_6 qk_461 qv_O_isOne rfl rfl ⟨Nat.le_trans (by show 4 * nn + 68 + 1 ≤ 4 * nn + 69; omega) hR.1, Nat.le_trans (by show 8 + (6 + 11) + (96 * nn + 1850) ≤ 96 * nn + 1875; omega) hR.2⟩ (ci := 3) rfl (j := 4) rfl hl.1 rfl (Nat.le_of_ble_eq_true rfl) qd_O_isIn_82 (fun H locs w => ?_)
          cases hM
          exact hQ _ _ _ _ qd_O_isIn_85 w
        · rw [if_neg hs12] at hM
          refine lv_lookup (tgt := 86) F.1 F.2.1 qd_O_isIn_29 (by decide) (by show Op.lookupswitch.offset [(1, 27), (2, 42)] 57 _ = 57; rw [lv_osw hs7 (show ((1 : Int32)).toInt = 1 from rfl), lv_osw hs12 (show ((2 : Int32)).toInt = 2 from rfl)]; rfl) (by decide) ?_
          refine lv_iconst (v := 1) F.1 F.2.1 qd_O_isIn_86 (by decide) ?_
          cases hM
          exact hQ _ _ _ _ qd_O_isIn_87 w
    · rw [if_neg hc4] at hM
      refine lv_iconst (v := 0) F.1 F.2.1 qd_O_isIn_19 (by decide) ?_
      cases hM
      exact hQ _ _ _ _ qd_O_isIn_20 w
  · rw [if_pos hc1] at hM
    refine lv_iconst (v := 1) F.1 F.2.1 qd_O_isIn_5 (by decide) ?_
    cases hM
    exact hQ _ _ _ _ qd_O_isIn_6 w
set_option maxRecDepth 100000 in
theorem c_O_isIn (l : Launch) (D : va_G) (ad : Nat → Nat) (cI : ClassId) {k : (Nat → Nat → Int32) → Int32 → Int32 → Int32 → Option (Bool × (Nat → Nat → Int32))} {nn : Nat} (hk : ∀ {S : (Nat → Nat → Int32)} {a1 a2 a3 : Int32} {res : Bool × (Nat → Nat → Int32)}, k S a1 a2 a3 = some res → xMi l qy_O_isOne qb_O_isOne 6 (some .boolean) { frames := 4 * nn + 68, cells := 0, slots := 0, locals := 96 * nn + 1850 } D ad cI S [.ref (ad 4), .int a1, .int a2, .int a3] (qB res.1) res.2) {S : (Nat → Nat → Int32)} {a1 a2 a3 : Int32} {res : (Bool × (Nat → Nat → Int32))} (hM : f_O_isIn k S a1 a2 a3 = some res) : xMi l qy_O_isIn qb_O_isIn 4 (some .boolean) { frames := 4 * nn + 69, cells := 0, slots := 0, locals := 96 * nn + 1875 } D ad cI S [.ref (ad 4), .int a1, .int a2, .int a3] (qB res.1) res.2 := x_ofz (by decide +kernel) (Nat.le_of_ble_eq_true rfl) (fun p e s m args below meth c Q A ls F hK hN hA w hl hQ => t_O_isIn F ⟨Nat.le_refl _, Nat.le_refl _⟩ hK hN hA hk hQ S a1 a2 a3 hM w hl)
-- O_isByClass
def f_O_isByClass (k : (Nat → Nat → Int32) → Int32 → Int32 → Int32 → Option (Bool × (Nat → Nat → Int32))) (S : (Nat → Nat → Int32)) (a1 a2 a3 : Int32) : Option (Bool × (Nat → Nat → Int32)) := (f_T_ownerOf S a2).bind (fun q1 => (f_T_ownerOf S a1).bind (fun q3 => (f_K_isUnder S q3 q1).bind (fun q5 => if (qB q5) = 0 then (some (false, S)) else ((f_T_sortOf S a2).bind (fun q8 => if q8 = (2 : Int32) then ((f_S_caught S a1).bind (fun q11 => (f_S_viewedAs q11.2 q11.1 q1).bind (fun q13 => (f_T_sortOf q13.2 q13.1).bind (fun q15 => if q15 = (2 : Int32) then ((f_T_firstOf q13.2 q13.1).bind (fun q18 => (f_T_firstOf q13.2 a2).bind (fun q20 => (f_O_isIn k q13.2 q18 q20 a3).bind (fun q22 => if (qB q22.1) = 0 then (some (false, q22.2)) else ((f_T_secondOf q22.2 q13.1).bind (fun q25 => (f_T_secondOf q22.2 a2).bind (fun q27 => (f_O_isIn k q22.2 q25 q27 a3).bind (fun q29 => if (qB q29.1) = 0 then (some (false, q29.2)) else (some (true, q29.2)))))))))) else (some (false, q13.2)))))) else (some (true, S)))))))
set_option maxRecDepth 100000 in
set_option maxHeartbeats 4000000 in
theorem t_O_isByClass {p : Program} {l : Launch} {e : Env} {R : Room} {s : State} {m : MethodId} {args : Array Value} {below : List Frame} {meth : Method} {c : Code} {Q : State → Prop} {D : va_G} {ad : Nat → Nat} {cI : ClassId} {A : Nat → Prop} {k : (Nat → Nat → Int32) → Int32 → Int32 → Int32 → Option (Bool × (Nat → Nat → Int32))} {nn : Nat} (F : CallFix p m c qb_O_isByClass 6 s args qtb "CaptureSubtypes$Order") (hR : 4 * nn + 70 ≤ R.frames ∧ 96 * nn + 1898 ≤ R.locals) (hK : va_K D qcl [(cI, .int)] s) (hN : qnests xns s) (hA : ∀ q, s.heap.size ≤ q → A q) (hk : ∀ {S : (Nat → Nat → Int32)} {a1 a2 a3 : Int32} {res : Bool × (Nat → Nat → Int32)}, k S a1 a2 a3 = some res → xMi l qy_O_isOne qb_O_isOne 6 (some .boolean) { frames := 4 * nn + 68, cells := 0, slots := 0, locals := 96 * nn + 1850 } D ad cI S [.ref (ad 4), .int a1, .int a2, .int a3] (qB res.1) res.2) {res : (Bool × (Nat → Nat → Int32))} (hQ : ∀ (H : Heap) (locs : List Loc) (pc : Nat) (ls : Array Slot), decode qb_O_isByClass pc = .ok (.ireturn, 1) → xW D ad cI A s.heap res.2 H locs → W p l e R s m args below meth c H locs 0 0 Q (F0 m pc ls [.int (qB res.1)])) (S : (Nat → Nat → Int32)) (a1 a2 a3 : Int32) (hM : f_O_isByClass k S a1 a2 a3 = some res) {H : Heap} {locs : List Loc} {ls : Array Slot} (w : xW D ad cI A s.heap S H locs) (hl : lv_has ls 6 [(0, .ref (ad 4)), (1, .int a1), (2, .int a2), (3, .int a3)]) : W p l e R s m args below meth c H locs 0 0 Q (F0 m 0 ls []) := by
  unfold f_O_isByClass at hM
  refine lv_aload_n F.1 F.2.1 qd_O_isByClass_0 rfl (lv_at hl 0 rfl) ?_
  refine xg_O_types F hK w qk_139 qd_O_isByClass_1 ?_
  refine lv_iload_n F.1 F.2.1 qd_O_isByClass_4 rfl (lv_at hl 2 rfl) ?_
  obtain ⟨q1, hq2, hM⟩ := qbd hM
  refine x_calli F hK hN hA w (c_T_ownerOf l D ad cI hq2) qk_505 qk_274 qk_275 qk_3 qk_276 qv_T_ownerOf rfl rfl ⟨Nat.le_trans (by show 0 + 1 ≤ 4 * nn + 70; omega) hR.1, Nat.le_trans (by show 8 + (2 + 11) + 0 ≤ 96 * nn + 1898; omega) hR.2⟩ (ci := 1) rfl (j := 2) rfl hl.1 rfl (Nat.le_of_ble_eq_true rfl) qd_O_isByClass_5 (fun H locs w => ?_)
  refine lv_istore (lv' := [(4, .int q1), (0, .ref (ad 4)), (1, .int a1), (2, .int a2), (3, .int a3)]) F.1 F.2.1 qd_O_isByClass_8 hl (by decide) rfl (fun ls hl => ?_)
  refine lv_aload_n F.1 F.2.1 qd_O_isByClass_10 rfl (lv_at hl 1 rfl) ?_
  refine xg_O_classes F hK w qk_138 qd_O_isByClass_11 ?_
  refine lv_aload_n F.1 F.2.1 qd_O_isByClass_14 rfl (lv_at hl 1 rfl) ?_
  refine xg_O_types F hK w qk_139 qd_O_isByClass_15 ?_
  refine lv_iload_n F.1 F.2.1 qd_O_isByClass_18 rfl (lv_at hl 2 rfl) ?_
  obtain ⟨q3, hq4, hM⟩ := qbd hM
  refine x_calli F hK hN hA w (c_T_ownerOf l D ad cI hq4) qk_505 qk_274 qk_275 qk_3 qk_276 qv_T_ownerOf rfl rfl ⟨Nat.le_trans (by show 0 + 1 ≤ 4 * nn + 70; omega) hR.1, Nat.le_trans (by show 8 + (2 + 11) + 0 ≤ 96 * nn + 1898; omega) hR.2⟩ (ci := 1) rfl (j := 2) rfl hl.1 rfl (Nat.le_of_ble_eq_true rfl) qd_O_isByClass_19 (fun H locs w => ?_)
  refine lv_iload F.1 F.2.1 qd_O_isByClass_22 (lv_at hl 0 rfl) ?_
  obtain ⟨q5, hq6, hM⟩ := qbd hM
  refine x_calli F hK hN hA w (c_K_isUnder l D ad cI hq6) qk_506 qk_218 qk_219 qk_2 qk_220 qv_K_isUnder rfl rfl ⟨Nat.le_trans (by show 0 + 1 ≤ 4 * nn + 70; omega) hR.1, Nat.le_trans (by show 8 + (3 + 11) + 0 ≤ 96 * nn + 1898; omega) hR.2⟩ (ci := 0) rfl (j := 1) rfl hl.1 rfl (Nat.le_of_ble_eq_true rfl) qd_O_isByClass_24 (fun H locs w => ?_)
  refine lv_if_ne (tgt := 32) F.1 F.2.1 qd_O_isByClass_27 (by decide) (fun hc7 => ?_) (fun hc7 => ?_)
  · rw [if_neg hc7] at hM
    refine lv_aload_n F.1 F.2.1 qd_O_isByClass_32 rfl (lv_at hl 1 rfl) ?_
    refine xg_O_types F hK w qk_139 qd_O_isByClass_33 ?_
    refine lv_iload_n F.1 F.2.1 qd_O_isByClass_36 rfl (lv_at hl 3 rfl) ?_
    obtain ⟨q8, hq9, hM⟩ := qbd hM
    refine x_calli F hK hN hA w (c_T_sortOf l D ad cI hq9) qk_498 qk_270 qk_271 qk_3 qk_272 qv_T_sortOf rfl rfl ⟨Nat.le_trans (by show 0 + 1 ≤ 4 * nn + 70; omega) hR.1, Nat.le_trans (by show 8 + (2 + 11) + 0 ≤ 96 * nn + 1898; omega) hR.2⟩ (ci := 1) rfl (j := 2) rfl hl.1 rfl (Nat.le_of_ble_eq_true rfl) qd_O_isByClass_37 (fun H locs w => ?_)
    refine lv_iconst (v := 2) F.1 F.2.1 qd_O_isByClass_40 (by decide) ?_
    refine lv_icmp_eq (tgt := 46) F.1 F.2.1 qd_O_isByClass_41 (by decide) (fun hc10 => ?_) (fun hc10 => ?_)
    · rw [if_pos hc10] at hM
      refine lv_aload_n F.1 F.2.1 qd_O_isByClass_46 rfl (lv_at hl 1 rfl) ?_
      refine xg_O_shapes F hK w qk_140 qd_O_isByClass_47 ?_
      refine lv_aload_n F.1 F.2.1 qd_O_isByClass_50 rfl (lv_at hl 1 rfl) ?_
      refine xg_O_shapes F hK w qk_140 qd_O_isByClass_51 ?_
      refine lv_iload_n F.1 F.2.1 qd_O_isByClass_54 rfl (lv_at hl 2 rfl) ?_
      obtain ⟨q11, hq12, hM⟩ := qbd hM
      refine x_calli F hK hN hA w (c_S_caught l D ad cI hq12) qk_507 qk_508 qk_509 qk_5 qk_510 qv_S_caught rfl rfl ⟨Nat.le_trans (by show 3 + 1 ≤ 4 * nn + 70; omega) hR.1, Nat.le_trans (by show 8 + (7 + 11) + 93 ≤ 96 * nn + 1898; omega) hR.2⟩ (ci := 2) rfl (j := 3) rfl hl.1 rfl (Nat.le_of_ble_eq_true rfl) qd_O_isByClass_55 (fun H locs w => ?_)
      refine lv_iload F.1 F.2.1 qd_O_isByClass_58 (lv_at hl 0 rfl) ?_
      obtain ⟨q13, hq14, hM⟩ := qbd hM
      refine x_calli F hK hN hA w (c_S_viewedAs l D ad cI hq14) qk_526 qk_313 qk_314 qk_5 qk_315 qv_S_viewedAs rfl rfl ⟨Nat.le_trans (by show 67 + 1 ≤ 4 * nn + 70; omega) hR.1, Nat.le_trans (by show 8 + (7 + 11) + 1824 ≤ 96 * nn + 1898; omega) hR.2⟩ (ci := 2) rfl (j := 3) rfl hl.1 rfl (Nat.le_of_ble_eq_true rfl) qd_O_isByClass_60 (fun H locs w => ?_)
      refine lv_istore (lv' := [(5, .int q13.1), (4, .int q1), (0, .ref (ad 4)), (1, .int a1), (2, .int a2), (3, .int a3)]) F.1 F.2.1 qd_O_isByClass_63 hl (by decide) rfl (fun ls hl => ?_)
      refine lv_aload_n F.1 F.2.1 qd_O_isByClass_65 rfl (lv_at hl 2 rfl) ?_
      refine xg_O_types F hK w qk_139 qd_O_isByClass_66 ?_
      refine lv_iload F.1 F.2.1 qd_O_isByClass_69 (lv_at hl 0 rfl) ?_
      obtain ⟨q15, hq16, hM⟩ := qbd hM
      refine x_calli F hK hN hA w (c_T_sortOf l D ad cI hq16) qk_498 qk_270 qk_271 qk_3 qk_272 qv_T_sortOf rfl rfl ⟨Nat.le_trans (by show 0 + 1 ≤ 4 * nn + 70; omega) hR.1, Nat.le_trans (by show 8 + (2 + 11) + 0 ≤ 96 * nn + 1898; omega) hR.2⟩ (ci := 1) rfl (j := 2) rfl hl.1 rfl (Nat.le_of_ble_eq_true rfl) qd_O_isByClass_71 (fun H locs w => ?_)
      refine lv_iconst (v := 2) F.1 F.2.1 qd_O_isByClass_74 (by decide) ?_
      refine lv_icmp_eq (tgt := 80) F.1 F.2.1 qd_O_isByClass_75 (by decide) (fun hc17 => ?_) (fun hc17 => ?_)
      · rw [if_pos hc17] at hM
        refine lv_aload_n F.1 F.2.1 qd_O_isByClass_80 rfl (lv_at hl 2 rfl) ?_
        refine lv_aload_n F.1 F.2.1 qd_O_isByClass_81 rfl (lv_at hl 2 rfl) ?_
        refine xg_O_types F hK w qk_139 qd_O_isByClass_82 ?_
        refine lv_iload F.1 F.2.1 qd_O_isByClass_85 (lv_at hl 0 rfl) ?_
        obtain ⟨q18, hq19, hM⟩ := qbd hM
        refine x_calli F hK hN hA w (c_T_firstOf l D ad cI hq19) qk_499 qk_342 qk_343 qk_3 qk_344 qv_T_firstOf rfl rfl ⟨Nat.le_trans (by show 0 + 1 ≤ 4 * nn + 70; omega) hR.1, Nat.le_trans (by show 8 + (2 + 11) + 0 ≤ 96 * nn + 1898; omega) hR.2⟩ (ci := 1) rfl (j := 2) rfl hl.1 rfl (Nat.le_of_ble_eq_true rfl) qd_O_isByClass_87 (fun H locs w => ?_)
        refine lv_aload_n F.1 F.2.1 qd_O_isByClass_90 rfl (lv_at hl 2 rfl) ?_
        refine xg_O_types F hK w qk_139 qd_O_isByClass_91 ?_
        refine lv_iload_n F.1 F.2.1 qd_O_isByClass_94 rfl (lv_at hl 4 rfl) ?_
        obtain ⟨q20, hq21, hM⟩ := qbd hM
        refine x_calli F hK hN hA w (c_T_firstOf l D ad cI hq21) qk_499 qk_342 qk_343 qk_3 qk_344 qv_T_firstOf rfl rfl ⟨Nat.le_trans (by show 0 + 1 ≤ 4 * nn + 70; omega) hR.1, Nat.le_trans (by show 8 + (2 + 11) + 0 ≤ 96 * nn + 1898; omega) hR.2⟩ (ci := 1) rfl (j := 2) rfl hl.1 rfl (Nat.le_of_ble_eq_true rfl) qd_O_isByClass_95 (fun H locs w => ?_)
        refine lv_iload_n F.1 F.2.1 qd_O_isByClass_98 rfl (lv_at hl 5 rfl) ?_
        obtain ⟨q22, hq23, hM⟩ := qbd hM
        refine x_calli F hK hN hA w (c_O_isIn l D ad cI hk hq23) qk_527 qk_529 qs_O_isIn qk_6 qk_530 qv_O_isIn rfl rfl ⟨Nat.le_trans (by show 4 * nn + 69 + 1 ≤ 4 * nn + 70; omega) hR.1, Nat.le_trans (by show 8 + (4 + 11) + (96 * nn + 1875) ≤ 96 * nn + 1898; omega) hR.2⟩ (ci := 3) rfl (j := 4) rfl hl.1 rfl (Nat.le_of_ble_eq_true rfl) qd_O_isByClass_99 (fun H locs w => ?_)
        refine lv_if_eq (tgt := 134) F.1 F.2.1 qd_O_isByClass_102 (by decide) (fun hc24 => ?_) (fun hc24 => ?_)
        · rw [if_pos hc24] at hM
          refine lv_iconst (v := 0) F.1 F.2.1 qd_O_isByClass_134 (by decide) ?_
          cases hM
          exact hQ _ _ _ _ qd_O_isByClass_135 w
        · rw [if_neg hc24] at hM
          refine lv_aload_n F.1 F.2.1 qd_O_isByClass_105 rfl (lv_at hl 2 rfl) ?_
          refine lv_aload_n F.1 F.2.1 qd_O_isByClass_106 rfl (lv_at hl 2 rfl) ?_
          refine xg_O_types F hK w qk_139 qd_O_isByClass_107 ?_
          refine lv_iload F.1 F.2.1 qd_O_isByClass_110 (lv_at hl 0 rfl) ?_
          obtain ⟨q25, hq26, hM⟩ := qbd hM
          refine x_calli F hK hN hA w (c_T_secondOf l D ad cI hq26) qk_531 qk_350 qk_351 qk_3 qk_352 qv_T_secondOf rfl rfl ⟨Nat.le_trans (by show 0 + 1 ≤ 4 * nn + 70; omega) hR.1, Nat.le_trans (by show 8 + (2 + 11) + 0 ≤ 96 * nn + 1898; omega) hR.2⟩ (ci := 1) rfl (j := 2) rfl hl.1 rfl (Nat.le_of_ble_eq_true rfl) qd_O_isByClass_112 (fun H locs w => ?_)
          refine lv_aload_n F.1 F.2.1 qd_O_isByClass_115 rfl (lv_at hl 2 rfl) ?_
          refine xg_O_types F hK w qk_139 qd_O_isByClass_116 ?_
          refine lv_iload_n F.1 F.2.1 qd_O_isByClass_119 rfl (lv_at hl 4 rfl) ?_
          obtain ⟨q27, hq28, hM⟩ := qbd hM
          refine x_calli F hK hN hA w (c_T_secondOf l D ad cI hq28) qk_531 qk_350 qk_351 qk_3 qk_352 qv_T_secondOf rfl rfl ⟨Nat.le_trans (by show 0 + 1 ≤ 4 * nn + 70; omega) hR.1, Nat.le_trans (by show 8 + (2 + 11) + 0 ≤ 96 * nn + 1898; omega) hR.2⟩ (ci := 1) rfl (j := 2) rfl hl.1 rfl (Nat.le_of_ble_eq_true rfl) qd_O_isByClass_120 (fun H locs w => ?_)
          refine lv_iload_n F.1 F.2.1 qd_O_isByClass_123 rfl (lv_at hl 5 rfl) ?_
          obtain ⟨q29, hq30, hM⟩ := qbd hM
          refine x_calli F hK hN hA w (c_O_isIn l D ad cI hk hq30) qk_527 qk_529 qs_O_isIn qk_6 qk_530 qv_O_isIn rfl rfl ⟨Nat.le_trans (by show 4 * nn + 69 + 1 ≤ 4 * nn + 70; omega) hR.1, Nat.le_trans (by show 8 + (4 + 11) + (96 * nn + 1875) ≤ 96 * nn + 1898; omega) hR.2⟩ (ci := 3) rfl (j := 4) rfl hl.1 rfl (Nat.le_of_ble_eq_true rfl) qd_O_isByClass_124 (fun H locs w => ?_)
          refine lv_if_eq (tgt := 134) F.1 F.2.1 qd_O_isByClass_127 (by decide) (fun hc31 => ?_) (fun hc31 => ?_)
          · rw [if_pos hc31] at hM
            refine lv_iconst (v := 0) F.1 F.2.1 qd_O_isByClass_134 (by decide) ?_
            cases hM
            exact hQ _ _ _ _ qd_O_isByClass_135 w
          · rw [if_neg hc31] at hM
            refine lv_iconst (v := 1) F.1 F.2.1 qd_O_isByClass_130 (by decide) ?_
            refine lv_goto (tgt := 135) F.1 F.2.1 qd_O_isByClass_131 (by decide) ?_
            cases hM
            exact hQ _ _ _ _ qd_O_isByClass_135 w
      · rw [if_neg hc17] at hM
        refine lv_iconst (v := 0) F.1 F.2.1 qd_O_isByClass_78 (by decide) ?_
        cases hM
        exact hQ _ _ _ _ qd_O_isByClass_79 w
    · rw [if_neg hc10] at hM
      refine lv_iconst (v := 1) F.1 F.2.1 qd_O_isByClass_44 (by decide) ?_
      cases hM
      exact hQ _ _ _ _ qd_O_isByClass_45 w
  · rw [if_pos hc7] at hM
    refine lv_iconst (v := 0) F.1 F.2.1 qd_O_isByClass_30 (by decide) ?_
    cases hM
    exact hQ _ _ _ _ qd_O_isByClass_31 w
set_option maxRecDepth 100000 in
theorem c_O_isByClass (l : Launch) (D : va_G) (ad : Nat → Nat) (cI : ClassId) {k : (Nat → Nat → Int32) → Int32 → Int32 → Int32 → Option (Bool × (Nat → Nat → Int32))} {nn : Nat} (hk : ∀ {S : (Nat → Nat → Int32)} {a1 a2 a3 : Int32} {res : Bool × (Nat → Nat → Int32)}, k S a1 a2 a3 = some res → xMi l qy_O_isOne qb_O_isOne 6 (some .boolean) { frames := 4 * nn + 68, cells := 0, slots := 0, locals := 96 * nn + 1850 } D ad cI S [.ref (ad 4), .int a1, .int a2, .int a3] (qB res.1) res.2) {S : (Nat → Nat → Int32)} {a1 a2 a3 : Int32} {res : (Bool × (Nat → Nat → Int32))} (hM : f_O_isByClass k S a1 a2 a3 = some res) : xMi l qy_O_isByClass qb_O_isByClass 6 (some .boolean) { frames := 4 * nn + 70, cells := 0, slots := 0, locals := 96 * nn + 1898 } D ad cI S [.ref (ad 4), .int a1, .int a2, .int a3] (qB res.1) res.2 := x_ofz (by decide +kernel) (Nat.le_of_ble_eq_true rfl) (fun p e s m args below meth c Q A ls F hK hN hA w hl hQ => t_O_isByClass F ⟨Nat.le_refl _, Nat.le_refl _⟩ hK hN hA hk hQ S a1 a2 a3 hM w hl)
-- O_someBoundIs
def fb_O_someBoundIs_13 (k : (Nat → Nat → Int32) → Int32 → Int32 → Int32 → Option (Bool × (Nat → Nat → Int32))) (k_13 : (Nat → Nat → Int32) → Int32 → Int32 → Int32 → Int32 → Int32 → Option (Bool × (Nat → Nat → Int32))) (S : (Nat → Nat → Int32)) (v1 v2 v3 v4 v5 : Int32) : Option (Bool × (Nat → Nat → Int32)) := if v4 ≤ v5 then (some (false, S)) else ((f_S_boundOf S v1 v5).bind (fun q2 => (k q2.2 q2.1 v2 v3).bind (fun q4 => if (qB q4.1) = 0 then (k_13 q4.2 v1 v2 v3 v4 (v5 + (1 : Int32))) else (some (true, q4.2)))))
def f_O_someBoundIs_13 (k : (Nat → Nat → Int32) → Int32 → Int32 → Int32 → Option (Bool × (Nat → Nat → Int32))) : Nat → (Nat → Nat → Int32) → Int32 → Int32 → Int32 → Int32 → Int32 → Option (Bool × (Nat → Nat → Int32))
  | 0 => fun _ _ _ _ _ _ => none
  | n + 1 => fun S v1 v2 v3 v4 v5 => fb_O_someBoundIs_13 k (f_O_someBoundIs_13 k n) S v1 v2 v3 v4 v5
def f_O_someBoundIs (k : (Nat → Nat → Int32) → Int32 → Int32 → Int32 → Option (Bool × (Nat → Nat → Int32))) (S : (Nat → Nat → Int32)) (a1 a2 a3 : Int32) : Option (Bool × (Nat → Nat → Int32)) := (f_S_boundCountOf S a1).bind (fun q1 => f_O_someBoundIs_13 k  qfu S a1 a2 a3 q1 (0 : Int32))
set_option maxRecDepth 100000 in
set_option maxHeartbeats 4000000 in
theorem tb_O_someBoundIs_13 {p : Program} {l : Launch} {e : Env} {R : Room} {s : State} {m : MethodId} {args : Array Value} {below : List Frame} {meth : Method} {c : Code} {Q : State → Prop} {D : va_G} {ad : Nat → Nat} {cI : ClassId} {A : Nat → Prop} {k : (Nat → Nat → Int32) → Int32 → Int32 → Int32 → Option (Bool × (Nat → Nat → Int32))} {nn : Nat} (F : CallFix p m c qb_O_someBoundIs 6 s args qtb "CaptureSubtypes$Order") (hR : 4 * nn + 69 ≤ R.frames ∧ 96 * nn + 1875 ≤ R.locals) (hK : va_K D qcl [(cI, .int)] s) (hN : qnests xns s) (hA : ∀ q, s.heap.size ≤ q → A q) (hk : ∀ {S : (Nat → Nat → Int32)} {a1 a2 a3 : Int32} {res : Bool × (Nat → Nat → Int32)}, k S a1 a2 a3 = some res → xMi l qy_O_isOne qb_O_isOne 6 (some .boolean) { frames := 4 * nn + 68, cells := 0, slots := 0, locals := 96 * nn + 1850 } D ad cI S [.ref (ad 4), .int a1, .int a2, .int a3] (qB res.1) res.2) {res : (Bool × (Nat → Nat → Int32))} (hQ : ∀ (H : Heap) (locs : List Loc) (pc : Nat) (ls : Array Slot), decode qb_O_someBoundIs pc = .ok (.ireturn, 1) → xW D ad cI A s.heap res.2 H locs → W p l e R s m args below meth c H locs 0 0 Q (F0 m pc ls [.int (qB res.1)])) {k_13 : (Nat → Nat → Int32) → Int32 → Int32 → Int32 → Int32 → Int32 → Option (Bool × (Nat → Nat → Int32))} (hk_13 : ∀ (S : Nat → Nat → Int32) (v1 v2 v3 v4 v5 : Int32), k_13 S v1 v2 v3 v4 v5 = some res → ∀ {H : Heap} {locs : List Loc} {ls : Array Slot}, xW D ad cI A s.heap S H locs → lv_has ls 6 [(0, .ref (ad 4)), (1, .int v1), (2, .int v2), (3, .int v3), (4, .int v4), (5, .int v5)] → W p l e R s m args below meth c H locs 0 0 Q (F0 m 13 ls [])) (S : (Nat → Nat → Int32)) (v1 v2 v3 v4 v5 : Int32) (hM : fb_O_someBoundIs_13 k k_13 S v1 v2 v3 v4 v5 = some res) {H : Heap} {locs : List Loc} {ls : Array Slot} (w : xW D ad cI A s.heap S H locs) (hl : lv_has ls 6 [(0, .ref (ad 4)), (1, .int v1), (2, .int v2), (3, .int v3), (4, .int v4), (5, .int v5)]) : W p l e R s m args below meth c H locs 0 0 Q (F0 m 13 ls []) := by
  unfold fb_O_someBoundIs_13 at hM
  refine lv_iload F.1 F.2.1 qd_O_someBoundIs_13 (lv_at hl 5 rfl) ?_
  refine lv_iload F.1 F.2.1 qd_O_someBoundIs_15 (lv_at hl 4 rfl) ?_
  refine lv_icmp_ge (tgt := 47) F.1 F.2.1 qd_O_someBoundIs_17 (by decide) (fun hc1 => ?_) (fun hc1 => ?_)
  · rw [if_pos hc1] at hM
    refine lv_iconst (v := 0) F.1 F.2.1 qd_O_someBoundIs_47 (by decide) ?_
    cases hM
    exact hQ _ _ _ _ qd_O_someBoundIs_48 w
  · rw [if_neg hc1] at hM
    refine lv_aload_n F.1 F.2.1 qd_O_someBoundIs_20 rfl (lv_at hl 0 rfl) ?_
    refine lv_aload_n F.1 F.2.1 qd_O_someBoundIs_21 rfl (lv_at hl 0 rfl) ?_
    refine xg_O_shapes F hK w qk_140 qd_O_someBoundIs_22 ?_
    refine lv_iload_n F.1 F.2.1 qd_O_someBoundIs_25 rfl (lv_at hl 1 rfl) ?_
    refine lv_iload F.1 F.2.1 qd_O_someBoundIs_26 (lv_at hl 5 rfl) ?_
    obtain ⟨q2, hq3, hM⟩ := qbd hM
    refine x_calli F hK hN hA w (c_S_boundOf l D ad cI hq3) qk_485 qk_486 qk_487 qk_5 qk_488 qv_S_boundOf rfl rfl ⟨Nat.le_trans (by show 67 + 1 ≤ 4 * nn + 69; omega) hR.1, Nat.le_trans (by show 8 + (5 + 11) + 1824 ≤ 96 * nn + 1875; omega) hR.2⟩ (ci := 2) rfl (j := 3) rfl hl.1 rfl (Nat.le_of_ble_eq_true rfl) qd_O_someBoundIs_28 (fun H locs w => ?_)
    refine lv_iload_n F.1 F.2.1 qd_O_someBoundIs_31 rfl (lv_at hl 2 rfl) ?_
    refine lv_iload_n F.1 F.2.1 qd_O_someBoundIs_32 rfl (lv_at hl 3 rfl) ?_
    obtain ⟨q4, hq5, hM⟩ := qbd hM
    refine x_calli F hK hN hA w (hk hq5) qk_493 qk_460 qs_O_isOne qk_6 qk_461 qv_O_isOne rfl rfl ⟨Nat.le_trans (by show 4 * nn + 68 + 1 ≤ 4 * nn + 69; omega) hR.1, Nat.le_trans (by show 8 + (6 + 11) + (96 * nn + 1850) ≤ 96 * nn + 1875; omega) hR.2⟩ (ci := 3) rfl (j := 4) rfl hl.1 rfl (Nat.le_of_ble_eq_true rfl) qd_O_someBoundIs_33 (fun H locs w => ?_)
    refine lv_if_eq (tgt := 41) F.1 F.2.1 qd_O_someBoundIs_36 (by decide) (fun hc6 => ?_) (fun hc6 => ?_)
    · rw [if_pos hc6] at hM
      refine lv_iinc (v := (v5 + (1 : Int32))) (lv' := [(5, .int (v5 + (1 : Int32))), (0, .ref (ad 4)), (1, .int v1), (2, .int v2), (3, .int v3), (4, .int v4)]) F.1 F.2.1 qd_O_someBoundIs_41 hl (k := 5) rfl rfl (by decide) rfl (fun ls hl => ?_)
      refine lv_goto (tgt := 13) F.1 F.2.1 qd_O_someBoundIs_44 (by decide) ?_
      exact hk_13 _ _ _ _ _ _ hM w (lv_sub hl [1, 2, 3, 4, 5, 0] rfl)
    · rw [if_neg hc6] at hM
      refine lv_iconst (v := 1) F.1 F.2.1 qd_O_someBoundIs_39 (by decide) ?_
      cases hM
      exact hQ _ _ _ _ qd_O_someBoundIs_40 w
set_option maxRecDepth 100000 in
set_option maxHeartbeats 4000000 in
theorem t_O_someBoundIs_13 {p : Program} {l : Launch} {e : Env} {R : Room} {s : State} {m : MethodId} {args : Array Value} {below : List Frame} {meth : Method} {c : Code} {Q : State → Prop} {D : va_G} {ad : Nat → Nat} {cI : ClassId} {A : Nat → Prop} {k : (Nat → Nat → Int32) → Int32 → Int32 → Int32 → Option (Bool × (Nat → Nat → Int32))} {nn : Nat} (F : CallFix p m c qb_O_someBoundIs 6 s args qtb "CaptureSubtypes$Order") (hR : 4 * nn + 69 ≤ R.frames ∧ 96 * nn + 1875 ≤ R.locals) (hK : va_K D qcl [(cI, .int)] s) (hN : qnests xns s) (hA : ∀ q, s.heap.size ≤ q → A q) (hk : ∀ {S : (Nat → Nat → Int32)} {a1 a2 a3 : Int32} {res : Bool × (Nat → Nat → Int32)}, k S a1 a2 a3 = some res → xMi l qy_O_isOne qb_O_isOne 6 (some .boolean) { frames := 4 * nn + 68, cells := 0, slots := 0, locals := 96 * nn + 1850 } D ad cI S [.ref (ad 4), .int a1, .int a2, .int a3] (qB res.1) res.2) {res : (Bool × (Nat → Nat → Int32))} (hQ : ∀ (H : Heap) (locs : List Loc) (pc : Nat) (ls : Array Slot), decode qb_O_someBoundIs pc = .ok (.ireturn, 1) → xW D ad cI A s.heap res.2 H locs → W p l e R s m args below meth c H locs 0 0 Q (F0 m pc ls [.int (qB res.1)])) : ∀ (n : Nat) (S : (Nat → Nat → Int32)) (v1 v2 v3 v4 v5 : Int32) (hM : f_O_someBoundIs_13 k n S v1 v2 v3 v4 v5 = some res) {H : Heap} {locs : List Loc} {ls : Array Slot} (w : xW D ad cI A s.heap S H locs) (hl : lv_has ls 6 [(0, .ref (ad 4)), (1, .int v1), (2, .int v2), (3, .int v3), (4, .int v4), (5, .int v5)]), W p l e R s m args below meth c H locs 0 0 Q (F0 m 13 ls []) := by
  intro n
  induction n with
  | zero => intro S v1 v2 v3 v4 v5 hM; exact absurd hM (by simp [f_O_someBoundIs_13])
  | succ n ih => intro S v1 v2 v3 v4 v5 hM H locs ls w hl; exact tb_O_someBoundIs_13 F hR hK hN hA hk hQ (k_13 := f_O_someBoundIs_13 k n) (fun S v1 v2 v3 v4 v5 hM H locs ls w hl => ih S v1 v2 v3 v4 v5 hM w hl) S v1 v2 v3 v4 v5 hM w hl
set_option maxRecDepth 100000 in
set_option maxHeartbeats 4000000 in
theorem t_O_someBoundIs {p : Program} {l : Launch} {e : Env} {R : Room} {s : State} {m : MethodId} {args : Array Value} {below : List Frame} {meth : Method} {c : Code} {Q : State → Prop} {D : va_G} {ad : Nat → Nat} {cI : ClassId} {A : Nat → Prop} {k : (Nat → Nat → Int32) → Int32 → Int32 → Int32 → Option (Bool × (Nat → Nat → Int32))} {nn : Nat} (F : CallFix p m c qb_O_someBoundIs 6 s args qtb "CaptureSubtypes$Order") (hR : 4 * nn + 69 ≤ R.frames ∧ 96 * nn + 1875 ≤ R.locals) (hK : va_K D qcl [(cI, .int)] s) (hN : qnests xns s) (hA : ∀ q, s.heap.size ≤ q → A q) (hk : ∀ {S : (Nat → Nat → Int32)} {a1 a2 a3 : Int32} {res : Bool × (Nat → Nat → Int32)}, k S a1 a2 a3 = some res → xMi l qy_O_isOne qb_O_isOne 6 (some .boolean) { frames := 4 * nn + 68, cells := 0, slots := 0, locals := 96 * nn + 1850 } D ad cI S [.ref (ad 4), .int a1, .int a2, .int a3] (qB res.1) res.2) {res : (Bool × (Nat → Nat → Int32))} (hQ : ∀ (H : Heap) (locs : List Loc) (pc : Nat) (ls : Array Slot), decode qb_O_someBoundIs pc = .ok (.ireturn, 1) → xW D ad cI A s.heap res.2 H locs → W p l e R s m args below meth c H locs 0 0 Q (F0 m pc ls [.int (qB res.1)])) (S : (Nat → Nat → Int32)) (a1 a2 a3 : Int32) (hM : f_O_someBoundIs k S a1 a2 a3 = some res) {H : Heap} {locs : List Loc} {ls : Array Slot} (w : xW D ad cI A s.heap S H locs) (hl : lv_has ls 6 [(0, .ref (ad 4)), (1, .int a1), (2, .int a2), (3, .int a3)]) : W p l e R s m args below meth c H locs 0 0 Q (F0 m 0 ls []) := by
  unfold f_O_someBoundIs at hM
  refine lv_aload_n F.1 F.2.1 qd_O_someBoundIs_0 rfl (lv_at hl 0 rfl) ?_
  refine xg_O_shapes F hK w qk_140 qd_O_someBoundIs_1 ?_
  refine lv_iload_n F.1 F.2.1 qd_O_someBoundIs_4 rfl (lv_at hl 1 rfl) ?_
  obtain ⟨q1, hq2, hM⟩ := qbd hM
  refine x_calli F hK hN hA w (c_S_boundCountOf l D ad cI hq2) qk_475 qk_476 qk_477 qk_5 qk_478 qv_S_boundCountOf rfl rfl ⟨Nat.le_trans (by show 1 + 1 ≤ 4 * nn + 69; omega) hR.1, Nat.le_trans (by show 8 + (3 + 11) + 40 ≤ 96 * nn + 1875; omega) hR.2⟩ (ci := 2) rfl (j := 3) rfl hl.1 rfl (Nat.le_of_ble_eq_true rfl) qd_O_someBoundIs_5 (fun H locs w => ?_)
  refine lv_istore (lv' := [(4, .int q1), (0, .ref (ad 4)), (1, .int a1), (2, .int a2), (3, .int a3)]) F.1 F.2.1 qd_O_someBoundIs_8 hl (by decide) rfl (fun ls hl => ?_)
  refine lv_iconst (v := 0) F.1 F.2.1 qd_O_someBoundIs_10 (by decide) ?_
  refine lv_istore (lv' := [(5, .int (0 : Int32)), (4, .int q1), (0, .ref (ad 4)), (1, .int a1), (2, .int a2), (3, .int a3)]) F.1 F.2.1 qd_O_someBoundIs_11 hl (by decide) rfl (fun ls hl => ?_)
  exact t_O_someBoundIs_13 F hR hK hN hA hk hQ  qfu _ _ _ _ _ _ hM w (lv_sub hl [2, 3, 4, 5, 1, 0] rfl)
set_option maxRecDepth 100000 in
theorem c_O_someBoundIs (l : Launch) (D : va_G) (ad : Nat → Nat) (cI : ClassId) {k : (Nat → Nat → Int32) → Int32 → Int32 → Int32 → Option (Bool × (Nat → Nat → Int32))} {nn : Nat} (hk : ∀ {S : (Nat → Nat → Int32)} {a1 a2 a3 : Int32} {res : Bool × (Nat → Nat → Int32)}, k S a1 a2 a3 = some res → xMi l qy_O_isOne qb_O_isOne 6 (some .boolean) { frames := 4 * nn + 68, cells := 0, slots := 0, locals := 96 * nn + 1850 } D ad cI S [.ref (ad 4), .int a1, .int a2, .int a3] (qB res.1) res.2) {S : (Nat → Nat → Int32)} {a1 a2 a3 : Int32} {res : (Bool × (Nat → Nat → Int32))} (hM : f_O_someBoundIs k S a1 a2 a3 = some res) : xMi l qy_O_someBoundIs qb_O_someBoundIs 6 (some .boolean) { frames := 4 * nn + 69, cells := 0, slots := 0, locals := 96 * nn + 1875 } D ad cI S [.ref (ad 4), .int a1, .int a2, .int a3] (qB res.1) res.2 := x_ofz (by decide +kernel) (Nat.le_of_ble_eq_true rfl) (fun p e s m args below meth c Q A ls F hK hN hA w hl hQ => t_O_someBoundIs F ⟨Nat.le_refl _, Nat.le_refl _⟩ hK hN hA hk hQ S a1 a2 a3 hM w hl)
-- O_isByParts
def f_O_isByParts_100 (k : (Nat → Nat → Int32) → Int32 → Int32 → Int32 → Option (Bool × (Nat → Nat → Int32))) (S : (Nat → Nat → Int32)) (v1 v2 v3 : Int32) : Option (Bool × (Nat → Nat → Int32)) := (f_T_isOfClass S v1).bind (fun q1 => if (qB q1) = 0 then (some (false, S)) else ((f_T_isOfClass S v2).bind (fun q4 => if (qB q4) = 0 then (some (false, S)) else ((f_O_isByClass k S v1 v2 v3).bind (fun q7 => if (qB q7.1) = 0 then (some (false, q7.2)) else (some (true, q7.2)))))))
def f_O_isByParts_54 (k : (Nat → Nat → Int32) → Int32 → Int32 → Int32 → Option (Bool × (Nat → Nat → Int32))) (S : (Nat → Nat → Int32)) (v1 v2 v3 : Int32) : Option (Bool × (Nat → Nat → Int32)) := (f_T_sortOf S v1).bind (fun q1 => if q1 = (4 : Int32) then ((f_T_sortOf S v2).bind (fun q4 => if q4 = (4 : Int32) then ((f_T_firstOf S v1).bind (fun q7 => (f_T_firstOf S v2).bind (fun q9 => (k S q7 q9 v3).bind (fun q11 => some (q11.1, q11.2))))) else (f_O_isByParts_100 k  S v1 v2 v3))) else (f_O_isByParts_100 k  S v1 v2 v3))
def f_O_isByParts_23 (k : (Nat → Nat → Int32) → Int32 → Int32 → Int32 → Option (Bool × (Nat → Nat → Int32))) (S : (Nat → Nat → Int32)) (v1 v2 v3 : Int32) : Option (Bool × (Nat → Nat → Int32)) := (f_T_lowOf S v2).bind (fun q1 => if q1 = (-1 : Int32) then (f_O_isByParts_54 k  S v1 v2 v3) else ((f_T_lowOf S v2).bind (fun q4 => (k S v1 q4 v3).bind (fun q6 => if (qB q6.1) = 0 then (f_O_isByParts_54 k  q6.2 v1 v2 v3) else (some (true, q6.2))))))
def f_O_isByParts (k : (Nat → Nat → Int32) → Int32 → Int32 → Int32 → Option (Bool × (Nat → Nat → Int32))) (S : (Nat → Nat → Int32)) (a1 a2 a3 : Int32) : Option (Bool × (Nat → Nat → Int32)) := (f_T_isVariable S a1).bind (fun q1 => if (qB q1) = 0 then (f_O_isByParts_23 k  S a1 a2 a3) else ((f_O_someBoundIs k S a1 a2 a3).bind (fun q4 => if (qB q4.1) = 0 then (f_O_isByParts_23 k  q4.2 a1 a2 a3) else (some (true, q4.2)))))
set_option maxRecDepth 100000 in
set_option maxHeartbeats 4000000 in
theorem t_O_isByParts_100 {p : Program} {l : Launch} {e : Env} {R : Room} {s : State} {m : MethodId} {args : Array Value} {below : List Frame} {meth : Method} {c : Code} {Q : State → Prop} {D : va_G} {ad : Nat → Nat} {cI : ClassId} {A : Nat → Prop} {k : (Nat → Nat → Int32) → Int32 → Int32 → Int32 → Option (Bool × (Nat → Nat → Int32))} {nn : Nat} (F : CallFix p m c qb_O_isByParts 4 s args qtb "CaptureSubtypes$Order") (hR : 4 * nn + 71 ≤ R.frames ∧ 96 * nn + 1923 ≤ R.locals) (hK : va_K D qcl [(cI, .int)] s) (hN : qnests xns s) (hA : ∀ q, s.heap.size ≤ q → A q) (hk : ∀ {S : (Nat → Nat → Int32)} {a1 a2 a3 : Int32} {res : Bool × (Nat → Nat → Int32)}, k S a1 a2 a3 = some res → xMi l qy_O_isOne qb_O_isOne 6 (some .boolean) { frames := 4 * nn + 68, cells := 0, slots := 0, locals := 96 * nn + 1850 } D ad cI S [.ref (ad 4), .int a1, .int a2, .int a3] (qB res.1) res.2) {res : (Bool × (Nat → Nat → Int32))} (hQ : ∀ (H : Heap) (locs : List Loc) (pc : Nat) (ls : Array Slot), decode qb_O_isByParts pc = .ok (.ireturn, 1) → xW D ad cI A s.heap res.2 H locs → W p l e R s m args below meth c H locs 0 0 Q (F0 m pc ls [.int (qB res.1)])) (S : (Nat → Nat → Int32)) (v1 v2 v3 : Int32) (hM : f_O_isByParts_100 k S v1 v2 v3 = some res) {H : Heap} {locs : List Loc} {ls : Array Slot} (w : xW D ad cI A s.heap S H locs) (hl : lv_has ls 4 [(0, .ref (ad 4)), (1, .int v1), (2, .int v2), (3, .int v3)]) : W p l e R s m args below meth c H locs 0 0 Q (F0 m 100 ls []) := by
  unfold f_O_isByParts_100 at hM
  refine lv_aload_n F.1 F.2.1 qd_O_isByParts_100 rfl (lv_at hl 0 rfl) ?_
  refine xg_O_types F hK w qk_139 qd_O_isByParts_101 ?_
  refine lv_iload_n F.1 F.2.1 qd_O_isByParts_104 rfl (lv_at hl 1 rfl) ?_
  obtain ⟨q1, hq2, hM⟩ := qbd hM
  refine x_calli F hK hN hA w (c_T_isOfClass l D ad cI hq2) qk_500 qk_266 qk_267 qk_3 qk_268 qv_T_isOfClass rfl rfl ⟨Nat.le_trans (by show 1 + 1 ≤ 4 * nn + 71; omega) hR.1, Nat.le_trans (by show 8 + (3 + 11) + 21 ≤ 96 * nn + 1923; omega) hR.2⟩ (ci := 1) rfl (j := 2) rfl hl.1 rfl (Nat.le_of_ble_eq_true rfl) qd_O_isByParts_105 (fun H locs w => ?_)
  refine lv_if_eq (tgt := 136) F.1 F.2.1 qd_O_isByParts_108 (by decide) (fun hc3 => ?_) (fun hc3 => ?_)
  · rw [if_pos hc3] at hM
    refine lv_iconst (v := 0) F.1 F.2.1 qd_O_isByParts_136 (by decide) ?_
    cases hM
    exact hQ _ _ _ _ qd_O_isByParts_137 w
  · rw [if_neg hc3] at hM
    refine lv_aload_n F.1 F.2.1 qd_O_isByParts_111 rfl (lv_at hl 0 rfl) ?_
    refine xg_O_types F hK w qk_139 qd_O_isByParts_112 ?_
    refine lv_iload_n F.1 F.2.1 qd_O_isByParts_115 rfl (lv_at hl 2 rfl) ?_
    obtain ⟨q4, hq5, hM⟩ := qbd hM
    refine x_calli F hK hN hA w (c_T_isOfClass l D ad cI hq5) qk_500 qk_266 qk_267 qk_3 qk_268 qv_T_isOfClass rfl rfl ⟨Nat.le_trans (by show 1 + 1 ≤ 4 * nn + 71; omega) hR.1, Nat.le_trans (by show 8 + (3 + 11) + 21 ≤ 96 * nn + 1923; omega) hR.2⟩ (ci := 1) rfl (j := 2) rfl hl.1 rfl (Nat.le_of_ble_eq_true rfl) qd_O_isByParts_116 (fun H locs w => ?_)
    refine lv_if_eq (tgt := 136) F.1 F.2.1 qd_O_isByParts_119 (by decide) (fun hc6 => ?_) (fun hc6 => ?_)
    · rw [if_pos hc6] at hM
      refine lv_iconst (v := 0) F.1 F.2.1 qd_O_isByParts_136 (by decide) ?_
      cases hM
      exact hQ _ _ _ _ qd_O_isByParts_137 w
    · rw [if_neg hc6] at hM
      refine lv_aload_n F.1 F.2.1 qd_O_isByParts_122 rfl (lv_at hl 0 rfl) ?_
      refine lv_iload_n F.1 F.2.1 qd_O_isByParts_123 rfl (lv_at hl 1 rfl) ?_
      refine lv_iload_n F.1 F.2.1 qd_O_isByParts_124 rfl (lv_at hl 2 rfl) ?_
      refine lv_iload_n F.1 F.2.1 qd_O_isByParts_125 rfl (lv_at hl 3 rfl) ?_
      obtain ⟨q7, hq8, hM⟩ := qbd hM
      refine x_calli F hK hN hA w (c_O_isByClass l D ad cI hk hq8) qk_501 qk_503 qs_O_isByClass qk_6 qk_504 qv_O_isByClass rfl rfl ⟨Nat.le_trans (by show 4 * nn + 70 + 1 ≤ 4 * nn + 71; omega) hR.1, Nat.le_trans (by show 8 + (6 + 11) + (96 * nn + 1898) ≤ 96 * nn + 1923; omega) hR.2⟩ (ci := 3) rfl (j := 4) rfl hl.1 rfl (Nat.le_of_ble_eq_true rfl) qd_O_isByParts_126 (fun H locs w => ?_)
      refine lv_if_eq (tgt := 136) F.1 F.2.1 qd_O_isByParts_129 (by decide) (fun hc9 => ?_) (fun hc9 => ?_)
      · rw [if_pos hc9] at hM
        refine lv_iconst (v := 0) F.1 F.2.1 qd_O_isByParts_136 (by decide) ?_
        cases hM
        exact hQ _ _ _ _ qd_O_isByParts_137 w
      · rw [if_neg hc9] at hM
        refine lv_iconst (v := 1) F.1 F.2.1 qd_O_isByParts_132 (by decide) ?_
        refine lv_goto (tgt := 137) F.1 F.2.1 qd_O_isByParts_133 (by decide) ?_
        cases hM
        exact hQ _ _ _ _ qd_O_isByParts_137 w
set_option maxRecDepth 100000 in
set_option maxHeartbeats 4000000 in
theorem t_O_isByParts_54 {p : Program} {l : Launch} {e : Env} {R : Room} {s : State} {m : MethodId} {args : Array Value} {below : List Frame} {meth : Method} {c : Code} {Q : State → Prop} {D : va_G} {ad : Nat → Nat} {cI : ClassId} {A : Nat → Prop} {k : (Nat → Nat → Int32) → Int32 → Int32 → Int32 → Option (Bool × (Nat → Nat → Int32))} {nn : Nat} (F : CallFix p m c qb_O_isByParts 4 s args qtb "CaptureSubtypes$Order") (hR : 4 * nn + 71 ≤ R.frames ∧ 96 * nn + 1923 ≤ R.locals) (hK : va_K D qcl [(cI, .int)] s) (hN : qnests xns s) (hA : ∀ q, s.heap.size ≤ q → A q) (hk : ∀ {S : (Nat → Nat → Int32)} {a1 a2 a3 : Int32} {res : Bool × (Nat → Nat → Int32)}, k S a1 a2 a3 = some res → xMi l qy_O_isOne qb_O_isOne 6 (some .boolean) { frames := 4 * nn + 68, cells := 0, slots := 0, locals := 96 * nn + 1850 } D ad cI S [.ref (ad 4), .int a1, .int a2, .int a3] (qB res.1) res.2) {res : (Bool × (Nat → Nat → Int32))} (hQ : ∀ (H : Heap) (locs : List Loc) (pc : Nat) (ls : Array Slot), decode qb_O_isByParts pc = .ok (.ireturn, 1) → xW D ad cI A s.heap res.2 H locs → W p l e R s m args below meth c H locs 0 0 Q (F0 m pc ls [.int (qB res.1)])) (S : (Nat → Nat → Int32)) (v1 v2 v3 : Int32) (hM : f_O_isByParts_54 k S v1 v2 v3 = some res) {H : Heap} {locs : List Loc} {ls : Array Slot} (w : xW D ad cI A s.heap S H locs) (hl : lv_has ls 4 [(0, .ref (ad 4)), (1, .int v1), (2, .int v2), (3, .int v3)]) : W p l e R s m args below meth c H locs 0 0 Q (F0 m 54 ls []) := by
  unfold f_O_isByParts_54 at hM
  refine lv_aload_n F.1 F.2.1 qd_O_isByParts_54 rfl (lv_at hl 0 rfl) ?_
  refine xg_O_types F hK w qk_139 qd_O_isByParts_55 ?_
  refine lv_iload_n F.1 F.2.1 qd_O_isByParts_58 rfl (lv_at hl 1 rfl) ?_
  obtain ⟨q1, hq2, hM⟩ := qbd hM
  refine x_calli F hK hN hA w (c_T_sortOf l D ad cI hq2) qk_498 qk_270 qk_271 qk_3 qk_272 qv_T_sortOf rfl rfl ⟨Nat.le_trans (by show 0 + 1 ≤ 4 * nn + 71; omega) hR.1, Nat.le_trans (by show 8 + (2 + 11) + 0 ≤ 96 * nn + 1923; omega) hR.2⟩ (ci := 1) rfl (j := 2) rfl hl.1 rfl (Nat.le_of_ble_eq_true rfl) qd_O_isByParts_59 (fun H locs w => ?_)
  refine lv_iconst (v := 4) F.1 F.2.1 qd_O_isByParts_62 (by decide) ?_
  refine lv_icmp_ne (tgt := 100) F.1 F.2.1 qd_O_isByParts_63 (by decide) (fun hc3 => ?_) (fun hc3 => ?_)
  · rw [if_neg hc3] at hM
    exact t_O_isByParts_100 F hR hK hN hA hk hQ  _ _ _ _ hM w (lv_sub hl [0, 1, 2, 3] rfl)
  · rw [if_pos hc3] at hM
    refine lv_aload_n F.1 F.2.1 qd_O_isByParts_66 rfl (lv_at hl 0 rfl) ?_
    refine xg_O_types F hK w qk_139 qd_O_isByParts_67 ?_
    refine lv_iload_n F.1 F.2.1 qd_O_isByParts_70 rfl (lv_at hl 2 rfl) ?_
    obtain ⟨q4, hq5, hM⟩ := qbd hM
    refine x_calli F hK hN hA w (c_T_sortOf l D ad cI hq5) qk_498 qk_270 qk_271 qk_3 qk_272 qv_T_sortOf rfl rfl ⟨Nat.le_trans (by show 0 + 1 ≤ 4 * nn + 71; omega) hR.1, Nat.le_trans (by show 8 + (2 + 11) + 0 ≤ 96 * nn + 1923; omega) hR.2⟩ (ci := 1) rfl (j := 2) rfl hl.1 rfl (Nat.le_of_ble_eq_true rfl) qd_O_isByParts_71 (fun H locs w => ?_)
    refine lv_iconst (v := 4) F.1 F.2.1 qd_O_isByParts_74 (by decide) ?_
    refine lv_icmp_ne (tgt := 100) F.1 F.2.1 qd_O_isByParts_75 (by decide) (fun hc6 => ?_) (fun hc6 => ?_)
    · rw [if_neg hc6] at hM
      exact t_O_isByParts_100 F hR hK hN hA hk hQ  _ _ _ _ hM w (lv_sub hl [0, 1, 2, 3] rfl)
    · rw [if_pos hc6] at hM
      refine lv_aload_n F.1 F.2.1 qd_O_isByParts_78 rfl (lv_at hl 0 rfl) ?_
      refine lv_aload_n F.1 F.2.1 qd_O_isByParts_79 rfl (lv_at hl 0 rfl) ?_
      refine xg_O_types F hK w qk_139 qd_O_isByParts_80 ?_
      refine lv_iload_n F.1 F.2.1 qd_O_isByParts_83 rfl (lv_at hl 1 rfl) ?_
      obtain ⟨q7, hq8, hM⟩ := qbd hM
      refine x_calli F hK hN hA w (c_T_firstOf l D ad cI hq8) qk_499 qk_342 qk_343 qk_3 qk_344 qv_T_firstOf rfl rfl ⟨Nat.le_trans (by show 0 + 1 ≤ 4 * nn + 71; omega) hR.1, Nat.le_trans (by show 8 + (2 + 11) + 0 ≤ 96 * nn + 1923; omega) hR.2⟩ (ci := 1) rfl (j := 2) rfl hl.1 rfl (Nat.le_of_ble_eq_true rfl) qd_O_isByParts_84 (fun H locs w => ?_)
      refine lv_aload_n F.1 F.2.1 qd_O_isByParts_87 rfl (lv_at hl 0 rfl) ?_
      refine xg_O_types F hK w qk_139 qd_O_isByParts_88 ?_
      refine lv_iload_n F.1 F.2.1 qd_O_isByParts_91 rfl (lv_at hl 2 rfl) ?_
      obtain ⟨q9, hq10, hM⟩ := qbd hM
      refine x_calli F hK hN hA w (c_T_firstOf l D ad cI hq10) qk_499 qk_342 qk_343 qk_3 qk_344 qv_T_firstOf rfl rfl ⟨Nat.le_trans (by show 0 + 1 ≤ 4 * nn + 71; omega) hR.1, Nat.le_trans (by show 8 + (2 + 11) + 0 ≤ 96 * nn + 1923; omega) hR.2⟩ (ci := 1) rfl (j := 2) rfl hl.1 rfl (Nat.le_of_ble_eq_true rfl) qd_O_isByParts_92 (fun H locs w => ?_)
      refine lv_iload_n F.1 F.2.1 qd_O_isByParts_95 rfl (lv_at hl 3 rfl) ?_
      obtain ⟨q11, hq12, hM⟩ := qbd hM
      refine x_calli F hK hN hA w (hk hq12) qk_493 qk_460 qs_O_isOne qk_6 qk_461 qv_O_isOne rfl rfl ⟨Nat.le_trans (by show 4 * nn + 68 + 1 ≤ 4 * nn + 71; omega) hR.1, Nat.le_trans (by show 8 + (6 + 11) + (96 * nn + 1850) ≤ 96 * nn + 1923; omega) hR.2⟩ (ci := 3) rfl (j := 4) rfl hl.1 rfl (Nat.le_of_ble_eq_true rfl) qd_O_isByParts_96 (fun H locs w => ?_)
      cases hM
      exact hQ _ _ _ _ qd_O_isByParts_99 w
set_option maxRecDepth 100000 in
set_option maxHeartbeats 4000000 in
theorem t_O_isByParts_23 {p : Program} {l : Launch} {e : Env} {R : Room} {s : State} {m : MethodId} {args : Array Value} {below : List Frame} {meth : Method} {c : Code} {Q : State → Prop} {D : va_G} {ad : Nat → Nat} {cI : ClassId} {A : Nat → Prop} {k : (Nat → Nat → Int32) → Int32 → Int32 → Int32 → Option (Bool × (Nat → Nat → Int32))} {nn : Nat} (F : CallFix p m c qb_O_isByParts 4 s args qtb "CaptureSubtypes$Order") (hR : 4 * nn + 71 ≤ R.frames ∧ 96 * nn + 1923 ≤ R.locals) (hK : va_K D qcl [(cI, .int)] s) (hN : qnests xns s) (hA : ∀ q, s.heap.size ≤ q → A q) (hk : ∀ {S : (Nat → Nat → Int32)} {a1 a2 a3 : Int32} {res : Bool × (Nat → Nat → Int32)}, k S a1 a2 a3 = some res → xMi l qy_O_isOne qb_O_isOne 6 (some .boolean) { frames := 4 * nn + 68, cells := 0, slots := 0, locals := 96 * nn + 1850 } D ad cI S [.ref (ad 4), .int a1, .int a2, .int a3] (qB res.1) res.2) {res : (Bool × (Nat → Nat → Int32))} (hQ : ∀ (H : Heap) (locs : List Loc) (pc : Nat) (ls : Array Slot), decode qb_O_isByParts pc = .ok (.ireturn, 1) → xW D ad cI A s.heap res.2 H locs → W p l e R s m args below meth c H locs 0 0 Q (F0 m pc ls [.int (qB res.1)])) (S : (Nat → Nat → Int32)) (v1 v2 v3 : Int32) (hM : f_O_isByParts_23 k S v1 v2 v3 = some res) {H : Heap} {locs : List Loc} {ls : Array Slot} (w : xW D ad cI A s.heap S H locs) (hl : lv_has ls 4 [(0, .ref (ad 4)), (1, .int v1), (2, .int v2), (3, .int v3)]) : W p l e R s m args below meth c H locs 0 0 Q (F0 m 23 ls []) := by
  unfold f_O_isByParts_23 at hM
  refine lv_aload_n F.1 F.2.1 qd_O_isByParts_23 rfl (lv_at hl 0 rfl) ?_
  refine xg_O_types F hK w qk_139 qd_O_isByParts_24 ?_
  refine lv_iload_n F.1 F.2.1 qd_O_isByParts_27 rfl (lv_at hl 2 rfl) ?_
  obtain ⟨q1, hq2, hM⟩ := qbd hM
  refine x_calli F hK hN hA w (c_T_lowOf l D ad cI hq2) qk_494 qk_495 qk_496 qk_3 qk_497 qv_T_lowOf rfl rfl ⟨Nat.le_trans (by show 0 + 1 ≤ 4 * nn + 71; omega) hR.1, Nat.le_trans (by show 8 + (2 + 11) + 0 ≤ 96 * nn + 1923; omega) hR.2⟩ (ci := 1) rfl (j := 2) rfl hl.1 rfl (Nat.le_of_ble_eq_true rfl) qd_O_isByParts_28 (fun H locs w => ?_)
  refine lv_iconst (v := (-1)) F.1 F.2.1 qd_O_isByParts_31 (by decide) ?_
  refine lv_icmp_eq (tgt := 54) F.1 F.2.1 qd_O_isByParts_32 (by decide) (fun hc3 => ?_) (fun hc3 => ?_)
  · rw [if_pos hc3] at hM
    exact t_O_isByParts_54 F hR hK hN hA hk hQ  _ _ _ _ hM w (lv_sub hl [0, 1, 2, 3] rfl)
  · rw [if_neg hc3] at hM
    refine lv_aload_n F.1 F.2.1 qd_O_isByParts_35 rfl (lv_at hl 0 rfl) ?_
    refine lv_iload_n F.1 F.2.1 qd_O_isByParts_36 rfl (lv_at hl 1 rfl) ?_
    refine lv_aload_n F.1 F.2.1 qd_O_isByParts_37 rfl (lv_at hl 0 rfl) ?_
    refine xg_O_types F hK w qk_139 qd_O_isByParts_38 ?_
    refine lv_iload_n F.1 F.2.1 qd_O_isByParts_41 rfl (lv_at hl 2 rfl) ?_
    obtain ⟨q4, hq5, hM⟩ := qbd hM
    refine x_calli F hK hN hA w (c_T_lowOf l D ad cI hq5) qk_494 qk_495 qk_496 qk_3 qk_497 qv_T_lowOf rfl rfl ⟨Nat.le_trans (by show 0 + 1 ≤ 4 * nn + 71; omega) hR.1, Nat.le_trans (by show 8 + (2 + 11) + 0 ≤ 96 * nn + 1923; omega) hR.2⟩ (ci := 1) rfl (j := 2) rfl hl.1 rfl (Nat.le_of_ble_eq_true rfl) qd_O_isByParts_42 (fun H locs w => ?_)
    refine lv_iload_n F.1 F.2.1 qd_O_isByParts_45 rfl (lv_at hl 3 rfl) ?_
    obtain ⟨q6, hq7, hM⟩ := qbd hM
    refine x_calli F hK hN hA w (hk hq7) qk_493 qk_460 qs_O_isOne qk_6 qk_461 qv_O_isOne rfl rfl ⟨Nat.le_trans (by show 4 * nn + 68 + 1 ≤ 4 * nn + 71; omega) hR.1, Nat.le_trans (by show 8 + (6 + 11) + (96 * nn + 1850) ≤ 96 * nn + 1923; omega) hR.2⟩ (ci := 3) rfl (j := 4) rfl hl.1 rfl (Nat.le_of_ble_eq_true rfl) qd_O_isByParts_46 (fun H locs w => ?_)
    refine lv_if_eq (tgt := 54) F.1 F.2.1 qd_O_isByParts_49 (by decide) (fun hc8 => ?_) (fun hc8 => ?_)
    · rw [if_pos hc8] at hM
      exact t_O_isByParts_54 F hR hK hN hA hk hQ  _ _ _ _ hM w (lv_sub hl [0, 1, 2, 3] rfl)
    · rw [if_neg hc8] at hM
      refine lv_iconst (v := 1) F.1 F.2.1 qd_O_isByParts_52 (by decide) ?_
      cases hM
      exact hQ _ _ _ _ qd_O_isByParts_53 w
set_option maxRecDepth 100000 in
set_option maxHeartbeats 4000000 in
theorem t_O_isByParts {p : Program} {l : Launch} {e : Env} {R : Room} {s : State} {m : MethodId} {args : Array Value} {below : List Frame} {meth : Method} {c : Code} {Q : State → Prop} {D : va_G} {ad : Nat → Nat} {cI : ClassId} {A : Nat → Prop} {k : (Nat → Nat → Int32) → Int32 → Int32 → Int32 → Option (Bool × (Nat → Nat → Int32))} {nn : Nat} (F : CallFix p m c qb_O_isByParts 4 s args qtb "CaptureSubtypes$Order") (hR : 4 * nn + 71 ≤ R.frames ∧ 96 * nn + 1923 ≤ R.locals) (hK : va_K D qcl [(cI, .int)] s) (hN : qnests xns s) (hA : ∀ q, s.heap.size ≤ q → A q) (hk : ∀ {S : (Nat → Nat → Int32)} {a1 a2 a3 : Int32} {res : Bool × (Nat → Nat → Int32)}, k S a1 a2 a3 = some res → xMi l qy_O_isOne qb_O_isOne 6 (some .boolean) { frames := 4 * nn + 68, cells := 0, slots := 0, locals := 96 * nn + 1850 } D ad cI S [.ref (ad 4), .int a1, .int a2, .int a3] (qB res.1) res.2) {res : (Bool × (Nat → Nat → Int32))} (hQ : ∀ (H : Heap) (locs : List Loc) (pc : Nat) (ls : Array Slot), decode qb_O_isByParts pc = .ok (.ireturn, 1) → xW D ad cI A s.heap res.2 H locs → W p l e R s m args below meth c H locs 0 0 Q (F0 m pc ls [.int (qB res.1)])) (S : (Nat → Nat → Int32)) (a1 a2 a3 : Int32) (hM : f_O_isByParts k S a1 a2 a3 = some res) {H : Heap} {locs : List Loc} {ls : Array Slot} (w : xW D ad cI A s.heap S H locs) (hl : lv_has ls 4 [(0, .ref (ad 4)), (1, .int a1), (2, .int a2), (3, .int a3)]) : W p l e R s m args below meth c H locs 0 0 Q (F0 m 0 ls []) := by
  unfold f_O_isByParts at hM
  refine lv_aload_n F.1 F.2.1 qd_O_isByParts_0 rfl (lv_at hl 0 rfl) ?_
  refine xg_O_types F hK w qk_139 qd_O_isByParts_1 ?_
  refine lv_iload_n F.1 F.2.1 qd_O_isByParts_4 rfl (lv_at hl 1 rfl) ?_
  obtain ⟨q1, hq2, hM⟩ := qbd hM
  refine x_calli F hK hN hA w (c_T_isVariable l D ad cI hq2) qk_467 qk_468 qk_469 qk_3 qk_470 qv_T_isVariable rfl rfl ⟨Nat.le_trans (by show 1 + 1 ≤ 4 * nn + 71; omega) hR.1, Nat.le_trans (by show 8 + (3 + 11) + 21 ≤ 96 * nn + 1923; omega) hR.2⟩ (ci := 1) rfl (j := 2) rfl hl.1 rfl (Nat.le_of_ble_eq_true rfl) qd_O_isByParts_5 (fun H locs w => ?_)
  refine lv_if_eq (tgt := 23) F.1 F.2.1 qd_O_isByParts_8 (by decide) (fun hc3 => ?_) (fun hc3 => ?_)
  · rw [if_pos hc3] at hM
    exact t_O_isByParts_23 F hR hK hN hA hk hQ  _ _ _ _ hM w (lv_sub hl [0, 1, 2, 3] rfl)
  · rw [if_neg hc3] at hM
    refine lv_aload_n F.1 F.2.1 qd_O_isByParts_11 rfl (lv_at hl 0 rfl) ?_
    refine lv_iload_n F.1 F.2.1 qd_O_isByParts_12 rfl (lv_at hl 1 rfl) ?_
    refine lv_iload_n F.1 F.2.1 qd_O_isByParts_13 rfl (lv_at hl 2 rfl) ?_
    refine lv_iload_n F.1 F.2.1 qd_O_isByParts_14 rfl (lv_at hl 3 rfl) ?_
    obtain ⟨q4, hq5, hM⟩ := qbd hM
    refine x_calli F hK hN hA w (c_O_someBoundIs l D ad cI hk hq5) qk_471 qk_473 qs_O_someBoundIs qk_6 qk_474 qv_O_someBoundIs rfl rfl ⟨Nat.le_trans (by show 4 * nn + 69 + 1 ≤ 4 * nn + 71; omega) hR.1, Nat.le_trans (by show 8 + (6 + 11) + (96 * nn + 1875) ≤ 96 * nn + 1923; omega) hR.2⟩ (ci := 3) rfl (j := 4) rfl hl.1 rfl (Nat.le_of_ble_eq_true rfl) qd_O_isByParts_15 (fun H locs w => ?_)
    refine lv_if_eq (tgt := 23) F.1 F.2.1 qd_O_isByParts_18 (by decide) (fun hc6 => ?_) (fun hc6 => ?_)
    · rw [if_pos hc6] at hM
      exact t_O_isByParts_23 F hR hK hN hA hk hQ  _ _ _ _ hM w (lv_sub hl [0, 1, 2, 3] rfl)
    · rw [if_neg hc6] at hM
      refine lv_iconst (v := 1) F.1 F.2.1 qd_O_isByParts_21 (by decide) ?_
      cases hM
      exact hQ _ _ _ _ qd_O_isByParts_22 w
set_option maxRecDepth 100000 in
theorem c_O_isByParts (l : Launch) (D : va_G) (ad : Nat → Nat) (cI : ClassId) {k : (Nat → Nat → Int32) → Int32 → Int32 → Int32 → Option (Bool × (Nat → Nat → Int32))} {nn : Nat} (hk : ∀ {S : (Nat → Nat → Int32)} {a1 a2 a3 : Int32} {res : Bool × (Nat → Nat → Int32)}, k S a1 a2 a3 = some res → xMi l qy_O_isOne qb_O_isOne 6 (some .boolean) { frames := 4 * nn + 68, cells := 0, slots := 0, locals := 96 * nn + 1850 } D ad cI S [.ref (ad 4), .int a1, .int a2, .int a3] (qB res.1) res.2) {S : (Nat → Nat → Int32)} {a1 a2 a3 : Int32} {res : (Bool × (Nat → Nat → Int32))} (hM : f_O_isByParts k S a1 a2 a3 = some res) : xMi l qy_O_isByParts qb_O_isByParts 4 (some .boolean) { frames := 4 * nn + 71, cells := 0, slots := 0, locals := 96 * nn + 1923 } D ad cI S [.ref (ad 4), .int a1, .int a2, .int a3] (qB res.1) res.2 := x_ofz (by decide +kernel) (Nat.le_of_ble_eq_true rfl) (fun p e s m args below meth c Q A ls F hK hN hA w hl hQ => t_O_isByParts F ⟨Nat.le_refl _, Nat.le_refl _⟩ hK hN hA hk hQ S a1 a2 a3 hM w hl)
-- O_isOne
def fb_O_isOne (k : (Nat → Nat → Int32) → Int32 → Int32 → Int32 → Option (Bool × (Nat → Nat → Int32))) (S : (Nat → Nat → Int32)) (a1 a2 a3 : Int32) : Option (Bool × (Nat → Nat → Int32)) := if a3 ≤ 0 then (some (false, S)) else (if a1 < 0 then (some (false, S)) else (if 0 ≤ a2 then (if a1 = a2 then (some (true, S)) else (if a1 = (1 : Int32) then (some (false, S)) else (if a2 = (1 : Int32) then (some (false, S)) else (if a1 = (2 : Int32) then (some (true, S)) else (if a2 = 0 then (some (true, S)) else ((f_T_mark S).bind (fun q9 => (f_O_isByParts k S a1 a2 (a3 - (1 : Int32))).bind (fun q11 => (f_T_dropTo q11.2 q9).bind (fun q13 => some (q11.1, q13)))))))))) else (some (false, S))))
def f_O_isOne : Nat → (Nat → Nat → Int32) → Int32 → Int32 → Int32 → Option (Bool × (Nat → Nat → Int32))
  | 0 => fun _ _ _ _ => none
  | n + 1 => fun S a1 a2 a3 => fb_O_isOne (f_O_isOne n) S a1 a2 a3
set_option maxRecDepth 100000 in
set_option maxHeartbeats 4000000 in
theorem t_O_isOne {p : Program} {l : Launch} {e : Env} {R : Room} {s : State} {m : MethodId} {args : Array Value} {below : List Frame} {meth : Method} {c : Code} {Q : State → Prop} {D : va_G} {ad : Nat → Nat} {cI : ClassId} {A : Nat → Prop} {k : (Nat → Nat → Int32) → Int32 → Int32 → Int32 → Option (Bool × (Nat → Nat → Int32))} {nn : Nat} (F : CallFix p m c qb_O_isOne 6 s args qtb "CaptureSubtypes$Order") (hR : 4 * nn + 72 ≤ R.frames ∧ 96 * nn + 1946 ≤ R.locals) (hK : va_K D qcl [(cI, .int)] s) (hN : qnests xns s) (hA : ∀ q, s.heap.size ≤ q → A q) (hk : ∀ {S : (Nat → Nat → Int32)} {a1 a2 a3 : Int32} {res : Bool × (Nat → Nat → Int32)}, k S a1 a2 a3 = some res → xMi l qy_O_isOne qb_O_isOne 6 (some .boolean) { frames := 4 * nn + 68, cells := 0, slots := 0, locals := 96 * nn + 1850 } D ad cI S [.ref (ad 4), .int a1, .int a2, .int a3] (qB res.1) res.2) {res : (Bool × (Nat → Nat → Int32))} (hQ : ∀ (H : Heap) (locs : List Loc) (pc : Nat) (ls : Array Slot), decode qb_O_isOne pc = .ok (.ireturn, 1) → xW D ad cI A s.heap res.2 H locs → W p l e R s m args below meth c H locs 0 0 Q (F0 m pc ls [.int (qB res.1)])) (S : (Nat → Nat → Int32)) (a1 a2 a3 : Int32) (hM : fb_O_isOne k S a1 a2 a3 = some res) {H : Heap} {locs : List Loc} {ls : Array Slot} (w : xW D ad cI A s.heap S H locs) (hl : lv_has ls 6 [(0, .ref (ad 4)), (1, .int a1), (2, .int a2), (3, .int a3)]) : W p l e R s m args below meth c H locs 0 0 Q (F0 m 0 ls []) := by
  unfold fb_O_isOne at hM
  refine lv_iload_n F.1 F.2.1 qd_O_isOne_0 rfl (lv_at hl 3 rfl) ?_
  refine lv_if_le (tgt := 12) F.1 F.2.1 qd_O_isOne_1 (by decide) (fun hc1 => ?_) (fun hc1 => ?_)
  · rw [if_pos hc1] at hM
    refine lv_iconst (v := 0) F.1 F.2.1 qd_O_isOne_12 (by decide) ?_
    cases hM
    exact hQ _ _ _ _ qd_O_isOne_13 w
  · rw [if_neg hc1] at hM
    refine lv_iload_n F.1 F.2.1 qd_O_isOne_4 rfl (lv_at hl 1 rfl) ?_
    refine lv_if_lt (tgt := 12) F.1 F.2.1 qd_O_isOne_5 (by decide) (fun hc2 => ?_) (fun hc2 => ?_)
    · rw [if_pos hc2] at hM
      refine lv_iconst (v := 0) F.1 F.2.1 qd_O_isOne_12 (by decide) ?_
      cases hM
      exact hQ _ _ _ _ qd_O_isOne_13 w
    · rw [if_neg hc2] at hM
      refine lv_iload_n F.1 F.2.1 qd_O_isOne_8 rfl (lv_at hl 2 rfl) ?_
      refine lv_if_ge (tgt := 14) F.1 F.2.1 qd_O_isOne_9 (by decide) (fun hc3 => ?_) (fun hc3 => ?_)
      · rw [if_pos hc3] at hM
        refine lv_iload_n F.1 F.2.1 qd_O_isOne_14 rfl (lv_at hl 1 rfl) ?_
        refine lv_iload_n F.1 F.2.1 qd_O_isOne_15 rfl (lv_at hl 2 rfl) ?_
        refine lv_icmp_ne (tgt := 21) F.1 F.2.1 qd_O_isOne_16 (by decide) (fun hc4 => ?_) (fun hc4 => ?_)
        · rw [if_neg hc4] at hM
          refine lv_iload_n F.1 F.2.1 qd_O_isOne_21 rfl (lv_at hl 1 rfl) ?_
          refine lv_iconst (v := 1) F.1 F.2.1 qd_O_isOne_22 (by decide) ?_
          refine lv_icmp_eq (tgt := 31) F.1 F.2.1 qd_O_isOne_23 (by decide) (fun hc5 => ?_) (fun hc5 => ?_)
          · rw [if_pos hc5] at hM
            refine lv_iconst (v := 0) F.1 F.2.1 qd_O_isOne_31 (by decide) ?_
            cases hM
            exact hQ _ _ _ _ qd_O_isOne_32 w
          · rw [if_neg hc5] at hM
            refine lv_iload_n F.1 F.2.1 qd_O_isOne_26 rfl (lv_at hl 2 rfl) ?_
            refine lv_iconst (v := 1) F.1 F.2.1 qd_O_isOne_27 (by decide) ?_
            refine lv_icmp_ne (tgt := 33) F.1 F.2.1 qd_O_isOne_28 (by decide) (fun hc6 => ?_) (fun hc6 => ?_)
            · rw [if_neg hc6] at hM
              refine lv_iload_n F.1 F.2.1 qd_O_isOne_33 rfl (lv_at hl 1 rfl) ?_
              refine lv_iconst (v := 2) F.1 F.2.1 qd_O_isOne_34 (by decide) ?_
              refine lv_icmp_eq (tgt := 42) F.1 F.2.1 qd_O_isOne_35 (by decide) (fun hc7 => ?_) (fun hc7 => ?_)
              · rw [if_pos hc7] at hM
                refine lv_iconst (v := 1) F.1 F.2.1 qd_O_isOne_42 (by decide) ?_
                cases hM
                exact hQ _ _ _ _ qd_O_isOne_43 w
              · rw [if_neg hc7] at hM
                refine lv_iload_n F.1 F.2.1 qd_O_isOne_38 rfl (lv_at hl 2 rfl) ?_
                refine lv_if_ne (tgt := 44) F.1 F.2.1 qd_O_isOne_39 (by decide) (fun hc8 => ?_) (fun hc8 => ?_)
                · rw [if_neg hc8] at hM
                  refine lv_aload_n F.1 F.2.1 qd_O_isOne_44 rfl (lv_at hl 0 rfl) ?_
                  refine xg_O_types F hK w qk_139 qd_O_isOne_45 ?_
                  obtain ⟨q9, hq10, hM⟩ := qbd hM
                  refine x_calli F hK hN hA w (c_T_mark l D ad cI hq10) qk_462 qk_306 qk_307 qk_3 qk_308 qv_T_mark rfl rfl ⟨Nat.le_trans (by show 0 + 1 ≤ 4 * nn + 72; omega) hR.1, Nat.le_trans (by show 8 + (1 + 11) + 0 ≤ 96 * nn + 1946; omega) hR.2⟩ (ci := 1) rfl (j := 2) rfl hl.1 rfl (Nat.le_of_ble_eq_true rfl) qd_O_isOne_48 (fun H locs w => ?_)
                  refine lv_istore (lv' := [(4, .int q9), (0, .ref (ad 4)), (1, .int a1), (2, .int a2), (3, .int a3)]) F.1 F.2.1 qd_O_isOne_51 hl (by decide) rfl (fun ls hl => ?_)
                  refine lv_aload_n F.1 F.2.1 qd_O_isOne_53 rfl (lv_at hl 1 rfl) ?_
                  refine lv_iload_n F.1 F.2.1 qd_O_isOne_54 rfl (lv_at hl 2 rfl) ?_
                  refine lv_iload_n F.1 F.2.1 qd_O_isOne_55 rfl (lv_at hl 3 rfl) ?_
                  refine lv_iload_n F.1 F.2.1 qd_O_isOne_56 rfl (lv_at hl 4 rfl) ?_
                  refine lv_iconst (v := 1) F.1 F.2.1 qd_O_isOne_57 (by decide) ?_
                  refine lv_isub F.1 F.2.1 qd_O_isOne_58 ?_
                  obtain ⟨q11, hq12, hM⟩ := qbd hM
                  refine x_calli F hK hN hA w (c_O_isByParts l D ad cI hk hq12) qk_463 qk_465 qs_O_isByParts qk_6 qk_466 qv_O_isByParts rfl rfl ⟨Nat.le_trans (by show 4 * nn + 71 + 1 ≤ 4 * nn + 72; omega) hR.1, Nat.le_trans (by show 8 + (4 + 11) + (96 * nn + 1923) ≤ 96 * nn + 1946; omega) hR.2⟩ (ci := 3) rfl (j := 4) rfl hl.1 rfl (Nat.le_of_ble_eq_true rfl) qd_O_isOne_59 (fun H locs w => ?_)
                  refine lv_istore (lv' := [(5, .int (qB q11.1)), (4, .int q9), (0, .ref (ad 4)), (1, .int a1), (2, .int a2), (3, .int a3)]) F.1 F.2.1 qd_O_isOne_62 hl (by decide) rfl (fun ls hl => ?_)
                  refine lv_aload_n F.1 F.2.1 qd_O_isOne_64 rfl (lv_at hl 2 rfl) ?_
                  refine xg_O_types F hK w qk_139 qd_O_isOne_65 ?_
                  refine lv_iload F.1 F.2.1 qd_O_isOne_68 (lv_at hl 1 rfl) ?_
                  obtain ⟨q13, hq14, hM⟩ := qbd hM
                  refine x_callv F hK hN hA w (c_T_dropTo l D ad cI hq14) qk_532 qk_354 qk_355 qk_3 qk_356 qv_T_dropTo rfl rfl ⟨Nat.le_trans (by show 0 + 1 ≤ 4 * nn + 72; omega) hR.1, Nat.le_trans (by show 8 + (2 + 11) + 0 ≤ 96 * nn + 1946; omega) hR.2⟩ (ci := 1) rfl (j := 2) rfl hl.1 rfl (Nat.le_of_ble_eq_true rfl) qd_O_isOne_70 (fun H locs w => ?_)
                  refine lv_iload F.1 F.2.1 qd_O_isOne_73 (lv_at hl 0 rfl) ?_
                  cases hM
                  exact hQ _ _ _ _ qd_O_isOne_75 w
                · rw [if_pos hc8] at hM
                  refine lv_iconst (v := 1) F.1 F.2.1 qd_O_isOne_42 (by decide) ?_
                  cases hM
                  exact hQ _ _ _ _ qd_O_isOne_43 w
            · rw [if_pos hc6] at hM
              refine lv_iconst (v := 0) F.1 F.2.1 qd_O_isOne_31 (by decide) ?_
              cases hM
              exact hQ _ _ _ _ qd_O_isOne_32 w
        · rw [if_pos hc4] at hM
          refine lv_iconst (v := 1) F.1 F.2.1 qd_O_isOne_19 (by decide) ?_
          cases hM
          exact hQ _ _ _ _ qd_O_isOne_20 w
      · rw [if_neg hc3] at hM
        refine lv_iconst (v := 0) F.1 F.2.1 qd_O_isOne_12 (by decide) ?_
        cases hM
        exact hQ _ _ _ _ qd_O_isOne_13 w
set_option maxRecDepth 100000 in
theorem c_O_isOne (l : Launch) (D : va_G) (ad : Nat → Nat) (cI : ClassId) : ∀ (n : Nat) {S : (Nat → Nat → Int32)} {a1 a2 a3 : Int32} {res : (Bool × (Nat → Nat → Int32))} (hM : f_O_isOne n S a1 a2 a3 = some res), xMi l qy_O_isOne qb_O_isOne 6 (some .boolean) { frames := 4 * n + 68, cells := 0, slots := 0, locals := 96 * n + 1850 } D ad cI S [.ref (ad 4), .int a1, .int a2, .int a3] (qB res.1) res.2 := by
  intro n
  induction n with
  | zero => intro S a1 a2 a3 res hM; exact absurd hM (by simp [f_O_isOne])
  | succ nn ih => intro S a1 a2 a3 res hM; exact x_ofz (by decide +kernel) (Nat.le_of_ble_eq_true rfl) (fun p e s m args below meth c Q A ls F hK hN hA w hl hQ => t_O_isOne F ⟨(show 4 * nn + 72 ≤ 4 * (nn + 1) + 68 by omega), (show 96 * nn + 1946 ≤ 96 * (nn + 1) + 1850 by omega)⟩ hK hN hA ih hQ S a1 a2 a3 hM w hl)
-- O_someBoundIsUnchecked
def fb_O_someBoundIsUnchecked_13 (k : (Nat → Nat → Int32) → Int32 → Int32 → Int32 → Option (Bool × (Nat → Nat → Int32))) (k_13 : (Nat → Nat → Int32) → Int32 → Int32 → Int32 → Int32 → Int32 → Option (Bool × (Nat → Nat → Int32))) (S : (Nat → Nat → Int32)) (v1 v2 v3 v4 v5 : Int32) : Option (Bool × (Nat → Nat → Int32)) := if v4 ≤ v5 then (some (false, S)) else ((f_S_boundOf S v1 v5).bind (fun q2 => (k q2.2 q2.1 v2 v3).bind (fun q4 => if (qB q4.1) = 0 then (k_13 q4.2 v1 v2 v3 v4 (v5 + (1 : Int32))) else (some (true, q4.2)))))
def f_O_someBoundIsUnchecked_13 (k : (Nat → Nat → Int32) → Int32 → Int32 → Int32 → Option (Bool × (Nat → Nat → Int32))) : Nat → (Nat → Nat → Int32) → Int32 → Int32 → Int32 → Int32 → Int32 → Option (Bool × (Nat → Nat → Int32))
  | 0 => fun _ _ _ _ _ _ => none
  | n + 1 => fun S v1 v2 v3 v4 v5 => fb_O_someBoundIsUnchecked_13 k (f_O_someBoundIsUnchecked_13 k n) S v1 v2 v3 v4 v5
def f_O_someBoundIsUnchecked (k : (Nat → Nat → Int32) → Int32 → Int32 → Int32 → Option (Bool × (Nat → Nat → Int32))) (S : (Nat → Nat → Int32)) (a1 a2 a3 : Int32) : Option (Bool × (Nat → Nat → Int32)) := (f_S_boundCountOf S a1).bind (fun q1 => f_O_someBoundIsUnchecked_13 k  qfu S a1 a2 a3 q1 (0 : Int32))
set_option maxRecDepth 100000 in
set_option maxHeartbeats 4000000 in
theorem tb_O_someBoundIsUnchecked_13 {p : Program} {l : Launch} {e : Env} {R : Room} {s : State} {m : MethodId} {args : Array Value} {below : List Frame} {meth : Method} {c : Code} {Q : State → Prop} {D : va_G} {ad : Nat → Nat} {cI : ClassId} {A : Nat → Prop} {k : (Nat → Nat → Int32) → Int32 → Int32 → Int32 → Option (Bool × (Nat → Nat → Int32))} {nn : Nat} (F : CallFix p m c qb_O_someBoundIsUnchecked 6 s args qtb "CaptureSubtypes$Order") (hR : 2 * nn + 69 ≤ R.frames ∧ 49 * nn + 1874 ≤ R.locals) (hK : va_K D qcl [(cI, .int)] s) (hN : qnests xns s) (hA : ∀ q, s.heap.size ≤ q → A q) (hk : ∀ {S : (Nat → Nat → Int32)} {a1 a2 a3 : Int32} {res : Bool × (Nat → Nat → Int32)}, k S a1 a2 a3 = some res → xMi l qy_O_isUnchecked qb_O_isUnchecked 5 (some .boolean) { frames := 2 * nn + 68, cells := 0, slots := 0, locals := 49 * nn + 1850 } D ad cI S [.ref (ad 4), .int a1, .int a2, .int a3] (qB res.1) res.2) {res : (Bool × (Nat → Nat → Int32))} (hQ : ∀ (H : Heap) (locs : List Loc) (pc : Nat) (ls : Array Slot), decode qb_O_someBoundIsUnchecked pc = .ok (.ireturn, 1) → xW D ad cI A s.heap res.2 H locs → W p l e R s m args below meth c H locs 0 0 Q (F0 m pc ls [.int (qB res.1)])) {k_13 : (Nat → Nat → Int32) → Int32 → Int32 → Int32 → Int32 → Int32 → Option (Bool × (Nat → Nat → Int32))} (hk_13 : ∀ (S : Nat → Nat → Int32) (v1 v2 v3 v4 v5 : Int32), k_13 S v1 v2 v3 v4 v5 = some res → ∀ {H : Heap} {locs : List Loc} {ls : Array Slot}, xW D ad cI A s.heap S H locs → lv_has ls 6 [(0, .ref (ad 4)), (1, .int v1), (2, .int v2), (3, .int v3), (4, .int v4), (5, .int v5)] → W p l e R s m args below meth c H locs 0 0 Q (F0 m 13 ls [])) (S : (Nat → Nat → Int32)) (v1 v2 v3 v4 v5 : Int32) (hM : fb_O_someBoundIsUnchecked_13 k k_13 S v1 v2 v3 v4 v5 = some res) {H : Heap} {locs : List Loc} {ls : Array Slot} (w : xW D ad cI A s.heap S H locs) (hl : lv_has ls 6 [(0, .ref (ad 4)), (1, .int v1), (2, .int v2), (3, .int v3), (4, .int v4), (5, .int v5)]) : W p l e R s m args below meth c H locs 0 0 Q (F0 m 13 ls []) := by
  unfold fb_O_someBoundIsUnchecked_13 at hM
  refine lv_iload F.1 F.2.1 qd_O_someBoundIsUnchecked_13 (lv_at hl 5 rfl) ?_
  refine lv_iload F.1 F.2.1 qd_O_someBoundIsUnchecked_15 (lv_at hl 4 rfl) ?_
  refine lv_icmp_ge (tgt := 47) F.1 F.2.1 qd_O_someBoundIsUnchecked_17 (by decide) (fun hc1 => ?_) (fun hc1 => ?_)
  · rw [if_pos hc1] at hM
    refine lv_iconst (v := 0) F.1 F.2.1 qd_O_someBoundIsUnchecked_47 (by decide) ?_
    cases hM
    exact hQ _ _ _ _ qd_O_someBoundIsUnchecked_48 w
  · rw [if_neg hc1] at hM
    refine lv_aload_n F.1 F.2.1 qd_O_someBoundIsUnchecked_20 rfl (lv_at hl 0 rfl) ?_
    refine lv_aload_n F.1 F.2.1 qd_O_someBoundIsUnchecked_21 rfl (lv_at hl 0 rfl) ?_
    refine xg_O_shapes F hK w qk_140 qd_O_someBoundIsUnchecked_22 ?_
    refine lv_iload_n F.1 F.2.1 qd_O_someBoundIsUnchecked_25 rfl (lv_at hl 1 rfl) ?_
    refine lv_iload F.1 F.2.1 qd_O_someBoundIsUnchecked_26 (lv_at hl 5 rfl) ?_
    obtain ⟨q2, hq3, hM⟩ := qbd hM
    refine x_calli F hK hN hA w (c_S_boundOf l D ad cI hq3) qk_485 qk_486 qk_487 qk_5 qk_488 qv_S_boundOf rfl rfl ⟨Nat.le_trans (by show 67 + 1 ≤ 2 * nn + 69; omega) hR.1, Nat.le_trans (by show 8 + (5 + 11) + 1824 ≤ 49 * nn + 1874; omega) hR.2⟩ (ci := 2) rfl (j := 3) rfl hl.1 rfl (Nat.le_of_ble_eq_true rfl) qd_O_someBoundIsUnchecked_28 (fun H locs w => ?_)
    refine lv_iload_n F.1 F.2.1 qd_O_someBoundIsUnchecked_31 rfl (lv_at hl 2 rfl) ?_
    refine lv_iload_n F.1 F.2.1 qd_O_someBoundIsUnchecked_32 rfl (lv_at hl 3 rfl) ?_
    obtain ⟨q4, hq5, hM⟩ := qbd hM
    refine x_calli F hK hN hA w (hk hq5) qk_541 qk_535 qs_O_isUnchecked qk_6 qk_536 qv_O_isUnchecked rfl rfl ⟨Nat.le_trans (by show 2 * nn + 68 + 1 ≤ 2 * nn + 69; omega) hR.1, Nat.le_trans (by show 8 + (5 + 11) + (49 * nn + 1850) ≤ 49 * nn + 1874; omega) hR.2⟩ (ci := 3) rfl (j := 4) rfl hl.1 rfl (Nat.le_of_ble_eq_true rfl) qd_O_someBoundIsUnchecked_33 (fun H locs w => ?_)
    refine lv_if_eq (tgt := 41) F.1 F.2.1 qd_O_someBoundIsUnchecked_36 (by decide) (fun hc6 => ?_) (fun hc6 => ?_)
    · rw [if_pos hc6] at hM
      refine lv_iinc (v := (v5 + (1 : Int32))) (lv' := [(5, .int (v5 + (1 : Int32))), (0, .ref (ad 4)), (1, .int v1), (2, .int v2), (3, .int v3), (4, .int v4)]) F.1 F.2.1 qd_O_someBoundIsUnchecked_41 hl (k := 5) rfl rfl (by decide) rfl (fun ls hl => ?_)
      refine lv_goto (tgt := 13) F.1 F.2.1 qd_O_someBoundIsUnchecked_44 (by decide) ?_
      exact hk_13 _ _ _ _ _ _ hM w (lv_sub hl [1, 2, 3, 4, 5, 0] rfl)
    · rw [if_neg hc6] at hM
      refine lv_iconst (v := 1) F.1 F.2.1 qd_O_someBoundIsUnchecked_39 (by decide) ?_
      cases hM
      exact hQ _ _ _ _ qd_O_someBoundIsUnchecked_40 w
set_option maxRecDepth 100000 in
set_option maxHeartbeats 4000000 in
theorem t_O_someBoundIsUnchecked_13 {p : Program} {l : Launch} {e : Env} {R : Room} {s : State} {m : MethodId} {args : Array Value} {below : List Frame} {meth : Method} {c : Code} {Q : State → Prop} {D : va_G} {ad : Nat → Nat} {cI : ClassId} {A : Nat → Prop} {k : (Nat → Nat → Int32) → Int32 → Int32 → Int32 → Option (Bool × (Nat → Nat → Int32))} {nn : Nat} (F : CallFix p m c qb_O_someBoundIsUnchecked 6 s args qtb "CaptureSubtypes$Order") (hR : 2 * nn + 69 ≤ R.frames ∧ 49 * nn + 1874 ≤ R.locals) (hK : va_K D qcl [(cI, .int)] s) (hN : qnests xns s) (hA : ∀ q, s.heap.size ≤ q → A q) (hk : ∀ {S : (Nat → Nat → Int32)} {a1 a2 a3 : Int32} {res : Bool × (Nat → Nat → Int32)}, k S a1 a2 a3 = some res → xMi l qy_O_isUnchecked qb_O_isUnchecked 5 (some .boolean) { frames := 2 * nn + 68, cells := 0, slots := 0, locals := 49 * nn + 1850 } D ad cI S [.ref (ad 4), .int a1, .int a2, .int a3] (qB res.1) res.2) {res : (Bool × (Nat → Nat → Int32))} (hQ : ∀ (H : Heap) (locs : List Loc) (pc : Nat) (ls : Array Slot), decode qb_O_someBoundIsUnchecked pc = .ok (.ireturn, 1) → xW D ad cI A s.heap res.2 H locs → W p l e R s m args below meth c H locs 0 0 Q (F0 m pc ls [.int (qB res.1)])) : ∀ (n : Nat) (S : (Nat → Nat → Int32)) (v1 v2 v3 v4 v5 : Int32) (hM : f_O_someBoundIsUnchecked_13 k n S v1 v2 v3 v4 v5 = some res) {H : Heap} {locs : List Loc} {ls : Array Slot} (w : xW D ad cI A s.heap S H locs) (hl : lv_has ls 6 [(0, .ref (ad 4)), (1, .int v1), (2, .int v2), (3, .int v3), (4, .int v4), (5, .int v5)]), W p l e R s m args below meth c H locs 0 0 Q (F0 m 13 ls []) := by
  intro n
  induction n with
  | zero => intro S v1 v2 v3 v4 v5 hM; exact absurd hM (by simp [f_O_someBoundIsUnchecked_13])
  | succ n ih => intro S v1 v2 v3 v4 v5 hM H locs ls w hl; exact tb_O_someBoundIsUnchecked_13 F hR hK hN hA hk hQ (k_13 := f_O_someBoundIsUnchecked_13 k n) (fun S v1 v2 v3 v4 v5 hM H locs ls w hl => ih S v1 v2 v3 v4 v5 hM w hl) S v1 v2 v3 v4 v5 hM w hl
set_option maxRecDepth 100000 in
set_option maxHeartbeats 4000000 in
theorem t_O_someBoundIsUnchecked {p : Program} {l : Launch} {e : Env} {R : Room} {s : State} {m : MethodId} {args : Array Value} {below : List Frame} {meth : Method} {c : Code} {Q : State → Prop} {D : va_G} {ad : Nat → Nat} {cI : ClassId} {A : Nat → Prop} {k : (Nat → Nat → Int32) → Int32 → Int32 → Int32 → Option (Bool × (Nat → Nat → Int32))} {nn : Nat} (F : CallFix p m c qb_O_someBoundIsUnchecked 6 s args qtb "CaptureSubtypes$Order") (hR : 2 * nn + 69 ≤ R.frames ∧ 49 * nn + 1874 ≤ R.locals) (hK : va_K D qcl [(cI, .int)] s) (hN : qnests xns s) (hA : ∀ q, s.heap.size ≤ q → A q) (hk : ∀ {S : (Nat → Nat → Int32)} {a1 a2 a3 : Int32} {res : Bool × (Nat → Nat → Int32)}, k S a1 a2 a3 = some res → xMi l qy_O_isUnchecked qb_O_isUnchecked 5 (some .boolean) { frames := 2 * nn + 68, cells := 0, slots := 0, locals := 49 * nn + 1850 } D ad cI S [.ref (ad 4), .int a1, .int a2, .int a3] (qB res.1) res.2) {res : (Bool × (Nat → Nat → Int32))} (hQ : ∀ (H : Heap) (locs : List Loc) (pc : Nat) (ls : Array Slot), decode qb_O_someBoundIsUnchecked pc = .ok (.ireturn, 1) → xW D ad cI A s.heap res.2 H locs → W p l e R s m args below meth c H locs 0 0 Q (F0 m pc ls [.int (qB res.1)])) (S : (Nat → Nat → Int32)) (a1 a2 a3 : Int32) (hM : f_O_someBoundIsUnchecked k S a1 a2 a3 = some res) {H : Heap} {locs : List Loc} {ls : Array Slot} (w : xW D ad cI A s.heap S H locs) (hl : lv_has ls 6 [(0, .ref (ad 4)), (1, .int a1), (2, .int a2), (3, .int a3)]) : W p l e R s m args below meth c H locs 0 0 Q (F0 m 0 ls []) := by
  unfold f_O_someBoundIsUnchecked at hM
  refine lv_aload_n F.1 F.2.1 qd_O_someBoundIsUnchecked_0 rfl (lv_at hl 0 rfl) ?_
  refine xg_O_shapes F hK w qk_140 qd_O_someBoundIsUnchecked_1 ?_
  refine lv_iload_n F.1 F.2.1 qd_O_someBoundIsUnchecked_4 rfl (lv_at hl 1 rfl) ?_
  obtain ⟨q1, hq2, hM⟩ := qbd hM
  refine x_calli F hK hN hA w (c_S_boundCountOf l D ad cI hq2) qk_475 qk_476 qk_477 qk_5 qk_478 qv_S_boundCountOf rfl rfl ⟨Nat.le_trans (by show 1 + 1 ≤ 2 * nn + 69; omega) hR.1, Nat.le_trans (by show 8 + (3 + 11) + 40 ≤ 49 * nn + 1874; omega) hR.2⟩ (ci := 2) rfl (j := 3) rfl hl.1 rfl (Nat.le_of_ble_eq_true rfl) qd_O_someBoundIsUnchecked_5 (fun H locs w => ?_)
  refine lv_istore (lv' := [(4, .int q1), (0, .ref (ad 4)), (1, .int a1), (2, .int a2), (3, .int a3)]) F.1 F.2.1 qd_O_someBoundIsUnchecked_8 hl (by decide) rfl (fun ls hl => ?_)
  refine lv_iconst (v := 0) F.1 F.2.1 qd_O_someBoundIsUnchecked_10 (by decide) ?_
  refine lv_istore (lv' := [(5, .int (0 : Int32)), (4, .int q1), (0, .ref (ad 4)), (1, .int a1), (2, .int a2), (3, .int a3)]) F.1 F.2.1 qd_O_someBoundIsUnchecked_11 hl (by decide) rfl (fun ls hl => ?_)
  exact t_O_someBoundIsUnchecked_13 F hR hK hN hA hk hQ  qfu _ _ _ _ _ _ hM w (lv_sub hl [2, 3, 4, 5, 1, 0] rfl)
set_option maxRecDepth 100000 in
theorem c_O_someBoundIsUnchecked (l : Launch) (D : va_G) (ad : Nat → Nat) (cI : ClassId) {k : (Nat → Nat → Int32) → Int32 → Int32 → Int32 → Option (Bool × (Nat → Nat → Int32))} {nn : Nat} (hk : ∀ {S : (Nat → Nat → Int32)} {a1 a2 a3 : Int32} {res : Bool × (Nat → Nat → Int32)}, k S a1 a2 a3 = some res → xMi l qy_O_isUnchecked qb_O_isUnchecked 5 (some .boolean) { frames := 2 * nn + 68, cells := 0, slots := 0, locals := 49 * nn + 1850 } D ad cI S [.ref (ad 4), .int a1, .int a2, .int a3] (qB res.1) res.2) {S : (Nat → Nat → Int32)} {a1 a2 a3 : Int32} {res : (Bool × (Nat → Nat → Int32))} (hM : f_O_someBoundIsUnchecked k S a1 a2 a3 = some res) : xMi l qy_O_someBoundIsUnchecked qb_O_someBoundIsUnchecked 6 (some .boolean) { frames := 2 * nn + 69, cells := 0, slots := 0, locals := 49 * nn + 1874 } D ad cI S [.ref (ad 4), .int a1, .int a2, .int a3] (qB res.1) res.2 := x_ofz (by decide +kernel) (Nat.le_of_ble_eq_true rfl) (fun p e s m args below meth c Q A ls F hK hN hA w hl hQ => t_O_someBoundIsUnchecked F ⟨Nat.le_refl _, Nat.le_refl _⟩ hK hN hA hk hQ S a1 a2 a3 hM w hl)
-- O_isUnchecked
def fb_O_isUnchecked (k : (Nat → Nat → Int32) → Int32 → Int32 → Int32 → Option (Bool × (Nat → Nat → Int32))) (S : (Nat → Nat → Int32)) (a1 a2 a3 : Int32) : Option (Bool × (Nat → Nat → Int32)) := if a3 ≤ 0 then (some (false, S)) else ((f_T_sortOf S a2).bind (fun q2 => if q2 = (2 : Int32) then ((f_T_isVariable S a1).bind (fun q5 => if (qB q5) = 0 then ((f_T_ownerOf S a2).bind (fun q8 => (f_T_isOfClass S a1).bind (fun q10 => if (qB q10) = 0 then (some (false, S)) else ((f_T_ownerOf S a1).bind (fun q13 => (f_K_isUnder S q13 q8).bind (fun q15 => if (qB q15) = 0 then (some (false, S)) else ((f_S_caught S a1).bind (fun q18 => (f_S_viewedAs q18.2 q18.1 q8).bind (fun q20 => (f_T_sortOf q20.2 q20.1).bind (fun q22 => if q22 = (1 : Int32) then (some (true, q20.2)) else (some (false, q20.2)))))))))))) else ((f_O_someBoundIsUnchecked k S a1 a2 (a3 - (1 : Int32))).bind (fun q25 => some (q25.1, q25.2))))) else (some (false, S))))
def f_O_isUnchecked : Nat → (Nat → Nat → Int32) → Int32 → Int32 → Int32 → Option (Bool × (Nat → Nat → Int32))
  | 0 => fun _ _ _ _ => none
  | n + 1 => fun S a1 a2 a3 => fb_O_isUnchecked (f_O_isUnchecked n) S a1 a2 a3
set_option maxRecDepth 100000 in
set_option maxHeartbeats 4000000 in
theorem t_O_isUnchecked {p : Program} {l : Launch} {e : Env} {R : Room} {s : State} {m : MethodId} {args : Array Value} {below : List Frame} {meth : Method} {c : Code} {Q : State → Prop} {D : va_G} {ad : Nat → Nat} {cI : ClassId} {A : Nat → Prop} {k : (Nat → Nat → Int32) → Int32 → Int32 → Int32 → Option (Bool × (Nat → Nat → Int32))} {nn : Nat} (F : CallFix p m c qb_O_isUnchecked 5 s args qtb "CaptureSubtypes$Order") (hR : 2 * nn + 70 ≤ R.frames ∧ 49 * nn + 1899 ≤ R.locals) (hK : va_K D qcl [(cI, .int)] s) (hN : qnests xns s) (hA : ∀ q, s.heap.size ≤ q → A q) (hk : ∀ {S : (Nat → Nat → Int32)} {a1 a2 a3 : Int32} {res : Bool × (Nat → Nat → Int32)}, k S a1 a2 a3 = some res → xMi l qy_O_isUnchecked qb_O_isUnchecked 5 (some .boolean) { frames := 2 * nn + 68, cells := 0, slots := 0, locals := 49 * nn + 1850 } D ad cI S [.ref (ad 4), .int a1, .int a2, .int a3] (qB res.1) res.2) {res : (Bool × (Nat → Nat → Int32))} (hQ : ∀ (H : Heap) (locs : List Loc) (pc : Nat) (ls : Array Slot), decode qb_O_isUnchecked pc = .ok (.ireturn, 1) → xW D ad cI A s.heap res.2 H locs → W p l e R s m args below meth c H locs 0 0 Q (F0 m pc ls [.int (qB res.1)])) (S : (Nat → Nat → Int32)) (a1 a2 a3 : Int32) (hM : fb_O_isUnchecked k S a1 a2 a3 = some res) {H : Heap} {locs : List Loc} {ls : Array Slot} (w : xW D ad cI A s.heap S H locs) (hl : lv_has ls 5 [(0, .ref (ad 4)), (1, .int a1), (2, .int a2), (3, .int a3)]) : W p l e R s m args below meth c H locs 0 0 Q (F0 m 0 ls []) := by
  unfold fb_O_isUnchecked at hM
  refine lv_iload_n F.1 F.2.1 qd_O_isUnchecked_0 rfl (lv_at hl 3 rfl) ?_
  refine lv_if_le (tgt := 16) F.1 F.2.1 qd_O_isUnchecked_1 (by decide) (fun hc1 => ?_) (fun hc1 => ?_)
  · rw [if_pos hc1] at hM
    refine lv_iconst (v := 0) F.1 F.2.1 qd_O_isUnchecked_16 (by decide) ?_
    cases hM
    exact hQ _ _ _ _ qd_O_isUnchecked_17 w
  · rw [if_neg hc1] at hM
    refine lv_aload_n F.1 F.2.1 qd_O_isUnchecked_4 rfl (lv_at hl 0 rfl) ?_
    refine xg_O_types F hK w qk_139 qd_O_isUnchecked_5 ?_
    refine lv_iload_n F.1 F.2.1 qd_O_isUnchecked_8 rfl (lv_at hl 2 rfl) ?_
    obtain ⟨q2, hq3, hM⟩ := qbd hM
    refine x_calli F hK hN hA w (c_T_sortOf l D ad cI hq3) qk_498 qk_270 qk_271 qk_3 qk_272 qv_T_sortOf rfl rfl ⟨Nat.le_trans (by show 0 + 1 ≤ 2 * nn + 70; omega) hR.1, Nat.le_trans (by show 8 + (2 + 11) + 0 ≤ 49 * nn + 1899; omega) hR.2⟩ (ci := 1) rfl (j := 2) rfl hl.1 rfl (Nat.le_of_ble_eq_true rfl) qd_O_isUnchecked_9 (fun H locs w => ?_)
    refine lv_iconst (v := 2) F.1 F.2.1 qd_O_isUnchecked_12 (by decide) ?_
    refine lv_icmp_eq (tgt := 18) F.1 F.2.1 qd_O_isUnchecked_13 (by decide) (fun hc4 => ?_) (fun hc4 => ?_)
    · rw [if_pos hc4] at hM
      refine lv_aload_n F.1 F.2.1 qd_O_isUnchecked_18 rfl (lv_at hl 0 rfl) ?_
      refine xg_O_types F hK w qk_139 qd_O_isUnchecked_19 ?_
      refine lv_iload_n F.1 F.2.1 qd_O_isUnchecked_22 rfl (lv_at hl 1 rfl) ?_
      obtain ⟨q5, hq6, hM⟩ := qbd hM
      refine x_calli F hK hN hA w (c_T_isVariable l D ad cI hq6) qk_467 qk_468 qk_469 qk_3 qk_470 qv_T_isVariable rfl rfl ⟨Nat.le_trans (by show 1 + 1 ≤ 2 * nn + 70; omega) hR.1, Nat.le_trans (by show 8 + (3 + 11) + 21 ≤ 49 * nn + 1899; omega) hR.2⟩ (ci := 1) rfl (j := 2) rfl hl.1 rfl (Nat.le_of_ble_eq_true rfl) qd_O_isUnchecked_23 (fun H locs w => ?_)
      refine lv_if_eq (tgt := 39) F.1 F.2.1 qd_O_isUnchecked_26 (by decide) (fun hc7 => ?_) (fun hc7 => ?_)
      · rw [if_pos hc7] at hM
        refine lv_aload_n F.1 F.2.1 qd_O_isUnchecked_39 rfl (lv_at hl 0 rfl) ?_
        refine xg_O_types F hK w qk_139 qd_O_isUnchecked_40 ?_
        refine lv_iload_n F.1 F.2.1 qd_O_isUnchecked_43 rfl (lv_at hl 2 rfl) ?_
        obtain ⟨q8, hq9, hM⟩ := qbd hM
        refine x_calli F hK hN hA w (c_T_ownerOf l D ad cI hq9) qk_505 qk_274 qk_275 qk_3 qk_276 qv_T_ownerOf rfl rfl ⟨Nat.le_trans (by show 0 + 1 ≤ 2 * nn + 70; omega) hR.1, Nat.le_trans (by show 8 + (2 + 11) + 0 ≤ 49 * nn + 1899; omega) hR.2⟩ (ci := 1) rfl (j := 2) rfl hl.1 rfl (Nat.le_of_ble_eq_true rfl) qd_O_isUnchecked_44 (fun H locs w => ?_)
        refine lv_istore (lv' := [(4, .int q8), (0, .ref (ad 4)), (1, .int a1), (2, .int a2), (3, .int a3)]) F.1 F.2.1 qd_O_isUnchecked_47 hl (by decide) rfl (fun ls hl => ?_)
        refine lv_aload_n F.1 F.2.1 qd_O_isUnchecked_49 rfl (lv_at hl 1 rfl) ?_
        refine xg_O_types F hK w qk_139 qd_O_isUnchecked_50 ?_
        refine lv_iload_n F.1 F.2.1 qd_O_isUnchecked_53 rfl (lv_at hl 2 rfl) ?_
        obtain ⟨q10, hq11, hM⟩ := qbd hM
        refine x_calli F hK hN hA w (c_T_isOfClass l D ad cI hq11) qk_500 qk_266 qk_267 qk_3 qk_268 qv_T_isOfClass rfl rfl ⟨Nat.le_trans (by show 1 + 1 ≤ 2 * nn + 70; omega) hR.1, Nat.le_trans (by show 8 + (3 + 11) + 21 ≤ 49 * nn + 1899; omega) hR.2⟩ (ci := 1) rfl (j := 2) rfl hl.1 rfl (Nat.le_of_ble_eq_true rfl) qd_O_isUnchecked_54 (fun H locs w => ?_)
        refine lv_if_eq (tgt := 112) F.1 F.2.1 qd_O_isUnchecked_57 (by decide) (fun hc12 => ?_) (fun hc12 => ?_)
        · rw [if_pos hc12] at hM
          refine lv_iconst (v := 0) F.1 F.2.1 qd_O_isUnchecked_112 (by decide) ?_
          cases hM
          exact hQ _ _ _ _ qd_O_isUnchecked_113 w
        · rw [if_neg hc12] at hM
          refine lv_aload_n F.1 F.2.1 qd_O_isUnchecked_60 rfl (lv_at hl 1 rfl) ?_
          refine xg_O_classes F hK w qk_138 qd_O_isUnchecked_61 ?_
          refine lv_aload_n F.1 F.2.1 qd_O_isUnchecked_64 rfl (lv_at hl 1 rfl) ?_
          refine xg_O_types F hK w qk_139 qd_O_isUnchecked_65 ?_
          refine lv_iload_n F.1 F.2.1 qd_O_isUnchecked_68 rfl (lv_at hl 2 rfl) ?_
          obtain ⟨q13, hq14, hM⟩ := qbd hM
          refine x_calli F hK hN hA w (c_T_ownerOf l D ad cI hq14) qk_505 qk_274 qk_275 qk_3 qk_276 qv_T_ownerOf rfl rfl ⟨Nat.le_trans (by show 0 + 1 ≤ 2 * nn + 70; omega) hR.1, Nat.le_trans (by show 8 + (2 + 11) + 0 ≤ 49 * nn + 1899; omega) hR.2⟩ (ci := 1) rfl (j := 2) rfl hl.1 rfl (Nat.le_of_ble_eq_true rfl) qd_O_isUnchecked_69 (fun H locs w => ?_)
          refine lv_iload F.1 F.2.1 qd_O_isUnchecked_72 (lv_at hl 0 rfl) ?_
          obtain ⟨q15, hq16, hM⟩ := qbd hM
          refine x_calli F hK hN hA w (c_K_isUnder l D ad cI hq16) qk_506 qk_218 qk_219 qk_2 qk_220 qv_K_isUnder rfl rfl ⟨Nat.le_trans (by show 0 + 1 ≤ 2 * nn + 70; omega) hR.1, Nat.le_trans (by show 8 + (3 + 11) + 0 ≤ 49 * nn + 1899; omega) hR.2⟩ (ci := 0) rfl (j := 1) rfl hl.1 rfl (Nat.le_of_ble_eq_true rfl) qd_O_isUnchecked_74 (fun H locs w => ?_)
          refine lv_if_eq (tgt := 112) F.1 F.2.1 qd_O_isUnchecked_77 (by decide) (fun hc17 => ?_) (fun hc17 => ?_)
          · rw [if_pos hc17] at hM
            refine lv_iconst (v := 0) F.1 F.2.1 qd_O_isUnchecked_112 (by decide) ?_
            cases hM
            exact hQ _ _ _ _ qd_O_isUnchecked_113 w
          · rw [if_neg hc17] at hM
            refine lv_aload_n F.1 F.2.1 qd_O_isUnchecked_80 rfl (lv_at hl 1 rfl) ?_
            refine xg_O_types F hK w qk_139 qd_O_isUnchecked_81 ?_
            refine lv_aload_n F.1 F.2.1 qd_O_isUnchecked_84 rfl (lv_at hl 1 rfl) ?_
            refine xg_O_shapes F hK w qk_140 qd_O_isUnchecked_85 ?_
            refine lv_aload_n F.1 F.2.1 qd_O_isUnchecked_88 rfl (lv_at hl 1 rfl) ?_
            refine xg_O_shapes F hK w qk_140 qd_O_isUnchecked_89 ?_
            refine lv_iload_n F.1 F.2.1 qd_O_isUnchecked_92 rfl (lv_at hl 2 rfl) ?_
            obtain ⟨q18, hq19, hM⟩ := qbd hM
            refine x_calli F hK hN hA w (c_S_caught l D ad cI hq19) qk_507 qk_508 qk_509 qk_5 qk_510 qv_S_caught rfl rfl ⟨Nat.le_trans (by show 3 + 1 ≤ 2 * nn + 70; omega) hR.1, Nat.le_trans (by show 8 + (7 + 11) + 93 ≤ 49 * nn + 1899; omega) hR.2⟩ (ci := 2) rfl (j := 3) rfl hl.1 rfl (Nat.le_of_ble_eq_true rfl) qd_O_isUnchecked_93 (fun H locs w => ?_)
            refine lv_iload F.1 F.2.1 qd_O_isUnchecked_96 (lv_at hl 0 rfl) ?_
            obtain ⟨q20, hq21, hM⟩ := qbd hM
            refine x_calli F hK hN hA w (c_S_viewedAs l D ad cI hq21) qk_526 qk_313 qk_314 qk_5 qk_315 qv_S_viewedAs rfl rfl ⟨Nat.le_trans (by show 67 + 1 ≤ 2 * nn + 70; omega) hR.1, Nat.le_trans (by show 8 + (7 + 11) + 1824 ≤ 49 * nn + 1899; omega) hR.2⟩ (ci := 2) rfl (j := 3) rfl hl.1 rfl (Nat.le_of_ble_eq_true rfl) qd_O_isUnchecked_98 (fun H locs w => ?_)
            obtain ⟨q22, hq23, hM⟩ := qbd hM
            refine x_calli F hK hN hA w (c_T_sortOf l D ad cI hq23) qk_498 qk_270 qk_271 qk_3 qk_272 qv_T_sortOf rfl rfl ⟨Nat.le_trans (by show 0 + 1 ≤ 2 * nn + 70; omega) hR.1, Nat.le_trans (by show 8 + (2 + 11) + 0 ≤ 49 * nn + 1899; omega) hR.2⟩ (ci := 1) rfl (j := 2) rfl hl.1 rfl (Nat.le_of_ble_eq_true rfl) qd_O_isUnchecked_101 (fun H locs w => ?_)
            refine lv_iconst (v := 1) F.1 F.2.1 qd_O_isUnchecked_104 (by decide) ?_
            refine lv_icmp_ne (tgt := 112) F.1 F.2.1 qd_O_isUnchecked_105 (by decide) (fun hc24 => ?_) (fun hc24 => ?_)
            · rw [if_neg hc24] at hM
              refine lv_iconst (v := 0) F.1 F.2.1 qd_O_isUnchecked_112 (by decide) ?_
              cases hM
              exact hQ _ _ _ _ qd_O_isUnchecked_113 w
            · rw [if_pos hc24] at hM
              refine lv_iconst (v := 1) F.1 F.2.1 qd_O_isUnchecked_108 (by decide) ?_
              refine lv_goto (tgt := 113) F.1 F.2.1 qd_O_isUnchecked_109 (by decide) ?_
              cases hM
              exact hQ _ _ _ _ qd_O_isUnchecked_113 w
      · rw [if_neg hc7] at hM
        refine lv_aload_n F.1 F.2.1 qd_O_isUnchecked_29 rfl (lv_at hl 0 rfl) ?_
        refine lv_iload_n F.1 F.2.1 qd_O_isUnchecked_30 rfl (lv_at hl 1 rfl) ?_
        refine lv_iload_n F.1 F.2.1 qd_O_isUnchecked_31 rfl (lv_at hl 2 rfl) ?_
        refine lv_iload_n F.1 F.2.1 qd_O_isUnchecked_32 rfl (lv_at hl 3 rfl) ?_
        refine lv_iconst (v := 1) F.1 F.2.1 qd_O_isUnchecked_33 (by decide) ?_
        refine lv_isub F.1 F.2.1 qd_O_isUnchecked_34 ?_
        obtain ⟨q25, hq26, hM⟩ := qbd hM
        refine x_calli F hK hN hA w (c_O_someBoundIsUnchecked l D ad cI hk hq26) qk_537 qk_539 qs_O_someBoundIsUnchecked qk_6 qk_540 qv_O_someBoundIsUnchecked rfl rfl ⟨Nat.le_trans (by show 2 * nn + 69 + 1 ≤ 2 * nn + 70; omega) hR.1, Nat.le_trans (by show 8 + (6 + 11) + (49 * nn + 1874) ≤ 49 * nn + 1899; omega) hR.2⟩ (ci := 3) rfl (j := 4) rfl hl.1 rfl (Nat.le_of_ble_eq_true rfl) qd_O_isUnchecked_35 (fun H locs w => ?_)
        cases hM
        exact hQ _ _ _ _ qd_O_isUnchecked_38 w
    · rw [if_neg hc4] at hM
      refine lv_iconst (v := 0) F.1 F.2.1 qd_O_isUnchecked_16 (by decide) ?_
      cases hM
      exact hQ _ _ _ _ qd_O_isUnchecked_17 w
set_option maxRecDepth 100000 in
theorem c_O_isUnchecked (l : Launch) (D : va_G) (ad : Nat → Nat) (cI : ClassId) : ∀ (n : Nat) {S : (Nat → Nat → Int32)} {a1 a2 a3 : Int32} {res : (Bool × (Nat → Nat → Int32))} (hM : f_O_isUnchecked n S a1 a2 a3 = some res), xMi l qy_O_isUnchecked qb_O_isUnchecked 5 (some .boolean) { frames := 2 * n + 68, cells := 0, slots := 0, locals := 49 * n + 1850 } D ad cI S [.ref (ad 4), .int a1, .int a2, .int a3] (qB res.1) res.2 := by
  intro n
  induction n with
  | zero => intro S a1 a2 a3 res hM; exact absurd hM (by simp [f_O_isUnchecked])
  | succ nn ih => intro S a1 a2 a3 res hM; exact x_ofz (by decide +kernel) (Nat.le_of_ble_eq_true rfl) (fun p e s m args below meth c Q A ls F hK hN hA w hl hQ => t_O_isUnchecked F ⟨(show 2 * nn + 70 ≤ 2 * (nn + 1) + 68 by omega), (show 49 * nn + 1899 ≤ 49 * (nn + 1) + 1850 by omega)⟩ hK hN hA ih hQ S a1 a2 a3 hM w hl)
-- X_is
def f_X_is_62 (S : (Nat → Nat → Int32)) (v3 : Int32) : Option (Int32 × (Nat → Nat → Int32)) := (f_T_dropTo S (S 10 0)).bind (fun q1 => some (v3, q1))
def f_X_is (S : (Nat → Nat → Int32)) (a1 a2 : Int32) : Option (Int32 × (Nat → Nat → Int32)) := (f_T_standsAlone S a1).bind (fun q1 => if (qB q1) = 0 then (some ((-2 : Int32), S)) else ((f_T_standsAlone S a2).bind (fun q4 => if (qB q4) = 0 then (some ((-2 : Int32), S)) else ((f_O_isOne 64 S a1 a2 (40 : Int32)).bind (fun q7 => if (qB q7.1) = 0 then ((f_O_isUnchecked 64 q7.2 a1 a2 (40 : Int32)).bind (fun q10 => if (qB q10.1) = 0 then (f_X_is_62  q10.2 (0 : Int32)) else (f_X_is_62  q10.2 (2 : Int32)))) else (f_X_is_62  q7.2 (1 : Int32)))))))
set_option maxRecDepth 100000 in
set_option maxHeartbeats 4000000 in
theorem t_X_is_62 {p : Program} {l : Launch} {e : Env} {R : Room} {s : State} {m : MethodId} {args : Array Value} {below : List Frame} {meth : Method} {c : Code} {Q : State → Prop} {D : va_G} {ad : Nat → Nat} {cI : ClassId} {A : Nat → Prop} (F : CallFix p m c qb_X_is 4 s args qtb "CaptureSubtypes") (hR : 325 ≤ R.frames ∧ 8019 ≤ R.locals) (hK : va_K D qcl [(cI, .int)] s) (hN : qnests xns s) (hA : ∀ q, s.heap.size ≤ q → A q) {res : (Int32 × (Nat → Nat → Int32))} (hQ : ∀ (H : Heap) (locs : List Loc) (pc : Nat) (ls : Array Slot), decode qb_X_is pc = .ok (.ireturn, 1) → xW D ad cI A s.heap res.2 H locs → W p l e R s m args below meth c H locs 0 0 Q (F0 m pc ls [.int res.1])) (S : (Nat → Nat → Int32)) (v3 : Int32) (hM : f_X_is_62 S v3 = some res) {H : Heap} {locs : List Loc} {ls : Array Slot} (w : xW D ad cI A s.heap S H locs) (hl : lv_has ls 4 [(0, .ref (ad 0)), (3, .int v3)]) : W p l e R s m args below meth c H locs 0 0 Q (F0 m 62 ls []) := by
  unfold f_X_is_62 at hM
  refine lv_aload_n F.1 F.2.1 qd_X_is_62 rfl (lv_at hl 0 rfl) ?_
  refine xg_X_types F hK w qk_168 qd_X_is_63 ?_
  refine lv_aload_n F.1 F.2.1 qd_X_is_66 rfl (lv_at hl 0 rfl) ?_
  refine xg_X_types F hK w qk_168 qd_X_is_67 ?_
  refine xg_T_kept F hK w qk_88 qd_X_is_70 ?_
  obtain ⟨q1, hq2, hM⟩ := qbd hM
  refine x_callv F hK hN hA w (c_T_dropTo l D ad cI hq2) qk_542 qk_354 qk_355 qk_3 qk_356 qv_T_dropTo rfl rfl ⟨Nat.le_trans (by decide) hR.1, Nat.le_trans (by decide) hR.2⟩ (ci := 1) rfl (j := 2) rfl hl.1 rfl (Nat.le_of_ble_eq_true rfl) qd_X_is_73 (fun H locs w => ?_)
  refine lv_iload_n F.1 F.2.1 qd_X_is_76 rfl (lv_at hl 1 rfl) ?_
  cases hM
  exact hQ _ _ _ _ qd_X_is_77 w
set_option maxRecDepth 100000 in
set_option maxHeartbeats 4000000 in
theorem t_X_is {p : Program} {l : Launch} {e : Env} {R : Room} {s : State} {m : MethodId} {args : Array Value} {below : List Frame} {meth : Method} {c : Code} {Q : State → Prop} {D : va_G} {ad : Nat → Nat} {cI : ClassId} {A : Nat → Prop} (F : CallFix p m c qb_X_is 4 s args qtb "CaptureSubtypes") (hR : 325 ≤ R.frames ∧ 8019 ≤ R.locals) (hK : va_K D qcl [(cI, .int)] s) (hN : qnests xns s) (hA : ∀ q, s.heap.size ≤ q → A q) {res : (Int32 × (Nat → Nat → Int32))} (hQ : ∀ (H : Heap) (locs : List Loc) (pc : Nat) (ls : Array Slot), decode qb_X_is pc = .ok (.ireturn, 1) → xW D ad cI A s.heap res.2 H locs → W p l e R s m args below meth c H locs 0 0 Q (F0 m pc ls [.int res.1])) (S : (Nat → Nat → Int32)) (a1 a2 : Int32) (hM : f_X_is S a1 a2 = some res) {H : Heap} {locs : List Loc} {ls : Array Slot} (w : xW D ad cI A s.heap S H locs) (hl : lv_has ls 4 [(0, .ref (ad 0)), (1, .int a1), (2, .int a2)]) : W p l e R s m args below meth c H locs 0 0 Q (F0 m 0 ls []) := by
  unfold f_X_is at hM
  refine lv_aload_n F.1 F.2.1 qd_X_is_0 rfl (lv_at hl 0 rfl) ?_
  refine xg_X_types F hK w qk_168 qd_X_is_1 ?_
  refine lv_iload_n F.1 F.2.1 qd_X_is_4 rfl (lv_at hl 1 rfl) ?_
  obtain ⟨q1, hq2, hM⟩ := qbd hM
  refine x_calli F hK hN hA w (c_T_standsAlone l D ad cI hq2) qk_415 qk_416 qk_417 qk_3 qk_418 qv_T_standsAlone rfl rfl ⟨Nat.le_trans (by decide) hR.1, Nat.le_trans (by decide) hR.2⟩ (ci := 1) rfl (j := 2) rfl hl.1 rfl (Nat.le_of_ble_eq_true rfl) qd_X_is_5 (fun H locs w => ?_)
  refine lv_if_eq (tgt := 22) F.1 F.2.1 qd_X_is_8 (by decide) (fun hc3 => ?_) (fun hc3 => ?_)
  · rw [if_pos hc3] at hM
    refine lv_bipush (v := (-2)) F.1 F.2.1 qd_X_is_22 (by decide) ?_
    cases hM
    exact hQ _ _ _ _ qd_X_is_24 w
  · rw [if_neg hc3] at hM
    refine lv_aload_n F.1 F.2.1 qd_X_is_11 rfl (lv_at hl 0 rfl) ?_
    refine xg_X_types F hK w qk_168 qd_X_is_12 ?_
    refine lv_iload_n F.1 F.2.1 qd_X_is_15 rfl (lv_at hl 2 rfl) ?_
    obtain ⟨q4, hq5, hM⟩ := qbd hM
    refine x_calli F hK hN hA w (c_T_standsAlone l D ad cI hq5) qk_415 qk_416 qk_417 qk_3 qk_418 qv_T_standsAlone rfl rfl ⟨Nat.le_trans (by decide) hR.1, Nat.le_trans (by decide) hR.2⟩ (ci := 1) rfl (j := 2) rfl hl.1 rfl (Nat.le_of_ble_eq_true rfl) qd_X_is_16 (fun H locs w => ?_)
    refine lv_if_ne (tgt := 25) F.1 F.2.1 qd_X_is_19 (by decide) (fun hc6 => ?_) (fun hc6 => ?_)
    · rw [if_neg hc6] at hM
      refine lv_iconst (v := 0) F.1 F.2.1 qd_X_is_25 (by decide) ?_
      refine lv_istore_n (lv' := [(3, .int (0 : Int32)), (0, .ref (ad 0)), (1, .int a1), (2, .int a2)]) F.1 F.2.1 qd_X_is_26 rfl hl (by decide) rfl (fun ls hl => ?_)
      refine lv_aload_n F.1 F.2.1 qd_X_is_27 rfl (lv_at hl 1 rfl) ?_
      refine xg_X_order F hK w qk_170 qd_X_is_28 ?_
      refine lv_iload_n F.1 F.2.1 qd_X_is_31 rfl (lv_at hl 2 rfl) ?_
      refine lv_iload_n F.1 F.2.1 qd_X_is_32 rfl (lv_at hl 3 rfl) ?_
      refine lv_bipush (v := 40) F.1 F.2.1 qd_X_is_33 (by decide) ?_
      obtain ⟨q7, hq8, hM⟩ := qbd hM
      refine x_calliN F hK hN hA w (c_O_isOne l D ad cI 64 hq8) (host := "CaptureSubtypes") (hN _ (by decide +kernel)) qk_460 qs_O_isOne qk_6 qk_461 qv_O_isOne rfl rfl ⟨Nat.le_trans (by decide) hR.1, Nat.le_trans (by decide) hR.2⟩ (ci := 3) rfl (j := 4) rfl hl.1 rfl (Nat.le_of_ble_eq_true rfl) qd_X_is_35 (fun H locs w => ?_)
      refine lv_if_eq (tgt := 46) F.1 F.2.1 qd_X_is_38 (by decide) (fun hc9 => ?_) (fun hc9 => ?_)
      · rw [if_pos hc9] at hM
        refine lv_aload_n F.1 F.2.1 qd_X_is_46 rfl (lv_at hl 1 rfl) ?_
        refine xg_X_order F hK w qk_170 qd_X_is_47 ?_
        refine lv_iload_n F.1 F.2.1 qd_X_is_50 rfl (lv_at hl 2 rfl) ?_
        refine lv_iload_n F.1 F.2.1 qd_X_is_51 rfl (lv_at hl 3 rfl) ?_
        refine lv_bipush (v := 40) F.1 F.2.1 qd_X_is_52 (by decide) ?_
        obtain ⟨q10, hq11, hM⟩ := qbd hM
        refine x_calliN F hK hN hA w (c_O_isUnchecked l D ad cI 64 hq11) (host := "CaptureSubtypes") (hN _ (by decide +kernel)) qk_535 qs_O_isUnchecked qk_6 qk_536 qv_O_isUnchecked rfl rfl ⟨Nat.le_trans (by decide) hR.1, Nat.le_trans (by decide) hR.2⟩ (ci := 3) rfl (j := 4) rfl hl.1 rfl (Nat.le_of_ble_eq_true rfl) qd_X_is_54 (fun H locs w => ?_)
        refine lv_if_eq (tgt := 62) F.1 F.2.1 qd_X_is_57 (by decide) (fun hc12 => ?_) (fun hc12 => ?_)
        · rw [if_pos hc12] at hM
          exact t_X_is_62 F hR hK hN hA hQ  _ _ hM w (lv_sub hl [1, 0] rfl)
        · rw [if_neg hc12] at hM
          refine lv_iconst (v := 2) F.1 F.2.1 qd_X_is_60 (by decide) ?_
          refine lv_istore_n (lv' := [(3, .int (2 : Int32)), (0, .ref (ad 0)), (1, .int a1), (2, .int a2)]) F.1 F.2.1 qd_X_is_61 rfl hl (by decide) rfl (fun ls hl => ?_)
          exact t_X_is_62 F hR hK hN hA hQ  _ _ hM w (lv_sub hl [1, 0] rfl)
      · rw [if_neg hc9] at hM
        refine lv_iconst (v := 1) F.1 F.2.1 qd_X_is_41 (by decide) ?_
        refine lv_istore_n (lv' := [(3, .int (1 : Int32)), (0, .ref (ad 0)), (1, .int a1), (2, .int a2)]) F.1 F.2.1 qd_X_is_42 rfl hl (by decide) rfl (fun ls hl => ?_)
        refine lv_goto (tgt := 62) F.1 F.2.1 qd_X_is_43 (by decide) ?_
        exact t_X_is_62 F hR hK hN hA hQ  _ _ hM w (lv_sub hl [1, 0] rfl)
    · rw [if_pos hc6] at hM
      refine lv_bipush (v := (-2)) F.1 F.2.1 qd_X_is_22 (by decide) ?_
      cases hM
      exact hQ _ _ _ _ qd_X_is_24 w
set_option maxRecDepth 100000 in
theorem c_X_is (l : Launch) (D : va_G) (ad : Nat → Nat) (cI : ClassId) {S : (Nat → Nat → Int32)} {a1 a2 : Int32} {res : (Int32 × (Nat → Nat → Int32))} (hM : f_X_is S a1 a2 = some res) : xMi l qy_X_is qb_X_is 4 (some .int) { frames := 325, cells := 0, slots := 0, locals := 8019 } D ad cI S [.ref (ad 0), .int a1, .int a2] res.1 res.2 := x_ofi (by decide +kernel) (Nat.le_of_ble_eq_true rfl) (fun p e s m args below meth c Q A ls F hK hN hA w hl hQ => t_X_is F ⟨Nat.le_refl _, Nat.le_refl _⟩ hK hN hA hQ S a1 a2 hM w hl)
-- U_facetCount
def f_U_facetCount (S : (Nat → Nat → Int32)) (a1 : Int32) : Option Int32 := (f_T_isVariable S a1).bind (fun q1 => if (qB q1) = 0 then (some (1 : Int32)) else ((f_S_boundCountOf S a1).bind (fun q4 => some q4)))
set_option maxRecDepth 100000 in
set_option maxHeartbeats 4000000 in
theorem t_U_facetCount {p : Program} {l : Launch} {e : Env} {R : Room} {s : State} {m : MethodId} {args : Array Value} {below : List Frame} {meth : Method} {c : Code} {Q : State → Prop} {D : va_G} {ad : Nat → Nat} {cI : ClassId} {A : Nat → Prop} (F : CallFix p m c qb_U_facetCount 2 s args qtb "CaptureSubtypes$Turning") (hR : 2 ≤ R.frames ∧ 62 ≤ R.locals) (hK : va_K D qcl [(cI, .int)] s) (hN : qnests xns s) (hA : ∀ q, s.heap.size ≤ q → A q) {res : Int32} {S : (Nat → Nat → Int32)} (hQ : ∀ (H : Heap) (locs : List Loc) (pc : Nat) (ls : Array Slot), decode qb_U_facetCount pc = .ok (.ireturn, 1) → xW D ad cI A s.heap S H locs → W p l e R s m args below meth c H locs 0 0 Q (F0 m pc ls [.int res])) (a1 : Int32) (hM : f_U_facetCount S a1 = some res) {H : Heap} {locs : List Loc} {ls : Array Slot} (w : xW D ad cI A s.heap S H locs) (hl : lv_has ls 2 [(0, .ref (ad 5)), (1, .int a1)]) : W p l e R s m args below meth c H locs 0 0 Q (F0 m 0 ls []) := by
  unfold f_U_facetCount at hM
  refine lv_aload_n F.1 F.2.1 qd_U_facetCount_0 rfl (lv_at hl 0 rfl) ?_
  refine xg_U_types F hK w qk_155 qd_U_facetCount_1 ?_
  refine lv_iload_n F.1 F.2.1 qd_U_facetCount_4 rfl (lv_at hl 1 rfl) ?_
  obtain ⟨q1, hq2, hM⟩ := qbd hM
  refine x_calli F hK hN hA w (c_T_isVariable l D ad cI hq2) qk_552 qk_468 qk_469 qk_3 qk_470 qv_T_isVariable rfl rfl ⟨Nat.le_trans (by decide) hR.1, Nat.le_trans (by decide) hR.2⟩ (ci := 1) rfl (j := 2) rfl hl.1 rfl (Nat.le_of_ble_eq_true rfl) qd_U_facetCount_5 (fun H locs w => ?_)
  refine lv_if_eq (tgt := 22) F.1 F.2.1 qd_U_facetCount_8 (by decide) (fun hc3 => ?_) (fun hc3 => ?_)
  · rw [if_pos hc3] at hM
    refine lv_iconst (v := 1) F.1 F.2.1 qd_U_facetCount_22 (by decide) ?_
    cases hM
    exact hQ _ _ _ _ qd_U_facetCount_23 w
  · rw [if_neg hc3] at hM
    refine lv_aload_n F.1 F.2.1 qd_U_facetCount_11 rfl (lv_at hl 0 rfl) ?_
    refine xg_U_shapes F hK w qk_156 qd_U_facetCount_12 ?_
    refine lv_iload_n F.1 F.2.1 qd_U_facetCount_15 rfl (lv_at hl 1 rfl) ?_
    obtain ⟨q4, hq5, hM⟩ := qbd hM
    refine x_calli F hK hN hA w (c_S_boundCountOf l D ad cI hq5) qk_557 qk_476 qk_477 qk_5 qk_478 qv_S_boundCountOf rfl rfl ⟨Nat.le_trans (by decide) hR.1, Nat.le_trans (by decide) hR.2⟩ (ci := 2) rfl (j := 3) rfl hl.1 rfl (Nat.le_of_ble_eq_true rfl) qd_U_facetCount_16 (fun H locs w => ?_)
    refine lv_goto (tgt := 23) F.1 F.2.1 qd_U_facetCount_19 (by decide) ?_
    cases hM
    exact hQ _ _ _ _ qd_U_facetCount_23 w
set_option maxRecDepth 100000 in
theorem c_U_facetCount (l : Launch) (D : va_G) (ad : Nat → Nat) (cI : ClassId) {S : (Nat → Nat → Int32)} {a1 : Int32} {res : Int32} (hM : f_U_facetCount S a1 = some res) : xMi l qy_U_facetCount qb_U_facetCount 2 (some .int) { frames := 2, cells := 0, slots := 0, locals := 62 } D ad cI S [.ref (ad 5), .int a1] res S := x_ofi (by decide +kernel) (Nat.le_of_ble_eq_true rfl) (fun p e s m args below meth c Q A ls F hK hN hA w hl hQ => t_U_facetCount F ⟨Nat.le_refl _, Nat.le_refl _⟩ hK hN hA hQ a1 hM w hl)
-- U_facet
def f_U_facet (S : (Nat → Nat → Int32)) (a1 a2 : Int32) : Option (Int32 × (Nat → Nat → Int32)) := (f_T_isVariable S a1).bind (fun q1 => if (qB q1) = 0 then (some (a1, S)) else ((f_S_boundOf S a1 a2).bind (fun q4 => some (q4.1, q4.2))))
set_option maxRecDepth 100000 in
set_option maxHeartbeats 4000000 in
theorem t_U_facet {p : Program} {l : Launch} {e : Env} {R : Room} {s : State} {m : MethodId} {args : Array Value} {below : List Frame} {meth : Method} {c : Code} {Q : State → Prop} {D : va_G} {ad : Nat → Nat} {cI : ClassId} {A : Nat → Prop} (F : CallFix p m c qb_U_facet 3 s args qtb "CaptureSubtypes$Turning") (hR : 68 ≤ R.frames ∧ 1848 ≤ R.locals) (hK : va_K D qcl [(cI, .int)] s) (hN : qnests xns s) (hA : ∀ q, s.heap.size ≤ q → A q) {res : (Int32 × (Nat → Nat → Int32))} (hQ : ∀ (H : Heap) (locs : List Loc) (pc : Nat) (ls : Array Slot), decode qb_U_facet pc = .ok (.ireturn, 1) → xW D ad cI A s.heap res.2 H locs → W p l e R s m args below meth c H locs 0 0 Q (F0 m pc ls [.int res.1])) (S : (Nat → Nat → Int32)) (a1 a2 : Int32) (hM : f_U_facet S a1 a2 = some res) {H : Heap} {locs : List Loc} {ls : Array Slot} (w : xW D ad cI A s.heap S H locs) (hl : lv_has ls 3 [(0, .ref (ad 5)), (1, .int a1), (2, .int a2)]) : W p l e R s m args below meth c H locs 0 0 Q (F0 m 0 ls []) := by
  unfold f_U_facet at hM
  refine lv_aload_n F.1 F.2.1 qd_U_facet_0 rfl (lv_at hl 0 rfl) ?_
  refine xg_U_types F hK w qk_155 qd_U_facet_1 ?_
  refine lv_iload_n F.1 F.2.1 qd_U_facet_4 rfl (lv_at hl 1 rfl) ?_
  obtain ⟨q1, hq2, hM⟩ := qbd hM
  refine x_calli F hK hN hA w (c_T_isVariable l D ad cI hq2) qk_552 qk_468 qk_469 qk_3 qk_470 qv_T_isVariable rfl rfl ⟨Nat.le_trans (by decide) hR.1, Nat.le_trans (by decide) hR.2⟩ (ci := 1) rfl (j := 2) rfl hl.1 rfl (Nat.le_of_ble_eq_true rfl) qd_U_facet_5 (fun H locs w => ?_)
  refine lv_if_eq (tgt := 23) F.1 F.2.1 qd_U_facet_8 (by decide) (fun hc3 => ?_) (fun hc3 => ?_)
  · rw [if_pos hc3] at hM
    refine lv_iload_n F.1 F.2.1 qd_U_facet_23 rfl (lv_at hl 1 rfl) ?_
    cases hM
    exact hQ _ _ _ _ qd_U_facet_24 w
  · rw [if_neg hc3] at hM
    refine lv_aload_n F.1 F.2.1 qd_U_facet_11 rfl (lv_at hl 0 rfl) ?_
    refine xg_U_shapes F hK w qk_156 qd_U_facet_12 ?_
    refine lv_iload_n F.1 F.2.1 qd_U_facet_15 rfl (lv_at hl 1 rfl) ?_
    refine lv_iload_n F.1 F.2.1 qd_U_facet_16 rfl (lv_at hl 2 rfl) ?_
    obtain ⟨q4, hq5, hM⟩ := qbd hM
    refine x_calli F hK hN hA w (c_S_boundOf l D ad cI hq5) qk_558 qk_486 qk_487 qk_5 qk_488 qv_S_boundOf rfl rfl ⟨Nat.le_trans (by decide) hR.1, Nat.le_trans (by decide) hR.2⟩ (ci := 2) rfl (j := 3) rfl hl.1 rfl (Nat.le_of_ble_eq_true rfl) qd_U_facet_17 (fun H locs w => ?_)
    refine lv_goto (tgt := 24) F.1 F.2.1 qd_U_facet_20 (by decide) ?_
    cases hM
    exact hQ _ _ _ _ qd_U_facet_24 w
set_option maxRecDepth 100000 in
theorem c_U_facet (l : Launch) (D : va_G) (ad : Nat → Nat) (cI : ClassId) {S : (Nat → Nat → Int32)} {a1 a2 : Int32} {res : (Int32 × (Nat → Nat → Int32))} (hM : f_U_facet S a1 a2 = some res) : xMi l qy_U_facet qb_U_facet 3 (some .int) { frames := 68, cells := 0, slots := 0, locals := 1848 } D ad cI S [.ref (ad 5), .int a1, .int a2] res.1 res.2 := x_ofi (by decide +kernel) (Nat.le_of_ble_eq_true rfl) (fun p e s m args below meth c Q A ls F hK hN hA w hl hQ => t_U_facet F ⟨Nat.le_refl _, Nat.le_refl _⟩ hK hN hA hQ S a1 a2 hM w hl)
-- S_inRows
def fb_S_inRows_5 (k_5 : (Nat → Nat → Int32) → Int32 → Int32 → Int32 → Option (Int32 × (Nat → Nat → Int32))) (S : (Nat → Nat → Int32)) (v2 v3 v4 : Int32) : Option (Int32 × (Nat → Nat → Int32)) := if v2 ≤ v4 then (some (v3, S)) else (if v3 < 0 then (some (v3, S)) else ((f_T_put S (4 : Int32) (-1 : Int32) v3 (-1 : Int32) (1024 : Int32)).bind (fun q3 => k_5 q3.2 v2 q3.1 (v4 + (1 : Int32)))))
def f_S_inRows_5 : Nat → (Nat → Nat → Int32) → Int32 → Int32 → Int32 → Option (Int32 × (Nat → Nat → Int32))
  | 0 => fun _ _ _ _ => none
  | n + 1 => fun S v2 v3 v4 => fb_S_inRows_5 (f_S_inRows_5 n) S v2 v3 v4
def f_S_inRows (S : (Nat → Nat → Int32)) (a1 a2 : Int32) : Option (Int32 × (Nat → Nat → Int32)) := f_S_inRows_5  qfu S a2 a1 (0 : Int32)
set_option maxRecDepth 100000 in
set_option maxHeartbeats 4000000 in
theorem tb_S_inRows_5 {p : Program} {l : Launch} {e : Env} {R : Room} {s : State} {m : MethodId} {args : Array Value} {below : List Frame} {meth : Method} {c : Code} {Q : State → Prop} {D : va_G} {ad : Nat → Nat} {cI : ClassId} {A : Nat → Prop} (F : CallFix p m c qb_S_inRows 5 s args qtb "CaptureSubtypes$Shapes") (hR : 2 ≤ R.frames ∧ 69 ≤ R.locals) (hK : va_K D qcl [(cI, .int)] s) (hN : qnests xns s) (hA : ∀ q, s.heap.size ≤ q → A q) {res : (Int32 × (Nat → Nat → Int32))} (hQ : ∀ (H : Heap) (locs : List Loc) (pc : Nat) (ls : Array Slot), decode qb_S_inRows pc = .ok (.ireturn, 1) → xW D ad cI A s.heap res.2 H locs → W p l e R s m args below meth c H locs 0 0 Q (F0 m pc ls [.int res.1])) {k_5 : (Nat → Nat → Int32) → Int32 → Int32 → Int32 → Option (Int32 × (Nat → Nat → Int32))} (hk_5 : ∀ (S : Nat → Nat → Int32) (v2 v3 v4 : Int32), k_5 S v2 v3 v4 = some res → ∀ {H : Heap} {locs : List Loc} {ls : Array Slot}, xW D ad cI A s.heap S H locs → lv_has ls 5 [(0, .ref (ad 3)), (2, .int v2), (3, .int v3), (4, .int v4)] → W p l e R s m args below meth c H locs 0 0 Q (F0 m 5 ls [])) (S : (Nat → Nat → Int32)) (v2 v3 v4 : Int32) (hM : fb_S_inRows_5 k_5 S v2 v3 v4 = some res) {H : Heap} {locs : List Loc} {ls : Array Slot} (w : xW D ad cI A s.heap S H locs) (hl : lv_has ls 5 [(0, .ref (ad 3)), (2, .int v2), (3, .int v3), (4, .int v4)]) : W p l e R s m args below meth c H locs 0 0 Q (F0 m 5 ls []) := by
  unfold fb_S_inRows_5 at hM
  refine lv_iload F.1 F.2.1 qd_S_inRows_5 (lv_at hl 3 rfl) ?_
  refine lv_iload_n F.1 F.2.1 qd_S_inRows_7 rfl (lv_at hl 1 rfl) ?_
  refine lv_icmp_ge (tgt := 36) F.1 F.2.1 qd_S_inRows_8 (by decide) (fun hc1 => ?_) (fun hc1 => ?_)
  · rw [if_pos hc1] at hM
    refine lv_iload_n F.1 F.2.1 qd_S_inRows_36 rfl (lv_at hl 2 rfl) ?_
    cases hM
    exact hQ _ _ _ _ qd_S_inRows_37 w
  · rw [if_neg hc1] at hM
    refine lv_iload_n F.1 F.2.1 qd_S_inRows_11 rfl (lv_at hl 2 rfl) ?_
    refine lv_if_lt (tgt := 36) F.1 F.2.1 qd_S_inRows_12 (by decide) (fun hc2 => ?_) (fun hc2 => ?_)
    · rw [if_pos hc2] at hM
      refine lv_iload_n F.1 F.2.1 qd_S_inRows_36 rfl (lv_at hl 2 rfl) ?_
      cases hM
      exact hQ _ _ _ _ qd_S_inRows_37 w
    · rw [if_neg hc2] at hM
      refine lv_aload_n F.1 F.2.1 qd_S_inRows_15 rfl (lv_at hl 0 rfl) ?_
      refine xg_S_types F hK w qk_126 qd_S_inRows_16 ?_
      refine lv_iconst (v := 4) F.1 F.2.1 qd_S_inRows_19 (by decide) ?_
      refine lv_iconst (v := (-1)) F.1 F.2.1 qd_S_inRows_20 (by decide) ?_
      refine lv_iload_n F.1 F.2.1 qd_S_inRows_21 rfl (lv_at hl 2 rfl) ?_
      refine lv_iconst (v := (-1)) F.1 F.2.1 qd_S_inRows_22 (by decide) ?_
      refine lv_sipush (v := 1024) F.1 F.2.1 qd_S_inRows_23 (by decide) ?_
      obtain ⟨q3, hq4, hM⟩ := qbd hM
      refine x_calli F hK hN hA w (c_T_put l D ad cI hq4) qk_332 qk_81 qk_82 qk_3 qk_83 qv_T_put rfl rfl ⟨Nat.le_trans (by decide) hR.1, Nat.le_trans (by decide) hR.2⟩ (ci := 1) rfl (j := 2) rfl hl.1 rfl (Nat.le_of_ble_eq_true rfl) qd_S_inRows_26 (fun H locs w => ?_)
      refine lv_istore_n (lv' := [(3, .int q3.1), (0, .ref (ad 3)), (2, .int v2), (4, .int v4)]) F.1 F.2.1 qd_S_inRows_29 rfl hl (by decide) rfl (fun ls hl => ?_)
      refine lv_iinc (v := (v4 + (1 : Int32))) (lv' := [(4, .int (v4 + (1 : Int32))), (3, .int q3.1), (0, .ref (ad 3)), (2, .int v2)]) F.1 F.2.1 qd_S_inRows_30 hl (k := 3) rfl rfl (by decide) rfl (fun ls hl => ?_)
      refine lv_goto (tgt := 5) F.1 F.2.1 qd_S_inRows_33 (by decide) ?_
      exact hk_5 _ _ _ _ hM w (lv_sub hl [2, 3, 1, 0] rfl)
set_option maxRecDepth 100000 in
set_option maxHeartbeats 4000000 in
theorem t_S_inRows_5 {p : Program} {l : Launch} {e : Env} {R : Room} {s : State} {m : MethodId} {args : Array Value} {below : List Frame} {meth : Method} {c : Code} {Q : State → Prop} {D : va_G} {ad : Nat → Nat} {cI : ClassId} {A : Nat → Prop} (F : CallFix p m c qb_S_inRows 5 s args qtb "CaptureSubtypes$Shapes") (hR : 2 ≤ R.frames ∧ 69 ≤ R.locals) (hK : va_K D qcl [(cI, .int)] s) (hN : qnests xns s) (hA : ∀ q, s.heap.size ≤ q → A q) {res : (Int32 × (Nat → Nat → Int32))} (hQ : ∀ (H : Heap) (locs : List Loc) (pc : Nat) (ls : Array Slot), decode qb_S_inRows pc = .ok (.ireturn, 1) → xW D ad cI A s.heap res.2 H locs → W p l e R s m args below meth c H locs 0 0 Q (F0 m pc ls [.int res.1])) : ∀ (n : Nat) (S : (Nat → Nat → Int32)) (v2 v3 v4 : Int32) (hM : f_S_inRows_5 n S v2 v3 v4 = some res) {H : Heap} {locs : List Loc} {ls : Array Slot} (w : xW D ad cI A s.heap S H locs) (hl : lv_has ls 5 [(0, .ref (ad 3)), (2, .int v2), (3, .int v3), (4, .int v4)]), W p l e R s m args below meth c H locs 0 0 Q (F0 m 5 ls []) := by
  intro n
  induction n with
  | zero => intro S v2 v3 v4 hM; exact absurd hM (by simp [f_S_inRows_5])
  | succ n ih => intro S v2 v3 v4 hM H locs ls w hl; exact tb_S_inRows_5 F hR hK hN hA hQ (k_5 := f_S_inRows_5 n) (fun S v2 v3 v4 hM H locs ls w hl => ih S v2 v3 v4 hM w hl) S v2 v3 v4 hM w hl
set_option maxRecDepth 100000 in
set_option maxHeartbeats 4000000 in
theorem t_S_inRows {p : Program} {l : Launch} {e : Env} {R : Room} {s : State} {m : MethodId} {args : Array Value} {below : List Frame} {meth : Method} {c : Code} {Q : State → Prop} {D : va_G} {ad : Nat → Nat} {cI : ClassId} {A : Nat → Prop} (F : CallFix p m c qb_S_inRows 5 s args qtb "CaptureSubtypes$Shapes") (hR : 2 ≤ R.frames ∧ 69 ≤ R.locals) (hK : va_K D qcl [(cI, .int)] s) (hN : qnests xns s) (hA : ∀ q, s.heap.size ≤ q → A q) {res : (Int32 × (Nat → Nat → Int32))} (hQ : ∀ (H : Heap) (locs : List Loc) (pc : Nat) (ls : Array Slot), decode qb_S_inRows pc = .ok (.ireturn, 1) → xW D ad cI A s.heap res.2 H locs → W p l e R s m args below meth c H locs 0 0 Q (F0 m pc ls [.int res.1])) (S : (Nat → Nat → Int32)) (a1 a2 : Int32) (hM : f_S_inRows S a1 a2 = some res) {H : Heap} {locs : List Loc} {ls : Array Slot} (w : xW D ad cI A s.heap S H locs) (hl : lv_has ls 5 [(0, .ref (ad 3)), (1, .int a1), (2, .int a2)]) : W p l e R s m args below meth c H locs 0 0 Q (F0 m 0 ls []) := by
  unfold f_S_inRows at hM
  refine lv_iload_n F.1 F.2.1 qd_S_inRows_0 rfl (lv_at hl 1 rfl) ?_
  refine lv_istore_n (lv' := [(3, .int a1), (0, .ref (ad 3)), (1, .int a1), (2, .int a2)]) F.1 F.2.1 qd_S_inRows_1 rfl hl (by decide) rfl (fun ls hl => ?_)
  refine lv_iconst (v := 0) F.1 F.2.1 qd_S_inRows_2 (by decide) ?_
  refine lv_istore (lv' := [(4, .int (0 : Int32)), (3, .int a1), (0, .ref (ad 3)), (1, .int a1), (2, .int a2)]) F.1 F.2.1 qd_S_inRows_3 hl (by decide) rfl (fun ls hl => ?_)
  exact t_S_inRows_5 F hR hK hN hA hQ  qfu _ _ _ _ hM w (lv_sub hl [2, 4, 1, 0] rfl)
set_option maxRecDepth 100000 in
theorem c_S_inRows (l : Launch) (D : va_G) (ad : Nat → Nat) (cI : ClassId) {S : (Nat → Nat → Int32)} {a1 a2 : Int32} {res : (Int32 × (Nat → Nat → Int32))} (hM : f_S_inRows S a1 a2 = some res) : xMi l qy_S_inRows qb_S_inRows 5 (some .int) { frames := 2, cells := 0, slots := 0, locals := 69 } D ad cI S [.ref (ad 3), .int a1, .int a2] res.1 res.2 := x_ofi (by decide +kernel) (Nat.le_of_ble_eq_true rfl) (fun p e s m args below meth c Q A ls F hK hN hA w hl hQ => t_S_inRows F ⟨Nat.le_refl _, Nat.le_refl _⟩ hK hN hA hQ S a1 a2 hM w hl)
-- S_erasure
def f_S_erasure_90 (S : (Nat → Nat → Int32)) (v3 s1 : Int32) : Option (Int32 × (Nat → Nat → Int32)) := (f_S_inRows S s1 v3).bind (fun q1 => some (q1.1, q1.2))
def fb_S_erasure_7 (k_7 : (Nat → Nat → Int32) → Int32 → Int32 → Int32 → Option (Int32 × (Nat → Nat → Int32))) (S : (Nat → Nat → Int32)) (v2 v3 v4 : Int32) : Option (Int32 × (Nat → Nat → Int32)) := if (1024 : Int32) ≤ v4 then (some ((-3 : Int32), S)) else ((f_T_isVariable S v2).bind (fun q2 => if (qB q2) = 0 then ((f_T_sortOf S v2).bind (fun q5 => if q5 = (4 : Int32) then ((f_T_firstOf S v2).bind (fun q15 => k_7 S q15 (v3 + (1 : Int32)) (v4 + (1 : Int32)))) else ((f_T_isOfClass S v2).bind (fun q8 => if (qB q8) = 0 then (f_S_erasure_90  S v3 v2) else ((f_T_ownerOf S v2).bind (fun q11 => (f_S_nameAlone S q11).bind (fun q13 => f_S_erasure_90  q13.2 v3 q13.1))))))) else ((f_S_boundOf S v2 (0 : Int32)).bind (fun q17 => k_7 q17.2 q17.1 v3 (v4 + (1 : Int32))))))
def f_S_erasure_7 : Nat → (Nat → Nat → Int32) → Int32 → Int32 → Int32 → Option (Int32 × (Nat → Nat → Int32))
  | 0 => fun _ _ _ _ => none
  | n + 1 => fun S v2 v3 v4 => fb_S_erasure_7 (f_S_erasure_7 n) S v2 v3 v4
def f_S_erasure (S : (Nat → Nat → Int32)) (a1 : Int32) : Option (Int32 × (Nat → Nat → Int32)) := f_S_erasure_7  qfu S a1 (0 : Int32) (0 : Int32)
set_option maxRecDepth 100000 in
set_option maxHeartbeats 4000000 in
theorem t_S_erasure_90 {p : Program} {l : Launch} {e : Env} {R : Room} {s : State} {m : MethodId} {args : Array Value} {below : List Frame} {meth : Method} {c : Code} {Q : State → Prop} {D : va_G} {ad : Nat → Nat} {cI : ClassId} {A : Nat → Prop} (F : CallFix p m c qb_S_erasure 6 s args qtb "CaptureSubtypes$Shapes") (hR : 68 ≤ R.frames ∧ 1848 ≤ R.locals) (hK : va_K D qcl [(cI, .int)] s) (hN : qnests xns s) (hA : ∀ q, s.heap.size ≤ q → A q) {res : (Int32 × (Nat → Nat → Int32))} (hQ : ∀ (H : Heap) (locs : List Loc) (pc : Nat) (ls : Array Slot), decode qb_S_erasure pc = .ok (.ireturn, 1) → xW D ad cI A s.heap res.2 H locs → W p l e R s m args below meth c H locs 0 0 Q (F0 m pc ls [.int res.1])) (S : (Nat → Nat → Int32)) (v3 s1 : Int32) (hM : f_S_erasure_90 S v3 s1 = some res) {H : Heap} {locs : List Loc} {ls : Array Slot} (w : xW D ad cI A s.heap S H locs) (hl : lv_has ls 6 [(0, .ref (ad 3)), (3, .int v3)]) : W p l e R s m args below meth c H locs 0 0 Q (F0 m 90 ls [.int s1]) := by
  unfold f_S_erasure_90 at hM
  refine lv_istore (lv' := [(5, .int s1), (0, .ref (ad 3)), (3, .int v3)]) F.1 F.2.1 qd_S_erasure_90 hl (by decide) rfl (fun ls hl => ?_)
  refine lv_aload_n F.1 F.2.1 qd_S_erasure_92 rfl (lv_at hl 1 rfl) ?_
  refine lv_iload F.1 F.2.1 qd_S_erasure_93 (lv_at hl 0 rfl) ?_
  refine lv_iload_n F.1 F.2.1 qd_S_erasure_95 rfl (lv_at hl 2 rfl) ?_
  obtain ⟨q1, hq2, hM⟩ := qbd hM
  refine x_calli F hK hN hA w (c_S_inRows l D ad cI hq2) qk_600 qk_602 qs_S_inRows qk_5 qk_603 qv_S_inRows rfl rfl ⟨Nat.le_trans (by decide) hR.1, Nat.le_trans (by decide) hR.2⟩ (ci := 2) rfl (j := 3) rfl hl.1 rfl (Nat.le_of_ble_eq_true rfl) qd_S_erasure_96 (fun H locs w => ?_)
  cases hM
  exact hQ _ _ _ _ qd_S_erasure_99 w
set_option maxRecDepth 100000 in
set_option maxHeartbeats 4000000 in
theorem tb_S_erasure_7 {p : Program} {l : Launch} {e : Env} {R : Room} {s : State} {m : MethodId} {args : Array Value} {below : List Frame} {meth : Method} {c : Code} {Q : State → Prop} {D : va_G} {ad : Nat → Nat} {cI : ClassId} {A : Nat → Prop} (F : CallFix p m c qb_S_erasure 6 s args qtb "CaptureSubtypes$Shapes") (hR : 68 ≤ R.frames ∧ 1848 ≤ R.locals) (hK : va_K D qcl [(cI, .int)] s) (hN : qnests xns s) (hA : ∀ q, s.heap.size ≤ q → A q) {res : (Int32 × (Nat → Nat → Int32))} (hQ : ∀ (H : Heap) (locs : List Loc) (pc : Nat) (ls : Array Slot), decode qb_S_erasure pc = .ok (.ireturn, 1) → xW D ad cI A s.heap res.2 H locs → W p l e R s m args below meth c H locs 0 0 Q (F0 m pc ls [.int res.1])) {k_7 : (Nat → Nat → Int32) → Int32 → Int32 → Int32 → Option (Int32 × (Nat → Nat → Int32))} (hk_7 : ∀ (S : Nat → Nat → Int32) (v2 v3 v4 : Int32), k_7 S v2 v3 v4 = some res → ∀ {H : Heap} {locs : List Loc} {ls : Array Slot}, xW D ad cI A s.heap S H locs → lv_has ls 6 [(0, .ref (ad 3)), (2, .int v2), (3, .int v3), (4, .int v4)] → W p l e R s m args below meth c H locs 0 0 Q (F0 m 7 ls [])) (S : (Nat → Nat → Int32)) (v2 v3 v4 : Int32) (hM : fb_S_erasure_7 k_7 S v2 v3 v4 = some res) {H : Heap} {locs : List Loc} {ls : Array Slot} (w : xW D ad cI A s.heap S H locs) (hl : lv_has ls 6 [(0, .ref (ad 3)), (2, .int v2), (3, .int v3), (4, .int v4)]) : W p l e R s m args below meth c H locs 0 0 Q (F0 m 7 ls []) := by
  unfold fb_S_erasure_7 at hM
  refine lv_iload F.1 F.2.1 qd_S_erasure_7 (lv_at hl 3 rfl) ?_
  refine lv_sipush (v := 1024) F.1 F.2.1 qd_S_erasure_9 (by decide) ?_
  refine lv_icmp_ge (tgt := 106) F.1 F.2.1 qd_S_erasure_12 (by decide) (fun hc1 => ?_) (fun hc1 => ?_)
  · rw [if_pos hc1] at hM
    refine lv_bipush (v := (-3)) F.1 F.2.1 qd_S_erasure_106 (by decide) ?_
    cases hM
    exact hQ _ _ _ _ qd_S_erasure_108 w
  · rw [if_neg hc1] at hM
    refine lv_aload_n F.1 F.2.1 qd_S_erasure_15 rfl (lv_at hl 0 rfl) ?_
    refine xg_S_types F hK w qk_126 qd_S_erasure_16 ?_
    refine lv_iload_n F.1 F.2.1 qd_S_erasure_19 rfl (lv_at hl 1 rfl) ?_
    obtain ⟨q2, hq3, hM⟩ := qbd hM
    refine x_calli F hK hN hA w (c_T_isVariable l D ad cI hq3) qk_598 qk_468 qk_469 qk_3 qk_470 qv_T_isVariable rfl rfl ⟨Nat.le_trans (by decide) hR.1, Nat.le_trans (by decide) hR.2⟩ (ci := 1) rfl (j := 2) rfl hl.1 rfl (Nat.le_of_ble_eq_true rfl) qd_S_erasure_20 (fun H locs w => ?_)
    refine lv_if_eq (tgt := 36) F.1 F.2.1 qd_S_erasure_23 (by decide) (fun hc4 => ?_) (fun hc4 => ?_)
    · rw [if_pos hc4] at hM
      refine lv_aload_n F.1 F.2.1 qd_S_erasure_36 rfl (lv_at hl 0 rfl) ?_
      refine xg_S_types F hK w qk_126 qd_S_erasure_37 ?_
      refine lv_iload_n F.1 F.2.1 qd_S_erasure_40 rfl (lv_at hl 1 rfl) ?_
      obtain ⟨q5, hq6, hM⟩ := qbd hM
      refine x_calli F hK hN hA w (c_T_sortOf l D ad cI hq6) qk_322 qk_270 qk_271 qk_3 qk_272 qv_T_sortOf rfl rfl ⟨Nat.le_trans (by decide) hR.1, Nat.le_trans (by decide) hR.2⟩ (ci := 1) rfl (j := 2) rfl hl.1 rfl (Nat.le_of_ble_eq_true rfl) qd_S_erasure_41 (fun H locs w => ?_)
      refine lv_iconst (v := 4) F.1 F.2.1 qd_S_erasure_44 (by decide) ?_
      refine lv_icmp_ne (tgt := 63) F.1 F.2.1 qd_S_erasure_45 (by decide) (fun hc7 => ?_) (fun hc7 => ?_)
      · rw [if_neg hc7] at hM
        refine lv_aload_n F.1 F.2.1 qd_S_erasure_63 rfl (lv_at hl 0 rfl) ?_
        refine xg_S_types F hK w qk_126 qd_S_erasure_64 ?_
        refine lv_iload_n F.1 F.2.1 qd_S_erasure_67 rfl (lv_at hl 1 rfl) ?_
        obtain ⟨q8, hq9, hM⟩ := qbd hM
        refine x_calli F hK hN hA w (c_T_isOfClass l D ad cI hq9) qk_317 qk_266 qk_267 qk_3 qk_268 qv_T_isOfClass rfl rfl ⟨Nat.le_trans (by decide) hR.1, Nat.le_trans (by decide) hR.2⟩ (ci := 1) rfl (j := 2) rfl hl.1 rfl (Nat.le_of_ble_eq_true rfl) qd_S_erasure_68 (fun H locs w => ?_)
        refine lv_if_eq (tgt := 89) F.1 F.2.1 qd_S_erasure_71 (by decide) (fun hc10 => ?_) (fun hc10 => ?_)
        · rw [if_pos hc10] at hM
          refine lv_iload_n F.1 F.2.1 qd_S_erasure_89 rfl (lv_at hl 1 rfl) ?_
          exact t_S_erasure_90 F hR hK hN hA hQ  _ _ _ hM w (lv_sub hl [0, 2] rfl)
        · rw [if_neg hc10] at hM
          refine lv_aload_n F.1 F.2.1 qd_S_erasure_74 rfl (lv_at hl 0 rfl) ?_
          refine lv_aload_n F.1 F.2.1 qd_S_erasure_75 rfl (lv_at hl 0 rfl) ?_
          refine xg_S_types F hK w qk_126 qd_S_erasure_76 ?_
          refine lv_iload_n F.1 F.2.1 qd_S_erasure_79 rfl (lv_at hl 1 rfl) ?_
          obtain ⟨q11, hq12, hM⟩ := qbd hM
          refine x_calli F hK hN hA w (c_T_ownerOf l D ad cI hq12) qk_316 qk_274 qk_275 qk_3 qk_276 qv_T_ownerOf rfl rfl ⟨Nat.le_trans (by decide) hR.1, Nat.le_trans (by decide) hR.2⟩ (ci := 1) rfl (j := 2) rfl hl.1 rfl (Nat.le_of_ble_eq_true rfl) qd_S_erasure_80 (fun H locs w => ?_)
          obtain ⟨q13, hq14, hM⟩ := qbd hM
          refine x_calli F hK hN hA w (c_S_nameAlone l D ad cI hq14) qk_323 qk_325 qs_S_nameAlone qk_5 qk_326 qv_S_nameAlone rfl rfl ⟨Nat.le_trans (by decide) hR.1, Nat.le_trans (by decide) hR.2⟩ (ci := 2) rfl (j := 3) rfl hl.1 rfl (Nat.le_of_ble_eq_true rfl) qd_S_erasure_83 (fun H locs w => ?_)
          refine lv_goto (tgt := 90) F.1 F.2.1 qd_S_erasure_86 (by decide) ?_
          exact t_S_erasure_90 F hR hK hN hA hQ  _ _ _ hM w (lv_sub hl [0, 2] rfl)
      · rw [if_pos hc7] at hM
        refine lv_aload_n F.1 F.2.1 qd_S_erasure_48 rfl (lv_at hl 0 rfl) ?_
        refine xg_S_types F hK w qk_126 qd_S_erasure_49 ?_
        refine lv_iload_n F.1 F.2.1 qd_S_erasure_52 rfl (lv_at hl 1 rfl) ?_
        obtain ⟨q15, hq16, hM⟩ := qbd hM
        refine x_calli F hK hN hA w (c_T_firstOf l D ad cI hq16) qk_341 qk_342 qk_343 qk_3 qk_344 qv_T_firstOf rfl rfl ⟨Nat.le_trans (by decide) hR.1, Nat.le_trans (by decide) hR.2⟩ (ci := 1) rfl (j := 2) rfl hl.1 rfl (Nat.le_of_ble_eq_true rfl) qd_S_erasure_53 (fun H locs w => ?_)
        refine lv_istore_n (lv' := [(2, .int q15), (0, .ref (ad 3)), (3, .int v3), (4, .int v4)]) F.1 F.2.1 qd_S_erasure_56 rfl hl (by decide) rfl (fun ls hl => ?_)
        refine lv_iinc (v := (v3 + (1 : Int32))) (lv' := [(3, .int (v3 + (1 : Int32))), (2, .int q15), (0, .ref (ad 3)), (4, .int v4)]) F.1 F.2.1 qd_S_erasure_57 hl (k := 2) rfl rfl (by decide) rfl (fun ls hl => ?_)
        refine lv_goto (tgt := 100) F.1 F.2.1 qd_S_erasure_60 (by decide) ?_
        refine lv_iinc (v := (v4 + (1 : Int32))) (lv' := [(4, .int (v4 + (1 : Int32))), (3, .int (v3 + (1 : Int32))), (2, .int q15), (0, .ref (ad 3))]) F.1 F.2.1 qd_S_erasure_100 hl (k := 3) rfl rfl (by decide) rfl (fun ls hl => ?_)
        refine lv_goto (tgt := 7) F.1 F.2.1 qd_S_erasure_103 (by decide) ?_
        exact hk_7 _ _ _ _ hM w (lv_sub hl [3, 2, 1, 0] rfl)
    · rw [if_neg hc4] at hM
      refine lv_aload_n F.1 F.2.1 qd_S_erasure_26 rfl (lv_at hl 0 rfl) ?_
      refine lv_iload_n F.1 F.2.1 qd_S_erasure_27 rfl (lv_at hl 1 rfl) ?_
      refine lv_iconst (v := 0) F.1 F.2.1 qd_S_erasure_28 (by decide) ?_
      obtain ⟨q17, hq18, hM⟩ := qbd hM
      refine x_calli F hK hN hA w (c_S_boundOf l D ad cI hq18) qk_599 qk_486 qk_487 qk_5 qk_488 qv_S_boundOf rfl rfl ⟨Nat.le_trans (by decide) hR.1, Nat.le_trans (by decide) hR.2⟩ (ci := 2) rfl (j := 3) rfl hl.1 rfl (Nat.le_of_ble_eq_true rfl) qd_S_erasure_29 (fun H locs w => ?_)
      refine lv_istore_n (lv' := [(2, .int q17.1), (0, .ref (ad 3)), (3, .int v3), (4, .int v4)]) F.1 F.2.1 qd_S_erasure_32 rfl hl (by decide) rfl (fun ls hl => ?_)
      refine lv_goto (tgt := 100) F.1 F.2.1 qd_S_erasure_33 (by decide) ?_
      refine lv_iinc (v := (v4 + (1 : Int32))) (lv' := [(4, .int (v4 + (1 : Int32))), (2, .int q17.1), (0, .ref (ad 3)), (3, .int v3)]) F.1 F.2.1 qd_S_erasure_100 hl (k := 3) rfl rfl (by decide) rfl (fun ls hl => ?_)
      refine lv_goto (tgt := 7) F.1 F.2.1 qd_S_erasure_103 (by decide) ?_
      exact hk_7 _ _ _ _ hM w (lv_sub hl [2, 1, 3, 0] rfl)
set_option maxRecDepth 100000 in
set_option maxHeartbeats 4000000 in
theorem t_S_erasure_7 {p : Program} {l : Launch} {e : Env} {R : Room} {s : State} {m : MethodId} {args : Array Value} {below : List Frame} {meth : Method} {c : Code} {Q : State → Prop} {D : va_G} {ad : Nat → Nat} {cI : ClassId} {A : Nat → Prop} (F : CallFix p m c qb_S_erasure 6 s args qtb "CaptureSubtypes$Shapes") (hR : 68 ≤ R.frames ∧ 1848 ≤ R.locals) (hK : va_K D qcl [(cI, .int)] s) (hN : qnests xns s) (hA : ∀ q, s.heap.size ≤ q → A q) {res : (Int32 × (Nat → Nat → Int32))} (hQ : ∀ (H : Heap) (locs : List Loc) (pc : Nat) (ls : Array Slot), decode qb_S_erasure pc = .ok (.ireturn, 1) → xW D ad cI A s.heap res.2 H locs → W p l e R s m args below meth c H locs 0 0 Q (F0 m pc ls [.int res.1])) : ∀ (n : Nat) (S : (Nat → Nat → Int32)) (v2 v3 v4 : Int32) (hM : f_S_erasure_7 n S v2 v3 v4 = some res) {H : Heap} {locs : List Loc} {ls : Array Slot} (w : xW D ad cI A s.heap S H locs) (hl : lv_has ls 6 [(0, .ref (ad 3)), (2, .int v2), (3, .int v3), (4, .int v4)]), W p l e R s m args below meth c H locs 0 0 Q (F0 m 7 ls []) := by
  intro n
  induction n with
  | zero => intro S v2 v3 v4 hM; exact absurd hM (by simp [f_S_erasure_7])
  | succ n ih => intro S v2 v3 v4 hM H locs ls w hl; exact tb_S_erasure_7 F hR hK hN hA hQ (k_7 := f_S_erasure_7 n) (fun S v2 v3 v4 hM H locs ls w hl => ih S v2 v3 v4 hM w hl) S v2 v3 v4 hM w hl
set_option maxRecDepth 100000 in
set_option maxHeartbeats 4000000 in
theorem t_S_erasure {p : Program} {l : Launch} {e : Env} {R : Room} {s : State} {m : MethodId} {args : Array Value} {below : List Frame} {meth : Method} {c : Code} {Q : State → Prop} {D : va_G} {ad : Nat → Nat} {cI : ClassId} {A : Nat → Prop} (F : CallFix p m c qb_S_erasure 6 s args qtb "CaptureSubtypes$Shapes") (hR : 68 ≤ R.frames ∧ 1848 ≤ R.locals) (hK : va_K D qcl [(cI, .int)] s) (hN : qnests xns s) (hA : ∀ q, s.heap.size ≤ q → A q) {res : (Int32 × (Nat → Nat → Int32))} (hQ : ∀ (H : Heap) (locs : List Loc) (pc : Nat) (ls : Array Slot), decode qb_S_erasure pc = .ok (.ireturn, 1) → xW D ad cI A s.heap res.2 H locs → W p l e R s m args below meth c H locs 0 0 Q (F0 m pc ls [.int res.1])) (S : (Nat → Nat → Int32)) (a1 : Int32) (hM : f_S_erasure S a1 = some res) {H : Heap} {locs : List Loc} {ls : Array Slot} (w : xW D ad cI A s.heap S H locs) (hl : lv_has ls 6 [(0, .ref (ad 3)), (1, .int a1)]) : W p l e R s m args below meth c H locs 0 0 Q (F0 m 0 ls []) := by
  unfold f_S_erasure at hM
  refine lv_iload_n F.1 F.2.1 qd_S_erasure_0 rfl (lv_at hl 1 rfl) ?_
  refine lv_istore_n (lv' := [(2, .int a1), (0, .ref (ad 3)), (1, .int a1)]) F.1 F.2.1 qd_S_erasure_1 rfl hl (by decide) rfl (fun ls hl => ?_)
  refine lv_iconst (v := 0) F.1 F.2.1 qd_S_erasure_2 (by decide) ?_
  refine lv_istore_n (lv' := [(3, .int (0 : Int32)), (2, .int a1), (0, .ref (ad 3)), (1, .int a1)]) F.1 F.2.1 qd_S_erasure_3 rfl hl (by decide) rfl (fun ls hl => ?_)
  refine lv_iconst (v := 0) F.1 F.2.1 qd_S_erasure_4 (by decide) ?_
  refine lv_istore (lv' := [(4, .int (0 : Int32)), (3, .int (0 : Int32)), (2, .int a1), (0, .ref (ad 3)), (1, .int a1)]) F.1 F.2.1 qd_S_erasure_5 hl (by decide) rfl (fun ls hl => ?_)
  exact t_S_erasure_7 F hR hK hN hA hQ  qfu _ _ _ _ hM w (lv_sub hl [3, 2, 1, 0] rfl)
set_option maxRecDepth 100000 in
theorem c_S_erasure (l : Launch) (D : va_G) (ad : Nat → Nat) (cI : ClassId) {S : (Nat → Nat → Int32)} {a1 : Int32} {res : (Int32 × (Nat → Nat → Int32))} (hM : f_S_erasure S a1 = some res) : xMi l qy_S_erasure qb_S_erasure 6 (some .int) { frames := 68, cells := 0, slots := 0, locals := 1848 } D ad cI S [.ref (ad 3), .int a1] res.1 res.2 := x_ofi (by decide +kernel) (Nat.le_of_ble_eq_true rfl) (fun p e s m args below meth c Q A ls F hK hN hA w hl hQ => t_S_erasure F ⟨Nat.le_refl _, Nat.le_refl _⟩ hK hN hA hQ S a1 hM w hl)
-- U_areStrangers
def f_U_areStrangers_65 (S : (Nat → Nat → Int32)) (v3 s1 : Int32) : Option (Bool × (Nat → Nat → Int32)) := (f_T_dropTo S v3).bind (fun q1 => qck (q01 s1) (some (decide (s1 = 1), q1)))
def f_U_areStrangers_64 (S : (Nat → Nat → Int32)) (v3 : Int32) : Option (Bool × (Nat → Nat → Int32)) := f_U_areStrangers_65  S v3 (0 : Int32)
def f_U_areStrangers (S : (Nat → Nat → Int32)) (a1 a2 : Int32) : Option (Bool × (Nat → Nat → Int32)) := (f_T_mark S).bind (fun q1 => (f_S_erasure S a1).bind (fun q3 => (f_S_erasure q3.2 a2).bind (fun q5 => (f_O_isOne 64 q5.2 q3.1 q5.1 (40 : Int32)).bind (fun q7 => if (qB q7.1) = 0 then ((f_O_isOne 64 q7.2 q5.1 q3.1 (40 : Int32)).bind (fun q10 => if (qB q10.1) = 0 then (f_U_areStrangers_65  q10.2 q1 (1 : Int32)) else (f_U_areStrangers_64  q10.2 q1))) else (f_U_areStrangers_64  q7.2 q1)))))
set_option maxRecDepth 100000 in
set_option maxHeartbeats 4000000 in
theorem t_U_areStrangers_65 {p : Program} {l : Launch} {e : Env} {R : Room} {s : State} {m : MethodId} {args : Array Value} {below : List Frame} {meth : Method} {c : Code} {Q : State → Prop} {D : va_G} {ad : Nat → Nat} {cI : ClassId} {A : Nat → Prop} (F : CallFix p m c qb_U_areStrangers 7 s args qtb "CaptureSubtypes$Turning") (hR : 325 ≤ R.frames ∧ 8019 ≤ R.locals) (hK : va_K D qcl [(cI, .int)] s) (hN : qnests xns s) (hA : ∀ q, s.heap.size ≤ q → A q) {res : (Bool × (Nat → Nat → Int32))} (hQ : ∀ (H : Heap) (locs : List Loc) (pc : Nat) (ls : Array Slot), decode qb_U_areStrangers pc = .ok (.ireturn, 1) → xW D ad cI A s.heap res.2 H locs → W p l e R s m args below meth c H locs 0 0 Q (F0 m pc ls [.int (qB res.1)])) (S : (Nat → Nat → Int32)) (v3 s1 : Int32) (hM : f_U_areStrangers_65 S v3 s1 = some res) {H : Heap} {locs : List Loc} {ls : Array Slot} (w : xW D ad cI A s.heap S H locs) (hl : lv_has ls 7 [(0, .ref (ad 5)), (3, .int v3)]) : W p l e R s m args below meth c H locs 0 0 Q (F0 m 65 ls [.int s1]) := by
  unfold f_U_areStrangers_65 at hM
  refine lv_istore (lv' := [(6, .int s1), (0, .ref (ad 5)), (3, .int v3)]) F.1 F.2.1 qd_U_areStrangers_65 hl (by decide) rfl (fun ls hl => ?_)
  refine lv_aload_n F.1 F.2.1 qd_U_areStrangers_67 rfl (lv_at hl 1 rfl) ?_
  refine xg_U_types F hK w qk_155 qd_U_areStrangers_68 ?_
  refine lv_iload_n F.1 F.2.1 qd_U_areStrangers_71 rfl (lv_at hl 2 rfl) ?_
  obtain ⟨q1, hq2, hM⟩ := qbd hM
  refine x_callv F hK hN hA w (c_T_dropTo l D ad cI hq2) qk_604 qk_354 qk_355 qk_3 qk_356 qv_T_dropTo rfl rfl ⟨Nat.le_trans (by decide) hR.1, Nat.le_trans (by decide) hR.2⟩ (ci := 1) rfl (j := 2) rfl hl.1 rfl (Nat.le_of_ble_eq_true rfl) qd_U_areStrangers_72 (fun H locs w => ?_)
  refine lv_iload F.1 F.2.1 qd_U_areStrangers_75 (lv_at hl 0 rfl) ?_
  obtain ⟨h01, hM⟩ := qck_ok hM
  cases hM
  have hz := hQ _ _ _ ls qd_U_areStrangers_77 w
  rw [q01_B h01] at hz
  exact hz
set_option maxRecDepth 100000 in
set_option maxHeartbeats 4000000 in
theorem t_U_areStrangers_64 {p : Program} {l : Launch} {e : Env} {R : Room} {s : State} {m : MethodId} {args : Array Value} {below : List Frame} {meth : Method} {c : Code} {Q : State → Prop} {D : va_G} {ad : Nat → Nat} {cI : ClassId} {A : Nat → Prop} (F : CallFix p m c qb_U_areStrangers 7 s args qtb "CaptureSubtypes$Turning") (hR : 325 ≤ R.frames ∧ 8019 ≤ R.locals) (hK : va_K D qcl [(cI, .int)] s) (hN : qnests xns s) (hA : ∀ q, s.heap.size ≤ q → A q) {res : (Bool × (Nat → Nat → Int32))} (hQ : ∀ (H : Heap) (locs : List Loc) (pc : Nat) (ls : Array Slot), decode qb_U_areStrangers pc = .ok (.ireturn, 1) → xW D ad cI A s.heap res.2 H locs → W p l e R s m args below meth c H locs 0 0 Q (F0 m pc ls [.int (qB res.1)])) (S : (Nat → Nat → Int32)) (v3 : Int32) (hM : f_U_areStrangers_64 S v3 = some res) {H : Heap} {locs : List Loc} {ls : Array Slot} (w : xW D ad cI A s.heap S H locs) (hl : lv_has ls 7 [(0, .ref (ad 5)), (3, .int v3)]) : W p l e R s m args below meth c H locs 0 0 Q (F0 m 64 ls []) := by
  unfold f_U_areStrangers_64 at hM
  refine lv_iconst (v := 0) F.1 F.2.1 qd_U_areStrangers_64 (by decide) ?_
  exact t_U_areStrangers_65 F hR hK hN hA hQ  _ _ _ hM w (lv_sub hl [0, 1] rfl)
set_option maxRecDepth 100000 in
set_option maxHeartbeats 4000000 in
theorem t_U_areStrangers {p : Program} {l : Launch} {e : Env} {R : Room} {s : State} {m : MethodId} {args : Array Value} {below : List Frame} {meth : Method} {c : Code} {Q : State → Prop} {D : va_G} {ad : Nat → Nat} {cI : ClassId} {A : Nat → Prop} (F : CallFix p m c qb_U_areStrangers 7 s args qtb "CaptureSubtypes$Turning") (hR : 325 ≤ R.frames ∧ 8019 ≤ R.locals) (hK : va_K D qcl [(cI, .int)] s) (hN : qnests xns s) (hA : ∀ q, s.heap.size ≤ q → A q) {res : (Bool × (Nat → Nat → Int32))} (hQ : ∀ (H : Heap) (locs : List Loc) (pc : Nat) (ls : Array Slot), decode qb_U_areStrangers pc = .ok (.ireturn, 1) → xW D ad cI A s.heap res.2 H locs → W p l e R s m args below meth c H locs 0 0 Q (F0 m pc ls [.int (qB res.1)])) (S : (Nat → Nat → Int32)) (a1 a2 : Int32) (hM : f_U_areStrangers S a1 a2 = some res) {H : Heap} {locs : List Loc} {ls : Array Slot} (w : xW D ad cI A s.heap S H locs) (hl : lv_has ls 7 [(0, .ref (ad 5)), (1, .int a1), (2, .int a2)]) : W p l e R s m args below meth c H locs 0 0 Q (F0 m 0 ls []) := by
  unfold f_U_areStrangers at hM
  refine lv_aload_n F.1 F.2.1 qd_U_areStrangers_0 rfl (lv_at hl 0 rfl) ?_
  refine xg_U_types F hK w qk_155 qd_U_areStrangers_1 ?_
  obtain ⟨q1, hq2, hM⟩ := qbd hM
  refine x_calli F hK hN hA w (c_T_mark l D ad cI hq2) qk_573 qk_306 qk_307 qk_3 qk_308 qv_T_mark rfl rfl ⟨Nat.le_trans (by decide) hR.1, Nat.le_trans (by decide) hR.2⟩ (ci := 1) rfl (j := 2) rfl hl.1 rfl (Nat.le_of_ble_eq_true rfl) qd_U_areStrangers_4 (fun H locs w => ?_)
  refine lv_istore_n (lv' := [(3, .int q1), (0, .ref (ad 5)), (1, .int a1), (2, .int a2)]) F.1 F.2.1 qd_U_areStrangers_7 rfl hl (by decide) rfl (fun ls hl => ?_)
  refine lv_aload_n F.1 F.2.1 qd_U_areStrangers_8 rfl (lv_at hl 1 rfl) ?_
  refine xg_U_shapes F hK w qk_156 qd_U_areStrangers_9 ?_
  refine lv_iload_n F.1 F.2.1 qd_U_areStrangers_12 rfl (lv_at hl 2 rfl) ?_
  obtain ⟨q3, hq4, hM⟩ := qbd hM
  refine x_calli F hK hN hA w (c_S_erasure l D ad cI hq4) qk_594 qk_595 qk_596 qk_5 qk_597 qv_S_erasure rfl rfl ⟨Nat.le_trans (by decide) hR.1, Nat.le_trans (by decide) hR.2⟩ (ci := 2) rfl (j := 3) rfl hl.1 rfl (Nat.le_of_ble_eq_true rfl) qd_U_areStrangers_13 (fun H locs w => ?_)
  refine lv_istore (lv' := [(4, .int q3.1), (3, .int q1), (0, .ref (ad 5)), (1, .int a1), (2, .int a2)]) F.1 F.2.1 qd_U_areStrangers_16 hl (by decide) rfl (fun ls hl => ?_)
  refine lv_aload_n F.1 F.2.1 qd_U_areStrangers_18 rfl (lv_at hl 2 rfl) ?_
  refine xg_U_shapes F hK w qk_156 qd_U_areStrangers_19 ?_
  refine lv_iload_n F.1 F.2.1 qd_U_areStrangers_22 rfl (lv_at hl 4 rfl) ?_
  obtain ⟨q5, hq6, hM⟩ := qbd hM
  refine x_calli F hK hN hA w (c_S_erasure l D ad cI hq6) qk_594 qk_595 qk_596 qk_5 qk_597 qv_S_erasure rfl rfl ⟨Nat.le_trans (by decide) hR.1, Nat.le_trans (by decide) hR.2⟩ (ci := 2) rfl (j := 3) rfl hl.1 rfl (Nat.le_of_ble_eq_true rfl) qd_U_areStrangers_23 (fun H locs w => ?_)
  refine lv_istore (lv' := [(5, .int q5.1), (4, .int q3.1), (3, .int q1), (0, .ref (ad 5)), (1, .int a1), (2, .int a2)]) F.1 F.2.1 qd_U_areStrangers_26 hl (by decide) rfl (fun ls hl => ?_)
  refine lv_aload_n F.1 F.2.1 qd_U_areStrangers_28 rfl (lv_at hl 3 rfl) ?_
  refine xg_U_order F hK w qk_157 qd_U_areStrangers_29 ?_
  refine lv_iload F.1 F.2.1 qd_U_areStrangers_32 (lv_at hl 1 rfl) ?_
  refine lv_iload F.1 F.2.1 qd_U_areStrangers_34 (lv_at hl 0 rfl) ?_
  refine lv_bipush (v := 40) F.1 F.2.1 qd_U_areStrangers_36 (by decide) ?_
  obtain ⟨q7, hq8, hM⟩ := qbd hM
  refine x_calliN F hK hN hA w (c_O_isOne l D ad cI 64 hq8) (host := "CaptureSubtypes") (hN _ (by decide +kernel)) qk_460 qs_O_isOne qk_6 qk_461 qv_O_isOne rfl rfl ⟨Nat.le_trans (by decide) hR.1, Nat.le_trans (by decide) hR.2⟩ (ci := 3) rfl (j := 4) rfl hl.1 rfl (Nat.le_of_ble_eq_true rfl) qd_U_areStrangers_38 (fun H locs w => ?_)
  refine lv_if_ne (tgt := 64) F.1 F.2.1 qd_U_areStrangers_41 (by decide) (fun hc9 => ?_) (fun hc9 => ?_)
  · rw [if_neg hc9] at hM
    exact t_U_areStrangers_64 F hR hK hN hA hQ  _ _ hM w (lv_sub hl [3, 2] rfl)
  · rw [if_pos hc9] at hM
    refine lv_aload_n F.1 F.2.1 qd_U_areStrangers_44 rfl (lv_at hl 3 rfl) ?_
    refine xg_U_order F hK w qk_157 qd_U_areStrangers_45 ?_
    refine lv_iload F.1 F.2.1 qd_U_areStrangers_48 (lv_at hl 0 rfl) ?_
    refine lv_iload F.1 F.2.1 qd_U_areStrangers_50 (lv_at hl 1 rfl) ?_
    refine lv_bipush (v := 40) F.1 F.2.1 qd_U_areStrangers_52 (by decide) ?_
    obtain ⟨q10, hq11, hM⟩ := qbd hM
    refine x_calliN F hK hN hA w (c_O_isOne l D ad cI 64 hq11) (host := "CaptureSubtypes") (hN _ (by decide +kernel)) qk_460 qs_O_isOne qk_6 qk_461 qv_O_isOne rfl rfl ⟨Nat.le_trans (by decide) hR.1, Nat.le_trans (by decide) hR.2⟩ (ci := 3) rfl (j := 4) rfl hl.1 rfl (Nat.le_of_ble_eq_true rfl) qd_U_areStrangers_54 (fun H locs w => ?_)
    refine lv_if_ne (tgt := 64) F.1 F.2.1 qd_U_areStrangers_57 (by decide) (fun hc12 => ?_) (fun hc12 => ?_)
    · rw [if_neg hc12] at hM
      exact t_U_areStrangers_64 F hR hK hN hA hQ  _ _ hM w (lv_sub hl [3, 2] rfl)
    · rw [if_pos hc12] at hM
      refine lv_iconst (v := 1) F.1 F.2.1 qd_U_areStrangers_60 (by decide) ?_
      refine lv_goto (tgt := 65) F.1 F.2.1 qd_U_areStrangers_61 (by decide) ?_
      exact t_U_areStrangers_65 F hR hK hN hA hQ  _ _ _ hM w (lv_sub hl [3, 2] rfl)
set_option maxRecDepth 100000 in
theorem c_U_areStrangers (l : Launch) (D : va_G) (ad : Nat → Nat) (cI : ClassId) {S : (Nat → Nat → Int32)} {a1 a2 : Int32} {res : (Bool × (Nat → Nat → Int32))} (hM : f_U_areStrangers S a1 a2 = some res) : xMi l qy_U_areStrangers qb_U_areStrangers 7 (some .boolean) { frames := 325, cells := 0, slots := 0, locals := 8019 } D ad cI S [.ref (ad 5), .int a1, .int a2] (qB res.1) res.2 := x_ofz (by decide +kernel) (Nat.le_of_ble_eq_true rfl) (fun p e s m args below meth c Q A ls F hK hN hA w hl hQ => t_U_areStrangers F ⟨Nat.le_refl _, Nat.le_refl _⟩ hK hN hA hQ S a1 a2 hM w hl)
-- U_differ
def fb_U_differ_100 (k_86 : (Nat → Nat → Int32) → Int32 → Int32 → Int32 → Option (Bool × (Nat → Nat → Int32))) (k_100 : (Nat → Nat → Int32) → Int32 → Int32 → Int32 → Int32 → Option (Bool × (Nat → Nat → Int32))) (S : (Nat → Nat → Int32)) (v4 v5 v6 v7 : Int32) : Option (Bool × (Nat → Nat → Int32)) := (f_U_facetCount S v5).bind (fun q1 => if q1 ≤ v7 then (k_86 S v4 v5 (v6 + (1 : Int32))) else ((f_U_facet S v4 v6).bind (fun q4 => (f_U_facet q4.2 v5 v7).bind (fun q6 => (f_U_areStrangers q6.2 q4.1 q6.1).bind (fun q8 => if (qB q8.1) = 0 then (k_100 q8.2 v4 v5 v6 (v7 + (1 : Int32))) else (some (true, q8.2)))))))
def f_U_differ_100 (k_86 : (Nat → Nat → Int32) → Int32 → Int32 → Int32 → Option (Bool × (Nat → Nat → Int32))) : Nat → (Nat → Nat → Int32) → Int32 → Int32 → Int32 → Int32 → Option (Bool × (Nat → Nat → Int32))
  | 0 => fun _ _ _ _ _ => none
  | n + 1 => fun S v4 v5 v6 v7 => fb_U_differ_100 k_86 (f_U_differ_100 k_86 n) S v4 v5 v6 v7
def fb_U_differ_86 (k_86 : (Nat → Nat → Int32) → Int32 → Int32 → Int32 → Option (Bool × (Nat → Nat → Int32))) (S : (Nat → Nat → Int32)) (v4 v5 v6 : Int32) : Option (Bool × (Nat → Nat → Int32)) := (f_U_facetCount S v4).bind (fun q1 => if q1 ≤ v6 then (some (false, S)) else (f_U_differ_100 k_86 qfu S v4 v5 v6 (0 : Int32)))
def f_U_differ_86 : Nat → (Nat → Nat → Int32) → Int32 → Int32 → Int32 → Option (Bool × (Nat → Nat → Int32))
  | 0 => fun _ _ _ _ => none
  | n + 1 => fun S v4 v5 v6 => fb_U_differ_86 (f_U_differ_86 n) S v4 v5 v6
def f_U_differ (S : (Nat → Nat → Int32)) (a1 a2 a3 : Int32) : Option (Bool × (Nat → Nat → Int32)) := (f_T_sortOf S a1).bind (fun q1 => if q1 = (2 : Int32) then ((f_T_sortOf S a2).bind (fun q4 => if q4 = (2 : Int32) then ((f_T_argumentOf S a1 a3).bind (fun q7 => (f_T_argumentOf S a2 a3).bind (fun q9 => if q7 = q9 then (some (false, S)) else ((f_T_isVariable S q7).bind (fun q12 => if (qB q12) = 0 then ((f_T_isVariable S q9).bind (fun q15 => if (qB q15) = 0 then (some (true, S)) else (f_U_differ_86  qfu S q7 q9 (0 : Int32)))) else (f_U_differ_86  qfu S q7 q9 (0 : Int32))))))) else (some (false, S)))) else (some (false, S)))
set_option maxRecDepth 100000 in
set_option maxHeartbeats 4000000 in
theorem tb_U_differ_100 {p : Program} {l : Launch} {e : Env} {R : Room} {s : State} {m : MethodId} {args : Array Value} {below : List Frame} {meth : Method} {c : Code} {Q : State → Prop} {D : va_G} {ad : Nat → Nat} {cI : ClassId} {A : Nat → Prop} (F : CallFix p m c qb_U_differ 8 s args qtb "CaptureSubtypes$Turning") (hR : 326 ≤ R.frames ∧ 8045 ≤ R.locals) (hK : va_K D qcl [(cI, .int)] s) (hN : qnests xns s) (hA : ∀ q, s.heap.size ≤ q → A q) {res : (Bool × (Nat → Nat → Int32))} (hQ : ∀ (H : Heap) (locs : List Loc) (pc : Nat) (ls : Array Slot), decode qb_U_differ pc = .ok (.ireturn, 1) → xW D ad cI A s.heap res.2 H locs → W p l e R s m args below meth c H locs 0 0 Q (F0 m pc ls [.int (qB res.1)])) {k_86 : (Nat → Nat → Int32) → Int32 → Int32 → Int32 → Option (Bool × (Nat → Nat → Int32))} (hk_86 : ∀ (S : Nat → Nat → Int32) (v4 v5 v6 : Int32), k_86 S v4 v5 v6 = some res → ∀ {H : Heap} {locs : List Loc} {ls : Array Slot}, xW D ad cI A s.heap S H locs → lv_has ls 8 [(0, .ref (ad 5)), (4, .int v4), (5, .int v5), (6, .int v6)] → W p l e R s m args below meth c H locs 0 0 Q (F0 m 86 ls [])) {k_100 : (Nat → Nat → Int32) → Int32 → Int32 → Int32 → Int32 → Option (Bool × (Nat → Nat → Int32))} (hk_100 : ∀ (S : Nat → Nat → Int32) (v4 v5 v6 v7 : Int32), k_100 S v4 v5 v6 v7 = some res → ∀ {H : Heap} {locs : List Loc} {ls : Array Slot}, xW D ad cI A s.heap S H locs → lv_has ls 8 [(0, .ref (ad 5)), (4, .int v4), (5, .int v5), (6, .int v6), (7, .int v7)] → W p l e R s m args below meth c H locs 0 0 Q (F0 m 100 ls [])) (S : (Nat → Nat → Int32)) (v4 v5 v6 v7 : Int32) (hM : fb_U_differ_100 k_86 k_100 S v4 v5 v6 v7 = some res) {H : Heap} {locs : List Loc} {ls : Array Slot} (w : xW D ad cI A s.heap S H locs) (hl : lv_has ls 8 [(0, .ref (ad 5)), (4, .int v4), (5, .int v5), (6, .int v6), (7, .int v7)]) : W p l e R s m args below meth c H locs 0 0 Q (F0 m 100 ls []) := by
  unfold fb_U_differ_100 at hM
  refine lv_iload F.1 F.2.1 qd_U_differ_100 (lv_at hl 4 rfl) ?_
  refine lv_aload_n F.1 F.2.1 qd_U_differ_102 rfl (lv_at hl 0 rfl) ?_
  refine lv_iload F.1 F.2.1 qd_U_differ_103 (lv_at hl 2 rfl) ?_
  obtain ⟨q1, hq2, hM⟩ := qbd hM
  refine x_calli F hK hN hA w (c_U_facetCount l D ad cI hq2) qk_582 qk_584 qs_U_facetCount qk_7 qk_585 qv_U_facetCount rfl rfl ⟨Nat.le_trans (by decide) hR.1, Nat.le_trans (by decide) hR.2⟩ (ci := 4) rfl (j := 5) rfl hl.1 rfl (Nat.le_of_ble_eq_true rfl) qd_U_differ_105 (fun H locs w => ?_)
  refine lv_icmp_ge (tgt := 142) F.1 F.2.1 qd_U_differ_108 (by decide) (fun hc3 => ?_) (fun hc3 => ?_)
  · rw [if_pos hc3] at hM
    refine lv_iinc (v := (v6 + (1 : Int32))) (lv' := [(6, .int (v6 + (1 : Int32))), (0, .ref (ad 5)), (4, .int v4), (5, .int v5), (7, .int v7)]) F.1 F.2.1 qd_U_differ_142 hl (k := 3) rfl rfl (by decide) rfl (fun ls hl => ?_)
    refine lv_goto (tgt := 86) F.1 F.2.1 qd_U_differ_145 (by decide) ?_
    exact hk_86 _ _ _ _ hM w (lv_sub hl [1, 2, 3, 0] rfl)
  · rw [if_neg hc3] at hM
    refine lv_aload_n F.1 F.2.1 qd_U_differ_111 rfl (lv_at hl 0 rfl) ?_
    refine lv_aload_n F.1 F.2.1 qd_U_differ_112 rfl (lv_at hl 0 rfl) ?_
    refine lv_iload F.1 F.2.1 qd_U_differ_113 (lv_at hl 1 rfl) ?_
    refine lv_iload F.1 F.2.1 qd_U_differ_115 (lv_at hl 3 rfl) ?_
    obtain ⟨q4, hq5, hM⟩ := qbd hM
    refine x_calli F hK hN hA w (c_U_facet l D ad cI hq5) qk_586 qk_588 qs_U_facet qk_7 qk_589 qv_U_facet rfl rfl ⟨Nat.le_trans (by decide) hR.1, Nat.le_trans (by decide) hR.2⟩ (ci := 4) rfl (j := 5) rfl hl.1 rfl (Nat.le_of_ble_eq_true rfl) qd_U_differ_117 (fun H locs w => ?_)
    refine lv_aload_n F.1 F.2.1 qd_U_differ_120 rfl (lv_at hl 0 rfl) ?_
    refine lv_iload F.1 F.2.1 qd_U_differ_121 (lv_at hl 2 rfl) ?_
    refine lv_iload F.1 F.2.1 qd_U_differ_123 (lv_at hl 4 rfl) ?_
    obtain ⟨q6, hq7, hM⟩ := qbd hM
    refine x_calli F hK hN hA w (c_U_facet l D ad cI hq7) qk_586 qk_588 qs_U_facet qk_7 qk_589 qv_U_facet rfl rfl ⟨Nat.le_trans (by decide) hR.1, Nat.le_trans (by decide) hR.2⟩ (ci := 4) rfl (j := 5) rfl hl.1 rfl (Nat.le_of_ble_eq_true rfl) qd_U_differ_125 (fun H locs w => ?_)
    obtain ⟨q8, hq9, hM⟩ := qbd hM
    refine x_calli F hK hN hA w (c_U_areStrangers l D ad cI hq9) qk_590 qk_592 qs_U_areStrangers qk_7 qk_593 qv_U_areStrangers rfl rfl ⟨Nat.le_trans (by decide) hR.1, Nat.le_trans (by decide) hR.2⟩ (ci := 4) rfl (j := 5) rfl hl.1 rfl (Nat.le_of_ble_eq_true rfl) qd_U_differ_128 (fun H locs w => ?_)
    refine lv_if_eq (tgt := 136) F.1 F.2.1 qd_U_differ_131 (by decide) (fun hc10 => ?_) (fun hc10 => ?_)
    · rw [if_pos hc10] at hM
      refine lv_iinc (v := (v7 + (1 : Int32))) (lv' := [(7, .int (v7 + (1 : Int32))), (0, .ref (ad 5)), (4, .int v4), (5, .int v5), (6, .int v6)]) F.1 F.2.1 qd_U_differ_136 hl (k := 4) rfl rfl (by decide) rfl (fun ls hl => ?_)
      refine lv_goto (tgt := 100) F.1 F.2.1 qd_U_differ_139 (by decide) ?_
      exact hk_100 _ _ _ _ _ hM w (lv_sub hl [1, 2, 3, 4, 0] rfl)
    · rw [if_neg hc10] at hM
      refine lv_iconst (v := 1) F.1 F.2.1 qd_U_differ_134 (by decide) ?_
      cases hM
      exact hQ _ _ _ _ qd_U_differ_135 w
set_option maxRecDepth 100000 in
set_option maxHeartbeats 4000000 in
theorem t_U_differ_100 {p : Program} {l : Launch} {e : Env} {R : Room} {s : State} {m : MethodId} {args : Array Value} {below : List Frame} {meth : Method} {c : Code} {Q : State → Prop} {D : va_G} {ad : Nat → Nat} {cI : ClassId} {A : Nat → Prop} (F : CallFix p m c qb_U_differ 8 s args qtb "CaptureSubtypes$Turning") (hR : 326 ≤ R.frames ∧ 8045 ≤ R.locals) (hK : va_K D qcl [(cI, .int)] s) (hN : qnests xns s) (hA : ∀ q, s.heap.size ≤ q → A q) {res : (Bool × (Nat → Nat → Int32))} (hQ : ∀ (H : Heap) (locs : List Loc) (pc : Nat) (ls : Array Slot), decode qb_U_differ pc = .ok (.ireturn, 1) → xW D ad cI A s.heap res.2 H locs → W p l e R s m args below meth c H locs 0 0 Q (F0 m pc ls [.int (qB res.1)])) {k_86 : (Nat → Nat → Int32) → Int32 → Int32 → Int32 → Option (Bool × (Nat → Nat → Int32))} (hk_86 : ∀ (S : Nat → Nat → Int32) (v4 v5 v6 : Int32), k_86 S v4 v5 v6 = some res → ∀ {H : Heap} {locs : List Loc} {ls : Array Slot}, xW D ad cI A s.heap S H locs → lv_has ls 8 [(0, .ref (ad 5)), (4, .int v4), (5, .int v5), (6, .int v6)] → W p l e R s m args below meth c H locs 0 0 Q (F0 m 86 ls [])) : ∀ (n : Nat) (S : (Nat → Nat → Int32)) (v4 v5 v6 v7 : Int32) (hM : f_U_differ_100 k_86 n S v4 v5 v6 v7 = some res) {H : Heap} {locs : List Loc} {ls : Array Slot} (w : xW D ad cI A s.heap S H locs) (hl : lv_has ls 8 [(0, .ref (ad 5)), (4, .int v4), (5, .int v5), (6, .int v6), (7, .int v7)]), W p l e R s m args below meth c H locs 0 0 Q (F0 m 100 ls []) := by
  intro n
  induction n with
  | zero => intro S v4 v5 v6 v7 hM; exact absurd hM (by simp [f_U_differ_100])
  | succ n ih => intro S v4 v5 v6 v7 hM H locs ls w hl; exact tb_U_differ_100 F hR hK hN hA hQ hk_86 (k_100 := f_U_differ_100 k_86 n) (fun S v4 v5 v6 v7 hM H locs ls w hl => ih S v4 v5 v6 v7 hM w hl) S v4 v5 v6 v7 hM w hl
set_option maxRecDepth 100000 in
set_option maxHeartbeats 4000000 in
theorem tb_U_differ_86 {p : Program} {l : Launch} {e : Env} {R : Room} {s : State} {m : MethodId} {args : Array Value} {below : List Frame} {meth : Method} {c : Code} {Q : State → Prop} {D : va_G} {ad : Nat → Nat} {cI : ClassId} {A : Nat → Prop} (F : CallFix p m c qb_U_differ 8 s args qtb "CaptureSubtypes$Turning") (hR : 326 ≤ R.frames ∧ 8045 ≤ R.locals) (hK : va_K D qcl [(cI, .int)] s) (hN : qnests xns s) (hA : ∀ q, s.heap.size ≤ q → A q) {res : (Bool × (Nat → Nat → Int32))} (hQ : ∀ (H : Heap) (locs : List Loc) (pc : Nat) (ls : Array Slot), decode qb_U_differ pc = .ok (.ireturn, 1) → xW D ad cI A s.heap res.2 H locs → W p l e R s m args below meth c H locs 0 0 Q (F0 m pc ls [.int (qB res.1)])) {k_86 : (Nat → Nat → Int32) → Int32 → Int32 → Int32 → Option (Bool × (Nat → Nat → Int32))} (hk_86 : ∀ (S : Nat → Nat → Int32) (v4 v5 v6 : Int32), k_86 S v4 v5 v6 = some res → ∀ {H : Heap} {locs : List Loc} {ls : Array Slot}, xW D ad cI A s.heap S H locs → lv_has ls 8 [(0, .ref (ad 5)), (4, .int v4), (5, .int v5), (6, .int v6)] → W p l e R s m args below meth c H locs 0 0 Q (F0 m 86 ls [])) (S : (Nat → Nat → Int32)) (v4 v5 v6 : Int32) (hM : fb_U_differ_86 k_86 S v4 v5 v6 = some res) {H : Heap} {locs : List Loc} {ls : Array Slot} (w : xW D ad cI A s.heap S H locs) (hl : lv_has ls 8 [(0, .ref (ad 5)), (4, .int v4), (5, .int v5), (6, .int v6)]) : W p l e R s m args below meth c H locs 0 0 Q (F0 m 86 ls []) := by
  unfold fb_U_differ_86 at hM
  refine lv_iload F.1 F.2.1 qd_U_differ_86 (lv_at hl 3 rfl) ?_
  refine lv_aload_n F.1 F.2.1 qd_U_differ_88 rfl (lv_at hl 0 rfl) ?_
  refine lv_iload F.1 F.2.1 qd_U_differ_89 (lv_at hl 1 rfl) ?_
  obtain ⟨q1, hq2, hM⟩ := qbd hM
  refine x_calli F hK hN hA w (c_U_facetCount l D ad cI hq2) qk_582 qk_584 qs_U_facetCount qk_7 qk_585 qv_U_facetCount rfl rfl ⟨Nat.le_trans (by decide) hR.1, Nat.le_trans (by decide) hR.2⟩ (ci := 4) rfl (j := 5) rfl hl.1 rfl (Nat.le_of_ble_eq_true rfl) qd_U_differ_91 (fun H locs w => ?_)
  refine lv_icmp_ge (tgt := 148) F.1 F.2.1 qd_U_differ_94 (by decide) (fun hc3 => ?_) (fun hc3 => ?_)
  · rw [if_pos hc3] at hM
    refine lv_iconst (v := 0) F.1 F.2.1 qd_U_differ_148 (by decide) ?_
    cases hM
    exact hQ _ _ _ _ qd_U_differ_149 w
  · rw [if_neg hc3] at hM
    refine lv_iconst (v := 0) F.1 F.2.1 qd_U_differ_97 (by decide) ?_
    refine lv_istore (lv' := [(7, .int (0 : Int32)), (0, .ref (ad 5)), (4, .int v4), (5, .int v5), (6, .int v6)]) F.1 F.2.1 qd_U_differ_98 hl (by decide) rfl (fun ls hl => ?_)
    exact t_U_differ_100 F hR hK hN hA hQ hk_86 qfu _ _ _ _ _ hM w (lv_sub hl [1, 2, 3, 4, 0] rfl)
set_option maxRecDepth 100000 in
set_option maxHeartbeats 4000000 in
theorem t_U_differ_86 {p : Program} {l : Launch} {e : Env} {R : Room} {s : State} {m : MethodId} {args : Array Value} {below : List Frame} {meth : Method} {c : Code} {Q : State → Prop} {D : va_G} {ad : Nat → Nat} {cI : ClassId} {A : Nat → Prop} (F : CallFix p m c qb_U_differ 8 s args qtb "CaptureSubtypes$Turning") (hR : 326 ≤ R.frames ∧ 8045 ≤ R.locals) (hK : va_K D qcl [(cI, .int)] s) (hN : qnests xns s) (hA : ∀ q, s.heap.size ≤ q → A q) {res : (Bool × (Nat → Nat → Int32))} (hQ : ∀ (H : Heap) (locs : List Loc) (pc : Nat) (ls : Array Slot), decode qb_U_differ pc = .ok (.ireturn, 1) → xW D ad cI A s.heap res.2 H locs → W p l e R s m args below meth c H locs 0 0 Q (F0 m pc ls [.int (qB res.1)])) : ∀ (n : Nat) (S : (Nat → Nat → Int32)) (v4 v5 v6 : Int32) (hM : f_U_differ_86 n S v4 v5 v6 = some res) {H : Heap} {locs : List Loc} {ls : Array Slot} (w : xW D ad cI A s.heap S H locs) (hl : lv_has ls 8 [(0, .ref (ad 5)), (4, .int v4), (5, .int v5), (6, .int v6)]), W p l e R s m args below meth c H locs 0 0 Q (F0 m 86 ls []) := by
  intro n
  induction n with
  | zero => intro S v4 v5 v6 hM; exact absurd hM (by simp [f_U_differ_86])
  | succ n ih => intro S v4 v5 v6 hM H locs ls w hl; exact tb_U_differ_86 F hR hK hN hA hQ (k_86 := f_U_differ_86 n) (fun S v4 v5 v6 hM H locs ls w hl => ih S v4 v5 v6 hM w hl) S v4 v5 v6 hM w hl
set_option maxRecDepth 100000 in
set_option maxHeartbeats 4000000 in
theorem t_U_differ {p : Program} {l : Launch} {e : Env} {R : Room} {s : State} {m : MethodId} {args : Array Value} {below : List Frame} {meth : Method} {c : Code} {Q : State → Prop} {D : va_G} {ad : Nat → Nat} {cI : ClassId} {A : Nat → Prop} (F : CallFix p m c qb_U_differ 8 s args qtb "CaptureSubtypes$Turning") (hR : 326 ≤ R.frames ∧ 8045 ≤ R.locals) (hK : va_K D qcl [(cI, .int)] s) (hN : qnests xns s) (hA : ∀ q, s.heap.size ≤ q → A q) {res : (Bool × (Nat → Nat → Int32))} (hQ : ∀ (H : Heap) (locs : List Loc) (pc : Nat) (ls : Array Slot), decode qb_U_differ pc = .ok (.ireturn, 1) → xW D ad cI A s.heap res.2 H locs → W p l e R s m args below meth c H locs 0 0 Q (F0 m pc ls [.int (qB res.1)])) (S : (Nat → Nat → Int32)) (a1 a2 a3 : Int32) (hM : f_U_differ S a1 a2 a3 = some res) {H : Heap} {locs : List Loc} {ls : Array Slot} (w : xW D ad cI A s.heap S H locs) (hl : lv_has ls 8 [(0, .ref (ad 5)), (1, .int a1), (2, .int a2), (3, .int a3)]) : W p l e R s m args below meth c H locs 0 0 Q (F0 m 0 ls []) := by
  unfold f_U_differ at hM
  refine lv_aload_n F.1 F.2.1 qd_U_differ_0 rfl (lv_at hl 0 rfl) ?_
  refine xg_U_types F hK w qk_155 qd_U_differ_1 ?_
  refine lv_iload_n F.1 F.2.1 qd_U_differ_4 rfl (lv_at hl 1 rfl) ?_
  obtain ⟨q1, hq2, hM⟩ := qbd hM
  refine x_calli F hK hN hA w (c_T_sortOf l D ad cI hq2) qk_564 qk_270 qk_271 qk_3 qk_272 qv_T_sortOf rfl rfl ⟨Nat.le_trans (by decide) hR.1, Nat.le_trans (by decide) hR.2⟩ (ci := 1) rfl (j := 2) rfl hl.1 rfl (Nat.le_of_ble_eq_true rfl) qd_U_differ_5 (fun H locs w => ?_)
  refine lv_iconst (v := 2) F.1 F.2.1 qd_U_differ_8 (by decide) ?_
  refine lv_icmp_ne (tgt := 24) F.1 F.2.1 qd_U_differ_9 (by decide) (fun hc3 => ?_) (fun hc3 => ?_)
  · rw [if_neg hc3] at hM
    refine lv_iconst (v := 0) F.1 F.2.1 qd_U_differ_24 (by decide) ?_
    cases hM
    exact hQ _ _ _ _ qd_U_differ_25 w
  · rw [if_pos hc3] at hM
    refine lv_aload_n F.1 F.2.1 qd_U_differ_12 rfl (lv_at hl 0 rfl) ?_
    refine xg_U_types F hK w qk_155 qd_U_differ_13 ?_
    refine lv_iload_n F.1 F.2.1 qd_U_differ_16 rfl (lv_at hl 2 rfl) ?_
    obtain ⟨q4, hq5, hM⟩ := qbd hM
    refine x_calli F hK hN hA w (c_T_sortOf l D ad cI hq5) qk_564 qk_270 qk_271 qk_3 qk_272 qv_T_sortOf rfl rfl ⟨Nat.le_trans (by decide) hR.1, Nat.le_trans (by decide) hR.2⟩ (ci := 1) rfl (j := 2) rfl hl.1 rfl (Nat.le_of_ble_eq_true rfl) qd_U_differ_17 (fun H locs w => ?_)
    refine lv_iconst (v := 2) F.1 F.2.1 qd_U_differ_20 (by decide) ?_
    refine lv_icmp_eq (tgt := 26) F.1 F.2.1 qd_U_differ_21 (by decide) (fun hc6 => ?_) (fun hc6 => ?_)
    · rw [if_pos hc6] at hM
      refine lv_aload_n F.1 F.2.1 qd_U_differ_26 rfl (lv_at hl 0 rfl) ?_
      refine xg_U_types F hK w qk_155 qd_U_differ_27 ?_
      refine lv_iload_n F.1 F.2.1 qd_U_differ_30 rfl (lv_at hl 1 rfl) ?_
      refine lv_iload_n F.1 F.2.1 qd_U_differ_31 rfl (lv_at hl 3 rfl) ?_
      obtain ⟨q7, hq8, hM⟩ := qbd hM
      refine x_calli F hK hN hA w (c_T_argumentOf l D ad cI hq8) qk_581 qk_346 qk_347 qk_3 qk_348 qv_T_argumentOf rfl rfl ⟨Nat.le_trans (by decide) hR.1, Nat.le_trans (by decide) hR.2⟩ (ci := 1) rfl (j := 2) rfl hl.1 rfl (Nat.le_of_ble_eq_true rfl) qd_U_differ_32 (fun H locs w => ?_)
      refine lv_istore (lv' := [(4, .int q7), (0, .ref (ad 5)), (1, .int a1), (2, .int a2), (3, .int a3)]) F.1 F.2.1 qd_U_differ_35 hl (by decide) rfl (fun ls hl => ?_)
      refine lv_aload_n F.1 F.2.1 qd_U_differ_37 rfl (lv_at hl 1 rfl) ?_
      refine xg_U_types F hK w qk_155 qd_U_differ_38 ?_
      refine lv_iload_n F.1 F.2.1 qd_U_differ_41 rfl (lv_at hl 3 rfl) ?_
      refine lv_iload_n F.1 F.2.1 qd_U_differ_42 rfl (lv_at hl 4 rfl) ?_
      obtain ⟨q9, hq10, hM⟩ := qbd hM
      refine x_calli F hK hN hA w (c_T_argumentOf l D ad cI hq10) qk_581 qk_346 qk_347 qk_3 qk_348 qv_T_argumentOf rfl rfl ⟨Nat.le_trans (by decide) hR.1, Nat.le_trans (by decide) hR.2⟩ (ci := 1) rfl (j := 2) rfl hl.1 rfl (Nat.le_of_ble_eq_true rfl) qd_U_differ_43 (fun H locs w => ?_)
      refine lv_istore (lv' := [(5, .int q9), (4, .int q7), (0, .ref (ad 5)), (1, .int a1), (2, .int a2), (3, .int a3)]) F.1 F.2.1 qd_U_differ_46 hl (by decide) rfl (fun ls hl => ?_)
      refine lv_iload F.1 F.2.1 qd_U_differ_48 (lv_at hl 1 rfl) ?_
      refine lv_iload F.1 F.2.1 qd_U_differ_50 (lv_at hl 0 rfl) ?_
      refine lv_icmp_ne (tgt := 57) F.1 F.2.1 qd_U_differ_52 (by decide) (fun hc11 => ?_) (fun hc11 => ?_)
      · rw [if_neg hc11] at hM
        refine lv_aload_n F.1 F.2.1 qd_U_differ_57 rfl (lv_at hl 2 rfl) ?_
        refine xg_U_types F hK w qk_155 qd_U_differ_58 ?_
        refine lv_iload F.1 F.2.1 qd_U_differ_61 (lv_at hl 1 rfl) ?_
        obtain ⟨q12, hq13, hM⟩ := qbd hM
        refine x_calli F hK hN hA w (c_T_isVariable l D ad cI hq13) qk_552 qk_468 qk_469 qk_3 qk_470 qv_T_isVariable rfl rfl ⟨Nat.le_trans (by decide) hR.1, Nat.le_trans (by decide) hR.2⟩ (ci := 1) rfl (j := 2) rfl hl.1 rfl (Nat.le_of_ble_eq_true rfl) qd_U_differ_63 (fun H locs w => ?_)
        refine lv_if_ne (tgt := 83) F.1 F.2.1 qd_U_differ_66 (by decide) (fun hc14 => ?_) (fun hc14 => ?_)
        · rw [if_neg hc14] at hM
          refine lv_iconst (v := 0) F.1 F.2.1 qd_U_differ_83 (by decide) ?_
          refine lv_istore (lv' := [(6, .int (0 : Int32)), (5, .int q9), (4, .int q7), (0, .ref (ad 5)), (1, .int a1), (2, .int a2), (3, .int a3)]) F.1 F.2.1 qd_U_differ_84 hl (by decide) rfl (fun ls hl => ?_)
          exact t_U_differ_86 F hR hK hN hA hQ  qfu _ _ _ _ hM w (lv_sub hl [3, 2, 1, 0] rfl)
        · rw [if_pos hc14] at hM
          refine lv_aload_n F.1 F.2.1 qd_U_differ_69 rfl (lv_at hl 2 rfl) ?_
          refine xg_U_types F hK w qk_155 qd_U_differ_70 ?_
          refine lv_iload F.1 F.2.1 qd_U_differ_73 (lv_at hl 0 rfl) ?_
          obtain ⟨q15, hq16, hM⟩ := qbd hM
          refine x_calli F hK hN hA w (c_T_isVariable l D ad cI hq16) qk_552 qk_468 qk_469 qk_3 qk_470 qv_T_isVariable rfl rfl ⟨Nat.le_trans (by decide) hR.1, Nat.le_trans (by decide) hR.2⟩ (ci := 1) rfl (j := 2) rfl hl.1 rfl (Nat.le_of_ble_eq_true rfl) qd_U_differ_75 (fun H locs w => ?_)
          refine lv_if_ne (tgt := 83) F.1 F.2.1 qd_U_differ_78 (by decide) (fun hc17 => ?_) (fun hc17 => ?_)
          · rw [if_neg hc17] at hM
            refine lv_iconst (v := 0) F.1 F.2.1 qd_U_differ_83 (by decide) ?_
            refine lv_istore (lv' := [(6, .int (0 : Int32)), (5, .int q9), (4, .int q7), (0, .ref (ad 5)), (1, .int a1), (2, .int a2), (3, .int a3)]) F.1 F.2.1 qd_U_differ_84 hl (by decide) rfl (fun ls hl => ?_)
            exact t_U_differ_86 F hR hK hN hA hQ  qfu _ _ _ _ hM w (lv_sub hl [3, 2, 1, 0] rfl)
          · rw [if_pos hc17] at hM
            refine lv_iconst (v := 1) F.1 F.2.1 qd_U_differ_81 (by decide) ?_
            cases hM
            exact hQ _ _ _ _ qd_U_differ_82 w
      · rw [if_pos hc11] at hM
        refine lv_iconst (v := 0) F.1 F.2.1 qd_U_differ_55 (by decide) ?_
        cases hM
        exact hQ _ _ _ _ qd_U_differ_56 w
    · rw [if_neg hc6] at hM
      refine lv_iconst (v := 0) F.1 F.2.1 qd_U_differ_24 (by decide) ?_
      cases hM
      exact hQ _ _ _ _ qd_U_differ_25 w
set_option maxRecDepth 100000 in
theorem c_U_differ (l : Launch) (D : va_G) (ad : Nat → Nat) (cI : ClassId) {S : (Nat → Nat → Int32)} {a1 a2 a3 : Int32} {res : (Bool × (Nat → Nat → Int32))} (hM : f_U_differ S a1 a2 a3 = some res) : xMi l qy_U_differ qb_U_differ 8 (some .boolean) { frames := 326, cells := 0, slots := 0, locals := 8045 } D ad cI S [.ref (ad 5), .int a1, .int a2, .int a3] (qB res.1) res.2 := x_ofz (by decide +kernel) (Nat.le_of_ble_eq_true rfl) (fun p e s m args below meth c Q A ls F hK hN hA w hl hQ => t_U_differ F ⟨Nat.le_refl _, Nat.le_refl _⟩ hK hN hA hQ S a1 a2 a3 hM w hl)
-- U_mayByClass
def f_U_mayByClass_176 (S : (Nat → Nat → Int32)) (v5 v8 : Int32) : Option (Bool × (Nat → Nat → Int32)) := (f_T_dropTo S v5).bind (fun q1 => qck (q01 v8) (some (decide (v8 = 1), q1)))
def fb_U_mayByClass_69 (k_69 : (Nat → Nat → Int32) → Int32 → Int32 → Int32 → Int32 → Int32 → Int32 → Int32 → Option (Bool × (Nat → Nat → Int32))) (S : (Nat → Nat → Int32)) (v3 v4 v5 v6 v7 v8 v9 : Int32) : Option (Bool × (Nat → Nat → Int32)) := if (S 0 0) ≤ v9 then (f_U_mayByClass_176  S v5 v8) else (if v8 = 0 then (f_U_mayByClass_176  S v5 v8) else ((f_K_isUnder S v3 v9).bind (fun q3 => if (qB q3) = 0 then (k_69 S v3 v4 v5 v6 v7 v8 (v9 + (1 : Int32))) else ((f_K_isUnder S v4 v9).bind (fun q6 => if (qB q6) = 0 then (k_69 S v3 v4 v5 v6 v7 v8 (v9 + (1 : Int32))) else ((f_S_viewedAs S v6 v9).bind (fun q9 => (f_S_viewedAs q9.2 v7 v9).bind (fun q11 => (f_U_differ q11.2 q9.1 q11.1 (0 : Int32)).bind (fun q13 => if (qB q13.1) = 0 then ((f_U_differ q13.2 q9.1 q11.1 (1 : Int32)).bind (fun q16 => if (qB q16.1) = 0 then (k_69 q16.2 v3 v4 v5 v6 v7 (1 : Int32) (v9 + (1 : Int32))) else (k_69 q16.2 v3 v4 v5 v6 v7 (0 : Int32) (v9 + (1 : Int32))))) else (k_69 q13.2 v3 v4 v5 v6 v7 (0 : Int32) (v9 + (1 : Int32))))))))))))
def f_U_mayByClass_69 : Nat → (Nat → Nat → Int32) → Int32 → Int32 → Int32 → Int32 → Int32 → Int32 → Int32 → Option (Bool × (Nat → Nat → Int32))
  | 0 => fun _ _ _ _ _ _ _ _ => none
  | n + 1 => fun S v3 v4 v5 v6 v7 v8 v9 => fb_U_mayByClass_69 (f_U_mayByClass_69 n) S v3 v4 v5 v6 v7 v8 v9
def f_U_mayByClass (S : (Nat → Nat → Int32)) (a1 a2 : Int32) : Option (Bool × (Nat → Nat → Int32)) := (f_T_ownerOf S a1).bind (fun q1 => (f_T_ownerOf S a2).bind (fun q3 => (f_K_areApart S q1 q3).bind (fun q5 => if (qB q5) = 0 then ((f_T_mark S).bind (fun q8 => (f_S_caught S a1).bind (fun q10 => (f_S_caught q10.2 a2).bind (fun q12 => f_U_mayByClass_69  qfu q12.2 q1 q3 q8 q10.1 q12.1 (1 : Int32) (1 : Int32))))) else (some (false, S)))))
set_option maxRecDepth 100000 in
set_option maxHeartbeats 4000000 in
theorem t_U_mayByClass_176 {p : Program} {l : Launch} {e : Env} {R : Room} {s : State} {m : MethodId} {args : Array Value} {below : List Frame} {meth : Method} {c : Code} {Q : State → Prop} {D : va_G} {ad : Nat → Nat} {cI : ClassId} {A : Nat → Prop} (F : CallFix p m c qb_U_mayByClass 12 s args qtb "CaptureSubtypes$Turning") (hR : 327 ≤ R.frames ∧ 8072 ≤ R.locals) (hK : va_K D qcl [(cI, .int)] s) (hN : qnests xns s) (hA : ∀ q, s.heap.size ≤ q → A q) {res : (Bool × (Nat → Nat → Int32))} (hQ : ∀ (H : Heap) (locs : List Loc) (pc : Nat) (ls : Array Slot), decode qb_U_mayByClass pc = .ok (.ireturn, 1) → xW D ad cI A s.heap res.2 H locs → W p l e R s m args below meth c H locs 0 0 Q (F0 m pc ls [.int (qB res.1)])) (S : (Nat → Nat → Int32)) (v5 v8 : Int32) (hM : f_U_mayByClass_176 S v5 v8 = some res) {H : Heap} {locs : List Loc} {ls : Array Slot} (w : xW D ad cI A s.heap S H locs) (hl : lv_has ls 12 [(0, .ref (ad 5)), (5, .int v5), (8, .int v8)]) : W p l e R s m args below meth c H locs 0 0 Q (F0 m 176 ls []) := by
  unfold f_U_mayByClass_176 at hM
  refine lv_aload_n F.1 F.2.1 qd_U_mayByClass_176 rfl (lv_at hl 0 rfl) ?_
  refine xg_U_types F hK w qk_155 qd_U_mayByClass_177 ?_
  refine lv_iload F.1 F.2.1 qd_U_mayByClass_180 (lv_at hl 1 rfl) ?_
  obtain ⟨q1, hq2, hM⟩ := qbd hM
  refine x_callv F hK hN hA w (c_T_dropTo l D ad cI hq2) qk_604 qk_354 qk_355 qk_3 qk_356 qv_T_dropTo rfl rfl ⟨Nat.le_trans (by decide) hR.1, Nat.le_trans (by decide) hR.2⟩ (ci := 1) rfl (j := 2) rfl hl.1 rfl (Nat.le_of_ble_eq_true rfl) qd_U_mayByClass_182 (fun H locs w => ?_)
  refine lv_iload F.1 F.2.1 qd_U_mayByClass_185 (lv_at hl 2 rfl) ?_
  obtain ⟨h01, hM⟩ := qck_ok hM
  cases hM
  have hz := hQ _ _ _ ls qd_U_mayByClass_187 w
  rw [q01_B h01] at hz
  exact hz
set_option maxRecDepth 100000 in
set_option maxHeartbeats 4000000 in
theorem tb_U_mayByClass_69 {p : Program} {l : Launch} {e : Env} {R : Room} {s : State} {m : MethodId} {args : Array Value} {below : List Frame} {meth : Method} {c : Code} {Q : State → Prop} {D : va_G} {ad : Nat → Nat} {cI : ClassId} {A : Nat → Prop} (F : CallFix p m c qb_U_mayByClass 12 s args qtb "CaptureSubtypes$Turning") (hR : 327 ≤ R.frames ∧ 8072 ≤ R.locals) (hK : va_K D qcl [(cI, .int)] s) (hN : qnests xns s) (hA : ∀ q, s.heap.size ≤ q → A q) {res : (Bool × (Nat → Nat → Int32))} (hQ : ∀ (H : Heap) (locs : List Loc) (pc : Nat) (ls : Array Slot), decode qb_U_mayByClass pc = .ok (.ireturn, 1) → xW D ad cI A s.heap res.2 H locs → W p l e R s m args below meth c H locs 0 0 Q (F0 m pc ls [.int (qB res.1)])) {k_69 : (Nat → Nat → Int32) → Int32 → Int32 → Int32 → Int32 → Int32 → Int32 → Int32 → Option (Bool × (Nat → Nat → Int32))} (hk_69 : ∀ (S : Nat → Nat → Int32) (v3 v4 v5 v6 v7 v8 v9 : Int32), k_69 S v3 v4 v5 v6 v7 v8 v9 = some res → ∀ {H : Heap} {locs : List Loc} {ls : Array Slot}, xW D ad cI A s.heap S H locs → lv_has ls 12 [(0, .ref (ad 5)), (3, .int v3), (4, .int v4), (5, .int v5), (6, .int v6), (7, .int v7), (8, .int v8), (9, .int v9)] → W p l e R s m args below meth c H locs 0 0 Q (F0 m 69 ls [])) (S : (Nat → Nat → Int32)) (v3 v4 v5 v6 v7 v8 v9 : Int32) (hM : fb_U_mayByClass_69 k_69 S v3 v4 v5 v6 v7 v8 v9 = some res) {H : Heap} {locs : List Loc} {ls : Array Slot} (w : xW D ad cI A s.heap S H locs) (hl : lv_has ls 12 [(0, .ref (ad 5)), (3, .int v3), (4, .int v4), (5, .int v5), (6, .int v6), (7, .int v7), (8, .int v8), (9, .int v9)]) : W p l e R s m args below meth c H locs 0 0 Q (F0 m 69 ls []) := by
  unfold fb_U_mayByClass_69 at hM
  refine lv_iload F.1 F.2.1 qd_U_mayByClass_69 (lv_at hl 7 rfl) ?_
  refine lv_aload_n F.1 F.2.1 qd_U_mayByClass_71 rfl (lv_at hl 0 rfl) ?_
  refine xg_U_classes F hK w qk_154 qd_U_mayByClass_72 ?_
  refine xg_K_count F hK w qk_33 qd_U_mayByClass_75 ?_
  refine lv_icmp_ge (tgt := 176) F.1 F.2.1 qd_U_mayByClass_78 (by decide) (fun hc1 => ?_) (fun hc1 => ?_)
  · rw [if_pos hc1] at hM
    exact t_U_mayByClass_176 F hR hK hN hA hQ  _ _ _ hM w (lv_sub hl [0, 3, 6] rfl)
  · rw [if_neg hc1] at hM
    refine lv_iload F.1 F.2.1 qd_U_mayByClass_81 (lv_at hl 6 rfl) ?_
    refine lv_if_eq (tgt := 176) F.1 F.2.1 qd_U_mayByClass_83 (by decide) (fun hc2 => ?_) (fun hc2 => ?_)
    · rw [if_pos hc2] at hM
      exact t_U_mayByClass_176 F hR hK hN hA hQ  _ _ _ hM w (lv_sub hl [0, 3, 6] rfl)
    · rw [if_neg hc2] at hM
      refine lv_aload_n F.1 F.2.1 qd_U_mayByClass_86 rfl (lv_at hl 0 rfl) ?_
      refine xg_U_classes F hK w qk_154 qd_U_mayByClass_87 ?_
      refine lv_iload_n F.1 F.2.1 qd_U_mayByClass_90 rfl (lv_at hl 1 rfl) ?_
      refine lv_iload F.1 F.2.1 qd_U_mayByClass_91 (lv_at hl 7 rfl) ?_
      obtain ⟨q3, hq4, hM⟩ := qbd hM
      refine x_calli F hK hN hA w (c_K_isUnder l D ad cI hq4) qk_575 qk_218 qk_219 qk_2 qk_220 qv_K_isUnder rfl rfl ⟨Nat.le_trans (by decide) hR.1, Nat.le_trans (by decide) hR.2⟩ (ci := 0) rfl (j := 1) rfl hl.1 rfl (Nat.le_of_ble_eq_true rfl) qd_U_mayByClass_93 (fun H locs w => ?_)
      refine lv_if_eq (tgt := 170) F.1 F.2.1 qd_U_mayByClass_96 (by decide) (fun hc5 => ?_) (fun hc5 => ?_)
      · rw [if_pos hc5] at hM
        refine lv_iinc (v := (v9 + (1 : Int32))) (lv' := [(9, .int (v9 + (1 : Int32))), (0, .ref (ad 5)), (3, .int v3), (4, .int v4), (5, .int v5), (6, .int v6), (7, .int v7), (8, .int v8)]) F.1 F.2.1 qd_U_mayByClass_170 hl (k := 7) rfl rfl (by decide) rfl (fun ls hl => ?_)
        refine lv_goto (tgt := 69) F.1 F.2.1 qd_U_mayByClass_173 (by decide) ?_
        exact hk_69 _ _ _ _ _ _ _ _ hM w (lv_sub hl [1, 2, 3, 4, 5, 6, 7, 0] rfl)
      · rw [if_neg hc5] at hM
        refine lv_aload_n F.1 F.2.1 qd_U_mayByClass_99 rfl (lv_at hl 0 rfl) ?_
        refine xg_U_classes F hK w qk_154 qd_U_mayByClass_100 ?_
        refine lv_iload F.1 F.2.1 qd_U_mayByClass_103 (lv_at hl 2 rfl) ?_
        refine lv_iload F.1 F.2.1 qd_U_mayByClass_105 (lv_at hl 7 rfl) ?_
        obtain ⟨q6, hq7, hM⟩ := qbd hM
        refine x_calli F hK hN hA w (c_K_isUnder l D ad cI hq7) qk_575 qk_218 qk_219 qk_2 qk_220 qv_K_isUnder rfl rfl ⟨Nat.le_trans (by decide) hR.1, Nat.le_trans (by decide) hR.2⟩ (ci := 0) rfl (j := 1) rfl hl.1 rfl (Nat.le_of_ble_eq_true rfl) qd_U_mayByClass_107 (fun H locs w => ?_)
        refine lv_if_eq (tgt := 170) F.1 F.2.1 qd_U_mayByClass_110 (by decide) (fun hc8 => ?_) (fun hc8 => ?_)
        · rw [if_pos hc8] at hM
          refine lv_iinc (v := (v9 + (1 : Int32))) (lv' := [(9, .int (v9 + (1 : Int32))), (0, .ref (ad 5)), (3, .int v3), (4, .int v4), (5, .int v5), (6, .int v6), (7, .int v7), (8, .int v8)]) F.1 F.2.1 qd_U_mayByClass_170 hl (k := 7) rfl rfl (by decide) rfl (fun ls hl => ?_)
          refine lv_goto (tgt := 69) F.1 F.2.1 qd_U_mayByClass_173 (by decide) ?_
          exact hk_69 _ _ _ _ _ _ _ _ hM w (lv_sub hl [1, 2, 3, 4, 5, 6, 7, 0] rfl)
        · rw [if_neg hc8] at hM
          refine lv_aload_n F.1 F.2.1 qd_U_mayByClass_113 rfl (lv_at hl 0 rfl) ?_
          refine xg_U_shapes F hK w qk_156 qd_U_mayByClass_114 ?_
          refine lv_iload F.1 F.2.1 qd_U_mayByClass_117 (lv_at hl 4 rfl) ?_
          refine lv_iload F.1 F.2.1 qd_U_mayByClass_119 (lv_at hl 7 rfl) ?_
          obtain ⟨q9, hq10, hM⟩ := qbd hM
          refine x_calli F hK hN hA w (c_S_viewedAs l D ad cI hq10) qk_576 qk_313 qk_314 qk_5 qk_315 qv_S_viewedAs rfl rfl ⟨Nat.le_trans (by decide) hR.1, Nat.le_trans (by decide) hR.2⟩ (ci := 2) rfl (j := 3) rfl hl.1 rfl (Nat.le_of_ble_eq_true rfl) qd_U_mayByClass_121 (fun H locs w => ?_)
          refine lv_istore (lv' := [(10, .int q9.1), (0, .ref (ad 5)), (3, .int v3), (4, .int v4), (5, .int v5), (6, .int v6), (7, .int v7), (8, .int v8), (9, .int v9)]) F.1 F.2.1 qd_U_mayByClass_124 hl (by decide) rfl (fun ls hl => ?_)
          refine lv_aload_n F.1 F.2.1 qd_U_mayByClass_126 rfl (lv_at hl 1 rfl) ?_
          refine xg_U_shapes F hK w qk_156 qd_U_mayByClass_127 ?_
          refine lv_iload F.1 F.2.1 qd_U_mayByClass_130 (lv_at hl 6 rfl) ?_
          refine lv_iload F.1 F.2.1 qd_U_mayByClass_132 (lv_at hl 8 rfl) ?_
          obtain ⟨q11, hq12, hM⟩ := qbd hM
          refine x_calli F hK hN hA w (c_S_viewedAs l D ad cI hq12) qk_576 qk_313 qk_314 qk_5 qk_315 qv_S_viewedAs rfl rfl ⟨Nat.le_trans (by decide) hR.1, Nat.le_trans (by decide) hR.2⟩ (ci := 2) rfl (j := 3) rfl hl.1 rfl (Nat.le_of_ble_eq_true rfl) qd_U_mayByClass_134 (fun H locs w => ?_)
          refine lv_istore (lv' := [(11, .int q11.1), (10, .int q9.1), (0, .ref (ad 5)), (3, .int v3), (4, .int v4), (5, .int v5), (6, .int v6), (7, .int v7), (8, .int v8), (9, .int v9)]) F.1 F.2.1 qd_U_mayByClass_137 hl (by decide) rfl (fun ls hl => ?_)
          refine lv_aload_n F.1 F.2.1 qd_U_mayByClass_139 rfl (lv_at hl 2 rfl) ?_
          refine lv_iload F.1 F.2.1 qd_U_mayByClass_140 (lv_at hl 1 rfl) ?_
          refine lv_iload F.1 F.2.1 qd_U_mayByClass_142 (lv_at hl 0 rfl) ?_
          refine lv_iconst (v := 0) F.1 F.2.1 qd_U_mayByClass_144 (by decide) ?_
          obtain ⟨q13, hq14, hM⟩ := qbd hM
          refine x_calli F hK hN hA w (c_U_differ l D ad cI hq14) qk_577 qk_579 qs_U_differ qk_7 qk_580 qv_U_differ rfl rfl ⟨Nat.le_trans (by decide) hR.1, Nat.le_trans (by decide) hR.2⟩ (ci := 4) rfl (j := 5) rfl hl.1 rfl (Nat.le_of_ble_eq_true rfl) qd_U_mayByClass_145 (fun H locs w => ?_)
          refine lv_if_ne (tgt := 167) F.1 F.2.1 qd_U_mayByClass_148 (by decide) (fun hc15 => ?_) (fun hc15 => ?_)
          · rw [if_neg hc15] at hM
            refine lv_iconst (v := 0) F.1 F.2.1 qd_U_mayByClass_167 (by decide) ?_
            refine lv_istore (lv' := [(8, .int (0 : Int32)), (11, .int q11.1), (10, .int q9.1), (0, .ref (ad 5)), (3, .int v3), (4, .int v4), (5, .int v5), (6, .int v6), (7, .int v7), (9, .int v9)]) F.1 F.2.1 qd_U_mayByClass_168 hl (by decide) rfl (fun ls hl => ?_)
            refine lv_iinc (v := (v9 + (1 : Int32))) (lv' := [(9, .int (v9 + (1 : Int32))), (8, .int (0 : Int32)), (11, .int q11.1), (10, .int q9.1), (0, .ref (ad 5)), (3, .int v3), (4, .int v4), (5, .int v5), (6, .int v6), (7, .int v7)]) F.1 F.2.1 qd_U_mayByClass_170 hl (k := 9) rfl rfl (by decide) rfl (fun ls hl => ?_)
            refine lv_goto (tgt := 69) F.1 F.2.1 qd_U_mayByClass_173 (by decide) ?_
            exact hk_69 _ _ _ _ _ _ _ _ hM w (lv_sub hl [4, 5, 6, 7, 8, 9, 1, 0] rfl)
          · rw [if_pos hc15] at hM
            refine lv_aload_n F.1 F.2.1 qd_U_mayByClass_151 rfl (lv_at hl 2 rfl) ?_
            refine lv_iload F.1 F.2.1 qd_U_mayByClass_152 (lv_at hl 1 rfl) ?_
            refine lv_iload F.1 F.2.1 qd_U_mayByClass_154 (lv_at hl 0 rfl) ?_
            refine lv_iconst (v := 1) F.1 F.2.1 qd_U_mayByClass_156 (by decide) ?_
            obtain ⟨q16, hq17, hM⟩ := qbd hM
            refine x_calli F hK hN hA w (c_U_differ l D ad cI hq17) qk_577 qk_579 qs_U_differ qk_7 qk_580 qv_U_differ rfl rfl ⟨Nat.le_trans (by decide) hR.1, Nat.le_trans (by decide) hR.2⟩ (ci := 4) rfl (j := 5) rfl hl.1 rfl (Nat.le_of_ble_eq_true rfl) qd_U_mayByClass_157 (fun H locs w => ?_)
            refine lv_if_ne (tgt := 167) F.1 F.2.1 qd_U_mayByClass_160 (by decide) (fun hc18 => ?_) (fun hc18 => ?_)
            · rw [if_neg hc18] at hM
              refine lv_iconst (v := 0) F.1 F.2.1 qd_U_mayByClass_167 (by decide) ?_
              refine lv_istore (lv' := [(8, .int (0 : Int32)), (11, .int q11.1), (10, .int q9.1), (0, .ref (ad 5)), (3, .int v3), (4, .int v4), (5, .int v5), (6, .int v6), (7, .int v7), (9, .int v9)]) F.1 F.2.1 qd_U_mayByClass_168 hl (by decide) rfl (fun ls hl => ?_)
              refine lv_iinc (v := (v9 + (1 : Int32))) (lv' := [(9, .int (v9 + (1 : Int32))), (8, .int (0 : Int32)), (11, .int q11.1), (10, .int q9.1), (0, .ref (ad 5)), (3, .int v3), (4, .int v4), (5, .int v5), (6, .int v6), (7, .int v7)]) F.1 F.2.1 qd_U_mayByClass_170 hl (k := 9) rfl rfl (by decide) rfl (fun ls hl => ?_)
              refine lv_goto (tgt := 69) F.1 F.2.1 qd_U_mayByClass_173 (by decide) ?_
              exact hk_69 _ _ _ _ _ _ _ _ hM w (lv_sub hl [4, 5, 6, 7, 8, 9, 1, 0] rfl)
            · rw [if_pos hc18] at hM
              refine lv_iconst (v := 1) F.1 F.2.1 qd_U_mayByClass_163 (by decide) ?_
              refine lv_goto (tgt := 168) F.1 F.2.1 qd_U_mayByClass_164 (by decide) ?_
              refine lv_istore (lv' := [(8, .int (1 : Int32)), (11, .int q11.1), (10, .int q9.1), (0, .ref (ad 5)), (3, .int v3), (4, .int v4), (5, .int v5), (6, .int v6), (7, .int v7), (9, .int v9)]) F.1 F.2.1 qd_U_mayByClass_168 hl (by decide) rfl (fun ls hl => ?_)
              refine lv_iinc (v := (v9 + (1 : Int32))) (lv' := [(9, .int (v9 + (1 : Int32))), (8, .int (1 : Int32)), (11, .int q11.1), (10, .int q9.1), (0, .ref (ad 5)), (3, .int v3), (4, .int v4), (5, .int v5), (6, .int v6), (7, .int v7)]) F.1 F.2.1 qd_U_mayByClass_170 hl (k := 9) rfl rfl (by decide) rfl (fun ls hl => ?_)
              refine lv_goto (tgt := 69) F.1 F.2.1 qd_U_mayByClass_173 (by decide) ?_
              exact hk_69 _ _ _ _ _ _ _ _ hM w (lv_sub hl [4, 5, 6, 7, 8, 9, 1, 0] rfl)
set_option maxRecDepth 100000 in
set_option maxHeartbeats 4000000 in
theorem t_U_mayByClass_69 {p : Program} {l : Launch} {e : Env} {R : Room} {s : State} {m : MethodId} {args : Array Value} {below : List Frame} {meth : Method} {c : Code} {Q : State → Prop} {D : va_G} {ad : Nat → Nat} {cI : ClassId} {A : Nat → Prop} (F : CallFix p m c qb_U_mayByClass 12 s args qtb "CaptureSubtypes$Turning") (hR : 327 ≤ R.frames ∧ 8072 ≤ R.locals) (hK : va_K D qcl [(cI, .int)] s) (hN : qnests xns s) (hA : ∀ q, s.heap.size ≤ q → A q) {res : (Bool × (Nat → Nat → Int32))} (hQ : ∀ (H : Heap) (locs : List Loc) (pc : Nat) (ls : Array Slot), decode qb_U_mayByClass pc = .ok (.ireturn, 1) → xW D ad cI A s.heap res.2 H locs → W p l e R s m args below meth c H locs 0 0 Q (F0 m pc ls [.int (qB res.1)])) : ∀ (n : Nat) (S : (Nat → Nat → Int32)) (v3 v4 v5 v6 v7 v8 v9 : Int32) (hM : f_U_mayByClass_69 n S v3 v4 v5 v6 v7 v8 v9 = some res) {H : Heap} {locs : List Loc} {ls : Array Slot} (w : xW D ad cI A s.heap S H locs) (hl : lv_has ls 12 [(0, .ref (ad 5)), (3, .int v3), (4, .int v4), (5, .int v5), (6, .int v6), (7, .int v7), (8, .int v8), (9, .int v9)]), W p l e R s m args below meth c H locs 0 0 Q (F0 m 69 ls []) := by
  intro n
  induction n with
  | zero => intro S v3 v4 v5 v6 v7 v8 v9 hM; exact absurd hM (by simp [f_U_mayByClass_69])
  | succ n ih => intro S v3 v4 v5 v6 v7 v8 v9 hM H locs ls w hl; exact tb_U_mayByClass_69 F hR hK hN hA hQ (k_69 := f_U_mayByClass_69 n) (fun S v3 v4 v5 v6 v7 v8 v9 hM H locs ls w hl => ih S v3 v4 v5 v6 v7 v8 v9 hM w hl) S v3 v4 v5 v6 v7 v8 v9 hM w hl
set_option maxRecDepth 100000 in
set_option maxHeartbeats 4000000 in
theorem t_U_mayByClass {p : Program} {l : Launch} {e : Env} {R : Room} {s : State} {m : MethodId} {args : Array Value} {below : List Frame} {meth : Method} {c : Code} {Q : State → Prop} {D : va_G} {ad : Nat → Nat} {cI : ClassId} {A : Nat → Prop} (F : CallFix p m c qb_U_mayByClass 12 s args qtb "CaptureSubtypes$Turning") (hR : 327 ≤ R.frames ∧ 8072 ≤ R.locals) (hK : va_K D qcl [(cI, .int)] s) (hN : qnests xns s) (hA : ∀ q, s.heap.size ≤ q → A q) {res : (Bool × (Nat → Nat → Int32))} (hQ : ∀ (H : Heap) (locs : List Loc) (pc : Nat) (ls : Array Slot), decode qb_U_mayByClass pc = .ok (.ireturn, 1) → xW D ad cI A s.heap res.2 H locs → W p l e R s m args below meth c H locs 0 0 Q (F0 m pc ls [.int (qB res.1)])) (S : (Nat → Nat → Int32)) (a1 a2 : Int32) (hM : f_U_mayByClass S a1 a2 = some res) {H : Heap} {locs : List Loc} {ls : Array Slot} (w : xW D ad cI A s.heap S H locs) (hl : lv_has ls 12 [(0, .ref (ad 5)), (1, .int a1), (2, .int a2)]) : W p l e R s m args below meth c H locs 0 0 Q (F0 m 0 ls []) := by
  unfold f_U_mayByClass at hM
  refine lv_aload_n F.1 F.2.1 qd_U_mayByClass_0 rfl (lv_at hl 0 rfl) ?_
  refine xg_U_types F hK w qk_155 qd_U_mayByClass_1 ?_
  refine lv_iload_n F.1 F.2.1 qd_U_mayByClass_4 rfl (lv_at hl 1 rfl) ?_
  obtain ⟨q1, hq2, hM⟩ := qbd hM
  refine x_calli F hK hN hA w (c_T_ownerOf l D ad cI hq2) qk_571 qk_274 qk_275 qk_3 qk_276 qv_T_ownerOf rfl rfl ⟨Nat.le_trans (by decide) hR.1, Nat.le_trans (by decide) hR.2⟩ (ci := 1) rfl (j := 2) rfl hl.1 rfl (Nat.le_of_ble_eq_true rfl) qd_U_mayByClass_5 (fun H locs w => ?_)
  refine lv_istore_n (lv' := [(3, .int q1), (0, .ref (ad 5)), (1, .int a1), (2, .int a2)]) F.1 F.2.1 qd_U_mayByClass_8 rfl hl (by decide) rfl (fun ls hl => ?_)
  refine lv_aload_n F.1 F.2.1 qd_U_mayByClass_9 rfl (lv_at hl 1 rfl) ?_
  refine xg_U_types F hK w qk_155 qd_U_mayByClass_10 ?_
  refine lv_iload_n F.1 F.2.1 qd_U_mayByClass_13 rfl (lv_at hl 3 rfl) ?_
  obtain ⟨q3, hq4, hM⟩ := qbd hM
  refine x_calli F hK hN hA w (c_T_ownerOf l D ad cI hq4) qk_571 qk_274 qk_275 qk_3 qk_276 qv_T_ownerOf rfl rfl ⟨Nat.le_trans (by decide) hR.1, Nat.le_trans (by decide) hR.2⟩ (ci := 1) rfl (j := 2) rfl hl.1 rfl (Nat.le_of_ble_eq_true rfl) qd_U_mayByClass_14 (fun H locs w => ?_)
  refine lv_istore (lv' := [(4, .int q3), (3, .int q1), (0, .ref (ad 5)), (1, .int a1), (2, .int a2)]) F.1 F.2.1 qd_U_mayByClass_17 hl (by decide) rfl (fun ls hl => ?_)
  refine lv_aload_n F.1 F.2.1 qd_U_mayByClass_19 rfl (lv_at hl 2 rfl) ?_
  refine xg_U_classes F hK w qk_154 qd_U_mayByClass_20 ?_
  refine lv_iload_n F.1 F.2.1 qd_U_mayByClass_23 rfl (lv_at hl 1 rfl) ?_
  refine lv_iload F.1 F.2.1 qd_U_mayByClass_24 (lv_at hl 0 rfl) ?_
  obtain ⟨q5, hq6, hM⟩ := qbd hM
  refine x_calli F hK hN hA w (c_K_areApart l D ad cI hq6) qk_572 qk_242 qk_243 qk_2 qk_244 qv_K_areApart rfl rfl ⟨Nat.le_trans (by decide) hR.1, Nat.le_trans (by decide) hR.2⟩ (ci := 0) rfl (j := 1) rfl hl.1 rfl (Nat.le_of_ble_eq_true rfl) qd_U_mayByClass_26 (fun H locs w => ?_)
  refine lv_if_eq (tgt := 34) F.1 F.2.1 qd_U_mayByClass_29 (by decide) (fun hc7 => ?_) (fun hc7 => ?_)
  · rw [if_pos hc7] at hM
    refine lv_aload_n F.1 F.2.1 qd_U_mayByClass_34 rfl (lv_at hl 2 rfl) ?_
    refine xg_U_types F hK w qk_155 qd_U_mayByClass_35 ?_
    obtain ⟨q8, hq9, hM⟩ := qbd hM
    refine x_calli F hK hN hA w (c_T_mark l D ad cI hq9) qk_573 qk_306 qk_307 qk_3 qk_308 qv_T_mark rfl rfl ⟨Nat.le_trans (by decide) hR.1, Nat.le_trans (by decide) hR.2⟩ (ci := 1) rfl (j := 2) rfl hl.1 rfl (Nat.le_of_ble_eq_true rfl) qd_U_mayByClass_38 (fun H locs w => ?_)
    refine lv_istore (lv' := [(5, .int q8), (4, .int q3), (3, .int q1), (0, .ref (ad 5)), (1, .int a1), (2, .int a2)]) F.1 F.2.1 qd_U_mayByClass_41 hl (by decide) rfl (fun ls hl => ?_)
    refine lv_aload_n F.1 F.2.1 qd_U_mayByClass_43 rfl (lv_at hl 3 rfl) ?_
    refine xg_U_shapes F hK w qk_156 qd_U_mayByClass_44 ?_
    refine lv_iload_n F.1 F.2.1 qd_U_mayByClass_47 rfl (lv_at hl 4 rfl) ?_
    obtain ⟨q10, hq11, hM⟩ := qbd hM
    refine x_calli F hK hN hA w (c_S_caught l D ad cI hq11) qk_574 qk_508 qk_509 qk_5 qk_510 qv_S_caught rfl rfl ⟨Nat.le_trans (by decide) hR.1, Nat.le_trans (by decide) hR.2⟩ (ci := 2) rfl (j := 3) rfl hl.1 rfl (Nat.le_of_ble_eq_true rfl) qd_U_mayByClass_48 (fun H locs w => ?_)
    refine lv_istore (lv' := [(6, .int q10.1), (5, .int q8), (4, .int q3), (3, .int q1), (0, .ref (ad 5)), (1, .int a1), (2, .int a2)]) F.1 F.2.1 qd_U_mayByClass_51 hl (by decide) rfl (fun ls hl => ?_)
    refine lv_aload_n F.1 F.2.1 qd_U_mayByClass_53 rfl (lv_at hl 4 rfl) ?_
    refine xg_U_shapes F hK w qk_156 qd_U_mayByClass_54 ?_
    refine lv_iload_n F.1 F.2.1 qd_U_mayByClass_57 rfl (lv_at hl 6 rfl) ?_
    obtain ⟨q12, hq13, hM⟩ := qbd hM
    refine x_calli F hK hN hA w (c_S_caught l D ad cI hq13) qk_574 qk_508 qk_509 qk_5 qk_510 qv_S_caught rfl rfl ⟨Nat.le_trans (by decide) hR.1, Nat.le_trans (by decide) hR.2⟩ (ci := 2) rfl (j := 3) rfl hl.1 rfl (Nat.le_of_ble_eq_true rfl) qd_U_mayByClass_58 (fun H locs w => ?_)
    refine lv_istore (lv' := [(7, .int q12.1), (6, .int q10.1), (5, .int q8), (4, .int q3), (3, .int q1), (0, .ref (ad 5)), (1, .int a1), (2, .int a2)]) F.1 F.2.1 qd_U_mayByClass_61 hl (by decide) rfl (fun ls hl => ?_)
    refine lv_iconst (v := 1) F.1 F.2.1 qd_U_mayByClass_63 (by decide) ?_
    refine lv_istore (lv' := [(8, .int (1 : Int32)), (7, .int q12.1), (6, .int q10.1), (5, .int q8), (4, .int q3), (3, .int q1), (0, .ref (ad 5)), (1, .int a1), (2, .int a2)]) F.1 F.2.1 qd_U_mayByClass_64 hl (by decide) rfl (fun ls hl => ?_)
    refine lv_iconst (v := 1) F.1 F.2.1 qd_U_mayByClass_66 (by decide) ?_
    refine lv_istore (lv' := [(9, .int (1 : Int32)), (8, .int (1 : Int32)), (7, .int q12.1), (6, .int q10.1), (5, .int q8), (4, .int q3), (3, .int q1), (0, .ref (ad 5)), (1, .int a1), (2, .int a2)]) F.1 F.2.1 qd_U_mayByClass_67 hl (by decide) rfl (fun ls hl => ?_)
    exact t_U_mayByClass_69 F hR hK hN hA hQ  qfu _ _ _ _ _ _ _ _ hM w (lv_sub hl [7, 6, 5, 4, 3, 2, 1, 0] rfl)
  · rw [if_neg hc7] at hM
    refine lv_iconst (v := 0) F.1 F.2.1 qd_U_mayByClass_32 (by decide) ?_
    cases hM
    exact hQ _ _ _ _ qd_U_mayByClass_33 w
set_option maxRecDepth 100000 in
theorem c_U_mayByClass (l : Launch) (D : va_G) (ad : Nat → Nat) (cI : ClassId) {S : (Nat → Nat → Int32)} {a1 a2 : Int32} {res : (Bool × (Nat → Nat → Int32))} (hM : f_U_mayByClass S a1 a2 = some res) : xMi l qy_U_mayByClass qb_U_mayByClass 12 (some .boolean) { frames := 327, cells := 0, slots := 0, locals := 8072 } D ad cI S [.ref (ad 5), .int a1, .int a2] (qB res.1) res.2 := x_ofz (by decide +kernel) (Nat.le_of_ble_eq_true rfl) (fun p e s m args below meth c Q A ls F hK hN hA w hl hQ => t_U_mayByClass F ⟨Nat.le_refl _, Nat.le_refl _⟩ hK hN hA hQ S a1 a2 hM w hl)
-- U_mayFromBounds
def fb_U_mayFromBounds_13 (k : (Nat → Nat → Int32) → Int32 → Int32 → Int32 → Option (Bool × (Nat → Nat → Int32))) (k_13 : (Nat → Nat → Int32) → Int32 → Int32 → Int32 → Int32 → Int32 → Option (Bool × (Nat → Nat → Int32))) (S : (Nat → Nat → Int32)) (v1 v2 v3 v4 v5 : Int32) : Option (Bool × (Nat → Nat → Int32)) := if v4 ≤ v5 then (some (true, S)) else ((f_S_boundOf S v1 v5).bind (fun q2 => (k q2.2 q2.1 v2 v3).bind (fun q4 => if (qB q4.1) = 0 then (some (false, q4.2)) else (k_13 q4.2 v1 v2 v3 v4 (v5 + (1 : Int32))))))
def f_U_mayFromBounds_13 (k : (Nat → Nat → Int32) → Int32 → Int32 → Int32 → Option (Bool × (Nat → Nat → Int32))) : Nat → (Nat → Nat → Int32) → Int32 → Int32 → Int32 → Int32 → Int32 → Option (Bool × (Nat → Nat → Int32))
  | 0 => fun _ _ _ _ _ _ => none
  | n + 1 => fun S v1 v2 v3 v4 v5 => fb_U_mayFromBounds_13 k (f_U_mayFromBounds_13 k n) S v1 v2 v3 v4 v5
def f_U_mayFromBounds (k : (Nat → Nat → Int32) → Int32 → Int32 → Int32 → Option (Bool × (Nat → Nat → Int32))) (S : (Nat → Nat → Int32)) (a1 a2 a3 : Int32) : Option (Bool × (Nat → Nat → Int32)) := (f_S_boundCountOf S a1).bind (fun q1 => f_U_mayFromBounds_13 k  qfu S a1 a2 a3 q1 (0 : Int32))
set_option maxRecDepth 100000 in
set_option maxHeartbeats 4000000 in
theorem tb_U_mayFromBounds_13 {p : Program} {l : Launch} {e : Env} {R : Room} {s : State} {m : MethodId} {args : Array Value} {below : List Frame} {meth : Method} {c : Code} {Q : State → Prop} {D : va_G} {ad : Nat → Nat} {cI : ClassId} {A : Nat → Prop} {k : (Nat → Nat → Int32) → Int32 → Int32 → Int32 → Option (Bool × (Nat → Nat → Int32))} {nn : Nat} (F : CallFix p m c qb_U_mayFromBounds 6 s args qtb "CaptureSubtypes$Turning") (hR : 2 * nn + 329 ≤ R.frames ∧ 48 * nn + 8126 ≤ R.locals) (hK : va_K D qcl [(cI, .int)] s) (hN : qnests xns s) (hA : ∀ q, s.heap.size ≤ q → A q) (hk : ∀ {S : (Nat → Nat → Int32)} {a1 a2 a3 : Int32} {res : Bool × (Nat → Nat → Int32)}, k S a1 a2 a3 = some res → xMi l qy_U_mayTurn qb_U_mayTurn 4 (some .boolean) { frames := 2 * nn + 328, cells := 0, slots := 0, locals := 48 * nn + 8103 } D ad cI S [.ref (ad 5), .int a1, .int a2, .int a3] (qB res.1) res.2) {res : (Bool × (Nat → Nat → Int32))} (hQ : ∀ (H : Heap) (locs : List Loc) (pc : Nat) (ls : Array Slot), decode qb_U_mayFromBounds pc = .ok (.ireturn, 1) → xW D ad cI A s.heap res.2 H locs → W p l e R s m args below meth c H locs 0 0 Q (F0 m pc ls [.int (qB res.1)])) {k_13 : (Nat → Nat → Int32) → Int32 → Int32 → Int32 → Int32 → Int32 → Option (Bool × (Nat → Nat → Int32))} (hk_13 : ∀ (S : Nat → Nat → Int32) (v1 v2 v3 v4 v5 : Int32), k_13 S v1 v2 v3 v4 v5 = some res → ∀ {H : Heap} {locs : List Loc} {ls : Array Slot}, xW D ad cI A s.heap S H locs → lv_has ls 6 [(0, .ref (ad 5)), (1, .int v1), (2, .int v2), (3, .int v3), (4, .int v4), (5, .int v5)] → W p l e R s m args below meth c H locs 0 0 Q (F0 m 13 ls [])) (S : (Nat → Nat → Int32)) (v1 v2 v3 v4 v5 : Int32) (hM : fb_U_mayFromBounds_13 k k_13 S v1 v2 v3 v4 v5 = some res) {H : Heap} {locs : List Loc} {ls : Array Slot} (w : xW D ad cI A s.heap S H locs) (hl : lv_has ls 6 [(0, .ref (ad 5)), (1, .int v1), (2, .int v2), (3, .int v3), (4, .int v4), (5, .int v5)]) : W p l e R s m args below meth c H locs 0 0 Q (F0 m 13 ls []) := by
  unfold fb_U_mayFromBounds_13 at hM
  refine lv_iload F.1 F.2.1 qd_U_mayFromBounds_13 (lv_at hl 5 rfl) ?_
  refine lv_iload F.1 F.2.1 qd_U_mayFromBounds_15 (lv_at hl 4 rfl) ?_
  refine lv_icmp_ge (tgt := 47) F.1 F.2.1 qd_U_mayFromBounds_17 (by decide) (fun hc1 => ?_) (fun hc1 => ?_)
  · rw [if_pos hc1] at hM
    refine lv_iconst (v := 1) F.1 F.2.1 qd_U_mayFromBounds_47 (by decide) ?_
    cases hM
    exact hQ _ _ _ _ qd_U_mayFromBounds_48 w
  · rw [if_neg hc1] at hM
    refine lv_aload_n F.1 F.2.1 qd_U_mayFromBounds_20 rfl (lv_at hl 0 rfl) ?_
    refine lv_aload_n F.1 F.2.1 qd_U_mayFromBounds_21 rfl (lv_at hl 0 rfl) ?_
    refine xg_U_shapes F hK w qk_156 qd_U_mayFromBounds_22 ?_
    refine lv_iload_n F.1 F.2.1 qd_U_mayFromBounds_25 rfl (lv_at hl 1 rfl) ?_
    refine lv_iload F.1 F.2.1 qd_U_mayFromBounds_26 (lv_at hl 5 rfl) ?_
    obtain ⟨q2, hq3, hM⟩ := qbd hM
    refine x_calli F hK hN hA w (c_S_boundOf l D ad cI hq3) qk_558 qk_486 qk_487 qk_5 qk_488 qv_S_boundOf rfl rfl ⟨Nat.le_trans (by show 67 + 1 ≤ 2 * nn + 329; omega) hR.1, Nat.le_trans (by show 8 + (5 + 11) + 1824 ≤ 48 * nn + 8126; omega) hR.2⟩ (ci := 2) rfl (j := 3) rfl hl.1 rfl (Nat.le_of_ble_eq_true rfl) qd_U_mayFromBounds_28 (fun H locs w => ?_)
    refine lv_iload_n F.1 F.2.1 qd_U_mayFromBounds_31 rfl (lv_at hl 2 rfl) ?_
    refine lv_iload_n F.1 F.2.1 qd_U_mayFromBounds_32 rfl (lv_at hl 3 rfl) ?_
    obtain ⟨q4, hq5, hM⟩ := qbd hM
    refine x_calli F hK hN hA w (hk hq5) qk_559 qk_549 qs_U_mayTurn qk_7 qk_550 qv_U_mayTurn rfl rfl ⟨Nat.le_trans (by show 2 * nn + 328 + 1 ≤ 2 * nn + 329; omega) hR.1, Nat.le_trans (by show 8 + (4 + 11) + (48 * nn + 8103) ≤ 48 * nn + 8126; omega) hR.2⟩ (ci := 4) rfl (j := 5) rfl hl.1 rfl (Nat.le_of_ble_eq_true rfl) qd_U_mayFromBounds_33 (fun H locs w => ?_)
    refine lv_if_ne (tgt := 41) F.1 F.2.1 qd_U_mayFromBounds_36 (by decide) (fun hc6 => ?_) (fun hc6 => ?_)
    · rw [if_neg hc6] at hM
      refine lv_iinc (v := (v5 + (1 : Int32))) (lv' := [(5, .int (v5 + (1 : Int32))), (0, .ref (ad 5)), (1, .int v1), (2, .int v2), (3, .int v3), (4, .int v4)]) F.1 F.2.1 qd_U_mayFromBounds_41 hl (k := 5) rfl rfl (by decide) rfl (fun ls hl => ?_)
      refine lv_goto (tgt := 13) F.1 F.2.1 qd_U_mayFromBounds_44 (by decide) ?_
      exact hk_13 _ _ _ _ _ _ hM w (lv_sub hl [1, 2, 3, 4, 5, 0] rfl)
    · rw [if_pos hc6] at hM
      refine lv_iconst (v := 0) F.1 F.2.1 qd_U_mayFromBounds_39 (by decide) ?_
      cases hM
      exact hQ _ _ _ _ qd_U_mayFromBounds_40 w
set_option maxRecDepth 100000 in
set_option maxHeartbeats 4000000 in
theorem t_U_mayFromBounds_13 {p : Program} {l : Launch} {e : Env} {R : Room} {s : State} {m : MethodId} {args : Array Value} {below : List Frame} {meth : Method} {c : Code} {Q : State → Prop} {D : va_G} {ad : Nat → Nat} {cI : ClassId} {A : Nat → Prop} {k : (Nat → Nat → Int32) → Int32 → Int32 → Int32 → Option (Bool × (Nat → Nat → Int32))} {nn : Nat} (F : CallFix p m c qb_U_mayFromBounds 6 s args qtb "CaptureSubtypes$Turning") (hR : 2 * nn + 329 ≤ R.frames ∧ 48 * nn + 8126 ≤ R.locals) (hK : va_K D qcl [(cI, .int)] s) (hN : qnests xns s) (hA : ∀ q, s.heap.size ≤ q → A q) (hk : ∀ {S : (Nat → Nat → Int32)} {a1 a2 a3 : Int32} {res : Bool × (Nat → Nat → Int32)}, k S a1 a2 a3 = some res → xMi l qy_U_mayTurn qb_U_mayTurn 4 (some .boolean) { frames := 2 * nn + 328, cells := 0, slots := 0, locals := 48 * nn + 8103 } D ad cI S [.ref (ad 5), .int a1, .int a2, .int a3] (qB res.1) res.2) {res : (Bool × (Nat → Nat → Int32))} (hQ : ∀ (H : Heap) (locs : List Loc) (pc : Nat) (ls : Array Slot), decode qb_U_mayFromBounds pc = .ok (.ireturn, 1) → xW D ad cI A s.heap res.2 H locs → W p l e R s m args below meth c H locs 0 0 Q (F0 m pc ls [.int (qB res.1)])) : ∀ (n : Nat) (S : (Nat → Nat → Int32)) (v1 v2 v3 v4 v5 : Int32) (hM : f_U_mayFromBounds_13 k n S v1 v2 v3 v4 v5 = some res) {H : Heap} {locs : List Loc} {ls : Array Slot} (w : xW D ad cI A s.heap S H locs) (hl : lv_has ls 6 [(0, .ref (ad 5)), (1, .int v1), (2, .int v2), (3, .int v3), (4, .int v4), (5, .int v5)]), W p l e R s m args below meth c H locs 0 0 Q (F0 m 13 ls []) := by
  intro n
  induction n with
  | zero => intro S v1 v2 v3 v4 v5 hM; exact absurd hM (by simp [f_U_mayFromBounds_13])
  | succ n ih => intro S v1 v2 v3 v4 v5 hM H locs ls w hl; exact tb_U_mayFromBounds_13 F hR hK hN hA hk hQ (k_13 := f_U_mayFromBounds_13 k n) (fun S v1 v2 v3 v4 v5 hM H locs ls w hl => ih S v1 v2 v3 v4 v5 hM w hl) S v1 v2 v3 v4 v5 hM w hl
set_option maxRecDepth 100000 in
set_option maxHeartbeats 4000000 in
theorem t_U_mayFromBounds {p : Program} {l : Launch} {e : Env} {R : Room} {s : State} {m : MethodId} {args : Array Value} {below : List Frame} {meth : Method} {c : Code} {Q : State → Prop} {D : va_G} {ad : Nat → Nat} {cI : ClassId} {A : Nat → Prop} {k : (Nat → Nat → Int32) → Int32 → Int32 → Int32 → Option (Bool × (Nat → Nat → Int32))} {nn : Nat} (F : CallFix p m c qb_U_mayFromBounds 6 s args qtb "CaptureSubtypes$Turning") (hR : 2 * nn + 329 ≤ R.frames ∧ 48 * nn + 8126 ≤ R.locals) (hK : va_K D qcl [(cI, .int)] s) (hN : qnests xns s) (hA : ∀ q, s.heap.size ≤ q → A q) (hk : ∀ {S : (Nat → Nat → Int32)} {a1 a2 a3 : Int32} {res : Bool × (Nat → Nat → Int32)}, k S a1 a2 a3 = some res → xMi l qy_U_mayTurn qb_U_mayTurn 4 (some .boolean) { frames := 2 * nn + 328, cells := 0, slots := 0, locals := 48 * nn + 8103 } D ad cI S [.ref (ad 5), .int a1, .int a2, .int a3] (qB res.1) res.2) {res : (Bool × (Nat → Nat → Int32))} (hQ : ∀ (H : Heap) (locs : List Loc) (pc : Nat) (ls : Array Slot), decode qb_U_mayFromBounds pc = .ok (.ireturn, 1) → xW D ad cI A s.heap res.2 H locs → W p l e R s m args below meth c H locs 0 0 Q (F0 m pc ls [.int (qB res.1)])) (S : (Nat → Nat → Int32)) (a1 a2 a3 : Int32) (hM : f_U_mayFromBounds k S a1 a2 a3 = some res) {H : Heap} {locs : List Loc} {ls : Array Slot} (w : xW D ad cI A s.heap S H locs) (hl : lv_has ls 6 [(0, .ref (ad 5)), (1, .int a1), (2, .int a2), (3, .int a3)]) : W p l e R s m args below meth c H locs 0 0 Q (F0 m 0 ls []) := by
  unfold f_U_mayFromBounds at hM
  refine lv_aload_n F.1 F.2.1 qd_U_mayFromBounds_0 rfl (lv_at hl 0 rfl) ?_
  refine xg_U_shapes F hK w qk_156 qd_U_mayFromBounds_1 ?_
  refine lv_iload_n F.1 F.2.1 qd_U_mayFromBounds_4 rfl (lv_at hl 1 rfl) ?_
  obtain ⟨q1, hq2, hM⟩ := qbd hM
  refine x_calli F hK hN hA w (c_S_boundCountOf l D ad cI hq2) qk_557 qk_476 qk_477 qk_5 qk_478 qv_S_boundCountOf rfl rfl ⟨Nat.le_trans (by show 1 + 1 ≤ 2 * nn + 329; omega) hR.1, Nat.le_trans (by show 8 + (3 + 11) + 40 ≤ 48 * nn + 8126; omega) hR.2⟩ (ci := 2) rfl (j := 3) rfl hl.1 rfl (Nat.le_of_ble_eq_true rfl) qd_U_mayFromBounds_5 (fun H locs w => ?_)
  refine lv_istore (lv' := [(4, .int q1), (0, .ref (ad 5)), (1, .int a1), (2, .int a2), (3, .int a3)]) F.1 F.2.1 qd_U_mayFromBounds_8 hl (by decide) rfl (fun ls hl => ?_)
  refine lv_iconst (v := 0) F.1 F.2.1 qd_U_mayFromBounds_10 (by decide) ?_
  refine lv_istore (lv' := [(5, .int (0 : Int32)), (4, .int q1), (0, .ref (ad 5)), (1, .int a1), (2, .int a2), (3, .int a3)]) F.1 F.2.1 qd_U_mayFromBounds_11 hl (by decide) rfl (fun ls hl => ?_)
  exact t_U_mayFromBounds_13 F hR hK hN hA hk hQ  qfu _ _ _ _ _ _ hM w (lv_sub hl [2, 3, 4, 5, 1, 0] rfl)
set_option maxRecDepth 100000 in
theorem c_U_mayFromBounds (l : Launch) (D : va_G) (ad : Nat → Nat) (cI : ClassId) {k : (Nat → Nat → Int32) → Int32 → Int32 → Int32 → Option (Bool × (Nat → Nat → Int32))} {nn : Nat} (hk : ∀ {S : (Nat → Nat → Int32)} {a1 a2 a3 : Int32} {res : Bool × (Nat → Nat → Int32)}, k S a1 a2 a3 = some res → xMi l qy_U_mayTurn qb_U_mayTurn 4 (some .boolean) { frames := 2 * nn + 328, cells := 0, slots := 0, locals := 48 * nn + 8103 } D ad cI S [.ref (ad 5), .int a1, .int a2, .int a3] (qB res.1) res.2) {S : (Nat → Nat → Int32)} {a1 a2 a3 : Int32} {res : (Bool × (Nat → Nat → Int32))} (hM : f_U_mayFromBounds k S a1 a2 a3 = some res) : xMi l qy_U_mayFromBounds qb_U_mayFromBounds 6 (some .boolean) { frames := 2 * nn + 329, cells := 0, slots := 0, locals := 48 * nn + 8126 } D ad cI S [.ref (ad 5), .int a1, .int a2, .int a3] (qB res.1) res.2 := x_ofz (by decide +kernel) (Nat.le_of_ble_eq_true rfl) (fun p e s m args below meth c Q A ls F hK hN hA w hl hQ => t_U_mayFromBounds F ⟨Nat.le_refl _, Nat.le_refl _⟩ hK hN hA hk hQ S a1 a2 a3 hM w hl)
-- U_mayIntoBounds
def fb_U_mayIntoBounds_13 (k : (Nat → Nat → Int32) → Int32 → Int32 → Int32 → Option (Bool × (Nat → Nat → Int32))) (k_13 : (Nat → Nat → Int32) → Int32 → Int32 → Int32 → Int32 → Int32 → Option (Bool × (Nat → Nat → Int32))) (S : (Nat → Nat → Int32)) (v1 v2 v3 v4 v5 : Int32) : Option (Bool × (Nat → Nat → Int32)) := if v4 ≤ v5 then (some (true, S)) else ((f_S_boundOf S v2 v5).bind (fun q2 => (k q2.2 v1 q2.1 v3).bind (fun q4 => if (qB q4.1) = 0 then (some (false, q4.2)) else (k_13 q4.2 v1 v2 v3 v4 (v5 + (1 : Int32))))))
def f_U_mayIntoBounds_13 (k : (Nat → Nat → Int32) → Int32 → Int32 → Int32 → Option (Bool × (Nat → Nat → Int32))) : Nat → (Nat → Nat → Int32) → Int32 → Int32 → Int32 → Int32 → Int32 → Option (Bool × (Nat → Nat → Int32))
  | 0 => fun _ _ _ _ _ _ => none
  | n + 1 => fun S v1 v2 v3 v4 v5 => fb_U_mayIntoBounds_13 k (f_U_mayIntoBounds_13 k n) S v1 v2 v3 v4 v5
def f_U_mayIntoBounds (k : (Nat → Nat → Int32) → Int32 → Int32 → Int32 → Option (Bool × (Nat → Nat → Int32))) (S : (Nat → Nat → Int32)) (a1 a2 a3 : Int32) : Option (Bool × (Nat → Nat → Int32)) := (f_S_boundCountOf S a2).bind (fun q1 => f_U_mayIntoBounds_13 k  qfu S a1 a2 a3 q1 (0 : Int32))
set_option maxRecDepth 100000 in
set_option maxHeartbeats 4000000 in
theorem tb_U_mayIntoBounds_13 {p : Program} {l : Launch} {e : Env} {R : Room} {s : State} {m : MethodId} {args : Array Value} {below : List Frame} {meth : Method} {c : Code} {Q : State → Prop} {D : va_G} {ad : Nat → Nat} {cI : ClassId} {A : Nat → Prop} {k : (Nat → Nat → Int32) → Int32 → Int32 → Int32 → Option (Bool × (Nat → Nat → Int32))} {nn : Nat} (F : CallFix p m c qb_U_mayIntoBounds 6 s args qtb "CaptureSubtypes$Turning") (hR : 2 * nn + 329 ≤ R.frames ∧ 48 * nn + 8126 ≤ R.locals) (hK : va_K D qcl [(cI, .int)] s) (hN : qnests xns s) (hA : ∀ q, s.heap.size ≤ q → A q) (hk : ∀ {S : (Nat → Nat → Int32)} {a1 a2 a3 : Int32} {res : Bool × (Nat → Nat → Int32)}, k S a1 a2 a3 = some res → xMi l qy_U_mayTurn qb_U_mayTurn 4 (some .boolean) { frames := 2 * nn + 328, cells := 0, slots := 0, locals := 48 * nn + 8103 } D ad cI S [.ref (ad 5), .int a1, .int a2, .int a3] (qB res.1) res.2) {res : (Bool × (Nat → Nat → Int32))} (hQ : ∀ (H : Heap) (locs : List Loc) (pc : Nat) (ls : Array Slot), decode qb_U_mayIntoBounds pc = .ok (.ireturn, 1) → xW D ad cI A s.heap res.2 H locs → W p l e R s m args below meth c H locs 0 0 Q (F0 m pc ls [.int (qB res.1)])) {k_13 : (Nat → Nat → Int32) → Int32 → Int32 → Int32 → Int32 → Int32 → Option (Bool × (Nat → Nat → Int32))} (hk_13 : ∀ (S : Nat → Nat → Int32) (v1 v2 v3 v4 v5 : Int32), k_13 S v1 v2 v3 v4 v5 = some res → ∀ {H : Heap} {locs : List Loc} {ls : Array Slot}, xW D ad cI A s.heap S H locs → lv_has ls 6 [(0, .ref (ad 5)), (1, .int v1), (2, .int v2), (3, .int v3), (4, .int v4), (5, .int v5)] → W p l e R s m args below meth c H locs 0 0 Q (F0 m 13 ls [])) (S : (Nat → Nat → Int32)) (v1 v2 v3 v4 v5 : Int32) (hM : fb_U_mayIntoBounds_13 k k_13 S v1 v2 v3 v4 v5 = some res) {H : Heap} {locs : List Loc} {ls : Array Slot} (w : xW D ad cI A s.heap S H locs) (hl : lv_has ls 6 [(0, .ref (ad 5)), (1, .int v1), (2, .int v2), (3, .int v3), (4, .int v4), (5, .int v5)]) : W p l e R s m args below meth c H locs 0 0 Q (F0 m 13 ls []) := by
  unfold fb_U_mayIntoBounds_13 at hM
  refine lv_iload F.1 F.2.1 qd_U_mayIntoBounds_13 (lv_at hl 5 rfl) ?_
  refine lv_iload F.1 F.2.1 qd_U_mayIntoBounds_15 (lv_at hl 4 rfl) ?_
  refine lv_icmp_ge (tgt := 47) F.1 F.2.1 qd_U_mayIntoBounds_17 (by decide) (fun hc1 => ?_) (fun hc1 => ?_)
  · rw [if_pos hc1] at hM
    refine lv_iconst (v := 1) F.1 F.2.1 qd_U_mayIntoBounds_47 (by decide) ?_
    cases hM
    exact hQ _ _ _ _ qd_U_mayIntoBounds_48 w
  · rw [if_neg hc1] at hM
    refine lv_aload_n F.1 F.2.1 qd_U_mayIntoBounds_20 rfl (lv_at hl 0 rfl) ?_
    refine lv_iload_n F.1 F.2.1 qd_U_mayIntoBounds_21 rfl (lv_at hl 1 rfl) ?_
    refine lv_aload_n F.1 F.2.1 qd_U_mayIntoBounds_22 rfl (lv_at hl 0 rfl) ?_
    refine xg_U_shapes F hK w qk_156 qd_U_mayIntoBounds_23 ?_
    refine lv_iload_n F.1 F.2.1 qd_U_mayIntoBounds_26 rfl (lv_at hl 2 rfl) ?_
    refine lv_iload F.1 F.2.1 qd_U_mayIntoBounds_27 (lv_at hl 5 rfl) ?_
    obtain ⟨q2, hq3, hM⟩ := qbd hM
    refine x_calli F hK hN hA w (c_S_boundOf l D ad cI hq3) qk_558 qk_486 qk_487 qk_5 qk_488 qv_S_boundOf rfl rfl ⟨Nat.le_trans (by show 67 + 1 ≤ 2 * nn + 329; omega) hR.1, Nat.le_trans (by show 8 + (5 + 11) + 1824 ≤ 48 * nn + 8126; omega) hR.2⟩ (ci := 2) rfl (j := 3) rfl hl.1 rfl (Nat.le_of_ble_eq_true rfl) qd_U_mayIntoBounds_29 (fun H locs w => ?_)
    refine lv_iload_n F.1 F.2.1 qd_U_mayIntoBounds_32 rfl (lv_at hl 3 rfl) ?_
    obtain ⟨q4, hq5, hM⟩ := qbd hM
    refine x_calli F hK hN hA w (hk hq5) qk_559 qk_549 qs_U_mayTurn qk_7 qk_550 qv_U_mayTurn rfl rfl ⟨Nat.le_trans (by show 2 * nn + 328 + 1 ≤ 2 * nn + 329; omega) hR.1, Nat.le_trans (by show 8 + (4 + 11) + (48 * nn + 8103) ≤ 48 * nn + 8126; omega) hR.2⟩ (ci := 4) rfl (j := 5) rfl hl.1 rfl (Nat.le_of_ble_eq_true rfl) qd_U_mayIntoBounds_33 (fun H locs w => ?_)
    refine lv_if_ne (tgt := 41) F.1 F.2.1 qd_U_mayIntoBounds_36 (by decide) (fun hc6 => ?_) (fun hc6 => ?_)
    · rw [if_neg hc6] at hM
      refine lv_iinc (v := (v5 + (1 : Int32))) (lv' := [(5, .int (v5 + (1 : Int32))), (0, .ref (ad 5)), (1, .int v1), (2, .int v2), (3, .int v3), (4, .int v4)]) F.1 F.2.1 qd_U_mayIntoBounds_41 hl (k := 5) rfl rfl (by decide) rfl (fun ls hl => ?_)
      refine lv_goto (tgt := 13) F.1 F.2.1 qd_U_mayIntoBounds_44 (by decide) ?_
      exact hk_13 _ _ _ _ _ _ hM w (lv_sub hl [1, 2, 3, 4, 5, 0] rfl)
    · rw [if_pos hc6] at hM
      refine lv_iconst (v := 0) F.1 F.2.1 qd_U_mayIntoBounds_39 (by decide) ?_
      cases hM
      exact hQ _ _ _ _ qd_U_mayIntoBounds_40 w
set_option maxRecDepth 100000 in
set_option maxHeartbeats 4000000 in
theorem t_U_mayIntoBounds_13 {p : Program} {l : Launch} {e : Env} {R : Room} {s : State} {m : MethodId} {args : Array Value} {below : List Frame} {meth : Method} {c : Code} {Q : State → Prop} {D : va_G} {ad : Nat → Nat} {cI : ClassId} {A : Nat → Prop} {k : (Nat → Nat → Int32) → Int32 → Int32 → Int32 → Option (Bool × (Nat → Nat → Int32))} {nn : Nat} (F : CallFix p m c qb_U_mayIntoBounds 6 s args qtb "CaptureSubtypes$Turning") (hR : 2 * nn + 329 ≤ R.frames ∧ 48 * nn + 8126 ≤ R.locals) (hK : va_K D qcl [(cI, .int)] s) (hN : qnests xns s) (hA : ∀ q, s.heap.size ≤ q → A q) (hk : ∀ {S : (Nat → Nat → Int32)} {a1 a2 a3 : Int32} {res : Bool × (Nat → Nat → Int32)}, k S a1 a2 a3 = some res → xMi l qy_U_mayTurn qb_U_mayTurn 4 (some .boolean) { frames := 2 * nn + 328, cells := 0, slots := 0, locals := 48 * nn + 8103 } D ad cI S [.ref (ad 5), .int a1, .int a2, .int a3] (qB res.1) res.2) {res : (Bool × (Nat → Nat → Int32))} (hQ : ∀ (H : Heap) (locs : List Loc) (pc : Nat) (ls : Array Slot), decode qb_U_mayIntoBounds pc = .ok (.ireturn, 1) → xW D ad cI A s.heap res.2 H locs → W p l e R s m args below meth c H locs 0 0 Q (F0 m pc ls [.int (qB res.1)])) : ∀ (n : Nat) (S : (Nat → Nat → Int32)) (v1 v2 v3 v4 v5 : Int32) (hM : f_U_mayIntoBounds_13 k n S v1 v2 v3 v4 v5 = some res) {H : Heap} {locs : List Loc} {ls : Array Slot} (w : xW D ad cI A s.heap S H locs) (hl : lv_has ls 6 [(0, .ref (ad 5)), (1, .int v1), (2, .int v2), (3, .int v3), (4, .int v4), (5, .int v5)]), W p l e R s m args below meth c H locs 0 0 Q (F0 m 13 ls []) := by
  intro n
  induction n with
  | zero => intro S v1 v2 v3 v4 v5 hM; exact absurd hM (by simp [f_U_mayIntoBounds_13])
  | succ n ih => intro S v1 v2 v3 v4 v5 hM H locs ls w hl; exact tb_U_mayIntoBounds_13 F hR hK hN hA hk hQ (k_13 := f_U_mayIntoBounds_13 k n) (fun S v1 v2 v3 v4 v5 hM H locs ls w hl => ih S v1 v2 v3 v4 v5 hM w hl) S v1 v2 v3 v4 v5 hM w hl
set_option maxRecDepth 100000 in
set_option maxHeartbeats 4000000 in
theorem t_U_mayIntoBounds {p : Program} {l : Launch} {e : Env} {R : Room} {s : State} {m : MethodId} {args : Array Value} {below : List Frame} {meth : Method} {c : Code} {Q : State → Prop} {D : va_G} {ad : Nat → Nat} {cI : ClassId} {A : Nat → Prop} {k : (Nat → Nat → Int32) → Int32 → Int32 → Int32 → Option (Bool × (Nat → Nat → Int32))} {nn : Nat} (F : CallFix p m c qb_U_mayIntoBounds 6 s args qtb "CaptureSubtypes$Turning") (hR : 2 * nn + 329 ≤ R.frames ∧ 48 * nn + 8126 ≤ R.locals) (hK : va_K D qcl [(cI, .int)] s) (hN : qnests xns s) (hA : ∀ q, s.heap.size ≤ q → A q) (hk : ∀ {S : (Nat → Nat → Int32)} {a1 a2 a3 : Int32} {res : Bool × (Nat → Nat → Int32)}, k S a1 a2 a3 = some res → xMi l qy_U_mayTurn qb_U_mayTurn 4 (some .boolean) { frames := 2 * nn + 328, cells := 0, slots := 0, locals := 48 * nn + 8103 } D ad cI S [.ref (ad 5), .int a1, .int a2, .int a3] (qB res.1) res.2) {res : (Bool × (Nat → Nat → Int32))} (hQ : ∀ (H : Heap) (locs : List Loc) (pc : Nat) (ls : Array Slot), decode qb_U_mayIntoBounds pc = .ok (.ireturn, 1) → xW D ad cI A s.heap res.2 H locs → W p l e R s m args below meth c H locs 0 0 Q (F0 m pc ls [.int (qB res.1)])) (S : (Nat → Nat → Int32)) (a1 a2 a3 : Int32) (hM : f_U_mayIntoBounds k S a1 a2 a3 = some res) {H : Heap} {locs : List Loc} {ls : Array Slot} (w : xW D ad cI A s.heap S H locs) (hl : lv_has ls 6 [(0, .ref (ad 5)), (1, .int a1), (2, .int a2), (3, .int a3)]) : W p l e R s m args below meth c H locs 0 0 Q (F0 m 0 ls []) := by
  unfold f_U_mayIntoBounds at hM
  refine lv_aload_n F.1 F.2.1 qd_U_mayIntoBounds_0 rfl (lv_at hl 0 rfl) ?_
  refine xg_U_shapes F hK w qk_156 qd_U_mayIntoBounds_1 ?_
  refine lv_iload_n F.1 F.2.1 qd_U_mayIntoBounds_4 rfl (lv_at hl 2 rfl) ?_
  obtain ⟨q1, hq2, hM⟩ := qbd hM
  refine x_calli F hK hN hA w (c_S_boundCountOf l D ad cI hq2) qk_557 qk_476 qk_477 qk_5 qk_478 qv_S_boundCountOf rfl rfl ⟨Nat.le_trans (by show 1 + 1 ≤ 2 * nn + 329; omega) hR.1, Nat.le_trans (by show 8 + (3 + 11) + 40 ≤ 48 * nn + 8126; omega) hR.2⟩ (ci := 2) rfl (j := 3) rfl hl.1 rfl (Nat.le_of_ble_eq_true rfl) qd_U_mayIntoBounds_5 (fun H locs w => ?_)
  refine lv_istore (lv' := [(4, .int q1), (0, .ref (ad 5)), (1, .int a1), (2, .int a2), (3, .int a3)]) F.1 F.2.1 qd_U_mayIntoBounds_8 hl (by decide) rfl (fun ls hl => ?_)
  refine lv_iconst (v := 0) F.1 F.2.1 qd_U_mayIntoBounds_10 (by decide) ?_
  refine lv_istore (lv' := [(5, .int (0 : Int32)), (4, .int q1), (0, .ref (ad 5)), (1, .int a1), (2, .int a2), (3, .int a3)]) F.1 F.2.1 qd_U_mayIntoBounds_11 hl (by decide) rfl (fun ls hl => ?_)
  exact t_U_mayIntoBounds_13 F hR hK hN hA hk hQ  qfu _ _ _ _ _ _ hM w (lv_sub hl [2, 3, 4, 5, 1, 0] rfl)
set_option maxRecDepth 100000 in
theorem c_U_mayIntoBounds (l : Launch) (D : va_G) (ad : Nat → Nat) (cI : ClassId) {k : (Nat → Nat → Int32) → Int32 → Int32 → Int32 → Option (Bool × (Nat → Nat → Int32))} {nn : Nat} (hk : ∀ {S : (Nat → Nat → Int32)} {a1 a2 a3 : Int32} {res : Bool × (Nat → Nat → Int32)}, k S a1 a2 a3 = some res → xMi l qy_U_mayTurn qb_U_mayTurn 4 (some .boolean) { frames := 2 * nn + 328, cells := 0, slots := 0, locals := 48 * nn + 8103 } D ad cI S [.ref (ad 5), .int a1, .int a2, .int a3] (qB res.1) res.2) {S : (Nat → Nat → Int32)} {a1 a2 a3 : Int32} {res : (Bool × (Nat → Nat → Int32))} (hM : f_U_mayIntoBounds k S a1 a2 a3 = some res) : xMi l qy_U_mayIntoBounds qb_U_mayIntoBounds 6 (some .boolean) { frames := 2 * nn + 329, cells := 0, slots := 0, locals := 48 * nn + 8126 } D ad cI S [.ref (ad 5), .int a1, .int a2, .int a3] (qB res.1) res.2 := x_ofz (by decide +kernel) (Nat.le_of_ble_eq_true rfl) (fun p e s m args below meth c Q A ls F hK hN hA w hl hQ => t_U_mayIntoBounds F ⟨Nat.le_refl _, Nat.le_refl _⟩ hK hN hA hk hQ S a1 a2 a3 hM w hl)
-- U_mayTurn
def f_U_mayTurn_140 (k : (Nat → Nat → Int32) → Int32 → Int32 → Int32 → Option (Bool × (Nat → Nat → Int32))) (S : (Nat → Nat → Int32)) (v1 v2 : Int32) : Option (Bool × (Nat → Nat → Int32)) := (f_T_isOfClass S v1).bind (fun q1 => if (qB q1) = 0 then (some (false, S)) else ((f_T_isOfClass S v2).bind (fun q4 => if (qB q4) = 0 then (some (false, S)) else ((f_U_mayByClass S v1 v2).bind (fun q7 => if (qB q7.1) = 0 then (some (false, q7.2)) else (some (true, q7.2)))))))
def fb_U_mayTurn (k : (Nat → Nat → Int32) → Int32 → Int32 → Int32 → Option (Bool × (Nat → Nat → Int32))) (S : (Nat → Nat → Int32)) (a1 a2 a3 : Int32) : Option (Bool × (Nat → Nat → Int32)) := if 0 < a3 then ((f_O_isOne 64 S a1 a2 (a3 - (1 : Int32))).bind (fun q2 => if (qB q2.1) = 0 then ((f_O_isOne 64 q2.2 a2 a1 (a3 - (1 : Int32))).bind (fun q5 => if (qB q5.1) = 0 then (if a1 = (1 : Int32) then (some (false, q5.2)) else (if a2 = (1 : Int32) then (some (false, q5.2)) else ((f_T_isVariable q5.2 a1).bind (fun q10 => if (qB q10) = 0 then ((f_T_isVariable q5.2 a2).bind (fun q13 => if (qB q13) = 0 then ((f_T_sortOf q5.2 a1).bind (fun q16 => if q16 = (4 : Int32) then ((f_T_sortOf q5.2 a2).bind (fun q19 => if q19 = (4 : Int32) then ((f_T_firstOf q5.2 a1).bind (fun q22 => (f_T_firstOf q5.2 a2).bind (fun q24 => (k q5.2 q22 q24 (a3 - (1 : Int32))).bind (fun q26 => some (q26.1, q26.2))))) else (f_U_mayTurn_140 k  q5.2 a1 a2))) else (f_U_mayTurn_140 k  q5.2 a1 a2))) else ((f_U_mayIntoBounds k q5.2 a1 a2 (a3 - (1 : Int32))).bind (fun q28 => some (q28.1, q28.2))))) else ((f_U_mayFromBounds k q5.2 a1 a2 (a3 - (1 : Int32))).bind (fun q30 => some (q30.1, q30.2))))))) else (some (true, q5.2)))) else (some (true, q2.2)))) else (some (false, S))
def f_U_mayTurn : Nat → (Nat → Nat → Int32) → Int32 → Int32 → Int32 → Option (Bool × (Nat → Nat → Int32))
  | 0 => fun _ _ _ _ => none
  | n + 1 => fun S a1 a2 a3 => fb_U_mayTurn (f_U_mayTurn n) S a1 a2 a3
set_option maxRecDepth 100000 in
set_option maxHeartbeats 4000000 in
theorem t_U_mayTurn_140 {p : Program} {l : Launch} {e : Env} {R : Room} {s : State} {m : MethodId} {args : Array Value} {below : List Frame} {meth : Method} {c : Code} {Q : State → Prop} {D : va_G} {ad : Nat → Nat} {cI : ClassId} {A : Nat → Prop} {k : (Nat → Nat → Int32) → Int32 → Int32 → Int32 → Option (Bool × (Nat → Nat → Int32))} {nn : Nat} (F : CallFix p m c qb_U_mayTurn 4 s args qtb "CaptureSubtypes$Turning") (hR : 2 * nn + 330 ≤ R.frames ∧ 48 * nn + 8151 ≤ R.locals) (hK : va_K D qcl [(cI, .int)] s) (hN : qnests xns s) (hA : ∀ q, s.heap.size ≤ q → A q) (hk : ∀ {S : (Nat → Nat → Int32)} {a1 a2 a3 : Int32} {res : Bool × (Nat → Nat → Int32)}, k S a1 a2 a3 = some res → xMi l qy_U_mayTurn qb_U_mayTurn 4 (some .boolean) { frames := 2 * nn + 328, cells := 0, slots := 0, locals := 48 * nn + 8103 } D ad cI S [.ref (ad 5), .int a1, .int a2, .int a3] (qB res.1) res.2) {res : (Bool × (Nat → Nat → Int32))} (hQ : ∀ (H : Heap) (locs : List Loc) (pc : Nat) (ls : Array Slot), decode qb_U_mayTurn pc = .ok (.ireturn, 1) → xW D ad cI A s.heap res.2 H locs → W p l e R s m args below meth c H locs 0 0 Q (F0 m pc ls [.int (qB res.1)])) (S : (Nat → Nat → Int32)) (v1 v2 : Int32) (hM : f_U_mayTurn_140 k S v1 v2 = some res) {H : Heap} {locs : List Loc} {ls : Array Slot} (w : xW D ad cI A s.heap S H locs) (hl : lv_has ls 4 [(0, .ref (ad 5)), (1, .int v1), (2, .int v2)]) : W p l e R s m args below meth c H locs 0 0 Q (F0 m 140 ls []) := by
  unfold f_U_mayTurn_140 at hM
  refine lv_aload_n F.1 F.2.1 qd_U_mayTurn_140 rfl (lv_at hl 0 rfl) ?_
  refine xg_U_types F hK w qk_155 qd_U_mayTurn_141 ?_
  refine lv_iload_n F.1 F.2.1 qd_U_mayTurn_144 rfl (lv_at hl 1 rfl) ?_
  obtain ⟨q1, hq2, hM⟩ := qbd hM
  refine x_calli F hK hN hA w (c_T_isOfClass l D ad cI hq2) qk_566 qk_266 qk_267 qk_3 qk_268 qv_T_isOfClass rfl rfl ⟨Nat.le_trans (by show 1 + 1 ≤ 2 * nn + 330; omega) hR.1, Nat.le_trans (by show 8 + (3 + 11) + 21 ≤ 48 * nn + 8151; omega) hR.2⟩ (ci := 1) rfl (j := 2) rfl hl.1 rfl (Nat.le_of_ble_eq_true rfl) qd_U_mayTurn_145 (fun H locs w => ?_)
  refine lv_if_eq (tgt := 175) F.1 F.2.1 qd_U_mayTurn_148 (by decide) (fun hc3 => ?_) (fun hc3 => ?_)
  · rw [if_pos hc3] at hM
    refine lv_iconst (v := 0) F.1 F.2.1 qd_U_mayTurn_175 (by decide) ?_
    cases hM
    exact hQ _ _ _ _ qd_U_mayTurn_176 w
  · rw [if_neg hc3] at hM
    refine lv_aload_n F.1 F.2.1 qd_U_mayTurn_151 rfl (lv_at hl 0 rfl) ?_
    refine xg_U_types F hK w qk_155 qd_U_mayTurn_152 ?_
    refine lv_iload_n F.1 F.2.1 qd_U_mayTurn_155 rfl (lv_at hl 2 rfl) ?_
    obtain ⟨q4, hq5, hM⟩ := qbd hM
    refine x_calli F hK hN hA w (c_T_isOfClass l D ad cI hq5) qk_566 qk_266 qk_267 qk_3 qk_268 qv_T_isOfClass rfl rfl ⟨Nat.le_trans (by show 1 + 1 ≤ 2 * nn + 330; omega) hR.1, Nat.le_trans (by show 8 + (3 + 11) + 21 ≤ 48 * nn + 8151; omega) hR.2⟩ (ci := 1) rfl (j := 2) rfl hl.1 rfl (Nat.le_of_ble_eq_true rfl) qd_U_mayTurn_156 (fun H locs w => ?_)
    refine lv_if_eq (tgt := 175) F.1 F.2.1 qd_U_mayTurn_159 (by decide) (fun hc6 => ?_) (fun hc6 => ?_)
    · rw [if_pos hc6] at hM
      refine lv_iconst (v := 0) F.1 F.2.1 qd_U_mayTurn_175 (by decide) ?_
      cases hM
      exact hQ _ _ _ _ qd_U_mayTurn_176 w
    · rw [if_neg hc6] at hM
      refine lv_aload_n F.1 F.2.1 qd_U_mayTurn_162 rfl (lv_at hl 0 rfl) ?_
      refine lv_iload_n F.1 F.2.1 qd_U_mayTurn_163 rfl (lv_at hl 1 rfl) ?_
      refine lv_iload_n F.1 F.2.1 qd_U_mayTurn_164 rfl (lv_at hl 2 rfl) ?_
      obtain ⟨q7, hq8, hM⟩ := qbd hM
      refine x_calli F hK hN hA w (c_U_mayByClass l D ad cI hq8) qk_567 qk_569 qs_U_mayByClass qk_7 qk_570 qv_U_mayByClass rfl rfl ⟨Nat.le_trans (by show 327 + 1 ≤ 2 * nn + 330; omega) hR.1, Nat.le_trans (by show 8 + (12 + 11) + 8072 ≤ 48 * nn + 8151; omega) hR.2⟩ (ci := 4) rfl (j := 5) rfl hl.1 rfl (Nat.le_of_ble_eq_true rfl) qd_U_mayTurn_165 (fun H locs w => ?_)
      refine lv_if_eq (tgt := 175) F.1 F.2.1 qd_U_mayTurn_168 (by decide) (fun hc9 => ?_) (fun hc9 => ?_)
      · rw [if_pos hc9] at hM
        refine lv_iconst (v := 0) F.1 F.2.1 qd_U_mayTurn_175 (by decide) ?_
        cases hM
        exact hQ _ _ _ _ qd_U_mayTurn_176 w
      · rw [if_neg hc9] at hM
        refine lv_iconst (v := 1) F.1 F.2.1 qd_U_mayTurn_171 (by decide) ?_
        refine lv_goto (tgt := 176) F.1 F.2.1 qd_U_mayTurn_172 (by decide) ?_
        cases hM
        exact hQ _ _ _ _ qd_U_mayTurn_176 w
set_option maxRecDepth 100000 in
set_option maxHeartbeats 4000000 in
theorem t_U_mayTurn {p : Program} {l : Launch} {e : Env} {R : Room} {s : State} {m : MethodId} {args : Array Value} {below : List Frame} {meth : Method} {c : Code} {Q : State → Prop} {D : va_G} {ad : Nat → Nat} {cI : ClassId} {A : Nat → Prop} {k : (Nat → Nat → Int32) → Int32 → Int32 → Int32 → Option (Bool × (Nat → Nat → Int32))} {nn : Nat} (F : CallFix p m c qb_U_mayTurn 4 s args qtb "CaptureSubtypes$Turning") (hR : 2 * nn + 330 ≤ R.frames ∧ 48 * nn + 8151 ≤ R.locals) (hK : va_K D qcl [(cI, .int)] s) (hN : qnests xns s) (hA : ∀ q, s.heap.size ≤ q → A q) (hk : ∀ {S : (Nat → Nat → Int32)} {a1 a2 a3 : Int32} {res : Bool × (Nat → Nat → Int32)}, k S a1 a2 a3 = some res → xMi l qy_U_mayTurn qb_U_mayTurn 4 (some .boolean) { frames := 2 * nn + 328, cells := 0, slots := 0, locals := 48 * nn + 8103 } D ad cI S [.ref (ad 5), .int a1, .int a2, .int a3] (qB res.1) res.2) {res : (Bool × (Nat → Nat → Int32))} (hQ : ∀ (H : Heap) (locs : List Loc) (pc : Nat) (ls : Array Slot), decode qb_U_mayTurn pc = .ok (.ireturn, 1) → xW D ad cI A s.heap res.2 H locs → W p l e R s m args below meth c H locs 0 0 Q (F0 m pc ls [.int (qB res.1)])) (S : (Nat → Nat → Int32)) (a1 a2 a3 : Int32) (hM : fb_U_mayTurn k S a1 a2 a3 = some res) {H : Heap} {locs : List Loc} {ls : Array Slot} (w : xW D ad cI A s.heap S H locs) (hl : lv_has ls 4 [(0, .ref (ad 5)), (1, .int a1), (2, .int a2), (3, .int a3)]) : W p l e R s m args below meth c H locs 0 0 Q (F0 m 0 ls []) := by
  unfold fb_U_mayTurn at hM
  refine lv_iload_n F.1 F.2.1 qd_U_mayTurn_0 rfl (lv_at hl 3 rfl) ?_
  refine lv_if_gt (tgt := 6) F.1 F.2.1 qd_U_mayTurn_1 (by decide) (fun hc1 => ?_) (fun hc1 => ?_)
  · rw [if_pos hc1] at hM
    refine lv_aload_n F.1 F.2.1 qd_U_mayTurn_6 rfl (lv_at hl 0 rfl) ?_
    refine xg_U_order F hK w qk_157 qd_U_mayTurn_7 ?_
    refine lv_iload_n F.1 F.2.1 qd_U_mayTurn_10 rfl (lv_at hl 1 rfl) ?_
    refine lv_iload_n F.1 F.2.1 qd_U_mayTurn_11 rfl (lv_at hl 2 rfl) ?_
    refine lv_iload_n F.1 F.2.1 qd_U_mayTurn_12 rfl (lv_at hl 3 rfl) ?_
    refine lv_iconst (v := 1) F.1 F.2.1 qd_U_mayTurn_13 (by decide) ?_
    refine lv_isub F.1 F.2.1 qd_U_mayTurn_14 ?_
    obtain ⟨q2, hq3, hM⟩ := qbd hM
    refine x_calliN F hK hN hA w (c_O_isOne l D ad cI 64 hq3) (host := "CaptureSubtypes") (hN _ (by decide +kernel)) qk_460 qs_O_isOne qk_6 qk_461 qv_O_isOne rfl rfl ⟨Nat.le_trans (by show 324 + 1 ≤ 2 * nn + 330; omega) hR.1, Nat.le_trans (by show 8 + (6 + 11) + 7994 ≤ 48 * nn + 8151; omega) hR.2⟩ (ci := 3) rfl (j := 4) rfl hl.1 rfl (Nat.le_of_ble_eq_true rfl) qd_U_mayTurn_15 (fun H locs w => ?_)
    refine lv_if_ne (tgt := 36) F.1 F.2.1 qd_U_mayTurn_18 (by decide) (fun hc4 => ?_) (fun hc4 => ?_)
    · rw [if_neg hc4] at hM
      refine lv_iconst (v := 1) F.1 F.2.1 qd_U_mayTurn_36 (by decide) ?_
      cases hM
      exact hQ _ _ _ _ qd_U_mayTurn_37 w
    · rw [if_pos hc4] at hM
      refine lv_aload_n F.1 F.2.1 qd_U_mayTurn_21 rfl (lv_at hl 0 rfl) ?_
      refine xg_U_order F hK w qk_157 qd_U_mayTurn_22 ?_
      refine lv_iload_n F.1 F.2.1 qd_U_mayTurn_25 rfl (lv_at hl 2 rfl) ?_
      refine lv_iload_n F.1 F.2.1 qd_U_mayTurn_26 rfl (lv_at hl 1 rfl) ?_
      refine lv_iload_n F.1 F.2.1 qd_U_mayTurn_27 rfl (lv_at hl 3 rfl) ?_
      refine lv_iconst (v := 1) F.1 F.2.1 qd_U_mayTurn_28 (by decide) ?_
      refine lv_isub F.1 F.2.1 qd_U_mayTurn_29 ?_
      obtain ⟨q5, hq6, hM⟩ := qbd hM
      refine x_calliN F hK hN hA w (c_O_isOne l D ad cI 64 hq6) (host := "CaptureSubtypes") (hN _ (by decide +kernel)) qk_460 qs_O_isOne qk_6 qk_461 qv_O_isOne rfl rfl ⟨Nat.le_trans (by show 324 + 1 ≤ 2 * nn + 330; omega) hR.1, Nat.le_trans (by show 8 + (6 + 11) + 7994 ≤ 48 * nn + 8151; omega) hR.2⟩ (ci := 3) rfl (j := 4) rfl hl.1 rfl (Nat.le_of_ble_eq_true rfl) qd_U_mayTurn_30 (fun H locs w => ?_)
      refine lv_if_eq (tgt := 38) F.1 F.2.1 qd_U_mayTurn_33 (by decide) (fun hc7 => ?_) (fun hc7 => ?_)
      · rw [if_pos hc7] at hM
        refine lv_iload_n F.1 F.2.1 qd_U_mayTurn_38 rfl (lv_at hl 1 rfl) ?_
        refine lv_iconst (v := 1) F.1 F.2.1 qd_U_mayTurn_39 (by decide) ?_
        refine lv_icmp_eq (tgt := 48) F.1 F.2.1 qd_U_mayTurn_40 (by decide) (fun hc8 => ?_) (fun hc8 => ?_)
        · rw [if_pos hc8] at hM
          refine lv_iconst (v := 0) F.1 F.2.1 qd_U_mayTurn_48 (by decide) ?_
          cases hM
          exact hQ _ _ _ _ qd_U_mayTurn_49 w
        · rw [if_neg hc8] at hM
          refine lv_iload_n F.1 F.2.1 qd_U_mayTurn_43 rfl (lv_at hl 2 rfl) ?_
          refine lv_iconst (v := 1) F.1 F.2.1 qd_U_mayTurn_44 (by decide) ?_
          refine lv_icmp_ne (tgt := 50) F.1 F.2.1 qd_U_mayTurn_45 (by decide) (fun hc9 => ?_) (fun hc9 => ?_)
          · rw [if_neg hc9] at hM
            refine lv_aload_n F.1 F.2.1 qd_U_mayTurn_50 rfl (lv_at hl 0 rfl) ?_
            refine xg_U_types F hK w qk_155 qd_U_mayTurn_51 ?_
            refine lv_iload_n F.1 F.2.1 qd_U_mayTurn_54 rfl (lv_at hl 1 rfl) ?_
            obtain ⟨q10, hq11, hM⟩ := qbd hM
            refine x_calli F hK hN hA w (c_T_isVariable l D ad cI hq11) qk_552 qk_468 qk_469 qk_3 qk_470 qv_T_isVariable rfl rfl ⟨Nat.le_trans (by show 1 + 1 ≤ 2 * nn + 330; omega) hR.1, Nat.le_trans (by show 8 + (3 + 11) + 21 ≤ 48 * nn + 8151; omega) hR.2⟩ (ci := 1) rfl (j := 2) rfl hl.1 rfl (Nat.le_of_ble_eq_true rfl) qd_U_mayTurn_55 (fun H locs w => ?_)
            refine lv_if_eq (tgt := 71) F.1 F.2.1 qd_U_mayTurn_58 (by decide) (fun hc12 => ?_) (fun hc12 => ?_)
            · rw [if_pos hc12] at hM
              refine lv_aload_n F.1 F.2.1 qd_U_mayTurn_71 rfl (lv_at hl 0 rfl) ?_
              refine xg_U_types F hK w qk_155 qd_U_mayTurn_72 ?_
              refine lv_iload_n F.1 F.2.1 qd_U_mayTurn_75 rfl (lv_at hl 2 rfl) ?_
              obtain ⟨q13, hq14, hM⟩ := qbd hM
              refine x_calli F hK hN hA w (c_T_isVariable l D ad cI hq14) qk_552 qk_468 qk_469 qk_3 qk_470 qv_T_isVariable rfl rfl ⟨Nat.le_trans (by show 1 + 1 ≤ 2 * nn + 330; omega) hR.1, Nat.le_trans (by show 8 + (3 + 11) + 21 ≤ 48 * nn + 8151; omega) hR.2⟩ (ci := 1) rfl (j := 2) rfl hl.1 rfl (Nat.le_of_ble_eq_true rfl) qd_U_mayTurn_76 (fun H locs w => ?_)
              refine lv_if_eq (tgt := 92) F.1 F.2.1 qd_U_mayTurn_79 (by decide) (fun hc15 => ?_) (fun hc15 => ?_)
              · rw [if_pos hc15] at hM
                refine lv_aload_n F.1 F.2.1 qd_U_mayTurn_92 rfl (lv_at hl 0 rfl) ?_
                refine xg_U_types F hK w qk_155 qd_U_mayTurn_93 ?_
                refine lv_iload_n F.1 F.2.1 qd_U_mayTurn_96 rfl (lv_at hl 1 rfl) ?_
                obtain ⟨q16, hq17, hM⟩ := qbd hM
                refine x_calli F hK hN hA w (c_T_sortOf l D ad cI hq17) qk_564 qk_270 qk_271 qk_3 qk_272 qv_T_sortOf rfl rfl ⟨Nat.le_trans (by show 0 + 1 ≤ 2 * nn + 330; omega) hR.1, Nat.le_trans (by show 8 + (2 + 11) + 0 ≤ 48 * nn + 8151; omega) hR.2⟩ (ci := 1) rfl (j := 2) rfl hl.1 rfl (Nat.le_of_ble_eq_true rfl) qd_U_mayTurn_97 (fun H locs w => ?_)
                refine lv_iconst (v := 4) F.1 F.2.1 qd_U_mayTurn_100 (by decide) ?_
                refine lv_icmp_ne (tgt := 140) F.1 F.2.1 qd_U_mayTurn_101 (by decide) (fun hc18 => ?_) (fun hc18 => ?_)
                · rw [if_neg hc18] at hM
                  exact t_U_mayTurn_140 F hR hK hN hA hk hQ  _ _ _ hM w (lv_sub hl [0, 1, 2] rfl)
                · rw [if_pos hc18] at hM
                  refine lv_aload_n F.1 F.2.1 qd_U_mayTurn_104 rfl (lv_at hl 0 rfl) ?_
                  refine xg_U_types F hK w qk_155 qd_U_mayTurn_105 ?_
                  refine lv_iload_n F.1 F.2.1 qd_U_mayTurn_108 rfl (lv_at hl 2 rfl) ?_
                  obtain ⟨q19, hq20, hM⟩ := qbd hM
                  refine x_calli F hK hN hA w (c_T_sortOf l D ad cI hq20) qk_564 qk_270 qk_271 qk_3 qk_272 qv_T_sortOf rfl rfl ⟨Nat.le_trans (by show 0 + 1 ≤ 2 * nn + 330; omega) hR.1, Nat.le_trans (by show 8 + (2 + 11) + 0 ≤ 48 * nn + 8151; omega) hR.2⟩ (ci := 1) rfl (j := 2) rfl hl.1 rfl (Nat.le_of_ble_eq_true rfl) qd_U_mayTurn_109 (fun H locs w => ?_)
                  refine lv_iconst (v := 4) F.1 F.2.1 qd_U_mayTurn_112 (by decide) ?_
                  refine lv_icmp_ne (tgt := 140) F.1 F.2.1 qd_U_mayTurn_113 (by decide) (fun hc21 => ?_) (fun hc21 => ?_)
                  · rw [if_neg hc21] at hM
                    exact t_U_mayTurn_140 F hR hK hN hA hk hQ  _ _ _ hM w (lv_sub hl [0, 1, 2] rfl)
                  · rw [if_pos hc21] at hM
                    refine lv_aload_n F.1 F.2.1 qd_U_mayTurn_116 rfl (lv_at hl 0 rfl) ?_
                    refine lv_aload_n F.1 F.2.1 qd_U_mayTurn_117 rfl (lv_at hl 0 rfl) ?_
                    refine xg_U_types F hK w qk_155 qd_U_mayTurn_118 ?_
                    refine lv_iload_n F.1 F.2.1 qd_U_mayTurn_121 rfl (lv_at hl 1 rfl) ?_
                    obtain ⟨q22, hq23, hM⟩ := qbd hM
                    refine x_calli F hK hN hA w (c_T_firstOf l D ad cI hq23) qk_565 qk_342 qk_343 qk_3 qk_344 qv_T_firstOf rfl rfl ⟨Nat.le_trans (by show 0 + 1 ≤ 2 * nn + 330; omega) hR.1, Nat.le_trans (by show 8 + (2 + 11) + 0 ≤ 48 * nn + 8151; omega) hR.2⟩ (ci := 1) rfl (j := 2) rfl hl.1 rfl (Nat.le_of_ble_eq_true rfl) qd_U_mayTurn_122 (fun H locs w => ?_)
                    refine lv_aload_n F.1 F.2.1 qd_U_mayTurn_125 rfl (lv_at hl 0 rfl) ?_
                    refine xg_U_types F hK w qk_155 qd_U_mayTurn_126 ?_
                    refine lv_iload_n F.1 F.2.1 qd_U_mayTurn_129 rfl (lv_at hl 2 rfl) ?_
                    obtain ⟨q24, hq25, hM⟩ := qbd hM
                    refine x_calli F hK hN hA w (c_T_firstOf l D ad cI hq25) qk_565 qk_342 qk_343 qk_3 qk_344 qv_T_firstOf rfl rfl ⟨Nat.le_trans (by show 0 + 1 ≤ 2 * nn + 330; omega) hR.1, Nat.le_trans (by show 8 + (2 + 11) + 0 ≤ 48 * nn + 8151; omega) hR.2⟩ (ci := 1) rfl (j := 2) rfl hl.1 rfl (Nat.le_of_ble_eq_true rfl) qd_U_mayTurn_130 (fun H locs w => ?_)
                    refine lv_iload_n F.1 F.2.1 qd_U_mayTurn_133 rfl (lv_at hl 3 rfl) ?_
                    refine lv_iconst (v := 1) F.1 F.2.1 qd_U_mayTurn_134 (by decide) ?_
                    refine lv_isub F.1 F.2.1 qd_U_mayTurn_135 ?_
                    obtain ⟨q26, hq27, hM⟩ := qbd hM
                    refine x_calli F hK hN hA w (hk hq27) qk_559 qk_549 qs_U_mayTurn qk_7 qk_550 qv_U_mayTurn rfl rfl ⟨Nat.le_trans (by show 2 * nn + 328 + 1 ≤ 2 * nn + 330; omega) hR.1, Nat.le_trans (by show 8 + (4 + 11) + (48 * nn + 8103) ≤ 48 * nn + 8151; omega) hR.2⟩ (ci := 4) rfl (j := 5) rfl hl.1 rfl (Nat.le_of_ble_eq_true rfl) qd_U_mayTurn_136 (fun H locs w => ?_)
                    cases hM
                    exact hQ _ _ _ _ qd_U_mayTurn_139 w
              · rw [if_neg hc15] at hM
                refine lv_aload_n F.1 F.2.1 qd_U_mayTurn_82 rfl (lv_at hl 0 rfl) ?_
                refine lv_iload_n F.1 F.2.1 qd_U_mayTurn_83 rfl (lv_at hl 1 rfl) ?_
                refine lv_iload_n F.1 F.2.1 qd_U_mayTurn_84 rfl (lv_at hl 2 rfl) ?_
                refine lv_iload_n F.1 F.2.1 qd_U_mayTurn_85 rfl (lv_at hl 3 rfl) ?_
                refine lv_iconst (v := 1) F.1 F.2.1 qd_U_mayTurn_86 (by decide) ?_
                refine lv_isub F.1 F.2.1 qd_U_mayTurn_87 ?_
                obtain ⟨q28, hq29, hM⟩ := qbd hM
                refine x_calli F hK hN hA w (c_U_mayIntoBounds l D ad cI hk hq29) qk_560 qk_562 qs_U_mayIntoBounds qk_7 qk_563 qv_U_mayIntoBounds rfl rfl ⟨Nat.le_trans (by show 2 * nn + 329 + 1 ≤ 2 * nn + 330; omega) hR.1, Nat.le_trans (by show 8 + (6 + 11) + (48 * nn + 8126) ≤ 48 * nn + 8151; omega) hR.2⟩ (ci := 4) rfl (j := 5) rfl hl.1 rfl (Nat.le_of_ble_eq_true rfl) qd_U_mayTurn_88 (fun H locs w => ?_)
                cases hM
                exact hQ _ _ _ _ qd_U_mayTurn_91 w
            · rw [if_neg hc12] at hM
              refine lv_aload_n F.1 F.2.1 qd_U_mayTurn_61 rfl (lv_at hl 0 rfl) ?_
              refine lv_iload_n F.1 F.2.1 qd_U_mayTurn_62 rfl (lv_at hl 1 rfl) ?_
              refine lv_iload_n F.1 F.2.1 qd_U_mayTurn_63 rfl (lv_at hl 2 rfl) ?_
              refine lv_iload_n F.1 F.2.1 qd_U_mayTurn_64 rfl (lv_at hl 3 rfl) ?_
              refine lv_iconst (v := 1) F.1 F.2.1 qd_U_mayTurn_65 (by decide) ?_
              refine lv_isub F.1 F.2.1 qd_U_mayTurn_66 ?_
              obtain ⟨q30, hq31, hM⟩ := qbd hM
              refine x_calli F hK hN hA w (c_U_mayFromBounds l D ad cI hk hq31) qk_553 qk_555 qs_U_mayFromBounds qk_7 qk_556 qv_U_mayFromBounds rfl rfl ⟨Nat.le_trans (by show 2 * nn + 329 + 1 ≤ 2 * nn + 330; omega) hR.1, Nat.le_trans (by show 8 + (6 + 11) + (48 * nn + 8126) ≤ 48 * nn + 8151; omega) hR.2⟩ (ci := 4) rfl (j := 5) rfl hl.1 rfl (Nat.le_of_ble_eq_true rfl) qd_U_mayTurn_67 (fun H locs w => ?_)
              cases hM
              exact hQ _ _ _ _ qd_U_mayTurn_70 w
          · rw [if_pos hc9] at hM
            refine lv_iconst (v := 0) F.1 F.2.1 qd_U_mayTurn_48 (by decide) ?_
            cases hM
            exact hQ _ _ _ _ qd_U_mayTurn_49 w
      · rw [if_neg hc7] at hM
        refine lv_iconst (v := 1) F.1 F.2.1 qd_U_mayTurn_36 (by decide) ?_
        cases hM
        exact hQ _ _ _ _ qd_U_mayTurn_37 w
  · rw [if_neg hc1] at hM
    refine lv_iconst (v := 0) F.1 F.2.1 qd_U_mayTurn_4 (by decide) ?_
    cases hM
    exact hQ _ _ _ _ qd_U_mayTurn_5 w
set_option maxRecDepth 100000 in
theorem c_U_mayTurn (l : Launch) (D : va_G) (ad : Nat → Nat) (cI : ClassId) : ∀ (n : Nat) {S : (Nat → Nat → Int32)} {a1 a2 a3 : Int32} {res : (Bool × (Nat → Nat → Int32))} (hM : f_U_mayTurn n S a1 a2 a3 = some res), xMi l qy_U_mayTurn qb_U_mayTurn 4 (some .boolean) { frames := 2 * n + 328, cells := 0, slots := 0, locals := 48 * n + 8103 } D ad cI S [.ref (ad 5), .int a1, .int a2, .int a3] (qB res.1) res.2 := by
  intro n
  induction n with
  | zero => intro S a1 a2 a3 res hM; exact absurd hM (by simp [f_U_mayTurn])
  | succ nn ih => intro S a1 a2 a3 res hM; exact x_ofz (by decide +kernel) (Nat.le_of_ble_eq_true rfl) (fun p e s m args below meth c Q A ls F hK hN hA w hl hQ => t_U_mayTurn F ⟨(show 2 * nn + 330 ≤ 2 * (nn + 1) + 328 by omega), (show 48 * nn + 8151 ≤ 48 * (nn + 1) + 8103 by omega)⟩ hK hN hA ih hQ S a1 a2 a3 hM w hl)
-- X_may
def f_X_may (S : (Nat → Nat → Int32)) (a1 a2 : Int32) : Option (Int32 × (Nat → Nat → Int32)) := (f_T_standsAlone S a1).bind (fun q1 => if (qB q1) = 0 then (some ((-2 : Int32), S)) else ((f_T_standsAlone S a2).bind (fun q4 => if (qB q4) = 0 then (some ((-2 : Int32), S)) else (if a2 = (2 : Int32) then (some ((-2 : Int32), S)) else ((f_U_mayTurn 64 S a1 a2 (40 : Int32)).bind (fun q8 => (f_T_dropTo q8.2 (q8.2 10 0)).bind (fun q10 => if (qB q8.1) = 0 then (some ((0 : Int32), q10)) else (some ((1 : Int32), q10)))))))))
set_option maxRecDepth 100000 in
set_option maxHeartbeats 4000000 in
theorem t_X_may {p : Program} {l : Launch} {e : Env} {R : Room} {s : State} {m : MethodId} {args : Array Value} {below : List Frame} {meth : Method} {c : Code} {Q : State → Prop} {D : va_G} {ad : Nat → Nat} {cI : ClassId} {A : Nat → Prop} (F : CallFix p m c qb_X_may 4 s args qtb "CaptureSubtypes") (hR : 457 ≤ R.frames ∧ 11198 ≤ R.locals) (hK : va_K D qcl [(cI, .int)] s) (hN : qnests xns s) (hA : ∀ q, s.heap.size ≤ q → A q) {res : (Int32 × (Nat → Nat → Int32))} (hQ : ∀ (H : Heap) (locs : List Loc) (pc : Nat) (ls : Array Slot), decode qb_X_may pc = .ok (.ireturn, 1) → xW D ad cI A s.heap res.2 H locs → W p l e R s m args below meth c H locs 0 0 Q (F0 m pc ls [.int res.1])) (S : (Nat → Nat → Int32)) (a1 a2 : Int32) (hM : f_X_may S a1 a2 = some res) {H : Heap} {locs : List Loc} {ls : Array Slot} (w : xW D ad cI A s.heap S H locs) (hl : lv_has ls 4 [(0, .ref (ad 0)), (1, .int a1), (2, .int a2)]) : W p l e R s m args below meth c H locs 0 0 Q (F0 m 0 ls []) := by
  unfold f_X_may at hM
  refine lv_aload_n F.1 F.2.1 qd_X_may_0 rfl (lv_at hl 0 rfl) ?_
  refine xg_X_types F hK w qk_168 qd_X_may_1 ?_
  refine lv_iload_n F.1 F.2.1 qd_X_may_4 rfl (lv_at hl 1 rfl) ?_
  obtain ⟨q1, hq2, hM⟩ := qbd hM
  refine x_calli F hK hN hA w (c_T_standsAlone l D ad cI hq2) qk_415 qk_416 qk_417 qk_3 qk_418 qv_T_standsAlone rfl rfl ⟨Nat.le_trans (by decide) hR.1, Nat.le_trans (by decide) hR.2⟩ (ci := 1) rfl (j := 2) rfl hl.1 rfl (Nat.le_of_ble_eq_true rfl) qd_X_may_5 (fun H locs w => ?_)
  refine lv_if_eq (tgt := 27) F.1 F.2.1 qd_X_may_8 (by decide) (fun hc3 => ?_) (fun hc3 => ?_)
  · rw [if_pos hc3] at hM
    refine lv_bipush (v := (-2)) F.1 F.2.1 qd_X_may_27 (by decide) ?_
    cases hM
    exact hQ _ _ _ _ qd_X_may_29 w
  · rw [if_neg hc3] at hM
    refine lv_aload_n F.1 F.2.1 qd_X_may_11 rfl (lv_at hl 0 rfl) ?_
    refine xg_X_types F hK w qk_168 qd_X_may_12 ?_
    refine lv_iload_n F.1 F.2.1 qd_X_may_15 rfl (lv_at hl 2 rfl) ?_
    obtain ⟨q4, hq5, hM⟩ := qbd hM
    refine x_calli F hK hN hA w (c_T_standsAlone l D ad cI hq5) qk_415 qk_416 qk_417 qk_3 qk_418 qv_T_standsAlone rfl rfl ⟨Nat.le_trans (by decide) hR.1, Nat.le_trans (by decide) hR.2⟩ (ci := 1) rfl (j := 2) rfl hl.1 rfl (Nat.le_of_ble_eq_true rfl) qd_X_may_16 (fun H locs w => ?_)
    refine lv_if_eq (tgt := 27) F.1 F.2.1 qd_X_may_19 (by decide) (fun hc6 => ?_) (fun hc6 => ?_)
    · rw [if_pos hc6] at hM
      refine lv_bipush (v := (-2)) F.1 F.2.1 qd_X_may_27 (by decide) ?_
      cases hM
      exact hQ _ _ _ _ qd_X_may_29 w
    · rw [if_neg hc6] at hM
      refine lv_iload_n F.1 F.2.1 qd_X_may_22 rfl (lv_at hl 2 rfl) ?_
      refine lv_iconst (v := 2) F.1 F.2.1 qd_X_may_23 (by decide) ?_
      refine lv_icmp_ne (tgt := 30) F.1 F.2.1 qd_X_may_24 (by decide) (fun hc7 => ?_) (fun hc7 => ?_)
      · rw [if_neg hc7] at hM
        refine lv_aload_n F.1 F.2.1 qd_X_may_30 rfl (lv_at hl 0 rfl) ?_
        refine xg_X_turning F hK w qk_171 qd_X_may_31 ?_
        refine lv_iload_n F.1 F.2.1 qd_X_may_34 rfl (lv_at hl 1 rfl) ?_
        refine lv_iload_n F.1 F.2.1 qd_X_may_35 rfl (lv_at hl 2 rfl) ?_
        refine lv_bipush (v := 40) F.1 F.2.1 qd_X_may_36 (by decide) ?_
        obtain ⟨q8, hq9, hM⟩ := qbd hM
        refine x_calliN F hK hN hA w (c_U_mayTurn l D ad cI 64 hq9) (host := "CaptureSubtypes") (hN _ (by decide +kernel)) qk_549 qs_U_mayTurn qk_7 qk_550 qv_U_mayTurn rfl rfl ⟨Nat.le_trans (by decide) hR.1, Nat.le_trans (by decide) hR.2⟩ (ci := 4) rfl (j := 5) rfl hl.1 rfl (Nat.le_of_ble_eq_true rfl) qd_X_may_38 (fun H locs w => ?_)
        refine lv_istore_n (lv' := [(3, .int (qB q8.1)), (0, .ref (ad 0)), (1, .int a1), (2, .int a2)]) F.1 F.2.1 qd_X_may_41 rfl hl (by decide) rfl (fun ls hl => ?_)
        refine lv_aload_n F.1 F.2.1 qd_X_may_42 rfl (lv_at hl 1 rfl) ?_
        refine xg_X_types F hK w qk_168 qd_X_may_43 ?_
        refine lv_aload_n F.1 F.2.1 qd_X_may_46 rfl (lv_at hl 1 rfl) ?_
        refine xg_X_types F hK w qk_168 qd_X_may_47 ?_
        refine xg_T_kept F hK w qk_88 qd_X_may_50 ?_
        obtain ⟨q10, hq11, hM⟩ := qbd hM
        refine x_callv F hK hN hA w (c_T_dropTo l D ad cI hq11) qk_542 qk_354 qk_355 qk_3 qk_356 qv_T_dropTo rfl rfl ⟨Nat.le_trans (by decide) hR.1, Nat.le_trans (by decide) hR.2⟩ (ci := 1) rfl (j := 2) rfl hl.1 rfl (Nat.le_of_ble_eq_true rfl) qd_X_may_53 (fun H locs w => ?_)
        refine lv_iload_n F.1 F.2.1 qd_X_may_56 rfl (lv_at hl 0 rfl) ?_
        refine lv_if_eq (tgt := 64) F.1 F.2.1 qd_X_may_57 (by decide) (fun hc12 => ?_) (fun hc12 => ?_)
        · rw [if_pos hc12] at hM
          refine lv_iconst (v := 0) F.1 F.2.1 qd_X_may_64 (by decide) ?_
          cases hM
          exact hQ _ _ _ _ qd_X_may_65 w
        · rw [if_neg hc12] at hM
          refine lv_iconst (v := 1) F.1 F.2.1 qd_X_may_60 (by decide) ?_
          refine lv_goto (tgt := 65) F.1 F.2.1 qd_X_may_61 (by decide) ?_
          cases hM
          exact hQ _ _ _ _ qd_X_may_65 w
      · rw [if_pos hc7] at hM
        refine lv_bipush (v := (-2)) F.1 F.2.1 qd_X_may_27 (by decide) ?_
        cases hM
        exact hQ _ _ _ _ qd_X_may_29 w
set_option maxRecDepth 100000 in
theorem c_X_may (l : Launch) (D : va_G) (ad : Nat → Nat) (cI : ClassId) {S : (Nat → Nat → Int32)} {a1 a2 : Int32} {res : (Int32 × (Nat → Nat → Int32))} (hM : f_X_may S a1 a2 = some res) : xMi l qy_X_may qb_X_may 4 (some .int) { frames := 457, cells := 0, slots := 0, locals := 11198 } D ad cI S [.ref (ad 0), .int a1, .int a2] res.1 res.2 := x_ofi (by decide +kernel) (Nat.le_of_ble_eq_true rfl) (fun p e s m args below meth c Q A ls F hK hN hA w hl hQ => t_X_may F ⟨Nat.le_refl _, Nat.le_refl _⟩ hK hN hA hQ S a1 a2 hM w hl)
-- X_settle
def f_X_settle_17 (S : (Nat → Nat → Int32)) (s1 : Int32) : Option (Int32 × (Nat → Nat → Int32)) := (f_T_dropTo S (S 10 0)).bind (fun q1 => some (s1, q1))
def f_X_settle (S : (Nat → Nat → Int32)) (a1 : Int32) : Option (Int32 × (Nat → Nat → Int32)) := (f_T_has S a1).bind (fun q1 => if (qB q1) = 0 then (f_X_settle_17  S (-3 : Int32)) else (f_X_settle_17  S a1))
set_option maxRecDepth 100000 in
set_option maxHeartbeats 4000000 in
theorem t_X_settle_17 {p : Program} {l : Launch} {e : Env} {R : Room} {s : State} {m : MethodId} {args : Array Value} {below : List Frame} {meth : Method} {c : Code} {Q : State → Prop} {D : va_G} {ad : Nat → Nat} {cI : ClassId} {A : Nat → Prop} (F : CallFix p m c qb_X_settle 3 s args qtb "CaptureSubtypes") (hR : 1 ≤ R.frames ∧ 21 ≤ R.locals) (hK : va_K D qcl [(cI, .int)] s) (hN : qnests xns s) (hA : ∀ q, s.heap.size ≤ q → A q) {res : (Int32 × (Nat → Nat → Int32))} (hQ : ∀ (H : Heap) (locs : List Loc) (pc : Nat) (ls : Array Slot), decode qb_X_settle pc = .ok (.ireturn, 1) → xW D ad cI A s.heap res.2 H locs → W p l e R s m args below meth c H locs 0 0 Q (F0 m pc ls [.int res.1])) (S : (Nat → Nat → Int32)) (s1 : Int32) (hM : f_X_settle_17 S s1 = some res) {H : Heap} {locs : List Loc} {ls : Array Slot} (w : xW D ad cI A s.heap S H locs) (hl : lv_has ls 3 [(0, .ref (ad 0))]) : W p l e R s m args below meth c H locs 0 0 Q (F0 m 17 ls [.int s1]) := by
  unfold f_X_settle_17 at hM
  refine lv_istore_n (lv' := [(2, .int s1), (0, .ref (ad 0))]) F.1 F.2.1 qd_X_settle_17 rfl hl (by decide) rfl (fun ls hl => ?_)
  refine lv_aload_n F.1 F.2.1 qd_X_settle_18 rfl (lv_at hl 1 rfl) ?_
  refine xg_X_types F hK w qk_168 qd_X_settle_19 ?_
  refine lv_aload_n F.1 F.2.1 qd_X_settle_22 rfl (lv_at hl 1 rfl) ?_
  refine xg_X_types F hK w qk_168 qd_X_settle_23 ?_
  refine xg_T_kept F hK w qk_88 qd_X_settle_26 ?_
  obtain ⟨q1, hq2, hM⟩ := qbd hM
  refine x_callv F hK hN hA w (c_T_dropTo l D ad cI hq2) qk_542 qk_354 qk_355 qk_3 qk_356 qv_T_dropTo rfl rfl ⟨Nat.le_trans (by decide) hR.1, Nat.le_trans (by decide) hR.2⟩ (ci := 1) rfl (j := 2) rfl hl.1 rfl (Nat.le_of_ble_eq_true rfl) qd_X_settle_29 (fun H locs w => ?_)
  refine lv_iload_n F.1 F.2.1 qd_X_settle_32 rfl (lv_at hl 0 rfl) ?_
  cases hM
  exact hQ _ _ _ _ qd_X_settle_33 w
set_option maxRecDepth 100000 in
set_option maxHeartbeats 4000000 in
theorem t_X_settle {p : Program} {l : Launch} {e : Env} {R : Room} {s : State} {m : MethodId} {args : Array Value} {below : List Frame} {meth : Method} {c : Code} {Q : State → Prop} {D : va_G} {ad : Nat → Nat} {cI : ClassId} {A : Nat → Prop} (F : CallFix p m c qb_X_settle 3 s args qtb "CaptureSubtypes") (hR : 1 ≤ R.frames ∧ 21 ≤ R.locals) (hK : va_K D qcl [(cI, .int)] s) (hN : qnests xns s) (hA : ∀ q, s.heap.size ≤ q → A q) {res : (Int32 × (Nat → Nat → Int32))} (hQ : ∀ (H : Heap) (locs : List Loc) (pc : Nat) (ls : Array Slot), decode qb_X_settle pc = .ok (.ireturn, 1) → xW D ad cI A s.heap res.2 H locs → W p l e R s m args below meth c H locs 0 0 Q (F0 m pc ls [.int res.1])) (S : (Nat → Nat → Int32)) (a1 : Int32) (hM : f_X_settle S a1 = some res) {H : Heap} {locs : List Loc} {ls : Array Slot} (w : xW D ad cI A s.heap S H locs) (hl : lv_has ls 3 [(0, .ref (ad 0)), (1, .int a1)]) : W p l e R s m args below meth c H locs 0 0 Q (F0 m 0 ls []) := by
  unfold f_X_settle at hM
  refine lv_aload_n F.1 F.2.1 qd_X_settle_0 rfl (lv_at hl 0 rfl) ?_
  refine xg_X_types F hK w qk_168 qd_X_settle_1 ?_
  refine lv_iload_n F.1 F.2.1 qd_X_settle_4 rfl (lv_at hl 1 rfl) ?_
  obtain ⟨q1, hq2, hM⟩ := qbd hM
  refine x_calli F hK hN hA w (c_T_has l D ad cI hq2) qk_261 qk_262 qk_263 qk_3 qk_264 qv_T_has rfl rfl ⟨Nat.le_trans (by decide) hR.1, Nat.le_trans (by decide) hR.2⟩ (ci := 1) rfl (j := 2) rfl hl.1 rfl (Nat.le_of_ble_eq_true rfl) qd_X_settle_5 (fun H locs w => ?_)
  refine lv_if_eq (tgt := 15) F.1 F.2.1 qd_X_settle_8 (by decide) (fun hc3 => ?_) (fun hc3 => ?_)
  · rw [if_pos hc3] at hM
    refine lv_bipush (v := (-3)) F.1 F.2.1 qd_X_settle_15 (by decide) ?_
    exact t_X_settle_17 F hR hK hN hA hQ  _ _ hM w (lv_sub hl [0] rfl)
  · rw [if_neg hc3] at hM
    refine lv_iload_n F.1 F.2.1 qd_X_settle_11 rfl (lv_at hl 1 rfl) ?_
    refine lv_goto (tgt := 17) F.1 F.2.1 qd_X_settle_12 (by decide) ?_
    exact t_X_settle_17 F hR hK hN hA hQ  _ _ hM w (lv_sub hl [0] rfl)
set_option maxRecDepth 100000 in
theorem c_X_settle (l : Launch) (D : va_G) (ad : Nat → Nat) (cI : ClassId) {S : (Nat → Nat → Int32)} {a1 : Int32} {res : (Int32 × (Nat → Nat → Int32))} (hM : f_X_settle S a1 = some res) : xMi l qy_X_settle qb_X_settle 3 (some .int) { frames := 1, cells := 0, slots := 0, locals := 21 } D ad cI S [.ref (ad 0), .int a1] res.1 res.2 := x_ofi (by decide +kernel) (Nat.le_of_ble_eq_true rfl) (fun p e s m args below meth c Q A ls F hK hN hA w hl hQ => t_X_settle F ⟨Nat.le_refl _, Nat.le_refl _⟩ hK hN hA hQ S a1 hM w hl)
-- X_as
def f_X_as (S : (Nat → Nat → Int32)) (a1 a2 : Int32) : Option (Int32 × (Nat → Nat → Int32)) := (f_T_standsAlone S a1).bind (fun q1 => if (qB q1) = 0 then (some ((-2 : Int32), S)) else ((f_T_hasWildArgument S a1).bind (fun q4 => if (qB q4) = 0 then ((f_K_has S a2).bind (fun q7 => if (qB q7) = 0 then (some ((-2 : Int32), S)) else ((f_T_isOfClass S a1).bind (fun q10 => if (qB q10) = 0 then (some ((-1 : Int32), S)) else ((f_T_ownerOf S a1).bind (fun q13 => (f_K_isUnder S q13 a2).bind (fun q15 => if (qB q15) = 0 then (some ((-1 : Int32), S)) else ((f_S_viewedAs S a1 a2).bind (fun q18 => (f_X_settle q18.2 q18.1).bind (fun q20 => some (q20.1, q20.2))))))))))) else (some ((-2 : Int32), S)))))
set_option maxRecDepth 100000 in
set_option maxHeartbeats 4000000 in
theorem t_X_as {p : Program} {l : Launch} {e : Env} {R : Room} {s : State} {m : MethodId} {args : Array Value} {below : List Frame} {meth : Method} {c : Code} {Q : State → Prop} {D : va_G} {ad : Nat → Nat} {cI : ClassId} {A : Nat → Prop} (F : CallFix p m c qb_X_as 3 s args qtb "CaptureSubtypes") (hR : 68 ≤ R.frames ∧ 1850 ≤ R.locals) (hK : va_K D qcl [(cI, .int)] s) (hN : qnests xns s) (hA : ∀ q, s.heap.size ≤ q → A q) {res : (Int32 × (Nat → Nat → Int32))} (hQ : ∀ (H : Heap) (locs : List Loc) (pc : Nat) (ls : Array Slot), decode qb_X_as pc = .ok (.ireturn, 1) → xW D ad cI A s.heap res.2 H locs → W p l e R s m args below meth c H locs 0 0 Q (F0 m pc ls [.int res.1])) (S : (Nat → Nat → Int32)) (a1 a2 : Int32) (hM : f_X_as S a1 a2 = some res) {H : Heap} {locs : List Loc} {ls : Array Slot} (w : xW D ad cI A s.heap S H locs) (hl : lv_has ls 3 [(0, .ref (ad 0)), (1, .int a1), (2, .int a2)]) : W p l e R s m args below meth c H locs 0 0 Q (F0 m 0 ls []) := by
  unfold f_X_as at hM
  refine lv_aload_n F.1 F.2.1 qd_X_as_0 rfl (lv_at hl 0 rfl) ?_
  refine xg_X_types F hK w qk_168 qd_X_as_1 ?_
  refine lv_iload_n F.1 F.2.1 qd_X_as_4 rfl (lv_at hl 1 rfl) ?_
  obtain ⟨q1, hq2, hM⟩ := qbd hM
  refine x_calli F hK hN hA w (c_T_standsAlone l D ad cI hq2) qk_415 qk_416 qk_417 qk_3 qk_418 qv_T_standsAlone rfl rfl ⟨Nat.le_trans (by decide) hR.1, Nat.le_trans (by decide) hR.2⟩ (ci := 1) rfl (j := 2) rfl hl.1 rfl (Nat.le_of_ble_eq_true rfl) qd_X_as_5 (fun H locs w => ?_)
  refine lv_if_eq (tgt := 33) F.1 F.2.1 qd_X_as_8 (by decide) (fun hc3 => ?_) (fun hc3 => ?_)
  · rw [if_pos hc3] at hM
    refine lv_bipush (v := (-2)) F.1 F.2.1 qd_X_as_33 (by decide) ?_
    cases hM
    exact hQ _ _ _ _ qd_X_as_35 w
  · rw [if_neg hc3] at hM
    refine lv_aload_n F.1 F.2.1 qd_X_as_11 rfl (lv_at hl 0 rfl) ?_
    refine xg_X_types F hK w qk_168 qd_X_as_12 ?_
    refine lv_iload_n F.1 F.2.1 qd_X_as_15 rfl (lv_at hl 1 rfl) ?_
    obtain ⟨q4, hq5, hM⟩ := qbd hM
    refine x_calli F hK hN hA w (c_T_hasWildArgument l D ad cI hq5) qk_609 qk_512 qk_513 qk_3 qk_514 qv_T_hasWildArgument rfl rfl ⟨Nat.le_trans (by decide) hR.1, Nat.le_trans (by decide) hR.2⟩ (ci := 1) rfl (j := 2) rfl hl.1 rfl (Nat.le_of_ble_eq_true rfl) qd_X_as_16 (fun H locs w => ?_)
    refine lv_if_ne (tgt := 33) F.1 F.2.1 qd_X_as_19 (by decide) (fun hc6 => ?_) (fun hc6 => ?_)
    · rw [if_neg hc6] at hM
      refine lv_bipush (v := (-2)) F.1 F.2.1 qd_X_as_33 (by decide) ?_
      cases hM
      exact hQ _ _ _ _ qd_X_as_35 w
    · rw [if_pos hc6] at hM
      refine lv_aload_n F.1 F.2.1 qd_X_as_22 rfl (lv_at hl 0 rfl) ?_
      refine xg_X_classes F hK w qk_167 qd_X_as_23 ?_
      refine lv_iload_n F.1 F.2.1 qd_X_as_26 rfl (lv_at hl 2 rfl) ?_
      obtain ⟨q7, hq8, hM⟩ := qbd hM
      refine x_calli F hK hN hA w (c_K_has l D ad cI hq8) qk_257 qk_258 qk_259 qk_2 qk_260 qv_K_has rfl rfl ⟨Nat.le_trans (by decide) hR.1, Nat.le_trans (by decide) hR.2⟩ (ci := 0) rfl (j := 1) rfl hl.1 rfl (Nat.le_of_ble_eq_true rfl) qd_X_as_27 (fun H locs w => ?_)
      refine lv_if_ne (tgt := 36) F.1 F.2.1 qd_X_as_30 (by decide) (fun hc9 => ?_) (fun hc9 => ?_)
      · rw [if_neg hc9] at hM
        refine lv_aload_n F.1 F.2.1 qd_X_as_36 rfl (lv_at hl 0 rfl) ?_
        refine xg_X_types F hK w qk_168 qd_X_as_37 ?_
        refine lv_iload_n F.1 F.2.1 qd_X_as_40 rfl (lv_at hl 1 rfl) ?_
        obtain ⟨q10, hq11, hM⟩ := qbd hM
        refine x_calli F hK hN hA w (c_T_isOfClass l D ad cI hq11) qk_265 qk_266 qk_267 qk_3 qk_268 qv_T_isOfClass rfl rfl ⟨Nat.le_trans (by decide) hR.1, Nat.le_trans (by decide) hR.2⟩ (ci := 1) rfl (j := 2) rfl hl.1 rfl (Nat.le_of_ble_eq_true rfl) qd_X_as_41 (fun H locs w => ?_)
        refine lv_if_eq (tgt := 66) F.1 F.2.1 qd_X_as_44 (by decide) (fun hc12 => ?_) (fun hc12 => ?_)
        · rw [if_pos hc12] at hM
          refine lv_iconst (v := (-1)) F.1 F.2.1 qd_X_as_66 (by decide) ?_
          cases hM
          exact hQ _ _ _ _ qd_X_as_67 w
        · rw [if_neg hc12] at hM
          refine lv_aload_n F.1 F.2.1 qd_X_as_47 rfl (lv_at hl 0 rfl) ?_
          refine xg_X_classes F hK w qk_167 qd_X_as_48 ?_
          refine lv_aload_n F.1 F.2.1 qd_X_as_51 rfl (lv_at hl 0 rfl) ?_
          refine xg_X_types F hK w qk_168 qd_X_as_52 ?_
          refine lv_iload_n F.1 F.2.1 qd_X_as_55 rfl (lv_at hl 1 rfl) ?_
          obtain ⟨q13, hq14, hM⟩ := qbd hM
          refine x_calli F hK hN hA w (c_T_ownerOf l D ad cI hq14) qk_273 qk_274 qk_275 qk_3 qk_276 qv_T_ownerOf rfl rfl ⟨Nat.le_trans (by decide) hR.1, Nat.le_trans (by decide) hR.2⟩ (ci := 1) rfl (j := 2) rfl hl.1 rfl (Nat.le_of_ble_eq_true rfl) qd_X_as_56 (fun H locs w => ?_)
          refine lv_iload_n F.1 F.2.1 qd_X_as_59 rfl (lv_at hl 2 rfl) ?_
          obtain ⟨q15, hq16, hM⟩ := qbd hM
          refine x_calli F hK hN hA w (c_K_isUnder l D ad cI hq16) qk_448 qk_218 qk_219 qk_2 qk_220 qv_K_isUnder rfl rfl ⟨Nat.le_trans (by decide) hR.1, Nat.le_trans (by decide) hR.2⟩ (ci := 0) rfl (j := 1) rfl hl.1 rfl (Nat.le_of_ble_eq_true rfl) qd_X_as_60 (fun H locs w => ?_)
          refine lv_if_ne (tgt := 68) F.1 F.2.1 qd_X_as_63 (by decide) (fun hc17 => ?_) (fun hc17 => ?_)
          · rw [if_neg hc17] at hM
            refine lv_aload_n F.1 F.2.1 qd_X_as_68 rfl (lv_at hl 0 rfl) ?_
            refine lv_aload_n F.1 F.2.1 qd_X_as_69 rfl (lv_at hl 0 rfl) ?_
            refine xg_X_shapes F hK w qk_169 qd_X_as_70 ?_
            refine lv_iload_n F.1 F.2.1 qd_X_as_73 rfl (lv_at hl 1 rfl) ?_
            refine lv_iload_n F.1 F.2.1 qd_X_as_74 rfl (lv_at hl 2 rfl) ?_
            obtain ⟨q18, hq19, hM⟩ := qbd hM
            refine x_calli F hK hN hA w (c_S_viewedAs l D ad cI hq19) qk_610 qk_313 qk_314 qk_5 qk_315 qv_S_viewedAs rfl rfl ⟨Nat.le_trans (by decide) hR.1, Nat.le_trans (by decide) hR.2⟩ (ci := 2) rfl (j := 3) rfl hl.1 rfl (Nat.le_of_ble_eq_true rfl) qd_X_as_75 (fun H locs w => ?_)
            obtain ⟨q20, hq21, hM⟩ := qbd hM
            refine x_calli F hK hN hA w (c_X_settle l D ad cI hq21) qk_611 qk_613 qs_X_settle qk_1 qk_614 qv_X_settle rfl rfl ⟨Nat.le_trans (by decide) hR.1, Nat.le_trans (by decide) hR.2⟩ (ci := 5) rfl (j := 0) rfl hl.1 rfl (Nat.le_of_ble_eq_true rfl) qd_X_as_78 (fun H locs w => ?_)
            cases hM
            exact hQ _ _ _ _ qd_X_as_81 w
          · rw [if_pos hc17] at hM
            refine lv_iconst (v := (-1)) F.1 F.2.1 qd_X_as_66 (by decide) ?_
            cases hM
            exact hQ _ _ _ _ qd_X_as_67 w
      · rw [if_pos hc9] at hM
        refine lv_bipush (v := (-2)) F.1 F.2.1 qd_X_as_33 (by decide) ?_
        cases hM
        exact hQ _ _ _ _ qd_X_as_35 w
set_option maxRecDepth 100000 in
theorem c_X_as (l : Launch) (D : va_G) (ad : Nat → Nat) (cI : ClassId) {S : (Nat → Nat → Int32)} {a1 a2 : Int32} {res : (Int32 × (Nat → Nat → Int32))} (hM : f_X_as S a1 a2 = some res) : xMi l qy_X_as qb_X_as 3 (some .int) { frames := 68, cells := 0, slots := 0, locals := 1850 } D ad cI S [.ref (ad 0), .int a1, .int a2] res.1 res.2 := x_ofi (by decide +kernel) (Nat.le_of_ble_eq_true rfl) (fun p e s m args below meth c Q A ls F hK hN hA w hl hQ => t_X_as F ⟨Nat.le_refl _, Nat.le_refl _⟩ hK hN hA hQ S a1 a2 hM w hl)
-- X_erased
def f_X_erased (S : (Nat → Nat → Int32)) (a1 : Int32) : Option (Int32 × (Nat → Nat → Int32)) := (f_T_standsAlone S a1).bind (fun q1 => if (qB q1) = 0 then (some ((-2 : Int32), S)) else (if a1 = (1 : Int32) then (some ((-2 : Int32), S)) else (if a1 = (2 : Int32) then (some ((-2 : Int32), S)) else ((f_S_erasure S a1).bind (fun q6 => (f_X_settle q6.2 q6.1).bind (fun q8 => some (q8.1, q8.2)))))))
set_option maxRecDepth 100000 in
set_option maxHeartbeats 4000000 in
theorem t_X_erased {p : Program} {l : Launch} {e : Env} {R : Room} {s : State} {m : MethodId} {args : Array Value} {below : List Frame} {meth : Method} {c : Code} {Q : State → Prop} {D : va_G} {ad : Nat → Nat} {cI : ClassId} {A : Nat → Prop} (F : CallFix p m c qb_X_erased 2 s args qtb "CaptureSubtypes") (hR : 69 ≤ R.frames ∧ 1873 ≤ R.locals) (hK : va_K D qcl [(cI, .int)] s) (hN : qnests xns s) (hA : ∀ q, s.heap.size ≤ q → A q) {res : (Int32 × (Nat → Nat → Int32))} (hQ : ∀ (H : Heap) (locs : List Loc) (pc : Nat) (ls : Array Slot), decode qb_X_erased pc = .ok (.ireturn, 1) → xW D ad cI A s.heap res.2 H locs → W p l e R s m args below meth c H locs 0 0 Q (F0 m pc ls [.int res.1])) (S : (Nat → Nat → Int32)) (a1 : Int32) (hM : f_X_erased S a1 = some res) {H : Heap} {locs : List Loc} {ls : Array Slot} (w : xW D ad cI A s.heap S H locs) (hl : lv_has ls 2 [(0, .ref (ad 0)), (1, .int a1)]) : W p l e R s m args below meth c H locs 0 0 Q (F0 m 0 ls []) := by
  unfold f_X_erased at hM
  refine lv_aload_n F.1 F.2.1 qd_X_erased_0 rfl (lv_at hl 0 rfl) ?_
  refine xg_X_types F hK w qk_168 qd_X_erased_1 ?_
  refine lv_iload_n F.1 F.2.1 qd_X_erased_4 rfl (lv_at hl 1 rfl) ?_
  obtain ⟨q1, hq2, hM⟩ := qbd hM
  refine x_calli F hK hN hA w (c_T_standsAlone l D ad cI hq2) qk_415 qk_416 qk_417 qk_3 qk_418 qv_T_standsAlone rfl rfl ⟨Nat.le_trans (by decide) hR.1, Nat.le_trans (by decide) hR.2⟩ (ci := 1) rfl (j := 2) rfl hl.1 rfl (Nat.le_of_ble_eq_true rfl) qd_X_erased_5 (fun H locs w => ?_)
  refine lv_if_eq (tgt := 21) F.1 F.2.1 qd_X_erased_8 (by decide) (fun hc3 => ?_) (fun hc3 => ?_)
  · rw [if_pos hc3] at hM
    refine lv_bipush (v := (-2)) F.1 F.2.1 qd_X_erased_21 (by decide) ?_
    cases hM
    exact hQ _ _ _ _ qd_X_erased_23 w
  · rw [if_neg hc3] at hM
    refine lv_iload_n F.1 F.2.1 qd_X_erased_11 rfl (lv_at hl 1 rfl) ?_
    refine lv_iconst (v := 1) F.1 F.2.1 qd_X_erased_12 (by decide) ?_
    refine lv_icmp_eq (tgt := 21) F.1 F.2.1 qd_X_erased_13 (by decide) (fun hc4 => ?_) (fun hc4 => ?_)
    · rw [if_pos hc4] at hM
      refine lv_bipush (v := (-2)) F.1 F.2.1 qd_X_erased_21 (by decide) ?_
      cases hM
      exact hQ _ _ _ _ qd_X_erased_23 w
    · rw [if_neg hc4] at hM
      refine lv_iload_n F.1 F.2.1 qd_X_erased_16 rfl (lv_at hl 1 rfl) ?_
      refine lv_iconst (v := 2) F.1 F.2.1 qd_X_erased_17 (by decide) ?_
      refine lv_icmp_ne (tgt := 24) F.1 F.2.1 qd_X_erased_18 (by decide) (fun hc5 => ?_) (fun hc5 => ?_)
      · rw [if_neg hc5] at hM
        refine lv_aload_n F.1 F.2.1 qd_X_erased_24 rfl (lv_at hl 0 rfl) ?_
        refine lv_aload_n F.1 F.2.1 qd_X_erased_25 rfl (lv_at hl 0 rfl) ?_
        refine xg_X_shapes F hK w qk_169 qd_X_erased_26 ?_
        refine lv_iload_n F.1 F.2.1 qd_X_erased_29 rfl (lv_at hl 1 rfl) ?_
        obtain ⟨q6, hq7, hM⟩ := qbd hM
        refine x_calli F hK hN hA w (c_S_erasure l D ad cI hq7) qk_619 qk_595 qk_596 qk_5 qk_597 qv_S_erasure rfl rfl ⟨Nat.le_trans (by decide) hR.1, Nat.le_trans (by decide) hR.2⟩ (ci := 2) rfl (j := 3) rfl hl.1 rfl (Nat.le_of_ble_eq_true rfl) qd_X_erased_30 (fun H locs w => ?_)
        obtain ⟨q8, hq9, hM⟩ := qbd hM
        refine x_calli F hK hN hA w (c_X_settle l D ad cI hq9) qk_611 qk_613 qs_X_settle qk_1 qk_614 qv_X_settle rfl rfl ⟨Nat.le_trans (by decide) hR.1, Nat.le_trans (by decide) hR.2⟩ (ci := 5) rfl (j := 0) rfl hl.1 rfl (Nat.le_of_ble_eq_true rfl) qd_X_erased_33 (fun H locs w => ?_)
        cases hM
        exact hQ _ _ _ _ qd_X_erased_36 w
      · rw [if_pos hc5] at hM
        refine lv_bipush (v := (-2)) F.1 F.2.1 qd_X_erased_21 (by decide) ?_
        cases hM
        exact hQ _ _ _ _ qd_X_erased_23 w
set_option maxRecDepth 100000 in
theorem c_X_erased (l : Launch) (D : va_G) (ad : Nat → Nat) (cI : ClassId) {S : (Nat → Nat → Int32)} {a1 : Int32} {res : (Int32 × (Nat → Nat → Int32))} (hM : f_X_erased S a1 = some res) : xMi l qy_X_erased qb_X_erased 2 (some .int) { frames := 69, cells := 0, slots := 0, locals := 1873 } D ad cI S [.ref (ad 0), .int a1] res.1 res.2 := x_ofi (by decide +kernel) (Nat.le_of_ble_eq_true rfl) (fun p e s m args below meth c Q A ls F hK hN hA w hl hQ => t_X_erased F ⟨Nat.le_refl _, Nat.le_refl _⟩ hK hN hA hQ S a1 hM w hl)
-- O_keepsBoundsAt
def fb_O_keepsBoundsAt_23 (k_23 : (Nat → Nat → Int32) → Int32 → Int32 → Int32 → Int32 → Int32 → Option (Bool × (Nat → Nat → Int32))) (S : (Nat → Nat → Int32)) (v1 v2 v3 v4 v5 : Int32) : Option (Bool × (Nat → Nat → Int32)) := if v4 ≤ v5 then (some (true, S)) else ((f_K_boundAt S v3 v2 v5).bind (fun q2 => (f_S_putIn 64 S q2 v1 (20 : Int32)).bind (fun q4 => (f_T_argumentOf q4.2 v1 v2).bind (fun q6 => (f_O_isOne 64 q4.2 q6 q4.1 (40 : Int32)).bind (fun q8 => if (qB q8.1) = 0 then (some (false, q8.2)) else (k_23 q8.2 v1 v2 v3 v4 (v5 + (1 : Int32))))))))
def f_O_keepsBoundsAt_23 : Nat → (Nat → Nat → Int32) → Int32 → Int32 → Int32 → Int32 → Int32 → Option (Bool × (Nat → Nat → Int32))
  | 0 => fun _ _ _ _ _ _ => none
  | n + 1 => fun S v1 v2 v3 v4 v5 => fb_O_keepsBoundsAt_23 (f_O_keepsBoundsAt_23 n) S v1 v2 v3 v4 v5
def f_O_keepsBoundsAt (S : (Nat → Nat → Int32)) (a1 a2 : Int32) : Option (Bool × (Nat → Nat → Int32)) := (f_T_ownerOf S a1).bind (fun q1 => (f_K_boundCount S q1 a2).bind (fun q3 => f_O_keepsBoundsAt_23  qfu S a1 a2 q1 q3 (0 : Int32)))
set_option maxRecDepth 100000 in
set_option maxHeartbeats 4000000 in
theorem tb_O_keepsBoundsAt_23 {p : Program} {l : Launch} {e : Env} {R : Room} {s : State} {m : MethodId} {args : Array Value} {below : List Frame} {meth : Method} {c : Code} {Q : State → Prop} {D : va_G} {ad : Nat → Nat} {cI : ClassId} {A : Nat → Prop} (F : CallFix p m c qb_O_keepsBoundsAt 7 s args qtb "CaptureSubtypes$Order") (hR : 325 ≤ R.frames ∧ 8019 ≤ R.locals) (hK : va_K D qcl [(cI, .int)] s) (hN : qnests xns s) (hA : ∀ q, s.heap.size ≤ q → A q) {res : (Bool × (Nat → Nat → Int32))} (hQ : ∀ (H : Heap) (locs : List Loc) (pc : Nat) (ls : Array Slot), decode qb_O_keepsBoundsAt pc = .ok (.ireturn, 1) → xW D ad cI A s.heap res.2 H locs → W p l e R s m args below meth c H locs 0 0 Q (F0 m pc ls [.int (qB res.1)])) {k_23 : (Nat → Nat → Int32) → Int32 → Int32 → Int32 → Int32 → Int32 → Option (Bool × (Nat → Nat → Int32))} (hk_23 : ∀ (S : Nat → Nat → Int32) (v1 v2 v3 v4 v5 : Int32), k_23 S v1 v2 v3 v4 v5 = some res → ∀ {H : Heap} {locs : List Loc} {ls : Array Slot}, xW D ad cI A s.heap S H locs → lv_has ls 7 [(0, .ref (ad 4)), (1, .int v1), (2, .int v2), (3, .int v3), (4, .int v4), (5, .int v5)] → W p l e R s m args below meth c H locs 0 0 Q (F0 m 23 ls [])) (S : (Nat → Nat → Int32)) (v1 v2 v3 v4 v5 : Int32) (hM : fb_O_keepsBoundsAt_23 k_23 S v1 v2 v3 v4 v5 = some res) {H : Heap} {locs : List Loc} {ls : Array Slot} (w : xW D ad cI A s.heap S H locs) (hl : lv_has ls 7 [(0, .ref (ad 4)), (1, .int v1), (2, .int v2), (3, .int v3), (4, .int v4), (5, .int v5)]) : W p l e R s m args below meth c H locs 0 0 Q (F0 m 23 ls []) := by
  unfold fb_O_keepsBoundsAt_23 at hM
  refine lv_iload F.1 F.2.1 qd_O_keepsBoundsAt_23 (lv_at hl 5 rfl) ?_
  refine lv_iload F.1 F.2.1 qd_O_keepsBoundsAt_25 (lv_at hl 4 rfl) ?_
  refine lv_icmp_ge (tgt := 81) F.1 F.2.1 qd_O_keepsBoundsAt_27 (by decide) (fun hc1 => ?_) (fun hc1 => ?_)
  · rw [if_pos hc1] at hM
    refine lv_iconst (v := 1) F.1 F.2.1 qd_O_keepsBoundsAt_81 (by decide) ?_
    cases hM
    exact hQ _ _ _ _ qd_O_keepsBoundsAt_82 w
  · rw [if_neg hc1] at hM
    refine lv_aload_n F.1 F.2.1 qd_O_keepsBoundsAt_30 rfl (lv_at hl 0 rfl) ?_
    refine xg_O_shapes F hK w qk_140 qd_O_keepsBoundsAt_31 ?_
    refine lv_aload_n F.1 F.2.1 qd_O_keepsBoundsAt_34 rfl (lv_at hl 0 rfl) ?_
    refine xg_O_classes F hK w qk_138 qd_O_keepsBoundsAt_35 ?_
    refine lv_iload_n F.1 F.2.1 qd_O_keepsBoundsAt_38 rfl (lv_at hl 3 rfl) ?_
    refine lv_iload_n F.1 F.2.1 qd_O_keepsBoundsAt_39 rfl (lv_at hl 2 rfl) ?_
    refine lv_iload F.1 F.2.1 qd_O_keepsBoundsAt_40 (lv_at hl 5 rfl) ?_
    obtain ⟨q2, hq3, hM⟩ := qbd hM
    refine x_calli F hK hN hA w (c_K_boundAt l D ad cI hq3) qk_635 qk_490 qk_491 qk_2 qk_492 qv_K_boundAt rfl rfl ⟨Nat.le_trans (by decide) hR.1, Nat.le_trans (by decide) hR.2⟩ (ci := 0) rfl (j := 1) rfl hl.1 rfl (Nat.le_of_ble_eq_true rfl) qd_O_keepsBoundsAt_42 (fun H locs w => ?_)
    refine lv_iload_n F.1 F.2.1 qd_O_keepsBoundsAt_45 rfl (lv_at hl 1 rfl) ?_
    refine lv_bipush (v := 20) F.1 F.2.1 qd_O_keepsBoundsAt_46 (by decide) ?_
    obtain ⟨q4, hq5, hM⟩ := qbd hM
    refine x_calliN F hK hN hA w (c_S_putIn l D ad cI 64 hq5) (host := "CaptureSubtypes") (hN _ (by decide +kernel)) qk_335 qs_S_putIn qk_5 qk_336 qv_S_putIn rfl rfl ⟨Nat.le_trans (by decide) hR.1, Nat.le_trans (by decide) hR.2⟩ (ci := 2) rfl (j := 3) rfl hl.1 rfl (Nat.le_of_ble_eq_true rfl) qd_O_keepsBoundsAt_48 (fun H locs w => ?_)
    refine lv_istore (lv' := [(6, .int q4.1), (0, .ref (ad 4)), (1, .int v1), (2, .int v2), (3, .int v3), (4, .int v4), (5, .int v5)]) F.1 F.2.1 qd_O_keepsBoundsAt_51 hl (by decide) rfl (fun ls hl => ?_)
    refine lv_aload_n F.1 F.2.1 qd_O_keepsBoundsAt_53 rfl (lv_at hl 1 rfl) ?_
    refine lv_aload_n F.1 F.2.1 qd_O_keepsBoundsAt_54 rfl (lv_at hl 1 rfl) ?_
    refine xg_O_types F hK w qk_139 qd_O_keepsBoundsAt_55 ?_
    refine lv_iload_n F.1 F.2.1 qd_O_keepsBoundsAt_58 rfl (lv_at hl 2 rfl) ?_
    refine lv_iload_n F.1 F.2.1 qd_O_keepsBoundsAt_59 rfl (lv_at hl 3 rfl) ?_
    obtain ⟨q6, hq7, hM⟩ := qbd hM
    refine x_calli F hK hN hA w (c_T_argumentOf l D ad cI hq7) qk_629 qk_346 qk_347 qk_3 qk_348 qv_T_argumentOf rfl rfl ⟨Nat.le_trans (by decide) hR.1, Nat.le_trans (by decide) hR.2⟩ (ci := 1) rfl (j := 2) rfl hl.1 rfl (Nat.le_of_ble_eq_true rfl) qd_O_keepsBoundsAt_60 (fun H locs w => ?_)
    refine lv_iload F.1 F.2.1 qd_O_keepsBoundsAt_63 (lv_at hl 0 rfl) ?_
    refine lv_bipush (v := 40) F.1 F.2.1 qd_O_keepsBoundsAt_65 (by decide) ?_
    obtain ⟨q8, hq9, hM⟩ := qbd hM
    refine x_calli F hK hN hA w (c_O_isOne l D ad cI 64 hq9) qk_493 qk_460 qs_O_isOne qk_6 qk_461 qv_O_isOne rfl rfl ⟨Nat.le_trans (by decide) hR.1, Nat.le_trans (by decide) hR.2⟩ (ci := 3) rfl (j := 4) rfl hl.1 rfl (Nat.le_of_ble_eq_true rfl) qd_O_keepsBoundsAt_67 (fun H locs w => ?_)
    refine lv_if_ne (tgt := 75) F.1 F.2.1 qd_O_keepsBoundsAt_70 (by decide) (fun hc10 => ?_) (fun hc10 => ?_)
    · rw [if_neg hc10] at hM
      refine lv_iinc (v := (v5 + (1 : Int32))) (lv' := [(5, .int (v5 + (1 : Int32))), (6, .int q4.1), (0, .ref (ad 4)), (1, .int v1), (2, .int v2), (3, .int v3), (4, .int v4)]) F.1 F.2.1 qd_O_keepsBoundsAt_75 hl (k := 6) rfl rfl (by decide) rfl (fun ls hl => ?_)
      refine lv_goto (tgt := 23) F.1 F.2.1 qd_O_keepsBoundsAt_78 (by decide) ?_
      exact hk_23 _ _ _ _ _ _ hM w (lv_sub hl [2, 3, 4, 5, 6, 0] rfl)
    · rw [if_pos hc10] at hM
      refine lv_iconst (v := 0) F.1 F.2.1 qd_O_keepsBoundsAt_73 (by decide) ?_
      cases hM
      exact hQ _ _ _ _ qd_O_keepsBoundsAt_74 w
set_option maxRecDepth 100000 in
set_option maxHeartbeats 4000000 in
theorem t_O_keepsBoundsAt_23 {p : Program} {l : Launch} {e : Env} {R : Room} {s : State} {m : MethodId} {args : Array Value} {below : List Frame} {meth : Method} {c : Code} {Q : State → Prop} {D : va_G} {ad : Nat → Nat} {cI : ClassId} {A : Nat → Prop} (F : CallFix p m c qb_O_keepsBoundsAt 7 s args qtb "CaptureSubtypes$Order") (hR : 325 ≤ R.frames ∧ 8019 ≤ R.locals) (hK : va_K D qcl [(cI, .int)] s) (hN : qnests xns s) (hA : ∀ q, s.heap.size ≤ q → A q) {res : (Bool × (Nat → Nat → Int32))} (hQ : ∀ (H : Heap) (locs : List Loc) (pc : Nat) (ls : Array Slot), decode qb_O_keepsBoundsAt pc = .ok (.ireturn, 1) → xW D ad cI A s.heap res.2 H locs → W p l e R s m args below meth c H locs 0 0 Q (F0 m pc ls [.int (qB res.1)])) : ∀ (n : Nat) (S : (Nat → Nat → Int32)) (v1 v2 v3 v4 v5 : Int32) (hM : f_O_keepsBoundsAt_23 n S v1 v2 v3 v4 v5 = some res) {H : Heap} {locs : List Loc} {ls : Array Slot} (w : xW D ad cI A s.heap S H locs) (hl : lv_has ls 7 [(0, .ref (ad 4)), (1, .int v1), (2, .int v2), (3, .int v3), (4, .int v4), (5, .int v5)]), W p l e R s m args below meth c H locs 0 0 Q (F0 m 23 ls []) := by
  intro n
  induction n with
  | zero => intro S v1 v2 v3 v4 v5 hM; exact absurd hM (by simp [f_O_keepsBoundsAt_23])
  | succ n ih => intro S v1 v2 v3 v4 v5 hM H locs ls w hl; exact tb_O_keepsBoundsAt_23 F hR hK hN hA hQ (k_23 := f_O_keepsBoundsAt_23 n) (fun S v1 v2 v3 v4 v5 hM H locs ls w hl => ih S v1 v2 v3 v4 v5 hM w hl) S v1 v2 v3 v4 v5 hM w hl
set_option maxRecDepth 100000 in
set_option maxHeartbeats 4000000 in
theorem t_O_keepsBoundsAt {p : Program} {l : Launch} {e : Env} {R : Room} {s : State} {m : MethodId} {args : Array Value} {below : List Frame} {meth : Method} {c : Code} {Q : State → Prop} {D : va_G} {ad : Nat → Nat} {cI : ClassId} {A : Nat → Prop} (F : CallFix p m c qb_O_keepsBoundsAt 7 s args qtb "CaptureSubtypes$Order") (hR : 325 ≤ R.frames ∧ 8019 ≤ R.locals) (hK : va_K D qcl [(cI, .int)] s) (hN : qnests xns s) (hA : ∀ q, s.heap.size ≤ q → A q) {res : (Bool × (Nat → Nat → Int32))} (hQ : ∀ (H : Heap) (locs : List Loc) (pc : Nat) (ls : Array Slot), decode qb_O_keepsBoundsAt pc = .ok (.ireturn, 1) → xW D ad cI A s.heap res.2 H locs → W p l e R s m args below meth c H locs 0 0 Q (F0 m pc ls [.int (qB res.1)])) (S : (Nat → Nat → Int32)) (a1 a2 : Int32) (hM : f_O_keepsBoundsAt S a1 a2 = some res) {H : Heap} {locs : List Loc} {ls : Array Slot} (w : xW D ad cI A s.heap S H locs) (hl : lv_has ls 7 [(0, .ref (ad 4)), (1, .int a1), (2, .int a2)]) : W p l e R s m args below meth c H locs 0 0 Q (F0 m 0 ls []) := by
  unfold f_O_keepsBoundsAt at hM
  refine lv_aload_n F.1 F.2.1 qd_O_keepsBoundsAt_0 rfl (lv_at hl 0 rfl) ?_
  refine xg_O_types F hK w qk_139 qd_O_keepsBoundsAt_1 ?_
  refine lv_iload_n F.1 F.2.1 qd_O_keepsBoundsAt_4 rfl (lv_at hl 1 rfl) ?_
  obtain ⟨q1, hq2, hM⟩ := qbd hM
  refine x_calli F hK hN hA w (c_T_ownerOf l D ad cI hq2) qk_505 qk_274 qk_275 qk_3 qk_276 qv_T_ownerOf rfl rfl ⟨Nat.le_trans (by decide) hR.1, Nat.le_trans (by decide) hR.2⟩ (ci := 1) rfl (j := 2) rfl hl.1 rfl (Nat.le_of_ble_eq_true rfl) qd_O_keepsBoundsAt_5 (fun H locs w => ?_)
  refine lv_istore_n (lv' := [(3, .int q1), (0, .ref (ad 4)), (1, .int a1), (2, .int a2)]) F.1 F.2.1 qd_O_keepsBoundsAt_8 rfl hl (by decide) rfl (fun ls hl => ?_)
  refine lv_aload_n F.1 F.2.1 qd_O_keepsBoundsAt_9 rfl (lv_at hl 1 rfl) ?_
  refine xg_O_classes F hK w qk_138 qd_O_keepsBoundsAt_10 ?_
  refine lv_iload_n F.1 F.2.1 qd_O_keepsBoundsAt_13 rfl (lv_at hl 0 rfl) ?_
  refine lv_iload_n F.1 F.2.1 qd_O_keepsBoundsAt_14 rfl (lv_at hl 3 rfl) ?_
  obtain ⟨q3, hq4, hM⟩ := qbd hM
  refine x_calli F hK hN hA w (c_K_boundCount l D ad cI hq4) qk_634 qk_374 qk_375 qk_2 qk_376 qv_K_boundCount rfl rfl ⟨Nat.le_trans (by decide) hR.1, Nat.le_trans (by decide) hR.2⟩ (ci := 0) rfl (j := 1) rfl hl.1 rfl (Nat.le_of_ble_eq_true rfl) qd_O_keepsBoundsAt_15 (fun H locs w => ?_)
  refine lv_istore (lv' := [(4, .int q3), (3, .int q1), (0, .ref (ad 4)), (1, .int a1), (2, .int a2)]) F.1 F.2.1 qd_O_keepsBoundsAt_18 hl (by decide) rfl (fun ls hl => ?_)
  refine lv_iconst (v := 0) F.1 F.2.1 qd_O_keepsBoundsAt_20 (by decide) ?_
  refine lv_istore (lv' := [(5, .int (0 : Int32)), (4, .int q3), (3, .int q1), (0, .ref (ad 4)), (1, .int a1), (2, .int a2)]) F.1 F.2.1 qd_O_keepsBoundsAt_21 hl (by decide) rfl (fun ls hl => ?_)
  exact t_O_keepsBoundsAt_23 F hR hK hN hA hQ  qfu _ _ _ _ _ _ hM w (lv_sub hl [3, 4, 5, 2, 1, 0] rfl)
set_option maxRecDepth 100000 in
theorem c_O_keepsBoundsAt (l : Launch) (D : va_G) (ad : Nat → Nat) (cI : ClassId) {S : (Nat → Nat → Int32)} {a1 a2 : Int32} {res : (Bool × (Nat → Nat → Int32))} (hM : f_O_keepsBoundsAt S a1 a2 = some res) : xMi l qy_O_keepsBoundsAt qb_O_keepsBoundsAt 7 (some .boolean) { frames := 325, cells := 0, slots := 0, locals := 8019 } D ad cI S [.ref (ad 4), .int a1, .int a2] (qB res.1) res.2 := x_ofz (by decide +kernel) (Nat.le_of_ble_eq_true rfl) (fun p e s m args below meth c Q A ls F hK hN hA w hl hQ => t_O_keepsBoundsAt F ⟨Nat.le_refl _, Nat.le_refl _⟩ hK hN hA hQ S a1 a2 hM w hl)
-- O_keepsBounds
def f_O_keepsBounds_60 (k_21 : (Nat → Nat → Int32) → Int32 → Int32 → Int32 → Int32 → Option (Bool × (Nat → Nat → Int32))) (S : (Nat → Nat → Int32)) (v1 v2 v3 v4 s1 : Int32) : Option (Bool × (Nat → Nat → Int32)) := if s1 = 0 then ((f_O_keepsBoundsAt S v3 v4).bind (fun q2 => if (qB q2.1) = 0 then (some (false, q2.2)) else (k_21 q2.2 v1 v2 v3 (v4 + (1 : Int32))))) else (k_21 S v1 v2 v3 (v4 + (1 : Int32)))
def fb_O_keepsBounds_21 (k_21 : (Nat → Nat → Int32) → Int32 → Int32 → Int32 → Int32 → Option (Bool × (Nat → Nat → Int32))) (S : (Nat → Nat → Int32)) (v1 v2 v3 v4 : Int32) : Option (Bool × (Nat → Nat → Int32)) := (f_K_parametersOf S v2).bind (fun q1 => if q1 ≤ v4 then (some (true, S)) else ((f_T_argumentOf S v1 v4).bind (fun q4 => (f_T_sortOf S q4).bind (fun q6 => if q6 = (5 : Int32) then (f_O_keepsBounds_60 k_21 S v1 v2 v3 v4 (1 : Int32)) else (f_O_keepsBounds_60 k_21 S v1 v2 v3 v4 (0 : Int32))))))
def f_O_keepsBounds_21 : Nat → (Nat → Nat → Int32) → Int32 → Int32 → Int32 → Int32 → Option (Bool × (Nat → Nat → Int32))
  | 0 => fun _ _ _ _ _ => none
  | n + 1 => fun S v1 v2 v3 v4 => fb_O_keepsBounds_21 (f_O_keepsBounds_21 n) S v1 v2 v3 v4
def f_O_keepsBounds (S : (Nat → Nat → Int32)) (a1 : Int32) : Option (Bool × (Nat → Nat → Int32)) := (f_T_ownerOf S a1).bind (fun q1 => (f_S_caught S a1).bind (fun q3 => f_O_keepsBounds_21  qfu q3.2 a1 q1 q3.1 (0 : Int32)))
set_option maxRecDepth 100000 in
set_option maxHeartbeats 4000000 in
theorem t_O_keepsBounds_60 {p : Program} {l : Launch} {e : Env} {R : Room} {s : State} {m : MethodId} {args : Array Value} {below : List Frame} {meth : Method} {c : Code} {Q : State → Prop} {D : va_G} {ad : Nat → Nat} {cI : ClassId} {A : Nat → Prop} (F : CallFix p m c qb_O_keepsBounds 6 s args qtb "CaptureSubtypes$Order") (hR : 326 ≤ R.frames ∧ 8045 ≤ R.locals) (hK : va_K D qcl [(cI, .int)] s) (hN : qnests xns s) (hA : ∀ q, s.heap.size ≤ q → A q) {res : (Bool × (Nat → Nat → Int32))} (hQ : ∀ (H : Heap) (locs : List Loc) (pc : Nat) (ls : Array Slot), decode qb_O_keepsBounds pc = .ok (.ireturn, 1) → xW D ad cI A s.heap res.2 H locs → W p l e R s m args below meth c H locs 0 0 Q (F0 m pc ls [.int (qB res.1)])) {k_21 : (Nat → Nat → Int32) → Int32 → Int32 → Int32 → Int32 → Option (Bool × (Nat → Nat → Int32))} (hk_21 : ∀ (S : Nat → Nat → Int32) (v1 v2 v3 v4 : Int32), k_21 S v1 v2 v3 v4 = some res → ∀ {H : Heap} {locs : List Loc} {ls : Array Slot}, xW D ad cI A s.heap S H locs → lv_has ls 6 [(0, .ref (ad 4)), (1, .int v1), (2, .int v2), (3, .int v3), (4, .int v4)] → W p l e R s m args below meth c H locs 0 0 Q (F0 m 21 ls [])) (S : (Nat → Nat → Int32)) (v1 v2 v3 v4 s1 : Int32) (hM : f_O_keepsBounds_60 k_21 S v1 v2 v3 v4 s1 = some res) {H : Heap} {locs : List Loc} {ls : Array Slot} (w : xW D ad cI A s.heap S H locs) (hl : lv_has ls 6 [(0, .ref (ad 4)), (1, .int v1), (2, .int v2), (3, .int v3), (4, .int v4)]) : W p l e R s m args below meth c H locs 0 0 Q (F0 m 60 ls [.int s1]) := by
  unfold f_O_keepsBounds_60 at hM
  refine lv_istore (lv' := [(5, .int s1), (0, .ref (ad 4)), (1, .int v1), (2, .int v2), (3, .int v3), (4, .int v4)]) F.1 F.2.1 qd_O_keepsBounds_60 hl (by decide) rfl (fun ls hl => ?_)
  refine lv_iload F.1 F.2.1 qd_O_keepsBounds_62 (lv_at hl 0 rfl) ?_
  refine lv_if_ne (tgt := 79) F.1 F.2.1 qd_O_keepsBounds_64 (by decide) (fun hc1 => ?_) (fun hc1 => ?_)
  · rw [if_neg hc1] at hM
    refine lv_iinc (v := (v4 + (1 : Int32))) (lv' := [(4, .int (v4 + (1 : Int32))), (5, .int s1), (0, .ref (ad 4)), (1, .int v1), (2, .int v2), (3, .int v3)]) F.1 F.2.1 qd_O_keepsBounds_79 hl (k := 5) rfl rfl (by decide) rfl (fun ls hl => ?_)
    refine lv_goto (tgt := 21) F.1 F.2.1 qd_O_keepsBounds_82 (by decide) ?_
    exact hk_21 _ _ _ _ _ hM w (lv_sub hl [2, 3, 4, 5, 0] rfl)
  · rw [if_pos hc1] at hM
    refine lv_aload_n F.1 F.2.1 qd_O_keepsBounds_67 rfl (lv_at hl 1 rfl) ?_
    refine lv_iload_n F.1 F.2.1 qd_O_keepsBounds_68 rfl (lv_at hl 4 rfl) ?_
    refine lv_iload F.1 F.2.1 qd_O_keepsBounds_69 (lv_at hl 5 rfl) ?_
    obtain ⟨q2, hq3, hM⟩ := qbd hM
    refine x_calli F hK hN hA w (c_O_keepsBoundsAt l D ad cI hq3) qk_630 qk_632 qs_O_keepsBoundsAt qk_6 qk_633 qv_O_keepsBoundsAt rfl rfl ⟨Nat.le_trans (by decide) hR.1, Nat.le_trans (by decide) hR.2⟩ (ci := 3) rfl (j := 4) rfl hl.1 rfl (Nat.le_of_ble_eq_true rfl) qd_O_keepsBounds_71 (fun H locs w => ?_)
    refine lv_if_ne (tgt := 79) F.1 F.2.1 qd_O_keepsBounds_74 (by decide) (fun hc4 => ?_) (fun hc4 => ?_)
    · rw [if_neg hc4] at hM
      refine lv_iinc (v := (v4 + (1 : Int32))) (lv' := [(4, .int (v4 + (1 : Int32))), (5, .int s1), (0, .ref (ad 4)), (1, .int v1), (2, .int v2), (3, .int v3)]) F.1 F.2.1 qd_O_keepsBounds_79 hl (k := 5) rfl rfl (by decide) rfl (fun ls hl => ?_)
      refine lv_goto (tgt := 21) F.1 F.2.1 qd_O_keepsBounds_82 (by decide) ?_
      exact hk_21 _ _ _ _ _ hM w (lv_sub hl [2, 3, 4, 5, 0] rfl)
    · rw [if_pos hc4] at hM
      refine lv_iconst (v := 0) F.1 F.2.1 qd_O_keepsBounds_77 (by decide) ?_
      cases hM
      exact hQ _ _ _ _ qd_O_keepsBounds_78 w
set_option maxRecDepth 100000 in
set_option maxHeartbeats 4000000 in
theorem tb_O_keepsBounds_21 {p : Program} {l : Launch} {e : Env} {R : Room} {s : State} {m : MethodId} {args : Array Value} {below : List Frame} {meth : Method} {c : Code} {Q : State → Prop} {D : va_G} {ad : Nat → Nat} {cI : ClassId} {A : Nat → Prop} (F : CallFix p m c qb_O_keepsBounds 6 s args qtb "CaptureSubtypes$Order") (hR : 326 ≤ R.frames ∧ 8045 ≤ R.locals) (hK : va_K D qcl [(cI, .int)] s) (hN : qnests xns s) (hA : ∀ q, s.heap.size ≤ q → A q) {res : (Bool × (Nat → Nat → Int32))} (hQ : ∀ (H : Heap) (locs : List Loc) (pc : Nat) (ls : Array Slot), decode qb_O_keepsBounds pc = .ok (.ireturn, 1) → xW D ad cI A s.heap res.2 H locs → W p l e R s m args below meth c H locs 0 0 Q (F0 m pc ls [.int (qB res.1)])) {k_21 : (Nat → Nat → Int32) → Int32 → Int32 → Int32 → Int32 → Option (Bool × (Nat → Nat → Int32))} (hk_21 : ∀ (S : Nat → Nat → Int32) (v1 v2 v3 v4 : Int32), k_21 S v1 v2 v3 v4 = some res → ∀ {H : Heap} {locs : List Loc} {ls : Array Slot}, xW D ad cI A s.heap S H locs → lv_has ls 6 [(0, .ref (ad 4)), (1, .int v1), (2, .int v2), (3, .int v3), (4, .int v4)] → W p l e R s m args below meth c H locs 0 0 Q (F0 m 21 ls [])) (S : (Nat → Nat → Int32)) (v1 v2 v3 v4 : Int32) (hM : fb_O_keepsBounds_21 k_21 S v1 v2 v3 v4 = some res) {H : Heap} {locs : List Loc} {ls : Array Slot} (w : xW D ad cI A s.heap S H locs) (hl : lv_has ls 6 [(0, .ref (ad 4)), (1, .int v1), (2, .int v2), (3, .int v3), (4, .int v4)]) : W p l e R s m args below meth c H locs 0 0 Q (F0 m 21 ls []) := by
  unfold fb_O_keepsBounds_21 at hM
  refine lv_iload F.1 F.2.1 qd_O_keepsBounds_21 (lv_at hl 4 rfl) ?_
  refine lv_aload_n F.1 F.2.1 qd_O_keepsBounds_23 rfl (lv_at hl 0 rfl) ?_
  refine xg_O_classes F hK w qk_138 qd_O_keepsBounds_24 ?_
  refine lv_iload_n F.1 F.2.1 qd_O_keepsBounds_27 rfl (lv_at hl 2 rfl) ?_
  obtain ⟨q1, hq2, hM⟩ := qbd hM
  refine x_calli F hK hN hA w (c_K_parametersOf l D ad cI hq2) qk_628 qk_396 qk_397 qk_2 qk_398 qv_K_parametersOf rfl rfl ⟨Nat.le_trans (by decide) hR.1, Nat.le_trans (by decide) hR.2⟩ (ci := 0) rfl (j := 1) rfl hl.1 rfl (Nat.le_of_ble_eq_true rfl) qd_O_keepsBounds_28 (fun H locs w => ?_)
  refine lv_icmp_ge (tgt := 85) F.1 F.2.1 qd_O_keepsBounds_31 (by decide) (fun hc3 => ?_) (fun hc3 => ?_)
  · rw [if_pos hc3] at hM
    refine lv_iconst (v := 1) F.1 F.2.1 qd_O_keepsBounds_85 (by decide) ?_
    cases hM
    exact hQ _ _ _ _ qd_O_keepsBounds_86 w
  · rw [if_neg hc3] at hM
    refine lv_aload_n F.1 F.2.1 qd_O_keepsBounds_34 rfl (lv_at hl 0 rfl) ?_
    refine xg_O_types F hK w qk_139 qd_O_keepsBounds_35 ?_
    refine lv_aload_n F.1 F.2.1 qd_O_keepsBounds_38 rfl (lv_at hl 0 rfl) ?_
    refine xg_O_types F hK w qk_139 qd_O_keepsBounds_39 ?_
    refine lv_iload_n F.1 F.2.1 qd_O_keepsBounds_42 rfl (lv_at hl 1 rfl) ?_
    refine lv_iload F.1 F.2.1 qd_O_keepsBounds_43 (lv_at hl 4 rfl) ?_
    obtain ⟨q4, hq5, hM⟩ := qbd hM
    refine x_calli F hK hN hA w (c_T_argumentOf l D ad cI hq5) qk_629 qk_346 qk_347 qk_3 qk_348 qv_T_argumentOf rfl rfl ⟨Nat.le_trans (by decide) hR.1, Nat.le_trans (by decide) hR.2⟩ (ci := 1) rfl (j := 2) rfl hl.1 rfl (Nat.le_of_ble_eq_true rfl) qd_O_keepsBounds_45 (fun H locs w => ?_)
    obtain ⟨q6, hq7, hM⟩ := qbd hM
    refine x_calli F hK hN hA w (c_T_sortOf l D ad cI hq7) qk_498 qk_270 qk_271 qk_3 qk_272 qv_T_sortOf rfl rfl ⟨Nat.le_trans (by decide) hR.1, Nat.le_trans (by decide) hR.2⟩ (ci := 1) rfl (j := 2) rfl hl.1 rfl (Nat.le_of_ble_eq_true rfl) qd_O_keepsBounds_48 (fun H locs w => ?_)
    refine lv_iconst (v := 5) F.1 F.2.1 qd_O_keepsBounds_51 (by decide) ?_
    refine lv_icmp_ne (tgt := 59) F.1 F.2.1 qd_O_keepsBounds_52 (by decide) (fun hc8 => ?_) (fun hc8 => ?_)
    · rw [if_neg hc8] at hM
      refine lv_iconst (v := 0) F.1 F.2.1 qd_O_keepsBounds_59 (by decide) ?_
      exact t_O_keepsBounds_60 F hR hK hN hA hQ hk_21 _ _ _ _ _ _ hM w (lv_sub hl [0, 1, 2, 3, 4] rfl)
    · rw [if_pos hc8] at hM
      refine lv_iconst (v := 1) F.1 F.2.1 qd_O_keepsBounds_55 (by decide) ?_
      refine lv_goto (tgt := 60) F.1 F.2.1 qd_O_keepsBounds_56 (by decide) ?_
      exact t_O_keepsBounds_60 F hR hK hN hA hQ hk_21 _ _ _ _ _ _ hM w (lv_sub hl [0, 1, 2, 3, 4] rfl)
set_option maxRecDepth 100000 in
set_option maxHeartbeats 4000000 in
theorem t_O_keepsBounds_21 {p : Program} {l : Launch} {e : Env} {R : Room} {s : State} {m : MethodId} {args : Array Value} {below : List Frame} {meth : Method} {c : Code} {Q : State → Prop} {D : va_G} {ad : Nat → Nat} {cI : ClassId} {A : Nat → Prop} (F : CallFix p m c qb_O_keepsBounds 6 s args qtb "CaptureSubtypes$Order") (hR : 326 ≤ R.frames ∧ 8045 ≤ R.locals) (hK : va_K D qcl [(cI, .int)] s) (hN : qnests xns s) (hA : ∀ q, s.heap.size ≤ q → A q) {res : (Bool × (Nat → Nat → Int32))} (hQ : ∀ (H : Heap) (locs : List Loc) (pc : Nat) (ls : Array Slot), decode qb_O_keepsBounds pc = .ok (.ireturn, 1) → xW D ad cI A s.heap res.2 H locs → W p l e R s m args below meth c H locs 0 0 Q (F0 m pc ls [.int (qB res.1)])) : ∀ (n : Nat) (S : (Nat → Nat → Int32)) (v1 v2 v3 v4 : Int32) (hM : f_O_keepsBounds_21 n S v1 v2 v3 v4 = some res) {H : Heap} {locs : List Loc} {ls : Array Slot} (w : xW D ad cI A s.heap S H locs) (hl : lv_has ls 6 [(0, .ref (ad 4)), (1, .int v1), (2, .int v2), (3, .int v3), (4, .int v4)]), W p l e R s m args below meth c H locs 0 0 Q (F0 m 21 ls []) := by
  intro n
  induction n with
  | zero => intro S v1 v2 v3 v4 hM; exact absurd hM (by simp [f_O_keepsBounds_21])
  | succ n ih => intro S v1 v2 v3 v4 hM H locs ls w hl; exact tb_O_keepsBounds_21 F hR hK hN hA hQ (k_21 := f_O_keepsBounds_21 n) (fun S v1 v2 v3 v4 hM H locs ls w hl => ih S v1 v2 v3 v4 hM w hl) S v1 v2 v3 v4 hM w hl
set_option maxRecDepth 100000 in
set_option maxHeartbeats 4000000 in
theorem t_O_keepsBounds {p : Program} {l : Launch} {e : Env} {R : Room} {s : State} {m : MethodId} {args : Array Value} {below : List Frame} {meth : Method} {c : Code} {Q : State → Prop} {D : va_G} {ad : Nat → Nat} {cI : ClassId} {A : Nat → Prop} (F : CallFix p m c qb_O_keepsBounds 6 s args qtb "CaptureSubtypes$Order") (hR : 326 ≤ R.frames ∧ 8045 ≤ R.locals) (hK : va_K D qcl [(cI, .int)] s) (hN : qnests xns s) (hA : ∀ q, s.heap.size ≤ q → A q) {res : (Bool × (Nat → Nat → Int32))} (hQ : ∀ (H : Heap) (locs : List Loc) (pc : Nat) (ls : Array Slot), decode qb_O_keepsBounds pc = .ok (.ireturn, 1) → xW D ad cI A s.heap res.2 H locs → W p l e R s m args below meth c H locs 0 0 Q (F0 m pc ls [.int (qB res.1)])) (S : (Nat → Nat → Int32)) (a1 : Int32) (hM : f_O_keepsBounds S a1 = some res) {H : Heap} {locs : List Loc} {ls : Array Slot} (w : xW D ad cI A s.heap S H locs) (hl : lv_has ls 6 [(0, .ref (ad 4)), (1, .int a1)]) : W p l e R s m args below meth c H locs 0 0 Q (F0 m 0 ls []) := by
  unfold f_O_keepsBounds at hM
  refine lv_aload_n F.1 F.2.1 qd_O_keepsBounds_0 rfl (lv_at hl 0 rfl) ?_
  refine xg_O_types F hK w qk_139 qd_O_keepsBounds_1 ?_
  refine lv_iload_n F.1 F.2.1 qd_O_keepsBounds_4 rfl (lv_at hl 1 rfl) ?_
  obtain ⟨q1, hq2, hM⟩ := qbd hM
  refine x_calli F hK hN hA w (c_T_ownerOf l D ad cI hq2) qk_505 qk_274 qk_275 qk_3 qk_276 qv_T_ownerOf rfl rfl ⟨Nat.le_trans (by decide) hR.1, Nat.le_trans (by decide) hR.2⟩ (ci := 1) rfl (j := 2) rfl hl.1 rfl (Nat.le_of_ble_eq_true rfl) qd_O_keepsBounds_5 (fun H locs w => ?_)
  refine lv_istore_n (lv' := [(2, .int q1), (0, .ref (ad 4)), (1, .int a1)]) F.1 F.2.1 qd_O_keepsBounds_8 rfl hl (by decide) rfl (fun ls hl => ?_)
  refine lv_aload_n F.1 F.2.1 qd_O_keepsBounds_9 rfl (lv_at hl 1 rfl) ?_
  refine xg_O_shapes F hK w qk_140 qd_O_keepsBounds_10 ?_
  refine lv_iload_n F.1 F.2.1 qd_O_keepsBounds_13 rfl (lv_at hl 2 rfl) ?_
  obtain ⟨q3, hq4, hM⟩ := qbd hM
  refine x_calli F hK hN hA w (c_S_caught l D ad cI hq4) qk_507 qk_508 qk_509 qk_5 qk_510 qv_S_caught rfl rfl ⟨Nat.le_trans (by decide) hR.1, Nat.le_trans (by decide) hR.2⟩ (ci := 2) rfl (j := 3) rfl hl.1 rfl (Nat.le_of_ble_eq_true rfl) qd_O_keepsBounds_14 (fun H locs w => ?_)
  refine lv_istore_n (lv' := [(3, .int q3.1), (2, .int q1), (0, .ref (ad 4)), (1, .int a1)]) F.1 F.2.1 qd_O_keepsBounds_17 rfl hl (by decide) rfl (fun ls hl => ?_)
  refine lv_iconst (v := 0) F.1 F.2.1 qd_O_keepsBounds_18 (by decide) ?_
  refine lv_istore (lv' := [(4, .int (0 : Int32)), (3, .int q3.1), (2, .int q1), (0, .ref (ad 4)), (1, .int a1)]) F.1 F.2.1 qd_O_keepsBounds_19 hl (by decide) rfl (fun ls hl => ?_)
  exact t_O_keepsBounds_21 F hR hK hN hA hQ  qfu _ _ _ _ _ hM w (lv_sub hl [3, 4, 2, 1, 0] rfl)
set_option maxRecDepth 100000 in
theorem c_O_keepsBounds (l : Launch) (D : va_G) (ad : Nat → Nat) (cI : ClassId) {S : (Nat → Nat → Int32)} {a1 : Int32} {res : (Bool × (Nat → Nat → Int32))} (hM : f_O_keepsBounds S a1 = some res) : xMi l qy_O_keepsBounds qb_O_keepsBounds 6 (some .boolean) { frames := 326, cells := 0, slots := 0, locals := 8045 } D ad cI S [.ref (ad 4), .int a1] (qB res.1) res.2 := x_ofz (by decide +kernel) (Nat.le_of_ble_eq_true rfl) (fun p e s m args below meth c Q A ls F hK hN hA w hl hQ => t_O_keepsBounds F ⟨Nat.le_refl _, Nat.le_refl _⟩ hK hN hA hQ S a1 hM w hl)
-- X_good
def f_X_good (S : (Nat → Nat → Int32)) (a1 : Int32) : Option (Int32 × (Nat → Nat → Int32)) := (f_T_has S a1).bind (fun q1 => if (qB q1) = 0 then (some ((-2 : Int32), S)) else ((f_T_sortOf S a1).bind (fun q4 => if q4 = (2 : Int32) then ((f_O_keepsBounds S a1).bind (fun q7 => (f_T_dropTo q7.2 (q7.2 10 0)).bind (fun q9 => if (qB q7.1) = 0 then (some ((0 : Int32), q9)) else (some ((1 : Int32), q9))))) else (some ((-2 : Int32), S)))))
set_option maxRecDepth 100000 in
set_option maxHeartbeats 4000000 in
theorem t_X_good {p : Program} {l : Launch} {e : Env} {R : Room} {s : State} {m : MethodId} {args : Array Value} {below : List Frame} {meth : Method} {c : Code} {Q : State → Prop} {D : va_G} {ad : Nat → Nat} {cI : ClassId} {A : Nat → Prop} (F : CallFix p m c qb_X_good 3 s args qtb "CaptureSubtypes") (hR : 327 ≤ R.frames ∧ 8070 ≤ R.locals) (hK : va_K D qcl [(cI, .int)] s) (hN : qnests xns s) (hA : ∀ q, s.heap.size ≤ q → A q) {res : (Int32 × (Nat → Nat → Int32))} (hQ : ∀ (H : Heap) (locs : List Loc) (pc : Nat) (ls : Array Slot), decode qb_X_good pc = .ok (.ireturn, 1) → xW D ad cI A s.heap res.2 H locs → W p l e R s m args below meth c H locs 0 0 Q (F0 m pc ls [.int res.1])) (S : (Nat → Nat → Int32)) (a1 : Int32) (hM : f_X_good S a1 = some res) {H : Heap} {locs : List Loc} {ls : Array Slot} (w : xW D ad cI A s.heap S H locs) (hl : lv_has ls 3 [(0, .ref (ad 0)), (1, .int a1)]) : W p l e R s m args below meth c H locs 0 0 Q (F0 m 0 ls []) := by
  unfold f_X_good at hM
  refine lv_aload_n F.1 F.2.1 qd_X_good_0 rfl (lv_at hl 0 rfl) ?_
  refine xg_X_types F hK w qk_168 qd_X_good_1 ?_
  refine lv_iload_n F.1 F.2.1 qd_X_good_4 rfl (lv_at hl 1 rfl) ?_
  obtain ⟨q1, hq2, hM⟩ := qbd hM
  refine x_calli F hK hN hA w (c_T_has l D ad cI hq2) qk_261 qk_262 qk_263 qk_3 qk_264 qv_T_has rfl rfl ⟨Nat.le_trans (by decide) hR.1, Nat.le_trans (by decide) hR.2⟩ (ci := 1) rfl (j := 2) rfl hl.1 rfl (Nat.le_of_ble_eq_true rfl) qd_X_good_5 (fun H locs w => ?_)
  refine lv_if_eq (tgt := 23) F.1 F.2.1 qd_X_good_8 (by decide) (fun hc3 => ?_) (fun hc3 => ?_)
  · rw [if_pos hc3] at hM
    refine lv_bipush (v := (-2)) F.1 F.2.1 qd_X_good_23 (by decide) ?_
    cases hM
    exact hQ _ _ _ _ qd_X_good_25 w
  · rw [if_neg hc3] at hM
    refine lv_aload_n F.1 F.2.1 qd_X_good_11 rfl (lv_at hl 0 rfl) ?_
    refine xg_X_types F hK w qk_168 qd_X_good_12 ?_
    refine lv_iload_n F.1 F.2.1 qd_X_good_15 rfl (lv_at hl 1 rfl) ?_
    obtain ⟨q4, hq5, hM⟩ := qbd hM
    refine x_calli F hK hN hA w (c_T_sortOf l D ad cI hq5) qk_377 qk_270 qk_271 qk_3 qk_272 qv_T_sortOf rfl rfl ⟨Nat.le_trans (by decide) hR.1, Nat.le_trans (by decide) hR.2⟩ (ci := 1) rfl (j := 2) rfl hl.1 rfl (Nat.le_of_ble_eq_true rfl) qd_X_good_16 (fun H locs w => ?_)
    refine lv_iconst (v := 2) F.1 F.2.1 qd_X_good_19 (by decide) ?_
    refine lv_icmp_eq (tgt := 26) F.1 F.2.1 qd_X_good_20 (by decide) (fun hc6 => ?_) (fun hc6 => ?_)
    · rw [if_pos hc6] at hM
      refine lv_aload_n F.1 F.2.1 qd_X_good_26 rfl (lv_at hl 0 rfl) ?_
      refine xg_X_order F hK w qk_170 qd_X_good_27 ?_
      refine lv_iload_n F.1 F.2.1 qd_X_good_30 rfl (lv_at hl 1 rfl) ?_
      obtain ⟨q7, hq8, hM⟩ := qbd hM
      refine x_calli F hK hN hA w (c_O_keepsBounds l D ad cI hq8) qk_624 qk_625 qk_626 qk_6 qk_627 qv_O_keepsBounds rfl rfl ⟨Nat.le_trans (by decide) hR.1, Nat.le_trans (by decide) hR.2⟩ (ci := 3) rfl (j := 4) rfl hl.1 rfl (Nat.le_of_ble_eq_true rfl) qd_X_good_31 (fun H locs w => ?_)
      refine lv_istore_n (lv' := [(2, .int (qB q7.1)), (0, .ref (ad 0)), (1, .int a1)]) F.1 F.2.1 qd_X_good_34 rfl hl (by decide) rfl (fun ls hl => ?_)
      refine lv_aload_n F.1 F.2.1 qd_X_good_35 rfl (lv_at hl 1 rfl) ?_
      refine xg_X_types F hK w qk_168 qd_X_good_36 ?_
      refine lv_aload_n F.1 F.2.1 qd_X_good_39 rfl (lv_at hl 1 rfl) ?_
      refine xg_X_types F hK w qk_168 qd_X_good_40 ?_
      refine xg_T_kept F hK w qk_88 qd_X_good_43 ?_
      obtain ⟨q9, hq10, hM⟩ := qbd hM
      refine x_callv F hK hN hA w (c_T_dropTo l D ad cI hq10) qk_542 qk_354 qk_355 qk_3 qk_356 qv_T_dropTo rfl rfl ⟨Nat.le_trans (by decide) hR.1, Nat.le_trans (by decide) hR.2⟩ (ci := 1) rfl (j := 2) rfl hl.1 rfl (Nat.le_of_ble_eq_true rfl) qd_X_good_46 (fun H locs w => ?_)
      refine lv_iload_n F.1 F.2.1 qd_X_good_49 rfl (lv_at hl 0 rfl) ?_
      refine lv_if_eq (tgt := 57) F.1 F.2.1 qd_X_good_50 (by decide) (fun hc11 => ?_) (fun hc11 => ?_)
      · rw [if_pos hc11] at hM
        refine lv_iconst (v := 0) F.1 F.2.1 qd_X_good_57 (by decide) ?_
        cases hM
        exact hQ _ _ _ _ qd_X_good_58 w
      · rw [if_neg hc11] at hM
        refine lv_iconst (v := 1) F.1 F.2.1 qd_X_good_53 (by decide) ?_
        refine lv_goto (tgt := 58) F.1 F.2.1 qd_X_good_54 (by decide) ?_
        cases hM
        exact hQ _ _ _ _ qd_X_good_58 w
    · rw [if_neg hc6] at hM
      refine lv_bipush (v := (-2)) F.1 F.2.1 qd_X_good_23 (by decide) ?_
      cases hM
      exact hQ _ _ _ _ qd_X_good_25 w
set_option maxRecDepth 100000 in
theorem c_X_good (l : Launch) (D : va_G) (ad : Nat → Nat) (cI : ClassId) {S : (Nat → Nat → Int32)} {a1 : Int32} {res : (Int32 × (Nat → Nat → Int32))} (hM : f_X_good S a1 = some res) : xMi l qy_X_good qb_X_good 3 (some .int) { frames := 327, cells := 0, slots := 0, locals := 8070 } D ad cI S [.ref (ad 0), .int a1] res.1 res.2 := x_ofi (by decide +kernel) (Nat.le_of_ble_eq_true rfl) (fun p e s m args below meth c Q A ls F hK hN hA w hl hQ => t_X_good F ⟨Nat.le_refl _, Nat.le_refl _⟩ hK hN hA hQ S a1 hM w hl)
