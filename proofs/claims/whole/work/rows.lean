section
-- ===== PART A: goes FIRST, ahead of the names: the tables' words, and 'selects' of the private methods out of them =====
/-- a private method of a class that the tables say can be made, by its rows of tables_1 -/
def lw_okq (q : MethodName × Nat) : Prop := (q.1.cls ≠ "java/lang/invoke/MethodHandle" ∧ q.1.cls ≠ "java/lang/invoke/VarHandle") ∧ Cond.instantiable q.1.cls q.2 ∈ tables_1 ∧ Cond.privateMethod q.1 ∈ tables_1 ∧ Cond.instanceMethod q.1 ∈ tables_1
theorem lw_p0 : lw_okq (⟨"CaptureSubtypes$Classes", "write", "(III)V"⟩, 10) := ⟨⟨by decide +kernel, by decide +kernel⟩, List.mem_of_getElem? (i := 18) (by decide +kernel), List.mem_of_getElem? (i := 28) (by decide +kernel), List.mem_of_getElem? (i := 29) (by decide +kernel)⟩
theorem lw_p1 : lw_okq (⟨"CaptureSubtypes$Classes", "reckon", "()V"⟩, 10) := ⟨⟨by decide +kernel, by decide +kernel⟩, List.mem_of_getElem? (i := 18) (by decide +kernel), List.mem_of_getElem? (i := 198) (by decide +kernel), List.mem_of_getElem? (i := 199) (by decide +kernel)⟩
theorem lw_p2 : lw_okq (⟨"CaptureSubtypes$Classes", "reckonAbove", "()V"⟩, 10) := ⟨⟨by decide +kernel, by decide +kernel⟩, List.mem_of_getElem? (i := 18) (by decide +kernel), List.mem_of_getElem? (i := 202) (by decide +kernel), List.mem_of_getElem? (i := 203) (by decide +kernel)⟩
theorem lw_p3 : lw_okq (⟨"CaptureSubtypes$Classes", "reckonApart", "()V"⟩, 10) := ⟨⟨by decide +kernel, by decide +kernel⟩, List.mem_of_getElem? (i := 18) (by decide +kernel), List.mem_of_getElem? (i := 210) (by decide +kernel), List.mem_of_getElem? (i := 211) (by decide +kernel)⟩
theorem lw_p4 : lw_okq (⟨"CaptureSubtypes$Classes", "mustBeApart", "(II)Z"⟩, 10) := ⟨⟨by decide +kernel, by decide +kernel⟩, List.mem_of_getElem? (i := 18) (by decide +kernel), List.mem_of_getElem? (i := 214) (by decide +kernel), List.mem_of_getElem? (i := 215) (by decide +kernel)⟩
theorem lw_p5 : lw_okq (⟨"CaptureSubtypes$Classes", "isSealed", "(I)Z"⟩, 10) := ⟨⟨by decide +kernel, by decide +kernel⟩, List.mem_of_getElem? (i := 18) (by decide +kernel), List.mem_of_getElem? (i := 230) (by decide +kernel), List.mem_of_getElem? (i := 231) (by decide +kernel)⟩
theorem lw_p6 : lw_okq (⟨"CaptureSubtypes$Classes", "heirsApartFrom", "(II)Z"⟩, 10) := ⟨⟨by decide +kernel, by decide +kernel⟩, List.mem_of_getElem? (i := 18) (by decide +kernel), List.mem_of_getElem? (i := 234) (by decide +kernel), List.mem_of_getElem? (i := 235) (by decide +kernel)⟩
theorem lw_p7 : lw_okq (⟨"CaptureSubtypes$Classes", "isHeir", "(II)Z"⟩, 10) := ⟨⟨by decide +kernel, by decide +kernel⟩, List.mem_of_getElem? (i := 18) (by decide +kernel), List.mem_of_getElem? (i := 238) (by decide +kernel), List.mem_of_getElem? (i := 239) (by decide +kernel)⟩
theorem lw_p8 : lw_okq (⟨"CaptureSubtypes$Classes", "apartFromHeirs", "(II)Z"⟩, 10) := ⟨⟨by decide +kernel, by decide +kernel⟩, List.mem_of_getElem? (i := 18) (by decide +kernel), List.mem_of_getElem? (i := 246) (by decide +kernel), List.mem_of_getElem? (i := 247) (by decide +kernel)⟩
theorem lw_p9 : lw_okq (⟨"CaptureSubtypes", "mayBeSuper", "(II)Z"⟩, 5) := ⟨⟨by decide +kernel, by decide +kernel⟩, List.mem_of_getElem? (i := 10) (by decide +kernel), List.mem_of_getElem? (i := 254) (by decide +kernel), List.mem_of_getElem? (i := 255) (by decide +kernel)⟩
theorem lw_p10 : lw_okq (⟨"CaptureSubtypes$Shapes", "clashesAt", "(II)Z"⟩, 2) := ⟨⟨by decide +kernel, by decide +kernel⟩, List.mem_of_getElem? (i := 120) (by decide +kernel), List.mem_of_getElem? (i := 302) (by decide +kernel), List.mem_of_getElem? (i := 303) (by decide +kernel)⟩
theorem lw_p11 : lw_okq (⟨"CaptureSubtypes$Shapes", "nameAlone", "(I)I"⟩, 2) := ⟨⟨by decide +kernel, by decide +kernel⟩, List.mem_of_getElem? (i := 120) (by decide +kernel), List.mem_of_getElem? (i := 324) (by decide +kernel), List.mem_of_getElem? (i := 325) (by decide +kernel)⟩
theorem lw_p12 : lw_okq (⟨"CaptureSubtypes$Shapes", "putIn", "(III)I"⟩, 2) := ⟨⟨by decide +kernel, by decide +kernel⟩, List.mem_of_getElem? (i := 120) (by decide +kernel), List.mem_of_getElem? (i := 334) (by decide +kernel), List.mem_of_getElem? (i := 335) (by decide +kernel)⟩
theorem lw_p13 : lw_okq (⟨"CaptureSubtypes", "mayBeBound", "(III)Z"⟩, 5) := ⟨⟨by decide +kernel, by decide +kernel⟩, List.mem_of_getElem? (i := 10) (by decide +kernel), List.mem_of_getElem? (i := 370) (by decide +kernel), List.mem_of_getElem? (i := 371) (by decide +kernel)⟩
theorem lw_p14 : lw_okq (⟨"CaptureSubtypes$Order", "isOne", "(III)Z"⟩, 3) := ⟨⟨by decide +kernel, by decide +kernel⟩, List.mem_of_getElem? (i := 133) (by decide +kernel), List.mem_of_getElem? (i := 459) (by decide +kernel), List.mem_of_getElem? (i := 460) (by decide +kernel)⟩
theorem lw_p15 : lw_okq (⟨"CaptureSubtypes$Order", "isByParts", "(III)Z"⟩, 3) := ⟨⟨by decide +kernel, by decide +kernel⟩, List.mem_of_getElem? (i := 133) (by decide +kernel), List.mem_of_getElem? (i := 464) (by decide +kernel), List.mem_of_getElem? (i := 465) (by decide +kernel)⟩
def lw_privs_1 : List (MethodName × Nat) := [(⟨"CaptureSubtypes$Classes", "write", "(III)V"⟩, 10), (⟨"CaptureSubtypes$Classes", "reckon", "()V"⟩, 10), (⟨"CaptureSubtypes$Classes", "reckonAbove", "()V"⟩, 10), (⟨"CaptureSubtypes$Classes", "reckonApart", "()V"⟩, 10), (⟨"CaptureSubtypes$Classes", "mustBeApart", "(II)Z"⟩, 10), (⟨"CaptureSubtypes$Classes", "isSealed", "(I)Z"⟩, 10), (⟨"CaptureSubtypes$Classes", "heirsApartFrom", "(II)Z"⟩, 10), (⟨"CaptureSubtypes$Classes", "isHeir", "(II)Z"⟩, 10), (⟨"CaptureSubtypes$Classes", "apartFromHeirs", "(II)Z"⟩, 10), (⟨"CaptureSubtypes", "mayBeSuper", "(II)Z"⟩, 5), (⟨"CaptureSubtypes$Shapes", "clashesAt", "(II)Z"⟩, 2), (⟨"CaptureSubtypes$Shapes", "nameAlone", "(I)I"⟩, 2), (⟨"CaptureSubtypes$Shapes", "putIn", "(III)I"⟩, 2), (⟨"CaptureSubtypes", "mayBeBound", "(III)Z"⟩, 5), (⟨"CaptureSubtypes$Order", "isOne", "(III)Z"⟩, 3), (⟨"CaptureSubtypes$Order", "isByParts", "(III)Z"⟩, 3)]
theorem lw_r1 : ∀ q ∈ lw_privs_1, lw_okq q := List.forall_mem_cons.mpr ⟨lw_p0, List.forall_mem_cons.mpr ⟨lw_p1, List.forall_mem_cons.mpr ⟨lw_p2, List.forall_mem_cons.mpr ⟨lw_p3, List.forall_mem_cons.mpr ⟨lw_p4, List.forall_mem_cons.mpr ⟨lw_p5, List.forall_mem_cons.mpr ⟨lw_p6, List.forall_mem_cons.mpr ⟨lw_p7, List.forall_mem_cons.mpr ⟨lw_p8, List.forall_mem_cons.mpr ⟨lw_p9, List.forall_mem_cons.mpr ⟨lw_p10, List.forall_mem_cons.mpr ⟨lw_p11, List.forall_mem_cons.mpr ⟨lw_p12, List.forall_mem_cons.mpr ⟨lw_p13, List.forall_mem_cons.mpr ⟨lw_p14, List.forall_mem_cons.mpr ⟨lw_p15, fun _ h => absurd h List.not_mem_nil⟩⟩⟩⟩⟩⟩⟩⟩⟩⟩⟩⟩⟩⟩⟩⟩
theorem lw_p16 : lw_okq (⟨"CaptureSubtypes$Order", "someBoundIs", "(III)Z"⟩, 3) := ⟨⟨by decide +kernel, by decide +kernel⟩, List.mem_of_getElem? (i := 133) (by decide +kernel), List.mem_of_getElem? (i := 472) (by decide +kernel), List.mem_of_getElem? (i := 473) (by decide +kernel)⟩
theorem lw_p17 : lw_okq (⟨"CaptureSubtypes$Order", "isByClass", "(III)Z"⟩, 3) := ⟨⟨by decide +kernel, by decide +kernel⟩, List.mem_of_getElem? (i := 133) (by decide +kernel), List.mem_of_getElem? (i := 502) (by decide +kernel), List.mem_of_getElem? (i := 503) (by decide +kernel)⟩
theorem lw_p18 : lw_okq (⟨"CaptureSubtypes$Order", "isIn", "(III)Z"⟩, 3) := ⟨⟨by decide +kernel, by decide +kernel⟩, List.mem_of_getElem? (i := 133) (by decide +kernel), List.mem_of_getElem? (i := 528) (by decide +kernel), List.mem_of_getElem? (i := 529) (by decide +kernel)⟩
theorem lw_p19 : lw_okq (⟨"CaptureSubtypes$Order", "isUnchecked", "(III)Z"⟩, 3) := ⟨⟨by decide +kernel, by decide +kernel⟩, List.mem_of_getElem? (i := 133) (by decide +kernel), List.mem_of_getElem? (i := 534) (by decide +kernel), List.mem_of_getElem? (i := 535) (by decide +kernel)⟩
theorem lw_p20 : lw_okq (⟨"CaptureSubtypes$Order", "someBoundIsUnchecked", "(III)Z"⟩, 3) := ⟨⟨by decide +kernel, by decide +kernel⟩, List.mem_of_getElem? (i := 133) (by decide +kernel), List.mem_of_getElem? (i := 538) (by decide +kernel), List.mem_of_getElem? (i := 539) (by decide +kernel)⟩
theorem lw_p21 : lw_okq (⟨"CaptureSubtypes$Turning", "mayTurn", "(III)Z"⟩, 4) := ⟨⟨by decide +kernel, by decide +kernel⟩, List.mem_of_getElem? (i := 149) (by decide +kernel), List.mem_of_getElem? (i := 548) (by decide +kernel), List.mem_of_getElem? (i := 549) (by decide +kernel)⟩
theorem lw_p22 : lw_okq (⟨"CaptureSubtypes$Turning", "mayFromBounds", "(III)Z"⟩, 4) := ⟨⟨by decide +kernel, by decide +kernel⟩, List.mem_of_getElem? (i := 149) (by decide +kernel), List.mem_of_getElem? (i := 554) (by decide +kernel), List.mem_of_getElem? (i := 555) (by decide +kernel)⟩
theorem lw_p23 : lw_okq (⟨"CaptureSubtypes$Turning", "mayIntoBounds", "(III)Z"⟩, 4) := ⟨⟨by decide +kernel, by decide +kernel⟩, List.mem_of_getElem? (i := 149) (by decide +kernel), List.mem_of_getElem? (i := 561) (by decide +kernel), List.mem_of_getElem? (i := 562) (by decide +kernel)⟩
theorem lw_p24 : lw_okq (⟨"CaptureSubtypes$Turning", "mayByClass", "(II)Z"⟩, 4) := ⟨⟨by decide +kernel, by decide +kernel⟩, List.mem_of_getElem? (i := 149) (by decide +kernel), List.mem_of_getElem? (i := 568) (by decide +kernel), List.mem_of_getElem? (i := 569) (by decide +kernel)⟩
theorem lw_p25 : lw_okq (⟨"CaptureSubtypes$Turning", "differ", "(III)Z"⟩, 4) := ⟨⟨by decide +kernel, by decide +kernel⟩, List.mem_of_getElem? (i := 149) (by decide +kernel), List.mem_of_getElem? (i := 578) (by decide +kernel), List.mem_of_getElem? (i := 579) (by decide +kernel)⟩
theorem lw_p26 : lw_okq (⟨"CaptureSubtypes$Turning", "facetCount", "(I)I"⟩, 4) := ⟨⟨by decide +kernel, by decide +kernel⟩, List.mem_of_getElem? (i := 149) (by decide +kernel), List.mem_of_getElem? (i := 583) (by decide +kernel), List.mem_of_getElem? (i := 584) (by decide +kernel)⟩
theorem lw_p27 : lw_okq (⟨"CaptureSubtypes$Turning", "facet", "(II)I"⟩, 4) := ⟨⟨by decide +kernel, by decide +kernel⟩, List.mem_of_getElem? (i := 149) (by decide +kernel), List.mem_of_getElem? (i := 587) (by decide +kernel), List.mem_of_getElem? (i := 588) (by decide +kernel)⟩
theorem lw_p28 : lw_okq (⟨"CaptureSubtypes$Shapes", "erasure", "(II)I"⟩, 2) := ⟨⟨by decide +kernel, by decide +kernel⟩, List.mem_of_getElem? (i := 120) (by decide +kernel), List.mem_of_getElem? (i := 591) (by decide +kernel), List.mem_of_getElem? (i := 592) (by decide +kernel)⟩
theorem lw_p29 : lw_okq (⟨"CaptureSubtypes", "settle", "(I)I"⟩, 5) := ⟨⟨by decide +kernel, by decide +kernel⟩, List.mem_of_getElem? (i := 10) (by decide +kernel), List.mem_of_getElem? (i := 605) (by decide +kernel), List.mem_of_getElem? (i := 606) (by decide +kernel)⟩
theorem lw_p30 : lw_okq (⟨"CaptureSubtypes$Order", "keepsBoundsAt", "(II)Z"⟩, 3) := ⟨⟨by decide +kernel, by decide +kernel⟩, List.mem_of_getElem? (i := 133) (by decide +kernel), List.mem_of_getElem? (i := 624) (by decide +kernel), List.mem_of_getElem? (i := 625) (by decide +kernel)⟩
theorem lw_p31 : lw_okq (⟨"CaptureSubtypesModel", "begin", "()V"⟩, 32) := ⟨⟨by decide +kernel, by decide +kernel⟩, List.mem_of_getElem? (i := 631) (by decide +kernel), List.mem_of_getElem? (i := 637) (by decide +kernel), List.mem_of_getElem? (i := 638) (by decide +kernel)⟩
def lw_privs_2 : List (MethodName × Nat) := [(⟨"CaptureSubtypes$Order", "someBoundIs", "(III)Z"⟩, 3), (⟨"CaptureSubtypes$Order", "isByClass", "(III)Z"⟩, 3), (⟨"CaptureSubtypes$Order", "isIn", "(III)Z"⟩, 3), (⟨"CaptureSubtypes$Order", "isUnchecked", "(III)Z"⟩, 3), (⟨"CaptureSubtypes$Order", "someBoundIsUnchecked", "(III)Z"⟩, 3), (⟨"CaptureSubtypes$Turning", "mayTurn", "(III)Z"⟩, 4), (⟨"CaptureSubtypes$Turning", "mayFromBounds", "(III)Z"⟩, 4), (⟨"CaptureSubtypes$Turning", "mayIntoBounds", "(III)Z"⟩, 4), (⟨"CaptureSubtypes$Turning", "mayByClass", "(II)Z"⟩, 4), (⟨"CaptureSubtypes$Turning", "differ", "(III)Z"⟩, 4), (⟨"CaptureSubtypes$Turning", "facetCount", "(I)I"⟩, 4), (⟨"CaptureSubtypes$Turning", "facet", "(II)I"⟩, 4), (⟨"CaptureSubtypes$Shapes", "erasure", "(II)I"⟩, 2), (⟨"CaptureSubtypes", "settle", "(I)I"⟩, 5), (⟨"CaptureSubtypes$Order", "keepsBoundsAt", "(II)Z"⟩, 3), (⟨"CaptureSubtypesModel", "begin", "()V"⟩, 32)]
theorem lw_r2 : ∀ q ∈ lw_privs_2, lw_okq q := List.forall_mem_cons.mpr ⟨lw_p16, List.forall_mem_cons.mpr ⟨lw_p17, List.forall_mem_cons.mpr ⟨lw_p18, List.forall_mem_cons.mpr ⟨lw_p19, List.forall_mem_cons.mpr ⟨lw_p20, List.forall_mem_cons.mpr ⟨lw_p21, List.forall_mem_cons.mpr ⟨lw_p22, List.forall_mem_cons.mpr ⟨lw_p23, List.forall_mem_cons.mpr ⟨lw_p24, List.forall_mem_cons.mpr ⟨lw_p25, List.forall_mem_cons.mpr ⟨lw_p26, List.forall_mem_cons.mpr ⟨lw_p27, List.forall_mem_cons.mpr ⟨lw_p28, List.forall_mem_cons.mpr ⟨lw_p29, List.forall_mem_cons.mpr ⟨lw_p30, List.forall_mem_cons.mpr ⟨lw_p31, fun _ h => absurd h List.not_mem_nil⟩⟩⟩⟩⟩⟩⟩⟩⟩⟩⟩⟩⟩⟩⟩⟩
theorem lw_p32 : lw_okq (⟨"CaptureSubtypesModel", "put", "(IIIIII)V"⟩, 32) := ⟨⟨by decide +kernel, by decide +kernel⟩, List.mem_of_getElem? (i := 631) (by decide +kernel), List.mem_of_getElem? (i := 641) (by decide +kernel), List.mem_of_getElem? (i := 642) (by decide +kernel)⟩
theorem lw_p33 : lw_okq (⟨"CaptureSubtypesModel", "fresh", "()V"⟩, 32) := ⟨⟨by decide +kernel, by decide +kernel⟩, List.mem_of_getElem? (i := 631) (by decide +kernel), List.mem_of_getElem? (i := 645) (by decide +kernel), List.mem_of_getElem? (i := 646) (by decide +kernel)⟩
theorem lw_p34 : lw_okq (⟨"CaptureSubtypesModel", "isClass", "(I)Z"⟩, 32) := ⟨⟨by decide +kernel, by decide +kernel⟩, List.mem_of_getElem? (i := 631) (by decide +kernel), List.mem_of_getElem? (i := 762) (by decide +kernel), List.mem_of_getElem? (i := 763) (by decide +kernel)⟩
theorem lw_p35 : lw_okq (⟨"CaptureSubtypesModel", "enter", "(IIIII)I"⟩, 32) := ⟨⟨by decide +kernel, by decide +kernel⟩, List.mem_of_getElem? (i := 631) (by decide +kernel), List.mem_of_getElem? (i := 766) (by decide +kernel), List.mem_of_getElem? (i := 767) (by decide +kernel)⟩
theorem lw_p36 : lw_okq (⟨"CaptureSubtypesModel", "find", "(IIII)I"⟩, 32) := ⟨⟨by decide +kernel, by decide +kernel⟩, List.mem_of_getElem? (i := 631) (by decide +kernel), List.mem_of_getElem? (i := 770) (by decide +kernel), List.mem_of_getElem? (i := 771) (by decide +kernel)⟩
theorem lw_p37 : lw_okq (⟨"CaptureSubtypesModel", "isLike", "(IIIII)Z"⟩, 32) := ⟨⟨by decide +kernel, by decide +kernel⟩, List.mem_of_getElem? (i := 631) (by decide +kernel), List.mem_of_getElem? (i := 774) (by decide +kernel), List.mem_of_getElem? (i := 775) (by decide +kernel)⟩
theorem lw_p38 : lw_okq (⟨"CaptureSubtypesModel", "isArgument", "(I)Z"⟩, 32) := ⟨⟨by decide +kernel, by decide +kernel⟩, List.mem_of_getElem? (i := 631) (by decide +kernel), List.mem_of_getElem? (i := 782) (by decide +kernel), List.mem_of_getElem? (i := 783) (by decide +kernel)⟩
theorem lw_p39 : lw_okq (⟨"CaptureSubtypesModel", "isType", "(I)Z"⟩, 32) := ⟨⟨by decide +kernel, by decide +kernel⟩, List.mem_of_getElem? (i := 631) (by decide +kernel), List.mem_of_getElem? (i := 786) (by decide +kernel), List.mem_of_getElem? (i := 787) (by decide +kernel)⟩
theorem lw_p40 : lw_okq (⟨"CaptureSubtypesModel", "order", "()V"⟩, 32) := ⟨⟨by decide +kernel, by decide +kernel⟩, List.mem_of_getElem? (i := 631) (by decide +kernel), List.mem_of_getElem? (i := 814) (by decide +kernel), List.mem_of_getElem? (i := 815) (by decide +kernel)⟩
theorem lw_p41 : lw_okq (⟨"CaptureSubtypesModel", "superCount", "(I)I"⟩, 32) := ⟨⟨by decide +kernel, by decide +kernel⟩, List.mem_of_getElem? (i := 631) (by decide +kernel), List.mem_of_getElem? (i := 818) (by decide +kernel), List.mem_of_getElem? (i := 819) (by decide +kernel)⟩
theorem lw_p42 : lw_okq (⟨"CaptureSubtypesModel", "superOf", "(II)I"⟩, 32) := ⟨⟨by decide +kernel, by decide +kernel⟩, List.mem_of_getElem? (i := 631) (by decide +kernel), List.mem_of_getElem? (i := 822) (by decide +kernel), List.mem_of_getElem? (i := 823) (by decide +kernel)⟩
theorem lw_p43 : lw_okq (⟨"CaptureSubtypesModel", "isHeir", "(II)Z"⟩, 32) := ⟨⟨by decide +kernel, by decide +kernel⟩, List.mem_of_getElem? (i := 631) (by decide +kernel), List.mem_of_getElem? (i := 826) (by decide +kernel), List.mem_of_getElem? (i := 827) (by decide +kernel)⟩
theorem lw_p44 : lw_okq (⟨"CaptureSubtypesModel", "part", "()V"⟩, 32) := ⟨⟨by decide +kernel, by decide +kernel⟩, List.mem_of_getElem? (i := 631) (by decide +kernel), List.mem_of_getElem? (i := 838) (by decide +kernel), List.mem_of_getElem? (i := 839) (by decide +kernel)⟩
theorem lw_p45 : lw_okq (⟨"CaptureSubtypesModel", "isSealed", "(I)Z"⟩, 32) := ⟨⟨by decide +kernel, by decide +kernel⟩, List.mem_of_getElem? (i := 631) (by decide +kernel), List.mem_of_getElem? (i := 842) (by decide +kernel), List.mem_of_getElem? (i := 843) (by decide +kernel)⟩
theorem lw_p46 : lw_okq (⟨"CaptureSubtypesModel", "areHeirsApart", "(IIZ)Z"⟩, 32) := ⟨⟨by decide +kernel, by decide +kernel⟩, List.mem_of_getElem? (i := 631) (by decide +kernel), List.mem_of_getElem? (i := 846) (by decide +kernel), List.mem_of_getElem? (i := 847) (by decide +kernel)⟩
theorem lw_p47 : lw_okq (⟨"CaptureSubtypesModel", "isAsked", "(I)Z"⟩, 32) := ⟨⟨by decide +kernel, by decide +kernel⟩, List.mem_of_getElem? (i := 631) (by decide +kernel), List.mem_of_getElem? (i := 854) (by decide +kernel), List.mem_of_getElem? (i := 855) (by decide +kernel)⟩
def lw_privs_3 : List (MethodName × Nat) := [(⟨"CaptureSubtypesModel", "put", "(IIIIII)V"⟩, 32), (⟨"CaptureSubtypesModel", "fresh", "()V"⟩, 32), (⟨"CaptureSubtypesModel", "isClass", "(I)Z"⟩, 32), (⟨"CaptureSubtypesModel", "enter", "(IIIII)I"⟩, 32), (⟨"CaptureSubtypesModel", "find", "(IIII)I"⟩, 32), (⟨"CaptureSubtypesModel", "isLike", "(IIIII)Z"⟩, 32), (⟨"CaptureSubtypesModel", "isArgument", "(I)Z"⟩, 32), (⟨"CaptureSubtypesModel", "isType", "(I)Z"⟩, 32), (⟨"CaptureSubtypesModel", "order", "()V"⟩, 32), (⟨"CaptureSubtypesModel", "superCount", "(I)I"⟩, 32), (⟨"CaptureSubtypesModel", "superOf", "(II)I"⟩, 32), (⟨"CaptureSubtypesModel", "isHeir", "(II)Z"⟩, 32), (⟨"CaptureSubtypesModel", "part", "()V"⟩, 32), (⟨"CaptureSubtypesModel", "isSealed", "(I)Z"⟩, 32), (⟨"CaptureSubtypesModel", "areHeirsApart", "(IIZ)Z"⟩, 32), (⟨"CaptureSubtypesModel", "isAsked", "(I)Z"⟩, 32)]
theorem lw_r3 : ∀ q ∈ lw_privs_3, lw_okq q := List.forall_mem_cons.mpr ⟨lw_p32, List.forall_mem_cons.mpr ⟨lw_p33, List.forall_mem_cons.mpr ⟨lw_p34, List.forall_mem_cons.mpr ⟨lw_p35, List.forall_mem_cons.mpr ⟨lw_p36, List.forall_mem_cons.mpr ⟨lw_p37, List.forall_mem_cons.mpr ⟨lw_p38, List.forall_mem_cons.mpr ⟨lw_p39, List.forall_mem_cons.mpr ⟨lw_p40, List.forall_mem_cons.mpr ⟨lw_p41, List.forall_mem_cons.mpr ⟨lw_p42, List.forall_mem_cons.mpr ⟨lw_p43, List.forall_mem_cons.mpr ⟨lw_p44, List.forall_mem_cons.mpr ⟨lw_p45, List.forall_mem_cons.mpr ⟨lw_p46, List.forall_mem_cons.mpr ⟨lw_p47, fun _ h => absurd h List.not_mem_nil⟩⟩⟩⟩⟩⟩⟩⟩⟩⟩⟩⟩⟩⟩⟩⟩
theorem lw_p48 : lw_okq (⟨"CaptureSubtypesModel", "isA", "(II)Z"⟩, 32) := ⟨⟨by decide +kernel, by decide +kernel⟩, List.mem_of_getElem? (i := 631) (by decide +kernel), List.mem_of_getElem? (i := 858) (by decide +kernel), List.mem_of_getElem? (i := 859) (by decide +kernel)⟩
theorem lw_p49 : lw_okq (⟨"CaptureSubtypesModel", "ask", "(II)V"⟩, 32) := ⟨⟨by decide +kernel, by decide +kernel⟩, List.mem_of_getElem? (i := 631) (by decide +kernel), List.mem_of_getElem? (i := 862) (by decide +kernel), List.mem_of_getElem? (i := 863) (by decide +kernel)⟩
theorem lw_p50 : lw_okq (⟨"CaptureSubtypesModel", "step", "(II)I"⟩, 32) := ⟨⟨by decide +kernel, by decide +kernel⟩, List.mem_of_getElem? (i := 631) (by decide +kernel), List.mem_of_getElem? (i := 866) (by decide +kernel), List.mem_of_getElem? (i := 867) (by decide +kernel)⟩
theorem lw_p51 : lw_okq (⟨"CaptureSubtypesModel", "stepBounds", "(IIII)I"⟩, 32) := ⟨⟨by decide +kernel, by decide +kernel⟩, List.mem_of_getElem? (i := 631) (by decide +kernel), List.mem_of_getElem? (i := 870) (by decide +kernel), List.mem_of_getElem? (i := 871) (by decide +kernel)⟩
theorem lw_p52 : lw_okq (⟨"CaptureSubtypesModel", "boundCount", "(I)I"⟩, 32) := ⟨⟨by decide +kernel, by decide +kernel⟩, List.mem_of_getElem? (i := 631) (by decide +kernel), List.mem_of_getElem? (i := 874) (by decide +kernel), List.mem_of_getElem? (i := 875) (by decide +kernel)⟩
theorem lw_p53 : lw_okq (⟨"CaptureSubtypesModel", "boundOf", "(II)I"⟩, 32) := ⟨⟨by decide +kernel, by decide +kernel⟩, List.mem_of_getElem? (i := 631) (by decide +kernel), List.mem_of_getElem? (i := 878) (by decide +kernel), List.mem_of_getElem? (i := 879) (by decide +kernel)⟩
theorem lw_p54 : lw_okq (⟨"CaptureSubtypesModel", "stepLow", "(IIII)I"⟩, 32) := ⟨⟨by decide +kernel, by decide +kernel⟩, List.mem_of_getElem? (i := 631) (by decide +kernel), List.mem_of_getElem? (i := 882) (by decide +kernel), List.mem_of_getElem? (i := 883) (by decide +kernel)⟩
theorem lw_p55 : lw_okq (⟨"CaptureSubtypesModel", "lowOf", "(I)I"⟩, 32) := ⟨⟨by decide +kernel, by decide +kernel⟩, List.mem_of_getElem? (i := 631) (by decide +kernel), List.mem_of_getElem? (i := 886) (by decide +kernel), List.mem_of_getElem? (i := 887) (by decide +kernel)⟩
theorem lw_p56 : lw_okq (⟨"CaptureSubtypesModel", "stepParts", "(IIII)I"⟩, 32) := ⟨⟨by decide +kernel, by decide +kernel⟩, List.mem_of_getElem? (i := 631) (by decide +kernel), List.mem_of_getElem? (i := 890) (by decide +kernel), List.mem_of_getElem? (i := 891) (by decide +kernel)⟩
theorem lw_p57 : lw_okq (⟨"CaptureSubtypesModel", "isOfClass", "(I)Z"⟩, 32) := ⟨⟨by decide +kernel, by decide +kernel⟩, List.mem_of_getElem? (i := 631) (by decide +kernel), List.mem_of_getElem? (i := 894) (by decide +kernel), List.mem_of_getElem? (i := 895) (by decide +kernel)⟩
theorem lw_p58 : lw_okq (⟨"CaptureSubtypesModel", "asClass", "(II)I"⟩, 32) := ⟨⟨by decide +kernel, by decide +kernel⟩, List.mem_of_getElem? (i := 631) (by decide +kernel), List.mem_of_getElem? (i := 898) (by decide +kernel), List.mem_of_getElem? (i := 899) (by decide +kernel)⟩
theorem lw_p59 : lw_okq (⟨"CaptureSubtypesModel", "catchIt", "(I)I"⟩, 32) := ⟨⟨by decide +kernel, by decide +kernel⟩, List.mem_of_getElem? (i := 631) (by decide +kernel), List.mem_of_getElem? (i := 902) (by decide +kernel), List.mem_of_getElem? (i := 903) (by decide +kernel)⟩
theorem lw_p60 : lw_okq (⟨"CaptureSubtypesModel", "hasWild", "(I)Z"⟩, 32) := ⟨⟨by decide +kernel, by decide +kernel⟩, List.mem_of_getElem? (i := 631) (by decide +kernel), List.mem_of_getElem? (i := 906) (by decide +kernel), List.mem_of_getElem? (i := 907) (by decide +kernel)⟩
theorem lw_p61 : lw_okq (⟨"CaptureSubtypesModel", "come", "(IIII)I"⟩, 32) := ⟨⟨by decide +kernel, by decide +kernel⟩, List.mem_of_getElem? (i := 631) (by decide +kernel), List.mem_of_getElem? (i := 910) (by decide +kernel), List.mem_of_getElem? (i := 911) (by decide +kernel)⟩
theorem lw_p62 : lw_okq (⟨"CaptureSubtypesModel", "replace", "(IIII)I"⟩, 32) := ⟨⟨by decide +kernel, by decide +kernel⟩, List.mem_of_getElem? (i := 631) (by decide +kernel), List.mem_of_getElem? (i := 914) (by decide +kernel), List.mem_of_getElem? (i := 915) (by decide +kernel)⟩
theorem lw_p63 : lw_okq (⟨"CaptureSubtypesModel", "hasFirst", "(I)Z"⟩, 32) := ⟨⟨by decide +kernel, by decide +kernel⟩, List.mem_of_getElem? (i := 631) (by decide +kernel), List.mem_of_getElem? (i := 918) (by decide +kernel), List.mem_of_getElem? (i := 919) (by decide +kernel)⟩
def lw_privs_4 : List (MethodName × Nat) := [(⟨"CaptureSubtypesModel", "isA", "(II)Z"⟩, 32), (⟨"CaptureSubtypesModel", "ask", "(II)V"⟩, 32), (⟨"CaptureSubtypesModel", "step", "(II)I"⟩, 32), (⟨"CaptureSubtypesModel", "stepBounds", "(IIII)I"⟩, 32), (⟨"CaptureSubtypesModel", "boundCount", "(I)I"⟩, 32), (⟨"CaptureSubtypesModel", "boundOf", "(II)I"⟩, 32), (⟨"CaptureSubtypesModel", "stepLow", "(IIII)I"⟩, 32), (⟨"CaptureSubtypesModel", "lowOf", "(I)I"⟩, 32), (⟨"CaptureSubtypesModel", "stepParts", "(IIII)I"⟩, 32), (⟨"CaptureSubtypesModel", "isOfClass", "(I)Z"⟩, 32), (⟨"CaptureSubtypesModel", "asClass", "(II)I"⟩, 32), (⟨"CaptureSubtypesModel", "catchIt", "(I)I"⟩, 32), (⟨"CaptureSubtypesModel", "hasWild", "(I)Z"⟩, 32), (⟨"CaptureSubtypesModel", "come", "(IIII)I"⟩, 32), (⟨"CaptureSubtypesModel", "replace", "(IIII)I"⟩, 32), (⟨"CaptureSubtypesModel", "hasFirst", "(I)Z"⟩, 32)]
theorem lw_r4 : ∀ q ∈ lw_privs_4, lw_okq q := List.forall_mem_cons.mpr ⟨lw_p48, List.forall_mem_cons.mpr ⟨lw_p49, List.forall_mem_cons.mpr ⟨lw_p50, List.forall_mem_cons.mpr ⟨lw_p51, List.forall_mem_cons.mpr ⟨lw_p52, List.forall_mem_cons.mpr ⟨lw_p53, List.forall_mem_cons.mpr ⟨lw_p54, List.forall_mem_cons.mpr ⟨lw_p55, List.forall_mem_cons.mpr ⟨lw_p56, List.forall_mem_cons.mpr ⟨lw_p57, List.forall_mem_cons.mpr ⟨lw_p58, List.forall_mem_cons.mpr ⟨lw_p59, List.forall_mem_cons.mpr ⟨lw_p60, List.forall_mem_cons.mpr ⟨lw_p61, List.forall_mem_cons.mpr ⟨lw_p62, List.forall_mem_cons.mpr ⟨lw_p63, fun _ h => absurd h List.not_mem_nil⟩⟩⟩⟩⟩⟩⟩⟩⟩⟩⟩⟩⟩⟩⟩⟩
theorem lw_p64 : lw_okq (⟨"CaptureSubtypesModel", "superType", "(II)I"⟩, 32) := ⟨⟨by decide +kernel, by decide +kernel⟩, List.mem_of_getElem? (i := 631) (by decide +kernel), List.mem_of_getElem? (i := 922) (by decide +kernel), List.mem_of_getElem? (i := 923) (by decide +kernel)⟩
theorem lw_p65 : lw_okq (⟨"CaptureSubtypesModel", "bare", "(I)I"⟩, 32) := ⟨⟨by decide +kernel, by decide +kernel⟩, List.mem_of_getElem? (i := 631) (by decide +kernel), List.mem_of_getElem? (i := 926) (by decide +kernel), List.mem_of_getElem? (i := 927) (by decide +kernel)⟩
theorem lw_p66 : lw_okq (⟨"CaptureSubtypesModel", "stepArguments", "(III)I"⟩, 32) := ⟨⟨by decide +kernel, by decide +kernel⟩, List.mem_of_getElem? (i := 631) (by decide +kernel), List.mem_of_getElem? (i := 930) (by decide +kernel), List.mem_of_getElem? (i := 931) (by decide +kernel)⟩
theorem lw_p67 : lw_okq (⟨"CaptureSubtypesModel", "isUnchecked", "(II)Z"⟩, 32) := ⟨⟨by decide +kernel, by decide +kernel⟩, List.mem_of_getElem? (i := 631) (by decide +kernel), List.mem_of_getElem? (i := 934) (by decide +kernel), List.mem_of_getElem? (i := 935) (by decide +kernel)⟩
theorem lw_p68 : lw_okq (⟨"CaptureSubtypesModel", "mayClasses", "(II)Z"⟩, 32) := ⟨⟨by decide +kernel, by decide +kernel⟩, List.mem_of_getElem? (i := 631) (by decide +kernel), List.mem_of_getElem? (i := 942) (by decide +kernel), List.mem_of_getElem? (i := 943) (by decide +kernel)⟩
theorem lw_p69 : lw_okq (⟨"CaptureSubtypesModel", "differ", "(II)Z"⟩, 32) := ⟨⟨by decide +kernel, by decide +kernel⟩, List.mem_of_getElem? (i := 631) (by decide +kernel), List.mem_of_getElem? (i := 946) (by decide +kernel), List.mem_of_getElem? (i := 947) (by decide +kernel)⟩
theorem lw_p70 : lw_okq (⟨"CaptureSubtypesModel", "erase", "(I)I"⟩, 32) := ⟨⟨by decide +kernel, by decide +kernel⟩, List.mem_of_getElem? (i := 631) (by decide +kernel), List.mem_of_getElem? (i := 950) (by decide +kernel), List.mem_of_getElem? (i := 951) (by decide +kernel)⟩
theorem lw_p71 : lw_okq (⟨"CaptureSubtypesModel", "thereAs", "(I)I"⟩, 32) := ⟨⟨by decide +kernel, by decide +kernel⟩, List.mem_of_getElem? (i := 631) (by decide +kernel), List.mem_of_getElem? (i := 958) (by decide +kernel), List.mem_of_getElem? (i := 959) (by decide +kernel)⟩
theorem lw_p72 : lw_okq (⟨"CaptureSubtypesModel", "isForeign", "(II)Z"⟩, 32) := ⟨⟨by decide +kernel, by decide +kernel⟩, List.mem_of_getElem? (i := 631) (by decide +kernel), List.mem_of_getElem? (i := 974) (by decide +kernel), List.mem_of_getElem? (i := 975) (by decide +kernel)⟩
theorem lw_p73 : lw_okq (⟨"CaptureSubtypesModel", "areOne", "()Z"⟩, 32) := ⟨⟨by decide +kernel, by decide +kernel⟩, List.mem_of_getElem? (i := 631) (by decide +kernel), List.mem_of_getElem? (i := 978) (by decide +kernel), List.mem_of_getElem? (i := 979) (by decide +kernel)⟩
def lw_privs_5 : List (MethodName × Nat) := [(⟨"CaptureSubtypesModel", "superType", "(II)I"⟩, 32), (⟨"CaptureSubtypesModel", "bare", "(I)I"⟩, 32), (⟨"CaptureSubtypesModel", "stepArguments", "(III)I"⟩, 32), (⟨"CaptureSubtypesModel", "isUnchecked", "(II)Z"⟩, 32), (⟨"CaptureSubtypesModel", "mayClasses", "(II)Z"⟩, 32), (⟨"CaptureSubtypesModel", "differ", "(II)Z"⟩, 32), (⟨"CaptureSubtypesModel", "erase", "(I)I"⟩, 32), (⟨"CaptureSubtypesModel", "thereAs", "(I)I"⟩, 32), (⟨"CaptureSubtypesModel", "isForeign", "(II)Z"⟩, 32), (⟨"CaptureSubtypesModel", "areOne", "()Z"⟩, 32)]
theorem lw_r5 : ∀ q ∈ lw_privs_5, lw_okq q := List.forall_mem_cons.mpr ⟨lw_p64, List.forall_mem_cons.mpr ⟨lw_p65, List.forall_mem_cons.mpr ⟨lw_p66, List.forall_mem_cons.mpr ⟨lw_p67, List.forall_mem_cons.mpr ⟨lw_p68, List.forall_mem_cons.mpr ⟨lw_p69, List.forall_mem_cons.mpr ⟨lw_p70, List.forall_mem_cons.mpr ⟨lw_p71, List.forall_mem_cons.mpr ⟨lw_p72, List.forall_mem_cons.mpr ⟨lw_p73, fun _ h => absurd h List.not_mem_nil⟩⟩⟩⟩⟩⟩⟩⟩⟩⟩
def lw_privs : List (MethodName × Nat) := lw_privs_1 ++ (lw_privs_2 ++ (lw_privs_3 ++ (lw_privs_4 ++ (lw_privs_5))))
def lw_tbl : List Cond := k2_sels lw_privs ++ tables_1
theorem lw_privs_ok : ∀ q ∈ lw_privs, lw_okq q := by
  show ∀ q ∈ lw_privs_1 ++ (lw_privs_2 ++ (lw_privs_3 ++ (lw_privs_4 ++ (lw_privs_5)))), lw_okq q
  exact List.forall_mem_append.mpr ⟨lw_r1, List.forall_mem_append.mpr ⟨lw_r2, List.forall_mem_append.mpr ⟨lw_r3, List.forall_mem_append.mpr ⟨lw_r4, lw_r5⟩⟩⟩⟩
end
section
def qR_K : String := "CaptureSubtypes$Classes"
def qF_K : u_T := fun k => match k with
  | 0 => ("CaptureSubtypes$Classes", "count", "I", false)
  | 1 => ("CaptureSubtypes$Classes", "kinds", "[I", true)
  | 2 => ("CaptureSubtypes$Classes", "parameterCounts", "[I", true)
  | 3 => ("CaptureSubtypes$Classes", "superTypes", "[I", true)
  | 4 => ("CaptureSubtypes$Classes", "superClasses", "[I", true)
  | 5 => ("CaptureSubtypes$Classes", "bounds", "[I", true)
  | 6 => ("CaptureSubtypes$Classes", "boundCounts", "[I", true)
  | 7 => ("CaptureSubtypes$Classes", "parents", "[I", true)
  | 8 => ("CaptureSubtypes$Classes", "above", "[I", true)
  | _ => ("CaptureSubtypes$Classes", "apartFrom", "[I", true)
def qt_K : Nat → FieldType := fun k => match k with
  | 0 => .int
  | 1 => .array .int
  | 2 => .array .int
  | 3 => .array .int
  | 4 => .array .int
  | 5 => .array .int
  | 6 => .array .int
  | 7 => .array .int
  | 8 => .array .int
  | _ => .array .int
theorem qn_K : ∀ a, a < 10 → ∀ b, b < 10 → a ≠ b → (qF_K a).2.1 ≠ (qF_K b).2.1 := by decide +kernel
theorem qt_K_ok : ∀ k, k < 10 → parseFieldDescriptor (qF_K k).2.2.1 = some (qt_K k) := by decide +kernel
def qR_T : String := "CaptureSubtypes$Types"
def qF_T : u_T := fun k => match k with
  | 0 => ("CaptureSubtypes$Types", "kept", "I", false)
  | 1 => ("CaptureSubtypes$Types", "top", "I", false)
  | 2 => ("CaptureSubtypes$Types", "sorts", "[I", true)
  | 3 => ("CaptureSubtypes$Types", "owners", "[I", true)
  | 4 => ("CaptureSubtypes$Types", "firsts", "[I", true)
  | 5 => ("CaptureSubtypes$Types", "seconds", "[I", true)
  | 6 => ("CaptureSubtypes$Types", "depths", "[I", true)
  | 7 => ("CaptureSubtypes$Types", "insides", "[I", true)
  | 8 => ("CaptureSubtypes$Types", "ups", "[I", true)
  | _ => ("CaptureSubtypes$Types", "lows", "[I", true)
def qt_T : Nat → FieldType := fun k => match k with
  | 0 => .int
  | 1 => .int
  | 2 => .array .int
  | 3 => .array .int
  | 4 => .array .int
  | 5 => .array .int
  | 6 => .array .int
  | 7 => .array .int
  | 8 => .array .int
  | _ => .array .int
theorem qn_T : ∀ a, a < 10 → ∀ b, b < 10 → a ≠ b → (qF_T a).2.1 ≠ (qF_T b).2.1 := by decide +kernel
theorem qt_T_ok : ∀ k, k < 10 → parseFieldDescriptor (qF_T k).2.2.1 = some (qt_T k) := by decide +kernel
def qR_S : String := "CaptureSubtypes$Shapes"
def qF_S : u_T := fun k => match k with
  | 0 => ("CaptureSubtypes$Shapes", "classes", "LCaptureSubtypes$Classes;", true)
  | _ => ("CaptureSubtypes$Shapes", "types", "LCaptureSubtypes$Types;", true)
def qt_S : Nat → FieldType := fun k => match k with
  | 0 => .object "CaptureSubtypes$Classes"
  | _ => .object "CaptureSubtypes$Types"
theorem qn_S : ∀ a, a < 2 → ∀ b, b < 2 → a ≠ b → (qF_S a).2.1 ≠ (qF_S b).2.1 := by decide +kernel
theorem qt_S_ok : ∀ k, k < 2 → parseFieldDescriptor (qF_S k).2.2.1 = some (qt_S k) := by decide +kernel
def qR_O : String := "CaptureSubtypes$Order"
def qF_O : u_T := fun k => match k with
  | 0 => ("CaptureSubtypes$Order", "classes", "LCaptureSubtypes$Classes;", true)
  | 1 => ("CaptureSubtypes$Order", "types", "LCaptureSubtypes$Types;", true)
  | _ => ("CaptureSubtypes$Order", "shapes", "LCaptureSubtypes$Shapes;", true)
def qt_O : Nat → FieldType := fun k => match k with
  | 0 => .object "CaptureSubtypes$Classes"
  | 1 => .object "CaptureSubtypes$Types"
  | _ => .object "CaptureSubtypes$Shapes"
theorem qn_O : ∀ a, a < 3 → ∀ b, b < 3 → a ≠ b → (qF_O a).2.1 ≠ (qF_O b).2.1 := by decide +kernel
theorem qt_O_ok : ∀ k, k < 3 → parseFieldDescriptor (qF_O k).2.2.1 = some (qt_O k) := by decide +kernel
def qR_U : String := "CaptureSubtypes$Turning"
def qF_U : u_T := fun k => match k with
  | 0 => ("CaptureSubtypes$Turning", "classes", "LCaptureSubtypes$Classes;", true)
  | 1 => ("CaptureSubtypes$Turning", "types", "LCaptureSubtypes$Types;", true)
  | 2 => ("CaptureSubtypes$Turning", "shapes", "LCaptureSubtypes$Shapes;", true)
  | _ => ("CaptureSubtypes$Turning", "order", "LCaptureSubtypes$Order;", true)
def qt_U : Nat → FieldType := fun k => match k with
  | 0 => .object "CaptureSubtypes$Classes"
  | 1 => .object "CaptureSubtypes$Types"
  | 2 => .object "CaptureSubtypes$Shapes"
  | _ => .object "CaptureSubtypes$Order"
theorem qn_U : ∀ a, a < 4 → ∀ b, b < 4 → a ≠ b → (qF_U a).2.1 ≠ (qF_U b).2.1 := by decide +kernel
theorem qt_U_ok : ∀ k, k < 4 → parseFieldDescriptor (qF_U k).2.2.1 = some (qt_U k) := by decide +kernel
def qR_X : String := "CaptureSubtypes"
def qF_X : u_T := fun k => match k with
  | 0 => ("CaptureSubtypes", "classes", "LCaptureSubtypes$Classes;", true)
  | 1 => ("CaptureSubtypes", "types", "LCaptureSubtypes$Types;", true)
  | 2 => ("CaptureSubtypes", "shapes", "LCaptureSubtypes$Shapes;", true)
  | 3 => ("CaptureSubtypes", "order", "LCaptureSubtypes$Order;", true)
  | _ => ("CaptureSubtypes", "turning", "LCaptureSubtypes$Turning;", true)
def qt_X : Nat → FieldType := fun k => match k with
  | 0 => .object "CaptureSubtypes$Classes"
  | 1 => .object "CaptureSubtypes$Types"
  | 2 => .object "CaptureSubtypes$Shapes"
  | 3 => .object "CaptureSubtypes$Order"
  | _ => .object "CaptureSubtypes$Turning"
theorem qn_X : ∀ a, a < 5 → ∀ b, b < 5 → a ≠ b → (qF_X a).2.1 ≠ (qF_X b).2.1 := by decide +kernel
theorem qt_X_ok : ∀ k, k < 5 → parseFieldDescriptor (qF_X k).2.2.1 = some (qt_X k) := by decide +kernel
def qR_M : String := "CaptureSubtypesModel"
def qF_M : u_T := fun k => match k with
  | 0 => ("CaptureSubtypesModel", "classes", "I", false)
  | 1 => ("CaptureSubtypesModel", "kinds", "[I", true)
  | 2 => ("CaptureSubtypesModel", "parameters", "[I", true)
  | 3 => ("CaptureSubtypesModel", "supers", "[I", true)
  | 4 => ("CaptureSubtypesModel", "others", "[I", true)
  | 5 => ("CaptureSubtypesModel", "bound", "[I", true)
  | 6 => ("CaptureSubtypesModel", "bounds", "[I", true)
  | 7 => ("CaptureSubtypesModel", "types", "I", false)
  | 8 => ("CaptureSubtypesModel", "pool", "I", false)
  | 9 => ("CaptureSubtypesModel", "sort", "[I", true)
  | 10 => ("CaptureSubtypesModel", "first", "[I", true)
  | 11 => ("CaptureSubtypesModel", "second", "[I", true)
  | 12 => ("CaptureSubtypesModel", "third", "[I", true)
  | 13 => ("CaptureSubtypesModel", "deep", "[I", true)
  | 14 => ("CaptureSubtypesModel", "caught", "I", false)
  | 15 => ("CaptureSubtypesModel", "caughtBound", "[I", true)
  | 16 => ("CaptureSubtypesModel", "caughtBounds", "[I", true)
  | 17 => ("CaptureSubtypesModel", "caughtLow", "[I", true)
  | 18 => ("CaptureSubtypesModel", "isBelow", "[Z", true)
  | 19 => ("CaptureSubtypesModel", "isApart", "[Z", true)
  | 20 => ("CaptureSubtypesModel", "become", "[I", true)
  | 21 => ("CaptureSubtypesModel", "isNeeded", "[Z", true)
  | 22 => ("CaptureSubtypesModel", "caughtNow", "[I", true)
  | 23 => ("CaptureSubtypesModel", "askS", "[I", true)
  | 24 => ("CaptureSubtypesModel", "askT", "[I", true)
  | 25 => ("CaptureSubtypesModel", "askState", "[I", true)
  | 26 => ("CaptureSubtypesModel", "askStep", "[I", true)
  | 27 => ("CaptureSubtypesModel", "askAs", "[I", true)
  | 28 => ("CaptureSubtypesModel", "asked", "I", false)
  | 29 => ("CaptureSubtypesModel", "pileS", "[I", true)
  | 30 => ("CaptureSubtypesModel", "pileT", "[I", true)
  | _ => ("CaptureSubtypesModel", "asOf", "[I", true)
def qt_M : Nat → FieldType := fun k => match k with
  | 0 => .int
  | 1 => .array .int
  | 2 => .array .int
  | 3 => .array .int
  | 4 => .array .int
  | 5 => .array .int
  | 6 => .array .int
  | 7 => .int
  | 8 => .int
  | 9 => .array .int
  | 10 => .array .int
  | 11 => .array .int
  | 12 => .array .int
  | 13 => .array .int
  | 14 => .int
  | 15 => .array .int
  | 16 => .array .int
  | 17 => .array .int
  | 18 => .array .boolean
  | 19 => .array .boolean
  | 20 => .array .int
  | 21 => .array .boolean
  | 22 => .array .int
  | 23 => .array .int
  | 24 => .array .int
  | 25 => .array .int
  | 26 => .array .int
  | 27 => .array .int
  | 28 => .int
  | 29 => .array .int
  | 30 => .array .int
  | _ => .array .int
theorem qn_M : ∀ a, a < 32 → ∀ b, b < 32 → a ≠ b → (qF_M a).2.1 ≠ (qF_M b).2.1 := by decide +kernel
theorem qt_M_ok : ∀ k, k < 32 → parseFieldDescriptor (qF_M k).2.2.1 = some (qt_M k) := by decide +kernel
abbrev qcl : List vw_C := [(qR_K, qF_K, 10), (qR_T, qF_T, 10), (qR_S, qF_S, 2), (qR_O, qF_O, 3), (qR_U, qF_U, 4), (qR_X, qF_X, 5), (qR_M, qF_M, 32)]
abbrev qb_X_init : ByteArray := prog_1_method_1_code
def qy_X_init : MethodName := ⟨"CaptureSubtypes", "<init>", "()V"⟩
abbrev qb_K_init : ByteArray := prog_2_method_1_code
def qy_K_init : MethodName := ⟨"CaptureSubtypes$Classes", "<init>", "()V"⟩
abbrev qb_K_empty : ByteArray := prog_2_method_2_code
def qy_K_empty : MethodName := ⟨"CaptureSubtypes$Classes", "empty", "()V"⟩
abbrev qb_K_write : ByteArray := prog_2_method_4_code
def qy_K_write : MethodName := ⟨"CaptureSubtypes$Classes", "write", "(III)V"⟩
abbrev qb_T_init : ByteArray := prog_6_method_1_code
def qy_T_init : MethodName := ⟨"CaptureSubtypes$Types", "<init>", "()V"⟩
abbrev qb_T_empty : ByteArray := prog_6_method_2_code
def qy_T_empty : MethodName := ⟨"CaptureSubtypes$Types", "empty", "()V"⟩
abbrev qb_T_keep : ByteArray := prog_6_method_19_code
def qy_T_keep : MethodName := ⟨"CaptureSubtypes$Types", "keep", "(IIII)I"⟩
abbrev qb_T_put : ByteArray := prog_6_method_24_code
def qy_T_put : MethodName := ⟨"CaptureSubtypes$Types", "put", "(IIIII)I"⟩
abbrev qb_S_init : ByteArray := prog_4_method_1_code
def qy_S_init : MethodName := ⟨"CaptureSubtypes$Shapes", "<init>", "(LCaptureSubtypes$Classes;LCaptureSubtypes$Types;)V"⟩
abbrev qb_O_init : ByteArray := prog_3_method_1_code
def qy_O_init : MethodName := ⟨"CaptureSubtypes$Order", "<init>", "(LCaptureSubtypes$Classes;LCaptureSubtypes$Types;LCaptureSubtypes$Shapes;)V"⟩
abbrev qb_U_init : ByteArray := prog_5_method_1_code
def qy_U_init : MethodName := ⟨"CaptureSubtypes$Turning", "<init>", "(LCaptureSubtypes$Classes;LCaptureSubtypes$Types;LCaptureSubtypes$Shapes;LCaptureSubtypes$Order;)V"⟩
abbrev qb_X_clear : ByteArray := prog_1_method_2_code
def qy_X_clear : MethodName := ⟨"CaptureSubtypes", "clear", "()I"⟩
abbrev qb_X_declare : ByteArray := prog_1_method_3_code
def qy_X_declare : MethodName := ⟨"CaptureSubtypes", "declare", "(II)I"⟩
abbrev qb_K_add : ByteArray := prog_2_method_3_code
def qy_K_add : MethodName := ⟨"CaptureSubtypes$Classes", "add", "(II)I"⟩
abbrev qb_K_reckon : ByteArray := prog_2_method_25_code
def qy_K_reckon : MethodName := ⟨"CaptureSubtypes$Classes", "reckon", "()V"⟩
abbrev qb_K_reckonAbove : ByteArray := prog_2_method_26_code
def qy_K_reckonAbove : MethodName := ⟨"CaptureSubtypes$Classes", "reckonAbove", "()V"⟩
abbrev qb_K_superClass : ByteArray := prog_2_method_15_code
def qy_K_superClass : MethodName := ⟨"CaptureSubtypes$Classes", "superClass", "(II)I"⟩
abbrev qb_K_reckonApart : ByteArray := prog_2_method_27_code
def qy_K_reckonApart : MethodName := ⟨"CaptureSubtypes$Classes", "reckonApart", "()V"⟩
abbrev qb_K_mustBeApart : ByteArray := prog_2_method_28_code
def qy_K_mustBeApart : MethodName := ⟨"CaptureSubtypes$Classes", "mustBeApart", "(II)Z"⟩
abbrev qb_K_isUnder : ByteArray := prog_2_method_11_code
def qy_K_isUnder : MethodName := ⟨"CaptureSubtypes$Classes", "isUnder", "(II)Z"⟩
abbrev qb_K_isFace : ByteArray := prog_2_method_7_code
def qy_K_isFace : MethodName := ⟨"CaptureSubtypes$Classes", "isFace", "(I)Z"⟩
abbrev qb_K_kindOf : ByteArray := prog_2_method_6_code
def qy_K_kindOf : MethodName := ⟨"CaptureSubtypes$Classes", "kindOf", "(I)I"⟩
abbrev qb_K_isSealed : ByteArray := prog_2_method_29_code
def qy_K_isSealed : MethodName := ⟨"CaptureSubtypes$Classes", "isSealed", "(I)Z"⟩
abbrev qb_K_heirsApartFrom : ByteArray := prog_2_method_30_code
def qy_K_heirsApartFrom : MethodName := ⟨"CaptureSubtypes$Classes", "heirsApartFrom", "(II)Z"⟩
abbrev qb_K_isHeir : ByteArray := prog_2_method_13_code
def qy_K_isHeir : MethodName := ⟨"CaptureSubtypes$Classes", "isHeir", "(II)Z"⟩
abbrev qb_K_areApart : ByteArray := prog_2_method_12_code
def qy_K_areApart : MethodName := ⟨"CaptureSubtypes$Classes", "areApart", "(II)Z"⟩
abbrev qb_K_apartFromHeirs : ByteArray := prog_2_method_31_code
def qy_K_apartFromHeirs : MethodName := ⟨"CaptureSubtypes$Classes", "apartFromHeirs", "(II)Z"⟩
abbrev qb_X_inherit : ByteArray := prog_1_method_4_code
def qy_X_inherit : MethodName := ⟨"CaptureSubtypes", "inherit", "(II)I"⟩
abbrev qb_X_mayBeSuper : ByteArray := prog_1_method_22_code
def qy_X_mayBeSuper : MethodName := ⟨"CaptureSubtypes", "mayBeSuper", "(II)Z"⟩
abbrev qb_K_has : ByteArray := prog_2_method_5_code
def qy_K_has : MethodName := ⟨"CaptureSubtypes$Classes", "has", "(I)Z"⟩
abbrev qb_T_has : ByteArray := prog_6_method_3_code
def qy_T_has : MethodName := ⟨"CaptureSubtypes$Types", "has", "(I)Z"⟩
abbrev qb_T_isOfClass : ByteArray := prog_6_method_14_code
def qy_T_isOfClass : MethodName := ⟨"CaptureSubtypes$Types", "isOfClass", "(I)Z"⟩
abbrev qb_T_sortOf : ByteArray := prog_6_method_4_code
def qy_T_sortOf : MethodName := ⟨"CaptureSubtypes$Types", "sortOf", "(I)I"⟩
abbrev qb_T_ownerOf : ByteArray := prog_6_method_5_code
def qy_T_ownerOf : MethodName := ⟨"CaptureSubtypes$Types", "ownerOf", "(I)I"⟩
abbrev qb_T_isInWordsOf : ByteArray := prog_6_method_18_code
def qy_T_isInWordsOf : MethodName := ⟨"CaptureSubtypes$Types", "isInWordsOf", "(II)Z"⟩
abbrev qb_K_freeSlot : ByteArray := prog_2_method_17_code
def qy_K_freeSlot : MethodName := ⟨"CaptureSubtypes$Classes", "freeSlot", "(II)I"⟩
abbrev qb_K_superType : ByteArray := prog_2_method_14_code
def qy_K_superType : MethodName := ⟨"CaptureSubtypes$Classes", "superType", "(II)I"⟩
abbrev qb_K_setSuper : ByteArray := prog_2_method_16_code
def qy_K_setSuper : MethodName := ⟨"CaptureSubtypes$Classes", "setSuper", "(IIII)V"⟩
abbrev qb_S_clashes : ByteArray := prog_4_method_9_code
def qy_S_clashes : MethodName := ⟨"CaptureSubtypes$Shapes", "clashes", "()Z"⟩
abbrev qb_S_clashesAt : ByteArray := prog_4_method_10_code
def qy_S_clashesAt : MethodName := ⟨"CaptureSubtypes$Shapes", "clashesAt", "(II)Z"⟩
abbrev qb_T_mark : ByteArray := prog_6_method_22_code
def qy_T_mark : MethodName := ⟨"CaptureSubtypes$Types", "mark", "()I"⟩
abbrev qb_S_viewedAs : ByteArray := prog_4_method_8_code
def qy_S_viewedAs : MethodName := ⟨"CaptureSubtypes$Shapes", "viewedAs", "(II)I"⟩
abbrev qb_K_slotTowards : ByteArray := prog_2_method_19_code
def qy_K_slotTowards : MethodName := ⟨"CaptureSubtypes$Classes", "slotTowards", "(II)I"⟩
abbrev qb_S_nameAlone : ByteArray := prog_4_method_3_code
def qy_S_nameAlone : MethodName := ⟨"CaptureSubtypes$Shapes", "nameAlone", "(I)I"⟩
abbrev qb_K_nameSort : ByteArray := prog_2_method_10_code
def qy_K_nameSort : MethodName := ⟨"CaptureSubtypes$Classes", "nameSort", "(I)I"⟩
abbrev qb_S_putIn : ByteArray := prog_4_method_6_code
def qy_S_putIn : MethodName := ⟨"CaptureSubtypes$Shapes", "putIn", "(III)I"⟩
abbrev qb_T_mentions : ByteArray := prog_6_method_17_code
def qy_T_mentions : MethodName := ⟨"CaptureSubtypes$Types", "mentions", "(II)Z"⟩
abbrev qb_T_firstOf : ByteArray := prog_6_method_6_code
def qy_T_firstOf : MethodName := ⟨"CaptureSubtypes$Types", "firstOf", "(I)I"⟩
abbrev qb_T_argumentOf : ByteArray := prog_6_method_11_code
def qy_T_argumentOf : MethodName := ⟨"CaptureSubtypes$Types", "argumentOf", "(II)I"⟩
abbrev qb_T_secondOf : ByteArray := prog_6_method_7_code
def qy_T_secondOf : MethodName := ⟨"CaptureSubtypes$Types", "secondOf", "(I)I"⟩
abbrev qb_T_dropTo : ByteArray := prog_6_method_23_code
def qy_T_dropTo : MethodName := ⟨"CaptureSubtypes$Types", "dropTo", "(I)V"⟩
abbrev qb_K_putInCount : ByteArray := prog_2_method_18_code
def qy_K_putInCount : MethodName := ⟨"CaptureSubtypes$Classes", "putInCount", "(I)I"⟩
abbrev qb_X_bind : ByteArray := prog_1_method_5_code
def qy_X_bind : MethodName := ⟨"CaptureSubtypes", "bind", "(III)I"⟩
abbrev qb_K_hasParameter : ByteArray := prog_2_method_9_code
def qy_K_hasParameter : MethodName := ⟨"CaptureSubtypes$Classes", "hasParameter", "(II)Z"⟩
abbrev qb_X_mayBeBound : ByteArray := prog_1_method_23_code
def qy_X_mayBeBound : MethodName := ⟨"CaptureSubtypes", "mayBeBound", "(III)Z"⟩
abbrev qb_K_boundCount : ByteArray := prog_2_method_22_code
def qy_K_boundCount : MethodName := ⟨"CaptureSubtypes$Classes", "boundCount", "(II)I"⟩
abbrev qb_K_addBound : ByteArray := prog_2_method_24_code
def qy_K_addBound : MethodName := ⟨"CaptureSubtypes$Classes", "addBound", "(III)I"⟩
abbrev qb_X_plain : ByteArray := prog_1_method_6_code
def qy_X_plain : MethodName := ⟨"CaptureSubtypes", "plain", "(I)I"⟩
abbrev qb_X_of : ByteArray := prog_1_method_7_code
def qy_X_of : MethodName := ⟨"CaptureSubtypes", "of", "(III)I"⟩
abbrev qb_K_parametersOf : ByteArray := prog_2_method_8_code
def qy_K_parametersOf : MethodName := ⟨"CaptureSubtypes$Classes", "parametersOf", "(I)I"⟩
abbrev qb_T_mayBeArgument : ByteArray := prog_6_method_13_code
def qy_T_mayBeArgument : MethodName := ⟨"CaptureSubtypes$Types", "mayBeArgument", "(I)Z"⟩
abbrev qb_X_wild : ByteArray := prog_1_method_8_code
def qy_X_wild : MethodName := ⟨"CaptureSubtypes", "wild", "(II)I"⟩
abbrev qb_X_variable : ByteArray := prog_1_method_9_code
def qy_X_variable : MethodName := ⟨"CaptureSubtypes", "variable", "(II)I"⟩
abbrev qb_X_row : ByteArray := prog_1_method_10_code
def qy_X_row : MethodName := ⟨"CaptureSubtypes", "row", "(I)I"⟩
abbrev qb_T_standsAlone : ByteArray := prog_6_method_12_code
def qy_T_standsAlone : MethodName := ⟨"CaptureSubtypes$Types", "standsAlone", "(I)Z"⟩
abbrev qb_X_count : ByteArray := prog_1_method_11_code
def qy_X_count : MethodName := ⟨"CaptureSubtypes", "count", "(I)I"⟩
abbrev qb_X_told : ByteArray := prog_1_method_12_code
def qy_X_told : MethodName := ⟨"CaptureSubtypes", "told", "(II)I"⟩
abbrev qb_T_depthOf : ByteArray := prog_6_method_8_code
def qy_T_depthOf : MethodName := ⟨"CaptureSubtypes$Types", "depthOf", "(I)I"⟩
abbrev qb_X_known : ByteArray := prog_1_method_13_code
def qy_X_known : MethodName := ⟨"CaptureSubtypes", "known", "(II)I"⟩
abbrev qb_K_heirCount : ByteArray := prog_2_method_20_code
def qy_K_heirCount : MethodName := ⟨"CaptureSubtypes$Classes", "heirCount", "(I)I"⟩
abbrev qb_K_underCount : ByteArray := prog_2_method_21_code
def qy_K_underCount : MethodName := ⟨"CaptureSubtypes$Classes", "underCount", "(I)I"⟩
abbrev qb_X_below : ByteArray := prog_1_method_14_code
def qy_X_below : MethodName := ⟨"CaptureSubtypes", "below", "(II)I"⟩
abbrev qb_X_apart : ByteArray := prog_1_method_15_code
def qy_X_apart : MethodName := ⟨"CaptureSubtypes", "apart", "(II)I"⟩
abbrev qb_X_is : ByteArray := prog_1_method_16_code
def qy_X_is : MethodName := ⟨"CaptureSubtypes", "is", "(II)I"⟩
abbrev qb_O_isOne : ByteArray := prog_3_method_2_code
def qy_O_isOne : MethodName := ⟨"CaptureSubtypes$Order", "isOne", "(III)Z"⟩
abbrev qb_O_isByParts : ByteArray := prog_3_method_3_code
def qy_O_isByParts : MethodName := ⟨"CaptureSubtypes$Order", "isByParts", "(III)Z"⟩
abbrev qb_T_isVariable : ByteArray := prog_6_method_15_code
def qy_T_isVariable : MethodName := ⟨"CaptureSubtypes$Types", "isVariable", "(I)Z"⟩
abbrev qb_O_someBoundIs : ByteArray := prog_3_method_4_code
def qy_O_someBoundIs : MethodName := ⟨"CaptureSubtypes$Order", "someBoundIs", "(III)Z"⟩
abbrev qb_S_boundCountOf : ByteArray := prog_4_method_4_code
def qy_S_boundCountOf : MethodName := ⟨"CaptureSubtypes$Shapes", "boundCountOf", "(I)I"⟩
abbrev qb_T_upOf : ByteArray := prog_6_method_9_code
def qy_T_upOf : MethodName := ⟨"CaptureSubtypes$Types", "upOf", "(I)I"⟩
abbrev qb_S_boundOf : ByteArray := prog_4_method_5_code
def qy_S_boundOf : MethodName := ⟨"CaptureSubtypes$Shapes", "boundOf", "(II)I"⟩
abbrev qb_K_boundAt : ByteArray := prog_2_method_23_code
def qy_K_boundAt : MethodName := ⟨"CaptureSubtypes$Classes", "boundAt", "(III)I"⟩
abbrev qb_T_lowOf : ByteArray := prog_6_method_10_code
def qy_T_lowOf : MethodName := ⟨"CaptureSubtypes$Types", "lowOf", "(I)I"⟩
abbrev qb_O_isByClass : ByteArray := prog_3_method_5_code
def qy_O_isByClass : MethodName := ⟨"CaptureSubtypes$Order", "isByClass", "(III)Z"⟩
abbrev qb_S_caught : ByteArray := prog_4_method_7_code
def qy_S_caught : MethodName := ⟨"CaptureSubtypes$Shapes", "caught", "(I)I"⟩
abbrev qb_T_hasWildArgument : ByteArray := prog_6_method_16_code
def qy_T_hasWildArgument : MethodName := ⟨"CaptureSubtypes$Types", "hasWildArgument", "(I)Z"⟩
abbrev qb_T_hold : ByteArray := prog_6_method_20_code
def qy_T_hold : MethodName := ⟨"CaptureSubtypes$Types", "hold", "(III)I"⟩
abbrev qb_T_setHome : ByteArray := prog_6_method_21_code
def qy_T_setHome : MethodName := ⟨"CaptureSubtypes$Types", "setHome", "(II)V"⟩
abbrev qb_O_isIn : ByteArray := prog_3_method_6_code
def qy_O_isIn : MethodName := ⟨"CaptureSubtypes$Order", "isIn", "(III)Z"⟩
abbrev qb_O_isUnchecked : ByteArray := prog_3_method_7_code
def qy_O_isUnchecked : MethodName := ⟨"CaptureSubtypes$Order", "isUnchecked", "(III)Z"⟩
abbrev qb_O_someBoundIsUnchecked : ByteArray := prog_3_method_8_code
def qy_O_someBoundIsUnchecked : MethodName := ⟨"CaptureSubtypes$Order", "someBoundIsUnchecked", "(III)Z"⟩
abbrev qb_X_may : ByteArray := prog_1_method_17_code
def qy_X_may : MethodName := ⟨"CaptureSubtypes", "may", "(II)I"⟩
abbrev qb_U_mayTurn : ByteArray := prog_5_method_2_code
def qy_U_mayTurn : MethodName := ⟨"CaptureSubtypes$Turning", "mayTurn", "(III)Z"⟩
abbrev qb_U_mayFromBounds : ByteArray := prog_5_method_3_code
def qy_U_mayFromBounds : MethodName := ⟨"CaptureSubtypes$Turning", "mayFromBounds", "(III)Z"⟩
abbrev qb_U_mayIntoBounds : ByteArray := prog_5_method_4_code
def qy_U_mayIntoBounds : MethodName := ⟨"CaptureSubtypes$Turning", "mayIntoBounds", "(III)Z"⟩
abbrev qb_U_mayByClass : ByteArray := prog_5_method_5_code
def qy_U_mayByClass : MethodName := ⟨"CaptureSubtypes$Turning", "mayByClass", "(II)Z"⟩
abbrev qb_U_differ : ByteArray := prog_5_method_6_code
def qy_U_differ : MethodName := ⟨"CaptureSubtypes$Turning", "differ", "(III)Z"⟩
abbrev qb_U_facetCount : ByteArray := prog_5_method_7_code
def qy_U_facetCount : MethodName := ⟨"CaptureSubtypes$Turning", "facetCount", "(I)I"⟩
abbrev qb_U_facet : ByteArray := prog_5_method_8_code
def qy_U_facet : MethodName := ⟨"CaptureSubtypes$Turning", "facet", "(II)I"⟩
abbrev qb_S_erasure : ByteArray := prog_4_method_2_code
def qy_S_erasure : MethodName := ⟨"CaptureSubtypes$Shapes", "erasure", "(II)I"⟩
abbrev qb_X_as : ByteArray := prog_1_method_18_code
def qy_X_as : MethodName := ⟨"CaptureSubtypes", "as", "(II)I"⟩
abbrev qb_X_settle : ByteArray := prog_1_method_21_code
def qy_X_settle : MethodName := ⟨"CaptureSubtypes", "settle", "(I)I"⟩
abbrev qb_X_erased : ByteArray := prog_1_method_19_code
def qy_X_erased : MethodName := ⟨"CaptureSubtypes", "erased", "(I)I"⟩
abbrev qb_X_good : ByteArray := prog_1_method_20_code
def qy_X_good : MethodName := ⟨"CaptureSubtypes", "good", "(I)I"⟩
abbrev qb_O_keepsBounds : ByteArray := prog_3_method_9_code
def qy_O_keepsBounds : MethodName := ⟨"CaptureSubtypes$Order", "keepsBounds", "(I)Z"⟩
abbrev qb_O_keepsBoundsAt : ByteArray := prog_3_method_10_code
def qy_O_keepsBoundsAt : MethodName := ⟨"CaptureSubtypes$Order", "keepsBoundsAt", "(II)Z"⟩
abbrev qb_M_init : ByteArray := prog_8_method_1_code
def qy_M_init : MethodName := ⟨"CaptureSubtypesModel", "<init>", "()V"⟩
abbrev qb_M_begin : ByteArray := prog_8_method_3_code
def qy_M_begin : MethodName := ⟨"CaptureSubtypesModel", "begin", "()V"⟩
abbrev qb_M_put : ByteArray := prog_8_method_5_code
def qy_M_put : MethodName := ⟨"CaptureSubtypesModel", "put", "(IIIIII)V"⟩
abbrev qb_M_fresh : ByteArray := prog_8_method_6_code
def qy_M_fresh : MethodName := ⟨"CaptureSubtypesModel", "fresh", "()V"⟩
abbrev qb_M_clear : ByteArray := prog_8_method_4_code
def qy_M_clear : MethodName := ⟨"CaptureSubtypesModel", "clear", "()I"⟩
abbrev qb_M_declare : ByteArray := prog_8_method_13_code
def qy_M_declare : MethodName := ⟨"CaptureSubtypesModel", "declare", "(II)I"⟩
abbrev qb_M_isIn : ByteArray := prog_8_method_2_code
def qy_M_isIn : MethodName := ⟨"CaptureSubtypesModel", "isIn", "(III)Z"⟩
abbrev qb_M_plain : ByteArray := prog_8_method_14_code
def qy_M_plain : MethodName := ⟨"CaptureSubtypesModel", "plain", "(I)I"⟩
abbrev qb_M_isClass : ByteArray := prog_8_method_11_code
def qy_M_isClass : MethodName := ⟨"CaptureSubtypesModel", "isClass", "(I)Z"⟩
abbrev qb_M_enter : ByteArray := prog_8_method_10_code
def qy_M_enter : MethodName := ⟨"CaptureSubtypesModel", "enter", "(IIIII)I"⟩
abbrev qb_M_find : ByteArray := prog_8_method_8_code
def qy_M_find : MethodName := ⟨"CaptureSubtypesModel", "find", "(IIII)I"⟩
abbrev qb_M_isLike : ByteArray := prog_8_method_7_code
def qy_M_isLike : MethodName := ⟨"CaptureSubtypesModel", "isLike", "(IIIII)Z"⟩
abbrev qb_M_of : ByteArray := prog_8_method_16_code
def qy_M_of : MethodName := ⟨"CaptureSubtypesModel", "of", "(III)I"⟩
abbrev qb_M_isArgument : ByteArray := prog_8_method_15_code
def qy_M_isArgument : MethodName := ⟨"CaptureSubtypesModel", "isArgument", "(I)Z"⟩
abbrev qb_M_isType : ByteArray := prog_8_method_12_code
def qy_M_isType : MethodName := ⟨"CaptureSubtypesModel", "isType", "(I)Z"⟩
abbrev qb_M_wild : ByteArray := prog_8_method_17_code
def qy_M_wild : MethodName := ⟨"CaptureSubtypesModel", "wild", "(II)I"⟩
abbrev qb_M_variable : ByteArray := prog_8_method_18_code
def qy_M_variable : MethodName := ⟨"CaptureSubtypesModel", "variable", "(II)I"⟩
abbrev qb_M_row : ByteArray := prog_8_method_19_code
def qy_M_row : MethodName := ⟨"CaptureSubtypesModel", "row", "(I)I"⟩
abbrev qb_M_count : ByteArray := prog_8_method_20_code
def qy_M_count : MethodName := ⟨"CaptureSubtypesModel", "count", "(I)I"⟩
abbrev qb_M_told : ByteArray := prog_8_method_21_code
def qy_M_told : MethodName := ⟨"CaptureSubtypesModel", "told", "(II)I"⟩
abbrev qb_M_known : ByteArray := prog_8_method_26_code
def qy_M_known : MethodName := ⟨"CaptureSubtypesModel", "known", "(II)I"⟩
abbrev qb_M_order : ByteArray := prog_8_method_24_code
def qy_M_order : MethodName := ⟨"CaptureSubtypesModel", "order", "()V"⟩
abbrev qb_M_superCount : ByteArray := prog_8_method_22_code
def qy_M_superCount : MethodName := ⟨"CaptureSubtypesModel", "superCount", "(I)I"⟩
abbrev qb_M_superOf : ByteArray := prog_8_method_23_code
def qy_M_superOf : MethodName := ⟨"CaptureSubtypesModel", "superOf", "(II)I"⟩
abbrev qb_M_isHeir : ByteArray := prog_8_method_25_code
def qy_M_isHeir : MethodName := ⟨"CaptureSubtypesModel", "isHeir", "(II)Z"⟩
abbrev qb_M_below : ByteArray := prog_8_method_27_code
def qy_M_below : MethodName := ⟨"CaptureSubtypesModel", "below", "(II)I"⟩
abbrev qb_M_apart : ByteArray := prog_8_method_31_code
def qy_M_apart : MethodName := ⟨"CaptureSubtypesModel", "apart", "(II)I"⟩
abbrev qb_M_part : ByteArray := prog_8_method_28_code
def qy_M_part : MethodName := ⟨"CaptureSubtypesModel", "part", "()V"⟩
abbrev qb_M_isSealed : ByteArray := prog_8_method_29_code
def qy_M_isSealed : MethodName := ⟨"CaptureSubtypesModel", "isSealed", "(I)Z"⟩
abbrev qb_M_areHeirsApart : ByteArray := prog_8_method_30_code
def qy_M_areHeirsApart : MethodName := ⟨"CaptureSubtypesModel", "areHeirsApart", "(IIZ)Z"⟩
abbrev qb_M_is : ByteArray := prog_8_method_53_code
def qy_M_is : MethodName := ⟨"CaptureSubtypesModel", "is", "(II)I"⟩
abbrev qb_M_isAsked : ByteArray := prog_8_method_52_code
def qy_M_isAsked : MethodName := ⟨"CaptureSubtypesModel", "isAsked", "(I)Z"⟩
abbrev qb_M_isA : ByteArray := prog_8_method_45_code
def qy_M_isA : MethodName := ⟨"CaptureSubtypesModel", "isA", "(II)Z"⟩
abbrev qb_M_ask : ByteArray := prog_8_method_44_code
def qy_M_ask : MethodName := ⟨"CaptureSubtypesModel", "ask", "(II)V"⟩
abbrev qb_M_step : ByteArray := prog_8_method_46_code
def qy_M_step : MethodName := ⟨"CaptureSubtypesModel", "step", "(II)I"⟩
abbrev qb_M_stepBounds : ByteArray := prog_8_method_47_code
def qy_M_stepBounds : MethodName := ⟨"CaptureSubtypesModel", "stepBounds", "(IIII)I"⟩
abbrev qb_M_boundCount : ByteArray := prog_8_method_37_code
def qy_M_boundCount : MethodName := ⟨"CaptureSubtypesModel", "boundCount", "(I)I"⟩
abbrev qb_M_boundOf : ByteArray := prog_8_method_38_code
def qy_M_boundOf : MethodName := ⟨"CaptureSubtypesModel", "boundOf", "(II)I"⟩
abbrev qb_M_stepLow : ByteArray := prog_8_method_48_code
def qy_M_stepLow : MethodName := ⟨"CaptureSubtypesModel", "stepLow", "(IIII)I"⟩
abbrev qb_M_lowOf : ByteArray := prog_8_method_39_code
def qy_M_lowOf : MethodName := ⟨"CaptureSubtypesModel", "lowOf", "(I)I"⟩
abbrev qb_M_stepParts : ByteArray := prog_8_method_49_code
def qy_M_stepParts : MethodName := ⟨"CaptureSubtypesModel", "stepParts", "(IIII)I"⟩
abbrev qb_M_isOfClass : ByteArray := prog_8_method_34_code
def qy_M_isOfClass : MethodName := ⟨"CaptureSubtypesModel", "isOfClass", "(I)Z"⟩
abbrev qb_M_asClass : ByteArray := prog_8_method_42_code
def qy_M_asClass : MethodName := ⟨"CaptureSubtypesModel", "asClass", "(II)I"⟩
abbrev qb_M_catchIt : ByteArray := prog_8_method_40_code
def qy_M_catchIt : MethodName := ⟨"CaptureSubtypesModel", "catchIt", "(I)I"⟩
abbrev qb_M_hasWild : ByteArray := prog_8_method_35_code
def qy_M_hasWild : MethodName := ⟨"CaptureSubtypesModel", "hasWild", "(I)Z"⟩
abbrev qb_M_come : ByteArray := prog_8_method_9_code
def qy_M_come : MethodName := ⟨"CaptureSubtypesModel", "come", "(IIII)I"⟩
abbrev qb_M_replace : ByteArray := prog_8_method_32_code
def qy_M_replace : MethodName := ⟨"CaptureSubtypesModel", "replace", "(IIII)I"⟩
abbrev qb_M_hasFirst : ByteArray := prog_8_method_33_code
def qy_M_hasFirst : MethodName := ⟨"CaptureSubtypesModel", "hasFirst", "(I)Z"⟩
abbrev qb_M_superType : ByteArray := prog_8_method_41_code
def qy_M_superType : MethodName := ⟨"CaptureSubtypesModel", "superType", "(II)I"⟩
abbrev qb_M_bare : ByteArray := prog_8_method_36_code
def qy_M_bare : MethodName := ⟨"CaptureSubtypesModel", "bare", "(I)I"⟩
abbrev qb_M_stepArguments : ByteArray := prog_8_method_50_code
def qy_M_stepArguments : MethodName := ⟨"CaptureSubtypesModel", "stepArguments", "(III)I"⟩
abbrev qb_M_isUnchecked : ByteArray := prog_8_method_51_code
def qy_M_isUnchecked : MethodName := ⟨"CaptureSubtypesModel", "isUnchecked", "(II)Z"⟩
abbrev qb_M_may : ByteArray := prog_8_method_54_code
def qy_M_may : MethodName := ⟨"CaptureSubtypesModel", "may", "(II)I"⟩
abbrev qb_M_mayClasses : ByteArray := prog_8_method_55_code
def qy_M_mayClasses : MethodName := ⟨"CaptureSubtypesModel", "mayClasses", "(II)Z"⟩
abbrev qb_M_differ : ByteArray := prog_8_method_56_code
def qy_M_differ : MethodName := ⟨"CaptureSubtypesModel", "differ", "(II)Z"⟩
abbrev qb_M_erase : ByteArray := prog_8_method_43_code
def qy_M_erase : MethodName := ⟨"CaptureSubtypesModel", "erase", "(I)I"⟩
abbrev qb_M_as : ByteArray := prog_8_method_58_code
def qy_M_as : MethodName := ⟨"CaptureSubtypesModel", "as", "(II)I"⟩
abbrev qb_M_thereAs : ByteArray := prog_8_method_57_code
def qy_M_thereAs : MethodName := ⟨"CaptureSubtypesModel", "thereAs", "(I)I"⟩
abbrev qb_M_erased : ByteArray := prog_8_method_59_code
def qy_M_erased : MethodName := ⟨"CaptureSubtypesModel", "erased", "(I)I"⟩
abbrev qb_M_good : ByteArray := prog_8_method_60_code
def qy_M_good : MethodName := ⟨"CaptureSubtypesModel", "good", "(I)I"⟩
abbrev qb_M_inherit : ByteArray := prog_8_method_62_code
def qy_M_inherit : MethodName := ⟨"CaptureSubtypesModel", "inherit", "(II)I"⟩
abbrev qb_M_isForeign : ByteArray := prog_8_method_61_code
def qy_M_isForeign : MethodName := ⟨"CaptureSubtypesModel", "isForeign", "(II)Z"⟩
abbrev qb_M_areOne : ByteArray := prog_8_method_63_code
def qy_M_areOne : MethodName := ⟨"CaptureSubtypesModel", "areOne", "()Z"⟩
abbrev qb_M_bind : ByteArray := prog_8_method_64_code
def qy_M_bind : MethodName := ⟨"CaptureSubtypesModel", "bind", "(III)I"⟩
end
section
/-- the words of the tables that a call may hand on -/
def qtb : List Cond := lw_tbl.filter goodWord
theorem qw_in {w : Cond} (h : w ∈ tables_1) (g : goodWord w = true) : w ∈ qtb := List.mem_filter.mpr ⟨List.mem_append_right _ h, g⟩
theorem qw_tbl {w : Cond} (h : w ∈ qtb) : w ∈ lw_tbl := (List.mem_filter.mp h).1
theorem qw_gd {w : Cond} (h : w ∈ qtb) : goodWord w = true := (List.mem_filter.mp h).2
set_option maxRecDepth 100000 in
theorem qk_0 : (.initialized "CaptureSubtypesLaw" : Cond) ∈ qtb := qw_in (List.mem_of_getElem? (i := 0) rfl) rfl
set_option maxRecDepth 100000 in
theorem qk_1 : (.initialized "CaptureSubtypes" : Cond) ∈ qtb := qw_in (List.mem_of_getElem? (i := 1) rfl) rfl
set_option maxRecDepth 100000 in
theorem qk_2 : (.initialized "CaptureSubtypes$Classes" : Cond) ∈ qtb := qw_in (List.mem_of_getElem? (i := 2) rfl) rfl
set_option maxRecDepth 100000 in
theorem qk_3 : (.initialized "CaptureSubtypes$Types" : Cond) ∈ qtb := qw_in (List.mem_of_getElem? (i := 3) rfl) rfl
set_option maxRecDepth 100000 in
theorem qk_4 : (.initialized "java/lang/Math" : Cond) ∈ qtb := qw_in (List.mem_of_getElem? (i := 4) rfl) rfl
set_option maxRecDepth 100000 in
theorem qk_5 : (.initialized "CaptureSubtypes$Shapes" : Cond) ∈ qtb := qw_in (List.mem_of_getElem? (i := 5) rfl) rfl
set_option maxRecDepth 100000 in
theorem qk_6 : (.initialized "CaptureSubtypes$Order" : Cond) ∈ qtb := qw_in (List.mem_of_getElem? (i := 6) rfl) rfl
set_option maxRecDepth 100000 in
theorem qk_7 : (.initialized "CaptureSubtypes$Turning" : Cond) ∈ qtb := qw_in (List.mem_of_getElem? (i := 7) rfl) rfl
set_option maxRecDepth 100000 in
theorem qk_8 : (.initialized "CaptureSubtypesModel" : Cond) ∈ qtb := qw_in (List.mem_of_getElem? (i := 8) rfl) rfl
set_option maxRecDepth 100000 in
theorem qk_9 : (.classLink "CaptureSubtypesLaw" 7 "CaptureSubtypes" : Cond) ∈ qtb := qw_in (List.mem_of_getElem? (i := 9) rfl) rfl
set_option maxRecDepth 100000 in
theorem qk_10 : (.instantiable "CaptureSubtypes" 5 : Cond) ∈ qtb := qw_in (List.mem_of_getElem? (i := 10) rfl) rfl
set_option maxRecDepth 100000 in
theorem qk_11 : (.methodLink "CaptureSubtypesLaw" 9 qy_X_init : Cond) ∈ qtb := qw_in (List.mem_of_getElem? (i := 11) rfl) rfl
set_option maxRecDepth 100000 in
theorem qk_12 : (.instanceMethod qy_X_init : Cond) ∈ qtb := qw_in (List.mem_of_getElem? (i := 12) rfl) rfl
set_option maxRecDepth 100000 in
theorem qk_13 : (.code qy_X_init prog_1_method_1_code 1 none : Cond) ∈ qtb := qw_in (List.mem_of_getElem? (i := 13) rfl) rfl
set_option maxRecDepth 100000 in
theorem qk_14 : (.methodLink "CaptureSubtypes" 1 objectInit : Cond) ∈ qtb := qw_in (List.mem_of_getElem? (i := 14) rfl) rfl
set_option maxRecDepth 100000 in
theorem qk_15 : (.instanceMethod objectInit : Cond) ∈ qtb := qw_in (List.mem_of_getElem? (i := 15) rfl) rfl
set_option maxRecDepth 100000 in
theorem qk_16 : (.code objectInit object_method_1_code 1 none : Cond) ∈ qtb := qw_in (List.mem_of_getElem? (i := 16) rfl) rfl
set_option maxRecDepth 100000 in
theorem qk_17 : (.classLink "CaptureSubtypes" 7 "CaptureSubtypes$Classes" : Cond) ∈ qtb := qw_in (List.mem_of_getElem? (i := 17) rfl) rfl
set_option maxRecDepth 100000 in
theorem qk_18 : (.instantiable "CaptureSubtypes$Classes" 10 : Cond) ∈ qtb := qw_in (List.mem_of_getElem? (i := 18) rfl) rfl
set_option maxRecDepth 100000 in
theorem qk_19 : (.methodLink "CaptureSubtypes" 9 qy_K_init : Cond) ∈ qtb := qw_in (List.mem_of_getElem? (i := 19) rfl) rfl
set_option maxRecDepth 100000 in
theorem qk_20 : (.instanceMethod qy_K_init : Cond) ∈ qtb := qw_in (List.mem_of_getElem? (i := 20) rfl) rfl
set_option maxRecDepth 100000 in
theorem qk_21 : (.code qy_K_init prog_2_method_1_code 1 none : Cond) ∈ qtb := qw_in (List.mem_of_getElem? (i := 21) rfl) rfl
set_option maxRecDepth 100000 in
theorem qk_22 : (.methodLink "CaptureSubtypes$Classes" 3 objectInit : Cond) ∈ qtb := qw_in (List.mem_of_getElem? (i := 22) rfl) rfl
set_option maxRecDepth 100000 in
theorem qk_23 : (.methodLink "CaptureSubtypes$Classes" 39 qy_K_empty : Cond) ∈ qtb := qw_in (List.mem_of_getElem? (i := 23) rfl) rfl
set_option maxRecDepth 100000 in
theorem qk_24 : (.instanceMethod qy_K_empty : Cond) ∈ qtb := qw_in (List.mem_of_getElem? (i := 24) rfl) rfl
set_option maxRecDepth 100000 in
theorem qk_25 : (.selects "CaptureSubtypes$Classes" qy_K_empty qy_K_empty : Cond) ∈ qtb := qw_in (List.mem_of_getElem? (i := 25) rfl) rfl
set_option maxRecDepth 100000 in
theorem qk_26 : (.code qy_K_empty prog_2_method_2_code 1 none : Cond) ∈ qtb := qw_in (List.mem_of_getElem? (i := 26) rfl) rfl
set_option maxRecDepth 100000 in
theorem qk_27 : (.methodLink "CaptureSubtypes$Classes" 46 qy_K_write : Cond) ∈ qtb := qw_in (List.mem_of_getElem? (i := 27) rfl) rfl
set_option maxRecDepth 100000 in
theorem qk_29 : (.instanceMethod qy_K_write : Cond) ∈ qtb := qw_in (List.mem_of_getElem? (i := 29) rfl) rfl
set_option maxRecDepth 100000 in
theorem qk_30 : (.code qy_K_write prog_2_method_4_code 6 none : Cond) ∈ qtb := qw_in (List.mem_of_getElem? (i := 30) rfl) rfl
set_option maxRecDepth 100000 in
theorem qk_31 : (.fieldLink "CaptureSubtypes$Classes" 42 "CaptureSubtypes$Classes" "count" "I" : Cond) ∈ qtb := qw_in (List.mem_of_getElem? (i := 31) rfl) rfl
set_option maxRecDepth 100000 in
theorem qk_32 : (.fieldLink "CaptureSubtypes" 50 "CaptureSubtypes$Classes" "count" "I" : Cond) ∈ qtb := qw_in (List.mem_of_getElem? (i := 32) rfl) rfl
set_option maxRecDepth 100000 in
theorem qk_33 : (.fieldLink "CaptureSubtypes$Turning" 86 "CaptureSubtypes$Classes" "count" "I" : Cond) ∈ qtb := qw_in (List.mem_of_getElem? (i := 33) rfl) rfl
set_option maxRecDepth 100000 in
theorem qk_34 : (.fieldLink "CaptureSubtypes$Shapes" 107 "CaptureSubtypes$Classes" "count" "I" : Cond) ∈ qtb := qw_in (List.mem_of_getElem? (i := 34) rfl) rfl
set_option maxRecDepth 100000 in
theorem qk_35 : (.fieldLink "CaptureSubtypes$Classes" 11 "CaptureSubtypes$Classes" "kinds" "[I" : Cond) ∈ qtb := qw_in (List.mem_of_getElem? (i := 35) rfl) rfl
set_option maxRecDepth 100000 in
theorem qk_36 : (.fieldLink "CaptureSubtypes$Classes" 15 "CaptureSubtypes$Classes" "parameterCounts" "[I" : Cond) ∈ qtb := qw_in (List.mem_of_getElem? (i := 36) rfl) rfl
set_option maxRecDepth 100000 in
theorem qk_37 : (.fieldLink "CaptureSubtypes$Classes" 18 "CaptureSubtypes$Classes" "superTypes" "[I" : Cond) ∈ qtb := qw_in (List.mem_of_getElem? (i := 37) rfl) rfl
set_option maxRecDepth 100000 in
theorem qk_38 : (.fieldLink "CaptureSubtypes$Classes" 21 "CaptureSubtypes$Classes" "superClasses" "[I" : Cond) ∈ qtb := qw_in (List.mem_of_getElem? (i := 38) rfl) rfl
set_option maxRecDepth 100000 in
theorem qk_39 : (.fieldLink "CaptureSubtypes$Classes" 24 "CaptureSubtypes$Classes" "bounds" "[I" : Cond) ∈ qtb := qw_in (List.mem_of_getElem? (i := 39) rfl) rfl
set_option maxRecDepth 100000 in
theorem qk_40 : (.fieldLink "CaptureSubtypes$Classes" 27 "CaptureSubtypes$Classes" "boundCounts" "[I" : Cond) ∈ qtb := qw_in (List.mem_of_getElem? (i := 40) rfl) rfl
set_option maxRecDepth 100000 in
theorem qk_41 : (.fieldLink "CaptureSubtypes$Classes" 30 "CaptureSubtypes$Classes" "parents" "[I" : Cond) ∈ qtb := qw_in (List.mem_of_getElem? (i := 41) rfl) rfl
set_option maxRecDepth 100000 in
theorem qk_42 : (.fieldLink "CaptureSubtypes$Classes" 33 "CaptureSubtypes$Classes" "above" "[I" : Cond) ∈ qtb := qw_in (List.mem_of_getElem? (i := 42) rfl) rfl
set_option maxRecDepth 100000 in
theorem qk_43 : (.fieldLink "CaptureSubtypes$Classes" 36 "CaptureSubtypes$Classes" "apartFrom" "[I" : Cond) ∈ qtb := qw_in (List.mem_of_getElem? (i := 43) rfl) rfl
set_option maxRecDepth 100000 in
theorem qk_44 : (.lays "CaptureSubtypes$Classes" "CaptureSubtypes$Classes" "count" "I" : Cond) ∈ qtb := qw_in (List.mem_of_getElem? (i := 44) rfl) rfl
set_option maxRecDepth 100000 in
theorem qk_46 : (.laysFinal "CaptureSubtypes$Classes" "CaptureSubtypes$Classes" "kinds" "[I" : Cond) ∈ qtb := qw_in (List.mem_of_getElem? (i := 46) rfl) rfl
set_option maxRecDepth 100000 in
theorem qk_48 : (.laysFinal "CaptureSubtypes$Classes" "CaptureSubtypes$Classes" "parameterCounts" "[I" : Cond) ∈ qtb := qw_in (List.mem_of_getElem? (i := 48) rfl) rfl
set_option maxRecDepth 100000 in
theorem qk_50 : (.laysFinal "CaptureSubtypes$Classes" "CaptureSubtypes$Classes" "superTypes" "[I" : Cond) ∈ qtb := qw_in (List.mem_of_getElem? (i := 50) rfl) rfl
set_option maxRecDepth 100000 in
theorem qk_52 : (.laysFinal "CaptureSubtypes$Classes" "CaptureSubtypes$Classes" "superClasses" "[I" : Cond) ∈ qtb := qw_in (List.mem_of_getElem? (i := 52) rfl) rfl
set_option maxRecDepth 100000 in
theorem qk_54 : (.laysFinal "CaptureSubtypes$Classes" "CaptureSubtypes$Classes" "bounds" "[I" : Cond) ∈ qtb := qw_in (List.mem_of_getElem? (i := 54) rfl) rfl
set_option maxRecDepth 100000 in
theorem qk_56 : (.laysFinal "CaptureSubtypes$Classes" "CaptureSubtypes$Classes" "boundCounts" "[I" : Cond) ∈ qtb := qw_in (List.mem_of_getElem? (i := 56) rfl) rfl
set_option maxRecDepth 100000 in
theorem qk_58 : (.laysFinal "CaptureSubtypes$Classes" "CaptureSubtypes$Classes" "parents" "[I" : Cond) ∈ qtb := qw_in (List.mem_of_getElem? (i := 58) rfl) rfl
set_option maxRecDepth 100000 in
theorem qk_60 : (.laysFinal "CaptureSubtypes$Classes" "CaptureSubtypes$Classes" "above" "[I" : Cond) ∈ qtb := qw_in (List.mem_of_getElem? (i := 60) rfl) rfl
set_option maxRecDepth 100000 in
theorem qk_62 : (.laysFinal "CaptureSubtypes$Classes" "CaptureSubtypes$Classes" "apartFrom" "[I" : Cond) ∈ qtb := qw_in (List.mem_of_getElem? (i := 62) rfl) rfl
set_option maxRecDepth 100000 in
theorem qk_65 : (.arrayClass FieldType.int : Cond) ∈ qtb := qw_in (List.mem_of_getElem? (i := 65) rfl) rfl
set_option maxRecDepth 100000 in
theorem qk_66 : (.classLink "CaptureSubtypes" 16 "CaptureSubtypes$Types" : Cond) ∈ qtb := qw_in (List.mem_of_getElem? (i := 66) rfl) rfl
set_option maxRecDepth 100000 in
theorem qk_67 : (.instantiable "CaptureSubtypes$Types" 10 : Cond) ∈ qtb := qw_in (List.mem_of_getElem? (i := 67) rfl) rfl
set_option maxRecDepth 100000 in
theorem qk_68 : (.methodLink "CaptureSubtypes" 18 qy_T_init : Cond) ∈ qtb := qw_in (List.mem_of_getElem? (i := 68) rfl) rfl
set_option maxRecDepth 100000 in
theorem qk_69 : (.instanceMethod qy_T_init : Cond) ∈ qtb := qw_in (List.mem_of_getElem? (i := 69) rfl) rfl
set_option maxRecDepth 100000 in
theorem qk_70 : (.code qy_T_init prog_6_method_1_code 1 none : Cond) ∈ qtb := qw_in (List.mem_of_getElem? (i := 70) rfl) rfl
set_option maxRecDepth 100000 in
theorem qk_71 : (.methodLink "CaptureSubtypes$Types" 5 objectInit : Cond) ∈ qtb := qw_in (List.mem_of_getElem? (i := 71) rfl) rfl
set_option maxRecDepth 100000 in
theorem qk_72 : (.methodLink "CaptureSubtypes$Types" 38 qy_T_empty : Cond) ∈ qtb := qw_in (List.mem_of_getElem? (i := 72) rfl) rfl
set_option maxRecDepth 100000 in
theorem qk_73 : (.instanceMethod qy_T_empty : Cond) ∈ qtb := qw_in (List.mem_of_getElem? (i := 73) rfl) rfl
set_option maxRecDepth 100000 in
theorem qk_74 : (.selects "CaptureSubtypes$Types" qy_T_empty qy_T_empty : Cond) ∈ qtb := qw_in (List.mem_of_getElem? (i := 74) rfl) rfl
set_option maxRecDepth 100000 in
theorem qk_75 : (.code qy_T_empty prog_6_method_2_code 1 none : Cond) ∈ qtb := qw_in (List.mem_of_getElem? (i := 75) rfl) rfl
set_option maxRecDepth 100000 in
theorem qk_76 : (.methodLink "CaptureSubtypes$Types" 48 qy_T_keep : Cond) ∈ qtb := qw_in (List.mem_of_getElem? (i := 76) rfl) rfl
set_option maxRecDepth 100000 in
theorem qk_77 : (.instanceMethod qy_T_keep : Cond) ∈ qtb := qw_in (List.mem_of_getElem? (i := 77) rfl) rfl
set_option maxRecDepth 100000 in
theorem qk_78 : (.selects "CaptureSubtypes$Types" qy_T_keep qy_T_keep : Cond) ∈ qtb := qw_in (List.mem_of_getElem? (i := 78) rfl) rfl
set_option maxRecDepth 100000 in
theorem qk_79 : (.code qy_T_keep prog_6_method_19_code 6 (some FieldType.int) : Cond) ∈ qtb := qw_in (List.mem_of_getElem? (i := 79) rfl) rfl
set_option maxRecDepth 100000 in
theorem qk_80 : (.methodLink "CaptureSubtypes$Types" 62 qy_T_put : Cond) ∈ qtb := qw_in (List.mem_of_getElem? (i := 80) rfl) rfl
set_option maxRecDepth 100000 in
theorem qk_81 : (.instanceMethod qy_T_put : Cond) ∈ qtb := qw_in (List.mem_of_getElem? (i := 81) rfl) rfl
set_option maxRecDepth 100000 in
theorem qk_82 : (.selects "CaptureSubtypes$Types" qy_T_put qy_T_put : Cond) ∈ qtb := qw_in (List.mem_of_getElem? (i := 82) rfl) rfl
set_option maxRecDepth 100000 in
theorem qk_83 : (.code qy_T_put prog_6_method_24_code 10 (some FieldType.int) : Cond) ∈ qtb := qw_in (List.mem_of_getElem? (i := 83) rfl) rfl
set_option maxRecDepth 100000 in
theorem qk_84 : (.methodLink "CaptureSubtypes$Types" 69 Lib.Math.max.name : Cond) ∈ qtb := qw_in (List.mem_of_getElem? (i := 84) rfl) rfl
set_option maxRecDepth 100000 in
theorem qk_85 : (.static Lib.Math.max.name : Cond) ∈ qtb := qw_in (List.mem_of_getElem? (i := 85) rfl) rfl
set_option maxRecDepth 100000 in
theorem qk_86 : (.code Lib.Math.max.name prog_9_method_65_code 2 (some FieldType.int) : Cond) ∈ qtb := qw_in (List.mem_of_getElem? (i := 86) rfl) rfl
set_option maxRecDepth 100000 in
theorem qk_87 : (.fieldLink "CaptureSubtypes$Types" 41 "CaptureSubtypes$Types" "kept" "I" : Cond) ∈ qtb := qw_in (List.mem_of_getElem? (i := 87) rfl) rfl
set_option maxRecDepth 100000 in
theorem qk_88 : (.fieldLink "CaptureSubtypes" 124 "CaptureSubtypes$Types" "kept" "I" : Cond) ∈ qtb := qw_in (List.mem_of_getElem? (i := 88) rfl) rfl
set_option maxRecDepth 100000 in
theorem qk_89 : (.fieldLink "CaptureSubtypes$Types" 45 "CaptureSubtypes$Types" "top" "I" : Cond) ∈ qtb := qw_in (List.mem_of_getElem? (i := 89) rfl) rfl
set_option maxRecDepth 100000 in
theorem qk_90 : (.fieldLink "CaptureSubtypes$Types" 13 "CaptureSubtypes$Types" "sorts" "[I" : Cond) ∈ qtb := qw_in (List.mem_of_getElem? (i := 90) rfl) rfl
set_option maxRecDepth 100000 in
theorem qk_91 : (.fieldLink "CaptureSubtypes$Types" 17 "CaptureSubtypes$Types" "owners" "[I" : Cond) ∈ qtb := qw_in (List.mem_of_getElem? (i := 91) rfl) rfl
set_option maxRecDepth 100000 in
theorem qk_92 : (.fieldLink "CaptureSubtypes$Types" 20 "CaptureSubtypes$Types" "firsts" "[I" : Cond) ∈ qtb := qw_in (List.mem_of_getElem? (i := 92) rfl) rfl
set_option maxRecDepth 100000 in
theorem qk_93 : (.fieldLink "CaptureSubtypes$Types" 23 "CaptureSubtypes$Types" "seconds" "[I" : Cond) ∈ qtb := qw_in (List.mem_of_getElem? (i := 93) rfl) rfl
set_option maxRecDepth 100000 in
theorem qk_94 : (.fieldLink "CaptureSubtypes$Types" 26 "CaptureSubtypes$Types" "depths" "[I" : Cond) ∈ qtb := qw_in (List.mem_of_getElem? (i := 94) rfl) rfl
set_option maxRecDepth 100000 in
theorem qk_95 : (.fieldLink "CaptureSubtypes$Types" 29 "CaptureSubtypes$Types" "insides" "[I" : Cond) ∈ qtb := qw_in (List.mem_of_getElem? (i := 95) rfl) rfl
set_option maxRecDepth 100000 in
theorem qk_96 : (.fieldLink "CaptureSubtypes$Types" 32 "CaptureSubtypes$Types" "ups" "[I" : Cond) ∈ qtb := qw_in (List.mem_of_getElem? (i := 96) rfl) rfl
set_option maxRecDepth 100000 in
theorem qk_97 : (.fieldLink "CaptureSubtypes$Types" 35 "CaptureSubtypes$Types" "lows" "[I" : Cond) ∈ qtb := qw_in (List.mem_of_getElem? (i := 97) rfl) rfl
set_option maxRecDepth 100000 in
theorem qk_98 : (.lays "CaptureSubtypes$Types" "CaptureSubtypes$Types" "kept" "I" : Cond) ∈ qtb := qw_in (List.mem_of_getElem? (i := 98) rfl) rfl
set_option maxRecDepth 100000 in
theorem qk_100 : (.lays "CaptureSubtypes$Types" "CaptureSubtypes$Types" "top" "I" : Cond) ∈ qtb := qw_in (List.mem_of_getElem? (i := 100) rfl) rfl
set_option maxRecDepth 100000 in
theorem qk_102 : (.laysFinal "CaptureSubtypes$Types" "CaptureSubtypes$Types" "sorts" "[I" : Cond) ∈ qtb := qw_in (List.mem_of_getElem? (i := 102) rfl) rfl
set_option maxRecDepth 100000 in
theorem qk_104 : (.laysFinal "CaptureSubtypes$Types" "CaptureSubtypes$Types" "owners" "[I" : Cond) ∈ qtb := qw_in (List.mem_of_getElem? (i := 104) rfl) rfl
set_option maxRecDepth 100000 in
theorem qk_106 : (.laysFinal "CaptureSubtypes$Types" "CaptureSubtypes$Types" "firsts" "[I" : Cond) ∈ qtb := qw_in (List.mem_of_getElem? (i := 106) rfl) rfl
set_option maxRecDepth 100000 in
theorem qk_108 : (.laysFinal "CaptureSubtypes$Types" "CaptureSubtypes$Types" "seconds" "[I" : Cond) ∈ qtb := qw_in (List.mem_of_getElem? (i := 108) rfl) rfl
set_option maxRecDepth 100000 in
theorem qk_110 : (.laysFinal "CaptureSubtypes$Types" "CaptureSubtypes$Types" "depths" "[I" : Cond) ∈ qtb := qw_in (List.mem_of_getElem? (i := 110) rfl) rfl
set_option maxRecDepth 100000 in
theorem qk_112 : (.laysFinal "CaptureSubtypes$Types" "CaptureSubtypes$Types" "insides" "[I" : Cond) ∈ qtb := qw_in (List.mem_of_getElem? (i := 112) rfl) rfl
set_option maxRecDepth 100000 in
theorem qk_114 : (.laysFinal "CaptureSubtypes$Types" "CaptureSubtypes$Types" "ups" "[I" : Cond) ∈ qtb := qw_in (List.mem_of_getElem? (i := 114) rfl) rfl
set_option maxRecDepth 100000 in
theorem qk_116 : (.laysFinal "CaptureSubtypes$Types" "CaptureSubtypes$Types" "lows" "[I" : Cond) ∈ qtb := qw_in (List.mem_of_getElem? (i := 116) rfl) rfl
set_option maxRecDepth 100000 in
theorem qk_119 : (.classLink "CaptureSubtypes" 23 "CaptureSubtypes$Shapes" : Cond) ∈ qtb := qw_in (List.mem_of_getElem? (i := 119) rfl) rfl
set_option maxRecDepth 100000 in
theorem qk_120 : (.instantiable "CaptureSubtypes$Shapes" 2 : Cond) ∈ qtb := qw_in (List.mem_of_getElem? (i := 120) rfl) rfl
set_option maxRecDepth 100000 in
theorem qk_121 : (.methodLink "CaptureSubtypes" 25 qy_S_init : Cond) ∈ qtb := qw_in (List.mem_of_getElem? (i := 121) rfl) rfl
set_option maxRecDepth 100000 in
theorem qk_122 : (.instanceMethod qy_S_init : Cond) ∈ qtb := qw_in (List.mem_of_getElem? (i := 122) rfl) rfl
set_option maxRecDepth 100000 in
theorem qk_123 : (.code qy_S_init prog_4_method_1_code 3 none : Cond) ∈ qtb := qw_in (List.mem_of_getElem? (i := 123) rfl) rfl
set_option maxRecDepth 100000 in
theorem qk_124 : (.methodLink "CaptureSubtypes$Shapes" 3 objectInit : Cond) ∈ qtb := qw_in (List.mem_of_getElem? (i := 124) rfl) rfl
set_option maxRecDepth 100000 in
theorem qk_125 : (.fieldLink "CaptureSubtypes$Shapes" 9 "CaptureSubtypes$Shapes" "classes" "LCaptureSubtypes$Classes;" : Cond) ∈ qtb := qw_in (List.mem_of_getElem? (i := 125) rfl) rfl
set_option maxRecDepth 100000 in
theorem qk_126 : (.fieldLink "CaptureSubtypes$Shapes" 15 "CaptureSubtypes$Shapes" "types" "LCaptureSubtypes$Types;" : Cond) ∈ qtb := qw_in (List.mem_of_getElem? (i := 126) rfl) rfl
set_option maxRecDepth 100000 in
theorem qk_127 : (.laysFinal "CaptureSubtypes$Shapes" "CaptureSubtypes$Shapes" "classes" "LCaptureSubtypes$Classes;" : Cond) ∈ qtb := qw_in (List.mem_of_getElem? (i := 127) rfl) rfl
set_option maxRecDepth 100000 in
theorem qk_129 : (.laysFinal "CaptureSubtypes$Shapes" "CaptureSubtypes$Shapes" "types" "LCaptureSubtypes$Types;" : Cond) ∈ qtb := qw_in (List.mem_of_getElem? (i := 129) rfl) rfl
set_option maxRecDepth 100000 in
theorem qk_132 : (.classLink "CaptureSubtypes" 32 "CaptureSubtypes$Order" : Cond) ∈ qtb := qw_in (List.mem_of_getElem? (i := 132) rfl) rfl
set_option maxRecDepth 100000 in
theorem qk_133 : (.instantiable "CaptureSubtypes$Order" 3 : Cond) ∈ qtb := qw_in (List.mem_of_getElem? (i := 133) rfl) rfl
set_option maxRecDepth 100000 in
theorem qk_134 : (.methodLink "CaptureSubtypes" 34 qy_O_init : Cond) ∈ qtb := qw_in (List.mem_of_getElem? (i := 134) rfl) rfl
set_option maxRecDepth 100000 in
theorem qk_135 : (.instanceMethod qy_O_init : Cond) ∈ qtb := qw_in (List.mem_of_getElem? (i := 135) rfl) rfl
set_option maxRecDepth 100000 in
theorem qk_136 : (.code qy_O_init prog_3_method_1_code 4 none : Cond) ∈ qtb := qw_in (List.mem_of_getElem? (i := 136) rfl) rfl
set_option maxRecDepth 100000 in
theorem qk_137 : (.methodLink "CaptureSubtypes$Order" 3 objectInit : Cond) ∈ qtb := qw_in (List.mem_of_getElem? (i := 137) rfl) rfl
set_option maxRecDepth 100000 in
theorem qk_138 : (.fieldLink "CaptureSubtypes$Order" 9 "CaptureSubtypes$Order" "classes" "LCaptureSubtypes$Classes;" : Cond) ∈ qtb := qw_in (List.mem_of_getElem? (i := 138) rfl) rfl
set_option maxRecDepth 100000 in
theorem qk_139 : (.fieldLink "CaptureSubtypes$Order" 15 "CaptureSubtypes$Order" "types" "LCaptureSubtypes$Types;" : Cond) ∈ qtb := qw_in (List.mem_of_getElem? (i := 139) rfl) rfl
set_option maxRecDepth 100000 in
theorem qk_140 : (.fieldLink "CaptureSubtypes$Order" 19 "CaptureSubtypes$Order" "shapes" "LCaptureSubtypes$Shapes;" : Cond) ∈ qtb := qw_in (List.mem_of_getElem? (i := 140) rfl) rfl
set_option maxRecDepth 100000 in
theorem qk_141 : (.laysFinal "CaptureSubtypes$Order" "CaptureSubtypes$Order" "classes" "LCaptureSubtypes$Classes;" : Cond) ∈ qtb := qw_in (List.mem_of_getElem? (i := 141) rfl) rfl
set_option maxRecDepth 100000 in
theorem qk_143 : (.laysFinal "CaptureSubtypes$Order" "CaptureSubtypes$Order" "types" "LCaptureSubtypes$Types;" : Cond) ∈ qtb := qw_in (List.mem_of_getElem? (i := 143) rfl) rfl
set_option maxRecDepth 100000 in
theorem qk_145 : (.laysFinal "CaptureSubtypes$Order" "CaptureSubtypes$Order" "shapes" "LCaptureSubtypes$Shapes;" : Cond) ∈ qtb := qw_in (List.mem_of_getElem? (i := 145) rfl) rfl
set_option maxRecDepth 100000 in
theorem qk_148 : (.classLink "CaptureSubtypes" 41 "CaptureSubtypes$Turning" : Cond) ∈ qtb := qw_in (List.mem_of_getElem? (i := 148) rfl) rfl
set_option maxRecDepth 100000 in
theorem qk_149 : (.instantiable "CaptureSubtypes$Turning" 4 : Cond) ∈ qtb := qw_in (List.mem_of_getElem? (i := 149) rfl) rfl
set_option maxRecDepth 100000 in
theorem qk_150 : (.methodLink "CaptureSubtypes" 43 qy_U_init : Cond) ∈ qtb := qw_in (List.mem_of_getElem? (i := 150) rfl) rfl
set_option maxRecDepth 100000 in
theorem qk_151 : (.instanceMethod qy_U_init : Cond) ∈ qtb := qw_in (List.mem_of_getElem? (i := 151) rfl) rfl
set_option maxRecDepth 100000 in
theorem qk_152 : (.code qy_U_init prog_5_method_1_code 5 none : Cond) ∈ qtb := qw_in (List.mem_of_getElem? (i := 152) rfl) rfl
set_option maxRecDepth 100000 in
theorem qk_153 : (.methodLink "CaptureSubtypes$Turning" 3 objectInit : Cond) ∈ qtb := qw_in (List.mem_of_getElem? (i := 153) rfl) rfl
set_option maxRecDepth 100000 in
theorem qk_154 : (.fieldLink "CaptureSubtypes$Turning" 9 "CaptureSubtypes$Turning" "classes" "LCaptureSubtypes$Classes;" : Cond) ∈ qtb := qw_in (List.mem_of_getElem? (i := 154) rfl) rfl
set_option maxRecDepth 100000 in
theorem qk_155 : (.fieldLink "CaptureSubtypes$Turning" 15 "CaptureSubtypes$Turning" "types" "LCaptureSubtypes$Types;" : Cond) ∈ qtb := qw_in (List.mem_of_getElem? (i := 155) rfl) rfl
set_option maxRecDepth 100000 in
theorem qk_156 : (.fieldLink "CaptureSubtypes$Turning" 19 "CaptureSubtypes$Turning" "shapes" "LCaptureSubtypes$Shapes;" : Cond) ∈ qtb := qw_in (List.mem_of_getElem? (i := 156) rfl) rfl
set_option maxRecDepth 100000 in
theorem qk_157 : (.fieldLink "CaptureSubtypes$Turning" 23 "CaptureSubtypes$Turning" "order" "LCaptureSubtypes$Order;" : Cond) ∈ qtb := qw_in (List.mem_of_getElem? (i := 157) rfl) rfl
set_option maxRecDepth 100000 in
theorem qk_158 : (.laysFinal "CaptureSubtypes$Turning" "CaptureSubtypes$Turning" "classes" "LCaptureSubtypes$Classes;" : Cond) ∈ qtb := qw_in (List.mem_of_getElem? (i := 158) rfl) rfl
set_option maxRecDepth 100000 in
theorem qk_160 : (.laysFinal "CaptureSubtypes$Turning" "CaptureSubtypes$Turning" "types" "LCaptureSubtypes$Types;" : Cond) ∈ qtb := qw_in (List.mem_of_getElem? (i := 160) rfl) rfl
set_option maxRecDepth 100000 in
theorem qk_162 : (.laysFinal "CaptureSubtypes$Turning" "CaptureSubtypes$Turning" "shapes" "LCaptureSubtypes$Shapes;" : Cond) ∈ qtb := qw_in (List.mem_of_getElem? (i := 162) rfl) rfl
set_option maxRecDepth 100000 in
theorem qk_164 : (.laysFinal "CaptureSubtypes$Turning" "CaptureSubtypes$Turning" "order" "LCaptureSubtypes$Order;" : Cond) ∈ qtb := qw_in (List.mem_of_getElem? (i := 164) rfl) rfl
set_option maxRecDepth 100000 in
theorem qk_167 : (.fieldLink "CaptureSubtypes" 10 "CaptureSubtypes" "classes" "LCaptureSubtypes$Classes;" : Cond) ∈ qtb := qw_in (List.mem_of_getElem? (i := 167) rfl) rfl
set_option maxRecDepth 100000 in
theorem qk_168 : (.fieldLink "CaptureSubtypes" 19 "CaptureSubtypes" "types" "LCaptureSubtypes$Types;" : Cond) ∈ qtb := qw_in (List.mem_of_getElem? (i := 168) rfl) rfl
set_option maxRecDepth 100000 in
theorem qk_169 : (.fieldLink "CaptureSubtypes" 28 "CaptureSubtypes" "shapes" "LCaptureSubtypes$Shapes;" : Cond) ∈ qtb := qw_in (List.mem_of_getElem? (i := 169) rfl) rfl
set_option maxRecDepth 100000 in
theorem qk_170 : (.fieldLink "CaptureSubtypes" 37 "CaptureSubtypes" "order" "LCaptureSubtypes$Order;" : Cond) ∈ qtb := qw_in (List.mem_of_getElem? (i := 170) rfl) rfl
set_option maxRecDepth 100000 in
theorem qk_171 : (.fieldLink "CaptureSubtypes" 46 "CaptureSubtypes" "turning" "LCaptureSubtypes$Turning;" : Cond) ∈ qtb := qw_in (List.mem_of_getElem? (i := 171) rfl) rfl
set_option maxRecDepth 100000 in
theorem qk_172 : (.laysFinal "CaptureSubtypes" "CaptureSubtypes" "classes" "LCaptureSubtypes$Classes;" : Cond) ∈ qtb := qw_in (List.mem_of_getElem? (i := 172) rfl) rfl
set_option maxRecDepth 100000 in
theorem qk_174 : (.laysFinal "CaptureSubtypes" "CaptureSubtypes" "types" "LCaptureSubtypes$Types;" : Cond) ∈ qtb := qw_in (List.mem_of_getElem? (i := 174) rfl) rfl
set_option maxRecDepth 100000 in
theorem qk_176 : (.laysFinal "CaptureSubtypes" "CaptureSubtypes" "shapes" "LCaptureSubtypes$Shapes;" : Cond) ∈ qtb := qw_in (List.mem_of_getElem? (i := 176) rfl) rfl
set_option maxRecDepth 100000 in
theorem qk_178 : (.laysFinal "CaptureSubtypes" "CaptureSubtypes" "order" "LCaptureSubtypes$Order;" : Cond) ∈ qtb := qw_in (List.mem_of_getElem? (i := 178) rfl) rfl
set_option maxRecDepth 100000 in
theorem qk_180 : (.laysFinal "CaptureSubtypes" "CaptureSubtypes" "turning" "LCaptureSubtypes$Turning;" : Cond) ∈ qtb := qw_in (List.mem_of_getElem? (i := 180) rfl) rfl
set_option maxRecDepth 100000 in
theorem qk_183 : (.methodLink "CaptureSubtypesLaw" 13 qy_X_clear : Cond) ∈ qtb := qw_in (List.mem_of_getElem? (i := 183) rfl) rfl
set_option maxRecDepth 100000 in
theorem qk_184 : (.instanceMethod qy_X_clear : Cond) ∈ qtb := qw_in (List.mem_of_getElem? (i := 184) rfl) rfl
set_option maxRecDepth 100000 in
theorem qk_185 : (.selects "CaptureSubtypes" qy_X_clear qy_X_clear : Cond) ∈ qtb := qw_in (List.mem_of_getElem? (i := 185) rfl) rfl
set_option maxRecDepth 100000 in
theorem qk_186 : (.code qy_X_clear prog_1_method_2_code 2 (some FieldType.int) : Cond) ∈ qtb := qw_in (List.mem_of_getElem? (i := 186) rfl) rfl
set_option maxRecDepth 100000 in
theorem qk_187 : (.methodLink "CaptureSubtypes" 54 qy_K_empty : Cond) ∈ qtb := qw_in (List.mem_of_getElem? (i := 187) rfl) rfl
set_option maxRecDepth 100000 in
theorem qk_188 : (.methodLink "CaptureSubtypes" 57 qy_T_empty : Cond) ∈ qtb := qw_in (List.mem_of_getElem? (i := 188) rfl) rfl
set_option maxRecDepth 100000 in
theorem qk_189 : (.methodLink "CaptureSubtypesLaw" 18 qy_X_declare : Cond) ∈ qtb := qw_in (List.mem_of_getElem? (i := 189) rfl) rfl
set_option maxRecDepth 100000 in
theorem qk_190 : (.instanceMethod qy_X_declare : Cond) ∈ qtb := qw_in (List.mem_of_getElem? (i := 190) rfl) rfl
set_option maxRecDepth 100000 in
theorem qk_191 : (.selects "CaptureSubtypes" qy_X_declare qy_X_declare : Cond) ∈ qtb := qw_in (List.mem_of_getElem? (i := 191) rfl) rfl
set_option maxRecDepth 100000 in
theorem qk_192 : (.code qy_X_declare prog_1_method_3_code 3 (some FieldType.int) : Cond) ∈ qtb := qw_in (List.mem_of_getElem? (i := 192) rfl) rfl
set_option maxRecDepth 100000 in
theorem qk_193 : (.methodLink "CaptureSubtypes" 58 qy_K_add : Cond) ∈ qtb := qw_in (List.mem_of_getElem? (i := 193) rfl) rfl
set_option maxRecDepth 100000 in
theorem qk_194 : (.instanceMethod qy_K_add : Cond) ∈ qtb := qw_in (List.mem_of_getElem? (i := 194) rfl) rfl
set_option maxRecDepth 100000 in
theorem qk_195 : (.selects "CaptureSubtypes$Classes" qy_K_add qy_K_add : Cond) ∈ qtb := qw_in (List.mem_of_getElem? (i := 195) rfl) rfl
set_option maxRecDepth 100000 in
theorem qk_196 : (.code qy_K_add prog_2_method_3_code 3 (some FieldType.int) : Cond) ∈ qtb := qw_in (List.mem_of_getElem? (i := 196) rfl) rfl
set_option maxRecDepth 100000 in
theorem qk_197 : (.methodLink "CaptureSubtypes$Classes" 50 qy_K_reckon : Cond) ∈ qtb := qw_in (List.mem_of_getElem? (i := 197) rfl) rfl
set_option maxRecDepth 100000 in
theorem qk_199 : (.instanceMethod qy_K_reckon : Cond) ∈ qtb := qw_in (List.mem_of_getElem? (i := 199) rfl) rfl
set_option maxRecDepth 100000 in
theorem qk_200 : (.code qy_K_reckon prog_2_method_25_code 1 none : Cond) ∈ qtb := qw_in (List.mem_of_getElem? (i := 200) rfl) rfl
set_option maxRecDepth 100000 in
theorem qk_201 : (.methodLink "CaptureSubtypes$Classes" 77 qy_K_reckonAbove : Cond) ∈ qtb := qw_in (List.mem_of_getElem? (i := 201) rfl) rfl
set_option maxRecDepth 100000 in
theorem qk_203 : (.instanceMethod qy_K_reckonAbove : Cond) ∈ qtb := qw_in (List.mem_of_getElem? (i := 203) rfl) rfl
set_option maxRecDepth 100000 in
theorem qk_204 : (.code qy_K_reckonAbove prog_2_method_26_code 4 none : Cond) ∈ qtb := qw_in (List.mem_of_getElem? (i := 204) rfl) rfl
set_option maxRecDepth 100000 in
theorem qk_205 : (.methodLink "CaptureSubtypes$Classes" 61 qy_K_superClass : Cond) ∈ qtb := qw_in (List.mem_of_getElem? (i := 205) rfl) rfl
set_option maxRecDepth 100000 in
theorem qk_206 : (.instanceMethod qy_K_superClass : Cond) ∈ qtb := qw_in (List.mem_of_getElem? (i := 206) rfl) rfl
set_option maxRecDepth 100000 in
theorem qk_207 : (.selects "CaptureSubtypes$Classes" qy_K_superClass qy_K_superClass : Cond) ∈ qtb := qw_in (List.mem_of_getElem? (i := 207) rfl) rfl
set_option maxRecDepth 100000 in
theorem qk_208 : (.code qy_K_superClass prog_2_method_15_code 4 (some FieldType.int) : Cond) ∈ qtb := qw_in (List.mem_of_getElem? (i := 208) rfl) rfl
set_option maxRecDepth 100000 in
theorem qk_209 : (.methodLink "CaptureSubtypes$Classes" 80 qy_K_reckonApart : Cond) ∈ qtb := qw_in (List.mem_of_getElem? (i := 209) rfl) rfl
set_option maxRecDepth 100000 in
theorem qk_211 : (.instanceMethod qy_K_reckonApart : Cond) ∈ qtb := qw_in (List.mem_of_getElem? (i := 211) rfl) rfl
set_option maxRecDepth 100000 in
theorem qk_212 : (.code qy_K_reckonApart prog_2_method_27_code 3 none : Cond) ∈ qtb := qw_in (List.mem_of_getElem? (i := 212) rfl) rfl
set_option maxRecDepth 100000 in
theorem qk_213 : (.methodLink "CaptureSubtypes$Classes" 83 qy_K_mustBeApart : Cond) ∈ qtb := qw_in (List.mem_of_getElem? (i := 213) rfl) rfl
set_option maxRecDepth 100000 in
theorem qk_215 : (.instanceMethod qy_K_mustBeApart : Cond) ∈ qtb := qw_in (List.mem_of_getElem? (i := 215) rfl) rfl
set_option maxRecDepth 100000 in
theorem qk_216 : (.code qy_K_mustBeApart prog_2_method_28_code 3 (some FieldType.boolean) : Cond) ∈ qtb := qw_in (List.mem_of_getElem? (i := 216) rfl) rfl
set_option maxRecDepth 100000 in
theorem qk_217 : (.methodLink "CaptureSubtypes$Classes" 64 qy_K_isUnder : Cond) ∈ qtb := qw_in (List.mem_of_getElem? (i := 217) rfl) rfl
set_option maxRecDepth 100000 in
theorem qk_218 : (.instanceMethod qy_K_isUnder : Cond) ∈ qtb := qw_in (List.mem_of_getElem? (i := 218) rfl) rfl
set_option maxRecDepth 100000 in
theorem qk_219 : (.selects "CaptureSubtypes$Classes" qy_K_isUnder qy_K_isUnder : Cond) ∈ qtb := qw_in (List.mem_of_getElem? (i := 219) rfl) rfl
set_option maxRecDepth 100000 in
theorem qk_220 : (.code qy_K_isUnder prog_2_method_11_code 3 (some FieldType.boolean) : Cond) ∈ qtb := qw_in (List.mem_of_getElem? (i := 220) rfl) rfl
set_option maxRecDepth 100000 in
theorem qk_221 : (.methodLink "CaptureSubtypes$Classes" 53 qy_K_isFace : Cond) ∈ qtb := qw_in (List.mem_of_getElem? (i := 221) rfl) rfl
set_option maxRecDepth 100000 in
theorem qk_222 : (.instanceMethod qy_K_isFace : Cond) ∈ qtb := qw_in (List.mem_of_getElem? (i := 222) rfl) rfl
set_option maxRecDepth 100000 in
theorem qk_223 : (.selects "CaptureSubtypes$Classes" qy_K_isFace qy_K_isFace : Cond) ∈ qtb := qw_in (List.mem_of_getElem? (i := 223) rfl) rfl
set_option maxRecDepth 100000 in
theorem qk_224 : (.code qy_K_isFace prog_2_method_7_code 2 (some FieldType.boolean) : Cond) ∈ qtb := qw_in (List.mem_of_getElem? (i := 224) rfl) rfl
set_option maxRecDepth 100000 in
theorem qk_225 : (.methodLink "CaptureSubtypes$Classes" 86 qy_K_kindOf : Cond) ∈ qtb := qw_in (List.mem_of_getElem? (i := 225) rfl) rfl
set_option maxRecDepth 100000 in
theorem qk_226 : (.instanceMethod qy_K_kindOf : Cond) ∈ qtb := qw_in (List.mem_of_getElem? (i := 226) rfl) rfl
set_option maxRecDepth 100000 in
theorem qk_227 : (.selects "CaptureSubtypes$Classes" qy_K_kindOf qy_K_kindOf : Cond) ∈ qtb := qw_in (List.mem_of_getElem? (i := 227) rfl) rfl
set_option maxRecDepth 100000 in
theorem qk_228 : (.code qy_K_kindOf prog_2_method_6_code 2 (some FieldType.int) : Cond) ∈ qtb := qw_in (List.mem_of_getElem? (i := 228) rfl) rfl
set_option maxRecDepth 100000 in
theorem qk_229 : (.methodLink "CaptureSubtypes$Classes" 90 qy_K_isSealed : Cond) ∈ qtb := qw_in (List.mem_of_getElem? (i := 229) rfl) rfl
set_option maxRecDepth 100000 in
theorem qk_231 : (.instanceMethod qy_K_isSealed : Cond) ∈ qtb := qw_in (List.mem_of_getElem? (i := 231) rfl) rfl
set_option maxRecDepth 100000 in
theorem qk_232 : (.code qy_K_isSealed prog_2_method_29_code 3 (some FieldType.boolean) : Cond) ∈ qtb := qw_in (List.mem_of_getElem? (i := 232) rfl) rfl
set_option maxRecDepth 100000 in
theorem qk_233 : (.methodLink "CaptureSubtypes$Classes" 93 qy_K_heirsApartFrom : Cond) ∈ qtb := qw_in (List.mem_of_getElem? (i := 233) rfl) rfl
set_option maxRecDepth 100000 in
theorem qk_235 : (.instanceMethod qy_K_heirsApartFrom : Cond) ∈ qtb := qw_in (List.mem_of_getElem? (i := 235) rfl) rfl
set_option maxRecDepth 100000 in
theorem qk_236 : (.code qy_K_heirsApartFrom prog_2_method_30_code 4 (some FieldType.boolean) : Cond) ∈ qtb := qw_in (List.mem_of_getElem? (i := 236) rfl) rfl
set_option maxRecDepth 100000 in
theorem qk_237 : (.methodLink "CaptureSubtypes$Classes" 68 qy_K_isHeir : Cond) ∈ qtb := qw_in (List.mem_of_getElem? (i := 237) rfl) rfl
set_option maxRecDepth 100000 in
theorem qk_239 : (.instanceMethod qy_K_isHeir : Cond) ∈ qtb := qw_in (List.mem_of_getElem? (i := 239) rfl) rfl
set_option maxRecDepth 100000 in
theorem qk_240 : (.code qy_K_isHeir prog_2_method_13_code 3 (some FieldType.boolean) : Cond) ∈ qtb := qw_in (List.mem_of_getElem? (i := 240) rfl) rfl
set_option maxRecDepth 100000 in
theorem qk_241 : (.methodLink "CaptureSubtypes$Classes" 99 qy_K_areApart : Cond) ∈ qtb := qw_in (List.mem_of_getElem? (i := 241) rfl) rfl
set_option maxRecDepth 100000 in
theorem qk_242 : (.instanceMethod qy_K_areApart : Cond) ∈ qtb := qw_in (List.mem_of_getElem? (i := 242) rfl) rfl
set_option maxRecDepth 100000 in
theorem qk_243 : (.selects "CaptureSubtypes$Classes" qy_K_areApart qy_K_areApart : Cond) ∈ qtb := qw_in (List.mem_of_getElem? (i := 243) rfl) rfl
set_option maxRecDepth 100000 in
theorem qk_244 : (.code qy_K_areApart prog_2_method_12_code 3 (some FieldType.boolean) : Cond) ∈ qtb := qw_in (List.mem_of_getElem? (i := 244) rfl) rfl
set_option maxRecDepth 100000 in
theorem qk_245 : (.methodLink "CaptureSubtypes$Classes" 96 qy_K_apartFromHeirs : Cond) ∈ qtb := qw_in (List.mem_of_getElem? (i := 245) rfl) rfl
set_option maxRecDepth 100000 in
theorem qk_247 : (.instanceMethod qy_K_apartFromHeirs : Cond) ∈ qtb := qw_in (List.mem_of_getElem? (i := 247) rfl) rfl
set_option maxRecDepth 100000 in
theorem qk_248 : (.code qy_K_apartFromHeirs prog_2_method_31_code 4 (some FieldType.boolean) : Cond) ∈ qtb := qw_in (List.mem_of_getElem? (i := 248) rfl) rfl
set_option maxRecDepth 100000 in
theorem qk_249 : (.methodLink "CaptureSubtypesLaw" 23 qy_X_inherit : Cond) ∈ qtb := qw_in (List.mem_of_getElem? (i := 249) rfl) rfl
set_option maxRecDepth 100000 in
theorem qk_250 : (.instanceMethod qy_X_inherit : Cond) ∈ qtb := qw_in (List.mem_of_getElem? (i := 250) rfl) rfl
set_option maxRecDepth 100000 in
theorem qk_251 : (.selects "CaptureSubtypes" qy_X_inherit qy_X_inherit : Cond) ∈ qtb := qw_in (List.mem_of_getElem? (i := 251) rfl) rfl
set_option maxRecDepth 100000 in
theorem qk_252 : (.code qy_X_inherit prog_1_method_4_code 7 (some FieldType.int) : Cond) ∈ qtb := qw_in (List.mem_of_getElem? (i := 252) rfl) rfl
set_option maxRecDepth 100000 in
theorem qk_253 : (.methodLink "CaptureSubtypes" 62 qy_X_mayBeSuper : Cond) ∈ qtb := qw_in (List.mem_of_getElem? (i := 253) rfl) rfl
set_option maxRecDepth 100000 in
theorem qk_255 : (.instanceMethod qy_X_mayBeSuper : Cond) ∈ qtb := qw_in (List.mem_of_getElem? (i := 255) rfl) rfl
set_option maxRecDepth 100000 in
theorem qk_256 : (.code qy_X_mayBeSuper prog_1_method_22_code 4 (some FieldType.boolean) : Cond) ∈ qtb := qw_in (List.mem_of_getElem? (i := 256) rfl) rfl
set_option maxRecDepth 100000 in
theorem qk_257 : (.methodLink "CaptureSubtypes" 101 qy_K_has : Cond) ∈ qtb := qw_in (List.mem_of_getElem? (i := 257) rfl) rfl
set_option maxRecDepth 100000 in
theorem qk_258 : (.instanceMethod qy_K_has : Cond) ∈ qtb := qw_in (List.mem_of_getElem? (i := 258) rfl) rfl
set_option maxRecDepth 100000 in
theorem qk_259 : (.selects "CaptureSubtypes$Classes" qy_K_has qy_K_has : Cond) ∈ qtb := qw_in (List.mem_of_getElem? (i := 259) rfl) rfl
set_option maxRecDepth 100000 in
theorem qk_260 : (.code qy_K_has prog_2_method_5_code 2 (some FieldType.boolean) : Cond) ∈ qtb := qw_in (List.mem_of_getElem? (i := 260) rfl) rfl
set_option maxRecDepth 100000 in
theorem qk_261 : (.methodLink "CaptureSubtypes" 127 qy_T_has : Cond) ∈ qtb := qw_in (List.mem_of_getElem? (i := 261) rfl) rfl
set_option maxRecDepth 100000 in
theorem qk_262 : (.instanceMethod qy_T_has : Cond) ∈ qtb := qw_in (List.mem_of_getElem? (i := 262) rfl) rfl
set_option maxRecDepth 100000 in
theorem qk_263 : (.selects "CaptureSubtypes$Types" qy_T_has qy_T_has : Cond) ∈ qtb := qw_in (List.mem_of_getElem? (i := 263) rfl) rfl
set_option maxRecDepth 100000 in
theorem qk_264 : (.code qy_T_has prog_6_method_3_code 2 (some FieldType.boolean) : Cond) ∈ qtb := qw_in (List.mem_of_getElem? (i := 264) rfl) rfl
set_option maxRecDepth 100000 in
theorem qk_265 : (.methodLink "CaptureSubtypes" 168 qy_T_isOfClass : Cond) ∈ qtb := qw_in (List.mem_of_getElem? (i := 265) rfl) rfl
set_option maxRecDepth 100000 in
theorem qk_266 : (.instanceMethod qy_T_isOfClass : Cond) ∈ qtb := qw_in (List.mem_of_getElem? (i := 266) rfl) rfl
set_option maxRecDepth 100000 in
theorem qk_267 : (.selects "CaptureSubtypes$Types" qy_T_isOfClass qy_T_isOfClass : Cond) ∈ qtb := qw_in (List.mem_of_getElem? (i := 267) rfl) rfl
set_option maxRecDepth 100000 in
theorem qk_268 : (.code qy_T_isOfClass prog_6_method_14_code 3 (some FieldType.boolean) : Cond) ∈ qtb := qw_in (List.mem_of_getElem? (i := 268) rfl) rfl
set_option maxRecDepth 100000 in
theorem qk_269 : (.methodLink "CaptureSubtypes$Types" 52 qy_T_sortOf : Cond) ∈ qtb := qw_in (List.mem_of_getElem? (i := 269) rfl) rfl
set_option maxRecDepth 100000 in
theorem qk_270 : (.instanceMethod qy_T_sortOf : Cond) ∈ qtb := qw_in (List.mem_of_getElem? (i := 270) rfl) rfl
set_option maxRecDepth 100000 in
theorem qk_271 : (.selects "CaptureSubtypes$Types" qy_T_sortOf qy_T_sortOf : Cond) ∈ qtb := qw_in (List.mem_of_getElem? (i := 271) rfl) rfl
set_option maxRecDepth 100000 in
theorem qk_272 : (.code qy_T_sortOf prog_6_method_4_code 2 (some FieldType.int) : Cond) ∈ qtb := qw_in (List.mem_of_getElem? (i := 272) rfl) rfl
set_option maxRecDepth 100000 in
theorem qk_273 : (.methodLink "CaptureSubtypes" 66 qy_T_ownerOf : Cond) ∈ qtb := qw_in (List.mem_of_getElem? (i := 273) rfl) rfl
set_option maxRecDepth 100000 in
theorem qk_274 : (.instanceMethod qy_T_ownerOf : Cond) ∈ qtb := qw_in (List.mem_of_getElem? (i := 274) rfl) rfl
set_option maxRecDepth 100000 in
theorem qk_275 : (.selects "CaptureSubtypes$Types" qy_T_ownerOf qy_T_ownerOf : Cond) ∈ qtb := qw_in (List.mem_of_getElem? (i := 275) rfl) rfl
set_option maxRecDepth 100000 in
theorem qk_276 : (.code qy_T_ownerOf prog_6_method_5_code 2 (some FieldType.int) : Cond) ∈ qtb := qw_in (List.mem_of_getElem? (i := 276) rfl) rfl
set_option maxRecDepth 100000 in
theorem qk_277 : (.methodLink "CaptureSubtypes" 137 qy_K_kindOf : Cond) ∈ qtb := qw_in (List.mem_of_getElem? (i := 277) rfl) rfl
set_option maxRecDepth 100000 in
theorem qk_278 : (.methodLink "CaptureSubtypes" 183 qy_T_isInWordsOf : Cond) ∈ qtb := qw_in (List.mem_of_getElem? (i := 278) rfl) rfl
set_option maxRecDepth 100000 in
theorem qk_279 : (.instanceMethod qy_T_isInWordsOf : Cond) ∈ qtb := qw_in (List.mem_of_getElem? (i := 279) rfl) rfl
set_option maxRecDepth 100000 in
theorem qk_280 : (.selects "CaptureSubtypes$Types" qy_T_isInWordsOf qy_T_isInWordsOf : Cond) ∈ qtb := qw_in (List.mem_of_getElem? (i := 280) rfl) rfl
set_option maxRecDepth 100000 in
theorem qk_281 : (.code qy_T_isInWordsOf prog_6_method_18_code 3 (some FieldType.boolean) : Cond) ∈ qtb := qw_in (List.mem_of_getElem? (i := 281) rfl) rfl
set_option maxRecDepth 100000 in
theorem qk_282 : (.methodLink "CaptureSubtypes" 186 qy_K_isFace : Cond) ∈ qtb := qw_in (List.mem_of_getElem? (i := 282) rfl) rfl
set_option maxRecDepth 100000 in
theorem qk_283 : (.methodLink "CaptureSubtypes" 70 qy_K_freeSlot : Cond) ∈ qtb := qw_in (List.mem_of_getElem? (i := 283) rfl) rfl
set_option maxRecDepth 100000 in
theorem qk_284 : (.instanceMethod qy_K_freeSlot : Cond) ∈ qtb := qw_in (List.mem_of_getElem? (i := 284) rfl) rfl
set_option maxRecDepth 100000 in
theorem qk_285 : (.selects "CaptureSubtypes$Classes" qy_K_freeSlot qy_K_freeSlot : Cond) ∈ qtb := qw_in (List.mem_of_getElem? (i := 285) rfl) rfl
set_option maxRecDepth 100000 in
theorem qk_286 : (.code qy_K_freeSlot prog_2_method_17_code 4 (some FieldType.int) : Cond) ∈ qtb := qw_in (List.mem_of_getElem? (i := 286) rfl) rfl
set_option maxRecDepth 100000 in
theorem qk_287 : (.methodLink "CaptureSubtypes$Classes" 57 qy_K_superType : Cond) ∈ qtb := qw_in (List.mem_of_getElem? (i := 287) rfl) rfl
set_option maxRecDepth 100000 in
theorem qk_288 : (.instanceMethod qy_K_superType : Cond) ∈ qtb := qw_in (List.mem_of_getElem? (i := 288) rfl) rfl
set_option maxRecDepth 100000 in
theorem qk_289 : (.selects "CaptureSubtypes$Classes" qy_K_superType qy_K_superType : Cond) ∈ qtb := qw_in (List.mem_of_getElem? (i := 289) rfl) rfl
set_option maxRecDepth 100000 in
theorem qk_290 : (.code qy_K_superType prog_2_method_14_code 4 (some FieldType.int) : Cond) ∈ qtb := qw_in (List.mem_of_getElem? (i := 290) rfl) rfl
set_option maxRecDepth 100000 in
theorem qk_291 : (.methodLink "CaptureSubtypes" 73 qy_K_superType : Cond) ∈ qtb := qw_in (List.mem_of_getElem? (i := 291) rfl) rfl
set_option maxRecDepth 100000 in
theorem qk_292 : (.methodLink "CaptureSubtypes" 76 qy_K_superClass : Cond) ∈ qtb := qw_in (List.mem_of_getElem? (i := 292) rfl) rfl
set_option maxRecDepth 100000 in
theorem qk_293 : (.methodLink "CaptureSubtypes" 79 qy_K_setSuper : Cond) ∈ qtb := qw_in (List.mem_of_getElem? (i := 293) rfl) rfl
set_option maxRecDepth 100000 in
theorem qk_294 : (.instanceMethod qy_K_setSuper : Cond) ∈ qtb := qw_in (List.mem_of_getElem? (i := 294) rfl) rfl
set_option maxRecDepth 100000 in
theorem qk_295 : (.selects "CaptureSubtypes$Classes" qy_K_setSuper qy_K_setSuper : Cond) ∈ qtb := qw_in (List.mem_of_getElem? (i := 295) rfl) rfl
set_option maxRecDepth 100000 in
theorem qk_296 : (.code qy_K_setSuper prog_2_method_16_code 5 none : Cond) ∈ qtb := qw_in (List.mem_of_getElem? (i := 296) rfl) rfl
set_option maxRecDepth 100000 in
theorem qk_297 : (.methodLink "CaptureSubtypes" 83 qy_S_clashes : Cond) ∈ qtb := qw_in (List.mem_of_getElem? (i := 297) rfl) rfl
set_option maxRecDepth 100000 in
theorem qk_298 : (.instanceMethod qy_S_clashes : Cond) ∈ qtb := qw_in (List.mem_of_getElem? (i := 298) rfl) rfl
set_option maxRecDepth 100000 in
theorem qk_299 : (.selects "CaptureSubtypes$Shapes" qy_S_clashes qy_S_clashes : Cond) ∈ qtb := qw_in (List.mem_of_getElem? (i := 299) rfl) rfl
set_option maxRecDepth 100000 in
theorem qk_300 : (.code qy_S_clashes prog_4_method_9_code 3 (some FieldType.boolean) : Cond) ∈ qtb := qw_in (List.mem_of_getElem? (i := 300) rfl) rfl
set_option maxRecDepth 100000 in
theorem qk_301 : (.methodLink "CaptureSubtypes$Shapes" 111 qy_S_clashesAt : Cond) ∈ qtb := qw_in (List.mem_of_getElem? (i := 301) rfl) rfl
set_option maxRecDepth 100000 in
theorem qk_303 : (.instanceMethod qy_S_clashesAt : Cond) ∈ qtb := qw_in (List.mem_of_getElem? (i := 303) rfl) rfl
set_option maxRecDepth 100000 in
theorem qk_304 : (.code qy_S_clashesAt prog_4_method_10_code 8 (some FieldType.boolean) : Cond) ∈ qtb := qw_in (List.mem_of_getElem? (i := 304) rfl) rfl
set_option maxRecDepth 100000 in
theorem qk_305 : (.methodLink "CaptureSubtypes$Shapes" 114 qy_T_mark : Cond) ∈ qtb := qw_in (List.mem_of_getElem? (i := 305) rfl) rfl
set_option maxRecDepth 100000 in
theorem qk_306 : (.instanceMethod qy_T_mark : Cond) ∈ qtb := qw_in (List.mem_of_getElem? (i := 306) rfl) rfl
set_option maxRecDepth 100000 in
theorem qk_307 : (.selects "CaptureSubtypes$Types" qy_T_mark qy_T_mark : Cond) ∈ qtb := qw_in (List.mem_of_getElem? (i := 307) rfl) rfl
set_option maxRecDepth 100000 in
theorem qk_308 : (.code qy_T_mark prog_6_method_22_code 1 (some FieldType.int) : Cond) ∈ qtb := qw_in (List.mem_of_getElem? (i := 308) rfl) rfl
set_option maxRecDepth 100000 in
theorem qk_309 : (.methodLink "CaptureSubtypes$Shapes" 101 qy_K_superClass : Cond) ∈ qtb := qw_in (List.mem_of_getElem? (i := 309) rfl) rfl
set_option maxRecDepth 100000 in
theorem qk_310 : (.methodLink "CaptureSubtypes$Shapes" 118 qy_K_isUnder : Cond) ∈ qtb := qw_in (List.mem_of_getElem? (i := 310) rfl) rfl
set_option maxRecDepth 100000 in
theorem qk_311 : (.methodLink "CaptureSubtypes$Shapes" 104 qy_K_superType : Cond) ∈ qtb := qw_in (List.mem_of_getElem? (i := 311) rfl) rfl
set_option maxRecDepth 100000 in
theorem qk_312 : (.methodLink "CaptureSubtypes$Shapes" 121 qy_S_viewedAs : Cond) ∈ qtb := qw_in (List.mem_of_getElem? (i := 312) rfl) rfl
set_option maxRecDepth 100000 in
theorem qk_313 : (.instanceMethod qy_S_viewedAs : Cond) ∈ qtb := qw_in (List.mem_of_getElem? (i := 313) rfl) rfl
set_option maxRecDepth 100000 in
theorem qk_314 : (.selects "CaptureSubtypes$Shapes" qy_S_viewedAs qy_S_viewedAs : Cond) ∈ qtb := qw_in (List.mem_of_getElem? (i := 314) rfl) rfl
set_option maxRecDepth 100000 in
theorem qk_315 : (.code qy_S_viewedAs prog_4_method_8_code 7 (some FieldType.int) : Cond) ∈ qtb := qw_in (List.mem_of_getElem? (i := 315) rfl) rfl
set_option maxRecDepth 100000 in
theorem qk_316 : (.methodLink "CaptureSubtypes$Shapes" 25 qy_T_ownerOf : Cond) ∈ qtb := qw_in (List.mem_of_getElem? (i := 316) rfl) rfl
set_option maxRecDepth 100000 in
theorem qk_317 : (.methodLink "CaptureSubtypes$Shapes" 19 qy_T_isOfClass : Cond) ∈ qtb := qw_in (List.mem_of_getElem? (i := 317) rfl) rfl
set_option maxRecDepth 100000 in
theorem qk_318 : (.methodLink "CaptureSubtypes$Shapes" 98 qy_K_slotTowards : Cond) ∈ qtb := qw_in (List.mem_of_getElem? (i := 318) rfl) rfl
set_option maxRecDepth 100000 in
theorem qk_319 : (.instanceMethod qy_K_slotTowards : Cond) ∈ qtb := qw_in (List.mem_of_getElem? (i := 319) rfl) rfl
set_option maxRecDepth 100000 in
theorem qk_320 : (.selects "CaptureSubtypes$Classes" qy_K_slotTowards qy_K_slotTowards : Cond) ∈ qtb := qw_in (List.mem_of_getElem? (i := 320) rfl) rfl
set_option maxRecDepth 100000 in
theorem qk_321 : (.code qy_K_slotTowards prog_2_method_19_code 4 (some FieldType.int) : Cond) ∈ qtb := qw_in (List.mem_of_getElem? (i := 321) rfl) rfl
set_option maxRecDepth 100000 in
theorem qk_322 : (.methodLink "CaptureSubtypes$Shapes" 42 qy_T_sortOf : Cond) ∈ qtb := qw_in (List.mem_of_getElem? (i := 322) rfl) rfl
set_option maxRecDepth 100000 in
theorem qk_323 : (.methodLink "CaptureSubtypes$Shapes" 29 qy_S_nameAlone : Cond) ∈ qtb := qw_in (List.mem_of_getElem? (i := 323) rfl) rfl
set_option maxRecDepth 100000 in
theorem qk_325 : (.instanceMethod qy_S_nameAlone : Cond) ∈ qtb := qw_in (List.mem_of_getElem? (i := 325) rfl) rfl
set_option maxRecDepth 100000 in
theorem qk_326 : (.code qy_S_nameAlone prog_4_method_3_code 2 (some FieldType.int) : Cond) ∈ qtb := qw_in (List.mem_of_getElem? (i := 326) rfl) rfl
set_option maxRecDepth 100000 in
theorem qk_327 : (.methodLink "CaptureSubtypes$Shapes" 52 qy_K_has : Cond) ∈ qtb := qw_in (List.mem_of_getElem? (i := 327) rfl) rfl
set_option maxRecDepth 100000 in
theorem qk_328 : (.methodLink "CaptureSubtypes$Shapes" 57 qy_K_nameSort : Cond) ∈ qtb := qw_in (List.mem_of_getElem? (i := 328) rfl) rfl
set_option maxRecDepth 100000 in
theorem qk_329 : (.instanceMethod qy_K_nameSort : Cond) ∈ qtb := qw_in (List.mem_of_getElem? (i := 329) rfl) rfl
set_option maxRecDepth 100000 in
theorem qk_330 : (.selects "CaptureSubtypes$Classes" qy_K_nameSort qy_K_nameSort : Cond) ∈ qtb := qw_in (List.mem_of_getElem? (i := 330) rfl) rfl
set_option maxRecDepth 100000 in
theorem qk_331 : (.code qy_K_nameSort prog_2_method_10_code 2 (some FieldType.int) : Cond) ∈ qtb := qw_in (List.mem_of_getElem? (i := 331) rfl) rfl
set_option maxRecDepth 100000 in
theorem qk_332 : (.methodLink "CaptureSubtypes$Shapes" 48 qy_T_put : Cond) ∈ qtb := qw_in (List.mem_of_getElem? (i := 332) rfl) rfl
set_option maxRecDepth 100000 in
theorem qk_333 : (.methodLink "CaptureSubtypes$Shapes" 78 qy_S_putIn : Cond) ∈ qtb := qw_in (List.mem_of_getElem? (i := 333) rfl) rfl
set_option maxRecDepth 100000 in
theorem qk_335 : (.instanceMethod qy_S_putIn : Cond) ∈ qtb := qw_in (List.mem_of_getElem? (i := 335) rfl) rfl
set_option maxRecDepth 100000 in
theorem qk_336 : (.code qy_S_putIn prog_4_method_6_code 8 (some FieldType.int) : Cond) ∈ qtb := qw_in (List.mem_of_getElem? (i := 336) rfl) rfl
set_option maxRecDepth 100000 in
theorem qk_337 : (.methodLink "CaptureSubtypes$Shapes" 81 qy_T_mentions : Cond) ∈ qtb := qw_in (List.mem_of_getElem? (i := 337) rfl) rfl
set_option maxRecDepth 100000 in
theorem qk_338 : (.instanceMethod qy_T_mentions : Cond) ∈ qtb := qw_in (List.mem_of_getElem? (i := 338) rfl) rfl
set_option maxRecDepth 100000 in
theorem qk_339 : (.selects "CaptureSubtypes$Types" qy_T_mentions qy_T_mentions : Cond) ∈ qtb := qw_in (List.mem_of_getElem? (i := 339) rfl) rfl
set_option maxRecDepth 100000 in
theorem qk_340 : (.code qy_T_mentions prog_6_method_17_code 3 (some FieldType.boolean) : Cond) ∈ qtb := qw_in (List.mem_of_getElem? (i := 340) rfl) rfl
set_option maxRecDepth 100000 in
theorem qk_341 : (.methodLink "CaptureSubtypes$Shapes" 45 qy_T_firstOf : Cond) ∈ qtb := qw_in (List.mem_of_getElem? (i := 341) rfl) rfl
set_option maxRecDepth 100000 in
theorem qk_342 : (.instanceMethod qy_T_firstOf : Cond) ∈ qtb := qw_in (List.mem_of_getElem? (i := 342) rfl) rfl
set_option maxRecDepth 100000 in
theorem qk_343 : (.selects "CaptureSubtypes$Types" qy_T_firstOf qy_T_firstOf : Cond) ∈ qtb := qw_in (List.mem_of_getElem? (i := 343) rfl) rfl
set_option maxRecDepth 100000 in
theorem qk_344 : (.code qy_T_firstOf prog_6_method_6_code 2 (some FieldType.int) : Cond) ∈ qtb := qw_in (List.mem_of_getElem? (i := 344) rfl) rfl
set_option maxRecDepth 100000 in
theorem qk_345 : (.methodLink "CaptureSubtypes$Shapes" 85 qy_T_argumentOf : Cond) ∈ qtb := qw_in (List.mem_of_getElem? (i := 345) rfl) rfl
set_option maxRecDepth 100000 in
theorem qk_346 : (.instanceMethod qy_T_argumentOf : Cond) ∈ qtb := qw_in (List.mem_of_getElem? (i := 346) rfl) rfl
set_option maxRecDepth 100000 in
theorem qk_347 : (.selects "CaptureSubtypes$Types" qy_T_argumentOf qy_T_argumentOf : Cond) ∈ qtb := qw_in (List.mem_of_getElem? (i := 347) rfl) rfl
set_option maxRecDepth 100000 in
theorem qk_348 : (.code qy_T_argumentOf prog_6_method_11_code 3 (some FieldType.int) : Cond) ∈ qtb := qw_in (List.mem_of_getElem? (i := 348) rfl) rfl
set_option maxRecDepth 100000 in
theorem qk_349 : (.methodLink "CaptureSubtypes$Shapes" 75 qy_T_secondOf : Cond) ∈ qtb := qw_in (List.mem_of_getElem? (i := 349) rfl) rfl
set_option maxRecDepth 100000 in
theorem qk_350 : (.instanceMethod qy_T_secondOf : Cond) ∈ qtb := qw_in (List.mem_of_getElem? (i := 350) rfl) rfl
set_option maxRecDepth 100000 in
theorem qk_351 : (.selects "CaptureSubtypes$Types" qy_T_secondOf qy_T_secondOf : Cond) ∈ qtb := qw_in (List.mem_of_getElem? (i := 351) rfl) rfl
set_option maxRecDepth 100000 in
theorem qk_352 : (.code qy_T_secondOf prog_6_method_7_code 2 (some FieldType.int) : Cond) ∈ qtb := qw_in (List.mem_of_getElem? (i := 352) rfl) rfl
set_option maxRecDepth 100000 in
theorem qk_353 : (.methodLink "CaptureSubtypes$Shapes" 124 qy_T_dropTo : Cond) ∈ qtb := qw_in (List.mem_of_getElem? (i := 353) rfl) rfl
set_option maxRecDepth 100000 in
theorem qk_354 : (.instanceMethod qy_T_dropTo : Cond) ∈ qtb := qw_in (List.mem_of_getElem? (i := 354) rfl) rfl
set_option maxRecDepth 100000 in
theorem qk_355 : (.selects "CaptureSubtypes$Types" qy_T_dropTo qy_T_dropTo : Cond) ∈ qtb := qw_in (List.mem_of_getElem? (i := 355) rfl) rfl
set_option maxRecDepth 100000 in
theorem qk_356 : (.code qy_T_dropTo prog_6_method_23_code 2 none : Cond) ∈ qtb := qw_in (List.mem_of_getElem? (i := 356) rfl) rfl
set_option maxRecDepth 100000 in
theorem qk_357 : (.methodLink "CaptureSubtypes" 87 qy_K_putInCount : Cond) ∈ qtb := qw_in (List.mem_of_getElem? (i := 357) rfl) rfl
set_option maxRecDepth 100000 in
theorem qk_358 : (.instanceMethod qy_K_putInCount : Cond) ∈ qtb := qw_in (List.mem_of_getElem? (i := 358) rfl) rfl
set_option maxRecDepth 100000 in
theorem qk_359 : (.selects "CaptureSubtypes$Classes" qy_K_putInCount qy_K_putInCount : Cond) ∈ qtb := qw_in (List.mem_of_getElem? (i := 359) rfl) rfl
set_option maxRecDepth 100000 in
theorem qk_360 : (.code qy_K_putInCount prog_2_method_18_code 4 (some FieldType.int) : Cond) ∈ qtb := qw_in (List.mem_of_getElem? (i := 360) rfl) rfl
set_option maxRecDepth 100000 in
theorem qk_361 : (.methodLink "CaptureSubtypesLaw" 27 qy_X_bind : Cond) ∈ qtb := qw_in (List.mem_of_getElem? (i := 361) rfl) rfl
set_option maxRecDepth 100000 in
theorem qk_362 : (.instanceMethod qy_X_bind : Cond) ∈ qtb := qw_in (List.mem_of_getElem? (i := 362) rfl) rfl
set_option maxRecDepth 100000 in
theorem qk_363 : (.selects "CaptureSubtypes" qy_X_bind qy_X_bind : Cond) ∈ qtb := qw_in (List.mem_of_getElem? (i := 363) rfl) rfl
set_option maxRecDepth 100000 in
theorem qk_364 : (.code qy_X_bind prog_1_method_5_code 4 (some FieldType.int) : Cond) ∈ qtb := qw_in (List.mem_of_getElem? (i := 364) rfl) rfl
set_option maxRecDepth 100000 in
theorem qk_365 : (.methodLink "CaptureSubtypes" 90 qy_K_hasParameter : Cond) ∈ qtb := qw_in (List.mem_of_getElem? (i := 365) rfl) rfl
set_option maxRecDepth 100000 in
theorem qk_366 : (.instanceMethod qy_K_hasParameter : Cond) ∈ qtb := qw_in (List.mem_of_getElem? (i := 366) rfl) rfl
set_option maxRecDepth 100000 in
theorem qk_367 : (.selects "CaptureSubtypes$Classes" qy_K_hasParameter qy_K_hasParameter : Cond) ∈ qtb := qw_in (List.mem_of_getElem? (i := 367) rfl) rfl
set_option maxRecDepth 100000 in
theorem qk_368 : (.code qy_K_hasParameter prog_2_method_9_code 3 (some FieldType.boolean) : Cond) ∈ qtb := qw_in (List.mem_of_getElem? (i := 368) rfl) rfl
set_option maxRecDepth 100000 in
theorem qk_369 : (.methodLink "CaptureSubtypes" 93 qy_X_mayBeBound : Cond) ∈ qtb := qw_in (List.mem_of_getElem? (i := 369) rfl) rfl
set_option maxRecDepth 100000 in
theorem qk_371 : (.instanceMethod qy_X_mayBeBound : Cond) ∈ qtb := qw_in (List.mem_of_getElem? (i := 371) rfl) rfl
set_option maxRecDepth 100000 in
theorem qk_372 : (.code qy_X_mayBeBound prog_1_method_23_code 5 (some FieldType.boolean) : Cond) ∈ qtb := qw_in (List.mem_of_getElem? (i := 372) rfl) rfl
set_option maxRecDepth 100000 in
theorem qk_373 : (.methodLink "CaptureSubtypes" 189 qy_K_boundCount : Cond) ∈ qtb := qw_in (List.mem_of_getElem? (i := 373) rfl) rfl
set_option maxRecDepth 100000 in
theorem qk_374 : (.instanceMethod qy_K_boundCount : Cond) ∈ qtb := qw_in (List.mem_of_getElem? (i := 374) rfl) rfl
set_option maxRecDepth 100000 in
theorem qk_375 : (.selects "CaptureSubtypes$Classes" qy_K_boundCount qy_K_boundCount : Cond) ∈ qtb := qw_in (List.mem_of_getElem? (i := 375) rfl) rfl
set_option maxRecDepth 100000 in
theorem qk_376 : (.code qy_K_boundCount prog_2_method_22_code 4 (some FieldType.int) : Cond) ∈ qtb := qw_in (List.mem_of_getElem? (i := 376) rfl) rfl
set_option maxRecDepth 100000 in
theorem qk_377 : (.methodLink "CaptureSubtypes" 118 qy_T_sortOf : Cond) ∈ qtb := qw_in (List.mem_of_getElem? (i := 377) rfl) rfl
set_option maxRecDepth 100000 in
theorem qk_378 : (.methodLink "CaptureSubtypes" 128 qy_T_firstOf : Cond) ∈ qtb := qw_in (List.mem_of_getElem? (i := 378) rfl) rfl
set_option maxRecDepth 100000 in
theorem qk_379 : (.methodLink "CaptureSubtypes" 97 qy_K_addBound : Cond) ∈ qtb := qw_in (List.mem_of_getElem? (i := 379) rfl) rfl
set_option maxRecDepth 100000 in
theorem qk_380 : (.instanceMethod qy_K_addBound : Cond) ∈ qtb := qw_in (List.mem_of_getElem? (i := 380) rfl) rfl
set_option maxRecDepth 100000 in
theorem qk_381 : (.selects "CaptureSubtypes$Classes" qy_K_addBound qy_K_addBound : Cond) ∈ qtb := qw_in (List.mem_of_getElem? (i := 381) rfl) rfl
set_option maxRecDepth 100000 in
theorem qk_382 : (.code qy_K_addBound prog_2_method_24_code 5 (some FieldType.int) : Cond) ∈ qtb := qw_in (List.mem_of_getElem? (i := 382) rfl) rfl
set_option maxRecDepth 100000 in
theorem qk_383 : (.methodLink "CaptureSubtypes$Classes" 71 qy_K_boundCount : Cond) ∈ qtb := qw_in (List.mem_of_getElem? (i := 383) rfl) rfl
set_option maxRecDepth 100000 in
theorem qk_384 : (.methodLink "CaptureSubtypes$Classes" 74 qy_K_hasParameter : Cond) ∈ qtb := qw_in (List.mem_of_getElem? (i := 384) rfl) rfl
set_option maxRecDepth 100000 in
theorem qk_385 : (.methodLink "CaptureSubtypesLaw" 32 qy_X_plain : Cond) ∈ qtb := qw_in (List.mem_of_getElem? (i := 385) rfl) rfl
set_option maxRecDepth 100000 in
theorem qk_386 : (.instanceMethod qy_X_plain : Cond) ∈ qtb := qw_in (List.mem_of_getElem? (i := 386) rfl) rfl
set_option maxRecDepth 100000 in
theorem qk_387 : (.selects "CaptureSubtypes" qy_X_plain qy_X_plain : Cond) ∈ qtb := qw_in (List.mem_of_getElem? (i := 387) rfl) rfl
set_option maxRecDepth 100000 in
theorem qk_388 : (.code qy_X_plain prog_1_method_6_code 2 (some FieldType.int) : Cond) ∈ qtb := qw_in (List.mem_of_getElem? (i := 388) rfl) rfl
set_option maxRecDepth 100000 in
theorem qk_389 : (.methodLink "CaptureSubtypes" 105 qy_K_nameSort : Cond) ∈ qtb := qw_in (List.mem_of_getElem? (i := 389) rfl) rfl
set_option maxRecDepth 100000 in
theorem qk_390 : (.methodLink "CaptureSubtypes" 108 qy_T_keep : Cond) ∈ qtb := qw_in (List.mem_of_getElem? (i := 390) rfl) rfl
set_option maxRecDepth 100000 in
theorem qk_391 : (.methodLink "CaptureSubtypesLaw" 37 qy_X_of : Cond) ∈ qtb := qw_in (List.mem_of_getElem? (i := 391) rfl) rfl
set_option maxRecDepth 100000 in
theorem qk_392 : (.instanceMethod qy_X_of : Cond) ∈ qtb := qw_in (List.mem_of_getElem? (i := 392) rfl) rfl
set_option maxRecDepth 100000 in
theorem qk_393 : (.selects "CaptureSubtypes" qy_X_of qy_X_of : Cond) ∈ qtb := qw_in (List.mem_of_getElem? (i := 393) rfl) rfl
set_option maxRecDepth 100000 in
theorem qk_394 : (.code qy_X_of prog_1_method_7_code 5 (some FieldType.int) : Cond) ∈ qtb := qw_in (List.mem_of_getElem? (i := 394) rfl) rfl
set_option maxRecDepth 100000 in
theorem qk_395 : (.methodLink "CaptureSubtypes" 112 qy_K_parametersOf : Cond) ∈ qtb := qw_in (List.mem_of_getElem? (i := 395) rfl) rfl
set_option maxRecDepth 100000 in
theorem qk_396 : (.instanceMethod qy_K_parametersOf : Cond) ∈ qtb := qw_in (List.mem_of_getElem? (i := 396) rfl) rfl
set_option maxRecDepth 100000 in
theorem qk_397 : (.selects "CaptureSubtypes$Classes" qy_K_parametersOf qy_K_parametersOf : Cond) ∈ qtb := qw_in (List.mem_of_getElem? (i := 397) rfl) rfl
set_option maxRecDepth 100000 in
theorem qk_398 : (.code qy_K_parametersOf prog_2_method_8_code 2 (some FieldType.int) : Cond) ∈ qtb := qw_in (List.mem_of_getElem? (i := 398) rfl) rfl
set_option maxRecDepth 100000 in
theorem qk_399 : (.methodLink "CaptureSubtypes" 115 qy_T_mayBeArgument : Cond) ∈ qtb := qw_in (List.mem_of_getElem? (i := 399) rfl) rfl
set_option maxRecDepth 100000 in
theorem qk_400 : (.instanceMethod qy_T_mayBeArgument : Cond) ∈ qtb := qw_in (List.mem_of_getElem? (i := 400) rfl) rfl
set_option maxRecDepth 100000 in
theorem qk_401 : (.selects "CaptureSubtypes$Types" qy_T_mayBeArgument qy_T_mayBeArgument : Cond) ∈ qtb := qw_in (List.mem_of_getElem? (i := 401) rfl) rfl
set_option maxRecDepth 100000 in
theorem qk_402 : (.code qy_T_mayBeArgument prog_6_method_13_code 2 (some FieldType.boolean) : Cond) ∈ qtb := qw_in (List.mem_of_getElem? (i := 402) rfl) rfl
set_option maxRecDepth 100000 in
theorem qk_403 : (.methodLink "CaptureSubtypesLaw" 41 qy_X_wild : Cond) ∈ qtb := qw_in (List.mem_of_getElem? (i := 403) rfl) rfl
set_option maxRecDepth 100000 in
theorem qk_404 : (.instanceMethod qy_X_wild : Cond) ∈ qtb := qw_in (List.mem_of_getElem? (i := 404) rfl) rfl
set_option maxRecDepth 100000 in
theorem qk_405 : (.selects "CaptureSubtypes" qy_X_wild qy_X_wild : Cond) ∈ qtb := qw_in (List.mem_of_getElem? (i := 405) rfl) rfl
set_option maxRecDepth 100000 in
theorem qk_406 : (.code qy_X_wild prog_1_method_8_code 3 (some FieldType.int) : Cond) ∈ qtb := qw_in (List.mem_of_getElem? (i := 406) rfl) rfl
set_option maxRecDepth 100000 in
theorem qk_407 : (.methodLink "CaptureSubtypesLaw" 45 qy_X_variable : Cond) ∈ qtb := qw_in (List.mem_of_getElem? (i := 407) rfl) rfl
set_option maxRecDepth 100000 in
theorem qk_408 : (.instanceMethod qy_X_variable : Cond) ∈ qtb := qw_in (List.mem_of_getElem? (i := 408) rfl) rfl
set_option maxRecDepth 100000 in
theorem qk_409 : (.selects "CaptureSubtypes" qy_X_variable qy_X_variable : Cond) ∈ qtb := qw_in (List.mem_of_getElem? (i := 409) rfl) rfl
set_option maxRecDepth 100000 in
theorem qk_410 : (.code qy_X_variable prog_1_method_9_code 3 (some FieldType.int) : Cond) ∈ qtb := qw_in (List.mem_of_getElem? (i := 410) rfl) rfl
set_option maxRecDepth 100000 in
theorem qk_411 : (.methodLink "CaptureSubtypesLaw" 49 qy_X_row : Cond) ∈ qtb := qw_in (List.mem_of_getElem? (i := 411) rfl) rfl
set_option maxRecDepth 100000 in
theorem qk_412 : (.instanceMethod qy_X_row : Cond) ∈ qtb := qw_in (List.mem_of_getElem? (i := 412) rfl) rfl
set_option maxRecDepth 100000 in
theorem qk_413 : (.selects "CaptureSubtypes" qy_X_row qy_X_row : Cond) ∈ qtb := qw_in (List.mem_of_getElem? (i := 413) rfl) rfl
set_option maxRecDepth 100000 in
theorem qk_414 : (.code qy_X_row prog_1_method_10_code 2 (some FieldType.int) : Cond) ∈ qtb := qw_in (List.mem_of_getElem? (i := 414) rfl) rfl
set_option maxRecDepth 100000 in
theorem qk_415 : (.methodLink "CaptureSubtypes" 121 qy_T_standsAlone : Cond) ∈ qtb := qw_in (List.mem_of_getElem? (i := 415) rfl) rfl
set_option maxRecDepth 100000 in
theorem qk_416 : (.instanceMethod qy_T_standsAlone : Cond) ∈ qtb := qw_in (List.mem_of_getElem? (i := 416) rfl) rfl
set_option maxRecDepth 100000 in
theorem qk_417 : (.selects "CaptureSubtypes$Types" qy_T_standsAlone qy_T_standsAlone : Cond) ∈ qtb := qw_in (List.mem_of_getElem? (i := 417) rfl) rfl
set_option maxRecDepth 100000 in
theorem qk_418 : (.code qy_T_standsAlone prog_6_method_12_code 2 (some FieldType.boolean) : Cond) ∈ qtb := qw_in (List.mem_of_getElem? (i := 418) rfl) rfl
set_option maxRecDepth 100000 in
theorem qk_419 : (.methodLink "CaptureSubtypesLaw" 53 qy_X_count : Cond) ∈ qtb := qw_in (List.mem_of_getElem? (i := 419) rfl) rfl
set_option maxRecDepth 100000 in
theorem qk_420 : (.instanceMethod qy_X_count : Cond) ∈ qtb := qw_in (List.mem_of_getElem? (i := 420) rfl) rfl
set_option maxRecDepth 100000 in
theorem qk_421 : (.selects "CaptureSubtypes" qy_X_count qy_X_count : Cond) ∈ qtb := qw_in (List.mem_of_getElem? (i := 421) rfl) rfl
set_option maxRecDepth 100000 in
theorem qk_422 : (.code qy_X_count prog_1_method_11_code 2 (some FieldType.int) : Cond) ∈ qtb := qw_in (List.mem_of_getElem? (i := 422) rfl) rfl
set_option maxRecDepth 100000 in
theorem qk_423 : (.methodLink "CaptureSubtypesLaw" 57 qy_X_told : Cond) ∈ qtb := qw_in (List.mem_of_getElem? (i := 423) rfl) rfl
set_option maxRecDepth 100000 in
theorem qk_424 : (.instanceMethod qy_X_told : Cond) ∈ qtb := qw_in (List.mem_of_getElem? (i := 424) rfl) rfl
set_option maxRecDepth 100000 in
theorem qk_425 : (.selects "CaptureSubtypes" qy_X_told qy_X_told : Cond) ∈ qtb := qw_in (List.mem_of_getElem? (i := 425) rfl) rfl
set_option maxRecDepth 100000 in
theorem qk_426 : (.code qy_X_told prog_1_method_12_code 3 (some FieldType.int) : Cond) ∈ qtb := qw_in (List.mem_of_getElem? (i := 426) rfl) rfl
set_option maxRecDepth 100000 in
theorem qk_427 : (.methodLink "CaptureSubtypes" 131 qy_T_secondOf : Cond) ∈ qtb := qw_in (List.mem_of_getElem? (i := 427) rfl) rfl
set_option maxRecDepth 100000 in
theorem qk_428 : (.methodLink "CaptureSubtypes" 134 qy_T_depthOf : Cond) ∈ qtb := qw_in (List.mem_of_getElem? (i := 428) rfl) rfl
set_option maxRecDepth 100000 in
theorem qk_429 : (.instanceMethod qy_T_depthOf : Cond) ∈ qtb := qw_in (List.mem_of_getElem? (i := 429) rfl) rfl
set_option maxRecDepth 100000 in
theorem qk_430 : (.selects "CaptureSubtypes$Types" qy_T_depthOf qy_T_depthOf : Cond) ∈ qtb := qw_in (List.mem_of_getElem? (i := 430) rfl) rfl
set_option maxRecDepth 100000 in
theorem qk_431 : (.code qy_T_depthOf prog_6_method_8_code 2 (some FieldType.int) : Cond) ∈ qtb := qw_in (List.mem_of_getElem? (i := 431) rfl) rfl
set_option maxRecDepth 100000 in
theorem qk_432 : (.methodLink "CaptureSubtypesLaw" 61 qy_X_known : Cond) ∈ qtb := qw_in (List.mem_of_getElem? (i := 432) rfl) rfl
set_option maxRecDepth 100000 in
theorem qk_433 : (.instanceMethod qy_X_known : Cond) ∈ qtb := qw_in (List.mem_of_getElem? (i := 433) rfl) rfl
set_option maxRecDepth 100000 in
theorem qk_434 : (.selects "CaptureSubtypes" qy_X_known qy_X_known : Cond) ∈ qtb := qw_in (List.mem_of_getElem? (i := 434) rfl) rfl
set_option maxRecDepth 100000 in
theorem qk_435 : (.code qy_X_known prog_1_method_13_code 3 (some FieldType.int) : Cond) ∈ qtb := qw_in (List.mem_of_getElem? (i := 435) rfl) rfl
set_option maxRecDepth 100000 in
theorem qk_436 : (.methodLink "CaptureSubtypes" 140 qy_K_heirCount : Cond) ∈ qtb := qw_in (List.mem_of_getElem? (i := 436) rfl) rfl
set_option maxRecDepth 100000 in
theorem qk_437 : (.instanceMethod qy_K_heirCount : Cond) ∈ qtb := qw_in (List.mem_of_getElem? (i := 437) rfl) rfl
set_option maxRecDepth 100000 in
theorem qk_438 : (.selects "CaptureSubtypes$Classes" qy_K_heirCount qy_K_heirCount : Cond) ∈ qtb := qw_in (List.mem_of_getElem? (i := 438) rfl) rfl
set_option maxRecDepth 100000 in
theorem qk_439 : (.code qy_K_heirCount prog_2_method_20_code 4 (some FieldType.int) : Cond) ∈ qtb := qw_in (List.mem_of_getElem? (i := 439) rfl) rfl
set_option maxRecDepth 100000 in
theorem qk_440 : (.methodLink "CaptureSubtypes" 143 qy_K_underCount : Cond) ∈ qtb := qw_in (List.mem_of_getElem? (i := 440) rfl) rfl
set_option maxRecDepth 100000 in
theorem qk_441 : (.instanceMethod qy_K_underCount : Cond) ∈ qtb := qw_in (List.mem_of_getElem? (i := 441) rfl) rfl
set_option maxRecDepth 100000 in
theorem qk_442 : (.selects "CaptureSubtypes$Classes" qy_K_underCount qy_K_underCount : Cond) ∈ qtb := qw_in (List.mem_of_getElem? (i := 442) rfl) rfl
set_option maxRecDepth 100000 in
theorem qk_443 : (.code qy_K_underCount prog_2_method_21_code 4 (some FieldType.int) : Cond) ∈ qtb := qw_in (List.mem_of_getElem? (i := 443) rfl) rfl
set_option maxRecDepth 100000 in
theorem qk_444 : (.methodLink "CaptureSubtypesLaw" 65 qy_X_below : Cond) ∈ qtb := qw_in (List.mem_of_getElem? (i := 444) rfl) rfl
set_option maxRecDepth 100000 in
theorem qk_445 : (.instanceMethod qy_X_below : Cond) ∈ qtb := qw_in (List.mem_of_getElem? (i := 445) rfl) rfl
set_option maxRecDepth 100000 in
theorem qk_446 : (.selects "CaptureSubtypes" qy_X_below qy_X_below : Cond) ∈ qtb := qw_in (List.mem_of_getElem? (i := 446) rfl) rfl
set_option maxRecDepth 100000 in
theorem qk_447 : (.code qy_X_below prog_1_method_14_code 3 (some FieldType.int) : Cond) ∈ qtb := qw_in (List.mem_of_getElem? (i := 447) rfl) rfl
set_option maxRecDepth 100000 in
theorem qk_448 : (.methodLink "CaptureSubtypes" 146 qy_K_isUnder : Cond) ∈ qtb := qw_in (List.mem_of_getElem? (i := 448) rfl) rfl
set_option maxRecDepth 100000 in
theorem qk_449 : (.methodLink "CaptureSubtypesLaw" 69 qy_X_apart : Cond) ∈ qtb := qw_in (List.mem_of_getElem? (i := 449) rfl) rfl
set_option maxRecDepth 100000 in
theorem qk_450 : (.instanceMethod qy_X_apart : Cond) ∈ qtb := qw_in (List.mem_of_getElem? (i := 450) rfl) rfl
set_option maxRecDepth 100000 in
theorem qk_451 : (.selects "CaptureSubtypes" qy_X_apart qy_X_apart : Cond) ∈ qtb := qw_in (List.mem_of_getElem? (i := 451) rfl) rfl
set_option maxRecDepth 100000 in
theorem qk_452 : (.code qy_X_apart prog_1_method_15_code 3 (some FieldType.int) : Cond) ∈ qtb := qw_in (List.mem_of_getElem? (i := 452) rfl) rfl
set_option maxRecDepth 100000 in
theorem qk_453 : (.methodLink "CaptureSubtypes" 149 qy_K_areApart : Cond) ∈ qtb := qw_in (List.mem_of_getElem? (i := 453) rfl) rfl
set_option maxRecDepth 100000 in
theorem qk_454 : (.methodLink "CaptureSubtypesLaw" 73 qy_X_is : Cond) ∈ qtb := qw_in (List.mem_of_getElem? (i := 454) rfl) rfl
set_option maxRecDepth 100000 in
theorem qk_455 : (.instanceMethod qy_X_is : Cond) ∈ qtb := qw_in (List.mem_of_getElem? (i := 455) rfl) rfl
set_option maxRecDepth 100000 in
theorem qk_456 : (.selects "CaptureSubtypes" qy_X_is qy_X_is : Cond) ∈ qtb := qw_in (List.mem_of_getElem? (i := 456) rfl) rfl
set_option maxRecDepth 100000 in
theorem qk_457 : (.code qy_X_is prog_1_method_16_code 4 (some FieldType.int) : Cond) ∈ qtb := qw_in (List.mem_of_getElem? (i := 457) rfl) rfl
set_option maxRecDepth 100000 in
theorem qk_460 : (.instanceMethod qy_O_isOne : Cond) ∈ qtb := qw_in (List.mem_of_getElem? (i := 460) rfl) rfl
set_option maxRecDepth 100000 in
theorem qk_461 : (.code qy_O_isOne prog_3_method_2_code 6 (some FieldType.boolean) : Cond) ∈ qtb := qw_in (List.mem_of_getElem? (i := 461) rfl) rfl
set_option maxRecDepth 100000 in
theorem qk_462 : (.methodLink "CaptureSubtypes$Order" 23 qy_T_mark : Cond) ∈ qtb := qw_in (List.mem_of_getElem? (i := 462) rfl) rfl
set_option maxRecDepth 100000 in
theorem qk_463 : (.methodLink "CaptureSubtypes$Order" 29 qy_O_isByParts : Cond) ∈ qtb := qw_in (List.mem_of_getElem? (i := 463) rfl) rfl
set_option maxRecDepth 100000 in
theorem qk_465 : (.instanceMethod qy_O_isByParts : Cond) ∈ qtb := qw_in (List.mem_of_getElem? (i := 465) rfl) rfl
set_option maxRecDepth 100000 in
theorem qk_466 : (.code qy_O_isByParts prog_3_method_3_code 4 (some FieldType.boolean) : Cond) ∈ qtb := qw_in (List.mem_of_getElem? (i := 466) rfl) rfl
set_option maxRecDepth 100000 in
theorem qk_467 : (.methodLink "CaptureSubtypes$Order" 37 qy_T_isVariable : Cond) ∈ qtb := qw_in (List.mem_of_getElem? (i := 467) rfl) rfl
set_option maxRecDepth 100000 in
theorem qk_468 : (.instanceMethod qy_T_isVariable : Cond) ∈ qtb := qw_in (List.mem_of_getElem? (i := 468) rfl) rfl
set_option maxRecDepth 100000 in
theorem qk_469 : (.selects "CaptureSubtypes$Types" qy_T_isVariable qy_T_isVariable : Cond) ∈ qtb := qw_in (List.mem_of_getElem? (i := 469) rfl) rfl
set_option maxRecDepth 100000 in
theorem qk_470 : (.code qy_T_isVariable prog_6_method_15_code 3 (some FieldType.boolean) : Cond) ∈ qtb := qw_in (List.mem_of_getElem? (i := 470) rfl) rfl
set_option maxRecDepth 100000 in
theorem qk_471 : (.methodLink "CaptureSubtypes$Order" 41 qy_O_someBoundIs : Cond) ∈ qtb := qw_in (List.mem_of_getElem? (i := 471) rfl) rfl
set_option maxRecDepth 100000 in
theorem qk_473 : (.instanceMethod qy_O_someBoundIs : Cond) ∈ qtb := qw_in (List.mem_of_getElem? (i := 473) rfl) rfl
set_option maxRecDepth 100000 in
theorem qk_474 : (.code qy_O_someBoundIs prog_3_method_4_code 6 (some FieldType.boolean) : Cond) ∈ qtb := qw_in (List.mem_of_getElem? (i := 474) rfl) rfl
set_option maxRecDepth 100000 in
theorem qk_475 : (.methodLink "CaptureSubtypes$Order" 63 qy_S_boundCountOf : Cond) ∈ qtb := qw_in (List.mem_of_getElem? (i := 475) rfl) rfl
set_option maxRecDepth 100000 in
theorem qk_476 : (.instanceMethod qy_S_boundCountOf : Cond) ∈ qtb := qw_in (List.mem_of_getElem? (i := 476) rfl) rfl
set_option maxRecDepth 100000 in
theorem qk_477 : (.selects "CaptureSubtypes$Shapes" qy_S_boundCountOf qy_S_boundCountOf : Cond) ∈ qtb := qw_in (List.mem_of_getElem? (i := 477) rfl) rfl
set_option maxRecDepth 100000 in
theorem qk_478 : (.code qy_S_boundCountOf prog_4_method_4_code 3 (some FieldType.int) : Cond) ∈ qtb := qw_in (List.mem_of_getElem? (i := 478) rfl) rfl
set_option maxRecDepth 100000 in
theorem qk_479 : (.methodLink "CaptureSubtypes$Shapes" 60 qy_K_boundCount : Cond) ∈ qtb := qw_in (List.mem_of_getElem? (i := 479) rfl) rfl
set_option maxRecDepth 100000 in
theorem qk_480 : (.methodLink "CaptureSubtypes$Shapes" 63 Lib.Math.max.name : Cond) ∈ qtb := qw_in (List.mem_of_getElem? (i := 480) rfl) rfl
set_option maxRecDepth 100000 in
theorem qk_481 : (.methodLink "CaptureSubtypes$Shapes" 68 qy_T_upOf : Cond) ∈ qtb := qw_in (List.mem_of_getElem? (i := 481) rfl) rfl
set_option maxRecDepth 100000 in
theorem qk_482 : (.instanceMethod qy_T_upOf : Cond) ∈ qtb := qw_in (List.mem_of_getElem? (i := 482) rfl) rfl
set_option maxRecDepth 100000 in
theorem qk_483 : (.selects "CaptureSubtypes$Types" qy_T_upOf qy_T_upOf : Cond) ∈ qtb := qw_in (List.mem_of_getElem? (i := 483) rfl) rfl
set_option maxRecDepth 100000 in
theorem qk_484 : (.code qy_T_upOf prog_6_method_9_code 2 (some FieldType.int) : Cond) ∈ qtb := qw_in (List.mem_of_getElem? (i := 484) rfl) rfl
set_option maxRecDepth 100000 in
theorem qk_485 : (.methodLink "CaptureSubtypes$Order" 68 qy_S_boundOf : Cond) ∈ qtb := qw_in (List.mem_of_getElem? (i := 485) rfl) rfl
set_option maxRecDepth 100000 in
theorem qk_486 : (.instanceMethod qy_S_boundOf : Cond) ∈ qtb := qw_in (List.mem_of_getElem? (i := 486) rfl) rfl
set_option maxRecDepth 100000 in
theorem qk_487 : (.selects "CaptureSubtypes$Shapes" qy_S_boundOf qy_S_boundOf : Cond) ∈ qtb := qw_in (List.mem_of_getElem? (i := 487) rfl) rfl
set_option maxRecDepth 100000 in
theorem qk_488 : (.code qy_S_boundOf prog_4_method_5_code 5 (some FieldType.int) : Cond) ∈ qtb := qw_in (List.mem_of_getElem? (i := 488) rfl) rfl
set_option maxRecDepth 100000 in
theorem qk_489 : (.methodLink "CaptureSubtypes$Shapes" 71 qy_K_boundAt : Cond) ∈ qtb := qw_in (List.mem_of_getElem? (i := 489) rfl) rfl
set_option maxRecDepth 100000 in
theorem qk_490 : (.instanceMethod qy_K_boundAt : Cond) ∈ qtb := qw_in (List.mem_of_getElem? (i := 490) rfl) rfl
set_option maxRecDepth 100000 in
theorem qk_491 : (.selects "CaptureSubtypes$Classes" qy_K_boundAt qy_K_boundAt : Cond) ∈ qtb := qw_in (List.mem_of_getElem? (i := 491) rfl) rfl
set_option maxRecDepth 100000 in
theorem qk_492 : (.code qy_K_boundAt prog_2_method_23_code 4 (some FieldType.int) : Cond) ∈ qtb := qw_in (List.mem_of_getElem? (i := 492) rfl) rfl
set_option maxRecDepth 100000 in
theorem qk_493 : (.methodLink "CaptureSubtypes$Order" 48 qy_O_isOne : Cond) ∈ qtb := qw_in (List.mem_of_getElem? (i := 493) rfl) rfl
set_option maxRecDepth 100000 in
theorem qk_494 : (.methodLink "CaptureSubtypes$Order" 44 qy_T_lowOf : Cond) ∈ qtb := qw_in (List.mem_of_getElem? (i := 494) rfl) rfl
set_option maxRecDepth 100000 in
theorem qk_495 : (.instanceMethod qy_T_lowOf : Cond) ∈ qtb := qw_in (List.mem_of_getElem? (i := 495) rfl) rfl
set_option maxRecDepth 100000 in
theorem qk_496 : (.selects "CaptureSubtypes$Types" qy_T_lowOf qy_T_lowOf : Cond) ∈ qtb := qw_in (List.mem_of_getElem? (i := 496) rfl) rfl
set_option maxRecDepth 100000 in
theorem qk_497 : (.code qy_T_lowOf prog_6_method_10_code 2 (some FieldType.int) : Cond) ∈ qtb := qw_in (List.mem_of_getElem? (i := 497) rfl) rfl
set_option maxRecDepth 100000 in
theorem qk_498 : (.methodLink "CaptureSubtypes$Order" 51 qy_T_sortOf : Cond) ∈ qtb := qw_in (List.mem_of_getElem? (i := 498) rfl) rfl
set_option maxRecDepth 100000 in
theorem qk_499 : (.methodLink "CaptureSubtypes$Order" 54 qy_T_firstOf : Cond) ∈ qtb := qw_in (List.mem_of_getElem? (i := 499) rfl) rfl
set_option maxRecDepth 100000 in
theorem qk_500 : (.methodLink "CaptureSubtypes$Order" 57 qy_T_isOfClass : Cond) ∈ qtb := qw_in (List.mem_of_getElem? (i := 500) rfl) rfl
set_option maxRecDepth 100000 in
theorem qk_501 : (.methodLink "CaptureSubtypes$Order" 60 qy_O_isByClass : Cond) ∈ qtb := qw_in (List.mem_of_getElem? (i := 501) rfl) rfl
set_option maxRecDepth 100000 in
theorem qk_503 : (.instanceMethod qy_O_isByClass : Cond) ∈ qtb := qw_in (List.mem_of_getElem? (i := 503) rfl) rfl
set_option maxRecDepth 100000 in
theorem qk_504 : (.code qy_O_isByClass prog_3_method_5_code 6 (some FieldType.boolean) : Cond) ∈ qtb := qw_in (List.mem_of_getElem? (i := 504) rfl) rfl
set_option maxRecDepth 100000 in
theorem qk_505 : (.methodLink "CaptureSubtypes$Order" 72 qy_T_ownerOf : Cond) ∈ qtb := qw_in (List.mem_of_getElem? (i := 505) rfl) rfl
set_option maxRecDepth 100000 in
theorem qk_506 : (.methodLink "CaptureSubtypes$Order" 75 qy_K_isUnder : Cond) ∈ qtb := qw_in (List.mem_of_getElem? (i := 506) rfl) rfl
set_option maxRecDepth 100000 in
theorem qk_507 : (.methodLink "CaptureSubtypes$Order" 81 qy_S_caught : Cond) ∈ qtb := qw_in (List.mem_of_getElem? (i := 507) rfl) rfl
set_option maxRecDepth 100000 in
theorem qk_508 : (.instanceMethod qy_S_caught : Cond) ∈ qtb := qw_in (List.mem_of_getElem? (i := 508) rfl) rfl
set_option maxRecDepth 100000 in
theorem qk_509 : (.selects "CaptureSubtypes$Shapes" qy_S_caught qy_S_caught : Cond) ∈ qtb := qw_in (List.mem_of_getElem? (i := 509) rfl) rfl
set_option maxRecDepth 100000 in
theorem qk_510 : (.code qy_S_caught prog_4_method_7_code 7 (some FieldType.int) : Cond) ∈ qtb := qw_in (List.mem_of_getElem? (i := 510) rfl) rfl
set_option maxRecDepth 100000 in
theorem qk_511 : (.methodLink "CaptureSubtypes$Shapes" 88 qy_T_hasWildArgument : Cond) ∈ qtb := qw_in (List.mem_of_getElem? (i := 511) rfl) rfl
set_option maxRecDepth 100000 in
theorem qk_512 : (.instanceMethod qy_T_hasWildArgument : Cond) ∈ qtb := qw_in (List.mem_of_getElem? (i := 512) rfl) rfl
set_option maxRecDepth 100000 in
theorem qk_513 : (.selects "CaptureSubtypes$Types" qy_T_hasWildArgument qy_T_hasWildArgument : Cond) ∈ qtb := qw_in (List.mem_of_getElem? (i := 513) rfl) rfl
set_option maxRecDepth 100000 in
theorem qk_514 : (.code qy_T_hasWildArgument prog_6_method_16_code 2 (some FieldType.boolean) : Cond) ∈ qtb := qw_in (List.mem_of_getElem? (i := 514) rfl) rfl
set_option maxRecDepth 100000 in
theorem qk_515 : (.methodLink "CaptureSubtypes$Types" 56 qy_T_firstOf : Cond) ∈ qtb := qw_in (List.mem_of_getElem? (i := 515) rfl) rfl
set_option maxRecDepth 100000 in
theorem qk_516 : (.methodLink "CaptureSubtypes$Types" 59 qy_T_secondOf : Cond) ∈ qtb := qw_in (List.mem_of_getElem? (i := 516) rfl) rfl
set_option maxRecDepth 100000 in
theorem qk_517 : (.methodLink "CaptureSubtypes$Shapes" 91 qy_T_hold : Cond) ∈ qtb := qw_in (List.mem_of_getElem? (i := 517) rfl) rfl
set_option maxRecDepth 100000 in
theorem qk_518 : (.instanceMethod qy_T_hold : Cond) ∈ qtb := qw_in (List.mem_of_getElem? (i := 518) rfl) rfl
set_option maxRecDepth 100000 in
theorem qk_519 : (.selects "CaptureSubtypes$Types" qy_T_hold qy_T_hold : Cond) ∈ qtb := qw_in (List.mem_of_getElem? (i := 519) rfl) rfl
set_option maxRecDepth 100000 in
theorem qk_520 : (.code qy_T_hold prog_6_method_20_code 5 (some FieldType.int) : Cond) ∈ qtb := qw_in (List.mem_of_getElem? (i := 520) rfl) rfl
set_option maxRecDepth 100000 in
theorem qk_521 : (.methodLink "CaptureSubtypes$Types" 66 qy_T_ownerOf : Cond) ∈ qtb := qw_in (List.mem_of_getElem? (i := 521) rfl) rfl
set_option maxRecDepth 100000 in
theorem qk_522 : (.methodLink "CaptureSubtypes$Shapes" 94 qy_T_setHome : Cond) ∈ qtb := qw_in (List.mem_of_getElem? (i := 522) rfl) rfl
set_option maxRecDepth 100000 in
theorem qk_523 : (.instanceMethod qy_T_setHome : Cond) ∈ qtb := qw_in (List.mem_of_getElem? (i := 523) rfl) rfl
set_option maxRecDepth 100000 in
theorem qk_524 : (.selects "CaptureSubtypes$Types" qy_T_setHome qy_T_setHome : Cond) ∈ qtb := qw_in (List.mem_of_getElem? (i := 524) rfl) rfl
set_option maxRecDepth 100000 in
theorem qk_525 : (.code qy_T_setHome prog_6_method_21_code 3 none : Cond) ∈ qtb := qw_in (List.mem_of_getElem? (i := 525) rfl) rfl
set_option maxRecDepth 100000 in
theorem qk_526 : (.methodLink "CaptureSubtypes$Order" 84 qy_S_viewedAs : Cond) ∈ qtb := qw_in (List.mem_of_getElem? (i := 526) rfl) rfl
set_option maxRecDepth 100000 in
theorem qk_527 : (.methodLink "CaptureSubtypes$Order" 87 qy_O_isIn : Cond) ∈ qtb := qw_in (List.mem_of_getElem? (i := 527) rfl) rfl
set_option maxRecDepth 100000 in
theorem qk_529 : (.instanceMethod qy_O_isIn : Cond) ∈ qtb := qw_in (List.mem_of_getElem? (i := 529) rfl) rfl
set_option maxRecDepth 100000 in
theorem qk_530 : (.code qy_O_isIn prog_3_method_6_code 4 (some FieldType.boolean) : Cond) ∈ qtb := qw_in (List.mem_of_getElem? (i := 530) rfl) rfl
set_option maxRecDepth 100000 in
theorem qk_531 : (.methodLink "CaptureSubtypes$Order" 90 qy_T_secondOf : Cond) ∈ qtb := qw_in (List.mem_of_getElem? (i := 531) rfl) rfl
set_option maxRecDepth 100000 in
theorem qk_532 : (.methodLink "CaptureSubtypes$Order" 33 qy_T_dropTo : Cond) ∈ qtb := qw_in (List.mem_of_getElem? (i := 532) rfl) rfl
set_option maxRecDepth 100000 in
theorem qk_535 : (.instanceMethod qy_O_isUnchecked : Cond) ∈ qtb := qw_in (List.mem_of_getElem? (i := 535) rfl) rfl
set_option maxRecDepth 100000 in
theorem qk_536 : (.code qy_O_isUnchecked prog_3_method_7_code 5 (some FieldType.boolean) : Cond) ∈ qtb := qw_in (List.mem_of_getElem? (i := 536) rfl) rfl
set_option maxRecDepth 100000 in
theorem qk_537 : (.methodLink "CaptureSubtypes$Order" 93 qy_O_someBoundIsUnchecked : Cond) ∈ qtb := qw_in (List.mem_of_getElem? (i := 537) rfl) rfl
set_option maxRecDepth 100000 in
theorem qk_539 : (.instanceMethod qy_O_someBoundIsUnchecked : Cond) ∈ qtb := qw_in (List.mem_of_getElem? (i := 539) rfl) rfl
set_option maxRecDepth 100000 in
theorem qk_540 : (.code qy_O_someBoundIsUnchecked prog_3_method_8_code 6 (some FieldType.boolean) : Cond) ∈ qtb := qw_in (List.mem_of_getElem? (i := 540) rfl) rfl
set_option maxRecDepth 100000 in
theorem qk_541 : (.methodLink "CaptureSubtypes$Order" 96 qy_O_isUnchecked : Cond) ∈ qtb := qw_in (List.mem_of_getElem? (i := 541) rfl) rfl
set_option maxRecDepth 100000 in
theorem qk_542 : (.methodLink "CaptureSubtypes" 158 qy_T_dropTo : Cond) ∈ qtb := qw_in (List.mem_of_getElem? (i := 542) rfl) rfl
set_option maxRecDepth 100000 in
theorem qk_543 : (.methodLink "CaptureSubtypesLaw" 77 qy_X_may : Cond) ∈ qtb := qw_in (List.mem_of_getElem? (i := 543) rfl) rfl
set_option maxRecDepth 100000 in
theorem qk_544 : (.instanceMethod qy_X_may : Cond) ∈ qtb := qw_in (List.mem_of_getElem? (i := 544) rfl) rfl
set_option maxRecDepth 100000 in
theorem qk_545 : (.selects "CaptureSubtypes" qy_X_may qy_X_may : Cond) ∈ qtb := qw_in (List.mem_of_getElem? (i := 545) rfl) rfl
set_option maxRecDepth 100000 in
theorem qk_546 : (.code qy_X_may prog_1_method_17_code 4 (some FieldType.int) : Cond) ∈ qtb := qw_in (List.mem_of_getElem? (i := 546) rfl) rfl
set_option maxRecDepth 100000 in
theorem qk_549 : (.instanceMethod qy_U_mayTurn : Cond) ∈ qtb := qw_in (List.mem_of_getElem? (i := 549) rfl) rfl
set_option maxRecDepth 100000 in
theorem qk_550 : (.code qy_U_mayTurn prog_5_method_2_code 4 (some FieldType.boolean) : Cond) ∈ qtb := qw_in (List.mem_of_getElem? (i := 550) rfl) rfl
set_option maxRecDepth 100000 in
theorem qk_552 : (.methodLink "CaptureSubtypes$Turning" 33 qy_T_isVariable : Cond) ∈ qtb := qw_in (List.mem_of_getElem? (i := 552) rfl) rfl
set_option maxRecDepth 100000 in
theorem qk_553 : (.methodLink "CaptureSubtypes$Turning" 39 qy_U_mayFromBounds : Cond) ∈ qtb := qw_in (List.mem_of_getElem? (i := 553) rfl) rfl
set_option maxRecDepth 100000 in
theorem qk_555 : (.instanceMethod qy_U_mayFromBounds : Cond) ∈ qtb := qw_in (List.mem_of_getElem? (i := 555) rfl) rfl
set_option maxRecDepth 100000 in
theorem qk_556 : (.code qy_U_mayFromBounds prog_5_method_3_code 6 (some FieldType.boolean) : Cond) ∈ qtb := qw_in (List.mem_of_getElem? (i := 556) rfl) rfl
set_option maxRecDepth 100000 in
theorem qk_557 : (.methodLink "CaptureSubtypes$Turning" 62 qy_S_boundCountOf : Cond) ∈ qtb := qw_in (List.mem_of_getElem? (i := 557) rfl) rfl
set_option maxRecDepth 100000 in
theorem qk_558 : (.methodLink "CaptureSubtypes$Turning" 67 qy_S_boundOf : Cond) ∈ qtb := qw_in (List.mem_of_getElem? (i := 558) rfl) rfl
set_option maxRecDepth 100000 in
theorem qk_559 : (.methodLink "CaptureSubtypes$Turning" 52 qy_U_mayTurn : Cond) ∈ qtb := qw_in (List.mem_of_getElem? (i := 559) rfl) rfl
set_option maxRecDepth 100000 in
theorem qk_560 : (.methodLink "CaptureSubtypes$Turning" 42 qy_U_mayIntoBounds : Cond) ∈ qtb := qw_in (List.mem_of_getElem? (i := 560) rfl) rfl
set_option maxRecDepth 100000 in
theorem qk_562 : (.instanceMethod qy_U_mayIntoBounds : Cond) ∈ qtb := qw_in (List.mem_of_getElem? (i := 562) rfl) rfl
set_option maxRecDepth 100000 in
theorem qk_563 : (.code qy_U_mayIntoBounds prog_5_method_4_code 6 (some FieldType.boolean) : Cond) ∈ qtb := qw_in (List.mem_of_getElem? (i := 563) rfl) rfl
set_option maxRecDepth 100000 in
theorem qk_564 : (.methodLink "CaptureSubtypes$Turning" 45 qy_T_sortOf : Cond) ∈ qtb := qw_in (List.mem_of_getElem? (i := 564) rfl) rfl
set_option maxRecDepth 100000 in
theorem qk_565 : (.methodLink "CaptureSubtypes$Turning" 49 qy_T_firstOf : Cond) ∈ qtb := qw_in (List.mem_of_getElem? (i := 565) rfl) rfl
set_option maxRecDepth 100000 in
theorem qk_566 : (.methodLink "CaptureSubtypes$Turning" 55 qy_T_isOfClass : Cond) ∈ qtb := qw_in (List.mem_of_getElem? (i := 566) rfl) rfl
set_option maxRecDepth 100000 in
theorem qk_567 : (.methodLink "CaptureSubtypes$Turning" 58 qy_U_mayByClass : Cond) ∈ qtb := qw_in (List.mem_of_getElem? (i := 567) rfl) rfl
set_option maxRecDepth 100000 in
theorem qk_569 : (.instanceMethod qy_U_mayByClass : Cond) ∈ qtb := qw_in (List.mem_of_getElem? (i := 569) rfl) rfl
set_option maxRecDepth 100000 in
theorem qk_570 : (.code qy_U_mayByClass prog_5_method_5_code 12 (some FieldType.boolean) : Cond) ∈ qtb := qw_in (List.mem_of_getElem? (i := 570) rfl) rfl
set_option maxRecDepth 100000 in
theorem qk_571 : (.methodLink "CaptureSubtypes$Turning" 71 qy_T_ownerOf : Cond) ∈ qtb := qw_in (List.mem_of_getElem? (i := 571) rfl) rfl
set_option maxRecDepth 100000 in
theorem qk_572 : (.methodLink "CaptureSubtypes$Turning" 74 qy_K_areApart : Cond) ∈ qtb := qw_in (List.mem_of_getElem? (i := 572) rfl) rfl
set_option maxRecDepth 100000 in
theorem qk_573 : (.methodLink "CaptureSubtypes$Turning" 79 qy_T_mark : Cond) ∈ qtb := qw_in (List.mem_of_getElem? (i := 573) rfl) rfl
set_option maxRecDepth 100000 in
theorem qk_574 : (.methodLink "CaptureSubtypes$Turning" 83 qy_S_caught : Cond) ∈ qtb := qw_in (List.mem_of_getElem? (i := 574) rfl) rfl
set_option maxRecDepth 100000 in
theorem qk_575 : (.methodLink "CaptureSubtypes$Turning" 90 qy_K_isUnder : Cond) ∈ qtb := qw_in (List.mem_of_getElem? (i := 575) rfl) rfl
set_option maxRecDepth 100000 in
theorem qk_576 : (.methodLink "CaptureSubtypes$Turning" 93 qy_S_viewedAs : Cond) ∈ qtb := qw_in (List.mem_of_getElem? (i := 576) rfl) rfl
set_option maxRecDepth 100000 in
theorem qk_577 : (.methodLink "CaptureSubtypes$Turning" 96 qy_U_differ : Cond) ∈ qtb := qw_in (List.mem_of_getElem? (i := 577) rfl) rfl
set_option maxRecDepth 100000 in
theorem qk_579 : (.instanceMethod qy_U_differ : Cond) ∈ qtb := qw_in (List.mem_of_getElem? (i := 579) rfl) rfl
set_option maxRecDepth 100000 in
theorem qk_580 : (.code qy_U_differ prog_5_method_6_code 10 (some FieldType.boolean) : Cond) ∈ qtb := qw_in (List.mem_of_getElem? (i := 580) rfl) rfl
set_option maxRecDepth 100000 in
theorem qk_581 : (.methodLink "CaptureSubtypes$Turning" 103 qy_T_argumentOf : Cond) ∈ qtb := qw_in (List.mem_of_getElem? (i := 581) rfl) rfl
set_option maxRecDepth 100000 in
theorem qk_582 : (.methodLink "CaptureSubtypes$Turning" 106 qy_U_facetCount : Cond) ∈ qtb := qw_in (List.mem_of_getElem? (i := 582) rfl) rfl
set_option maxRecDepth 100000 in
theorem qk_584 : (.instanceMethod qy_U_facetCount : Cond) ∈ qtb := qw_in (List.mem_of_getElem? (i := 584) rfl) rfl
set_option maxRecDepth 100000 in
theorem qk_585 : (.code qy_U_facetCount prog_5_method_7_code 2 (some FieldType.int) : Cond) ∈ qtb := qw_in (List.mem_of_getElem? (i := 585) rfl) rfl
set_option maxRecDepth 100000 in
theorem qk_586 : (.methodLink "CaptureSubtypes$Turning" 109 qy_U_facet : Cond) ∈ qtb := qw_in (List.mem_of_getElem? (i := 586) rfl) rfl
set_option maxRecDepth 100000 in
theorem qk_588 : (.instanceMethod qy_U_facet : Cond) ∈ qtb := qw_in (List.mem_of_getElem? (i := 588) rfl) rfl
set_option maxRecDepth 100000 in
theorem qk_589 : (.code qy_U_facet prog_5_method_8_code 3 (some FieldType.int) : Cond) ∈ qtb := qw_in (List.mem_of_getElem? (i := 589) rfl) rfl
set_option maxRecDepth 100000 in
theorem qk_592 : (.instanceMethod qy_S_erasure : Cond) ∈ qtb := qw_in (List.mem_of_getElem? (i := 592) rfl) rfl
set_option maxRecDepth 100000 in
theorem qk_593 : (.code qy_S_erasure prog_4_method_2_code 4 (some FieldType.int) : Cond) ∈ qtb := qw_in (List.mem_of_getElem? (i := 593) rfl) rfl
set_option maxRecDepth 100000 in
theorem qk_594 : (.methodLink "CaptureSubtypes$Shapes" 32 qy_T_isVariable : Cond) ∈ qtb := qw_in (List.mem_of_getElem? (i := 594) rfl) rfl
set_option maxRecDepth 100000 in
theorem qk_595 : (.methodLink "CaptureSubtypes$Shapes" 35 qy_S_boundOf : Cond) ∈ qtb := qw_in (List.mem_of_getElem? (i := 595) rfl) rfl
set_option maxRecDepth 100000 in
theorem qk_596 : (.methodLink "CaptureSubtypes$Shapes" 39 qy_S_erasure : Cond) ∈ qtb := qw_in (List.mem_of_getElem? (i := 596) rfl) rfl
set_option maxRecDepth 100000 in
theorem qk_597 : (.methodLink "CaptureSubtypes$Turning" 99 qy_T_dropTo : Cond) ∈ qtb := qw_in (List.mem_of_getElem? (i := 597) rfl) rfl
set_option maxRecDepth 100000 in
theorem qk_598 : (.methodLink "CaptureSubtypesLaw" 81 qy_X_as : Cond) ∈ qtb := qw_in (List.mem_of_getElem? (i := 598) rfl) rfl
set_option maxRecDepth 100000 in
theorem qk_599 : (.instanceMethod qy_X_as : Cond) ∈ qtb := qw_in (List.mem_of_getElem? (i := 599) rfl) rfl
set_option maxRecDepth 100000 in
theorem qk_600 : (.selects "CaptureSubtypes" qy_X_as qy_X_as : Cond) ∈ qtb := qw_in (List.mem_of_getElem? (i := 600) rfl) rfl
set_option maxRecDepth 100000 in
theorem qk_601 : (.code qy_X_as prog_1_method_18_code 3 (some FieldType.int) : Cond) ∈ qtb := qw_in (List.mem_of_getElem? (i := 601) rfl) rfl
set_option maxRecDepth 100000 in
theorem qk_602 : (.methodLink "CaptureSubtypes" 165 qy_T_hasWildArgument : Cond) ∈ qtb := qw_in (List.mem_of_getElem? (i := 602) rfl) rfl
set_option maxRecDepth 100000 in
theorem qk_603 : (.methodLink "CaptureSubtypes" 171 qy_S_viewedAs : Cond) ∈ qtb := qw_in (List.mem_of_getElem? (i := 603) rfl) rfl
set_option maxRecDepth 100000 in
theorem qk_604 : (.methodLink "CaptureSubtypes" 174 qy_X_settle : Cond) ∈ qtb := qw_in (List.mem_of_getElem? (i := 604) rfl) rfl
set_option maxRecDepth 100000 in
theorem qk_606 : (.instanceMethod qy_X_settle : Cond) ∈ qtb := qw_in (List.mem_of_getElem? (i := 606) rfl) rfl
set_option maxRecDepth 100000 in
theorem qk_607 : (.code qy_X_settle prog_1_method_21_code 3 (some FieldType.int) : Cond) ∈ qtb := qw_in (List.mem_of_getElem? (i := 607) rfl) rfl
set_option maxRecDepth 100000 in
theorem qk_608 : (.methodLink "CaptureSubtypesLaw" 85 qy_X_erased : Cond) ∈ qtb := qw_in (List.mem_of_getElem? (i := 608) rfl) rfl
set_option maxRecDepth 100000 in
theorem qk_609 : (.instanceMethod qy_X_erased : Cond) ∈ qtb := qw_in (List.mem_of_getElem? (i := 609) rfl) rfl
set_option maxRecDepth 100000 in
theorem qk_610 : (.selects "CaptureSubtypes" qy_X_erased qy_X_erased : Cond) ∈ qtb := qw_in (List.mem_of_getElem? (i := 610) rfl) rfl
set_option maxRecDepth 100000 in
theorem qk_611 : (.code qy_X_erased prog_1_method_19_code 2 (some FieldType.int) : Cond) ∈ qtb := qw_in (List.mem_of_getElem? (i := 611) rfl) rfl
set_option maxRecDepth 100000 in
theorem qk_613 : (.methodLink "CaptureSubtypesLaw" 89 qy_X_good : Cond) ∈ qtb := qw_in (List.mem_of_getElem? (i := 613) rfl) rfl
set_option maxRecDepth 100000 in
theorem qk_614 : (.instanceMethod qy_X_good : Cond) ∈ qtb := qw_in (List.mem_of_getElem? (i := 614) rfl) rfl
set_option maxRecDepth 100000 in
theorem qk_615 : (.selects "CaptureSubtypes" qy_X_good qy_X_good : Cond) ∈ qtb := qw_in (List.mem_of_getElem? (i := 615) rfl) rfl
set_option maxRecDepth 100000 in
theorem qk_616 : (.code qy_X_good prog_1_method_20_code 3 (some FieldType.int) : Cond) ∈ qtb := qw_in (List.mem_of_getElem? (i := 616) rfl) rfl
set_option maxRecDepth 100000 in
theorem qk_617 : (.methodLink "CaptureSubtypes" 180 qy_O_keepsBounds : Cond) ∈ qtb := qw_in (List.mem_of_getElem? (i := 617) rfl) rfl
set_option maxRecDepth 100000 in
theorem qk_618 : (.instanceMethod qy_O_keepsBounds : Cond) ∈ qtb := qw_in (List.mem_of_getElem? (i := 618) rfl) rfl
set_option maxRecDepth 100000 in
theorem qk_619 : (.selects "CaptureSubtypes$Order" qy_O_keepsBounds qy_O_keepsBounds : Cond) ∈ qtb := qw_in (List.mem_of_getElem? (i := 619) rfl) rfl
set_option maxRecDepth 100000 in
theorem qk_620 : (.code qy_O_keepsBounds prog_3_method_9_code 6 (some FieldType.boolean) : Cond) ∈ qtb := qw_in (List.mem_of_getElem? (i := 620) rfl) rfl
set_option maxRecDepth 100000 in
theorem qk_621 : (.methodLink "CaptureSubtypes$Order" 99 qy_K_parametersOf : Cond) ∈ qtb := qw_in (List.mem_of_getElem? (i := 621) rfl) rfl
set_option maxRecDepth 100000 in
theorem qk_622 : (.methodLink "CaptureSubtypes$Order" 102 qy_T_argumentOf : Cond) ∈ qtb := qw_in (List.mem_of_getElem? (i := 622) rfl) rfl
set_option maxRecDepth 100000 in
theorem qk_623 : (.methodLink "CaptureSubtypes$Order" 105 qy_O_keepsBoundsAt : Cond) ∈ qtb := qw_in (List.mem_of_getElem? (i := 623) rfl) rfl
set_option maxRecDepth 100000 in
theorem qk_625 : (.instanceMethod qy_O_keepsBoundsAt : Cond) ∈ qtb := qw_in (List.mem_of_getElem? (i := 625) rfl) rfl
set_option maxRecDepth 100000 in
theorem qk_626 : (.code qy_O_keepsBoundsAt prog_3_method_10_code 7 (some FieldType.boolean) : Cond) ∈ qtb := qw_in (List.mem_of_getElem? (i := 626) rfl) rfl
set_option maxRecDepth 100000 in
theorem qk_627 : (.methodLink "CaptureSubtypes$Order" 108 qy_K_boundCount : Cond) ∈ qtb := qw_in (List.mem_of_getElem? (i := 627) rfl) rfl
set_option maxRecDepth 100000 in
theorem qk_628 : (.methodLink "CaptureSubtypes$Order" 111 qy_K_boundAt : Cond) ∈ qtb := qw_in (List.mem_of_getElem? (i := 628) rfl) rfl
set_option maxRecDepth 100000 in
theorem qk_630 : (.classLink "CaptureSubtypesLaw" 10 "CaptureSubtypesModel" : Cond) ∈ qtb := qw_in (List.mem_of_getElem? (i := 630) rfl) rfl
set_option maxRecDepth 100000 in
theorem qk_631 : (.instantiable "CaptureSubtypesModel" 32 : Cond) ∈ qtb := qw_in (List.mem_of_getElem? (i := 631) rfl) rfl
set_option maxRecDepth 100000 in
theorem qk_632 : (.methodLink "CaptureSubtypesLaw" 12 qy_M_init : Cond) ∈ qtb := qw_in (List.mem_of_getElem? (i := 632) rfl) rfl
set_option maxRecDepth 100000 in
theorem qk_633 : (.instanceMethod qy_M_init : Cond) ∈ qtb := qw_in (List.mem_of_getElem? (i := 633) rfl) rfl
set_option maxRecDepth 100000 in
theorem qk_634 : (.code qy_M_init prog_8_method_1_code 1 none : Cond) ∈ qtb := qw_in (List.mem_of_getElem? (i := 634) rfl) rfl
set_option maxRecDepth 100000 in
theorem qk_635 : (.methodLink "CaptureSubtypesModel" 1 objectInit : Cond) ∈ qtb := qw_in (List.mem_of_getElem? (i := 635) rfl) rfl
set_option maxRecDepth 100000 in
theorem qk_636 : (.methodLink "CaptureSubtypesModel" 92 qy_M_begin : Cond) ∈ qtb := qw_in (List.mem_of_getElem? (i := 636) rfl) rfl
set_option maxRecDepth 100000 in
theorem qk_638 : (.instanceMethod qy_M_begin : Cond) ∈ qtb := qw_in (List.mem_of_getElem? (i := 638) rfl) rfl
set_option maxRecDepth 100000 in
theorem qk_639 : (.code qy_M_begin prog_8_method_3_code 1 none : Cond) ∈ qtb := qw_in (List.mem_of_getElem? (i := 639) rfl) rfl
set_option maxRecDepth 100000 in
theorem qk_640 : (.methodLink "CaptureSubtypesModel" 102 qy_M_put : Cond) ∈ qtb := qw_in (List.mem_of_getElem? (i := 640) rfl) rfl
set_option maxRecDepth 100000 in
theorem qk_642 : (.instanceMethod qy_M_put : Cond) ∈ qtb := qw_in (List.mem_of_getElem? (i := 642) rfl) rfl
set_option maxRecDepth 100000 in
theorem qk_643 : (.code qy_M_put prog_8_method_5_code 7 none : Cond) ∈ qtb := qw_in (List.mem_of_getElem? (i := 643) rfl) rfl
set_option maxRecDepth 100000 in
theorem qk_644 : (.methodLink "CaptureSubtypesModel" 106 qy_M_fresh : Cond) ∈ qtb := qw_in (List.mem_of_getElem? (i := 644) rfl) rfl
set_option maxRecDepth 100000 in
theorem qk_646 : (.instanceMethod qy_M_fresh : Cond) ∈ qtb := qw_in (List.mem_of_getElem? (i := 646) rfl) rfl
set_option maxRecDepth 100000 in
theorem qk_647 : (.code qy_M_fresh prog_8_method_6_code 1 none : Cond) ∈ qtb := qw_in (List.mem_of_getElem? (i := 647) rfl) rfl
set_option maxRecDepth 100000 in
theorem qk_648 : (.fieldLink "CaptureSubtypesModel" 95 "CaptureSubtypesModel" "classes" "I" : Cond) ∈ qtb := qw_in (List.mem_of_getElem? (i := 648) rfl) rfl
set_option maxRecDepth 100000 in
theorem qk_649 : (.fieldLink "CaptureSubtypesModel" 7 "CaptureSubtypesModel" "kinds" "[I" : Cond) ∈ qtb := qw_in (List.mem_of_getElem? (i := 649) rfl) rfl
set_option maxRecDepth 100000 in
theorem qk_650 : (.fieldLink "CaptureSubtypesModel" 13 "CaptureSubtypesModel" "parameters" "[I" : Cond) ∈ qtb := qw_in (List.mem_of_getElem? (i := 650) rfl) rfl
set_option maxRecDepth 100000 in
theorem qk_651 : (.fieldLink "CaptureSubtypesModel" 16 "CaptureSubtypesModel" "supers" "[I" : Cond) ∈ qtb := qw_in (List.mem_of_getElem? (i := 651) rfl) rfl
set_option maxRecDepth 100000 in
theorem qk_652 : (.fieldLink "CaptureSubtypesModel" 19 "CaptureSubtypesModel" "others" "[I" : Cond) ∈ qtb := qw_in (List.mem_of_getElem? (i := 652) rfl) rfl
set_option maxRecDepth 100000 in
theorem qk_653 : (.fieldLink "CaptureSubtypesModel" 22 "CaptureSubtypesModel" "bound" "[I" : Cond) ∈ qtb := qw_in (List.mem_of_getElem? (i := 653) rfl) rfl
set_option maxRecDepth 100000 in
theorem qk_654 : (.fieldLink "CaptureSubtypesModel" 25 "CaptureSubtypesModel" "bounds" "[I" : Cond) ∈ qtb := qw_in (List.mem_of_getElem? (i := 654) rfl) rfl
set_option maxRecDepth 100000 in
theorem qk_655 : (.fieldLink "CaptureSubtypesModel" 99 "CaptureSubtypesModel" "types" "I" : Cond) ∈ qtb := qw_in (List.mem_of_getElem? (i := 655) rfl) rfl
set_option maxRecDepth 100000 in
theorem qk_656 : (.fieldLink "CaptureSubtypesModel" 109 "CaptureSubtypesModel" "pool" "I" : Cond) ∈ qtb := qw_in (List.mem_of_getElem? (i := 656) rfl) rfl
set_option maxRecDepth 100000 in
theorem qk_657 : (.fieldLink "CaptureSubtypesModel" 28 "CaptureSubtypesModel" "sort" "[I" : Cond) ∈ qtb := qw_in (List.mem_of_getElem? (i := 657) rfl) rfl
set_option maxRecDepth 100000 in
theorem qk_658 : (.fieldLink "CaptureSubtypesModel" 31 "CaptureSubtypesModel" "first" "[I" : Cond) ∈ qtb := qw_in (List.mem_of_getElem? (i := 658) rfl) rfl
set_option maxRecDepth 100000 in
theorem qk_659 : (.fieldLink "CaptureSubtypesModel" 34 "CaptureSubtypesModel" "second" "[I" : Cond) ∈ qtb := qw_in (List.mem_of_getElem? (i := 659) rfl) rfl
set_option maxRecDepth 100000 in
theorem qk_660 : (.fieldLink "CaptureSubtypesModel" 37 "CaptureSubtypesModel" "third" "[I" : Cond) ∈ qtb := qw_in (List.mem_of_getElem? (i := 660) rfl) rfl
set_option maxRecDepth 100000 in
theorem qk_661 : (.fieldLink "CaptureSubtypesModel" 40 "CaptureSubtypesModel" "deep" "[I" : Cond) ∈ qtb := qw_in (List.mem_of_getElem? (i := 661) rfl) rfl
set_option maxRecDepth 100000 in
theorem qk_662 : (.fieldLink "CaptureSubtypesModel" 112 "CaptureSubtypesModel" "caught" "I" : Cond) ∈ qtb := qw_in (List.mem_of_getElem? (i := 662) rfl) rfl
set_option maxRecDepth 100000 in
theorem qk_663 : (.fieldLink "CaptureSubtypesModel" 43 "CaptureSubtypesModel" "caughtBound" "[I" : Cond) ∈ qtb := qw_in (List.mem_of_getElem? (i := 663) rfl) rfl
set_option maxRecDepth 100000 in
theorem qk_664 : (.fieldLink "CaptureSubtypesModel" 46 "CaptureSubtypesModel" "caughtBounds" "[I" : Cond) ∈ qtb := qw_in (List.mem_of_getElem? (i := 664) rfl) rfl
set_option maxRecDepth 100000 in
theorem qk_665 : (.fieldLink "CaptureSubtypesModel" 49 "CaptureSubtypesModel" "caughtLow" "[I" : Cond) ∈ qtb := qw_in (List.mem_of_getElem? (i := 665) rfl) rfl
set_option maxRecDepth 100000 in
theorem qk_666 : (.fieldLink "CaptureSubtypesModel" 52 "CaptureSubtypesModel" "isBelow" "[Z" : Cond) ∈ qtb := qw_in (List.mem_of_getElem? (i := 666) rfl) rfl
set_option maxRecDepth 100000 in
theorem qk_667 : (.fieldLink "CaptureSubtypesModel" 56 "CaptureSubtypesModel" "isApart" "[Z" : Cond) ∈ qtb := qw_in (List.mem_of_getElem? (i := 667) rfl) rfl
set_option maxRecDepth 100000 in
theorem qk_668 : (.fieldLink "CaptureSubtypesModel" 59 "CaptureSubtypesModel" "become" "[I" : Cond) ∈ qtb := qw_in (List.mem_of_getElem? (i := 668) rfl) rfl
set_option maxRecDepth 100000 in
theorem qk_669 : (.fieldLink "CaptureSubtypesModel" 62 "CaptureSubtypesModel" "isNeeded" "[Z" : Cond) ∈ qtb := qw_in (List.mem_of_getElem? (i := 669) rfl) rfl
set_option maxRecDepth 100000 in
theorem qk_670 : (.fieldLink "CaptureSubtypesModel" 65 "CaptureSubtypesModel" "caughtNow" "[I" : Cond) ∈ qtb := qw_in (List.mem_of_getElem? (i := 670) rfl) rfl
set_option maxRecDepth 100000 in
theorem qk_671 : (.fieldLink "CaptureSubtypesModel" 68 "CaptureSubtypesModel" "askS" "[I" : Cond) ∈ qtb := qw_in (List.mem_of_getElem? (i := 671) rfl) rfl
set_option maxRecDepth 100000 in
theorem qk_672 : (.fieldLink "CaptureSubtypesModel" 71 "CaptureSubtypesModel" "askT" "[I" : Cond) ∈ qtb := qw_in (List.mem_of_getElem? (i := 672) rfl) rfl
set_option maxRecDepth 100000 in
theorem qk_673 : (.fieldLink "CaptureSubtypesModel" 74 "CaptureSubtypesModel" "askState" "[I" : Cond) ∈ qtb := qw_in (List.mem_of_getElem? (i := 673) rfl) rfl
set_option maxRecDepth 100000 in
theorem qk_674 : (.fieldLink "CaptureSubtypesModel" 77 "CaptureSubtypesModel" "askStep" "[I" : Cond) ∈ qtb := qw_in (List.mem_of_getElem? (i := 674) rfl) rfl
set_option maxRecDepth 100000 in
theorem qk_675 : (.fieldLink "CaptureSubtypesModel" 80 "CaptureSubtypesModel" "askAs" "[I" : Cond) ∈ qtb := qw_in (List.mem_of_getElem? (i := 675) rfl) rfl
set_option maxRecDepth 100000 in
theorem qk_676 : (.fieldLink "CaptureSubtypesModel" 190 "CaptureSubtypesModel" "asked" "I" : Cond) ∈ qtb := qw_in (List.mem_of_getElem? (i := 676) rfl) rfl
set_option maxRecDepth 100000 in
theorem qk_677 : (.fieldLink "CaptureSubtypesModel" 83 "CaptureSubtypesModel" "pileS" "[I" : Cond) ∈ qtb := qw_in (List.mem_of_getElem? (i := 677) rfl) rfl
set_option maxRecDepth 100000 in
theorem qk_678 : (.fieldLink "CaptureSubtypesModel" 86 "CaptureSubtypesModel" "pileT" "[I" : Cond) ∈ qtb := qw_in (List.mem_of_getElem? (i := 678) rfl) rfl
set_option maxRecDepth 100000 in
theorem qk_679 : (.fieldLink "CaptureSubtypesModel" 89 "CaptureSubtypesModel" "asOf" "[I" : Cond) ∈ qtb := qw_in (List.mem_of_getElem? (i := 679) rfl) rfl
set_option maxRecDepth 100000 in
theorem qk_680 : (.lays "CaptureSubtypesModel" "CaptureSubtypesModel" "classes" "I" : Cond) ∈ qtb := qw_in (List.mem_of_getElem? (i := 680) rfl) rfl
set_option maxRecDepth 100000 in
theorem qk_682 : (.laysFinal "CaptureSubtypesModel" "CaptureSubtypesModel" "kinds" "[I" : Cond) ∈ qtb := qw_in (List.mem_of_getElem? (i := 682) rfl) rfl
set_option maxRecDepth 100000 in
theorem qk_684 : (.laysFinal "CaptureSubtypesModel" "CaptureSubtypesModel" "parameters" "[I" : Cond) ∈ qtb := qw_in (List.mem_of_getElem? (i := 684) rfl) rfl
set_option maxRecDepth 100000 in
theorem qk_686 : (.laysFinal "CaptureSubtypesModel" "CaptureSubtypesModel" "supers" "[I" : Cond) ∈ qtb := qw_in (List.mem_of_getElem? (i := 686) rfl) rfl
set_option maxRecDepth 100000 in
theorem qk_688 : (.laysFinal "CaptureSubtypesModel" "CaptureSubtypesModel" "others" "[I" : Cond) ∈ qtb := qw_in (List.mem_of_getElem? (i := 688) rfl) rfl
set_option maxRecDepth 100000 in
theorem qk_690 : (.laysFinal "CaptureSubtypesModel" "CaptureSubtypesModel" "bound" "[I" : Cond) ∈ qtb := qw_in (List.mem_of_getElem? (i := 690) rfl) rfl
set_option maxRecDepth 100000 in
theorem qk_692 : (.laysFinal "CaptureSubtypesModel" "CaptureSubtypesModel" "bounds" "[I" : Cond) ∈ qtb := qw_in (List.mem_of_getElem? (i := 692) rfl) rfl
set_option maxRecDepth 100000 in
theorem qk_694 : (.lays "CaptureSubtypesModel" "CaptureSubtypesModel" "types" "I" : Cond) ∈ qtb := qw_in (List.mem_of_getElem? (i := 694) rfl) rfl
set_option maxRecDepth 100000 in
theorem qk_696 : (.lays "CaptureSubtypesModel" "CaptureSubtypesModel" "pool" "I" : Cond) ∈ qtb := qw_in (List.mem_of_getElem? (i := 696) rfl) rfl
set_option maxRecDepth 100000 in
theorem qk_698 : (.laysFinal "CaptureSubtypesModel" "CaptureSubtypesModel" "sort" "[I" : Cond) ∈ qtb := qw_in (List.mem_of_getElem? (i := 698) rfl) rfl
set_option maxRecDepth 100000 in
theorem qk_700 : (.laysFinal "CaptureSubtypesModel" "CaptureSubtypesModel" "first" "[I" : Cond) ∈ qtb := qw_in (List.mem_of_getElem? (i := 700) rfl) rfl
set_option maxRecDepth 100000 in
theorem qk_702 : (.laysFinal "CaptureSubtypesModel" "CaptureSubtypesModel" "second" "[I" : Cond) ∈ qtb := qw_in (List.mem_of_getElem? (i := 702) rfl) rfl
set_option maxRecDepth 100000 in
theorem qk_704 : (.laysFinal "CaptureSubtypesModel" "CaptureSubtypesModel" "third" "[I" : Cond) ∈ qtb := qw_in (List.mem_of_getElem? (i := 704) rfl) rfl
set_option maxRecDepth 100000 in
theorem qk_706 : (.laysFinal "CaptureSubtypesModel" "CaptureSubtypesModel" "deep" "[I" : Cond) ∈ qtb := qw_in (List.mem_of_getElem? (i := 706) rfl) rfl
set_option maxRecDepth 100000 in
theorem qk_708 : (.lays "CaptureSubtypesModel" "CaptureSubtypesModel" "caught" "I" : Cond) ∈ qtb := qw_in (List.mem_of_getElem? (i := 708) rfl) rfl
set_option maxRecDepth 100000 in
theorem qk_710 : (.laysFinal "CaptureSubtypesModel" "CaptureSubtypesModel" "caughtBound" "[I" : Cond) ∈ qtb := qw_in (List.mem_of_getElem? (i := 710) rfl) rfl
set_option maxRecDepth 100000 in
theorem qk_712 : (.laysFinal "CaptureSubtypesModel" "CaptureSubtypesModel" "caughtBounds" "[I" : Cond) ∈ qtb := qw_in (List.mem_of_getElem? (i := 712) rfl) rfl
set_option maxRecDepth 100000 in
theorem qk_714 : (.laysFinal "CaptureSubtypesModel" "CaptureSubtypesModel" "caughtLow" "[I" : Cond) ∈ qtb := qw_in (List.mem_of_getElem? (i := 714) rfl) rfl
set_option maxRecDepth 100000 in
theorem qk_716 : (.laysFinal "CaptureSubtypesModel" "CaptureSubtypesModel" "isBelow" "[Z" : Cond) ∈ qtb := qw_in (List.mem_of_getElem? (i := 716) rfl) rfl
set_option maxRecDepth 100000 in
theorem qk_718 : (.laysFinal "CaptureSubtypesModel" "CaptureSubtypesModel" "isApart" "[Z" : Cond) ∈ qtb := qw_in (List.mem_of_getElem? (i := 718) rfl) rfl
set_option maxRecDepth 100000 in
theorem qk_720 : (.laysFinal "CaptureSubtypesModel" "CaptureSubtypesModel" "become" "[I" : Cond) ∈ qtb := qw_in (List.mem_of_getElem? (i := 720) rfl) rfl
set_option maxRecDepth 100000 in
theorem qk_722 : (.laysFinal "CaptureSubtypesModel" "CaptureSubtypesModel" "isNeeded" "[Z" : Cond) ∈ qtb := qw_in (List.mem_of_getElem? (i := 722) rfl) rfl
set_option maxRecDepth 100000 in
theorem qk_724 : (.laysFinal "CaptureSubtypesModel" "CaptureSubtypesModel" "caughtNow" "[I" : Cond) ∈ qtb := qw_in (List.mem_of_getElem? (i := 724) rfl) rfl
set_option maxRecDepth 100000 in
theorem qk_726 : (.laysFinal "CaptureSubtypesModel" "CaptureSubtypesModel" "askS" "[I" : Cond) ∈ qtb := qw_in (List.mem_of_getElem? (i := 726) rfl) rfl
set_option maxRecDepth 100000 in
theorem qk_728 : (.laysFinal "CaptureSubtypesModel" "CaptureSubtypesModel" "askT" "[I" : Cond) ∈ qtb := qw_in (List.mem_of_getElem? (i := 728) rfl) rfl
set_option maxRecDepth 100000 in
theorem qk_730 : (.laysFinal "CaptureSubtypesModel" "CaptureSubtypesModel" "askState" "[I" : Cond) ∈ qtb := qw_in (List.mem_of_getElem? (i := 730) rfl) rfl
set_option maxRecDepth 100000 in
theorem qk_732 : (.laysFinal "CaptureSubtypesModel" "CaptureSubtypesModel" "askStep" "[I" : Cond) ∈ qtb := qw_in (List.mem_of_getElem? (i := 732) rfl) rfl
set_option maxRecDepth 100000 in
theorem qk_734 : (.laysFinal "CaptureSubtypesModel" "CaptureSubtypesModel" "askAs" "[I" : Cond) ∈ qtb := qw_in (List.mem_of_getElem? (i := 734) rfl) rfl
set_option maxRecDepth 100000 in
theorem qk_736 : (.lays "CaptureSubtypesModel" "CaptureSubtypesModel" "asked" "I" : Cond) ∈ qtb := qw_in (List.mem_of_getElem? (i := 736) rfl) rfl
set_option maxRecDepth 100000 in
theorem qk_738 : (.laysFinal "CaptureSubtypesModel" "CaptureSubtypesModel" "pileS" "[I" : Cond) ∈ qtb := qw_in (List.mem_of_getElem? (i := 738) rfl) rfl
set_option maxRecDepth 100000 in
theorem qk_740 : (.laysFinal "CaptureSubtypesModel" "CaptureSubtypesModel" "pileT" "[I" : Cond) ∈ qtb := qw_in (List.mem_of_getElem? (i := 740) rfl) rfl
set_option maxRecDepth 100000 in
theorem qk_742 : (.laysFinal "CaptureSubtypesModel" "CaptureSubtypesModel" "asOf" "[I" : Cond) ∈ qtb := qw_in (List.mem_of_getElem? (i := 742) rfl) rfl
set_option maxRecDepth 100000 in
theorem qk_745 : (.arrayClass FieldType.boolean : Cond) ∈ qtb := qw_in (List.mem_of_getElem? (i := 745) rfl) rfl
set_option maxRecDepth 100000 in
theorem qk_746 : (.methodLink "CaptureSubtypesLaw" 17 qy_M_clear : Cond) ∈ qtb := qw_in (List.mem_of_getElem? (i := 746) rfl) rfl
set_option maxRecDepth 100000 in
theorem qk_747 : (.instanceMethod qy_M_clear : Cond) ∈ qtb := qw_in (List.mem_of_getElem? (i := 747) rfl) rfl
set_option maxRecDepth 100000 in
theorem qk_748 : (.selects "CaptureSubtypesModel" qy_M_clear qy_M_clear : Cond) ∈ qtb := qw_in (List.mem_of_getElem? (i := 748) rfl) rfl
set_option maxRecDepth 100000 in
theorem qk_749 : (.code qy_M_clear prog_8_method_4_code 2 (some FieldType.int) : Cond) ∈ qtb := qw_in (List.mem_of_getElem? (i := 749) rfl) rfl
set_option maxRecDepth 100000 in
theorem qk_750 : (.methodLink "CaptureSubtypesLaw" 22 qy_M_declare : Cond) ∈ qtb := qw_in (List.mem_of_getElem? (i := 750) rfl) rfl
set_option maxRecDepth 100000 in
theorem qk_751 : (.instanceMethod qy_M_declare : Cond) ∈ qtb := qw_in (List.mem_of_getElem? (i := 751) rfl) rfl
set_option maxRecDepth 100000 in
theorem qk_752 : (.selects "CaptureSubtypesModel" qy_M_declare qy_M_declare : Cond) ∈ qtb := qw_in (List.mem_of_getElem? (i := 752) rfl) rfl
set_option maxRecDepth 100000 in
theorem qk_753 : (.code qy_M_declare prog_8_method_13_code 4 (some FieldType.int) : Cond) ∈ qtb := qw_in (List.mem_of_getElem? (i := 753) rfl) rfl
set_option maxRecDepth 100000 in
theorem qk_754 : (.methodLink "CaptureSubtypesModel" 123 qy_M_isIn : Cond) ∈ qtb := qw_in (List.mem_of_getElem? (i := 754) rfl) rfl
set_option maxRecDepth 100000 in
theorem qk_755 : (.static qy_M_isIn : Cond) ∈ qtb := qw_in (List.mem_of_getElem? (i := 755) rfl) rfl
set_option maxRecDepth 100000 in
theorem qk_756 : (.code qy_M_isIn prog_8_method_2_code 3 (some FieldType.boolean) : Cond) ∈ qtb := qw_in (List.mem_of_getElem? (i := 756) rfl) rfl
set_option maxRecDepth 100000 in
theorem qk_757 : (.methodLink "CaptureSubtypesLaw" 36 qy_M_plain : Cond) ∈ qtb := qw_in (List.mem_of_getElem? (i := 757) rfl) rfl
set_option maxRecDepth 100000 in
theorem qk_758 : (.instanceMethod qy_M_plain : Cond) ∈ qtb := qw_in (List.mem_of_getElem? (i := 758) rfl) rfl
set_option maxRecDepth 100000 in
theorem qk_759 : (.selects "CaptureSubtypesModel" qy_M_plain qy_M_plain : Cond) ∈ qtb := qw_in (List.mem_of_getElem? (i := 759) rfl) rfl
set_option maxRecDepth 100000 in
theorem qk_760 : (.code qy_M_plain prog_8_method_14_code 2 (some FieldType.int) : Cond) ∈ qtb := qw_in (List.mem_of_getElem? (i := 760) rfl) rfl
set_option maxRecDepth 100000 in
theorem qk_761 : (.methodLink "CaptureSubtypesModel" 127 qy_M_isClass : Cond) ∈ qtb := qw_in (List.mem_of_getElem? (i := 761) rfl) rfl
set_option maxRecDepth 100000 in
theorem qk_763 : (.instanceMethod qy_M_isClass : Cond) ∈ qtb := qw_in (List.mem_of_getElem? (i := 763) rfl) rfl
set_option maxRecDepth 100000 in
theorem qk_764 : (.code qy_M_isClass prog_8_method_11_code 2 (some FieldType.boolean) : Cond) ∈ qtb := qw_in (List.mem_of_getElem? (i := 764) rfl) rfl
set_option maxRecDepth 100000 in
theorem qk_765 : (.methodLink "CaptureSubtypesModel" 131 qy_M_enter : Cond) ∈ qtb := qw_in (List.mem_of_getElem? (i := 765) rfl) rfl
set_option maxRecDepth 100000 in
theorem qk_767 : (.instanceMethod qy_M_enter : Cond) ∈ qtb := qw_in (List.mem_of_getElem? (i := 767) rfl) rfl
set_option maxRecDepth 100000 in
theorem qk_768 : (.code qy_M_enter prog_8_method_10_code 7 (some FieldType.int) : Cond) ∈ qtb := qw_in (List.mem_of_getElem? (i := 768) rfl) rfl
set_option maxRecDepth 100000 in
theorem qk_769 : (.methodLink "CaptureSubtypesModel" 119 qy_M_find : Cond) ∈ qtb := qw_in (List.mem_of_getElem? (i := 769) rfl) rfl
set_option maxRecDepth 100000 in
theorem qk_771 : (.instanceMethod qy_M_find : Cond) ∈ qtb := qw_in (List.mem_of_getElem? (i := 771) rfl) rfl
set_option maxRecDepth 100000 in
theorem qk_772 : (.code qy_M_find prog_8_method_8_code 6 (some FieldType.int) : Cond) ∈ qtb := qw_in (List.mem_of_getElem? (i := 772) rfl) rfl
set_option maxRecDepth 100000 in
theorem qk_773 : (.methodLink "CaptureSubtypesModel" 115 qy_M_isLike : Cond) ∈ qtb := qw_in (List.mem_of_getElem? (i := 773) rfl) rfl
set_option maxRecDepth 100000 in
theorem qk_775 : (.instanceMethod qy_M_isLike : Cond) ∈ qtb := qw_in (List.mem_of_getElem? (i := 775) rfl) rfl
set_option maxRecDepth 100000 in
theorem qk_776 : (.code qy_M_isLike prog_8_method_7_code 6 (some FieldType.boolean) : Cond) ∈ qtb := qw_in (List.mem_of_getElem? (i := 776) rfl) rfl
set_option maxRecDepth 100000 in
theorem qk_777 : (.methodLink "CaptureSubtypesLaw" 40 qy_M_of : Cond) ∈ qtb := qw_in (List.mem_of_getElem? (i := 777) rfl) rfl
set_option maxRecDepth 100000 in
theorem qk_778 : (.instanceMethod qy_M_of : Cond) ∈ qtb := qw_in (List.mem_of_getElem? (i := 778) rfl) rfl
set_option maxRecDepth 100000 in
theorem qk_779 : (.selects "CaptureSubtypesModel" qy_M_of qy_M_of : Cond) ∈ qtb := qw_in (List.mem_of_getElem? (i := 779) rfl) rfl
set_option maxRecDepth 100000 in
theorem qk_780 : (.code qy_M_of prog_8_method_16_code 6 (some FieldType.int) : Cond) ∈ qtb := qw_in (List.mem_of_getElem? (i := 780) rfl) rfl
set_option maxRecDepth 100000 in
theorem qk_781 : (.methodLink "CaptureSubtypesModel" 138 qy_M_isArgument : Cond) ∈ qtb := qw_in (List.mem_of_getElem? (i := 781) rfl) rfl
set_option maxRecDepth 100000 in
theorem qk_783 : (.instanceMethod qy_M_isArgument : Cond) ∈ qtb := qw_in (List.mem_of_getElem? (i := 783) rfl) rfl
set_option maxRecDepth 100000 in
theorem qk_784 : (.code qy_M_isArgument prog_8_method_15_code 2 (some FieldType.boolean) : Cond) ∈ qtb := qw_in (List.mem_of_getElem? (i := 784) rfl) rfl
set_option maxRecDepth 100000 in
theorem qk_785 : (.methodLink "CaptureSubtypesModel" 135 qy_M_isType : Cond) ∈ qtb := qw_in (List.mem_of_getElem? (i := 785) rfl) rfl
set_option maxRecDepth 100000 in
theorem qk_787 : (.instanceMethod qy_M_isType : Cond) ∈ qtb := qw_in (List.mem_of_getElem? (i := 787) rfl) rfl
set_option maxRecDepth 100000 in
theorem qk_788 : (.code qy_M_isType prog_8_method_12_code 2 (some FieldType.boolean) : Cond) ∈ qtb := qw_in (List.mem_of_getElem? (i := 788) rfl) rfl
set_option maxRecDepth 100000 in
theorem qk_789 : (.methodLink "CaptureSubtypesLaw" 44 qy_M_wild : Cond) ∈ qtb := qw_in (List.mem_of_getElem? (i := 789) rfl) rfl
set_option maxRecDepth 100000 in
theorem qk_790 : (.instanceMethod qy_M_wild : Cond) ∈ qtb := qw_in (List.mem_of_getElem? (i := 790) rfl) rfl
set_option maxRecDepth 100000 in
theorem qk_791 : (.selects "CaptureSubtypesModel" qy_M_wild qy_M_wild : Cond) ∈ qtb := qw_in (List.mem_of_getElem? (i := 791) rfl) rfl
set_option maxRecDepth 100000 in
theorem qk_792 : (.code qy_M_wild prog_8_method_17_code 3 (some FieldType.int) : Cond) ∈ qtb := qw_in (List.mem_of_getElem? (i := 792) rfl) rfl
set_option maxRecDepth 100000 in
theorem qk_793 : (.methodLink "CaptureSubtypesLaw" 48 qy_M_variable : Cond) ∈ qtb := qw_in (List.mem_of_getElem? (i := 793) rfl) rfl
set_option maxRecDepth 100000 in
theorem qk_794 : (.instanceMethod qy_M_variable : Cond) ∈ qtb := qw_in (List.mem_of_getElem? (i := 794) rfl) rfl
set_option maxRecDepth 100000 in
theorem qk_795 : (.selects "CaptureSubtypesModel" qy_M_variable qy_M_variable : Cond) ∈ qtb := qw_in (List.mem_of_getElem? (i := 795) rfl) rfl
set_option maxRecDepth 100000 in
theorem qk_796 : (.code qy_M_variable prog_8_method_18_code 3 (some FieldType.int) : Cond) ∈ qtb := qw_in (List.mem_of_getElem? (i := 796) rfl) rfl
set_option maxRecDepth 100000 in
theorem qk_797 : (.methodLink "CaptureSubtypesLaw" 52 qy_M_row : Cond) ∈ qtb := qw_in (List.mem_of_getElem? (i := 797) rfl) rfl
set_option maxRecDepth 100000 in
theorem qk_798 : (.instanceMethod qy_M_row : Cond) ∈ qtb := qw_in (List.mem_of_getElem? (i := 798) rfl) rfl
set_option maxRecDepth 100000 in
theorem qk_799 : (.selects "CaptureSubtypesModel" qy_M_row qy_M_row : Cond) ∈ qtb := qw_in (List.mem_of_getElem? (i := 799) rfl) rfl
set_option maxRecDepth 100000 in
theorem qk_800 : (.code qy_M_row prog_8_method_19_code 2 (some FieldType.int) : Cond) ∈ qtb := qw_in (List.mem_of_getElem? (i := 800) rfl) rfl
set_option maxRecDepth 100000 in
theorem qk_801 : (.methodLink "CaptureSubtypesLaw" 56 qy_M_count : Cond) ∈ qtb := qw_in (List.mem_of_getElem? (i := 801) rfl) rfl
set_option maxRecDepth 100000 in
theorem qk_802 : (.instanceMethod qy_M_count : Cond) ∈ qtb := qw_in (List.mem_of_getElem? (i := 802) rfl) rfl
set_option maxRecDepth 100000 in
theorem qk_803 : (.selects "CaptureSubtypesModel" qy_M_count qy_M_count : Cond) ∈ qtb := qw_in (List.mem_of_getElem? (i := 803) rfl) rfl
set_option maxRecDepth 100000 in
theorem qk_804 : (.code qy_M_count prog_8_method_20_code 2 (some FieldType.int) : Cond) ∈ qtb := qw_in (List.mem_of_getElem? (i := 804) rfl) rfl
set_option maxRecDepth 100000 in
theorem qk_805 : (.methodLink "CaptureSubtypesLaw" 60 qy_M_told : Cond) ∈ qtb := qw_in (List.mem_of_getElem? (i := 805) rfl) rfl
set_option maxRecDepth 100000 in
theorem qk_806 : (.instanceMethod qy_M_told : Cond) ∈ qtb := qw_in (List.mem_of_getElem? (i := 806) rfl) rfl
set_option maxRecDepth 100000 in
theorem qk_807 : (.selects "CaptureSubtypesModel" qy_M_told qy_M_told : Cond) ∈ qtb := qw_in (List.mem_of_getElem? (i := 807) rfl) rfl
set_option maxRecDepth 100000 in
theorem qk_808 : (.code qy_M_told prog_8_method_21_code 3 (some FieldType.int) : Cond) ∈ qtb := qw_in (List.mem_of_getElem? (i := 808) rfl) rfl
set_option maxRecDepth 100000 in
theorem qk_809 : (.methodLink "CaptureSubtypesLaw" 64 qy_M_known : Cond) ∈ qtb := qw_in (List.mem_of_getElem? (i := 809) rfl) rfl
set_option maxRecDepth 100000 in
theorem qk_810 : (.instanceMethod qy_M_known : Cond) ∈ qtb := qw_in (List.mem_of_getElem? (i := 810) rfl) rfl
set_option maxRecDepth 100000 in
theorem qk_811 : (.selects "CaptureSubtypesModel" qy_M_known qy_M_known : Cond) ∈ qtb := qw_in (List.mem_of_getElem? (i := 811) rfl) rfl
set_option maxRecDepth 100000 in
theorem qk_812 : (.code qy_M_known prog_8_method_26_code 5 (some FieldType.int) : Cond) ∈ qtb := qw_in (List.mem_of_getElem? (i := 812) rfl) rfl
set_option maxRecDepth 100000 in
theorem qk_813 : (.methodLink "CaptureSubtypesModel" 149 qy_M_order : Cond) ∈ qtb := qw_in (List.mem_of_getElem? (i := 813) rfl) rfl
set_option maxRecDepth 100000 in
theorem qk_815 : (.instanceMethod qy_M_order : Cond) ∈ qtb := qw_in (List.mem_of_getElem? (i := 815) rfl) rfl
set_option maxRecDepth 100000 in
theorem qk_816 : (.code qy_M_order prog_8_method_24_code 6 none : Cond) ∈ qtb := qw_in (List.mem_of_getElem? (i := 816) rfl) rfl
set_option maxRecDepth 100000 in
theorem qk_817 : (.methodLink "CaptureSubtypesModel" 141 qy_M_superCount : Cond) ∈ qtb := qw_in (List.mem_of_getElem? (i := 817) rfl) rfl
set_option maxRecDepth 100000 in
theorem qk_819 : (.instanceMethod qy_M_superCount : Cond) ∈ qtb := qw_in (List.mem_of_getElem? (i := 819) rfl) rfl
set_option maxRecDepth 100000 in
theorem qk_820 : (.code qy_M_superCount prog_8_method_22_code 2 (some FieldType.int) : Cond) ∈ qtb := qw_in (List.mem_of_getElem? (i := 820) rfl) rfl
set_option maxRecDepth 100000 in
theorem qk_821 : (.methodLink "CaptureSubtypesModel" 145 qy_M_superOf : Cond) ∈ qtb := qw_in (List.mem_of_getElem? (i := 821) rfl) rfl
set_option maxRecDepth 100000 in
theorem qk_823 : (.instanceMethod qy_M_superOf : Cond) ∈ qtb := qw_in (List.mem_of_getElem? (i := 823) rfl) rfl
set_option maxRecDepth 100000 in
theorem qk_824 : (.code qy_M_superOf prog_8_method_23_code 3 (some FieldType.int) : Cond) ∈ qtb := qw_in (List.mem_of_getElem? (i := 824) rfl) rfl
set_option maxRecDepth 100000 in
theorem qk_825 : (.methodLink "CaptureSubtypesModel" 152 qy_M_isHeir : Cond) ∈ qtb := qw_in (List.mem_of_getElem? (i := 825) rfl) rfl
set_option maxRecDepth 100000 in
theorem qk_827 : (.instanceMethod qy_M_isHeir : Cond) ∈ qtb := qw_in (List.mem_of_getElem? (i := 827) rfl) rfl
set_option maxRecDepth 100000 in
theorem qk_828 : (.code qy_M_isHeir prog_8_method_25_code 6 (some FieldType.boolean) : Cond) ∈ qtb := qw_in (List.mem_of_getElem? (i := 828) rfl) rfl
set_option maxRecDepth 100000 in
theorem qk_829 : (.methodLink "CaptureSubtypesLaw" 68 qy_M_below : Cond) ∈ qtb := qw_in (List.mem_of_getElem? (i := 829) rfl) rfl
set_option maxRecDepth 100000 in
theorem qk_830 : (.instanceMethod qy_M_below : Cond) ∈ qtb := qw_in (List.mem_of_getElem? (i := 830) rfl) rfl
set_option maxRecDepth 100000 in
theorem qk_831 : (.selects "CaptureSubtypesModel" qy_M_below qy_M_below : Cond) ∈ qtb := qw_in (List.mem_of_getElem? (i := 831) rfl) rfl
set_option maxRecDepth 100000 in
theorem qk_832 : (.code qy_M_below prog_8_method_27_code 3 (some FieldType.int) : Cond) ∈ qtb := qw_in (List.mem_of_getElem? (i := 832) rfl) rfl
set_option maxRecDepth 100000 in
theorem qk_833 : (.methodLink "CaptureSubtypesLaw" 72 qy_M_apart : Cond) ∈ qtb := qw_in (List.mem_of_getElem? (i := 833) rfl) rfl
set_option maxRecDepth 100000 in
theorem qk_834 : (.instanceMethod qy_M_apart : Cond) ∈ qtb := qw_in (List.mem_of_getElem? (i := 834) rfl) rfl
set_option maxRecDepth 100000 in
theorem qk_835 : (.selects "CaptureSubtypesModel" qy_M_apart qy_M_apart : Cond) ∈ qtb := qw_in (List.mem_of_getElem? (i := 835) rfl) rfl
set_option maxRecDepth 100000 in
theorem qk_836 : (.code qy_M_apart prog_8_method_31_code 3 (some FieldType.int) : Cond) ∈ qtb := qw_in (List.mem_of_getElem? (i := 836) rfl) rfl
set_option maxRecDepth 100000 in
theorem qk_837 : (.methodLink "CaptureSubtypesModel" 163 qy_M_part : Cond) ∈ qtb := qw_in (List.mem_of_getElem? (i := 837) rfl) rfl
set_option maxRecDepth 100000 in
theorem qk_839 : (.instanceMethod qy_M_part : Cond) ∈ qtb := qw_in (List.mem_of_getElem? (i := 839) rfl) rfl
set_option maxRecDepth 100000 in
theorem qk_840 : (.code qy_M_part prog_8_method_28_code 4 none : Cond) ∈ qtb := qw_in (List.mem_of_getElem? (i := 840) rfl) rfl
set_option maxRecDepth 100000 in
theorem qk_841 : (.methodLink "CaptureSubtypesModel" 156 qy_M_isSealed : Cond) ∈ qtb := qw_in (List.mem_of_getElem? (i := 841) rfl) rfl
set_option maxRecDepth 100000 in
theorem qk_843 : (.instanceMethod qy_M_isSealed : Cond) ∈ qtb := qw_in (List.mem_of_getElem? (i := 843) rfl) rfl
set_option maxRecDepth 100000 in
theorem qk_844 : (.code qy_M_isSealed prog_8_method_29_code 2 (some FieldType.boolean) : Cond) ∈ qtb := qw_in (List.mem_of_getElem? (i := 844) rfl) rfl
set_option maxRecDepth 100000 in
theorem qk_845 : (.methodLink "CaptureSubtypesModel" 159 qy_M_areHeirsApart : Cond) ∈ qtb := qw_in (List.mem_of_getElem? (i := 845) rfl) rfl
set_option maxRecDepth 100000 in
theorem qk_847 : (.instanceMethod qy_M_areHeirsApart : Cond) ∈ qtb := qw_in (List.mem_of_getElem? (i := 847) rfl) rfl
set_option maxRecDepth 100000 in
theorem qk_848 : (.code qy_M_areHeirsApart prog_8_method_30_code 6 (some FieldType.boolean) : Cond) ∈ qtb := qw_in (List.mem_of_getElem? (i := 848) rfl) rfl
set_option maxRecDepth 100000 in
theorem qk_849 : (.methodLink "CaptureSubtypesLaw" 76 qy_M_is : Cond) ∈ qtb := qw_in (List.mem_of_getElem? (i := 849) rfl) rfl
set_option maxRecDepth 100000 in
theorem qk_850 : (.instanceMethod qy_M_is : Cond) ∈ qtb := qw_in (List.mem_of_getElem? (i := 850) rfl) rfl
set_option maxRecDepth 100000 in
theorem qk_851 : (.selects "CaptureSubtypesModel" qy_M_is qy_M_is : Cond) ∈ qtb := qw_in (List.mem_of_getElem? (i := 851) rfl) rfl
set_option maxRecDepth 100000 in
theorem qk_852 : (.code qy_M_is prog_8_method_53_code 3 (some FieldType.int) : Cond) ∈ qtb := qw_in (List.mem_of_getElem? (i := 852) rfl) rfl
set_option maxRecDepth 100000 in
theorem qk_853 : (.methodLink "CaptureSubtypesModel" 225 qy_M_isAsked : Cond) ∈ qtb := qw_in (List.mem_of_getElem? (i := 853) rfl) rfl
set_option maxRecDepth 100000 in
theorem qk_855 : (.instanceMethod qy_M_isAsked : Cond) ∈ qtb := qw_in (List.mem_of_getElem? (i := 855) rfl) rfl
set_option maxRecDepth 100000 in
theorem qk_856 : (.code qy_M_isAsked prog_8_method_52_code 2 (some FieldType.boolean) : Cond) ∈ qtb := qw_in (List.mem_of_getElem? (i := 856) rfl) rfl
set_option maxRecDepth 100000 in
theorem qk_857 : (.methodLink "CaptureSubtypesModel" 228 qy_M_isA : Cond) ∈ qtb := qw_in (List.mem_of_getElem? (i := 857) rfl) rfl
set_option maxRecDepth 100000 in
theorem qk_859 : (.instanceMethod qy_M_isA : Cond) ∈ qtb := qw_in (List.mem_of_getElem? (i := 859) rfl) rfl
set_option maxRecDepth 100000 in
theorem qk_860 : (.code qy_M_isA prog_8_method_45_code 6 (some FieldType.boolean) : Cond) ∈ qtb := qw_in (List.mem_of_getElem? (i := 860) rfl) rfl
set_option maxRecDepth 100000 in
theorem qk_861 : (.methodLink "CaptureSubtypesModel" 193 qy_M_ask : Cond) ∈ qtb := qw_in (List.mem_of_getElem? (i := 861) rfl) rfl
set_option maxRecDepth 100000 in
theorem qk_863 : (.instanceMethod qy_M_ask : Cond) ∈ qtb := qw_in (List.mem_of_getElem? (i := 863) rfl) rfl
set_option maxRecDepth 100000 in
theorem qk_864 : (.code qy_M_ask prog_8_method_44_code 3 none : Cond) ∈ qtb := qw_in (List.mem_of_getElem? (i := 864) rfl) rfl
set_option maxRecDepth 100000 in
theorem qk_865 : (.methodLink "CaptureSubtypesModel" 197 qy_M_step : Cond) ∈ qtb := qw_in (List.mem_of_getElem? (i := 865) rfl) rfl
set_option maxRecDepth 100000 in
theorem qk_867 : (.instanceMethod qy_M_step : Cond) ∈ qtb := qw_in (List.mem_of_getElem? (i := 867) rfl) rfl
set_option maxRecDepth 100000 in
theorem qk_868 : (.code qy_M_step prog_8_method_46_code 5 (some FieldType.int) : Cond) ∈ qtb := qw_in (List.mem_of_getElem? (i := 868) rfl) rfl
set_option maxRecDepth 100000 in
theorem qk_869 : (.methodLink "CaptureSubtypesModel" 200 qy_M_stepBounds : Cond) ∈ qtb := qw_in (List.mem_of_getElem? (i := 869) rfl) rfl
set_option maxRecDepth 100000 in
theorem qk_871 : (.instanceMethod qy_M_stepBounds : Cond) ∈ qtb := qw_in (List.mem_of_getElem? (i := 871) rfl) rfl
set_option maxRecDepth 100000 in
theorem qk_872 : (.code qy_M_stepBounds prog_8_method_47_code 6 (some FieldType.int) : Cond) ∈ qtb := qw_in (List.mem_of_getElem? (i := 872) rfl) rfl
set_option maxRecDepth 100000 in
theorem qk_873 : (.methodLink "CaptureSubtypesModel" 213 qy_M_boundCount : Cond) ∈ qtb := qw_in (List.mem_of_getElem? (i := 873) rfl) rfl
set_option maxRecDepth 100000 in
theorem qk_875 : (.instanceMethod qy_M_boundCount : Cond) ∈ qtb := qw_in (List.mem_of_getElem? (i := 875) rfl) rfl
set_option maxRecDepth 100000 in
theorem qk_876 : (.code qy_M_boundCount prog_8_method_37_code 3 (some FieldType.int) : Cond) ∈ qtb := qw_in (List.mem_of_getElem? (i := 876) rfl) rfl
set_option maxRecDepth 100000 in
theorem qk_877 : (.methodLink "CaptureSubtypesModel" 187 qy_M_boundOf : Cond) ∈ qtb := qw_in (List.mem_of_getElem? (i := 877) rfl) rfl
set_option maxRecDepth 100000 in
theorem qk_879 : (.instanceMethod qy_M_boundOf : Cond) ∈ qtb := qw_in (List.mem_of_getElem? (i := 879) rfl) rfl
set_option maxRecDepth 100000 in
theorem qk_880 : (.code qy_M_boundOf prog_8_method_38_code 4 (some FieldType.int) : Cond) ∈ qtb := qw_in (List.mem_of_getElem? (i := 880) rfl) rfl
set_option maxRecDepth 100000 in
theorem qk_881 : (.methodLink "CaptureSubtypesModel" 203 qy_M_stepLow : Cond) ∈ qtb := qw_in (List.mem_of_getElem? (i := 881) rfl) rfl
set_option maxRecDepth 100000 in
theorem qk_883 : (.instanceMethod qy_M_stepLow : Cond) ∈ qtb := qw_in (List.mem_of_getElem? (i := 883) rfl) rfl
set_option maxRecDepth 100000 in
theorem qk_884 : (.code qy_M_stepLow prog_8_method_48_code 5 (some FieldType.int) : Cond) ∈ qtb := qw_in (List.mem_of_getElem? (i := 884) rfl) rfl
set_option maxRecDepth 100000 in
theorem qk_885 : (.methodLink "CaptureSubtypesModel" 216 qy_M_lowOf : Cond) ∈ qtb := qw_in (List.mem_of_getElem? (i := 885) rfl) rfl
set_option maxRecDepth 100000 in
theorem qk_887 : (.instanceMethod qy_M_lowOf : Cond) ∈ qtb := qw_in (List.mem_of_getElem? (i := 887) rfl) rfl
set_option maxRecDepth 100000 in
theorem qk_888 : (.code qy_M_lowOf prog_8_method_39_code 2 (some FieldType.int) : Cond) ∈ qtb := qw_in (List.mem_of_getElem? (i := 888) rfl) rfl
set_option maxRecDepth 100000 in
theorem qk_889 : (.methodLink "CaptureSubtypesModel" 206 qy_M_stepParts : Cond) ∈ qtb := qw_in (List.mem_of_getElem? (i := 889) rfl) rfl
set_option maxRecDepth 100000 in
theorem qk_891 : (.instanceMethod qy_M_stepParts : Cond) ∈ qtb := qw_in (List.mem_of_getElem? (i := 891) rfl) rfl
set_option maxRecDepth 100000 in
theorem qk_892 : (.code qy_M_stepParts prog_8_method_49_code 5 (some FieldType.int) : Cond) ∈ qtb := qw_in (List.mem_of_getElem? (i := 892) rfl) rfl
set_option maxRecDepth 100000 in
theorem qk_893 : (.methodLink "CaptureSubtypesModel" 219 qy_M_isOfClass : Cond) ∈ qtb := qw_in (List.mem_of_getElem? (i := 893) rfl) rfl
set_option maxRecDepth 100000 in
theorem qk_895 : (.instanceMethod qy_M_isOfClass : Cond) ∈ qtb := qw_in (List.mem_of_getElem? (i := 895) rfl) rfl
set_option maxRecDepth 100000 in
theorem qk_896 : (.code qy_M_isOfClass prog_8_method_34_code 2 (some FieldType.boolean) : Cond) ∈ qtb := qw_in (List.mem_of_getElem? (i := 896) rfl) rfl
set_option maxRecDepth 100000 in
theorem qk_897 : (.methodLink "CaptureSubtypesModel" 222 qy_M_asClass : Cond) ∈ qtb := qw_in (List.mem_of_getElem? (i := 897) rfl) rfl
set_option maxRecDepth 100000 in
theorem qk_899 : (.instanceMethod qy_M_asClass : Cond) ∈ qtb := qw_in (List.mem_of_getElem? (i := 899) rfl) rfl
set_option maxRecDepth 100000 in
theorem qk_900 : (.code qy_M_asClass prog_8_method_42_code 5 (some FieldType.int) : Cond) ∈ qtb := qw_in (List.mem_of_getElem? (i := 900) rfl) rfl
set_option maxRecDepth 100000 in
theorem qk_901 : (.methodLink "CaptureSubtypesModel" 181 qy_M_catchIt : Cond) ∈ qtb := qw_in (List.mem_of_getElem? (i := 901) rfl) rfl
set_option maxRecDepth 100000 in
theorem qk_903 : (.instanceMethod qy_M_catchIt : Cond) ∈ qtb := qw_in (List.mem_of_getElem? (i := 903) rfl) rfl
set_option maxRecDepth 100000 in
theorem qk_904 : (.code qy_M_catchIt prog_8_method_40_code 9 (some FieldType.int) : Cond) ∈ qtb := qw_in (List.mem_of_getElem? (i := 904) rfl) rfl
set_option maxRecDepth 100000 in
theorem qk_905 : (.methodLink "CaptureSubtypesModel" 172 qy_M_hasWild : Cond) ∈ qtb := qw_in (List.mem_of_getElem? (i := 905) rfl) rfl
set_option maxRecDepth 100000 in
theorem qk_907 : (.instanceMethod qy_M_hasWild : Cond) ∈ qtb := qw_in (List.mem_of_getElem? (i := 907) rfl) rfl
set_option maxRecDepth 100000 in
theorem qk_908 : (.code qy_M_hasWild prog_8_method_35_code 2 (some FieldType.boolean) : Cond) ∈ qtb := qw_in (List.mem_of_getElem? (i := 908) rfl) rfl
set_option maxRecDepth 100000 in
theorem qk_909 : (.methodLink "CaptureSubtypesModel" 169 qy_M_come : Cond) ∈ qtb := qw_in (List.mem_of_getElem? (i := 909) rfl) rfl
set_option maxRecDepth 100000 in
theorem qk_911 : (.instanceMethod qy_M_come : Cond) ∈ qtb := qw_in (List.mem_of_getElem? (i := 911) rfl) rfl
set_option maxRecDepth 100000 in
theorem qk_912 : (.code qy_M_come prog_8_method_9_code 6 (some FieldType.int) : Cond) ∈ qtb := qw_in (List.mem_of_getElem? (i := 912) rfl) rfl
set_option maxRecDepth 100000 in
theorem qk_913 : (.methodLink "CaptureSubtypesModel" 175 qy_M_replace : Cond) ∈ qtb := qw_in (List.mem_of_getElem? (i := 913) rfl) rfl
set_option maxRecDepth 100000 in
theorem qk_915 : (.instanceMethod qy_M_replace : Cond) ∈ qtb := qw_in (List.mem_of_getElem? (i := 915) rfl) rfl
set_option maxRecDepth 100000 in
theorem qk_916 : (.code qy_M_replace prog_8_method_32_code 6 (some FieldType.int) : Cond) ∈ qtb := qw_in (List.mem_of_getElem? (i := 916) rfl) rfl
set_option maxRecDepth 100000 in
theorem qk_917 : (.methodLink "CaptureSubtypesModel" 166 qy_M_hasFirst : Cond) ∈ qtb := qw_in (List.mem_of_getElem? (i := 917) rfl) rfl
set_option maxRecDepth 100000 in
theorem qk_919 : (.instanceMethod qy_M_hasFirst : Cond) ∈ qtb := qw_in (List.mem_of_getElem? (i := 919) rfl) rfl
set_option maxRecDepth 100000 in
theorem qk_920 : (.code qy_M_hasFirst prog_8_method_33_code 2 (some FieldType.boolean) : Cond) ∈ qtb := qw_in (List.mem_of_getElem? (i := 920) rfl) rfl
set_option maxRecDepth 100000 in
theorem qk_921 : (.methodLink "CaptureSubtypesModel" 184 qy_M_superType : Cond) ∈ qtb := qw_in (List.mem_of_getElem? (i := 921) rfl) rfl
set_option maxRecDepth 100000 in
theorem qk_923 : (.instanceMethod qy_M_superType : Cond) ∈ qtb := qw_in (List.mem_of_getElem? (i := 923) rfl) rfl
set_option maxRecDepth 100000 in
theorem qk_924 : (.code qy_M_superType prog_8_method_41_code 4 (some FieldType.int) : Cond) ∈ qtb := qw_in (List.mem_of_getElem? (i := 924) rfl) rfl
set_option maxRecDepth 100000 in
theorem qk_925 : (.methodLink "CaptureSubtypesModel" 178 qy_M_bare : Cond) ∈ qtb := qw_in (List.mem_of_getElem? (i := 925) rfl) rfl
set_option maxRecDepth 100000 in
theorem qk_927 : (.instanceMethod qy_M_bare : Cond) ∈ qtb := qw_in (List.mem_of_getElem? (i := 927) rfl) rfl
set_option maxRecDepth 100000 in
theorem qk_928 : (.code qy_M_bare prog_8_method_36_code 2 (some FieldType.int) : Cond) ∈ qtb := qw_in (List.mem_of_getElem? (i := 928) rfl) rfl
set_option maxRecDepth 100000 in
theorem qk_929 : (.methodLink "CaptureSubtypesModel" 209 qy_M_stepArguments : Cond) ∈ qtb := qw_in (List.mem_of_getElem? (i := 929) rfl) rfl
set_option maxRecDepth 100000 in
theorem qk_931 : (.instanceMethod qy_M_stepArguments : Cond) ∈ qtb := qw_in (List.mem_of_getElem? (i := 931) rfl) rfl
set_option maxRecDepth 100000 in
theorem qk_932 : (.code qy_M_stepArguments prog_8_method_50_code 7 (some FieldType.int) : Cond) ∈ qtb := qw_in (List.mem_of_getElem? (i := 932) rfl) rfl
set_option maxRecDepth 100000 in
theorem qk_933 : (.methodLink "CaptureSubtypesModel" 231 qy_M_isUnchecked : Cond) ∈ qtb := qw_in (List.mem_of_getElem? (i := 933) rfl) rfl
set_option maxRecDepth 100000 in
theorem qk_935 : (.instanceMethod qy_M_isUnchecked : Cond) ∈ qtb := qw_in (List.mem_of_getElem? (i := 935) rfl) rfl
set_option maxRecDepth 100000 in
theorem qk_936 : (.code qy_M_isUnchecked prog_8_method_51_code 7 (some FieldType.boolean) : Cond) ∈ qtb := qw_in (List.mem_of_getElem? (i := 936) rfl) rfl
set_option maxRecDepth 100000 in
theorem qk_937 : (.methodLink "CaptureSubtypesLaw" 80 qy_M_may : Cond) ∈ qtb := qw_in (List.mem_of_getElem? (i := 937) rfl) rfl
set_option maxRecDepth 100000 in
theorem qk_938 : (.instanceMethod qy_M_may : Cond) ∈ qtb := qw_in (List.mem_of_getElem? (i := 938) rfl) rfl
set_option maxRecDepth 100000 in
theorem qk_939 : (.selects "CaptureSubtypesModel" qy_M_may qy_M_may : Cond) ∈ qtb := qw_in (List.mem_of_getElem? (i := 939) rfl) rfl
set_option maxRecDepth 100000 in
theorem qk_940 : (.code qy_M_may prog_8_method_54_code 9 (some FieldType.int) : Cond) ∈ qtb := qw_in (List.mem_of_getElem? (i := 940) rfl) rfl
set_option maxRecDepth 100000 in
theorem qk_941 : (.methodLink "CaptureSubtypesModel" 234 qy_M_mayClasses : Cond) ∈ qtb := qw_in (List.mem_of_getElem? (i := 941) rfl) rfl
set_option maxRecDepth 100000 in
theorem qk_943 : (.instanceMethod qy_M_mayClasses : Cond) ∈ qtb := qw_in (List.mem_of_getElem? (i := 943) rfl) rfl
set_option maxRecDepth 100000 in
theorem qk_944 : (.code qy_M_mayClasses prog_8_method_55_code 6 (some FieldType.boolean) : Cond) ∈ qtb := qw_in (List.mem_of_getElem? (i := 944) rfl) rfl
set_option maxRecDepth 100000 in
theorem qk_945 : (.methodLink "CaptureSubtypesModel" 237 qy_M_differ : Cond) ∈ qtb := qw_in (List.mem_of_getElem? (i := 945) rfl) rfl
set_option maxRecDepth 100000 in
theorem qk_947 : (.instanceMethod qy_M_differ : Cond) ∈ qtb := qw_in (List.mem_of_getElem? (i := 947) rfl) rfl
set_option maxRecDepth 100000 in
theorem qk_948 : (.code qy_M_differ prog_8_method_56_code 9 (some FieldType.boolean) : Cond) ∈ qtb := qw_in (List.mem_of_getElem? (i := 948) rfl) rfl
set_option maxRecDepth 100000 in
theorem qk_949 : (.methodLink "CaptureSubtypesModel" 240 qy_M_erase : Cond) ∈ qtb := qw_in (List.mem_of_getElem? (i := 949) rfl) rfl
set_option maxRecDepth 100000 in
theorem qk_951 : (.instanceMethod qy_M_erase : Cond) ∈ qtb := qw_in (List.mem_of_getElem? (i := 951) rfl) rfl
set_option maxRecDepth 100000 in
theorem qk_952 : (.code qy_M_erase prog_8_method_43_code 5 (some FieldType.int) : Cond) ∈ qtb := qw_in (List.mem_of_getElem? (i := 952) rfl) rfl
set_option maxRecDepth 100000 in
theorem qk_953 : (.methodLink "CaptureSubtypesLaw" 84 qy_M_as : Cond) ∈ qtb := qw_in (List.mem_of_getElem? (i := 953) rfl) rfl
set_option maxRecDepth 100000 in
theorem qk_954 : (.instanceMethod qy_M_as : Cond) ∈ qtb := qw_in (List.mem_of_getElem? (i := 954) rfl) rfl
set_option maxRecDepth 100000 in
theorem qk_955 : (.selects "CaptureSubtypesModel" qy_M_as qy_M_as : Cond) ∈ qtb := qw_in (List.mem_of_getElem? (i := 955) rfl) rfl
set_option maxRecDepth 100000 in
theorem qk_956 : (.code qy_M_as prog_8_method_58_code 3 (some FieldType.int) : Cond) ∈ qtb := qw_in (List.mem_of_getElem? (i := 956) rfl) rfl
set_option maxRecDepth 100000 in
theorem qk_957 : (.methodLink "CaptureSubtypesModel" 243 qy_M_thereAs : Cond) ∈ qtb := qw_in (List.mem_of_getElem? (i := 957) rfl) rfl
set_option maxRecDepth 100000 in
theorem qk_959 : (.instanceMethod qy_M_thereAs : Cond) ∈ qtb := qw_in (List.mem_of_getElem? (i := 959) rfl) rfl
set_option maxRecDepth 100000 in
theorem qk_960 : (.code qy_M_thereAs prog_8_method_57_code 2 (some FieldType.int) : Cond) ∈ qtb := qw_in (List.mem_of_getElem? (i := 960) rfl) rfl
set_option maxRecDepth 100000 in
theorem qk_961 : (.methodLink "CaptureSubtypesLaw" 88 qy_M_erased : Cond) ∈ qtb := qw_in (List.mem_of_getElem? (i := 961) rfl) rfl
set_option maxRecDepth 100000 in
theorem qk_962 : (.instanceMethod qy_M_erased : Cond) ∈ qtb := qw_in (List.mem_of_getElem? (i := 962) rfl) rfl
set_option maxRecDepth 100000 in
theorem qk_963 : (.selects "CaptureSubtypesModel" qy_M_erased qy_M_erased : Cond) ∈ qtb := qw_in (List.mem_of_getElem? (i := 963) rfl) rfl
set_option maxRecDepth 100000 in
theorem qk_964 : (.code qy_M_erased prog_8_method_59_code 2 (some FieldType.int) : Cond) ∈ qtb := qw_in (List.mem_of_getElem? (i := 964) rfl) rfl
set_option maxRecDepth 100000 in
theorem qk_965 : (.methodLink "CaptureSubtypesLaw" 92 qy_M_good : Cond) ∈ qtb := qw_in (List.mem_of_getElem? (i := 965) rfl) rfl
set_option maxRecDepth 100000 in
theorem qk_966 : (.instanceMethod qy_M_good : Cond) ∈ qtb := qw_in (List.mem_of_getElem? (i := 966) rfl) rfl
set_option maxRecDepth 100000 in
theorem qk_967 : (.selects "CaptureSubtypesModel" qy_M_good qy_M_good : Cond) ∈ qtb := qw_in (List.mem_of_getElem? (i := 967) rfl) rfl
set_option maxRecDepth 100000 in
theorem qk_968 : (.code qy_M_good prog_8_method_60_code 7 (some FieldType.int) : Cond) ∈ qtb := qw_in (List.mem_of_getElem? (i := 968) rfl) rfl
set_option maxRecDepth 100000 in
theorem qk_969 : (.methodLink "CaptureSubtypesLaw" 26 qy_M_inherit : Cond) ∈ qtb := qw_in (List.mem_of_getElem? (i := 969) rfl) rfl
set_option maxRecDepth 100000 in
theorem qk_970 : (.instanceMethod qy_M_inherit : Cond) ∈ qtb := qw_in (List.mem_of_getElem? (i := 970) rfl) rfl
set_option maxRecDepth 100000 in
theorem qk_971 : (.selects "CaptureSubtypesModel" qy_M_inherit qy_M_inherit : Cond) ∈ qtb := qw_in (List.mem_of_getElem? (i := 971) rfl) rfl
set_option maxRecDepth 100000 in
theorem qk_972 : (.code qy_M_inherit prog_8_method_62_code 5 (some FieldType.int) : Cond) ∈ qtb := qw_in (List.mem_of_getElem? (i := 972) rfl) rfl
set_option maxRecDepth 100000 in
theorem qk_973 : (.methodLink "CaptureSubtypesModel" 246 qy_M_isForeign : Cond) ∈ qtb := qw_in (List.mem_of_getElem? (i := 973) rfl) rfl
set_option maxRecDepth 100000 in
theorem qk_975 : (.instanceMethod qy_M_isForeign : Cond) ∈ qtb := qw_in (List.mem_of_getElem? (i := 975) rfl) rfl
set_option maxRecDepth 100000 in
theorem qk_976 : (.code qy_M_isForeign prog_8_method_61_code 5 (some FieldType.boolean) : Cond) ∈ qtb := qw_in (List.mem_of_getElem? (i := 976) rfl) rfl
set_option maxRecDepth 100000 in
theorem qk_977 : (.methodLink "CaptureSubtypesModel" 249 qy_M_areOne : Cond) ∈ qtb := qw_in (List.mem_of_getElem? (i := 977) rfl) rfl
set_option maxRecDepth 100000 in
theorem qk_979 : (.instanceMethod qy_M_areOne : Cond) ∈ qtb := qw_in (List.mem_of_getElem? (i := 979) rfl) rfl
set_option maxRecDepth 100000 in
theorem qk_980 : (.code qy_M_areOne prog_8_method_63_code 8 (some FieldType.boolean) : Cond) ∈ qtb := qw_in (List.mem_of_getElem? (i := 980) rfl) rfl
set_option maxRecDepth 100000 in
theorem qk_981 : (.methodLink "CaptureSubtypesLaw" 31 qy_M_bind : Cond) ∈ qtb := qw_in (List.mem_of_getElem? (i := 981) rfl) rfl
set_option maxRecDepth 100000 in
theorem qk_982 : (.instanceMethod qy_M_bind : Cond) ∈ qtb := qw_in (List.mem_of_getElem? (i := 982) rfl) rfl
set_option maxRecDepth 100000 in
theorem qk_983 : (.selects "CaptureSubtypesModel" qy_M_bind qy_M_bind : Cond) ∈ qtb := qw_in (List.mem_of_getElem? (i := 983) rfl) rfl
set_option maxRecDepth 100000 in
theorem qk_984 : (.code qy_M_bind prog_8_method_64_code 5 (some FieldType.int) : Cond) ∈ qtb := qw_in (List.mem_of_getElem? (i := 984) rfl) rfl
theorem qs_K_write : (.selects "CaptureSubtypes$Classes" qy_K_write qy_K_write : Cond) ∈ qtb := List.mem_filter.mpr ⟨List.mem_append_left _ (by decide +kernel), rfl⟩
theorem qs_K_reckon : (.selects "CaptureSubtypes$Classes" qy_K_reckon qy_K_reckon : Cond) ∈ qtb := List.mem_filter.mpr ⟨List.mem_append_left _ (by decide +kernel), rfl⟩
theorem qs_K_reckonAbove : (.selects "CaptureSubtypes$Classes" qy_K_reckonAbove qy_K_reckonAbove : Cond) ∈ qtb := List.mem_filter.mpr ⟨List.mem_append_left _ (by decide +kernel), rfl⟩
theorem qs_K_reckonApart : (.selects "CaptureSubtypes$Classes" qy_K_reckonApart qy_K_reckonApart : Cond) ∈ qtb := List.mem_filter.mpr ⟨List.mem_append_left _ (by decide +kernel), rfl⟩
theorem qs_K_mustBeApart : (.selects "CaptureSubtypes$Classes" qy_K_mustBeApart qy_K_mustBeApart : Cond) ∈ qtb := List.mem_filter.mpr ⟨List.mem_append_left _ (by decide +kernel), rfl⟩
theorem qs_K_isSealed : (.selects "CaptureSubtypes$Classes" qy_K_isSealed qy_K_isSealed : Cond) ∈ qtb := List.mem_filter.mpr ⟨List.mem_append_left _ (by decide +kernel), rfl⟩
theorem qs_K_heirsApartFrom : (.selects "CaptureSubtypes$Classes" qy_K_heirsApartFrom qy_K_heirsApartFrom : Cond) ∈ qtb := List.mem_filter.mpr ⟨List.mem_append_left _ (by decide +kernel), rfl⟩
theorem qs_K_isHeir : (.selects "CaptureSubtypes$Classes" qy_K_isHeir qy_K_isHeir : Cond) ∈ qtb := List.mem_filter.mpr ⟨List.mem_append_left _ (by decide +kernel), rfl⟩
theorem qs_K_apartFromHeirs : (.selects "CaptureSubtypes$Classes" qy_K_apartFromHeirs qy_K_apartFromHeirs : Cond) ∈ qtb := List.mem_filter.mpr ⟨List.mem_append_left _ (by decide +kernel), rfl⟩
theorem qs_X_mayBeSuper : (.selects "CaptureSubtypes" qy_X_mayBeSuper qy_X_mayBeSuper : Cond) ∈ qtb := List.mem_filter.mpr ⟨List.mem_append_left _ (by decide +kernel), rfl⟩
theorem qs_S_clashesAt : (.selects "CaptureSubtypes$Shapes" qy_S_clashesAt qy_S_clashesAt : Cond) ∈ qtb := List.mem_filter.mpr ⟨List.mem_append_left _ (by decide +kernel), rfl⟩
theorem qs_S_nameAlone : (.selects "CaptureSubtypes$Shapes" qy_S_nameAlone qy_S_nameAlone : Cond) ∈ qtb := List.mem_filter.mpr ⟨List.mem_append_left _ (by decide +kernel), rfl⟩
theorem qs_S_putIn : (.selects "CaptureSubtypes$Shapes" qy_S_putIn qy_S_putIn : Cond) ∈ qtb := List.mem_filter.mpr ⟨List.mem_append_left _ (by decide +kernel), rfl⟩
theorem qs_X_mayBeBound : (.selects "CaptureSubtypes" qy_X_mayBeBound qy_X_mayBeBound : Cond) ∈ qtb := List.mem_filter.mpr ⟨List.mem_append_left _ (by decide +kernel), rfl⟩
theorem qs_O_isOne : (.selects "CaptureSubtypes$Order" qy_O_isOne qy_O_isOne : Cond) ∈ qtb := List.mem_filter.mpr ⟨List.mem_append_left _ (by decide +kernel), rfl⟩
theorem qs_O_isByParts : (.selects "CaptureSubtypes$Order" qy_O_isByParts qy_O_isByParts : Cond) ∈ qtb := List.mem_filter.mpr ⟨List.mem_append_left _ (by decide +kernel), rfl⟩
theorem qs_O_someBoundIs : (.selects "CaptureSubtypes$Order" qy_O_someBoundIs qy_O_someBoundIs : Cond) ∈ qtb := List.mem_filter.mpr ⟨List.mem_append_left _ (by decide +kernel), rfl⟩
theorem qs_O_isByClass : (.selects "CaptureSubtypes$Order" qy_O_isByClass qy_O_isByClass : Cond) ∈ qtb := List.mem_filter.mpr ⟨List.mem_append_left _ (by decide +kernel), rfl⟩
theorem qs_O_isIn : (.selects "CaptureSubtypes$Order" qy_O_isIn qy_O_isIn : Cond) ∈ qtb := List.mem_filter.mpr ⟨List.mem_append_left _ (by decide +kernel), rfl⟩
theorem qs_O_isUnchecked : (.selects "CaptureSubtypes$Order" qy_O_isUnchecked qy_O_isUnchecked : Cond) ∈ qtb := List.mem_filter.mpr ⟨List.mem_append_left _ (by decide +kernel), rfl⟩
theorem qs_O_someBoundIsUnchecked : (.selects "CaptureSubtypes$Order" qy_O_someBoundIsUnchecked qy_O_someBoundIsUnchecked : Cond) ∈ qtb := List.mem_filter.mpr ⟨List.mem_append_left _ (by decide +kernel), rfl⟩
theorem qs_U_mayTurn : (.selects "CaptureSubtypes$Turning" qy_U_mayTurn qy_U_mayTurn : Cond) ∈ qtb := List.mem_filter.mpr ⟨List.mem_append_left _ (by decide +kernel), rfl⟩
theorem qs_U_mayFromBounds : (.selects "CaptureSubtypes$Turning" qy_U_mayFromBounds qy_U_mayFromBounds : Cond) ∈ qtb := List.mem_filter.mpr ⟨List.mem_append_left _ (by decide +kernel), rfl⟩
theorem qs_U_mayIntoBounds : (.selects "CaptureSubtypes$Turning" qy_U_mayIntoBounds qy_U_mayIntoBounds : Cond) ∈ qtb := List.mem_filter.mpr ⟨List.mem_append_left _ (by decide +kernel), rfl⟩
theorem qs_U_mayByClass : (.selects "CaptureSubtypes$Turning" qy_U_mayByClass qy_U_mayByClass : Cond) ∈ qtb := List.mem_filter.mpr ⟨List.mem_append_left _ (by decide +kernel), rfl⟩
theorem qs_U_differ : (.selects "CaptureSubtypes$Turning" qy_U_differ qy_U_differ : Cond) ∈ qtb := List.mem_filter.mpr ⟨List.mem_append_left _ (by decide +kernel), rfl⟩
theorem qs_U_facetCount : (.selects "CaptureSubtypes$Turning" qy_U_facetCount qy_U_facetCount : Cond) ∈ qtb := List.mem_filter.mpr ⟨List.mem_append_left _ (by decide +kernel), rfl⟩
theorem qs_U_facet : (.selects "CaptureSubtypes$Turning" qy_U_facet qy_U_facet : Cond) ∈ qtb := List.mem_filter.mpr ⟨List.mem_append_left _ (by decide +kernel), rfl⟩
theorem qs_S_erasure : (.selects "CaptureSubtypes$Shapes" qy_S_erasure qy_S_erasure : Cond) ∈ qtb := List.mem_filter.mpr ⟨List.mem_append_left _ (by decide +kernel), rfl⟩
theorem qs_X_settle : (.selects "CaptureSubtypes" qy_X_settle qy_X_settle : Cond) ∈ qtb := List.mem_filter.mpr ⟨List.mem_append_left _ (by decide +kernel), rfl⟩
theorem qs_O_keepsBoundsAt : (.selects "CaptureSubtypes$Order" qy_O_keepsBoundsAt qy_O_keepsBoundsAt : Cond) ∈ qtb := List.mem_filter.mpr ⟨List.mem_append_left _ (by decide +kernel), rfl⟩
theorem qs_M_begin : (.selects "CaptureSubtypesModel" qy_M_begin qy_M_begin : Cond) ∈ qtb := List.mem_filter.mpr ⟨List.mem_append_left _ (by decide +kernel), rfl⟩
theorem qs_M_put : (.selects "CaptureSubtypesModel" qy_M_put qy_M_put : Cond) ∈ qtb := List.mem_filter.mpr ⟨List.mem_append_left _ (by decide +kernel), rfl⟩
theorem qs_M_fresh : (.selects "CaptureSubtypesModel" qy_M_fresh qy_M_fresh : Cond) ∈ qtb := List.mem_filter.mpr ⟨List.mem_append_left _ (by decide +kernel), rfl⟩
theorem qs_M_isClass : (.selects "CaptureSubtypesModel" qy_M_isClass qy_M_isClass : Cond) ∈ qtb := List.mem_filter.mpr ⟨List.mem_append_left _ (by decide +kernel), rfl⟩
theorem qs_M_enter : (.selects "CaptureSubtypesModel" qy_M_enter qy_M_enter : Cond) ∈ qtb := List.mem_filter.mpr ⟨List.mem_append_left _ (by decide +kernel), rfl⟩
theorem qs_M_find : (.selects "CaptureSubtypesModel" qy_M_find qy_M_find : Cond) ∈ qtb := List.mem_filter.mpr ⟨List.mem_append_left _ (by decide +kernel), rfl⟩
theorem qs_M_isLike : (.selects "CaptureSubtypesModel" qy_M_isLike qy_M_isLike : Cond) ∈ qtb := List.mem_filter.mpr ⟨List.mem_append_left _ (by decide +kernel), rfl⟩
theorem qs_M_isArgument : (.selects "CaptureSubtypesModel" qy_M_isArgument qy_M_isArgument : Cond) ∈ qtb := List.mem_filter.mpr ⟨List.mem_append_left _ (by decide +kernel), rfl⟩
theorem qs_M_isType : (.selects "CaptureSubtypesModel" qy_M_isType qy_M_isType : Cond) ∈ qtb := List.mem_filter.mpr ⟨List.mem_append_left _ (by decide +kernel), rfl⟩
theorem qs_M_order : (.selects "CaptureSubtypesModel" qy_M_order qy_M_order : Cond) ∈ qtb := List.mem_filter.mpr ⟨List.mem_append_left _ (by decide +kernel), rfl⟩
theorem qs_M_superCount : (.selects "CaptureSubtypesModel" qy_M_superCount qy_M_superCount : Cond) ∈ qtb := List.mem_filter.mpr ⟨List.mem_append_left _ (by decide +kernel), rfl⟩
theorem qs_M_superOf : (.selects "CaptureSubtypesModel" qy_M_superOf qy_M_superOf : Cond) ∈ qtb := List.mem_filter.mpr ⟨List.mem_append_left _ (by decide +kernel), rfl⟩
theorem qs_M_isHeir : (.selects "CaptureSubtypesModel" qy_M_isHeir qy_M_isHeir : Cond) ∈ qtb := List.mem_filter.mpr ⟨List.mem_append_left _ (by decide +kernel), rfl⟩
theorem qs_M_part : (.selects "CaptureSubtypesModel" qy_M_part qy_M_part : Cond) ∈ qtb := List.mem_filter.mpr ⟨List.mem_append_left _ (by decide +kernel), rfl⟩
theorem qs_M_isSealed : (.selects "CaptureSubtypesModel" qy_M_isSealed qy_M_isSealed : Cond) ∈ qtb := List.mem_filter.mpr ⟨List.mem_append_left _ (by decide +kernel), rfl⟩
theorem qs_M_areHeirsApart : (.selects "CaptureSubtypesModel" qy_M_areHeirsApart qy_M_areHeirsApart : Cond) ∈ qtb := List.mem_filter.mpr ⟨List.mem_append_left _ (by decide +kernel), rfl⟩
theorem qs_M_isAsked : (.selects "CaptureSubtypesModel" qy_M_isAsked qy_M_isAsked : Cond) ∈ qtb := List.mem_filter.mpr ⟨List.mem_append_left _ (by decide +kernel), rfl⟩
theorem qs_M_isA : (.selects "CaptureSubtypesModel" qy_M_isA qy_M_isA : Cond) ∈ qtb := List.mem_filter.mpr ⟨List.mem_append_left _ (by decide +kernel), rfl⟩
theorem qs_M_ask : (.selects "CaptureSubtypesModel" qy_M_ask qy_M_ask : Cond) ∈ qtb := List.mem_filter.mpr ⟨List.mem_append_left _ (by decide +kernel), rfl⟩
theorem qs_M_step : (.selects "CaptureSubtypesModel" qy_M_step qy_M_step : Cond) ∈ qtb := List.mem_filter.mpr ⟨List.mem_append_left _ (by decide +kernel), rfl⟩
theorem qs_M_stepBounds : (.selects "CaptureSubtypesModel" qy_M_stepBounds qy_M_stepBounds : Cond) ∈ qtb := List.mem_filter.mpr ⟨List.mem_append_left _ (by decide +kernel), rfl⟩
theorem qs_M_boundCount : (.selects "CaptureSubtypesModel" qy_M_boundCount qy_M_boundCount : Cond) ∈ qtb := List.mem_filter.mpr ⟨List.mem_append_left _ (by decide +kernel), rfl⟩
theorem qs_M_boundOf : (.selects "CaptureSubtypesModel" qy_M_boundOf qy_M_boundOf : Cond) ∈ qtb := List.mem_filter.mpr ⟨List.mem_append_left _ (by decide +kernel), rfl⟩
theorem qs_M_stepLow : (.selects "CaptureSubtypesModel" qy_M_stepLow qy_M_stepLow : Cond) ∈ qtb := List.mem_filter.mpr ⟨List.mem_append_left _ (by decide +kernel), rfl⟩
theorem qs_M_lowOf : (.selects "CaptureSubtypesModel" qy_M_lowOf qy_M_lowOf : Cond) ∈ qtb := List.mem_filter.mpr ⟨List.mem_append_left _ (by decide +kernel), rfl⟩
theorem qs_M_stepParts : (.selects "CaptureSubtypesModel" qy_M_stepParts qy_M_stepParts : Cond) ∈ qtb := List.mem_filter.mpr ⟨List.mem_append_left _ (by decide +kernel), rfl⟩
theorem qs_M_isOfClass : (.selects "CaptureSubtypesModel" qy_M_isOfClass qy_M_isOfClass : Cond) ∈ qtb := List.mem_filter.mpr ⟨List.mem_append_left _ (by decide +kernel), rfl⟩
theorem qs_M_asClass : (.selects "CaptureSubtypesModel" qy_M_asClass qy_M_asClass : Cond) ∈ qtb := List.mem_filter.mpr ⟨List.mem_append_left _ (by decide +kernel), rfl⟩
theorem qs_M_catchIt : (.selects "CaptureSubtypesModel" qy_M_catchIt qy_M_catchIt : Cond) ∈ qtb := List.mem_filter.mpr ⟨List.mem_append_left _ (by decide +kernel), rfl⟩
theorem qs_M_hasWild : (.selects "CaptureSubtypesModel" qy_M_hasWild qy_M_hasWild : Cond) ∈ qtb := List.mem_filter.mpr ⟨List.mem_append_left _ (by decide +kernel), rfl⟩
theorem qs_M_come : (.selects "CaptureSubtypesModel" qy_M_come qy_M_come : Cond) ∈ qtb := List.mem_filter.mpr ⟨List.mem_append_left _ (by decide +kernel), rfl⟩
theorem qs_M_replace : (.selects "CaptureSubtypesModel" qy_M_replace qy_M_replace : Cond) ∈ qtb := List.mem_filter.mpr ⟨List.mem_append_left _ (by decide +kernel), rfl⟩
theorem qs_M_hasFirst : (.selects "CaptureSubtypesModel" qy_M_hasFirst qy_M_hasFirst : Cond) ∈ qtb := List.mem_filter.mpr ⟨List.mem_append_left _ (by decide +kernel), rfl⟩
theorem qs_M_superType : (.selects "CaptureSubtypesModel" qy_M_superType qy_M_superType : Cond) ∈ qtb := List.mem_filter.mpr ⟨List.mem_append_left _ (by decide +kernel), rfl⟩
theorem qs_M_bare : (.selects "CaptureSubtypesModel" qy_M_bare qy_M_bare : Cond) ∈ qtb := List.mem_filter.mpr ⟨List.mem_append_left _ (by decide +kernel), rfl⟩
theorem qs_M_stepArguments : (.selects "CaptureSubtypesModel" qy_M_stepArguments qy_M_stepArguments : Cond) ∈ qtb := List.mem_filter.mpr ⟨List.mem_append_left _ (by decide +kernel), rfl⟩
theorem qs_M_isUnchecked : (.selects "CaptureSubtypesModel" qy_M_isUnchecked qy_M_isUnchecked : Cond) ∈ qtb := List.mem_filter.mpr ⟨List.mem_append_left _ (by decide +kernel), rfl⟩
theorem qs_M_mayClasses : (.selects "CaptureSubtypesModel" qy_M_mayClasses qy_M_mayClasses : Cond) ∈ qtb := List.mem_filter.mpr ⟨List.mem_append_left _ (by decide +kernel), rfl⟩
theorem qs_M_differ : (.selects "CaptureSubtypesModel" qy_M_differ qy_M_differ : Cond) ∈ qtb := List.mem_filter.mpr ⟨List.mem_append_left _ (by decide +kernel), rfl⟩
theorem qs_M_erase : (.selects "CaptureSubtypesModel" qy_M_erase qy_M_erase : Cond) ∈ qtb := List.mem_filter.mpr ⟨List.mem_append_left _ (by decide +kernel), rfl⟩
theorem qs_M_thereAs : (.selects "CaptureSubtypesModel" qy_M_thereAs qy_M_thereAs : Cond) ∈ qtb := List.mem_filter.mpr ⟨List.mem_append_left _ (by decide +kernel), rfl⟩
theorem qs_M_isForeign : (.selects "CaptureSubtypesModel" qy_M_isForeign qy_M_isForeign : Cond) ∈ qtb := List.mem_filter.mpr ⟨List.mem_append_left _ (by decide +kernel), rfl⟩
theorem qs_M_areOne : (.selects "CaptureSubtypesModel" qy_M_areOne qy_M_areOne : Cond) ∈ qtb := List.mem_filter.mpr ⟨List.mem_append_left _ (by decide +kernel), rfl⟩
theorem qi_K : ∀ w ∈ u_ws qR_K qF_K 10, w ∈ qtb := by decide +kernel
theorem qi_T : ∀ w ∈ u_ws qR_T qF_T 10, w ∈ qtb := by decide +kernel
theorem qi_S : ∀ w ∈ u_ws qR_S qF_S 2, w ∈ qtb := by decide +kernel
theorem qi_O : ∀ w ∈ u_ws qR_O qF_O 3, w ∈ qtb := by decide +kernel
theorem qi_U : ∀ w ∈ u_ws qR_U qF_U 4, w ∈ qtb := by decide +kernel
theorem qi_X : ∀ w ∈ u_ws qR_X qF_X 5, w ∈ qtb := by decide +kernel
theorem qi_M : ∀ w ∈ u_ws qR_M qF_M 32, w ∈ qtb := by decide +kernel
end
section
theorem qd_K_init_0 : decode qb_K_init 0 = .ok (.aload_n 0, 1) := by decide +kernel
theorem qd_K_init_1 : decode qb_K_init 1 = .ok (.invokespecial 3, 3) := by decide +kernel
theorem qd_K_init_4 : decode qb_K_init 4 = .ok (.aload_n 0, 1) := by decide +kernel
theorem qd_K_init_5 : decode qb_K_init 5 = .ok (.bipush 12, 2) := by decide +kernel
theorem qd_K_init_7 : decode qb_K_init 7 = .ok (.newarray .int, 2) := by decide +kernel
theorem qd_K_init_9 : decode qb_K_init 9 = .ok (.putfield 11, 3) := by decide +kernel
theorem qd_K_init_12 : decode qb_K_init 12 = .ok (.aload_n 0, 1) := by decide +kernel
theorem qd_K_init_13 : decode qb_K_init 13 = .ok (.bipush 12, 2) := by decide +kernel
theorem qd_K_init_15 : decode qb_K_init 15 = .ok (.newarray .int, 2) := by decide +kernel
theorem qd_K_init_17 : decode qb_K_init 17 = .ok (.putfield 15, 3) := by decide +kernel
theorem qd_K_init_20 : decode qb_K_init 20 = .ok (.aload_n 0, 1) := by decide +kernel
theorem qd_K_init_21 : decode qb_K_init 21 = .ok (.bipush 36, 2) := by decide +kernel
theorem qd_K_init_23 : decode qb_K_init 23 = .ok (.newarray .int, 2) := by decide +kernel
theorem qd_K_init_25 : decode qb_K_init 25 = .ok (.putfield 18, 3) := by decide +kernel
theorem qd_K_init_28 : decode qb_K_init 28 = .ok (.aload_n 0, 1) := by decide +kernel
theorem qd_K_init_29 : decode qb_K_init 29 = .ok (.bipush 36, 2) := by decide +kernel
theorem qd_K_init_31 : decode qb_K_init 31 = .ok (.newarray .int, 2) := by decide +kernel
theorem qd_K_init_33 : decode qb_K_init 33 = .ok (.putfield 21, 3) := by decide +kernel
theorem qd_K_init_36 : decode qb_K_init 36 = .ok (.aload_n 0, 1) := by decide +kernel
theorem qd_K_init_37 : decode qb_K_init 37 = .ok (.bipush 48, 2) := by decide +kernel
theorem qd_K_init_39 : decode qb_K_init 39 = .ok (.newarray .int, 2) := by decide +kernel
theorem qd_K_init_41 : decode qb_K_init 41 = .ok (.putfield 24, 3) := by decide +kernel
theorem qd_K_init_44 : decode qb_K_init 44 = .ok (.aload_n 0, 1) := by decide +kernel
theorem qd_K_init_45 : decode qb_K_init 45 = .ok (.bipush 24, 2) := by decide +kernel
theorem qd_K_init_47 : decode qb_K_init 47 = .ok (.newarray .int, 2) := by decide +kernel
theorem qd_K_init_49 : decode qb_K_init 49 = .ok (.putfield 27, 3) := by decide +kernel
theorem qd_K_init_52 : decode qb_K_init 52 = .ok (.aload_n 0, 1) := by decide +kernel
theorem qd_K_init_53 : decode qb_K_init 53 = .ok (.bipush 12, 2) := by decide +kernel
theorem qd_K_init_55 : decode qb_K_init 55 = .ok (.newarray .int, 2) := by decide +kernel
theorem qd_K_init_57 : decode qb_K_init 57 = .ok (.putfield 30, 3) := by decide +kernel
theorem qd_K_init_60 : decode qb_K_init 60 = .ok (.aload_n 0, 1) := by decide +kernel
theorem qd_K_init_61 : decode qb_K_init 61 = .ok (.bipush 12, 2) := by decide +kernel
theorem qd_K_init_63 : decode qb_K_init 63 = .ok (.newarray .int, 2) := by decide +kernel
theorem qd_K_init_65 : decode qb_K_init 65 = .ok (.putfield 33, 3) := by decide +kernel
theorem qd_K_init_68 : decode qb_K_init 68 = .ok (.aload_n 0, 1) := by decide +kernel
theorem qd_K_init_69 : decode qb_K_init 69 = .ok (.bipush 12, 2) := by decide +kernel
theorem qd_K_init_71 : decode qb_K_init 71 = .ok (.newarray .int, 2) := by decide +kernel
theorem qd_K_init_73 : decode qb_K_init 73 = .ok (.putfield 36, 3) := by decide +kernel
theorem qd_K_init_76 : decode qb_K_init 76 = .ok (.aload_n 0, 1) := by decide +kernel
theorem qd_K_init_77 : decode qb_K_init 77 = .ok (.invokevirtual 39, 3) := by decide +kernel
theorem qd_K_init_80 : decode qb_K_init 80 = .ok (.return_, 1) := by decide +kernel
theorem qd_K_empty_0 : decode qb_K_empty 0 = .ok (.aload_n 0, 1) := by decide +kernel
theorem qd_K_empty_1 : decode qb_K_empty 1 = .ok (.iconst 0, 1) := by decide +kernel
theorem qd_K_empty_2 : decode qb_K_empty 2 = .ok (.putfield 42, 3) := by decide +kernel
theorem qd_K_empty_5 : decode qb_K_empty 5 = .ok (.aload_n 0, 1) := by decide +kernel
theorem qd_K_empty_6 : decode qb_K_empty 6 = .ok (.iconst 0, 1) := by decide +kernel
theorem qd_K_empty_7 : decode qb_K_empty 7 = .ok (.iconst 0, 1) := by decide +kernel
theorem qd_K_empty_8 : decode qb_K_empty 8 = .ok (.iconst (-1), 1) := by decide +kernel
theorem qd_K_empty_9 : decode qb_K_empty 9 = .ok (.invokevirtual 46, 3) := by decide +kernel
theorem qd_K_empty_12 : decode qb_K_empty 12 = .ok (.aload_n 0, 1) := by decide +kernel
theorem qd_K_empty_13 : decode qb_K_empty 13 = .ok (.getfield 33, 3) := by decide +kernel
theorem qd_K_empty_16 : decode qb_K_empty 16 = .ok (.iconst 0, 1) := by decide +kernel
theorem qd_K_empty_17 : decode qb_K_empty 17 = .ok (.iconst 1, 1) := by decide +kernel
theorem qd_K_empty_18 : decode qb_K_empty 18 = .ok (.iastore, 1) := by decide +kernel
theorem qd_K_empty_19 : decode qb_K_empty 19 = .ok (.return_, 1) := by decide +kernel
theorem qd_K_write_0 : decode qb_K_write 0 = .ok (.aload_n 0, 1) := by decide +kernel
theorem qd_K_write_1 : decode qb_K_write 1 = .ok (.getfield 42, 3) := by decide +kernel
theorem qd_K_write_4 : decode qb_K_write 4 = .ok (.istore 4, 2) := by decide +kernel
theorem qd_K_write_6 : decode qb_K_write 6 = .ok (.iload 4, 2) := by decide +kernel
theorem qd_K_write_8 : decode qb_K_write 8 = .ok (.ifCond .lt 10, 3) := by decide +kernel
theorem qd_K_write_11 : decode qb_K_write 11 = .ok (.iload 4, 2) := by decide +kernel
theorem qd_K_write_13 : decode qb_K_write 13 = .ok (.bipush 12, 2) := by decide +kernel
theorem qd_K_write_15 : decode qb_K_write 15 = .ok (.if_icmp .lt 4, 3) := by decide +kernel
theorem qd_K_write_18 : decode qb_K_write 18 = .ok (.return_, 1) := by decide +kernel
theorem qd_K_write_19 : decode qb_K_write 19 = .ok (.aload_n 0, 1) := by decide +kernel
theorem qd_K_write_20 : decode qb_K_write 20 = .ok (.iload 4, 2) := by decide +kernel
theorem qd_K_write_22 : decode qb_K_write 22 = .ok (.iconst 1, 1) := by decide +kernel
theorem qd_K_write_23 : decode qb_K_write 23 = .ok (.iadd, 1) := by decide +kernel
theorem qd_K_write_24 : decode qb_K_write 24 = .ok (.putfield 42, 3) := by decide +kernel
theorem qd_K_write_27 : decode qb_K_write 27 = .ok (.aload_n 0, 1) := by decide +kernel
theorem qd_K_write_28 : decode qb_K_write 28 = .ok (.getfield 11, 3) := by decide +kernel
theorem qd_K_write_31 : decode qb_K_write 31 = .ok (.iload 4, 2) := by decide +kernel
theorem qd_K_write_33 : decode qb_K_write 33 = .ok (.iload_n 1, 1) := by decide +kernel
theorem qd_K_write_34 : decode qb_K_write 34 = .ok (.iastore, 1) := by decide +kernel
theorem qd_K_write_35 : decode qb_K_write 35 = .ok (.aload_n 0, 1) := by decide +kernel
theorem qd_K_write_36 : decode qb_K_write 36 = .ok (.getfield 15, 3) := by decide +kernel
theorem qd_K_write_39 : decode qb_K_write 39 = .ok (.iload 4, 2) := by decide +kernel
theorem qd_K_write_41 : decode qb_K_write 41 = .ok (.iload_n 2, 1) := by decide +kernel
theorem qd_K_write_42 : decode qb_K_write 42 = .ok (.iastore, 1) := by decide +kernel
theorem qd_K_write_43 : decode qb_K_write 43 = .ok (.aload_n 0, 1) := by decide +kernel
theorem qd_K_write_44 : decode qb_K_write 44 = .ok (.getfield 30, 3) := by decide +kernel
theorem qd_K_write_47 : decode qb_K_write 47 = .ok (.iload 4, 2) := by decide +kernel
theorem qd_K_write_49 : decode qb_K_write 49 = .ok (.iconst 0, 1) := by decide +kernel
theorem qd_K_write_50 : decode qb_K_write 50 = .ok (.iastore, 1) := by decide +kernel
theorem qd_K_write_51 : decode qb_K_write 51 = .ok (.aload_n 0, 1) := by decide +kernel
theorem qd_K_write_52 : decode qb_K_write 52 = .ok (.getfield 33, 3) := by decide +kernel
theorem qd_K_write_55 : decode qb_K_write 55 = .ok (.iload 4, 2) := by decide +kernel
theorem qd_K_write_57 : decode qb_K_write 57 = .ok (.iconst 0, 1) := by decide +kernel
theorem qd_K_write_58 : decode qb_K_write 58 = .ok (.iastore, 1) := by decide +kernel
theorem qd_K_write_59 : decode qb_K_write 59 = .ok (.aload_n 0, 1) := by decide +kernel
theorem qd_K_write_60 : decode qb_K_write 60 = .ok (.getfield 36, 3) := by decide +kernel
theorem qd_K_write_63 : decode qb_K_write 63 = .ok (.iload 4, 2) := by decide +kernel
theorem qd_K_write_65 : decode qb_K_write 65 = .ok (.iconst 0, 1) := by decide +kernel
theorem qd_K_write_66 : decode qb_K_write 66 = .ok (.iastore, 1) := by decide +kernel
theorem qd_K_write_67 : decode qb_K_write 67 = .ok (.iconst 0, 1) := by decide +kernel
theorem qd_K_write_68 : decode qb_K_write 68 = .ok (.istore 5, 2) := by decide +kernel
theorem qd_K_write_70 : decode qb_K_write 70 = .ok (.iload 5, 2) := by decide +kernel
theorem qd_K_write_72 : decode qb_K_write 72 = .ok (.iconst 3, 1) := by decide +kernel
theorem qd_K_write_73 : decode qb_K_write 73 = .ok (.if_icmp .ge 53, 3) := by decide +kernel
theorem qd_K_write_76 : decode qb_K_write 76 = .ok (.aload_n 0, 1) := by decide +kernel
theorem qd_K_write_77 : decode qb_K_write 77 = .ok (.getfield 18, 3) := by decide +kernel
theorem qd_K_write_80 : decode qb_K_write 80 = .ok (.iload 4, 2) := by decide +kernel
theorem qd_K_write_82 : decode qb_K_write 82 = .ok (.iconst 3, 1) := by decide +kernel
theorem qd_K_write_83 : decode qb_K_write 83 = .ok (.imul, 1) := by decide +kernel
theorem qd_K_write_84 : decode qb_K_write 84 = .ok (.iload 5, 2) := by decide +kernel
theorem qd_K_write_86 : decode qb_K_write 86 = .ok (.iadd, 1) := by decide +kernel
theorem qd_K_write_87 : decode qb_K_write 87 = .ok (.iload 5, 2) := by decide +kernel
theorem qd_K_write_89 : decode qb_K_write 89 = .ok (.ifCond .ne 7, 3) := by decide +kernel
theorem qd_K_write_92 : decode qb_K_write 92 = .ok (.iload_n 3, 1) := by decide +kernel
theorem qd_K_write_93 : decode qb_K_write 93 = .ok (.goto 4, 3) := by decide +kernel
theorem qd_K_write_96 : decode qb_K_write 96 = .ok (.iconst (-1), 1) := by decide +kernel
theorem qd_K_write_97 : decode qb_K_write 97 = .ok (.iastore, 1) := by decide +kernel
theorem qd_K_write_98 : decode qb_K_write 98 = .ok (.aload_n 0, 1) := by decide +kernel
theorem qd_K_write_99 : decode qb_K_write 99 = .ok (.getfield 21, 3) := by decide +kernel
theorem qd_K_write_102 : decode qb_K_write 102 = .ok (.iload 4, 2) := by decide +kernel
theorem qd_K_write_104 : decode qb_K_write 104 = .ok (.iconst 3, 1) := by decide +kernel
theorem qd_K_write_105 : decode qb_K_write 105 = .ok (.imul, 1) := by decide +kernel
theorem qd_K_write_106 : decode qb_K_write 106 = .ok (.iload 5, 2) := by decide +kernel
theorem qd_K_write_108 : decode qb_K_write 108 = .ok (.iadd, 1) := by decide +kernel
theorem qd_K_write_109 : decode qb_K_write 109 = .ok (.iload 5, 2) := by decide +kernel
theorem qd_K_write_111 : decode qb_K_write 111 = .ok (.ifCond .ne 7, 3) := by decide +kernel
theorem qd_K_write_114 : decode qb_K_write 114 = .ok (.iload_n 3, 1) := by decide +kernel
theorem qd_K_write_115 : decode qb_K_write 115 = .ok (.goto 4, 3) := by decide +kernel
theorem qd_K_write_118 : decode qb_K_write 118 = .ok (.iconst (-1), 1) := by decide +kernel
theorem qd_K_write_119 : decode qb_K_write 119 = .ok (.iastore, 1) := by decide +kernel
theorem qd_K_write_120 : decode qb_K_write 120 = .ok (.iinc 5 1, 3) := by decide +kernel
theorem qd_K_write_123 : decode qb_K_write 123 = .ok (.goto (-53), 3) := by decide +kernel
theorem qd_K_write_126 : decode qb_K_write 126 = .ok (.iconst 0, 1) := by decide +kernel
theorem qd_K_write_127 : decode qb_K_write 127 = .ok (.istore 5, 2) := by decide +kernel
theorem qd_K_write_129 : decode qb_K_write 129 = .ok (.iload 5, 2) := by decide +kernel
theorem qd_K_write_131 : decode qb_K_write 131 = .ok (.iconst 2, 1) := by decide +kernel
theorem qd_K_write_132 : decode qb_K_write 132 = .ok (.if_icmp .ge 22, 3) := by decide +kernel
theorem qd_K_write_135 : decode qb_K_write 135 = .ok (.aload_n 0, 1) := by decide +kernel
theorem qd_K_write_136 : decode qb_K_write 136 = .ok (.getfield 27, 3) := by decide +kernel
theorem qd_K_write_139 : decode qb_K_write 139 = .ok (.iload 4, 2) := by decide +kernel
theorem qd_K_write_141 : decode qb_K_write 141 = .ok (.iconst 2, 1) := by decide +kernel
theorem qd_K_write_142 : decode qb_K_write 142 = .ok (.imul, 1) := by decide +kernel
theorem qd_K_write_143 : decode qb_K_write 143 = .ok (.iload 5, 2) := by decide +kernel
theorem qd_K_write_145 : decode qb_K_write 145 = .ok (.iadd, 1) := by decide +kernel
theorem qd_K_write_146 : decode qb_K_write 146 = .ok (.iconst 0, 1) := by decide +kernel
theorem qd_K_write_147 : decode qb_K_write 147 = .ok (.iastore, 1) := by decide +kernel
theorem qd_K_write_148 : decode qb_K_write 148 = .ok (.iinc 5 1, 3) := by decide +kernel
theorem qd_K_write_151 : decode qb_K_write 151 = .ok (.goto (-22), 3) := by decide +kernel
theorem qd_K_write_154 : decode qb_K_write 154 = .ok (.return_, 1) := by decide +kernel
theorem qd_K_add_0 : decode qb_K_add 0 = .ok (.aload_n 0, 1) := by decide +kernel
theorem qd_K_add_1 : decode qb_K_add 1 = .ok (.getfield 42, 3) := by decide +kernel
theorem qd_K_add_4 : decode qb_K_add 4 = .ok (.bipush 12, 2) := by decide +kernel
theorem qd_K_add_6 : decode qb_K_add 6 = .ok (.if_icmp .lt 6, 3) := by decide +kernel
theorem qd_K_add_9 : decode qb_K_add 9 = .ok (.bipush (-3), 2) := by decide +kernel
theorem qd_K_add_11 : decode qb_K_add 11 = .ok (.ireturn, 1) := by decide +kernel
theorem qd_K_add_12 : decode qb_K_add 12 = .ok (.aload_n 0, 1) := by decide +kernel
theorem qd_K_add_13 : decode qb_K_add 13 = .ok (.iload_n 1, 1) := by decide +kernel
theorem qd_K_add_14 : decode qb_K_add 14 = .ok (.iload_n 2, 1) := by decide +kernel
theorem qd_K_add_15 : decode qb_K_add 15 = .ok (.iload_n 1, 1) := by decide +kernel
theorem qd_K_add_16 : decode qb_K_add 16 = .ok (.iconst 3, 1) := by decide +kernel
theorem qd_K_add_17 : decode qb_K_add 17 = .ok (.if_icmp .ge 7, 3) := by decide +kernel
theorem qd_K_add_20 : decode qb_K_add 20 = .ok (.iconst 0, 1) := by decide +kernel
theorem qd_K_add_21 : decode qb_K_add 21 = .ok (.goto 4, 3) := by decide +kernel
theorem qd_K_add_24 : decode qb_K_add 24 = .ok (.iconst (-1), 1) := by decide +kernel
theorem qd_K_add_25 : decode qb_K_add 25 = .ok (.invokevirtual 46, 3) := by decide +kernel
theorem qd_K_add_28 : decode qb_K_add 28 = .ok (.aload_n 0, 1) := by decide +kernel
theorem qd_K_add_29 : decode qb_K_add 29 = .ok (.invokevirtual 50, 3) := by decide +kernel
theorem qd_K_add_32 : decode qb_K_add 32 = .ok (.aload_n 0, 1) := by decide +kernel
theorem qd_K_add_33 : decode qb_K_add 33 = .ok (.getfield 42, 3) := by decide +kernel
theorem qd_K_add_36 : decode qb_K_add 36 = .ok (.iconst 1, 1) := by decide +kernel
theorem qd_K_add_37 : decode qb_K_add 37 = .ok (.isub, 1) := by decide +kernel
theorem qd_K_add_38 : decode qb_K_add 38 = .ok (.ireturn, 1) := by decide +kernel
theorem qd_K_reckon_0 : decode qb_K_reckon 0 = .ok (.aload_n 0, 1) := by decide +kernel
theorem qd_K_reckon_1 : decode qb_K_reckon 1 = .ok (.invokevirtual 77, 3) := by decide +kernel
theorem qd_K_reckon_4 : decode qb_K_reckon 4 = .ok (.aload_n 0, 1) := by decide +kernel
theorem qd_K_reckon_5 : decode qb_K_reckon 5 = .ok (.invokevirtual 80, 3) := by decide +kernel
theorem qd_K_reckon_8 : decode qb_K_reckon 8 = .ok (.return_, 1) := by decide +kernel
theorem qd_K_reckonAbove_0 : decode qb_K_reckonAbove 0 = .ok (.iconst 0, 1) := by decide +kernel
theorem qd_K_reckonAbove_1 : decode qb_K_reckonAbove 1 = .ok (.istore_n 1, 1) := by decide +kernel
theorem qd_K_reckonAbove_2 : decode qb_K_reckonAbove 2 = .ok (.iload_n 1, 1) := by decide +kernel
theorem qd_K_reckonAbove_3 : decode qb_K_reckonAbove 3 = .ok (.aload_n 0, 1) := by decide +kernel
theorem qd_K_reckonAbove_4 : decode qb_K_reckonAbove 4 = .ok (.getfield 42, 3) := by decide +kernel
theorem qd_K_reckonAbove_7 : decode qb_K_reckonAbove 7 = .ok (.if_icmp .ge 83, 3) := by decide +kernel
theorem qd_K_reckonAbove_10 : decode qb_K_reckonAbove 10 = .ok (.aload_n 0, 1) := by decide +kernel
theorem qd_K_reckonAbove_11 : decode qb_K_reckonAbove 11 = .ok (.getfield 30, 3) := by decide +kernel
theorem qd_K_reckonAbove_14 : decode qb_K_reckonAbove 14 = .ok (.iload_n 1, 1) := by decide +kernel
theorem qd_K_reckonAbove_15 : decode qb_K_reckonAbove 15 = .ok (.iconst 0, 1) := by decide +kernel
theorem qd_K_reckonAbove_16 : decode qb_K_reckonAbove 16 = .ok (.iastore, 1) := by decide +kernel
theorem qd_K_reckonAbove_17 : decode qb_K_reckonAbove 17 = .ok (.aload_n 0, 1) := by decide +kernel
theorem qd_K_reckonAbove_18 : decode qb_K_reckonAbove 18 = .ok (.getfield 33, 3) := by decide +kernel
theorem qd_K_reckonAbove_21 : decode qb_K_reckonAbove 21 = .ok (.iload_n 1, 1) := by decide +kernel
theorem qd_K_reckonAbove_22 : decode qb_K_reckonAbove 22 = .ok (.iconst 1, 1) := by decide +kernel
theorem qd_K_reckonAbove_23 : decode qb_K_reckonAbove 23 = .ok (.iconst 1, 1) := by decide +kernel
theorem qd_K_reckonAbove_24 : decode qb_K_reckonAbove 24 = .ok (.iload_n 1, 1) := by decide +kernel
theorem qd_K_reckonAbove_25 : decode qb_K_reckonAbove 25 = .ok (.ishl, 1) := by decide +kernel
theorem qd_K_reckonAbove_26 : decode qb_K_reckonAbove 26 = .ok (.ior, 1) := by decide +kernel
theorem qd_K_reckonAbove_27 : decode qb_K_reckonAbove 27 = .ok (.iastore, 1) := by decide +kernel
theorem qd_K_reckonAbove_28 : decode qb_K_reckonAbove 28 = .ok (.iconst 0, 1) := by decide +kernel
theorem qd_K_reckonAbove_29 : decode qb_K_reckonAbove 29 = .ok (.istore_n 2, 1) := by decide +kernel
theorem qd_K_reckonAbove_30 : decode qb_K_reckonAbove 30 = .ok (.iload_n 2, 1) := by decide +kernel
theorem qd_K_reckonAbove_31 : decode qb_K_reckonAbove 31 = .ok (.iconst 3, 1) := by decide +kernel
theorem qd_K_reckonAbove_32 : decode qb_K_reckonAbove 32 = .ok (.if_icmp .ge 52, 3) := by decide +kernel
theorem qd_K_reckonAbove_35 : decode qb_K_reckonAbove 35 = .ok (.aload_n 0, 1) := by decide +kernel
theorem qd_K_reckonAbove_36 : decode qb_K_reckonAbove 36 = .ok (.iload_n 1, 1) := by decide +kernel
theorem qd_K_reckonAbove_37 : decode qb_K_reckonAbove 37 = .ok (.iload_n 2, 1) := by decide +kernel
theorem qd_K_reckonAbove_38 : decode qb_K_reckonAbove 38 = .ok (.invokevirtual 61, 3) := by decide +kernel
theorem qd_K_reckonAbove_41 : decode qb_K_reckonAbove 41 = .ok (.istore_n 3, 1) := by decide +kernel
theorem qd_K_reckonAbove_42 : decode qb_K_reckonAbove 42 = .ok (.iload_n 3, 1) := by decide +kernel
theorem qd_K_reckonAbove_43 : decode qb_K_reckonAbove 43 = .ok (.ifCond .lt 35, 3) := by decide +kernel
theorem qd_K_reckonAbove_46 : decode qb_K_reckonAbove 46 = .ok (.iload_n 3, 1) := by decide +kernel
theorem qd_K_reckonAbove_47 : decode qb_K_reckonAbove 47 = .ok (.iload_n 1, 1) := by decide +kernel
theorem qd_K_reckonAbove_48 : decode qb_K_reckonAbove 48 = .ok (.if_icmp .ge 30, 3) := by decide +kernel
theorem qd_K_reckonAbove_51 : decode qb_K_reckonAbove 51 = .ok (.aload_n 0, 1) := by decide +kernel
theorem qd_K_reckonAbove_52 : decode qb_K_reckonAbove 52 = .ok (.getfield 30, 3) := by decide +kernel
theorem qd_K_reckonAbove_55 : decode qb_K_reckonAbove 55 = .ok (.iload_n 1, 1) := by decide +kernel
theorem qd_K_reckonAbove_56 : decode qb_K_reckonAbove 56 = .ok (.dup2, 1) := by decide +kernel
theorem qd_K_reckonAbove_57 : decode qb_K_reckonAbove 57 = .ok (.iaload, 1) := by decide +kernel
theorem qd_K_reckonAbove_58 : decode qb_K_reckonAbove 58 = .ok (.iconst 1, 1) := by decide +kernel
theorem qd_K_reckonAbove_59 : decode qb_K_reckonAbove 59 = .ok (.iload_n 3, 1) := by decide +kernel
theorem qd_K_reckonAbove_60 : decode qb_K_reckonAbove 60 = .ok (.ishl, 1) := by decide +kernel
theorem qd_K_reckonAbove_61 : decode qb_K_reckonAbove 61 = .ok (.ior, 1) := by decide +kernel
theorem qd_K_reckonAbove_62 : decode qb_K_reckonAbove 62 = .ok (.iastore, 1) := by decide +kernel
theorem qd_K_reckonAbove_63 : decode qb_K_reckonAbove 63 = .ok (.aload_n 0, 1) := by decide +kernel
theorem qd_K_reckonAbove_64 : decode qb_K_reckonAbove 64 = .ok (.getfield 33, 3) := by decide +kernel
theorem qd_K_reckonAbove_67 : decode qb_K_reckonAbove 67 = .ok (.iload_n 1, 1) := by decide +kernel
theorem qd_K_reckonAbove_68 : decode qb_K_reckonAbove 68 = .ok (.dup2, 1) := by decide +kernel
theorem qd_K_reckonAbove_69 : decode qb_K_reckonAbove 69 = .ok (.iaload, 1) := by decide +kernel
theorem qd_K_reckonAbove_70 : decode qb_K_reckonAbove 70 = .ok (.aload_n 0, 1) := by decide +kernel
theorem qd_K_reckonAbove_71 : decode qb_K_reckonAbove 71 = .ok (.getfield 33, 3) := by decide +kernel
theorem qd_K_reckonAbove_74 : decode qb_K_reckonAbove 74 = .ok (.iload_n 3, 1) := by decide +kernel
theorem qd_K_reckonAbove_75 : decode qb_K_reckonAbove 75 = .ok (.iaload, 1) := by decide +kernel
theorem qd_K_reckonAbove_76 : decode qb_K_reckonAbove 76 = .ok (.ior, 1) := by decide +kernel
theorem qd_K_reckonAbove_77 : decode qb_K_reckonAbove 77 = .ok (.iastore, 1) := by decide +kernel
theorem qd_K_reckonAbove_78 : decode qb_K_reckonAbove 78 = .ok (.iinc 2 1, 3) := by decide +kernel
theorem qd_K_reckonAbove_81 : decode qb_K_reckonAbove 81 = .ok (.goto (-51), 3) := by decide +kernel
theorem qd_K_reckonAbove_84 : decode qb_K_reckonAbove 84 = .ok (.iinc 1 1, 3) := by decide +kernel
theorem qd_K_reckonAbove_87 : decode qb_K_reckonAbove 87 = .ok (.goto (-85), 3) := by decide +kernel
theorem qd_K_reckonAbove_90 : decode qb_K_reckonAbove 90 = .ok (.return_, 1) := by decide +kernel
theorem qd_K_superClass_0 : decode qb_K_superClass 0 = .ok (.iload_n 1, 1) := by decide +kernel
theorem qd_K_superClass_1 : decode qb_K_superClass 1 = .ok (.ifCond .lt 24, 3) := by decide +kernel
theorem qd_K_superClass_4 : decode qb_K_superClass 4 = .ok (.iload_n 1, 1) := by decide +kernel
theorem qd_K_superClass_5 : decode qb_K_superClass 5 = .ok (.aload_n 0, 1) := by decide +kernel
theorem qd_K_superClass_6 : decode qb_K_superClass 6 = .ok (.getfield 42, 3) := by decide +kernel
theorem qd_K_superClass_9 : decode qb_K_superClass 9 = .ok (.if_icmp .ge 16, 3) := by decide +kernel
theorem qd_K_superClass_12 : decode qb_K_superClass 12 = .ok (.iload_n 2, 1) := by decide +kernel
theorem qd_K_superClass_13 : decode qb_K_superClass 13 = .ok (.ifCond .lt 12, 3) := by decide +kernel
theorem qd_K_superClass_16 : decode qb_K_superClass 16 = .ok (.iload_n 2, 1) := by decide +kernel
theorem qd_K_superClass_17 : decode qb_K_superClass 17 = .ok (.iconst 3, 1) := by decide +kernel
theorem qd_K_superClass_18 : decode qb_K_superClass 18 = .ok (.if_icmp .ge 7, 3) := by decide +kernel
theorem qd_K_superClass_21 : decode qb_K_superClass 21 = .ok (.iconst 1, 1) := by decide +kernel
theorem qd_K_superClass_22 : decode qb_K_superClass 22 = .ok (.goto 4, 3) := by decide +kernel
theorem qd_K_superClass_25 : decode qb_K_superClass 25 = .ok (.iconst 0, 1) := by decide +kernel
theorem qd_K_superClass_26 : decode qb_K_superClass 26 = .ok (.istore_n 3, 1) := by decide +kernel
theorem qd_K_superClass_27 : decode qb_K_superClass 27 = .ok (.iload_n 3, 1) := by decide +kernel
theorem qd_K_superClass_28 : decode qb_K_superClass 28 = .ok (.ifCond .eq 16, 3) := by decide +kernel
theorem qd_K_superClass_31 : decode qb_K_superClass 31 = .ok (.aload_n 0, 1) := by decide +kernel
theorem qd_K_superClass_32 : decode qb_K_superClass 32 = .ok (.getfield 21, 3) := by decide +kernel
theorem qd_K_superClass_35 : decode qb_K_superClass 35 = .ok (.iload_n 1, 1) := by decide +kernel
theorem qd_K_superClass_36 : decode qb_K_superClass 36 = .ok (.iconst 3, 1) := by decide +kernel
theorem qd_K_superClass_37 : decode qb_K_superClass 37 = .ok (.imul, 1) := by decide +kernel
theorem qd_K_superClass_38 : decode qb_K_superClass 38 = .ok (.iload_n 2, 1) := by decide +kernel
theorem qd_K_superClass_39 : decode qb_K_superClass 39 = .ok (.iadd, 1) := by decide +kernel
theorem qd_K_superClass_40 : decode qb_K_superClass 40 = .ok (.iaload, 1) := by decide +kernel
theorem qd_K_superClass_41 : decode qb_K_superClass 41 = .ok (.goto 4, 3) := by decide +kernel
theorem qd_K_superClass_44 : decode qb_K_superClass 44 = .ok (.iconst (-1), 1) := by decide +kernel
theorem qd_K_superClass_45 : decode qb_K_superClass 45 = .ok (.ireturn, 1) := by decide +kernel
theorem qd_K_reckonApart_0 : decode qb_K_reckonApart 0 = .ok (.aload_n 0, 1) := by decide +kernel
theorem qd_K_reckonApart_1 : decode qb_K_reckonApart 1 = .ok (.getfield 42, 3) := by decide +kernel
theorem qd_K_reckonApart_4 : decode qb_K_reckonApart 4 = .ok (.iconst 1, 1) := by decide +kernel
theorem qd_K_reckonApart_5 : decode qb_K_reckonApart 5 = .ok (.isub, 1) := by decide +kernel
theorem qd_K_reckonApart_6 : decode qb_K_reckonApart 6 = .ok (.istore_n 1, 1) := by decide +kernel
theorem qd_K_reckonApart_7 : decode qb_K_reckonApart 7 = .ok (.iload_n 1, 1) := by decide +kernel
theorem qd_K_reckonApart_8 : decode qb_K_reckonApart 8 = .ok (.ifCond .lt 54, 3) := by decide +kernel
theorem qd_K_reckonApart_11 : decode qb_K_reckonApart 11 = .ok (.aload_n 0, 1) := by decide +kernel
theorem qd_K_reckonApart_12 : decode qb_K_reckonApart 12 = .ok (.getfield 36, 3) := by decide +kernel
theorem qd_K_reckonApart_15 : decode qb_K_reckonApart 15 = .ok (.iload_n 1, 1) := by decide +kernel
theorem qd_K_reckonApart_16 : decode qb_K_reckonApart 16 = .ok (.iconst 0, 1) := by decide +kernel
theorem qd_K_reckonApart_17 : decode qb_K_reckonApart 17 = .ok (.iastore, 1) := by decide +kernel
theorem qd_K_reckonApart_18 : decode qb_K_reckonApart 18 = .ok (.aload_n 0, 1) := by decide +kernel
theorem qd_K_reckonApart_19 : decode qb_K_reckonApart 19 = .ok (.getfield 42, 3) := by decide +kernel
theorem qd_K_reckonApart_22 : decode qb_K_reckonApart 22 = .ok (.iconst 1, 1) := by decide +kernel
theorem qd_K_reckonApart_23 : decode qb_K_reckonApart 23 = .ok (.isub, 1) := by decide +kernel
theorem qd_K_reckonApart_24 : decode qb_K_reckonApart 24 = .ok (.istore_n 2, 1) := by decide +kernel
theorem qd_K_reckonApart_25 : decode qb_K_reckonApart 25 = .ok (.iload_n 2, 1) := by decide +kernel
theorem qd_K_reckonApart_26 : decode qb_K_reckonApart 26 = .ok (.ifCond .lt 30, 3) := by decide +kernel
theorem qd_K_reckonApart_29 : decode qb_K_reckonApart 29 = .ok (.aload_n 0, 1) := by decide +kernel
theorem qd_K_reckonApart_30 : decode qb_K_reckonApart 30 = .ok (.iload_n 1, 1) := by decide +kernel
theorem qd_K_reckonApart_31 : decode qb_K_reckonApart 31 = .ok (.iload_n 2, 1) := by decide +kernel
theorem qd_K_reckonApart_32 : decode qb_K_reckonApart 32 = .ok (.invokevirtual 83, 3) := by decide +kernel
theorem qd_K_reckonApart_35 : decode qb_K_reckonApart 35 = .ok (.ifCond .eq 15, 3) := by decide +kernel
theorem qd_K_reckonApart_38 : decode qb_K_reckonApart 38 = .ok (.aload_n 0, 1) := by decide +kernel
theorem qd_K_reckonApart_39 : decode qb_K_reckonApart 39 = .ok (.getfield 36, 3) := by decide +kernel
theorem qd_K_reckonApart_42 : decode qb_K_reckonApart 42 = .ok (.iload_n 1, 1) := by decide +kernel
theorem qd_K_reckonApart_43 : decode qb_K_reckonApart 43 = .ok (.dup2, 1) := by decide +kernel
theorem qd_K_reckonApart_44 : decode qb_K_reckonApart 44 = .ok (.iaload, 1) := by decide +kernel
theorem qd_K_reckonApart_45 : decode qb_K_reckonApart 45 = .ok (.iconst 1, 1) := by decide +kernel
theorem qd_K_reckonApart_46 : decode qb_K_reckonApart 46 = .ok (.iload_n 2, 1) := by decide +kernel
theorem qd_K_reckonApart_47 : decode qb_K_reckonApart 47 = .ok (.ishl, 1) := by decide +kernel
theorem qd_K_reckonApart_48 : decode qb_K_reckonApart 48 = .ok (.ior, 1) := by decide +kernel
theorem qd_K_reckonApart_49 : decode qb_K_reckonApart 49 = .ok (.iastore, 1) := by decide +kernel
theorem qd_K_reckonApart_50 : decode qb_K_reckonApart 50 = .ok (.iinc 2 (-1), 3) := by decide +kernel
theorem qd_K_reckonApart_53 : decode qb_K_reckonApart 53 = .ok (.goto (-28), 3) := by decide +kernel
theorem qd_K_reckonApart_56 : decode qb_K_reckonApart 56 = .ok (.iinc 1 (-1), 3) := by decide +kernel
theorem qd_K_reckonApart_59 : decode qb_K_reckonApart 59 = .ok (.goto (-52), 3) := by decide +kernel
theorem qd_K_reckonApart_62 : decode qb_K_reckonApart 62 = .ok (.return_, 1) := by decide +kernel
theorem qd_K_mustBeApart_0 : decode qb_K_mustBeApart 0 = .ok (.aload_n 0, 1) := by decide +kernel
theorem qd_K_mustBeApart_1 : decode qb_K_mustBeApart 1 = .ok (.iload_n 1, 1) := by decide +kernel
theorem qd_K_mustBeApart_2 : decode qb_K_mustBeApart 2 = .ok (.iload_n 2, 1) := by decide +kernel
theorem qd_K_mustBeApart_3 : decode qb_K_mustBeApart 3 = .ok (.invokevirtual 64, 3) := by decide +kernel
theorem qd_K_mustBeApart_6 : decode qb_K_mustBeApart 6 = .ok (.ifCond .ne 12, 3) := by decide +kernel
theorem qd_K_mustBeApart_9 : decode qb_K_mustBeApart 9 = .ok (.aload_n 0, 1) := by decide +kernel
theorem qd_K_mustBeApart_10 : decode qb_K_mustBeApart 10 = .ok (.iload_n 2, 1) := by decide +kernel
theorem qd_K_mustBeApart_11 : decode qb_K_mustBeApart 11 = .ok (.iload_n 1, 1) := by decide +kernel
theorem qd_K_mustBeApart_12 : decode qb_K_mustBeApart 12 = .ok (.invokevirtual 64, 3) := by decide +kernel
theorem qd_K_mustBeApart_15 : decode qb_K_mustBeApart 15 = .ok (.ifCond .eq 5, 3) := by decide +kernel
theorem qd_K_mustBeApart_18 : decode qb_K_mustBeApart 18 = .ok (.iconst 0, 1) := by decide +kernel
theorem qd_K_mustBeApart_19 : decode qb_K_mustBeApart 19 = .ok (.ireturn, 1) := by decide +kernel
theorem qd_K_mustBeApart_20 : decode qb_K_mustBeApart 20 = .ok (.aload_n 0, 1) := by decide +kernel
theorem qd_K_mustBeApart_21 : decode qb_K_mustBeApart 21 = .ok (.iload_n 1, 1) := by decide +kernel
theorem qd_K_mustBeApart_22 : decode qb_K_mustBeApart 22 = .ok (.invokevirtual 53, 3) := by decide +kernel
theorem qd_K_mustBeApart_25 : decode qb_K_mustBeApart 25 = .ok (.ifCond .ne 11, 3) := by decide +kernel
theorem qd_K_mustBeApart_28 : decode qb_K_mustBeApart 28 = .ok (.aload_n 0, 1) := by decide +kernel
theorem qd_K_mustBeApart_29 : decode qb_K_mustBeApart 29 = .ok (.iload_n 2, 1) := by decide +kernel
theorem qd_K_mustBeApart_30 : decode qb_K_mustBeApart 30 = .ok (.invokevirtual 53, 3) := by decide +kernel
theorem qd_K_mustBeApart_33 : decode qb_K_mustBeApart 33 = .ok (.ifCond .eq 21, 3) := by decide +kernel
theorem qd_K_mustBeApart_36 : decode qb_K_mustBeApart 36 = .ok (.aload_n 0, 1) := by decide +kernel
theorem qd_K_mustBeApart_37 : decode qb_K_mustBeApart 37 = .ok (.iload_n 1, 1) := by decide +kernel
theorem qd_K_mustBeApart_38 : decode qb_K_mustBeApart 38 = .ok (.invokevirtual 86, 3) := by decide +kernel
theorem qd_K_mustBeApart_41 : decode qb_K_mustBeApart 41 = .ok (.iconst 1, 1) := by decide +kernel
theorem qd_K_mustBeApart_42 : decode qb_K_mustBeApart 42 = .ok (.if_icmp .eq 12, 3) := by decide +kernel
theorem qd_K_mustBeApart_45 : decode qb_K_mustBeApart 45 = .ok (.aload_n 0, 1) := by decide +kernel
theorem qd_K_mustBeApart_46 : decode qb_K_mustBeApart 46 = .ok (.iload_n 2, 1) := by decide +kernel
theorem qd_K_mustBeApart_47 : decode qb_K_mustBeApart 47 = .ok (.invokevirtual 86, 3) := by decide +kernel
theorem qd_K_mustBeApart_50 : decode qb_K_mustBeApart 50 = .ok (.iconst 1, 1) := by decide +kernel
theorem qd_K_mustBeApart_51 : decode qb_K_mustBeApart 51 = .ok (.if_icmp .ne 5, 3) := by decide +kernel
theorem qd_K_mustBeApart_54 : decode qb_K_mustBeApart 54 = .ok (.iconst 1, 1) := by decide +kernel
theorem qd_K_mustBeApart_55 : decode qb_K_mustBeApart 55 = .ok (.ireturn, 1) := by decide +kernel
theorem qd_K_mustBeApart_56 : decode qb_K_mustBeApart 56 = .ok (.aload_n 0, 1) := by decide +kernel
theorem qd_K_mustBeApart_57 : decode qb_K_mustBeApart 57 = .ok (.iload_n 1, 1) := by decide +kernel
theorem qd_K_mustBeApart_58 : decode qb_K_mustBeApart 58 = .ok (.invokevirtual 90, 3) := by decide +kernel
theorem qd_K_mustBeApart_61 : decode qb_K_mustBeApart 61 = .ok (.ifCond .eq 12, 3) := by decide +kernel
theorem qd_K_mustBeApart_64 : decode qb_K_mustBeApart 64 = .ok (.aload_n 0, 1) := by decide +kernel
theorem qd_K_mustBeApart_65 : decode qb_K_mustBeApart 65 = .ok (.iload_n 1, 1) := by decide +kernel
theorem qd_K_mustBeApart_66 : decode qb_K_mustBeApart 66 = .ok (.iload_n 2, 1) := by decide +kernel
theorem qd_K_mustBeApart_67 : decode qb_K_mustBeApart 67 = .ok (.invokevirtual 93, 3) := by decide +kernel
theorem qd_K_mustBeApart_70 : decode qb_K_mustBeApart 70 = .ok (.ifCond .ne 20, 3) := by decide +kernel
theorem qd_K_mustBeApart_73 : decode qb_K_mustBeApart 73 = .ok (.aload_n 0, 1) := by decide +kernel
theorem qd_K_mustBeApart_74 : decode qb_K_mustBeApart 74 = .ok (.iload_n 2, 1) := by decide +kernel
theorem qd_K_mustBeApart_75 : decode qb_K_mustBeApart 75 = .ok (.invokevirtual 90, 3) := by decide +kernel
theorem qd_K_mustBeApart_78 : decode qb_K_mustBeApart 78 = .ok (.ifCond .eq 16, 3) := by decide +kernel
theorem qd_K_mustBeApart_81 : decode qb_K_mustBeApart 81 = .ok (.aload_n 0, 1) := by decide +kernel
theorem qd_K_mustBeApart_82 : decode qb_K_mustBeApart 82 = .ok (.iload_n 1, 1) := by decide +kernel
theorem qd_K_mustBeApart_83 : decode qb_K_mustBeApart 83 = .ok (.iload_n 2, 1) := by decide +kernel
theorem qd_K_mustBeApart_84 : decode qb_K_mustBeApart 84 = .ok (.invokevirtual 96, 3) := by decide +kernel
theorem qd_K_mustBeApart_87 : decode qb_K_mustBeApart 87 = .ok (.ifCond .eq 7, 3) := by decide +kernel
theorem qd_K_mustBeApart_90 : decode qb_K_mustBeApart 90 = .ok (.iconst 1, 1) := by decide +kernel
theorem qd_K_mustBeApart_91 : decode qb_K_mustBeApart 91 = .ok (.goto 4, 3) := by decide +kernel
theorem qd_K_mustBeApart_94 : decode qb_K_mustBeApart 94 = .ok (.iconst 0, 1) := by decide +kernel
theorem qd_K_mustBeApart_95 : decode qb_K_mustBeApart 95 = .ok (.ireturn, 1) := by decide +kernel
theorem qd_K_isUnder_0 : decode qb_K_isUnder 0 = .ok (.iload_n 1, 1) := by decide +kernel
theorem qd_K_isUnder_1 : decode qb_K_isUnder 1 = .ok (.ifCond .lt 41, 3) := by decide +kernel
theorem qd_K_isUnder_4 : decode qb_K_isUnder 4 = .ok (.iload_n 1, 1) := by decide +kernel
theorem qd_K_isUnder_5 : decode qb_K_isUnder 5 = .ok (.aload_n 0, 1) := by decide +kernel
theorem qd_K_isUnder_6 : decode qb_K_isUnder 6 = .ok (.getfield 42, 3) := by decide +kernel
theorem qd_K_isUnder_9 : decode qb_K_isUnder 9 = .ok (.if_icmp .ge 33, 3) := by decide +kernel
theorem qd_K_isUnder_12 : decode qb_K_isUnder 12 = .ok (.iload_n 2, 1) := by decide +kernel
theorem qd_K_isUnder_13 : decode qb_K_isUnder 13 = .ok (.ifCond .lt 29, 3) := by decide +kernel
theorem qd_K_isUnder_16 : decode qb_K_isUnder 16 = .ok (.iload_n 2, 1) := by decide +kernel
theorem qd_K_isUnder_17 : decode qb_K_isUnder 17 = .ok (.aload_n 0, 1) := by decide +kernel
theorem qd_K_isUnder_18 : decode qb_K_isUnder 18 = .ok (.getfield 42, 3) := by decide +kernel
theorem qd_K_isUnder_21 : decode qb_K_isUnder 21 = .ok (.if_icmp .ge 21, 3) := by decide +kernel
theorem qd_K_isUnder_24 : decode qb_K_isUnder 24 = .ok (.aload_n 0, 1) := by decide +kernel
theorem qd_K_isUnder_25 : decode qb_K_isUnder 25 = .ok (.getfield 33, 3) := by decide +kernel
theorem qd_K_isUnder_28 : decode qb_K_isUnder 28 = .ok (.iload_n 1, 1) := by decide +kernel
theorem qd_K_isUnder_29 : decode qb_K_isUnder 29 = .ok (.iaload, 1) := by decide +kernel
theorem qd_K_isUnder_30 : decode qb_K_isUnder 30 = .ok (.iload_n 2, 1) := by decide +kernel
theorem qd_K_isUnder_31 : decode qb_K_isUnder 31 = .ok (.ishr, 1) := by decide +kernel
theorem qd_K_isUnder_32 : decode qb_K_isUnder 32 = .ok (.iconst 1, 1) := by decide +kernel
theorem qd_K_isUnder_33 : decode qb_K_isUnder 33 = .ok (.iand, 1) := by decide +kernel
theorem qd_K_isUnder_34 : decode qb_K_isUnder 34 = .ok (.iconst 1, 1) := by decide +kernel
theorem qd_K_isUnder_35 : decode qb_K_isUnder 35 = .ok (.if_icmp .ne 7, 3) := by decide +kernel
theorem qd_K_isUnder_38 : decode qb_K_isUnder 38 = .ok (.iconst 1, 1) := by decide +kernel
theorem qd_K_isUnder_39 : decode qb_K_isUnder 39 = .ok (.goto 4, 3) := by decide +kernel
theorem qd_K_isUnder_42 : decode qb_K_isUnder 42 = .ok (.iconst 0, 1) := by decide +kernel
theorem qd_K_isUnder_43 : decode qb_K_isUnder 43 = .ok (.ireturn, 1) := by decide +kernel
theorem qd_K_isFace_0 : decode qb_K_isFace 0 = .ok (.iload_n 1, 1) := by decide +kernel
theorem qd_K_isFace_1 : decode qb_K_isFace 1 = .ok (.ifCond .lt 25, 3) := by decide +kernel
theorem qd_K_isFace_4 : decode qb_K_isFace 4 = .ok (.iload_n 1, 1) := by decide +kernel
theorem qd_K_isFace_5 : decode qb_K_isFace 5 = .ok (.aload_n 0, 1) := by decide +kernel
theorem qd_K_isFace_6 : decode qb_K_isFace 6 = .ok (.getfield 42, 3) := by decide +kernel
theorem qd_K_isFace_9 : decode qb_K_isFace 9 = .ok (.if_icmp .ge 17, 3) := by decide +kernel
theorem qd_K_isFace_12 : decode qb_K_isFace 12 = .ok (.aload_n 0, 1) := by decide +kernel
theorem qd_K_isFace_13 : decode qb_K_isFace 13 = .ok (.getfield 11, 3) := by decide +kernel
theorem qd_K_isFace_16 : decode qb_K_isFace 16 = .ok (.iload_n 1, 1) := by decide +kernel
theorem qd_K_isFace_17 : decode qb_K_isFace 17 = .ok (.iaload, 1) := by decide +kernel
theorem qd_K_isFace_18 : decode qb_K_isFace 18 = .ok (.iconst 3, 1) := by decide +kernel
theorem qd_K_isFace_19 : decode qb_K_isFace 19 = .ok (.if_icmp .lt 7, 3) := by decide +kernel
theorem qd_K_isFace_22 : decode qb_K_isFace 22 = .ok (.iconst 1, 1) := by decide +kernel
theorem qd_K_isFace_23 : decode qb_K_isFace 23 = .ok (.goto 4, 3) := by decide +kernel
theorem qd_K_isFace_26 : decode qb_K_isFace 26 = .ok (.iconst 0, 1) := by decide +kernel
theorem qd_K_isFace_27 : decode qb_K_isFace 27 = .ok (.ireturn, 1) := by decide +kernel
theorem qd_K_kindOf_0 : decode qb_K_kindOf 0 = .ok (.iload_n 1, 1) := by decide +kernel
theorem qd_K_kindOf_1 : decode qb_K_kindOf 1 = .ok (.ifCond .lt 20, 3) := by decide +kernel
theorem qd_K_kindOf_4 : decode qb_K_kindOf 4 = .ok (.iload_n 1, 1) := by decide +kernel
theorem qd_K_kindOf_5 : decode qb_K_kindOf 5 = .ok (.aload_n 0, 1) := by decide +kernel
theorem qd_K_kindOf_6 : decode qb_K_kindOf 6 = .ok (.getfield 42, 3) := by decide +kernel
theorem qd_K_kindOf_9 : decode qb_K_kindOf 9 = .ok (.if_icmp .ge 12, 3) := by decide +kernel
theorem qd_K_kindOf_12 : decode qb_K_kindOf 12 = .ok (.aload_n 0, 1) := by decide +kernel
theorem qd_K_kindOf_13 : decode qb_K_kindOf 13 = .ok (.getfield 11, 3) := by decide +kernel
theorem qd_K_kindOf_16 : decode qb_K_kindOf 16 = .ok (.iload_n 1, 1) := by decide +kernel
theorem qd_K_kindOf_17 : decode qb_K_kindOf 17 = .ok (.iaload, 1) := by decide +kernel
theorem qd_K_kindOf_18 : decode qb_K_kindOf 18 = .ok (.goto 4, 3) := by decide +kernel
theorem qd_K_kindOf_21 : decode qb_K_kindOf 21 = .ok (.iconst (-1), 1) := by decide +kernel
theorem qd_K_kindOf_22 : decode qb_K_kindOf 22 = .ok (.ireturn, 1) := by decide +kernel
theorem qd_K_isSealed_0 : decode qb_K_isSealed 0 = .ok (.aload_n 0, 1) := by decide +kernel
theorem qd_K_isSealed_1 : decode qb_K_isSealed 1 = .ok (.iload_n 1, 1) := by decide +kernel
theorem qd_K_isSealed_2 : decode qb_K_isSealed 2 = .ok (.invokevirtual 86, 3) := by decide +kernel
theorem qd_K_isSealed_5 : decode qb_K_isSealed 5 = .ok (.istore_n 2, 1) := by decide +kernel
theorem qd_K_isSealed_6 : decode qb_K_isSealed 6 = .ok (.iload_n 2, 1) := by decide +kernel
theorem qd_K_isSealed_7 : decode qb_K_isSealed 7 = .ok (.iconst 2, 1) := by decide +kernel
theorem qd_K_isSealed_8 : decode qb_K_isSealed 8 = .ok (.if_icmp .eq 8, 3) := by decide +kernel
theorem qd_K_isSealed_11 : decode qb_K_isSealed 11 = .ok (.iload_n 2, 1) := by decide +kernel
theorem qd_K_isSealed_12 : decode qb_K_isSealed 12 = .ok (.iconst 4, 1) := by decide +kernel
theorem qd_K_isSealed_13 : decode qb_K_isSealed 13 = .ok (.if_icmp .ne 7, 3) := by decide +kernel
theorem qd_K_isSealed_16 : decode qb_K_isSealed 16 = .ok (.iconst 1, 1) := by decide +kernel
theorem qd_K_isSealed_17 : decode qb_K_isSealed 17 = .ok (.goto 4, 3) := by decide +kernel
theorem qd_K_isSealed_20 : decode qb_K_isSealed 20 = .ok (.iconst 0, 1) := by decide +kernel
theorem qd_K_isSealed_21 : decode qb_K_isSealed 21 = .ok (.ireturn, 1) := by decide +kernel
theorem qd_K_heirsApartFrom_0 : decode qb_K_heirsApartFrom 0 = .ok (.iconst 0, 1) := by decide +kernel
theorem qd_K_heirsApartFrom_1 : decode qb_K_heirsApartFrom 1 = .ok (.istore_n 3, 1) := by decide +kernel
theorem qd_K_heirsApartFrom_2 : decode qb_K_heirsApartFrom 2 = .ok (.iload_n 3, 1) := by decide +kernel
theorem qd_K_heirsApartFrom_3 : decode qb_K_heirsApartFrom 3 = .ok (.aload_n 0, 1) := by decide +kernel
theorem qd_K_heirsApartFrom_4 : decode qb_K_heirsApartFrom 4 = .ok (.getfield 42, 3) := by decide +kernel
theorem qd_K_heirsApartFrom_7 : decode qb_K_heirsApartFrom 7 = .ok (.if_icmp .ge 29, 3) := by decide +kernel
theorem qd_K_heirsApartFrom_10 : decode qb_K_heirsApartFrom 10 = .ok (.aload_n 0, 1) := by decide +kernel
theorem qd_K_heirsApartFrom_11 : decode qb_K_heirsApartFrom 11 = .ok (.iload_n 3, 1) := by decide +kernel
theorem qd_K_heirsApartFrom_12 : decode qb_K_heirsApartFrom 12 = .ok (.iload_n 1, 1) := by decide +kernel
theorem qd_K_heirsApartFrom_13 : decode qb_K_heirsApartFrom 13 = .ok (.invokevirtual 68, 3) := by decide +kernel
theorem qd_K_heirsApartFrom_16 : decode qb_K_heirsApartFrom 16 = .ok (.ifCond .eq 14, 3) := by decide +kernel
theorem qd_K_heirsApartFrom_19 : decode qb_K_heirsApartFrom 19 = .ok (.aload_n 0, 1) := by decide +kernel
theorem qd_K_heirsApartFrom_20 : decode qb_K_heirsApartFrom 20 = .ok (.iload_n 3, 1) := by decide +kernel
theorem qd_K_heirsApartFrom_21 : decode qb_K_heirsApartFrom 21 = .ok (.iload_n 2, 1) := by decide +kernel
theorem qd_K_heirsApartFrom_22 : decode qb_K_heirsApartFrom 22 = .ok (.invokevirtual 99, 3) := by decide +kernel
theorem qd_K_heirsApartFrom_25 : decode qb_K_heirsApartFrom 25 = .ok (.ifCond .ne 5, 3) := by decide +kernel
theorem qd_K_heirsApartFrom_28 : decode qb_K_heirsApartFrom 28 = .ok (.iconst 0, 1) := by decide +kernel
theorem qd_K_heirsApartFrom_29 : decode qb_K_heirsApartFrom 29 = .ok (.ireturn, 1) := by decide +kernel
theorem qd_K_heirsApartFrom_30 : decode qb_K_heirsApartFrom 30 = .ok (.iinc 3 1, 3) := by decide +kernel
theorem qd_K_heirsApartFrom_33 : decode qb_K_heirsApartFrom 33 = .ok (.goto (-31), 3) := by decide +kernel
theorem qd_K_heirsApartFrom_36 : decode qb_K_heirsApartFrom 36 = .ok (.iconst 1, 1) := by decide +kernel
theorem qd_K_heirsApartFrom_37 : decode qb_K_heirsApartFrom 37 = .ok (.ireturn, 1) := by decide +kernel
theorem qd_K_isHeir_0 : decode qb_K_isHeir 0 = .ok (.iload_n 1, 1) := by decide +kernel
theorem qd_K_isHeir_1 : decode qb_K_isHeir 1 = .ok (.ifCond .lt 41, 3) := by decide +kernel
theorem qd_K_isHeir_4 : decode qb_K_isHeir 4 = .ok (.iload_n 1, 1) := by decide +kernel
theorem qd_K_isHeir_5 : decode qb_K_isHeir 5 = .ok (.aload_n 0, 1) := by decide +kernel
theorem qd_K_isHeir_6 : decode qb_K_isHeir 6 = .ok (.getfield 42, 3) := by decide +kernel
theorem qd_K_isHeir_9 : decode qb_K_isHeir 9 = .ok (.if_icmp .ge 33, 3) := by decide +kernel
theorem qd_K_isHeir_12 : decode qb_K_isHeir 12 = .ok (.iload_n 2, 1) := by decide +kernel
theorem qd_K_isHeir_13 : decode qb_K_isHeir 13 = .ok (.ifCond .lt 29, 3) := by decide +kernel
theorem qd_K_isHeir_16 : decode qb_K_isHeir 16 = .ok (.iload_n 2, 1) := by decide +kernel
theorem qd_K_isHeir_17 : decode qb_K_isHeir 17 = .ok (.aload_n 0, 1) := by decide +kernel
theorem qd_K_isHeir_18 : decode qb_K_isHeir 18 = .ok (.getfield 42, 3) := by decide +kernel
theorem qd_K_isHeir_21 : decode qb_K_isHeir 21 = .ok (.if_icmp .ge 21, 3) := by decide +kernel
theorem qd_K_isHeir_24 : decode qb_K_isHeir 24 = .ok (.aload_n 0, 1) := by decide +kernel
theorem qd_K_isHeir_25 : decode qb_K_isHeir 25 = .ok (.getfield 30, 3) := by decide +kernel
theorem qd_K_isHeir_28 : decode qb_K_isHeir 28 = .ok (.iload_n 1, 1) := by decide +kernel
theorem qd_K_isHeir_29 : decode qb_K_isHeir 29 = .ok (.iaload, 1) := by decide +kernel
theorem qd_K_isHeir_30 : decode qb_K_isHeir 30 = .ok (.iload_n 2, 1) := by decide +kernel
theorem qd_K_isHeir_31 : decode qb_K_isHeir 31 = .ok (.ishr, 1) := by decide +kernel
theorem qd_K_isHeir_32 : decode qb_K_isHeir 32 = .ok (.iconst 1, 1) := by decide +kernel
theorem qd_K_isHeir_33 : decode qb_K_isHeir 33 = .ok (.iand, 1) := by decide +kernel
theorem qd_K_isHeir_34 : decode qb_K_isHeir 34 = .ok (.iconst 1, 1) := by decide +kernel
theorem qd_K_isHeir_35 : decode qb_K_isHeir 35 = .ok (.if_icmp .ne 7, 3) := by decide +kernel
theorem qd_K_isHeir_38 : decode qb_K_isHeir 38 = .ok (.iconst 1, 1) := by decide +kernel
theorem qd_K_isHeir_39 : decode qb_K_isHeir 39 = .ok (.goto 4, 3) := by decide +kernel
theorem qd_K_isHeir_42 : decode qb_K_isHeir 42 = .ok (.iconst 0, 1) := by decide +kernel
theorem qd_K_isHeir_43 : decode qb_K_isHeir 43 = .ok (.ireturn, 1) := by decide +kernel
theorem qd_K_areApart_0 : decode qb_K_areApart 0 = .ok (.iload_n 1, 1) := by decide +kernel
theorem qd_K_areApart_1 : decode qb_K_areApart 1 = .ok (.ifCond .lt 41, 3) := by decide +kernel
theorem qd_K_areApart_4 : decode qb_K_areApart 4 = .ok (.iload_n 1, 1) := by decide +kernel
theorem qd_K_areApart_5 : decode qb_K_areApart 5 = .ok (.aload_n 0, 1) := by decide +kernel
theorem qd_K_areApart_6 : decode qb_K_areApart 6 = .ok (.getfield 42, 3) := by decide +kernel
theorem qd_K_areApart_9 : decode qb_K_areApart 9 = .ok (.if_icmp .ge 33, 3) := by decide +kernel
theorem qd_K_areApart_12 : decode qb_K_areApart 12 = .ok (.iload_n 2, 1) := by decide +kernel
theorem qd_K_areApart_13 : decode qb_K_areApart 13 = .ok (.ifCond .lt 29, 3) := by decide +kernel
theorem qd_K_areApart_16 : decode qb_K_areApart 16 = .ok (.iload_n 2, 1) := by decide +kernel
theorem qd_K_areApart_17 : decode qb_K_areApart 17 = .ok (.aload_n 0, 1) := by decide +kernel
theorem qd_K_areApart_18 : decode qb_K_areApart 18 = .ok (.getfield 42, 3) := by decide +kernel
theorem qd_K_areApart_21 : decode qb_K_areApart 21 = .ok (.if_icmp .ge 21, 3) := by decide +kernel
theorem qd_K_areApart_24 : decode qb_K_areApart 24 = .ok (.aload_n 0, 1) := by decide +kernel
theorem qd_K_areApart_25 : decode qb_K_areApart 25 = .ok (.getfield 36, 3) := by decide +kernel
theorem qd_K_areApart_28 : decode qb_K_areApart 28 = .ok (.iload_n 1, 1) := by decide +kernel
theorem qd_K_areApart_29 : decode qb_K_areApart 29 = .ok (.iaload, 1) := by decide +kernel
theorem qd_K_areApart_30 : decode qb_K_areApart 30 = .ok (.iload_n 2, 1) := by decide +kernel
theorem qd_K_areApart_31 : decode qb_K_areApart 31 = .ok (.ishr, 1) := by decide +kernel
theorem qd_K_areApart_32 : decode qb_K_areApart 32 = .ok (.iconst 1, 1) := by decide +kernel
theorem qd_K_areApart_33 : decode qb_K_areApart 33 = .ok (.iand, 1) := by decide +kernel
theorem qd_K_areApart_34 : decode qb_K_areApart 34 = .ok (.iconst 1, 1) := by decide +kernel
theorem qd_K_areApart_35 : decode qb_K_areApart 35 = .ok (.if_icmp .ne 7, 3) := by decide +kernel
theorem qd_K_areApart_38 : decode qb_K_areApart 38 = .ok (.iconst 1, 1) := by decide +kernel
theorem qd_K_areApart_39 : decode qb_K_areApart 39 = .ok (.goto 4, 3) := by decide +kernel
theorem qd_K_areApart_42 : decode qb_K_areApart 42 = .ok (.iconst 0, 1) := by decide +kernel
theorem qd_K_areApart_43 : decode qb_K_areApart 43 = .ok (.ireturn, 1) := by decide +kernel
theorem qd_K_apartFromHeirs_0 : decode qb_K_apartFromHeirs 0 = .ok (.iconst 0, 1) := by decide +kernel
theorem qd_K_apartFromHeirs_1 : decode qb_K_apartFromHeirs 1 = .ok (.istore_n 3, 1) := by decide +kernel
theorem qd_K_apartFromHeirs_2 : decode qb_K_apartFromHeirs 2 = .ok (.iload_n 3, 1) := by decide +kernel
theorem qd_K_apartFromHeirs_3 : decode qb_K_apartFromHeirs 3 = .ok (.aload_n 0, 1) := by decide +kernel
theorem qd_K_apartFromHeirs_4 : decode qb_K_apartFromHeirs 4 = .ok (.getfield 42, 3) := by decide +kernel
theorem qd_K_apartFromHeirs_7 : decode qb_K_apartFromHeirs 7 = .ok (.if_icmp .ge 29, 3) := by decide +kernel
theorem qd_K_apartFromHeirs_10 : decode qb_K_apartFromHeirs 10 = .ok (.aload_n 0, 1) := by decide +kernel
theorem qd_K_apartFromHeirs_11 : decode qb_K_apartFromHeirs 11 = .ok (.iload_n 3, 1) := by decide +kernel
theorem qd_K_apartFromHeirs_12 : decode qb_K_apartFromHeirs 12 = .ok (.iload_n 2, 1) := by decide +kernel
theorem qd_K_apartFromHeirs_13 : decode qb_K_apartFromHeirs 13 = .ok (.invokevirtual 68, 3) := by decide +kernel
theorem qd_K_apartFromHeirs_16 : decode qb_K_apartFromHeirs 16 = .ok (.ifCond .eq 14, 3) := by decide +kernel
theorem qd_K_apartFromHeirs_19 : decode qb_K_apartFromHeirs 19 = .ok (.aload_n 0, 1) := by decide +kernel
theorem qd_K_apartFromHeirs_20 : decode qb_K_apartFromHeirs 20 = .ok (.iload_n 1, 1) := by decide +kernel
theorem qd_K_apartFromHeirs_21 : decode qb_K_apartFromHeirs 21 = .ok (.iload_n 3, 1) := by decide +kernel
theorem qd_K_apartFromHeirs_22 : decode qb_K_apartFromHeirs 22 = .ok (.invokevirtual 99, 3) := by decide +kernel
theorem qd_K_apartFromHeirs_25 : decode qb_K_apartFromHeirs 25 = .ok (.ifCond .ne 5, 3) := by decide +kernel
theorem qd_K_apartFromHeirs_28 : decode qb_K_apartFromHeirs 28 = .ok (.iconst 0, 1) := by decide +kernel
theorem qd_K_apartFromHeirs_29 : decode qb_K_apartFromHeirs 29 = .ok (.ireturn, 1) := by decide +kernel
theorem qd_K_apartFromHeirs_30 : decode qb_K_apartFromHeirs 30 = .ok (.iinc 3 1, 3) := by decide +kernel
theorem qd_K_apartFromHeirs_33 : decode qb_K_apartFromHeirs 33 = .ok (.goto (-31), 3) := by decide +kernel
theorem qd_K_apartFromHeirs_36 : decode qb_K_apartFromHeirs 36 = .ok (.iconst 1, 1) := by decide +kernel
theorem qd_K_apartFromHeirs_37 : decode qb_K_apartFromHeirs 37 = .ok (.ireturn, 1) := by decide +kernel
theorem qd_K_has_0 : decode qb_K_has 0 = .ok (.iload_n 1, 1) := by decide +kernel
theorem qd_K_has_1 : decode qb_K_has 1 = .ok (.ifCond .lt 15, 3) := by decide +kernel
theorem qd_K_has_4 : decode qb_K_has 4 = .ok (.iload_n 1, 1) := by decide +kernel
theorem qd_K_has_5 : decode qb_K_has 5 = .ok (.aload_n 0, 1) := by decide +kernel
theorem qd_K_has_6 : decode qb_K_has 6 = .ok (.getfield 42, 3) := by decide +kernel
theorem qd_K_has_9 : decode qb_K_has 9 = .ok (.if_icmp .ge 7, 3) := by decide +kernel
theorem qd_K_has_12 : decode qb_K_has 12 = .ok (.iconst 1, 1) := by decide +kernel
theorem qd_K_has_13 : decode qb_K_has 13 = .ok (.goto 4, 3) := by decide +kernel
theorem qd_K_has_16 : decode qb_K_has 16 = .ok (.iconst 0, 1) := by decide +kernel
theorem qd_K_has_17 : decode qb_K_has 17 = .ok (.ireturn, 1) := by decide +kernel
theorem qd_K_freeSlot_0 : decode qb_K_freeSlot 0 = .ok (.aload_n 0, 1) := by decide +kernel
theorem qd_K_freeSlot_1 : decode qb_K_freeSlot 1 = .ok (.iload_n 2, 1) := by decide +kernel
theorem qd_K_freeSlot_2 : decode qb_K_freeSlot 2 = .ok (.invokevirtual 53, 3) := by decide +kernel
theorem qd_K_freeSlot_5 : decode qb_K_freeSlot 5 = .ok (.ifCond .ne 18, 3) := by decide +kernel
theorem qd_K_freeSlot_8 : decode qb_K_freeSlot 8 = .ok (.aload_n 0, 1) := by decide +kernel
theorem qd_K_freeSlot_9 : decode qb_K_freeSlot 9 = .ok (.iload_n 1, 1) := by decide +kernel
theorem qd_K_freeSlot_10 : decode qb_K_freeSlot 10 = .ok (.iconst 0, 1) := by decide +kernel
theorem qd_K_freeSlot_11 : decode qb_K_freeSlot 11 = .ok (.invokevirtual 57, 3) := by decide +kernel
theorem qd_K_freeSlot_14 : decode qb_K_freeSlot 14 = .ok (.ifCond .ne 7, 3) := by decide +kernel
theorem qd_K_freeSlot_17 : decode qb_K_freeSlot 17 = .ok (.iconst 0, 1) := by decide +kernel
theorem qd_K_freeSlot_18 : decode qb_K_freeSlot 18 = .ok (.goto 4, 3) := by decide +kernel
theorem qd_K_freeSlot_21 : decode qb_K_freeSlot 21 = .ok (.iconst (-1), 1) := by decide +kernel
theorem qd_K_freeSlot_22 : decode qb_K_freeSlot 22 = .ok (.ireturn, 1) := by decide +kernel
theorem qd_K_freeSlot_23 : decode qb_K_freeSlot 23 = .ok (.iconst 1, 1) := by decide +kernel
theorem qd_K_freeSlot_24 : decode qb_K_freeSlot 24 = .ok (.istore_n 3, 1) := by decide +kernel
theorem qd_K_freeSlot_25 : decode qb_K_freeSlot 25 = .ok (.iload_n 3, 1) := by decide +kernel
theorem qd_K_freeSlot_26 : decode qb_K_freeSlot 26 = .ok (.iconst 3, 1) := by decide +kernel
theorem qd_K_freeSlot_27 : decode qb_K_freeSlot 27 = .ok (.if_icmp .ge 21, 3) := by decide +kernel
theorem qd_K_freeSlot_30 : decode qb_K_freeSlot 30 = .ok (.aload_n 0, 1) := by decide +kernel
theorem qd_K_freeSlot_31 : decode qb_K_freeSlot 31 = .ok (.iload_n 1, 1) := by decide +kernel
theorem qd_K_freeSlot_32 : decode qb_K_freeSlot 32 = .ok (.iload_n 3, 1) := by decide +kernel
theorem qd_K_freeSlot_33 : decode qb_K_freeSlot 33 = .ok (.invokevirtual 57, 3) := by decide +kernel
theorem qd_K_freeSlot_36 : decode qb_K_freeSlot 36 = .ok (.iconst (-1), 1) := by decide +kernel
theorem qd_K_freeSlot_37 : decode qb_K_freeSlot 37 = .ok (.if_icmp .ne 5, 3) := by decide +kernel
theorem qd_K_freeSlot_40 : decode qb_K_freeSlot 40 = .ok (.iload_n 3, 1) := by decide +kernel
theorem qd_K_freeSlot_41 : decode qb_K_freeSlot 41 = .ok (.ireturn, 1) := by decide +kernel
theorem qd_K_freeSlot_42 : decode qb_K_freeSlot 42 = .ok (.iinc 3 1, 3) := by decide +kernel
theorem qd_K_freeSlot_45 : decode qb_K_freeSlot 45 = .ok (.goto (-20), 3) := by decide +kernel
theorem qd_K_freeSlot_48 : decode qb_K_freeSlot 48 = .ok (.iconst (-1), 1) := by decide +kernel
theorem qd_K_freeSlot_49 : decode qb_K_freeSlot 49 = .ok (.ireturn, 1) := by decide +kernel
theorem qd_K_superType_0 : decode qb_K_superType 0 = .ok (.iload_n 1, 1) := by decide +kernel
theorem qd_K_superType_1 : decode qb_K_superType 1 = .ok (.ifCond .lt 24, 3) := by decide +kernel
theorem qd_K_superType_4 : decode qb_K_superType 4 = .ok (.iload_n 1, 1) := by decide +kernel
theorem qd_K_superType_5 : decode qb_K_superType 5 = .ok (.aload_n 0, 1) := by decide +kernel
theorem qd_K_superType_6 : decode qb_K_superType 6 = .ok (.getfield 42, 3) := by decide +kernel
theorem qd_K_superType_9 : decode qb_K_superType 9 = .ok (.if_icmp .ge 16, 3) := by decide +kernel
theorem qd_K_superType_12 : decode qb_K_superType 12 = .ok (.iload_n 2, 1) := by decide +kernel
theorem qd_K_superType_13 : decode qb_K_superType 13 = .ok (.ifCond .lt 12, 3) := by decide +kernel
theorem qd_K_superType_16 : decode qb_K_superType 16 = .ok (.iload_n 2, 1) := by decide +kernel
theorem qd_K_superType_17 : decode qb_K_superType 17 = .ok (.iconst 3, 1) := by decide +kernel
theorem qd_K_superType_18 : decode qb_K_superType 18 = .ok (.if_icmp .ge 7, 3) := by decide +kernel
theorem qd_K_superType_21 : decode qb_K_superType 21 = .ok (.iconst 1, 1) := by decide +kernel
theorem qd_K_superType_22 : decode qb_K_superType 22 = .ok (.goto 4, 3) := by decide +kernel
theorem qd_K_superType_25 : decode qb_K_superType 25 = .ok (.iconst 0, 1) := by decide +kernel
theorem qd_K_superType_26 : decode qb_K_superType 26 = .ok (.istore_n 3, 1) := by decide +kernel
theorem qd_K_superType_27 : decode qb_K_superType 27 = .ok (.iload_n 3, 1) := by decide +kernel
theorem qd_K_superType_28 : decode qb_K_superType 28 = .ok (.ifCond .eq 16, 3) := by decide +kernel
theorem qd_K_superType_31 : decode qb_K_superType 31 = .ok (.aload_n 0, 1) := by decide +kernel
theorem qd_K_superType_32 : decode qb_K_superType 32 = .ok (.getfield 18, 3) := by decide +kernel
theorem qd_K_superType_35 : decode qb_K_superType 35 = .ok (.iload_n 1, 1) := by decide +kernel
theorem qd_K_superType_36 : decode qb_K_superType 36 = .ok (.iconst 3, 1) := by decide +kernel
theorem qd_K_superType_37 : decode qb_K_superType 37 = .ok (.imul, 1) := by decide +kernel
theorem qd_K_superType_38 : decode qb_K_superType 38 = .ok (.iload_n 2, 1) := by decide +kernel
theorem qd_K_superType_39 : decode qb_K_superType 39 = .ok (.iadd, 1) := by decide +kernel
theorem qd_K_superType_40 : decode qb_K_superType 40 = .ok (.iaload, 1) := by decide +kernel
theorem qd_K_superType_41 : decode qb_K_superType 41 = .ok (.goto 4, 3) := by decide +kernel
theorem qd_K_superType_44 : decode qb_K_superType 44 = .ok (.iconst (-1), 1) := by decide +kernel
theorem qd_K_superType_45 : decode qb_K_superType 45 = .ok (.ireturn, 1) := by decide +kernel
theorem qd_K_setSuper_0 : decode qb_K_setSuper 0 = .ok (.iload_n 1, 1) := by decide +kernel
theorem qd_K_setSuper_1 : decode qb_K_setSuper 1 = .ok (.ifCond .lt 47, 3) := by decide +kernel
theorem qd_K_setSuper_4 : decode qb_K_setSuper 4 = .ok (.iload_n 1, 1) := by decide +kernel
theorem qd_K_setSuper_5 : decode qb_K_setSuper 5 = .ok (.aload_n 0, 1) := by decide +kernel
theorem qd_K_setSuper_6 : decode qb_K_setSuper 6 = .ok (.getfield 42, 3) := by decide +kernel
theorem qd_K_setSuper_9 : decode qb_K_setSuper 9 = .ok (.if_icmp .ge 39, 3) := by decide +kernel
theorem qd_K_setSuper_12 : decode qb_K_setSuper 12 = .ok (.iload_n 2, 1) := by decide +kernel
theorem qd_K_setSuper_13 : decode qb_K_setSuper 13 = .ok (.ifCond .lt 35, 3) := by decide +kernel
theorem qd_K_setSuper_16 : decode qb_K_setSuper 16 = .ok (.iload_n 2, 1) := by decide +kernel
theorem qd_K_setSuper_17 : decode qb_K_setSuper 17 = .ok (.iconst 3, 1) := by decide +kernel
theorem qd_K_setSuper_18 : decode qb_K_setSuper 18 = .ok (.if_icmp .ge 30, 3) := by decide +kernel
theorem qd_K_setSuper_21 : decode qb_K_setSuper 21 = .ok (.aload_n 0, 1) := by decide +kernel
theorem qd_K_setSuper_22 : decode qb_K_setSuper 22 = .ok (.getfield 18, 3) := by decide +kernel
theorem qd_K_setSuper_25 : decode qb_K_setSuper 25 = .ok (.iload_n 1, 1) := by decide +kernel
theorem qd_K_setSuper_26 : decode qb_K_setSuper 26 = .ok (.iconst 3, 1) := by decide +kernel
theorem qd_K_setSuper_27 : decode qb_K_setSuper 27 = .ok (.imul, 1) := by decide +kernel
theorem qd_K_setSuper_28 : decode qb_K_setSuper 28 = .ok (.iload_n 2, 1) := by decide +kernel
theorem qd_K_setSuper_29 : decode qb_K_setSuper 29 = .ok (.iadd, 1) := by decide +kernel
theorem qd_K_setSuper_30 : decode qb_K_setSuper 30 = .ok (.iload_n 3, 1) := by decide +kernel
theorem qd_K_setSuper_31 : decode qb_K_setSuper 31 = .ok (.iastore, 1) := by decide +kernel
theorem qd_K_setSuper_32 : decode qb_K_setSuper 32 = .ok (.aload_n 0, 1) := by decide +kernel
theorem qd_K_setSuper_33 : decode qb_K_setSuper 33 = .ok (.getfield 21, 3) := by decide +kernel
theorem qd_K_setSuper_36 : decode qb_K_setSuper 36 = .ok (.iload_n 1, 1) := by decide +kernel
theorem qd_K_setSuper_37 : decode qb_K_setSuper 37 = .ok (.iconst 3, 1) := by decide +kernel
theorem qd_K_setSuper_38 : decode qb_K_setSuper 38 = .ok (.imul, 1) := by decide +kernel
theorem qd_K_setSuper_39 : decode qb_K_setSuper 39 = .ok (.iload_n 2, 1) := by decide +kernel
theorem qd_K_setSuper_40 : decode qb_K_setSuper 40 = .ok (.iadd, 1) := by decide +kernel
theorem qd_K_setSuper_41 : decode qb_K_setSuper 41 = .ok (.iload 4, 2) := by decide +kernel
theorem qd_K_setSuper_43 : decode qb_K_setSuper 43 = .ok (.iastore, 1) := by decide +kernel
theorem qd_K_setSuper_44 : decode qb_K_setSuper 44 = .ok (.aload_n 0, 1) := by decide +kernel
theorem qd_K_setSuper_45 : decode qb_K_setSuper 45 = .ok (.invokevirtual 50, 3) := by decide +kernel
theorem qd_K_setSuper_48 : decode qb_K_setSuper 48 = .ok (.return_, 1) := by decide +kernel
theorem qd_K_slotTowards_0 : decode qb_K_slotTowards 0 = .ok (.iconst 0, 1) := by decide +kernel
theorem qd_K_slotTowards_1 : decode qb_K_slotTowards 1 = .ok (.istore_n 3, 1) := by decide +kernel
theorem qd_K_slotTowards_2 : decode qb_K_slotTowards 2 = .ok (.iload_n 3, 1) := by decide +kernel
theorem qd_K_slotTowards_3 : decode qb_K_slotTowards 3 = .ok (.iconst 3, 1) := by decide +kernel
theorem qd_K_slotTowards_4 : decode qb_K_slotTowards 4 = .ok (.if_icmp .ge 25, 3) := by decide +kernel
theorem qd_K_slotTowards_7 : decode qb_K_slotTowards 7 = .ok (.aload_n 0, 1) := by decide +kernel
theorem qd_K_slotTowards_8 : decode qb_K_slotTowards 8 = .ok (.aload_n 0, 1) := by decide +kernel
theorem qd_K_slotTowards_9 : decode qb_K_slotTowards 9 = .ok (.iload_n 1, 1) := by decide +kernel
theorem qd_K_slotTowards_10 : decode qb_K_slotTowards 10 = .ok (.iload_n 3, 1) := by decide +kernel
theorem qd_K_slotTowards_11 : decode qb_K_slotTowards 11 = .ok (.invokevirtual 61, 3) := by decide +kernel
theorem qd_K_slotTowards_14 : decode qb_K_slotTowards 14 = .ok (.iload_n 2, 1) := by decide +kernel
theorem qd_K_slotTowards_15 : decode qb_K_slotTowards 15 = .ok (.invokevirtual 64, 3) := by decide +kernel
theorem qd_K_slotTowards_18 : decode qb_K_slotTowards 18 = .ok (.ifCond .eq 5, 3) := by decide +kernel
theorem qd_K_slotTowards_21 : decode qb_K_slotTowards 21 = .ok (.iload_n 3, 1) := by decide +kernel
theorem qd_K_slotTowards_22 : decode qb_K_slotTowards 22 = .ok (.ireturn, 1) := by decide +kernel
theorem qd_K_slotTowards_23 : decode qb_K_slotTowards 23 = .ok (.iinc 3 1, 3) := by decide +kernel
theorem qd_K_slotTowards_26 : decode qb_K_slotTowards 26 = .ok (.goto (-24), 3) := by decide +kernel
theorem qd_K_slotTowards_29 : decode qb_K_slotTowards 29 = .ok (.iconst (-1), 1) := by decide +kernel
theorem qd_K_slotTowards_30 : decode qb_K_slotTowards 30 = .ok (.ireturn, 1) := by decide +kernel
theorem qd_K_nameSort_0 : decode qb_K_nameSort 0 = .ok (.iload_n 1, 1) := by decide +kernel
theorem qd_K_nameSort_1 : decode qb_K_nameSort 1 = .ok (.ifCond .lt 24, 3) := by decide +kernel
theorem qd_K_nameSort_4 : decode qb_K_nameSort 4 = .ok (.iload_n 1, 1) := by decide +kernel
theorem qd_K_nameSort_5 : decode qb_K_nameSort 5 = .ok (.aload_n 0, 1) := by decide +kernel
theorem qd_K_nameSort_6 : decode qb_K_nameSort 6 = .ok (.getfield 42, 3) := by decide +kernel
theorem qd_K_nameSort_9 : decode qb_K_nameSort 9 = .ok (.if_icmp .ge 16, 3) := by decide +kernel
theorem qd_K_nameSort_12 : decode qb_K_nameSort 12 = .ok (.aload_n 0, 1) := by decide +kernel
theorem qd_K_nameSort_13 : decode qb_K_nameSort 13 = .ok (.getfield 15, 3) := by decide +kernel
theorem qd_K_nameSort_16 : decode qb_K_nameSort 16 = .ok (.iload_n 1, 1) := by decide +kernel
theorem qd_K_nameSort_17 : decode qb_K_nameSort 17 = .ok (.iaload, 1) := by decide +kernel
theorem qd_K_nameSort_18 : decode qb_K_nameSort 18 = .ok (.ifCond .le 7, 3) := by decide +kernel
theorem qd_K_nameSort_21 : decode qb_K_nameSort 21 = .ok (.iconst 1, 1) := by decide +kernel
theorem qd_K_nameSort_22 : decode qb_K_nameSort 22 = .ok (.goto 4, 3) := by decide +kernel
theorem qd_K_nameSort_25 : decode qb_K_nameSort 25 = .ok (.iconst 0, 1) := by decide +kernel
theorem qd_K_nameSort_26 : decode qb_K_nameSort 26 = .ok (.ireturn, 1) := by decide +kernel
theorem qd_K_putInCount_0 : decode qb_K_putInCount 0 = .ok (.iconst 0, 1) := by decide +kernel
theorem qd_K_putInCount_1 : decode qb_K_putInCount 1 = .ok (.istore_n 2, 1) := by decide +kernel
theorem qd_K_putInCount_2 : decode qb_K_putInCount 2 = .ok (.iconst 0, 1) := by decide +kernel
theorem qd_K_putInCount_3 : decode qb_K_putInCount 3 = .ok (.istore_n 3, 1) := by decide +kernel
theorem qd_K_putInCount_4 : decode qb_K_putInCount 4 = .ok (.iload_n 3, 1) := by decide +kernel
theorem qd_K_putInCount_5 : decode qb_K_putInCount 5 = .ok (.iconst 3, 1) := by decide +kernel
theorem qd_K_putInCount_6 : decode qb_K_putInCount 6 = .ok (.if_icmp .ge 21, 3) := by decide +kernel
theorem qd_K_putInCount_9 : decode qb_K_putInCount 9 = .ok (.aload_n 0, 1) := by decide +kernel
theorem qd_K_putInCount_10 : decode qb_K_putInCount 10 = .ok (.iload_n 1, 1) := by decide +kernel
theorem qd_K_putInCount_11 : decode qb_K_putInCount 11 = .ok (.iload_n 3, 1) := by decide +kernel
theorem qd_K_putInCount_12 : decode qb_K_putInCount 12 = .ok (.invokevirtual 57, 3) := by decide +kernel
theorem qd_K_putInCount_15 : decode qb_K_putInCount 15 = .ok (.ifCond .le 6, 3) := by decide +kernel
theorem qd_K_putInCount_18 : decode qb_K_putInCount 18 = .ok (.iinc 2 1, 3) := by decide +kernel
theorem qd_K_putInCount_21 : decode qb_K_putInCount 21 = .ok (.iinc 3 1, 3) := by decide +kernel
theorem qd_K_putInCount_24 : decode qb_K_putInCount 24 = .ok (.goto (-20), 3) := by decide +kernel
theorem qd_K_putInCount_27 : decode qb_K_putInCount 27 = .ok (.iload_n 2, 1) := by decide +kernel
theorem qd_K_putInCount_28 : decode qb_K_putInCount 28 = .ok (.ireturn, 1) := by decide +kernel
theorem qd_K_hasParameter_0 : decode qb_K_hasParameter 0 = .ok (.iload_n 1, 1) := by decide +kernel
theorem qd_K_hasParameter_1 : decode qb_K_hasParameter 1 = .ok (.ifCond .lt 29, 3) := by decide +kernel
theorem qd_K_hasParameter_4 : decode qb_K_hasParameter 4 = .ok (.iload_n 1, 1) := by decide +kernel
theorem qd_K_hasParameter_5 : decode qb_K_hasParameter 5 = .ok (.aload_n 0, 1) := by decide +kernel
theorem qd_K_hasParameter_6 : decode qb_K_hasParameter 6 = .ok (.getfield 42, 3) := by decide +kernel
theorem qd_K_hasParameter_9 : decode qb_K_hasParameter 9 = .ok (.if_icmp .ge 21, 3) := by decide +kernel
theorem qd_K_hasParameter_12 : decode qb_K_hasParameter 12 = .ok (.iload_n 2, 1) := by decide +kernel
theorem qd_K_hasParameter_13 : decode qb_K_hasParameter 13 = .ok (.ifCond .lt 17, 3) := by decide +kernel
theorem qd_K_hasParameter_16 : decode qb_K_hasParameter 16 = .ok (.iload_n 2, 1) := by decide +kernel
theorem qd_K_hasParameter_17 : decode qb_K_hasParameter 17 = .ok (.aload_n 0, 1) := by decide +kernel
theorem qd_K_hasParameter_18 : decode qb_K_hasParameter 18 = .ok (.getfield 15, 3) := by decide +kernel
theorem qd_K_hasParameter_21 : decode qb_K_hasParameter 21 = .ok (.iload_n 1, 1) := by decide +kernel
theorem qd_K_hasParameter_22 : decode qb_K_hasParameter 22 = .ok (.iaload, 1) := by decide +kernel
theorem qd_K_hasParameter_23 : decode qb_K_hasParameter 23 = .ok (.if_icmp .ge 7, 3) := by decide +kernel
theorem qd_K_hasParameter_26 : decode qb_K_hasParameter 26 = .ok (.iconst 1, 1) := by decide +kernel
theorem qd_K_hasParameter_27 : decode qb_K_hasParameter 27 = .ok (.goto 4, 3) := by decide +kernel
theorem qd_K_hasParameter_30 : decode qb_K_hasParameter 30 = .ok (.iconst 0, 1) := by decide +kernel
theorem qd_K_hasParameter_31 : decode qb_K_hasParameter 31 = .ok (.ireturn, 1) := by decide +kernel
theorem qd_K_boundCount_0 : decode qb_K_boundCount 0 = .ok (.iload_n 1, 1) := by decide +kernel
theorem qd_K_boundCount_1 : decode qb_K_boundCount 1 = .ok (.ifCond .lt 29, 3) := by decide +kernel
theorem qd_K_boundCount_4 : decode qb_K_boundCount 4 = .ok (.iload_n 1, 1) := by decide +kernel
theorem qd_K_boundCount_5 : decode qb_K_boundCount 5 = .ok (.aload_n 0, 1) := by decide +kernel
theorem qd_K_boundCount_6 : decode qb_K_boundCount 6 = .ok (.getfield 42, 3) := by decide +kernel
theorem qd_K_boundCount_9 : decode qb_K_boundCount 9 = .ok (.if_icmp .ge 21, 3) := by decide +kernel
theorem qd_K_boundCount_12 : decode qb_K_boundCount 12 = .ok (.iload_n 2, 1) := by decide +kernel
theorem qd_K_boundCount_13 : decode qb_K_boundCount 13 = .ok (.ifCond .lt 17, 3) := by decide +kernel
theorem qd_K_boundCount_16 : decode qb_K_boundCount 16 = .ok (.iload_n 2, 1) := by decide +kernel
theorem qd_K_boundCount_17 : decode qb_K_boundCount 17 = .ok (.aload_n 0, 1) := by decide +kernel
theorem qd_K_boundCount_18 : decode qb_K_boundCount 18 = .ok (.getfield 15, 3) := by decide +kernel
theorem qd_K_boundCount_21 : decode qb_K_boundCount 21 = .ok (.iload_n 1, 1) := by decide +kernel
theorem qd_K_boundCount_22 : decode qb_K_boundCount 22 = .ok (.iaload, 1) := by decide +kernel
theorem qd_K_boundCount_23 : decode qb_K_boundCount 23 = .ok (.if_icmp .ge 7, 3) := by decide +kernel
theorem qd_K_boundCount_26 : decode qb_K_boundCount 26 = .ok (.iconst 1, 1) := by decide +kernel
theorem qd_K_boundCount_27 : decode qb_K_boundCount 27 = .ok (.goto 4, 3) := by decide +kernel
theorem qd_K_boundCount_30 : decode qb_K_boundCount 30 = .ok (.iconst 0, 1) := by decide +kernel
theorem qd_K_boundCount_31 : decode qb_K_boundCount 31 = .ok (.istore_n 3, 1) := by decide +kernel
theorem qd_K_boundCount_32 : decode qb_K_boundCount 32 = .ok (.iload_n 3, 1) := by decide +kernel
theorem qd_K_boundCount_33 : decode qb_K_boundCount 33 = .ok (.ifCond .eq 16, 3) := by decide +kernel
theorem qd_K_boundCount_36 : decode qb_K_boundCount 36 = .ok (.aload_n 0, 1) := by decide +kernel
theorem qd_K_boundCount_37 : decode qb_K_boundCount 37 = .ok (.getfield 27, 3) := by decide +kernel
theorem qd_K_boundCount_40 : decode qb_K_boundCount 40 = .ok (.iload_n 1, 1) := by decide +kernel
theorem qd_K_boundCount_41 : decode qb_K_boundCount 41 = .ok (.iconst 2, 1) := by decide +kernel
theorem qd_K_boundCount_42 : decode qb_K_boundCount 42 = .ok (.imul, 1) := by decide +kernel
theorem qd_K_boundCount_43 : decode qb_K_boundCount 43 = .ok (.iload_n 2, 1) := by decide +kernel
theorem qd_K_boundCount_44 : decode qb_K_boundCount 44 = .ok (.iadd, 1) := by decide +kernel
theorem qd_K_boundCount_45 : decode qb_K_boundCount 45 = .ok (.iaload, 1) := by decide +kernel
theorem qd_K_boundCount_46 : decode qb_K_boundCount 46 = .ok (.goto 4, 3) := by decide +kernel
theorem qd_K_boundCount_49 : decode qb_K_boundCount 49 = .ok (.iconst 0, 1) := by decide +kernel
theorem qd_K_boundCount_50 : decode qb_K_boundCount 50 = .ok (.ireturn, 1) := by decide +kernel
theorem qd_K_addBound_0 : decode qb_K_addBound 0 = .ok (.aload_n 0, 1) := by decide +kernel
theorem qd_K_addBound_1 : decode qb_K_addBound 1 = .ok (.iload_n 1, 1) := by decide +kernel
theorem qd_K_addBound_2 : decode qb_K_addBound 2 = .ok (.iload_n 2, 1) := by decide +kernel
theorem qd_K_addBound_3 : decode qb_K_addBound 3 = .ok (.invokevirtual 71, 3) := by decide +kernel
theorem qd_K_addBound_6 : decode qb_K_addBound 6 = .ok (.istore 4, 2) := by decide +kernel
theorem qd_K_addBound_8 : decode qb_K_addBound 8 = .ok (.aload_n 0, 1) := by decide +kernel
theorem qd_K_addBound_9 : decode qb_K_addBound 9 = .ok (.iload_n 1, 1) := by decide +kernel
theorem qd_K_addBound_10 : decode qb_K_addBound 10 = .ok (.iload_n 2, 1) := by decide +kernel
theorem qd_K_addBound_11 : decode qb_K_addBound 11 = .ok (.invokevirtual 74, 3) := by decide +kernel
theorem qd_K_addBound_14 : decode qb_K_addBound 14 = .ok (.ifCond .eq 9, 3) := by decide +kernel
theorem qd_K_addBound_17 : decode qb_K_addBound 17 = .ok (.iload 4, 2) := by decide +kernel
theorem qd_K_addBound_19 : decode qb_K_addBound 19 = .ok (.iconst 2, 1) := by decide +kernel
theorem qd_K_addBound_20 : decode qb_K_addBound 20 = .ok (.if_icmp .lt 6, 3) := by decide +kernel
theorem qd_K_addBound_23 : decode qb_K_addBound 23 = .ok (.bipush (-3), 2) := by decide +kernel
theorem qd_K_addBound_25 : decode qb_K_addBound 25 = .ok (.ireturn, 1) := by decide +kernel
theorem qd_K_addBound_26 : decode qb_K_addBound 26 = .ok (.aload_n 0, 1) := by decide +kernel
theorem qd_K_addBound_27 : decode qb_K_addBound 27 = .ok (.getfield 24, 3) := by decide +kernel
theorem qd_K_addBound_30 : decode qb_K_addBound 30 = .ok (.iload_n 1, 1) := by decide +kernel
theorem qd_K_addBound_31 : decode qb_K_addBound 31 = .ok (.iconst 2, 1) := by decide +kernel
theorem qd_K_addBound_32 : decode qb_K_addBound 32 = .ok (.imul, 1) := by decide +kernel
theorem qd_K_addBound_33 : decode qb_K_addBound 33 = .ok (.iload_n 2, 1) := by decide +kernel
theorem qd_K_addBound_34 : decode qb_K_addBound 34 = .ok (.iadd, 1) := by decide +kernel
theorem qd_K_addBound_35 : decode qb_K_addBound 35 = .ok (.iconst 2, 1) := by decide +kernel
theorem qd_K_addBound_36 : decode qb_K_addBound 36 = .ok (.imul, 1) := by decide +kernel
theorem qd_K_addBound_37 : decode qb_K_addBound 37 = .ok (.iload 4, 2) := by decide +kernel
theorem qd_K_addBound_39 : decode qb_K_addBound 39 = .ok (.iadd, 1) := by decide +kernel
theorem qd_K_addBound_40 : decode qb_K_addBound 40 = .ok (.iload_n 3, 1) := by decide +kernel
theorem qd_K_addBound_41 : decode qb_K_addBound 41 = .ok (.iastore, 1) := by decide +kernel
theorem qd_K_addBound_42 : decode qb_K_addBound 42 = .ok (.aload_n 0, 1) := by decide +kernel
theorem qd_K_addBound_43 : decode qb_K_addBound 43 = .ok (.getfield 27, 3) := by decide +kernel
theorem qd_K_addBound_46 : decode qb_K_addBound 46 = .ok (.iload_n 1, 1) := by decide +kernel
theorem qd_K_addBound_47 : decode qb_K_addBound 47 = .ok (.iconst 2, 1) := by decide +kernel
theorem qd_K_addBound_48 : decode qb_K_addBound 48 = .ok (.imul, 1) := by decide +kernel
theorem qd_K_addBound_49 : decode qb_K_addBound 49 = .ok (.iload_n 2, 1) := by decide +kernel
theorem qd_K_addBound_50 : decode qb_K_addBound 50 = .ok (.iadd, 1) := by decide +kernel
theorem qd_K_addBound_51 : decode qb_K_addBound 51 = .ok (.iload 4, 2) := by decide +kernel
theorem qd_K_addBound_53 : decode qb_K_addBound 53 = .ok (.iconst 1, 1) := by decide +kernel
theorem qd_K_addBound_54 : decode qb_K_addBound 54 = .ok (.iadd, 1) := by decide +kernel
theorem qd_K_addBound_55 : decode qb_K_addBound 55 = .ok (.iastore, 1) := by decide +kernel
theorem qd_K_addBound_56 : decode qb_K_addBound 56 = .ok (.iload 4, 2) := by decide +kernel
theorem qd_K_addBound_58 : decode qb_K_addBound 58 = .ok (.iconst 1, 1) := by decide +kernel
theorem qd_K_addBound_59 : decode qb_K_addBound 59 = .ok (.iadd, 1) := by decide +kernel
theorem qd_K_addBound_60 : decode qb_K_addBound 60 = .ok (.ireturn, 1) := by decide +kernel
theorem qd_K_parametersOf_0 : decode qb_K_parametersOf 0 = .ok (.iload_n 1, 1) := by decide +kernel
theorem qd_K_parametersOf_1 : decode qb_K_parametersOf 1 = .ok (.ifCond .lt 20, 3) := by decide +kernel
theorem qd_K_parametersOf_4 : decode qb_K_parametersOf 4 = .ok (.iload_n 1, 1) := by decide +kernel
theorem qd_K_parametersOf_5 : decode qb_K_parametersOf 5 = .ok (.aload_n 0, 1) := by decide +kernel
theorem qd_K_parametersOf_6 : decode qb_K_parametersOf 6 = .ok (.getfield 42, 3) := by decide +kernel
theorem qd_K_parametersOf_9 : decode qb_K_parametersOf 9 = .ok (.if_icmp .ge 12, 3) := by decide +kernel
theorem qd_K_parametersOf_12 : decode qb_K_parametersOf 12 = .ok (.aload_n 0, 1) := by decide +kernel
theorem qd_K_parametersOf_13 : decode qb_K_parametersOf 13 = .ok (.getfield 15, 3) := by decide +kernel
theorem qd_K_parametersOf_16 : decode qb_K_parametersOf 16 = .ok (.iload_n 1, 1) := by decide +kernel
theorem qd_K_parametersOf_17 : decode qb_K_parametersOf 17 = .ok (.iaload, 1) := by decide +kernel
theorem qd_K_parametersOf_18 : decode qb_K_parametersOf 18 = .ok (.goto 4, 3) := by decide +kernel
theorem qd_K_parametersOf_21 : decode qb_K_parametersOf 21 = .ok (.iconst 0, 1) := by decide +kernel
theorem qd_K_parametersOf_22 : decode qb_K_parametersOf 22 = .ok (.ireturn, 1) := by decide +kernel
theorem qd_K_heirCount_0 : decode qb_K_heirCount 0 = .ok (.iconst 0, 1) := by decide +kernel
theorem qd_K_heirCount_1 : decode qb_K_heirCount 1 = .ok (.istore_n 2, 1) := by decide +kernel
theorem qd_K_heirCount_2 : decode qb_K_heirCount 2 = .ok (.iconst 0, 1) := by decide +kernel
theorem qd_K_heirCount_3 : decode qb_K_heirCount 3 = .ok (.istore_n 3, 1) := by decide +kernel
theorem qd_K_heirCount_4 : decode qb_K_heirCount 4 = .ok (.iload_n 3, 1) := by decide +kernel
theorem qd_K_heirCount_5 : decode qb_K_heirCount 5 = .ok (.aload_n 0, 1) := by decide +kernel
theorem qd_K_heirCount_6 : decode qb_K_heirCount 6 = .ok (.getfield 42, 3) := by decide +kernel
theorem qd_K_heirCount_9 : decode qb_K_heirCount 9 = .ok (.if_icmp .ge 21, 3) := by decide +kernel
theorem qd_K_heirCount_12 : decode qb_K_heirCount 12 = .ok (.aload_n 0, 1) := by decide +kernel
theorem qd_K_heirCount_13 : decode qb_K_heirCount 13 = .ok (.iload_n 3, 1) := by decide +kernel
theorem qd_K_heirCount_14 : decode qb_K_heirCount 14 = .ok (.iload_n 1, 1) := by decide +kernel
theorem qd_K_heirCount_15 : decode qb_K_heirCount 15 = .ok (.invokevirtual 68, 3) := by decide +kernel
theorem qd_K_heirCount_18 : decode qb_K_heirCount 18 = .ok (.ifCond .eq 6, 3) := by decide +kernel
theorem qd_K_heirCount_21 : decode qb_K_heirCount 21 = .ok (.iinc 2 1, 3) := by decide +kernel
theorem qd_K_heirCount_24 : decode qb_K_heirCount 24 = .ok (.iinc 3 1, 3) := by decide +kernel
theorem qd_K_heirCount_27 : decode qb_K_heirCount 27 = .ok (.goto (-23), 3) := by decide +kernel
theorem qd_K_heirCount_30 : decode qb_K_heirCount 30 = .ok (.iload_n 2, 1) := by decide +kernel
theorem qd_K_heirCount_31 : decode qb_K_heirCount 31 = .ok (.ireturn, 1) := by decide +kernel
theorem qd_K_underCount_0 : decode qb_K_underCount 0 = .ok (.iconst 0, 1) := by decide +kernel
theorem qd_K_underCount_1 : decode qb_K_underCount 1 = .ok (.istore_n 2, 1) := by decide +kernel
theorem qd_K_underCount_2 : decode qb_K_underCount 2 = .ok (.iconst 0, 1) := by decide +kernel
theorem qd_K_underCount_3 : decode qb_K_underCount 3 = .ok (.istore_n 3, 1) := by decide +kernel
theorem qd_K_underCount_4 : decode qb_K_underCount 4 = .ok (.iload_n 3, 1) := by decide +kernel
theorem qd_K_underCount_5 : decode qb_K_underCount 5 = .ok (.aload_n 0, 1) := by decide +kernel
theorem qd_K_underCount_6 : decode qb_K_underCount 6 = .ok (.getfield 42, 3) := by decide +kernel
theorem qd_K_underCount_9 : decode qb_K_underCount 9 = .ok (.if_icmp .ge 21, 3) := by decide +kernel
theorem qd_K_underCount_12 : decode qb_K_underCount 12 = .ok (.aload_n 0, 1) := by decide +kernel
theorem qd_K_underCount_13 : decode qb_K_underCount 13 = .ok (.iload_n 3, 1) := by decide +kernel
theorem qd_K_underCount_14 : decode qb_K_underCount 14 = .ok (.iload_n 1, 1) := by decide +kernel
theorem qd_K_underCount_15 : decode qb_K_underCount 15 = .ok (.invokevirtual 64, 3) := by decide +kernel
theorem qd_K_underCount_18 : decode qb_K_underCount 18 = .ok (.ifCond .eq 6, 3) := by decide +kernel
theorem qd_K_underCount_21 : decode qb_K_underCount 21 = .ok (.iinc 2 1, 3) := by decide +kernel
theorem qd_K_underCount_24 : decode qb_K_underCount 24 = .ok (.iinc 3 1, 3) := by decide +kernel
theorem qd_K_underCount_27 : decode qb_K_underCount 27 = .ok (.goto (-23), 3) := by decide +kernel
theorem qd_K_underCount_30 : decode qb_K_underCount 30 = .ok (.iload_n 2, 1) := by decide +kernel
theorem qd_K_underCount_31 : decode qb_K_underCount 31 = .ok (.ireturn, 1) := by decide +kernel
theorem qd_K_boundAt_0 : decode qb_K_boundAt 0 = .ok (.iload_n 3, 1) := by decide +kernel
theorem qd_K_boundAt_1 : decode qb_K_boundAt 1 = .ok (.ifCond .lt 13, 3) := by decide +kernel
theorem qd_K_boundAt_4 : decode qb_K_boundAt 4 = .ok (.iload_n 3, 1) := by decide +kernel
theorem qd_K_boundAt_5 : decode qb_K_boundAt 5 = .ok (.aload_n 0, 1) := by decide +kernel
theorem qd_K_boundAt_6 : decode qb_K_boundAt 6 = .ok (.iload_n 1, 1) := by decide +kernel
theorem qd_K_boundAt_7 : decode qb_K_boundAt 7 = .ok (.iload_n 2, 1) := by decide +kernel
theorem qd_K_boundAt_8 : decode qb_K_boundAt 8 = .ok (.invokevirtual 71, 3) := by decide +kernel
theorem qd_K_boundAt_11 : decode qb_K_boundAt 11 = .ok (.if_icmp .lt 5, 3) := by decide +kernel
theorem qd_K_boundAt_14 : decode qb_K_boundAt 14 = .ok (.iconst 0, 1) := by decide +kernel
theorem qd_K_boundAt_15 : decode qb_K_boundAt 15 = .ok (.ireturn, 1) := by decide +kernel
theorem qd_K_boundAt_16 : decode qb_K_boundAt 16 = .ok (.aload_n 0, 1) := by decide +kernel
theorem qd_K_boundAt_17 : decode qb_K_boundAt 17 = .ok (.getfield 24, 3) := by decide +kernel
theorem qd_K_boundAt_20 : decode qb_K_boundAt 20 = .ok (.iload_n 1, 1) := by decide +kernel
theorem qd_K_boundAt_21 : decode qb_K_boundAt 21 = .ok (.iconst 2, 1) := by decide +kernel
theorem qd_K_boundAt_22 : decode qb_K_boundAt 22 = .ok (.imul, 1) := by decide +kernel
theorem qd_K_boundAt_23 : decode qb_K_boundAt 23 = .ok (.iload_n 2, 1) := by decide +kernel
theorem qd_K_boundAt_24 : decode qb_K_boundAt 24 = .ok (.iadd, 1) := by decide +kernel
theorem qd_K_boundAt_25 : decode qb_K_boundAt 25 = .ok (.iconst 2, 1) := by decide +kernel
theorem qd_K_boundAt_26 : decode qb_K_boundAt 26 = .ok (.imul, 1) := by decide +kernel
theorem qd_K_boundAt_27 : decode qb_K_boundAt 27 = .ok (.iload_n 3, 1) := by decide +kernel
theorem qd_K_boundAt_28 : decode qb_K_boundAt 28 = .ok (.iadd, 1) := by decide +kernel
theorem qd_K_boundAt_29 : decode qb_K_boundAt 29 = .ok (.iaload, 1) := by decide +kernel
theorem qd_K_boundAt_30 : decode qb_K_boundAt 30 = .ok (.ireturn, 1) := by decide +kernel
end
section
def qwr (S : Nat → Nat → Int32) (k i : Nat) (v : Int32) : Nat → Nat → Int32 := fun a => if a = k then upd (S k) i v else S a
def qin (i : Int32) (n : Nat) : Bool := !(decide (i < 0)) && decide (i.toNatClampNeg < n)
theorem qin_ok {i : Int32} {n : Nat} (h : qin i n = true) : vp_in i n := by
  simp only [qin, Bool.and_eq_true, Bool.not_eq_true', decide_eq_false_iff_not, decide_eq_true_eq] at h
  exact fun q => q.elim h.1 (fun z => absurd h.2 (Nat.not_lt.mpr z))
def qck {α : Type} (b : Bool) (x : Option α) : Option α := if b = true then x else none
theorem qck_ok {α : Type} {b : Bool} {x : Option α} {y : α} (h : qck b x = some y) : b = true ∧ x = some y := by
  unfold qck at h
  by_cases hb : b = true
  · rw [if_pos hb] at h; exact ⟨hb, h⟩
  · rw [if_neg hb] at h; cases h
theorem qbd {α β : Type} {x : Option α} {f : α → Option β} {y : β} (h : x.bind f = some y) : ∃ q, x = some q ∧ f q = some y := by
  cases x with
  | none => cases h
  | some q => exact ⟨q, rfl, h⟩
def qB (b : Bool) : Int32 := if b = true then 1 else 0
def q01 (v : Int32) : Bool := decide (v = 0) || decide (v = 1)
theorem qB_nar (b : Bool) : narrow .boolean (.int (qB b)) = .int (qB b) := by cases b <;> decide +kernel
theorem q01_nar {v : Int32} (h : q01 v = true) : narrow .boolean (.int v) = .int v := by
  simp only [q01, Bool.or_eq_true, decide_eq_true_eq] at h
  rcases h with rfl | rfl <;> decide +kernel
theorem q01_B {v : Int32} (h : q01 v = true) : qB (decide (v = 1)) = v := by
  simp only [q01, Bool.or_eq_true, decide_eq_true_eq] at h
  rcases h with rfl | rfl <;> decide +kernel
theorem q_at {w1 w2 : va_W} (h : w1.map (fun q => q.1) = w2.map (fun q => q.1)) {k : Nat} {q : Nat × va_E} (hk : w2[k]? = some q) : ∃ q1, w1[k]? = some q1 ∧ q1.1 = q.1 := by
  have e := congrArg (fun l => l[k]?) h
  simp only [List.getElem?_map, hk, Option.map_some] at e
  cases h1 : w1[k]? with
  | none => rw [h1] at e; cases e
  | some q1 => rw [h1] at e; exact ⟨q1, rfl, Option.some.inj e⟩
theorem q_D {w1 w2 : va_W} {A : Nat → Prop} (h : w1.map (fun q => q.1) = w2.map (fun q => q.1)) (hD : va_D A w1) : va_D A w2 := by
  refine ⟨fun i j p q hi hj e => ?_, fun k q hk => ?_⟩
  · obtain ⟨p1, a1, b1⟩ := q_at h hi
    obtain ⟨q1, a2, b2⟩ := q_at h hj
    exact hD.1 i j p1 q1 a1 a2 (by rw [b1, b2, e])
  · obtain ⟨q1, a1, b1⟩ := q_at h hk
    rw [← b1]; exact hD.2 k q1 a1
theorem q_A {w1 w2 : va_W} {sz q : Nat} (h : w1.map (fun q => q.1) = w2.map (fun q => q.1)) (hA : va_A w1 sz q) : va_A w2 sz q := by
  rcases hA with ⟨k, e, hk⟩ | hz
  · obtain ⟨q1, a1, b1⟩ := q_at h.symm hk
    obtain ⟨x, y⟩ := q1
    cases b1
    exact Or.inl ⟨k, y, a1⟩
  · exact Or.inr hz
def qnests (l : List Cond) (U : State) : Prop := ∀ w ∈ l, va_Nw w U
end
section
/-- the cells of world x at the addresses ad, holding the state S -/
def xw (ad : Nat → Nat) (cI : ClassId) (S : Nat → Nat → Int32) : va_W := [(ad 0, .inr (5, [.ref (ad 1), .ref (ad 2), .ref (ad 3), .ref (ad 4), .ref (ad 5)])), (ad 1, .inr (0, [.int (S 0 0), .ref (ad 6), .ref (ad 7), .ref (ad 8), .ref (ad 9), .ref (ad 10), .ref (ad 11), .ref (ad 12), .ref (ad 13), .ref (ad 14)])), (ad 2, .inr (1, [.int (S 10 0), .int (S 11 0), .ref (ad 15), .ref (ad 16), .ref (ad 17), .ref (ad 18), .ref (ad 19), .ref (ad 20), .ref (ad 21), .ref (ad 22)])), (ad 3, .inr (2, [.ref (ad 1), .ref (ad 2)])), (ad 4, .inr (3, [.ref (ad 1), .ref (ad 2), .ref (ad 3)])), (ad 5, .inr (4, [.ref (ad 1), .ref (ad 2), .ref (ad 3), .ref (ad 4)])), (ad 6, .inl (cI, 12, .inl (S 1))), (ad 7, .inl (cI, 12, .inl (S 2))), (ad 8, .inl (cI, 36, .inl (S 3))), (ad 9, .inl (cI, 36, .inl (S 4))), (ad 10, .inl (cI, 48, .inl (S 5))), (ad 11, .inl (cI, 24, .inl (S 6))), (ad 12, .inl (cI, 12, .inl (S 7))), (ad 13, .inl (cI, 12, .inl (S 8))), (ad 14, .inl (cI, 12, .inl (S 9))), (ad 15, .inl (cI, 2048, .inl (S 12))), (ad 16, .inl (cI, 2048, .inl (S 13))), (ad 17, .inl (cI, 2048, .inl (S 14))), (ad 18, .inl (cI, 2048, .inl (S 15))), (ad 19, .inl (cI, 2048, .inl (S 16))), (ad 20, .inl (cI, 2048, .inl (S 17))), (ad 21, .inl (cI, 2048, .inl (S 18))), (ad 22, .inl (cI, 2048, .inl (S 19)))]
def xW (D : va_G) (ad : Nat → Nat) (cI : ClassId) (A : Nat → Prop) (H0 : Heap) (S : Nat → Nat → Int32) (H : Heap) (locs : List Loc) : Prop := va_P D qcl (xw ad cI S) H ∧ va_D A (xw ad cI S) ∧ va_S A H0 H locs
theorem x_map (ad : Nat → Nat) (cI : ClassId) (S S2 : Nat → Nat → Int32) : (xw ad cI S).map (fun q => q.1) = (xw ad cI S2).map (fun q => q.1) := rfl
theorem x_D {ad : Nat → Nat} {cI : ClassId} {S : Nat → Nat → Int32} (S2 : Nat → Nat → Int32) {A : Nat → Prop} (h : va_D A (xw ad cI S)) : va_D A (xw ad cI S2) := q_D (x_map ad cI S S2) h
theorem x_A {ad : Nat → Nat} {cI : ClassId} {S : Nat → Nat → Int32} (S2 : Nat → Nat → Int32) {sz q : Nat} (h : va_A (xw ad cI S) sz q) : va_A (xw ad cI S2) sz q := q_A (x_map ad cI S S2) h
theorem x_free {D : va_G} {ad : Nat → Nat} {cI : ClassId} {A : Nat → Prop} {H0 H : Heap} {locs : List Loc} {S : Nat → Nat → Int32} (w : xW D ad cI A H0 S H locs) (hA : ∀ q, H0.size ≤ q → A q) : ∀ q, va_A (xw ad cI S) H.size q → A q := va_free w.2.1 w.2.2 hA [0, 1, 2, 3, 4, 5, 6, 7, 8, 9, 10, 11, 12, 13, 14, 15, 16, 17, 18, 19, 20, 21, 22] rfl
section xRows
variable {p : Program} {l : Launch} {e : Env} {R : Room} {s : State} {m : MethodId} {args : Array Value} {below : List Frame} {meth : Method} {c : Code} {H : Heap} {locs : List Loc} {cells slots : Nat} {Q : State → Prop} {cc : ByteArray} {nL pc : Nat} {own : String} {ls : Array Slot} {rest : List Value} {D : va_G} {ad : Nat → Nat} {cI : ClassId} {A : Nat → Prop} {H0 : Heap} {S : Nat → Nat → Int32}
theorem xg_X_classes (F : CallFix p m c cc nL s args qtb own) (hK : va_K D qcl [(cI, .int)] s) (w : xW D ad cI A H0 S H locs) {index : Nat} (hl : Cond.fieldLink own index "CaptureSubtypes" "classes" "LCaptureSubtypes$Classes;" ∈ qtb) (hd : decode cc pc = .ok (.getfield index, 3)) (kk : W p l e R s m args below meth c H locs cells slots Q (F0 m (pc + 3) ls (.ref (ad 1) :: rest))) : W p l e R s m args below meth c H locs cells slots Q (F0 m pc ls (.ref (ad 0) :: rest)) := va_get (D := D) (ci := 5) (v := .ref (ad 1)) (C := qR_X) (T := qF_X) (N := 5) F.1 F.2.1 F.2.2.2.2 qi_X F.2.2.2.1 hK w.1 0 rfl rfl 0 (by decide) (F.2.2.2.2 _ hl) (fun _ h9 => h9) rfl hd kk
theorem xg_X_types (F : CallFix p m c cc nL s args qtb own) (hK : va_K D qcl [(cI, .int)] s) (w : xW D ad cI A H0 S H locs) {index : Nat} (hl : Cond.fieldLink own index "CaptureSubtypes" "types" "LCaptureSubtypes$Types;" ∈ qtb) (hd : decode cc pc = .ok (.getfield index, 3)) (kk : W p l e R s m args below meth c H locs cells slots Q (F0 m (pc + 3) ls (.ref (ad 2) :: rest))) : W p l e R s m args below meth c H locs cells slots Q (F0 m pc ls (.ref (ad 0) :: rest)) := va_get (D := D) (ci := 5) (v := .ref (ad 2)) (C := qR_X) (T := qF_X) (N := 5) F.1 F.2.1 F.2.2.2.2 qi_X F.2.2.2.1 hK w.1 0 rfl rfl 1 (by decide) (F.2.2.2.2 _ hl) (fun _ h9 => h9) rfl hd kk
theorem xg_X_shapes (F : CallFix p m c cc nL s args qtb own) (hK : va_K D qcl [(cI, .int)] s) (w : xW D ad cI A H0 S H locs) {index : Nat} (hl : Cond.fieldLink own index "CaptureSubtypes" "shapes" "LCaptureSubtypes$Shapes;" ∈ qtb) (hd : decode cc pc = .ok (.getfield index, 3)) (kk : W p l e R s m args below meth c H locs cells slots Q (F0 m (pc + 3) ls (.ref (ad 3) :: rest))) : W p l e R s m args below meth c H locs cells slots Q (F0 m pc ls (.ref (ad 0) :: rest)) := va_get (D := D) (ci := 5) (v := .ref (ad 3)) (C := qR_X) (T := qF_X) (N := 5) F.1 F.2.1 F.2.2.2.2 qi_X F.2.2.2.1 hK w.1 0 rfl rfl 2 (by decide) (F.2.2.2.2 _ hl) (fun _ h9 => h9) rfl hd kk
theorem xg_X_order (F : CallFix p m c cc nL s args qtb own) (hK : va_K D qcl [(cI, .int)] s) (w : xW D ad cI A H0 S H locs) {index : Nat} (hl : Cond.fieldLink own index "CaptureSubtypes" "order" "LCaptureSubtypes$Order;" ∈ qtb) (hd : decode cc pc = .ok (.getfield index, 3)) (kk : W p l e R s m args below meth c H locs cells slots Q (F0 m (pc + 3) ls (.ref (ad 4) :: rest))) : W p l e R s m args below meth c H locs cells slots Q (F0 m pc ls (.ref (ad 0) :: rest)) := va_get (D := D) (ci := 5) (v := .ref (ad 4)) (C := qR_X) (T := qF_X) (N := 5) F.1 F.2.1 F.2.2.2.2 qi_X F.2.2.2.1 hK w.1 0 rfl rfl 3 (by decide) (F.2.2.2.2 _ hl) (fun _ h9 => h9) rfl hd kk
theorem xg_X_turning (F : CallFix p m c cc nL s args qtb own) (hK : va_K D qcl [(cI, .int)] s) (w : xW D ad cI A H0 S H locs) {index : Nat} (hl : Cond.fieldLink own index "CaptureSubtypes" "turning" "LCaptureSubtypes$Turning;" ∈ qtb) (hd : decode cc pc = .ok (.getfield index, 3)) (kk : W p l e R s m args below meth c H locs cells slots Q (F0 m (pc + 3) ls (.ref (ad 5) :: rest))) : W p l e R s m args below meth c H locs cells slots Q (F0 m pc ls (.ref (ad 0) :: rest)) := va_get (D := D) (ci := 5) (v := .ref (ad 5)) (C := qR_X) (T := qF_X) (N := 5) F.1 F.2.1 F.2.2.2.2 qi_X F.2.2.2.1 hK w.1 0 rfl rfl 4 (by decide) (F.2.2.2.2 _ hl) (fun _ h9 => h9) rfl hd kk
theorem xg_K_count (F : CallFix p m c cc nL s args qtb own) (hK : va_K D qcl [(cI, .int)] s) (w : xW D ad cI A H0 S H locs) {index : Nat} (hl : Cond.fieldLink own index "CaptureSubtypes$Classes" "count" "I" ∈ qtb) (hd : decode cc pc = .ok (.getfield index, 3)) (kk : W p l e R s m args below meth c H locs cells slots Q (F0 m (pc + 3) ls (.int (S 0 0) :: rest))) : W p l e R s m args below meth c H locs cells slots Q (F0 m pc ls (.ref (ad 1) :: rest)) := va_get (D := D) (ci := 0) (v := .int (S 0 0)) (C := qR_K) (T := qF_K) (N := 10) F.1 F.2.1 F.2.2.2.2 qi_K F.2.2.2.1 hK w.1 1 rfl rfl 0 (by decide) (F.2.2.2.2 _ hl) (fun _ h9 => h9) rfl hd kk
theorem xp_K_count (F : CallFix p m c cc nL s args qtb own) (hK : va_K D qcl [(cI, .int)] s) (w : xW D ad cI A H0 S H locs) {index : Nat} {v : Int32} (hl : Cond.fieldLink own index "CaptureSubtypes$Classes" "count" "I" ∈ qtb) (hd : decode cc pc = .ok (.putfield index, 3)) (kk : ∀ (H1 : Heap) (locs1 : List Loc), xW D ad cI A H0 (qwr S 0 0 v) H1 locs1 → W p l e R s m args below meth c H1 locs1 cells slots Q (F0 m (pc + 3) ls rest)) : W p l e R s m args below meth c H locs cells slots Q (F0 m pc ls (.int v :: .ref (ad 1) :: rest)) := va_put (D := D) (ci := 0) (v := .int v) (ty := .int) (C := qR_K) (T := qF_K) (N := 10) F.1 F.2.1 F.2.2.2.2 qi_K qt_K qt_K_ok qn_K F.2.2.2.1 hK w.1 w.2.1 w.2.2 1 rfl rfl 0 (by decide) (F.2.2.2.2 _ hl) (fun _ h9 => h9) rfl (by decide +kernel) rfl rfl (Nat.le_of_ble_eq_true rfl) hd (fun H1 locs1 a b z => kk H1 locs1 ⟨a, b, z⟩)
theorem xg_K_kinds (F : CallFix p m c cc nL s args qtb own) (hK : va_K D qcl [(cI, .int)] s) (w : xW D ad cI A H0 S H locs) {index : Nat} (hl : Cond.fieldLink own index "CaptureSubtypes$Classes" "kinds" "[I" ∈ qtb) (hd : decode cc pc = .ok (.getfield index, 3)) (kk : W p l e R s m args below meth c H locs cells slots Q (F0 m (pc + 3) ls (.ref (ad 6) :: rest))) : W p l e R s m args below meth c H locs cells slots Q (F0 m pc ls (.ref (ad 1) :: rest)) := va_get (D := D) (ci := 0) (v := .ref (ad 6)) (C := qR_K) (T := qF_K) (N := 10) F.1 F.2.1 F.2.2.2.2 qi_K F.2.2.2.1 hK w.1 1 rfl rfl 1 (by decide) (F.2.2.2.2 _ hl) (fun _ h9 => h9) rfl hd kk
theorem xl_K_kinds (F : CallFix p m c cc nL s args qtb own) (hK : va_K D qcl [(cI, .int)] s) (w : xW D ad cI A H0 S H locs) {i : Int32} (hin : qin i 12 = true) (hd : decode cc pc = .ok (.iaload, 1)) (kk : W p l e R s m args below meth c H locs cells slots Q (F0 m (pc + 1) ls (.int (S 1 i.toNatClampNeg) :: rest))) : W p l e R s m args below meth c H locs cells slots Q (F0 m pc ls (.int i :: .ref (ad 6) :: rest)) := va_iald F.1 F.2.1 hK w.1 6 0 rfl rfl (qin_ok hin) hd kk
theorem xs_K_kinds (F : CallFix p m c cc nL s args qtb own) (hK : va_K D qcl [(cI, .int)] s) (w : xW D ad cI A H0 S H locs) {i v : Int32} (hin : qin i 12 = true) (hd : decode cc pc = .ok (.iastore, 1)) (kk : ∀ (H1 : Heap) (locs1 : List Loc), xW D ad cI A H0 (qwr S 1 i.toNatClampNeg v) H1 locs1 → W p l e R s m args below meth c H1 locs1 cells slots Q (F0 m (pc + 1) ls rest)) : W p l e R s m args below meth c H locs cells slots Q (F0 m pc ls (.int v :: .int i :: .ref (ad 6) :: rest)) := va_iast F.1 F.2.1 hK w.1 w.2.1 w.2.2 6 0 rfl rfl (qin_ok hin) hd (fun H1 locs1 a b z => kk H1 locs1 ⟨a, b, z⟩)
theorem xg_K_parameterCounts (F : CallFix p m c cc nL s args qtb own) (hK : va_K D qcl [(cI, .int)] s) (w : xW D ad cI A H0 S H locs) {index : Nat} (hl : Cond.fieldLink own index "CaptureSubtypes$Classes" "parameterCounts" "[I" ∈ qtb) (hd : decode cc pc = .ok (.getfield index, 3)) (kk : W p l e R s m args below meth c H locs cells slots Q (F0 m (pc + 3) ls (.ref (ad 7) :: rest))) : W p l e R s m args below meth c H locs cells slots Q (F0 m pc ls (.ref (ad 1) :: rest)) := va_get (D := D) (ci := 0) (v := .ref (ad 7)) (C := qR_K) (T := qF_K) (N := 10) F.1 F.2.1 F.2.2.2.2 qi_K F.2.2.2.1 hK w.1 1 rfl rfl 2 (by decide) (F.2.2.2.2 _ hl) (fun _ h9 => h9) rfl hd kk
theorem xl_K_parameterCounts (F : CallFix p m c cc nL s args qtb own) (hK : va_K D qcl [(cI, .int)] s) (w : xW D ad cI A H0 S H locs) {i : Int32} (hin : qin i 12 = true) (hd : decode cc pc = .ok (.iaload, 1)) (kk : W p l e R s m args below meth c H locs cells slots Q (F0 m (pc + 1) ls (.int (S 2 i.toNatClampNeg) :: rest))) : W p l e R s m args below meth c H locs cells slots Q (F0 m pc ls (.int i :: .ref (ad 7) :: rest)) := va_iald F.1 F.2.1 hK w.1 7 0 rfl rfl (qin_ok hin) hd kk
theorem xs_K_parameterCounts (F : CallFix p m c cc nL s args qtb own) (hK : va_K D qcl [(cI, .int)] s) (w : xW D ad cI A H0 S H locs) {i v : Int32} (hin : qin i 12 = true) (hd : decode cc pc = .ok (.iastore, 1)) (kk : ∀ (H1 : Heap) (locs1 : List Loc), xW D ad cI A H0 (qwr S 2 i.toNatClampNeg v) H1 locs1 → W p l e R s m args below meth c H1 locs1 cells slots Q (F0 m (pc + 1) ls rest)) : W p l e R s m args below meth c H locs cells slots Q (F0 m pc ls (.int v :: .int i :: .ref (ad 7) :: rest)) := va_iast F.1 F.2.1 hK w.1 w.2.1 w.2.2 7 0 rfl rfl (qin_ok hin) hd (fun H1 locs1 a b z => kk H1 locs1 ⟨a, b, z⟩)
theorem xg_K_superTypes (F : CallFix p m c cc nL s args qtb own) (hK : va_K D qcl [(cI, .int)] s) (w : xW D ad cI A H0 S H locs) {index : Nat} (hl : Cond.fieldLink own index "CaptureSubtypes$Classes" "superTypes" "[I" ∈ qtb) (hd : decode cc pc = .ok (.getfield index, 3)) (kk : W p l e R s m args below meth c H locs cells slots Q (F0 m (pc + 3) ls (.ref (ad 8) :: rest))) : W p l e R s m args below meth c H locs cells slots Q (F0 m pc ls (.ref (ad 1) :: rest)) := va_get (D := D) (ci := 0) (v := .ref (ad 8)) (C := qR_K) (T := qF_K) (N := 10) F.1 F.2.1 F.2.2.2.2 qi_K F.2.2.2.1 hK w.1 1 rfl rfl 3 (by decide) (F.2.2.2.2 _ hl) (fun _ h9 => h9) rfl hd kk
theorem xl_K_superTypes (F : CallFix p m c cc nL s args qtb own) (hK : va_K D qcl [(cI, .int)] s) (w : xW D ad cI A H0 S H locs) {i : Int32} (hin : qin i 36 = true) (hd : decode cc pc = .ok (.iaload, 1)) (kk : W p l e R s m args below meth c H locs cells slots Q (F0 m (pc + 1) ls (.int (S 3 i.toNatClampNeg) :: rest))) : W p l e R s m args below meth c H locs cells slots Q (F0 m pc ls (.int i :: .ref (ad 8) :: rest)) := va_iald F.1 F.2.1 hK w.1 8 0 rfl rfl (qin_ok hin) hd kk
theorem xs_K_superTypes (F : CallFix p m c cc nL s args qtb own) (hK : va_K D qcl [(cI, .int)] s) (w : xW D ad cI A H0 S H locs) {i v : Int32} (hin : qin i 36 = true) (hd : decode cc pc = .ok (.iastore, 1)) (kk : ∀ (H1 : Heap) (locs1 : List Loc), xW D ad cI A H0 (qwr S 3 i.toNatClampNeg v) H1 locs1 → W p l e R s m args below meth c H1 locs1 cells slots Q (F0 m (pc + 1) ls rest)) : W p l e R s m args below meth c H locs cells slots Q (F0 m pc ls (.int v :: .int i :: .ref (ad 8) :: rest)) := va_iast F.1 F.2.1 hK w.1 w.2.1 w.2.2 8 0 rfl rfl (qin_ok hin) hd (fun H1 locs1 a b z => kk H1 locs1 ⟨a, b, z⟩)
theorem xg_K_superClasses (F : CallFix p m c cc nL s args qtb own) (hK : va_K D qcl [(cI, .int)] s) (w : xW D ad cI A H0 S H locs) {index : Nat} (hl : Cond.fieldLink own index "CaptureSubtypes$Classes" "superClasses" "[I" ∈ qtb) (hd : decode cc pc = .ok (.getfield index, 3)) (kk : W p l e R s m args below meth c H locs cells slots Q (F0 m (pc + 3) ls (.ref (ad 9) :: rest))) : W p l e R s m args below meth c H locs cells slots Q (F0 m pc ls (.ref (ad 1) :: rest)) := va_get (D := D) (ci := 0) (v := .ref (ad 9)) (C := qR_K) (T := qF_K) (N := 10) F.1 F.2.1 F.2.2.2.2 qi_K F.2.2.2.1 hK w.1 1 rfl rfl 4 (by decide) (F.2.2.2.2 _ hl) (fun _ h9 => h9) rfl hd kk
theorem xl_K_superClasses (F : CallFix p m c cc nL s args qtb own) (hK : va_K D qcl [(cI, .int)] s) (w : xW D ad cI A H0 S H locs) {i : Int32} (hin : qin i 36 = true) (hd : decode cc pc = .ok (.iaload, 1)) (kk : W p l e R s m args below meth c H locs cells slots Q (F0 m (pc + 1) ls (.int (S 4 i.toNatClampNeg) :: rest))) : W p l e R s m args below meth c H locs cells slots Q (F0 m pc ls (.int i :: .ref (ad 9) :: rest)) := va_iald F.1 F.2.1 hK w.1 9 0 rfl rfl (qin_ok hin) hd kk
theorem xs_K_superClasses (F : CallFix p m c cc nL s args qtb own) (hK : va_K D qcl [(cI, .int)] s) (w : xW D ad cI A H0 S H locs) {i v : Int32} (hin : qin i 36 = true) (hd : decode cc pc = .ok (.iastore, 1)) (kk : ∀ (H1 : Heap) (locs1 : List Loc), xW D ad cI A H0 (qwr S 4 i.toNatClampNeg v) H1 locs1 → W p l e R s m args below meth c H1 locs1 cells slots Q (F0 m (pc + 1) ls rest)) : W p l e R s m args below meth c H locs cells slots Q (F0 m pc ls (.int v :: .int i :: .ref (ad 9) :: rest)) := va_iast F.1 F.2.1 hK w.1 w.2.1 w.2.2 9 0 rfl rfl (qin_ok hin) hd (fun H1 locs1 a b z => kk H1 locs1 ⟨a, b, z⟩)
theorem xg_K_bounds (F : CallFix p m c cc nL s args qtb own) (hK : va_K D qcl [(cI, .int)] s) (w : xW D ad cI A H0 S H locs) {index : Nat} (hl : Cond.fieldLink own index "CaptureSubtypes$Classes" "bounds" "[I" ∈ qtb) (hd : decode cc pc = .ok (.getfield index, 3)) (kk : W p l e R s m args below meth c H locs cells slots Q (F0 m (pc + 3) ls (.ref (ad 10) :: rest))) : W p l e R s m args below meth c H locs cells slots Q (F0 m pc ls (.ref (ad 1) :: rest)) := va_get (D := D) (ci := 0) (v := .ref (ad 10)) (C := qR_K) (T := qF_K) (N := 10) F.1 F.2.1 F.2.2.2.2 qi_K F.2.2.2.1 hK w.1 1 rfl rfl 5 (by decide) (F.2.2.2.2 _ hl) (fun _ h9 => h9) rfl hd kk
theorem xl_K_bounds (F : CallFix p m c cc nL s args qtb own) (hK : va_K D qcl [(cI, .int)] s) (w : xW D ad cI A H0 S H locs) {i : Int32} (hin : qin i 48 = true) (hd : decode cc pc = .ok (.iaload, 1)) (kk : W p l e R s m args below meth c H locs cells slots Q (F0 m (pc + 1) ls (.int (S 5 i.toNatClampNeg) :: rest))) : W p l e R s m args below meth c H locs cells slots Q (F0 m pc ls (.int i :: .ref (ad 10) :: rest)) := va_iald F.1 F.2.1 hK w.1 10 0 rfl rfl (qin_ok hin) hd kk
theorem xs_K_bounds (F : CallFix p m c cc nL s args qtb own) (hK : va_K D qcl [(cI, .int)] s) (w : xW D ad cI A H0 S H locs) {i v : Int32} (hin : qin i 48 = true) (hd : decode cc pc = .ok (.iastore, 1)) (kk : ∀ (H1 : Heap) (locs1 : List Loc), xW D ad cI A H0 (qwr S 5 i.toNatClampNeg v) H1 locs1 → W p l e R s m args below meth c H1 locs1 cells slots Q (F0 m (pc + 1) ls rest)) : W p l e R s m args below meth c H locs cells slots Q (F0 m pc ls (.int v :: .int i :: .ref (ad 10) :: rest)) := va_iast F.1 F.2.1 hK w.1 w.2.1 w.2.2 10 0 rfl rfl (qin_ok hin) hd (fun H1 locs1 a b z => kk H1 locs1 ⟨a, b, z⟩)
theorem xg_K_boundCounts (F : CallFix p m c cc nL s args qtb own) (hK : va_K D qcl [(cI, .int)] s) (w : xW D ad cI A H0 S H locs) {index : Nat} (hl : Cond.fieldLink own index "CaptureSubtypes$Classes" "boundCounts" "[I" ∈ qtb) (hd : decode cc pc = .ok (.getfield index, 3)) (kk : W p l e R s m args below meth c H locs cells slots Q (F0 m (pc + 3) ls (.ref (ad 11) :: rest))) : W p l e R s m args below meth c H locs cells slots Q (F0 m pc ls (.ref (ad 1) :: rest)) := va_get (D := D) (ci := 0) (v := .ref (ad 11)) (C := qR_K) (T := qF_K) (N := 10) F.1 F.2.1 F.2.2.2.2 qi_K F.2.2.2.1 hK w.1 1 rfl rfl 6 (by decide) (F.2.2.2.2 _ hl) (fun _ h9 => h9) rfl hd kk
theorem xl_K_boundCounts (F : CallFix p m c cc nL s args qtb own) (hK : va_K D qcl [(cI, .int)] s) (w : xW D ad cI A H0 S H locs) {i : Int32} (hin : qin i 24 = true) (hd : decode cc pc = .ok (.iaload, 1)) (kk : W p l e R s m args below meth c H locs cells slots Q (F0 m (pc + 1) ls (.int (S 6 i.toNatClampNeg) :: rest))) : W p l e R s m args below meth c H locs cells slots Q (F0 m pc ls (.int i :: .ref (ad 11) :: rest)) := va_iald F.1 F.2.1 hK w.1 11 0 rfl rfl (qin_ok hin) hd kk
theorem xs_K_boundCounts (F : CallFix p m c cc nL s args qtb own) (hK : va_K D qcl [(cI, .int)] s) (w : xW D ad cI A H0 S H locs) {i v : Int32} (hin : qin i 24 = true) (hd : decode cc pc = .ok (.iastore, 1)) (kk : ∀ (H1 : Heap) (locs1 : List Loc), xW D ad cI A H0 (qwr S 6 i.toNatClampNeg v) H1 locs1 → W p l e R s m args below meth c H1 locs1 cells slots Q (F0 m (pc + 1) ls rest)) : W p l e R s m args below meth c H locs cells slots Q (F0 m pc ls (.int v :: .int i :: .ref (ad 11) :: rest)) := va_iast F.1 F.2.1 hK w.1 w.2.1 w.2.2 11 0 rfl rfl (qin_ok hin) hd (fun H1 locs1 a b z => kk H1 locs1 ⟨a, b, z⟩)
theorem xg_K_parents (F : CallFix p m c cc nL s args qtb own) (hK : va_K D qcl [(cI, .int)] s) (w : xW D ad cI A H0 S H locs) {index : Nat} (hl : Cond.fieldLink own index "CaptureSubtypes$Classes" "parents" "[I" ∈ qtb) (hd : decode cc pc = .ok (.getfield index, 3)) (kk : W p l e R s m args below meth c H locs cells slots Q (F0 m (pc + 3) ls (.ref (ad 12) :: rest))) : W p l e R s m args below meth c H locs cells slots Q (F0 m pc ls (.ref (ad 1) :: rest)) := va_get (D := D) (ci := 0) (v := .ref (ad 12)) (C := qR_K) (T := qF_K) (N := 10) F.1 F.2.1 F.2.2.2.2 qi_K F.2.2.2.1 hK w.1 1 rfl rfl 7 (by decide) (F.2.2.2.2 _ hl) (fun _ h9 => h9) rfl hd kk
theorem xl_K_parents (F : CallFix p m c cc nL s args qtb own) (hK : va_K D qcl [(cI, .int)] s) (w : xW D ad cI A H0 S H locs) {i : Int32} (hin : qin i 12 = true) (hd : decode cc pc = .ok (.iaload, 1)) (kk : W p l e R s m args below meth c H locs cells slots Q (F0 m (pc + 1) ls (.int (S 7 i.toNatClampNeg) :: rest))) : W p l e R s m args below meth c H locs cells slots Q (F0 m pc ls (.int i :: .ref (ad 12) :: rest)) := va_iald F.1 F.2.1 hK w.1 12 0 rfl rfl (qin_ok hin) hd kk
theorem xs_K_parents (F : CallFix p m c cc nL s args qtb own) (hK : va_K D qcl [(cI, .int)] s) (w : xW D ad cI A H0 S H locs) {i v : Int32} (hin : qin i 12 = true) (hd : decode cc pc = .ok (.iastore, 1)) (kk : ∀ (H1 : Heap) (locs1 : List Loc), xW D ad cI A H0 (qwr S 7 i.toNatClampNeg v) H1 locs1 → W p l e R s m args below meth c H1 locs1 cells slots Q (F0 m (pc + 1) ls rest)) : W p l e R s m args below meth c H locs cells slots Q (F0 m pc ls (.int v :: .int i :: .ref (ad 12) :: rest)) := va_iast F.1 F.2.1 hK w.1 w.2.1 w.2.2 12 0 rfl rfl (qin_ok hin) hd (fun H1 locs1 a b z => kk H1 locs1 ⟨a, b, z⟩)
theorem xg_K_above (F : CallFix p m c cc nL s args qtb own) (hK : va_K D qcl [(cI, .int)] s) (w : xW D ad cI A H0 S H locs) {index : Nat} (hl : Cond.fieldLink own index "CaptureSubtypes$Classes" "above" "[I" ∈ qtb) (hd : decode cc pc = .ok (.getfield index, 3)) (kk : W p l e R s m args below meth c H locs cells slots Q (F0 m (pc + 3) ls (.ref (ad 13) :: rest))) : W p l e R s m args below meth c H locs cells slots Q (F0 m pc ls (.ref (ad 1) :: rest)) := va_get (D := D) (ci := 0) (v := .ref (ad 13)) (C := qR_K) (T := qF_K) (N := 10) F.1 F.2.1 F.2.2.2.2 qi_K F.2.2.2.1 hK w.1 1 rfl rfl 8 (by decide) (F.2.2.2.2 _ hl) (fun _ h9 => h9) rfl hd kk
theorem xl_K_above (F : CallFix p m c cc nL s args qtb own) (hK : va_K D qcl [(cI, .int)] s) (w : xW D ad cI A H0 S H locs) {i : Int32} (hin : qin i 12 = true) (hd : decode cc pc = .ok (.iaload, 1)) (kk : W p l e R s m args below meth c H locs cells slots Q (F0 m (pc + 1) ls (.int (S 8 i.toNatClampNeg) :: rest))) : W p l e R s m args below meth c H locs cells slots Q (F0 m pc ls (.int i :: .ref (ad 13) :: rest)) := va_iald F.1 F.2.1 hK w.1 13 0 rfl rfl (qin_ok hin) hd kk
theorem xs_K_above (F : CallFix p m c cc nL s args qtb own) (hK : va_K D qcl [(cI, .int)] s) (w : xW D ad cI A H0 S H locs) {i v : Int32} (hin : qin i 12 = true) (hd : decode cc pc = .ok (.iastore, 1)) (kk : ∀ (H1 : Heap) (locs1 : List Loc), xW D ad cI A H0 (qwr S 8 i.toNatClampNeg v) H1 locs1 → W p l e R s m args below meth c H1 locs1 cells slots Q (F0 m (pc + 1) ls rest)) : W p l e R s m args below meth c H locs cells slots Q (F0 m pc ls (.int v :: .int i :: .ref (ad 13) :: rest)) := va_iast F.1 F.2.1 hK w.1 w.2.1 w.2.2 13 0 rfl rfl (qin_ok hin) hd (fun H1 locs1 a b z => kk H1 locs1 ⟨a, b, z⟩)
theorem xg_K_apartFrom (F : CallFix p m c cc nL s args qtb own) (hK : va_K D qcl [(cI, .int)] s) (w : xW D ad cI A H0 S H locs) {index : Nat} (hl : Cond.fieldLink own index "CaptureSubtypes$Classes" "apartFrom" "[I" ∈ qtb) (hd : decode cc pc = .ok (.getfield index, 3)) (kk : W p l e R s m args below meth c H locs cells slots Q (F0 m (pc + 3) ls (.ref (ad 14) :: rest))) : W p l e R s m args below meth c H locs cells slots Q (F0 m pc ls (.ref (ad 1) :: rest)) := va_get (D := D) (ci := 0) (v := .ref (ad 14)) (C := qR_K) (T := qF_K) (N := 10) F.1 F.2.1 F.2.2.2.2 qi_K F.2.2.2.1 hK w.1 1 rfl rfl 9 (by decide) (F.2.2.2.2 _ hl) (fun _ h9 => h9) rfl hd kk
theorem xl_K_apartFrom (F : CallFix p m c cc nL s args qtb own) (hK : va_K D qcl [(cI, .int)] s) (w : xW D ad cI A H0 S H locs) {i : Int32} (hin : qin i 12 = true) (hd : decode cc pc = .ok (.iaload, 1)) (kk : W p l e R s m args below meth c H locs cells slots Q (F0 m (pc + 1) ls (.int (S 9 i.toNatClampNeg) :: rest))) : W p l e R s m args below meth c H locs cells slots Q (F0 m pc ls (.int i :: .ref (ad 14) :: rest)) := va_iald F.1 F.2.1 hK w.1 14 0 rfl rfl (qin_ok hin) hd kk
theorem xs_K_apartFrom (F : CallFix p m c cc nL s args qtb own) (hK : va_K D qcl [(cI, .int)] s) (w : xW D ad cI A H0 S H locs) {i v : Int32} (hin : qin i 12 = true) (hd : decode cc pc = .ok (.iastore, 1)) (kk : ∀ (H1 : Heap) (locs1 : List Loc), xW D ad cI A H0 (qwr S 9 i.toNatClampNeg v) H1 locs1 → W p l e R s m args below meth c H1 locs1 cells slots Q (F0 m (pc + 1) ls rest)) : W p l e R s m args below meth c H locs cells slots Q (F0 m pc ls (.int v :: .int i :: .ref (ad 14) :: rest)) := va_iast F.1 F.2.1 hK w.1 w.2.1 w.2.2 14 0 rfl rfl (qin_ok hin) hd (fun H1 locs1 a b z => kk H1 locs1 ⟨a, b, z⟩)
theorem xg_T_kept (F : CallFix p m c cc nL s args qtb own) (hK : va_K D qcl [(cI, .int)] s) (w : xW D ad cI A H0 S H locs) {index : Nat} (hl : Cond.fieldLink own index "CaptureSubtypes$Types" "kept" "I" ∈ qtb) (hd : decode cc pc = .ok (.getfield index, 3)) (kk : W p l e R s m args below meth c H locs cells slots Q (F0 m (pc + 3) ls (.int (S 10 0) :: rest))) : W p l e R s m args below meth c H locs cells slots Q (F0 m pc ls (.ref (ad 2) :: rest)) := va_get (D := D) (ci := 1) (v := .int (S 10 0)) (C := qR_T) (T := qF_T) (N := 10) F.1 F.2.1 F.2.2.2.2 qi_T F.2.2.2.1 hK w.1 2 rfl rfl 0 (by decide) (F.2.2.2.2 _ hl) (fun _ h9 => h9) rfl hd kk
theorem xp_T_kept (F : CallFix p m c cc nL s args qtb own) (hK : va_K D qcl [(cI, .int)] s) (w : xW D ad cI A H0 S H locs) {index : Nat} {v : Int32} (hl : Cond.fieldLink own index "CaptureSubtypes$Types" "kept" "I" ∈ qtb) (hd : decode cc pc = .ok (.putfield index, 3)) (kk : ∀ (H1 : Heap) (locs1 : List Loc), xW D ad cI A H0 (qwr S 10 0 v) H1 locs1 → W p l e R s m args below meth c H1 locs1 cells slots Q (F0 m (pc + 3) ls rest)) : W p l e R s m args below meth c H locs cells slots Q (F0 m pc ls (.int v :: .ref (ad 2) :: rest)) := va_put (D := D) (ci := 1) (v := .int v) (ty := .int) (C := qR_T) (T := qF_T) (N := 10) F.1 F.2.1 F.2.2.2.2 qi_T qt_T qt_T_ok qn_T F.2.2.2.1 hK w.1 w.2.1 w.2.2 2 rfl rfl 0 (by decide) (F.2.2.2.2 _ hl) (fun _ h9 => h9) rfl (by decide +kernel) rfl rfl (Nat.le_of_ble_eq_true rfl) hd (fun H1 locs1 a b z => kk H1 locs1 ⟨a, b, z⟩)
theorem xg_T_top (F : CallFix p m c cc nL s args qtb own) (hK : va_K D qcl [(cI, .int)] s) (w : xW D ad cI A H0 S H locs) {index : Nat} (hl : Cond.fieldLink own index "CaptureSubtypes$Types" "top" "I" ∈ qtb) (hd : decode cc pc = .ok (.getfield index, 3)) (kk : W p l e R s m args below meth c H locs cells slots Q (F0 m (pc + 3) ls (.int (S 11 0) :: rest))) : W p l e R s m args below meth c H locs cells slots Q (F0 m pc ls (.ref (ad 2) :: rest)) := va_get (D := D) (ci := 1) (v := .int (S 11 0)) (C := qR_T) (T := qF_T) (N := 10) F.1 F.2.1 F.2.2.2.2 qi_T F.2.2.2.1 hK w.1 2 rfl rfl 1 (by decide) (F.2.2.2.2 _ hl) (fun _ h9 => h9) rfl hd kk
theorem xp_T_top (F : CallFix p m c cc nL s args qtb own) (hK : va_K D qcl [(cI, .int)] s) (w : xW D ad cI A H0 S H locs) {index : Nat} {v : Int32} (hl : Cond.fieldLink own index "CaptureSubtypes$Types" "top" "I" ∈ qtb) (hd : decode cc pc = .ok (.putfield index, 3)) (kk : ∀ (H1 : Heap) (locs1 : List Loc), xW D ad cI A H0 (qwr S 11 0 v) H1 locs1 → W p l e R s m args below meth c H1 locs1 cells slots Q (F0 m (pc + 3) ls rest)) : W p l e R s m args below meth c H locs cells slots Q (F0 m pc ls (.int v :: .ref (ad 2) :: rest)) := va_put (D := D) (ci := 1) (v := .int v) (ty := .int) (C := qR_T) (T := qF_T) (N := 10) F.1 F.2.1 F.2.2.2.2 qi_T qt_T qt_T_ok qn_T F.2.2.2.1 hK w.1 w.2.1 w.2.2 2 rfl rfl 1 (by decide) (F.2.2.2.2 _ hl) (fun _ h9 => h9) rfl (by decide +kernel) rfl rfl (Nat.le_of_ble_eq_true rfl) hd (fun H1 locs1 a b z => kk H1 locs1 ⟨a, b, z⟩)
theorem xg_T_sorts (F : CallFix p m c cc nL s args qtb own) (hK : va_K D qcl [(cI, .int)] s) (w : xW D ad cI A H0 S H locs) {index : Nat} (hl : Cond.fieldLink own index "CaptureSubtypes$Types" "sorts" "[I" ∈ qtb) (hd : decode cc pc = .ok (.getfield index, 3)) (kk : W p l e R s m args below meth c H locs cells slots Q (F0 m (pc + 3) ls (.ref (ad 15) :: rest))) : W p l e R s m args below meth c H locs cells slots Q (F0 m pc ls (.ref (ad 2) :: rest)) := va_get (D := D) (ci := 1) (v := .ref (ad 15)) (C := qR_T) (T := qF_T) (N := 10) F.1 F.2.1 F.2.2.2.2 qi_T F.2.2.2.1 hK w.1 2 rfl rfl 2 (by decide) (F.2.2.2.2 _ hl) (fun _ h9 => h9) rfl hd kk
theorem xl_T_sorts (F : CallFix p m c cc nL s args qtb own) (hK : va_K D qcl [(cI, .int)] s) (w : xW D ad cI A H0 S H locs) {i : Int32} (hin : qin i 2048 = true) (hd : decode cc pc = .ok (.iaload, 1)) (kk : W p l e R s m args below meth c H locs cells slots Q (F0 m (pc + 1) ls (.int (S 12 i.toNatClampNeg) :: rest))) : W p l e R s m args below meth c H locs cells slots Q (F0 m pc ls (.int i :: .ref (ad 15) :: rest)) := va_iald F.1 F.2.1 hK w.1 15 0 rfl rfl (qin_ok hin) hd kk
theorem xs_T_sorts (F : CallFix p m c cc nL s args qtb own) (hK : va_K D qcl [(cI, .int)] s) (w : xW D ad cI A H0 S H locs) {i v : Int32} (hin : qin i 2048 = true) (hd : decode cc pc = .ok (.iastore, 1)) (kk : ∀ (H1 : Heap) (locs1 : List Loc), xW D ad cI A H0 (qwr S 12 i.toNatClampNeg v) H1 locs1 → W p l e R s m args below meth c H1 locs1 cells slots Q (F0 m (pc + 1) ls rest)) : W p l e R s m args below meth c H locs cells slots Q (F0 m pc ls (.int v :: .int i :: .ref (ad 15) :: rest)) := va_iast F.1 F.2.1 hK w.1 w.2.1 w.2.2 15 0 rfl rfl (qin_ok hin) hd (fun H1 locs1 a b z => kk H1 locs1 ⟨a, b, z⟩)
theorem xg_T_owners (F : CallFix p m c cc nL s args qtb own) (hK : va_K D qcl [(cI, .int)] s) (w : xW D ad cI A H0 S H locs) {index : Nat} (hl : Cond.fieldLink own index "CaptureSubtypes$Types" "owners" "[I" ∈ qtb) (hd : decode cc pc = .ok (.getfield index, 3)) (kk : W p l e R s m args below meth c H locs cells slots Q (F0 m (pc + 3) ls (.ref (ad 16) :: rest))) : W p l e R s m args below meth c H locs cells slots Q (F0 m pc ls (.ref (ad 2) :: rest)) := va_get (D := D) (ci := 1) (v := .ref (ad 16)) (C := qR_T) (T := qF_T) (N := 10) F.1 F.2.1 F.2.2.2.2 qi_T F.2.2.2.1 hK w.1 2 rfl rfl 3 (by decide) (F.2.2.2.2 _ hl) (fun _ h9 => h9) rfl hd kk
theorem xl_T_owners (F : CallFix p m c cc nL s args qtb own) (hK : va_K D qcl [(cI, .int)] s) (w : xW D ad cI A H0 S H locs) {i : Int32} (hin : qin i 2048 = true) (hd : decode cc pc = .ok (.iaload, 1)) (kk : W p l e R s m args below meth c H locs cells slots Q (F0 m (pc + 1) ls (.int (S 13 i.toNatClampNeg) :: rest))) : W p l e R s m args below meth c H locs cells slots Q (F0 m pc ls (.int i :: .ref (ad 16) :: rest)) := va_iald F.1 F.2.1 hK w.1 16 0 rfl rfl (qin_ok hin) hd kk
theorem xs_T_owners (F : CallFix p m c cc nL s args qtb own) (hK : va_K D qcl [(cI, .int)] s) (w : xW D ad cI A H0 S H locs) {i v : Int32} (hin : qin i 2048 = true) (hd : decode cc pc = .ok (.iastore, 1)) (kk : ∀ (H1 : Heap) (locs1 : List Loc), xW D ad cI A H0 (qwr S 13 i.toNatClampNeg v) H1 locs1 → W p l e R s m args below meth c H1 locs1 cells slots Q (F0 m (pc + 1) ls rest)) : W p l e R s m args below meth c H locs cells slots Q (F0 m pc ls (.int v :: .int i :: .ref (ad 16) :: rest)) := va_iast F.1 F.2.1 hK w.1 w.2.1 w.2.2 16 0 rfl rfl (qin_ok hin) hd (fun H1 locs1 a b z => kk H1 locs1 ⟨a, b, z⟩)
theorem xg_T_firsts (F : CallFix p m c cc nL s args qtb own) (hK : va_K D qcl [(cI, .int)] s) (w : xW D ad cI A H0 S H locs) {index : Nat} (hl : Cond.fieldLink own index "CaptureSubtypes$Types" "firsts" "[I" ∈ qtb) (hd : decode cc pc = .ok (.getfield index, 3)) (kk : W p l e R s m args below meth c H locs cells slots Q (F0 m (pc + 3) ls (.ref (ad 17) :: rest))) : W p l e R s m args below meth c H locs cells slots Q (F0 m pc ls (.ref (ad 2) :: rest)) := va_get (D := D) (ci := 1) (v := .ref (ad 17)) (C := qR_T) (T := qF_T) (N := 10) F.1 F.2.1 F.2.2.2.2 qi_T F.2.2.2.1 hK w.1 2 rfl rfl 4 (by decide) (F.2.2.2.2 _ hl) (fun _ h9 => h9) rfl hd kk
theorem xl_T_firsts (F : CallFix p m c cc nL s args qtb own) (hK : va_K D qcl [(cI, .int)] s) (w : xW D ad cI A H0 S H locs) {i : Int32} (hin : qin i 2048 = true) (hd : decode cc pc = .ok (.iaload, 1)) (kk : W p l e R s m args below meth c H locs cells slots Q (F0 m (pc + 1) ls (.int (S 14 i.toNatClampNeg) :: rest))) : W p l e R s m args below meth c H locs cells slots Q (F0 m pc ls (.int i :: .ref (ad 17) :: rest)) := va_iald F.1 F.2.1 hK w.1 17 0 rfl rfl (qin_ok hin) hd kk
theorem xs_T_firsts (F : CallFix p m c cc nL s args qtb own) (hK : va_K D qcl [(cI, .int)] s) (w : xW D ad cI A H0 S H locs) {i v : Int32} (hin : qin i 2048 = true) (hd : decode cc pc = .ok (.iastore, 1)) (kk : ∀ (H1 : Heap) (locs1 : List Loc), xW D ad cI A H0 (qwr S 14 i.toNatClampNeg v) H1 locs1 → W p l e R s m args below meth c H1 locs1 cells slots Q (F0 m (pc + 1) ls rest)) : W p l e R s m args below meth c H locs cells slots Q (F0 m pc ls (.int v :: .int i :: .ref (ad 17) :: rest)) := va_iast F.1 F.2.1 hK w.1 w.2.1 w.2.2 17 0 rfl rfl (qin_ok hin) hd (fun H1 locs1 a b z => kk H1 locs1 ⟨a, b, z⟩)
theorem xg_T_seconds (F : CallFix p m c cc nL s args qtb own) (hK : va_K D qcl [(cI, .int)] s) (w : xW D ad cI A H0 S H locs) {index : Nat} (hl : Cond.fieldLink own index "CaptureSubtypes$Types" "seconds" "[I" ∈ qtb) (hd : decode cc pc = .ok (.getfield index, 3)) (kk : W p l e R s m args below meth c H locs cells slots Q (F0 m (pc + 3) ls (.ref (ad 18) :: rest))) : W p l e R s m args below meth c H locs cells slots Q (F0 m pc ls (.ref (ad 2) :: rest)) := va_get (D := D) (ci := 1) (v := .ref (ad 18)) (C := qR_T) (T := qF_T) (N := 10) F.1 F.2.1 F.2.2.2.2 qi_T F.2.2.2.1 hK w.1 2 rfl rfl 5 (by decide) (F.2.2.2.2 _ hl) (fun _ h9 => h9) rfl hd kk
theorem xl_T_seconds (F : CallFix p m c cc nL s args qtb own) (hK : va_K D qcl [(cI, .int)] s) (w : xW D ad cI A H0 S H locs) {i : Int32} (hin : qin i 2048 = true) (hd : decode cc pc = .ok (.iaload, 1)) (kk : W p l e R s m args below meth c H locs cells slots Q (F0 m (pc + 1) ls (.int (S 15 i.toNatClampNeg) :: rest))) : W p l e R s m args below meth c H locs cells slots Q (F0 m pc ls (.int i :: .ref (ad 18) :: rest)) := va_iald F.1 F.2.1 hK w.1 18 0 rfl rfl (qin_ok hin) hd kk
theorem xs_T_seconds (F : CallFix p m c cc nL s args qtb own) (hK : va_K D qcl [(cI, .int)] s) (w : xW D ad cI A H0 S H locs) {i v : Int32} (hin : qin i 2048 = true) (hd : decode cc pc = .ok (.iastore, 1)) (kk : ∀ (H1 : Heap) (locs1 : List Loc), xW D ad cI A H0 (qwr S 15 i.toNatClampNeg v) H1 locs1 → W p l e R s m args below meth c H1 locs1 cells slots Q (F0 m (pc + 1) ls rest)) : W p l e R s m args below meth c H locs cells slots Q (F0 m pc ls (.int v :: .int i :: .ref (ad 18) :: rest)) := va_iast F.1 F.2.1 hK w.1 w.2.1 w.2.2 18 0 rfl rfl (qin_ok hin) hd (fun H1 locs1 a b z => kk H1 locs1 ⟨a, b, z⟩)
theorem xg_T_depths (F : CallFix p m c cc nL s args qtb own) (hK : va_K D qcl [(cI, .int)] s) (w : xW D ad cI A H0 S H locs) {index : Nat} (hl : Cond.fieldLink own index "CaptureSubtypes$Types" "depths" "[I" ∈ qtb) (hd : decode cc pc = .ok (.getfield index, 3)) (kk : W p l e R s m args below meth c H locs cells slots Q (F0 m (pc + 3) ls (.ref (ad 19) :: rest))) : W p l e R s m args below meth c H locs cells slots Q (F0 m pc ls (.ref (ad 2) :: rest)) := va_get (D := D) (ci := 1) (v := .ref (ad 19)) (C := qR_T) (T := qF_T) (N := 10) F.1 F.2.1 F.2.2.2.2 qi_T F.2.2.2.1 hK w.1 2 rfl rfl 6 (by decide) (F.2.2.2.2 _ hl) (fun _ h9 => h9) rfl hd kk
theorem xl_T_depths (F : CallFix p m c cc nL s args qtb own) (hK : va_K D qcl [(cI, .int)] s) (w : xW D ad cI A H0 S H locs) {i : Int32} (hin : qin i 2048 = true) (hd : decode cc pc = .ok (.iaload, 1)) (kk : W p l e R s m args below meth c H locs cells slots Q (F0 m (pc + 1) ls (.int (S 16 i.toNatClampNeg) :: rest))) : W p l e R s m args below meth c H locs cells slots Q (F0 m pc ls (.int i :: .ref (ad 19) :: rest)) := va_iald F.1 F.2.1 hK w.1 19 0 rfl rfl (qin_ok hin) hd kk
theorem xs_T_depths (F : CallFix p m c cc nL s args qtb own) (hK : va_K D qcl [(cI, .int)] s) (w : xW D ad cI A H0 S H locs) {i v : Int32} (hin : qin i 2048 = true) (hd : decode cc pc = .ok (.iastore, 1)) (kk : ∀ (H1 : Heap) (locs1 : List Loc), xW D ad cI A H0 (qwr S 16 i.toNatClampNeg v) H1 locs1 → W p l e R s m args below meth c H1 locs1 cells slots Q (F0 m (pc + 1) ls rest)) : W p l e R s m args below meth c H locs cells slots Q (F0 m pc ls (.int v :: .int i :: .ref (ad 19) :: rest)) := va_iast F.1 F.2.1 hK w.1 w.2.1 w.2.2 19 0 rfl rfl (qin_ok hin) hd (fun H1 locs1 a b z => kk H1 locs1 ⟨a, b, z⟩)
theorem xg_T_insides (F : CallFix p m c cc nL s args qtb own) (hK : va_K D qcl [(cI, .int)] s) (w : xW D ad cI A H0 S H locs) {index : Nat} (hl : Cond.fieldLink own index "CaptureSubtypes$Types" "insides" "[I" ∈ qtb) (hd : decode cc pc = .ok (.getfield index, 3)) (kk : W p l e R s m args below meth c H locs cells slots Q (F0 m (pc + 3) ls (.ref (ad 20) :: rest))) : W p l e R s m args below meth c H locs cells slots Q (F0 m pc ls (.ref (ad 2) :: rest)) := va_get (D := D) (ci := 1) (v := .ref (ad 20)) (C := qR_T) (T := qF_T) (N := 10) F.1 F.2.1 F.2.2.2.2 qi_T F.2.2.2.1 hK w.1 2 rfl rfl 7 (by decide) (F.2.2.2.2 _ hl) (fun _ h9 => h9) rfl hd kk
theorem xl_T_insides (F : CallFix p m c cc nL s args qtb own) (hK : va_K D qcl [(cI, .int)] s) (w : xW D ad cI A H0 S H locs) {i : Int32} (hin : qin i 2048 = true) (hd : decode cc pc = .ok (.iaload, 1)) (kk : W p l e R s m args below meth c H locs cells slots Q (F0 m (pc + 1) ls (.int (S 17 i.toNatClampNeg) :: rest))) : W p l e R s m args below meth c H locs cells slots Q (F0 m pc ls (.int i :: .ref (ad 20) :: rest)) := va_iald F.1 F.2.1 hK w.1 20 0 rfl rfl (qin_ok hin) hd kk
theorem xs_T_insides (F : CallFix p m c cc nL s args qtb own) (hK : va_K D qcl [(cI, .int)] s) (w : xW D ad cI A H0 S H locs) {i v : Int32} (hin : qin i 2048 = true) (hd : decode cc pc = .ok (.iastore, 1)) (kk : ∀ (H1 : Heap) (locs1 : List Loc), xW D ad cI A H0 (qwr S 17 i.toNatClampNeg v) H1 locs1 → W p l e R s m args below meth c H1 locs1 cells slots Q (F0 m (pc + 1) ls rest)) : W p l e R s m args below meth c H locs cells slots Q (F0 m pc ls (.int v :: .int i :: .ref (ad 20) :: rest)) := va_iast F.1 F.2.1 hK w.1 w.2.1 w.2.2 20 0 rfl rfl (qin_ok hin) hd (fun H1 locs1 a b z => kk H1 locs1 ⟨a, b, z⟩)
theorem xg_T_ups (F : CallFix p m c cc nL s args qtb own) (hK : va_K D qcl [(cI, .int)] s) (w : xW D ad cI A H0 S H locs) {index : Nat} (hl : Cond.fieldLink own index "CaptureSubtypes$Types" "ups" "[I" ∈ qtb) (hd : decode cc pc = .ok (.getfield index, 3)) (kk : W p l e R s m args below meth c H locs cells slots Q (F0 m (pc + 3) ls (.ref (ad 21) :: rest))) : W p l e R s m args below meth c H locs cells slots Q (F0 m pc ls (.ref (ad 2) :: rest)) := va_get (D := D) (ci := 1) (v := .ref (ad 21)) (C := qR_T) (T := qF_T) (N := 10) F.1 F.2.1 F.2.2.2.2 qi_T F.2.2.2.1 hK w.1 2 rfl rfl 8 (by decide) (F.2.2.2.2 _ hl) (fun _ h9 => h9) rfl hd kk
theorem xl_T_ups (F : CallFix p m c cc nL s args qtb own) (hK : va_K D qcl [(cI, .int)] s) (w : xW D ad cI A H0 S H locs) {i : Int32} (hin : qin i 2048 = true) (hd : decode cc pc = .ok (.iaload, 1)) (kk : W p l e R s m args below meth c H locs cells slots Q (F0 m (pc + 1) ls (.int (S 18 i.toNatClampNeg) :: rest))) : W p l e R s m args below meth c H locs cells slots Q (F0 m pc ls (.int i :: .ref (ad 21) :: rest)) := va_iald F.1 F.2.1 hK w.1 21 0 rfl rfl (qin_ok hin) hd kk
theorem xs_T_ups (F : CallFix p m c cc nL s args qtb own) (hK : va_K D qcl [(cI, .int)] s) (w : xW D ad cI A H0 S H locs) {i v : Int32} (hin : qin i 2048 = true) (hd : decode cc pc = .ok (.iastore, 1)) (kk : ∀ (H1 : Heap) (locs1 : List Loc), xW D ad cI A H0 (qwr S 18 i.toNatClampNeg v) H1 locs1 → W p l e R s m args below meth c H1 locs1 cells slots Q (F0 m (pc + 1) ls rest)) : W p l e R s m args below meth c H locs cells slots Q (F0 m pc ls (.int v :: .int i :: .ref (ad 21) :: rest)) := va_iast F.1 F.2.1 hK w.1 w.2.1 w.2.2 21 0 rfl rfl (qin_ok hin) hd (fun H1 locs1 a b z => kk H1 locs1 ⟨a, b, z⟩)
theorem xg_T_lows (F : CallFix p m c cc nL s args qtb own) (hK : va_K D qcl [(cI, .int)] s) (w : xW D ad cI A H0 S H locs) {index : Nat} (hl : Cond.fieldLink own index "CaptureSubtypes$Types" "lows" "[I" ∈ qtb) (hd : decode cc pc = .ok (.getfield index, 3)) (kk : W p l e R s m args below meth c H locs cells slots Q (F0 m (pc + 3) ls (.ref (ad 22) :: rest))) : W p l e R s m args below meth c H locs cells slots Q (F0 m pc ls (.ref (ad 2) :: rest)) := va_get (D := D) (ci := 1) (v := .ref (ad 22)) (C := qR_T) (T := qF_T) (N := 10) F.1 F.2.1 F.2.2.2.2 qi_T F.2.2.2.1 hK w.1 2 rfl rfl 9 (by decide) (F.2.2.2.2 _ hl) (fun _ h9 => h9) rfl hd kk
theorem xl_T_lows (F : CallFix p m c cc nL s args qtb own) (hK : va_K D qcl [(cI, .int)] s) (w : xW D ad cI A H0 S H locs) {i : Int32} (hin : qin i 2048 = true) (hd : decode cc pc = .ok (.iaload, 1)) (kk : W p l e R s m args below meth c H locs cells slots Q (F0 m (pc + 1) ls (.int (S 19 i.toNatClampNeg) :: rest))) : W p l e R s m args below meth c H locs cells slots Q (F0 m pc ls (.int i :: .ref (ad 22) :: rest)) := va_iald F.1 F.2.1 hK w.1 22 0 rfl rfl (qin_ok hin) hd kk
theorem xs_T_lows (F : CallFix p m c cc nL s args qtb own) (hK : va_K D qcl [(cI, .int)] s) (w : xW D ad cI A H0 S H locs) {i v : Int32} (hin : qin i 2048 = true) (hd : decode cc pc = .ok (.iastore, 1)) (kk : ∀ (H1 : Heap) (locs1 : List Loc), xW D ad cI A H0 (qwr S 19 i.toNatClampNeg v) H1 locs1 → W p l e R s m args below meth c H1 locs1 cells slots Q (F0 m (pc + 1) ls rest)) : W p l e R s m args below meth c H locs cells slots Q (F0 m pc ls (.int v :: .int i :: .ref (ad 22) :: rest)) := va_iast F.1 F.2.1 hK w.1 w.2.1 w.2.2 22 0 rfl rfl (qin_ok hin) hd (fun H1 locs1 a b z => kk H1 locs1 ⟨a, b, z⟩)
theorem xg_S_classes (F : CallFix p m c cc nL s args qtb own) (hK : va_K D qcl [(cI, .int)] s) (w : xW D ad cI A H0 S H locs) {index : Nat} (hl : Cond.fieldLink own index "CaptureSubtypes$Shapes" "classes" "LCaptureSubtypes$Classes;" ∈ qtb) (hd : decode cc pc = .ok (.getfield index, 3)) (kk : W p l e R s m args below meth c H locs cells slots Q (F0 m (pc + 3) ls (.ref (ad 1) :: rest))) : W p l e R s m args below meth c H locs cells slots Q (F0 m pc ls (.ref (ad 3) :: rest)) := va_get (D := D) (ci := 2) (v := .ref (ad 1)) (C := qR_S) (T := qF_S) (N := 2) F.1 F.2.1 F.2.2.2.2 qi_S F.2.2.2.1 hK w.1 3 rfl rfl 0 (by decide) (F.2.2.2.2 _ hl) (fun _ h9 => h9) rfl hd kk
theorem xg_S_types (F : CallFix p m c cc nL s args qtb own) (hK : va_K D qcl [(cI, .int)] s) (w : xW D ad cI A H0 S H locs) {index : Nat} (hl : Cond.fieldLink own index "CaptureSubtypes$Shapes" "types" "LCaptureSubtypes$Types;" ∈ qtb) (hd : decode cc pc = .ok (.getfield index, 3)) (kk : W p l e R s m args below meth c H locs cells slots Q (F0 m (pc + 3) ls (.ref (ad 2) :: rest))) : W p l e R s m args below meth c H locs cells slots Q (F0 m pc ls (.ref (ad 3) :: rest)) := va_get (D := D) (ci := 2) (v := .ref (ad 2)) (C := qR_S) (T := qF_S) (N := 2) F.1 F.2.1 F.2.2.2.2 qi_S F.2.2.2.1 hK w.1 3 rfl rfl 1 (by decide) (F.2.2.2.2 _ hl) (fun _ h9 => h9) rfl hd kk
theorem xg_O_classes (F : CallFix p m c cc nL s args qtb own) (hK : va_K D qcl [(cI, .int)] s) (w : xW D ad cI A H0 S H locs) {index : Nat} (hl : Cond.fieldLink own index "CaptureSubtypes$Order" "classes" "LCaptureSubtypes$Classes;" ∈ qtb) (hd : decode cc pc = .ok (.getfield index, 3)) (kk : W p l e R s m args below meth c H locs cells slots Q (F0 m (pc + 3) ls (.ref (ad 1) :: rest))) : W p l e R s m args below meth c H locs cells slots Q (F0 m pc ls (.ref (ad 4) :: rest)) := va_get (D := D) (ci := 3) (v := .ref (ad 1)) (C := qR_O) (T := qF_O) (N := 3) F.1 F.2.1 F.2.2.2.2 qi_O F.2.2.2.1 hK w.1 4 rfl rfl 0 (by decide) (F.2.2.2.2 _ hl) (fun _ h9 => h9) rfl hd kk
theorem xg_O_types (F : CallFix p m c cc nL s args qtb own) (hK : va_K D qcl [(cI, .int)] s) (w : xW D ad cI A H0 S H locs) {index : Nat} (hl : Cond.fieldLink own index "CaptureSubtypes$Order" "types" "LCaptureSubtypes$Types;" ∈ qtb) (hd : decode cc pc = .ok (.getfield index, 3)) (kk : W p l e R s m args below meth c H locs cells slots Q (F0 m (pc + 3) ls (.ref (ad 2) :: rest))) : W p l e R s m args below meth c H locs cells slots Q (F0 m pc ls (.ref (ad 4) :: rest)) := va_get (D := D) (ci := 3) (v := .ref (ad 2)) (C := qR_O) (T := qF_O) (N := 3) F.1 F.2.1 F.2.2.2.2 qi_O F.2.2.2.1 hK w.1 4 rfl rfl 1 (by decide) (F.2.2.2.2 _ hl) (fun _ h9 => h9) rfl hd kk
theorem xg_O_shapes (F : CallFix p m c cc nL s args qtb own) (hK : va_K D qcl [(cI, .int)] s) (w : xW D ad cI A H0 S H locs) {index : Nat} (hl : Cond.fieldLink own index "CaptureSubtypes$Order" "shapes" "LCaptureSubtypes$Shapes;" ∈ qtb) (hd : decode cc pc = .ok (.getfield index, 3)) (kk : W p l e R s m args below meth c H locs cells slots Q (F0 m (pc + 3) ls (.ref (ad 3) :: rest))) : W p l e R s m args below meth c H locs cells slots Q (F0 m pc ls (.ref (ad 4) :: rest)) := va_get (D := D) (ci := 3) (v := .ref (ad 3)) (C := qR_O) (T := qF_O) (N := 3) F.1 F.2.1 F.2.2.2.2 qi_O F.2.2.2.1 hK w.1 4 rfl rfl 2 (by decide) (F.2.2.2.2 _ hl) (fun _ h9 => h9) rfl hd kk
theorem xg_U_classes (F : CallFix p m c cc nL s args qtb own) (hK : va_K D qcl [(cI, .int)] s) (w : xW D ad cI A H0 S H locs) {index : Nat} (hl : Cond.fieldLink own index "CaptureSubtypes$Turning" "classes" "LCaptureSubtypes$Classes;" ∈ qtb) (hd : decode cc pc = .ok (.getfield index, 3)) (kk : W p l e R s m args below meth c H locs cells slots Q (F0 m (pc + 3) ls (.ref (ad 1) :: rest))) : W p l e R s m args below meth c H locs cells slots Q (F0 m pc ls (.ref (ad 5) :: rest)) := va_get (D := D) (ci := 4) (v := .ref (ad 1)) (C := qR_U) (T := qF_U) (N := 4) F.1 F.2.1 F.2.2.2.2 qi_U F.2.2.2.1 hK w.1 5 rfl rfl 0 (by decide) (F.2.2.2.2 _ hl) (fun _ h9 => h9) rfl hd kk
theorem xg_U_types (F : CallFix p m c cc nL s args qtb own) (hK : va_K D qcl [(cI, .int)] s) (w : xW D ad cI A H0 S H locs) {index : Nat} (hl : Cond.fieldLink own index "CaptureSubtypes$Turning" "types" "LCaptureSubtypes$Types;" ∈ qtb) (hd : decode cc pc = .ok (.getfield index, 3)) (kk : W p l e R s m args below meth c H locs cells slots Q (F0 m (pc + 3) ls (.ref (ad 2) :: rest))) : W p l e R s m args below meth c H locs cells slots Q (F0 m pc ls (.ref (ad 5) :: rest)) := va_get (D := D) (ci := 4) (v := .ref (ad 2)) (C := qR_U) (T := qF_U) (N := 4) F.1 F.2.1 F.2.2.2.2 qi_U F.2.2.2.1 hK w.1 5 rfl rfl 1 (by decide) (F.2.2.2.2 _ hl) (fun _ h9 => h9) rfl hd kk
theorem xg_U_shapes (F : CallFix p m c cc nL s args qtb own) (hK : va_K D qcl [(cI, .int)] s) (w : xW D ad cI A H0 S H locs) {index : Nat} (hl : Cond.fieldLink own index "CaptureSubtypes$Turning" "shapes" "LCaptureSubtypes$Shapes;" ∈ qtb) (hd : decode cc pc = .ok (.getfield index, 3)) (kk : W p l e R s m args below meth c H locs cells slots Q (F0 m (pc + 3) ls (.ref (ad 3) :: rest))) : W p l e R s m args below meth c H locs cells slots Q (F0 m pc ls (.ref (ad 5) :: rest)) := va_get (D := D) (ci := 4) (v := .ref (ad 3)) (C := qR_U) (T := qF_U) (N := 4) F.1 F.2.1 F.2.2.2.2 qi_U F.2.2.2.1 hK w.1 5 rfl rfl 2 (by decide) (F.2.2.2.2 _ hl) (fun _ h9 => h9) rfl hd kk
theorem xg_U_order (F : CallFix p m c cc nL s args qtb own) (hK : va_K D qcl [(cI, .int)] s) (w : xW D ad cI A H0 S H locs) {index : Nat} (hl : Cond.fieldLink own index "CaptureSubtypes$Turning" "order" "LCaptureSubtypes$Order;" ∈ qtb) (hd : decode cc pc = .ok (.getfield index, 3)) (kk : W p l e R s m args below meth c H locs cells slots Q (F0 m (pc + 3) ls (.ref (ad 4) :: rest))) : W p l e R s m args below meth c H locs cells slots Q (F0 m pc ls (.ref (ad 5) :: rest)) := va_get (D := D) (ci := 4) (v := .ref (ad 4)) (C := qR_U) (T := qF_U) (N := 4) F.1 F.2.1 F.2.2.2.2 qi_U F.2.2.2.1 hK w.1 5 rfl rfl 3 (by decide) (F.2.2.2.2 _ hl) (fun _ h9 => h9) rfl hd kk
end xRows
end
section
/-- the cells of world m at the addresses ad, holding the state S -/
def mw (ad : Nat → Nat) (cI cZ : ClassId) (S : Nat → Nat → Int32) : va_W := [(ad 0, .inr (6, [.int (S 0 0), .ref (ad 1), .ref (ad 2), .ref (ad 3), .ref (ad 4), .ref (ad 5), .ref (ad 6), .int (S 7 0), .int (S 8 0), .ref (ad 7), .ref (ad 8), .ref (ad 9), .ref (ad 10), .ref (ad 11), .int (S 14 0), .ref (ad 12), .ref (ad 13), .ref (ad 14), .ref (ad 15), .ref (ad 16), .ref (ad 17), .ref (ad 18), .ref (ad 19), .ref (ad 20), .ref (ad 21), .ref (ad 22), .ref (ad 23), .ref (ad 24), .int (S 28 0), .ref (ad 25), .ref (ad 26), .ref (ad 27)])), (ad 1, .inl (cI, 12, .inl (S 1))), (ad 2, .inl (cI, 12, .inl (S 2))), (ad 3, .inl (cI, 36, .inl (S 3))), (ad 4, .inl (cI, 12, .inl (S 4))), (ad 5, .inl (cI, 48, .inl (S 5))), (ad 6, .inl (cI, 24, .inl (S 6))), (ad 7, .inl (cI, 9000, .inl (S 9))), (ad 8, .inl (cI, 9000, .inl (S 10))), (ad 9, .inl (cI, 9000, .inl (S 11))), (ad 10, .inl (cI, 9000, .inl (S 12))), (ad 11, .inl (cI, 9000, .inl (S 13))), (ad 12, .inl (cI, 9000, .inl (S 15))), (ad 13, .inl (cI, 3000, .inl (S 16))), (ad 14, .inl (cI, 3000, .inl (S 17))), (ad 15, .inl (cZ, 144, .inl (S 18))), (ad 16, .inl (cZ, 144, .inl (S 19))), (ad 17, .inl (cI, 9000, .inl (S 20))), (ad 18, .inl (cZ, 9000, .inl (S 21))), (ad 19, .inl (cI, 2, .inl (S 22))), (ad 20, .inl (cI, 3000, .inl (S 23))), (ad 21, .inl (cI, 3000, .inl (S 24))), (ad 22, .inl (cI, 3000, .inl (S 25))), (ad 23, .inl (cI, 3000, .inl (S 26))), (ad 24, .inl (cI, 3000, .inl (S 27))), (ad 25, .inl (cI, 3000, .inl (S 29))), (ad 26, .inl (cI, 3000, .inl (S 30))), (ad 27, .inl (cI, 144, .inl (S 31)))]
def mW (D : va_G) (ad : Nat → Nat) (cI cZ : ClassId) (A : Nat → Prop) (H0 : Heap) (S : Nat → Nat → Int32) (H : Heap) (locs : List Loc) : Prop := va_P D qcl (mw ad cI cZ S) H ∧ va_D A (mw ad cI cZ S) ∧ va_S A H0 H locs
theorem m_map (ad : Nat → Nat) (cI cZ : ClassId) (S S2 : Nat → Nat → Int32) : (mw ad cI cZ S).map (fun q => q.1) = (mw ad cI cZ S2).map (fun q => q.1) := rfl
theorem m_D {ad : Nat → Nat} {cI cZ : ClassId} {S : Nat → Nat → Int32} (S2 : Nat → Nat → Int32) {A : Nat → Prop} (h : va_D A (mw ad cI cZ S)) : va_D A (mw ad cI cZ S2) := q_D (m_map ad cI cZ S S2) h
theorem m_A {ad : Nat → Nat} {cI cZ : ClassId} {S : Nat → Nat → Int32} (S2 : Nat → Nat → Int32) {sz q : Nat} (h : va_A (mw ad cI cZ S) sz q) : va_A (mw ad cI cZ S2) sz q := q_A (m_map ad cI cZ S S2) h
theorem m_free {D : va_G} {ad : Nat → Nat} {cI cZ : ClassId} {A : Nat → Prop} {H0 H : Heap} {locs : List Loc} {S : Nat → Nat → Int32} (w : mW D ad cI cZ A H0 S H locs) (hA : ∀ q, H0.size ≤ q → A q) : ∀ q, va_A (mw ad cI cZ S) H.size q → A q := va_free w.2.1 w.2.2 hA [0, 1, 2, 3, 4, 5, 6, 7, 8, 9, 10, 11, 12, 13, 14, 15, 16, 17, 18, 19, 20, 21, 22, 23, 24, 25, 26, 27] rfl
section mRows
variable {p : Program} {l : Launch} {e : Env} {R : Room} {s : State} {m : MethodId} {args : Array Value} {below : List Frame} {meth : Method} {c : Code} {H : Heap} {locs : List Loc} {cells slots : Nat} {Q : State → Prop} {cc : ByteArray} {nL pc : Nat} {own : String} {ls : Array Slot} {rest : List Value} {D : va_G} {ad : Nat → Nat} {cI cZ : ClassId} {A : Nat → Prop} {H0 : Heap} {S : Nat → Nat → Int32}
theorem mg_M_classes (F : CallFix p m c cc nL s args qtb own) (hK : va_K D qcl [(cI, .int), (cZ, .boolean)] s) (w : mW D ad cI cZ A H0 S H locs) {index : Nat} (hl : Cond.fieldLink own index "CaptureSubtypesModel" "classes" "I" ∈ qtb) (hd : decode cc pc = .ok (.getfield index, 3)) (kk : W p l e R s m args below meth c H locs cells slots Q (F0 m (pc + 3) ls (.int (S 0 0) :: rest))) : W p l e R s m args below meth c H locs cells slots Q (F0 m pc ls (.ref (ad 0) :: rest)) := va_get (D := D) (ci := 6) (v := .int (S 0 0)) (C := qR_M) (T := qF_M) (N := 32) F.1 F.2.1 F.2.2.2.2 qi_M F.2.2.2.1 hK w.1 0 rfl rfl 0 (by decide) (F.2.2.2.2 _ hl) (fun _ h9 => h9) rfl hd kk
theorem mp_M_classes (F : CallFix p m c cc nL s args qtb own) (hK : va_K D qcl [(cI, .int), (cZ, .boolean)] s) (w : mW D ad cI cZ A H0 S H locs) {index : Nat} {v : Int32} (hl : Cond.fieldLink own index "CaptureSubtypesModel" "classes" "I" ∈ qtb) (hd : decode cc pc = .ok (.putfield index, 3)) (kk : ∀ (H1 : Heap) (locs1 : List Loc), mW D ad cI cZ A H0 (qwr S 0 0 v) H1 locs1 → W p l e R s m args below meth c H1 locs1 cells slots Q (F0 m (pc + 3) ls rest)) : W p l e R s m args below meth c H locs cells slots Q (F0 m pc ls (.int v :: .ref (ad 0) :: rest)) := va_put (D := D) (ci := 6) (v := .int v) (ty := .int) (C := qR_M) (T := qF_M) (N := 32) F.1 F.2.1 F.2.2.2.2 qi_M qt_M qt_M_ok qn_M F.2.2.2.1 hK w.1 w.2.1 w.2.2 0 rfl rfl 0 (by decide) (F.2.2.2.2 _ hl) (fun _ h9 => h9) rfl (by decide +kernel) rfl rfl (Nat.le_of_ble_eq_true rfl) hd (fun H1 locs1 a b z => kk H1 locs1 ⟨a, b, z⟩)
theorem mg_M_kinds (F : CallFix p m c cc nL s args qtb own) (hK : va_K D qcl [(cI, .int), (cZ, .boolean)] s) (w : mW D ad cI cZ A H0 S H locs) {index : Nat} (hl : Cond.fieldLink own index "CaptureSubtypesModel" "kinds" "[I" ∈ qtb) (hd : decode cc pc = .ok (.getfield index, 3)) (kk : W p l e R s m args below meth c H locs cells slots Q (F0 m (pc + 3) ls (.ref (ad 1) :: rest))) : W p l e R s m args below meth c H locs cells slots Q (F0 m pc ls (.ref (ad 0) :: rest)) := va_get (D := D) (ci := 6) (v := .ref (ad 1)) (C := qR_M) (T := qF_M) (N := 32) F.1 F.2.1 F.2.2.2.2 qi_M F.2.2.2.1 hK w.1 0 rfl rfl 1 (by decide) (F.2.2.2.2 _ hl) (fun _ h9 => h9) rfl hd kk
theorem ml_M_kinds (F : CallFix p m c cc nL s args qtb own) (hK : va_K D qcl [(cI, .int), (cZ, .boolean)] s) (w : mW D ad cI cZ A H0 S H locs) {i : Int32} (hin : qin i 12 = true) (hd : decode cc pc = .ok (.iaload, 1)) (kk : W p l e R s m args below meth c H locs cells slots Q (F0 m (pc + 1) ls (.int (S 1 i.toNatClampNeg) :: rest))) : W p l e R s m args below meth c H locs cells slots Q (F0 m pc ls (.int i :: .ref (ad 1) :: rest)) := va_iald F.1 F.2.1 hK w.1 1 0 rfl rfl (qin_ok hin) hd kk
theorem ms_M_kinds (F : CallFix p m c cc nL s args qtb own) (hK : va_K D qcl [(cI, .int), (cZ, .boolean)] s) (w : mW D ad cI cZ A H0 S H locs) {i v : Int32} (hin : qin i 12 = true) (hd : decode cc pc = .ok (.iastore, 1)) (kk : ∀ (H1 : Heap) (locs1 : List Loc), mW D ad cI cZ A H0 (qwr S 1 i.toNatClampNeg v) H1 locs1 → W p l e R s m args below meth c H1 locs1 cells slots Q (F0 m (pc + 1) ls rest)) : W p l e R s m args below meth c H locs cells slots Q (F0 m pc ls (.int v :: .int i :: .ref (ad 1) :: rest)) := va_iast F.1 F.2.1 hK w.1 w.2.1 w.2.2 1 0 rfl rfl (qin_ok hin) hd (fun H1 locs1 a b z => kk H1 locs1 ⟨a, b, z⟩)
theorem mg_M_parameters (F : CallFix p m c cc nL s args qtb own) (hK : va_K D qcl [(cI, .int), (cZ, .boolean)] s) (w : mW D ad cI cZ A H0 S H locs) {index : Nat} (hl : Cond.fieldLink own index "CaptureSubtypesModel" "parameters" "[I" ∈ qtb) (hd : decode cc pc = .ok (.getfield index, 3)) (kk : W p l e R s m args below meth c H locs cells slots Q (F0 m (pc + 3) ls (.ref (ad 2) :: rest))) : W p l e R s m args below meth c H locs cells slots Q (F0 m pc ls (.ref (ad 0) :: rest)) := va_get (D := D) (ci := 6) (v := .ref (ad 2)) (C := qR_M) (T := qF_M) (N := 32) F.1 F.2.1 F.2.2.2.2 qi_M F.2.2.2.1 hK w.1 0 rfl rfl 2 (by decide) (F.2.2.2.2 _ hl) (fun _ h9 => h9) rfl hd kk
theorem ml_M_parameters (F : CallFix p m c cc nL s args qtb own) (hK : va_K D qcl [(cI, .int), (cZ, .boolean)] s) (w : mW D ad cI cZ A H0 S H locs) {i : Int32} (hin : qin i 12 = true) (hd : decode cc pc = .ok (.iaload, 1)) (kk : W p l e R s m args below meth c H locs cells slots Q (F0 m (pc + 1) ls (.int (S 2 i.toNatClampNeg) :: rest))) : W p l e R s m args below meth c H locs cells slots Q (F0 m pc ls (.int i :: .ref (ad 2) :: rest)) := va_iald F.1 F.2.1 hK w.1 2 0 rfl rfl (qin_ok hin) hd kk
theorem ms_M_parameters (F : CallFix p m c cc nL s args qtb own) (hK : va_K D qcl [(cI, .int), (cZ, .boolean)] s) (w : mW D ad cI cZ A H0 S H locs) {i v : Int32} (hin : qin i 12 = true) (hd : decode cc pc = .ok (.iastore, 1)) (kk : ∀ (H1 : Heap) (locs1 : List Loc), mW D ad cI cZ A H0 (qwr S 2 i.toNatClampNeg v) H1 locs1 → W p l e R s m args below meth c H1 locs1 cells slots Q (F0 m (pc + 1) ls rest)) : W p l e R s m args below meth c H locs cells slots Q (F0 m pc ls (.int v :: .int i :: .ref (ad 2) :: rest)) := va_iast F.1 F.2.1 hK w.1 w.2.1 w.2.2 2 0 rfl rfl (qin_ok hin) hd (fun H1 locs1 a b z => kk H1 locs1 ⟨a, b, z⟩)
theorem mg_M_supers (F : CallFix p m c cc nL s args qtb own) (hK : va_K D qcl [(cI, .int), (cZ, .boolean)] s) (w : mW D ad cI cZ A H0 S H locs) {index : Nat} (hl : Cond.fieldLink own index "CaptureSubtypesModel" "supers" "[I" ∈ qtb) (hd : decode cc pc = .ok (.getfield index, 3)) (kk : W p l e R s m args below meth c H locs cells slots Q (F0 m (pc + 3) ls (.ref (ad 3) :: rest))) : W p l e R s m args below meth c H locs cells slots Q (F0 m pc ls (.ref (ad 0) :: rest)) := va_get (D := D) (ci := 6) (v := .ref (ad 3)) (C := qR_M) (T := qF_M) (N := 32) F.1 F.2.1 F.2.2.2.2 qi_M F.2.2.2.1 hK w.1 0 rfl rfl 3 (by decide) (F.2.2.2.2 _ hl) (fun _ h9 => h9) rfl hd kk
theorem ml_M_supers (F : CallFix p m c cc nL s args qtb own) (hK : va_K D qcl [(cI, .int), (cZ, .boolean)] s) (w : mW D ad cI cZ A H0 S H locs) {i : Int32} (hin : qin i 36 = true) (hd : decode cc pc = .ok (.iaload, 1)) (kk : W p l e R s m args below meth c H locs cells slots Q (F0 m (pc + 1) ls (.int (S 3 i.toNatClampNeg) :: rest))) : W p l e R s m args below meth c H locs cells slots Q (F0 m pc ls (.int i :: .ref (ad 3) :: rest)) := va_iald F.1 F.2.1 hK w.1 3 0 rfl rfl (qin_ok hin) hd kk
theorem ms_M_supers (F : CallFix p m c cc nL s args qtb own) (hK : va_K D qcl [(cI, .int), (cZ, .boolean)] s) (w : mW D ad cI cZ A H0 S H locs) {i v : Int32} (hin : qin i 36 = true) (hd : decode cc pc = .ok (.iastore, 1)) (kk : ∀ (H1 : Heap) (locs1 : List Loc), mW D ad cI cZ A H0 (qwr S 3 i.toNatClampNeg v) H1 locs1 → W p l e R s m args below meth c H1 locs1 cells slots Q (F0 m (pc + 1) ls rest)) : W p l e R s m args below meth c H locs cells slots Q (F0 m pc ls (.int v :: .int i :: .ref (ad 3) :: rest)) := va_iast F.1 F.2.1 hK w.1 w.2.1 w.2.2 3 0 rfl rfl (qin_ok hin) hd (fun H1 locs1 a b z => kk H1 locs1 ⟨a, b, z⟩)
theorem mg_M_others (F : CallFix p m c cc nL s args qtb own) (hK : va_K D qcl [(cI, .int), (cZ, .boolean)] s) (w : mW D ad cI cZ A H0 S H locs) {index : Nat} (hl : Cond.fieldLink own index "CaptureSubtypesModel" "others" "[I" ∈ qtb) (hd : decode cc pc = .ok (.getfield index, 3)) (kk : W p l e R s m args below meth c H locs cells slots Q (F0 m (pc + 3) ls (.ref (ad 4) :: rest))) : W p l e R s m args below meth c H locs cells slots Q (F0 m pc ls (.ref (ad 0) :: rest)) := va_get (D := D) (ci := 6) (v := .ref (ad 4)) (C := qR_M) (T := qF_M) (N := 32) F.1 F.2.1 F.2.2.2.2 qi_M F.2.2.2.1 hK w.1 0 rfl rfl 4 (by decide) (F.2.2.2.2 _ hl) (fun _ h9 => h9) rfl hd kk
theorem ml_M_others (F : CallFix p m c cc nL s args qtb own) (hK : va_K D qcl [(cI, .int), (cZ, .boolean)] s) (w : mW D ad cI cZ A H0 S H locs) {i : Int32} (hin : qin i 12 = true) (hd : decode cc pc = .ok (.iaload, 1)) (kk : W p l e R s m args below meth c H locs cells slots Q (F0 m (pc + 1) ls (.int (S 4 i.toNatClampNeg) :: rest))) : W p l e R s m args below meth c H locs cells slots Q (F0 m pc ls (.int i :: .ref (ad 4) :: rest)) := va_iald F.1 F.2.1 hK w.1 4 0 rfl rfl (qin_ok hin) hd kk
theorem ms_M_others (F : CallFix p m c cc nL s args qtb own) (hK : va_K D qcl [(cI, .int), (cZ, .boolean)] s) (w : mW D ad cI cZ A H0 S H locs) {i v : Int32} (hin : qin i 12 = true) (hd : decode cc pc = .ok (.iastore, 1)) (kk : ∀ (H1 : Heap) (locs1 : List Loc), mW D ad cI cZ A H0 (qwr S 4 i.toNatClampNeg v) H1 locs1 → W p l e R s m args below meth c H1 locs1 cells slots Q (F0 m (pc + 1) ls rest)) : W p l e R s m args below meth c H locs cells slots Q (F0 m pc ls (.int v :: .int i :: .ref (ad 4) :: rest)) := va_iast F.1 F.2.1 hK w.1 w.2.1 w.2.2 4 0 rfl rfl (qin_ok hin) hd (fun H1 locs1 a b z => kk H1 locs1 ⟨a, b, z⟩)
theorem mg_M_bound (F : CallFix p m c cc nL s args qtb own) (hK : va_K D qcl [(cI, .int), (cZ, .boolean)] s) (w : mW D ad cI cZ A H0 S H locs) {index : Nat} (hl : Cond.fieldLink own index "CaptureSubtypesModel" "bound" "[I" ∈ qtb) (hd : decode cc pc = .ok (.getfield index, 3)) (kk : W p l e R s m args below meth c H locs cells slots Q (F0 m (pc + 3) ls (.ref (ad 5) :: rest))) : W p l e R s m args below meth c H locs cells slots Q (F0 m pc ls (.ref (ad 0) :: rest)) := va_get (D := D) (ci := 6) (v := .ref (ad 5)) (C := qR_M) (T := qF_M) (N := 32) F.1 F.2.1 F.2.2.2.2 qi_M F.2.2.2.1 hK w.1 0 rfl rfl 5 (by decide) (F.2.2.2.2 _ hl) (fun _ h9 => h9) rfl hd kk
theorem ml_M_bound (F : CallFix p m c cc nL s args qtb own) (hK : va_K D qcl [(cI, .int), (cZ, .boolean)] s) (w : mW D ad cI cZ A H0 S H locs) {i : Int32} (hin : qin i 48 = true) (hd : decode cc pc = .ok (.iaload, 1)) (kk : W p l e R s m args below meth c H locs cells slots Q (F0 m (pc + 1) ls (.int (S 5 i.toNatClampNeg) :: rest))) : W p l e R s m args below meth c H locs cells slots Q (F0 m pc ls (.int i :: .ref (ad 5) :: rest)) := va_iald F.1 F.2.1 hK w.1 5 0 rfl rfl (qin_ok hin) hd kk
theorem ms_M_bound (F : CallFix p m c cc nL s args qtb own) (hK : va_K D qcl [(cI, .int), (cZ, .boolean)] s) (w : mW D ad cI cZ A H0 S H locs) {i v : Int32} (hin : qin i 48 = true) (hd : decode cc pc = .ok (.iastore, 1)) (kk : ∀ (H1 : Heap) (locs1 : List Loc), mW D ad cI cZ A H0 (qwr S 5 i.toNatClampNeg v) H1 locs1 → W p l e R s m args below meth c H1 locs1 cells slots Q (F0 m (pc + 1) ls rest)) : W p l e R s m args below meth c H locs cells slots Q (F0 m pc ls (.int v :: .int i :: .ref (ad 5) :: rest)) := va_iast F.1 F.2.1 hK w.1 w.2.1 w.2.2 5 0 rfl rfl (qin_ok hin) hd (fun H1 locs1 a b z => kk H1 locs1 ⟨a, b, z⟩)
theorem mg_M_bounds (F : CallFix p m c cc nL s args qtb own) (hK : va_K D qcl [(cI, .int), (cZ, .boolean)] s) (w : mW D ad cI cZ A H0 S H locs) {index : Nat} (hl : Cond.fieldLink own index "CaptureSubtypesModel" "bounds" "[I" ∈ qtb) (hd : decode cc pc = .ok (.getfield index, 3)) (kk : W p l e R s m args below meth c H locs cells slots Q (F0 m (pc + 3) ls (.ref (ad 6) :: rest))) : W p l e R s m args below meth c H locs cells slots Q (F0 m pc ls (.ref (ad 0) :: rest)) := va_get (D := D) (ci := 6) (v := .ref (ad 6)) (C := qR_M) (T := qF_M) (N := 32) F.1 F.2.1 F.2.2.2.2 qi_M F.2.2.2.1 hK w.1 0 rfl rfl 6 (by decide) (F.2.2.2.2 _ hl) (fun _ h9 => h9) rfl hd kk
theorem ml_M_bounds (F : CallFix p m c cc nL s args qtb own) (hK : va_K D qcl [(cI, .int), (cZ, .boolean)] s) (w : mW D ad cI cZ A H0 S H locs) {i : Int32} (hin : qin i 24 = true) (hd : decode cc pc = .ok (.iaload, 1)) (kk : W p l e R s m args below meth c H locs cells slots Q (F0 m (pc + 1) ls (.int (S 6 i.toNatClampNeg) :: rest))) : W p l e R s m args below meth c H locs cells slots Q (F0 m pc ls (.int i :: .ref (ad 6) :: rest)) := va_iald F.1 F.2.1 hK w.1 6 0 rfl rfl (qin_ok hin) hd kk
theorem ms_M_bounds (F : CallFix p m c cc nL s args qtb own) (hK : va_K D qcl [(cI, .int), (cZ, .boolean)] s) (w : mW D ad cI cZ A H0 S H locs) {i v : Int32} (hin : qin i 24 = true) (hd : decode cc pc = .ok (.iastore, 1)) (kk : ∀ (H1 : Heap) (locs1 : List Loc), mW D ad cI cZ A H0 (qwr S 6 i.toNatClampNeg v) H1 locs1 → W p l e R s m args below meth c H1 locs1 cells slots Q (F0 m (pc + 1) ls rest)) : W p l e R s m args below meth c H locs cells slots Q (F0 m pc ls (.int v :: .int i :: .ref (ad 6) :: rest)) := va_iast F.1 F.2.1 hK w.1 w.2.1 w.2.2 6 0 rfl rfl (qin_ok hin) hd (fun H1 locs1 a b z => kk H1 locs1 ⟨a, b, z⟩)
theorem mg_M_types (F : CallFix p m c cc nL s args qtb own) (hK : va_K D qcl [(cI, .int), (cZ, .boolean)] s) (w : mW D ad cI cZ A H0 S H locs) {index : Nat} (hl : Cond.fieldLink own index "CaptureSubtypesModel" "types" "I" ∈ qtb) (hd : decode cc pc = .ok (.getfield index, 3)) (kk : W p l e R s m args below meth c H locs cells slots Q (F0 m (pc + 3) ls (.int (S 7 0) :: rest))) : W p l e R s m args below meth c H locs cells slots Q (F0 m pc ls (.ref (ad 0) :: rest)) := va_get (D := D) (ci := 6) (v := .int (S 7 0)) (C := qR_M) (T := qF_M) (N := 32) F.1 F.2.1 F.2.2.2.2 qi_M F.2.2.2.1 hK w.1 0 rfl rfl 7 (by decide) (F.2.2.2.2 _ hl) (fun _ h9 => h9) rfl hd kk
theorem mp_M_types (F : CallFix p m c cc nL s args qtb own) (hK : va_K D qcl [(cI, .int), (cZ, .boolean)] s) (w : mW D ad cI cZ A H0 S H locs) {index : Nat} {v : Int32} (hl : Cond.fieldLink own index "CaptureSubtypesModel" "types" "I" ∈ qtb) (hd : decode cc pc = .ok (.putfield index, 3)) (kk : ∀ (H1 : Heap) (locs1 : List Loc), mW D ad cI cZ A H0 (qwr S 7 0 v) H1 locs1 → W p l e R s m args below meth c H1 locs1 cells slots Q (F0 m (pc + 3) ls rest)) : W p l e R s m args below meth c H locs cells slots Q (F0 m pc ls (.int v :: .ref (ad 0) :: rest)) := va_put (D := D) (ci := 6) (v := .int v) (ty := .int) (C := qR_M) (T := qF_M) (N := 32) F.1 F.2.1 F.2.2.2.2 qi_M qt_M qt_M_ok qn_M F.2.2.2.1 hK w.1 w.2.1 w.2.2 0 rfl rfl 7 (by decide) (F.2.2.2.2 _ hl) (fun _ h9 => h9) rfl (by decide +kernel) rfl rfl (Nat.le_of_ble_eq_true rfl) hd (fun H1 locs1 a b z => kk H1 locs1 ⟨a, b, z⟩)
theorem mg_M_pool (F : CallFix p m c cc nL s args qtb own) (hK : va_K D qcl [(cI, .int), (cZ, .boolean)] s) (w : mW D ad cI cZ A H0 S H locs) {index : Nat} (hl : Cond.fieldLink own index "CaptureSubtypesModel" "pool" "I" ∈ qtb) (hd : decode cc pc = .ok (.getfield index, 3)) (kk : W p l e R s m args below meth c H locs cells slots Q (F0 m (pc + 3) ls (.int (S 8 0) :: rest))) : W p l e R s m args below meth c H locs cells slots Q (F0 m pc ls (.ref (ad 0) :: rest)) := va_get (D := D) (ci := 6) (v := .int (S 8 0)) (C := qR_M) (T := qF_M) (N := 32) F.1 F.2.1 F.2.2.2.2 qi_M F.2.2.2.1 hK w.1 0 rfl rfl 8 (by decide) (F.2.2.2.2 _ hl) (fun _ h9 => h9) rfl hd kk
theorem mp_M_pool (F : CallFix p m c cc nL s args qtb own) (hK : va_K D qcl [(cI, .int), (cZ, .boolean)] s) (w : mW D ad cI cZ A H0 S H locs) {index : Nat} {v : Int32} (hl : Cond.fieldLink own index "CaptureSubtypesModel" "pool" "I" ∈ qtb) (hd : decode cc pc = .ok (.putfield index, 3)) (kk : ∀ (H1 : Heap) (locs1 : List Loc), mW D ad cI cZ A H0 (qwr S 8 0 v) H1 locs1 → W p l e R s m args below meth c H1 locs1 cells slots Q (F0 m (pc + 3) ls rest)) : W p l e R s m args below meth c H locs cells slots Q (F0 m pc ls (.int v :: .ref (ad 0) :: rest)) := va_put (D := D) (ci := 6) (v := .int v) (ty := .int) (C := qR_M) (T := qF_M) (N := 32) F.1 F.2.1 F.2.2.2.2 qi_M qt_M qt_M_ok qn_M F.2.2.2.1 hK w.1 w.2.1 w.2.2 0 rfl rfl 8 (by decide) (F.2.2.2.2 _ hl) (fun _ h9 => h9) rfl (by decide +kernel) rfl rfl (Nat.le_of_ble_eq_true rfl) hd (fun H1 locs1 a b z => kk H1 locs1 ⟨a, b, z⟩)
theorem mg_M_sort (F : CallFix p m c cc nL s args qtb own) (hK : va_K D qcl [(cI, .int), (cZ, .boolean)] s) (w : mW D ad cI cZ A H0 S H locs) {index : Nat} (hl : Cond.fieldLink own index "CaptureSubtypesModel" "sort" "[I" ∈ qtb) (hd : decode cc pc = .ok (.getfield index, 3)) (kk : W p l e R s m args below meth c H locs cells slots Q (F0 m (pc + 3) ls (.ref (ad 7) :: rest))) : W p l e R s m args below meth c H locs cells slots Q (F0 m pc ls (.ref (ad 0) :: rest)) := va_get (D := D) (ci := 6) (v := .ref (ad 7)) (C := qR_M) (T := qF_M) (N := 32) F.1 F.2.1 F.2.2.2.2 qi_M F.2.2.2.1 hK w.1 0 rfl rfl 9 (by decide) (F.2.2.2.2 _ hl) (fun _ h9 => h9) rfl hd kk
theorem ml_M_sort (F : CallFix p m c cc nL s args qtb own) (hK : va_K D qcl [(cI, .int), (cZ, .boolean)] s) (w : mW D ad cI cZ A H0 S H locs) {i : Int32} (hin : qin i 9000 = true) (hd : decode cc pc = .ok (.iaload, 1)) (kk : W p l e R s m args below meth c H locs cells slots Q (F0 m (pc + 1) ls (.int (S 9 i.toNatClampNeg) :: rest))) : W p l e R s m args below meth c H locs cells slots Q (F0 m pc ls (.int i :: .ref (ad 7) :: rest)) := va_iald F.1 F.2.1 hK w.1 7 0 rfl rfl (qin_ok hin) hd kk
theorem ms_M_sort (F : CallFix p m c cc nL s args qtb own) (hK : va_K D qcl [(cI, .int), (cZ, .boolean)] s) (w : mW D ad cI cZ A H0 S H locs) {i v : Int32} (hin : qin i 9000 = true) (hd : decode cc pc = .ok (.iastore, 1)) (kk : ∀ (H1 : Heap) (locs1 : List Loc), mW D ad cI cZ A H0 (qwr S 9 i.toNatClampNeg v) H1 locs1 → W p l e R s m args below meth c H1 locs1 cells slots Q (F0 m (pc + 1) ls rest)) : W p l e R s m args below meth c H locs cells slots Q (F0 m pc ls (.int v :: .int i :: .ref (ad 7) :: rest)) := va_iast F.1 F.2.1 hK w.1 w.2.1 w.2.2 7 0 rfl rfl (qin_ok hin) hd (fun H1 locs1 a b z => kk H1 locs1 ⟨a, b, z⟩)
theorem mg_M_first (F : CallFix p m c cc nL s args qtb own) (hK : va_K D qcl [(cI, .int), (cZ, .boolean)] s) (w : mW D ad cI cZ A H0 S H locs) {index : Nat} (hl : Cond.fieldLink own index "CaptureSubtypesModel" "first" "[I" ∈ qtb) (hd : decode cc pc = .ok (.getfield index, 3)) (kk : W p l e R s m args below meth c H locs cells slots Q (F0 m (pc + 3) ls (.ref (ad 8) :: rest))) : W p l e R s m args below meth c H locs cells slots Q (F0 m pc ls (.ref (ad 0) :: rest)) := va_get (D := D) (ci := 6) (v := .ref (ad 8)) (C := qR_M) (T := qF_M) (N := 32) F.1 F.2.1 F.2.2.2.2 qi_M F.2.2.2.1 hK w.1 0 rfl rfl 10 (by decide) (F.2.2.2.2 _ hl) (fun _ h9 => h9) rfl hd kk
theorem ml_M_first (F : CallFix p m c cc nL s args qtb own) (hK : va_K D qcl [(cI, .int), (cZ, .boolean)] s) (w : mW D ad cI cZ A H0 S H locs) {i : Int32} (hin : qin i 9000 = true) (hd : decode cc pc = .ok (.iaload, 1)) (kk : W p l e R s m args below meth c H locs cells slots Q (F0 m (pc + 1) ls (.int (S 10 i.toNatClampNeg) :: rest))) : W p l e R s m args below meth c H locs cells slots Q (F0 m pc ls (.int i :: .ref (ad 8) :: rest)) := va_iald F.1 F.2.1 hK w.1 8 0 rfl rfl (qin_ok hin) hd kk
theorem ms_M_first (F : CallFix p m c cc nL s args qtb own) (hK : va_K D qcl [(cI, .int), (cZ, .boolean)] s) (w : mW D ad cI cZ A H0 S H locs) {i v : Int32} (hin : qin i 9000 = true) (hd : decode cc pc = .ok (.iastore, 1)) (kk : ∀ (H1 : Heap) (locs1 : List Loc), mW D ad cI cZ A H0 (qwr S 10 i.toNatClampNeg v) H1 locs1 → W p l e R s m args below meth c H1 locs1 cells slots Q (F0 m (pc + 1) ls rest)) : W p l e R s m args below meth c H locs cells slots Q (F0 m pc ls (.int v :: .int i :: .ref (ad 8) :: rest)) := va_iast F.1 F.2.1 hK w.1 w.2.1 w.2.2 8 0 rfl rfl (qin_ok hin) hd (fun H1 locs1 a b z => kk H1 locs1 ⟨a, b, z⟩)
theorem mg_M_second (F : CallFix p m c cc nL s args qtb own) (hK : va_K D qcl [(cI, .int), (cZ, .boolean)] s) (w : mW D ad cI cZ A H0 S H locs) {index : Nat} (hl : Cond.fieldLink own index "CaptureSubtypesModel" "second" "[I" ∈ qtb) (hd : decode cc pc = .ok (.getfield index, 3)) (kk : W p l e R s m args below meth c H locs cells slots Q (F0 m (pc + 3) ls (.ref (ad 9) :: rest))) : W p l e R s m args below meth c H locs cells slots Q (F0 m pc ls (.ref (ad 0) :: rest)) := va_get (D := D) (ci := 6) (v := .ref (ad 9)) (C := qR_M) (T := qF_M) (N := 32) F.1 F.2.1 F.2.2.2.2 qi_M F.2.2.2.1 hK w.1 0 rfl rfl 11 (by decide) (F.2.2.2.2 _ hl) (fun _ h9 => h9) rfl hd kk
theorem ml_M_second (F : CallFix p m c cc nL s args qtb own) (hK : va_K D qcl [(cI, .int), (cZ, .boolean)] s) (w : mW D ad cI cZ A H0 S H locs) {i : Int32} (hin : qin i 9000 = true) (hd : decode cc pc = .ok (.iaload, 1)) (kk : W p l e R s m args below meth c H locs cells slots Q (F0 m (pc + 1) ls (.int (S 11 i.toNatClampNeg) :: rest))) : W p l e R s m args below meth c H locs cells slots Q (F0 m pc ls (.int i :: .ref (ad 9) :: rest)) := va_iald F.1 F.2.1 hK w.1 9 0 rfl rfl (qin_ok hin) hd kk
theorem ms_M_second (F : CallFix p m c cc nL s args qtb own) (hK : va_K D qcl [(cI, .int), (cZ, .boolean)] s) (w : mW D ad cI cZ A H0 S H locs) {i v : Int32} (hin : qin i 9000 = true) (hd : decode cc pc = .ok (.iastore, 1)) (kk : ∀ (H1 : Heap) (locs1 : List Loc), mW D ad cI cZ A H0 (qwr S 11 i.toNatClampNeg v) H1 locs1 → W p l e R s m args below meth c H1 locs1 cells slots Q (F0 m (pc + 1) ls rest)) : W p l e R s m args below meth c H locs cells slots Q (F0 m pc ls (.int v :: .int i :: .ref (ad 9) :: rest)) := va_iast F.1 F.2.1 hK w.1 w.2.1 w.2.2 9 0 rfl rfl (qin_ok hin) hd (fun H1 locs1 a b z => kk H1 locs1 ⟨a, b, z⟩)
theorem mg_M_third (F : CallFix p m c cc nL s args qtb own) (hK : va_K D qcl [(cI, .int), (cZ, .boolean)] s) (w : mW D ad cI cZ A H0 S H locs) {index : Nat} (hl : Cond.fieldLink own index "CaptureSubtypesModel" "third" "[I" ∈ qtb) (hd : decode cc pc = .ok (.getfield index, 3)) (kk : W p l e R s m args below meth c H locs cells slots Q (F0 m (pc + 3) ls (.ref (ad 10) :: rest))) : W p l e R s m args below meth c H locs cells slots Q (F0 m pc ls (.ref (ad 0) :: rest)) := va_get (D := D) (ci := 6) (v := .ref (ad 10)) (C := qR_M) (T := qF_M) (N := 32) F.1 F.2.1 F.2.2.2.2 qi_M F.2.2.2.1 hK w.1 0 rfl rfl 12 (by decide) (F.2.2.2.2 _ hl) (fun _ h9 => h9) rfl hd kk
theorem ml_M_third (F : CallFix p m c cc nL s args qtb own) (hK : va_K D qcl [(cI, .int), (cZ, .boolean)] s) (w : mW D ad cI cZ A H0 S H locs) {i : Int32} (hin : qin i 9000 = true) (hd : decode cc pc = .ok (.iaload, 1)) (kk : W p l e R s m args below meth c H locs cells slots Q (F0 m (pc + 1) ls (.int (S 12 i.toNatClampNeg) :: rest))) : W p l e R s m args below meth c H locs cells slots Q (F0 m pc ls (.int i :: .ref (ad 10) :: rest)) := va_iald F.1 F.2.1 hK w.1 10 0 rfl rfl (qin_ok hin) hd kk
theorem ms_M_third (F : CallFix p m c cc nL s args qtb own) (hK : va_K D qcl [(cI, .int), (cZ, .boolean)] s) (w : mW D ad cI cZ A H0 S H locs) {i v : Int32} (hin : qin i 9000 = true) (hd : decode cc pc = .ok (.iastore, 1)) (kk : ∀ (H1 : Heap) (locs1 : List Loc), mW D ad cI cZ A H0 (qwr S 12 i.toNatClampNeg v) H1 locs1 → W p l e R s m args below meth c H1 locs1 cells slots Q (F0 m (pc + 1) ls rest)) : W p l e R s m args below meth c H locs cells slots Q (F0 m pc ls (.int v :: .int i :: .ref (ad 10) :: rest)) := va_iast F.1 F.2.1 hK w.1 w.2.1 w.2.2 10 0 rfl rfl (qin_ok hin) hd (fun H1 locs1 a b z => kk H1 locs1 ⟨a, b, z⟩)
theorem mg_M_deep (F : CallFix p m c cc nL s args qtb own) (hK : va_K D qcl [(cI, .int), (cZ, .boolean)] s) (w : mW D ad cI cZ A H0 S H locs) {index : Nat} (hl : Cond.fieldLink own index "CaptureSubtypesModel" "deep" "[I" ∈ qtb) (hd : decode cc pc = .ok (.getfield index, 3)) (kk : W p l e R s m args below meth c H locs cells slots Q (F0 m (pc + 3) ls (.ref (ad 11) :: rest))) : W p l e R s m args below meth c H locs cells slots Q (F0 m pc ls (.ref (ad 0) :: rest)) := va_get (D := D) (ci := 6) (v := .ref (ad 11)) (C := qR_M) (T := qF_M) (N := 32) F.1 F.2.1 F.2.2.2.2 qi_M F.2.2.2.1 hK w.1 0 rfl rfl 13 (by decide) (F.2.2.2.2 _ hl) (fun _ h9 => h9) rfl hd kk
theorem ml_M_deep (F : CallFix p m c cc nL s args qtb own) (hK : va_K D qcl [(cI, .int), (cZ, .boolean)] s) (w : mW D ad cI cZ A H0 S H locs) {i : Int32} (hin : qin i 9000 = true) (hd : decode cc pc = .ok (.iaload, 1)) (kk : W p l e R s m args below meth c H locs cells slots Q (F0 m (pc + 1) ls (.int (S 13 i.toNatClampNeg) :: rest))) : W p l e R s m args below meth c H locs cells slots Q (F0 m pc ls (.int i :: .ref (ad 11) :: rest)) := va_iald F.1 F.2.1 hK w.1 11 0 rfl rfl (qin_ok hin) hd kk
theorem ms_M_deep (F : CallFix p m c cc nL s args qtb own) (hK : va_K D qcl [(cI, .int), (cZ, .boolean)] s) (w : mW D ad cI cZ A H0 S H locs) {i v : Int32} (hin : qin i 9000 = true) (hd : decode cc pc = .ok (.iastore, 1)) (kk : ∀ (H1 : Heap) (locs1 : List Loc), mW D ad cI cZ A H0 (qwr S 13 i.toNatClampNeg v) H1 locs1 → W p l e R s m args below meth c H1 locs1 cells slots Q (F0 m (pc + 1) ls rest)) : W p l e R s m args below meth c H locs cells slots Q (F0 m pc ls (.int v :: .int i :: .ref (ad 11) :: rest)) := va_iast F.1 F.2.1 hK w.1 w.2.1 w.2.2 11 0 rfl rfl (qin_ok hin) hd (fun H1 locs1 a b z => kk H1 locs1 ⟨a, b, z⟩)
theorem mg_M_caught (F : CallFix p m c cc nL s args qtb own) (hK : va_K D qcl [(cI, .int), (cZ, .boolean)] s) (w : mW D ad cI cZ A H0 S H locs) {index : Nat} (hl : Cond.fieldLink own index "CaptureSubtypesModel" "caught" "I" ∈ qtb) (hd : decode cc pc = .ok (.getfield index, 3)) (kk : W p l e R s m args below meth c H locs cells slots Q (F0 m (pc + 3) ls (.int (S 14 0) :: rest))) : W p l e R s m args below meth c H locs cells slots Q (F0 m pc ls (.ref (ad 0) :: rest)) := va_get (D := D) (ci := 6) (v := .int (S 14 0)) (C := qR_M) (T := qF_M) (N := 32) F.1 F.2.1 F.2.2.2.2 qi_M F.2.2.2.1 hK w.1 0 rfl rfl 14 (by decide) (F.2.2.2.2 _ hl) (fun _ h9 => h9) rfl hd kk
theorem mp_M_caught (F : CallFix p m c cc nL s args qtb own) (hK : va_K D qcl [(cI, .int), (cZ, .boolean)] s) (w : mW D ad cI cZ A H0 S H locs) {index : Nat} {v : Int32} (hl : Cond.fieldLink own index "CaptureSubtypesModel" "caught" "I" ∈ qtb) (hd : decode cc pc = .ok (.putfield index, 3)) (kk : ∀ (H1 : Heap) (locs1 : List Loc), mW D ad cI cZ A H0 (qwr S 14 0 v) H1 locs1 → W p l e R s m args below meth c H1 locs1 cells slots Q (F0 m (pc + 3) ls rest)) : W p l e R s m args below meth c H locs cells slots Q (F0 m pc ls (.int v :: .ref (ad 0) :: rest)) := va_put (D := D) (ci := 6) (v := .int v) (ty := .int) (C := qR_M) (T := qF_M) (N := 32) F.1 F.2.1 F.2.2.2.2 qi_M qt_M qt_M_ok qn_M F.2.2.2.1 hK w.1 w.2.1 w.2.2 0 rfl rfl 14 (by decide) (F.2.2.2.2 _ hl) (fun _ h9 => h9) rfl (by decide +kernel) rfl rfl (Nat.le_of_ble_eq_true rfl) hd (fun H1 locs1 a b z => kk H1 locs1 ⟨a, b, z⟩)
theorem mg_M_caughtBound (F : CallFix p m c cc nL s args qtb own) (hK : va_K D qcl [(cI, .int), (cZ, .boolean)] s) (w : mW D ad cI cZ A H0 S H locs) {index : Nat} (hl : Cond.fieldLink own index "CaptureSubtypesModel" "caughtBound" "[I" ∈ qtb) (hd : decode cc pc = .ok (.getfield index, 3)) (kk : W p l e R s m args below meth c H locs cells slots Q (F0 m (pc + 3) ls (.ref (ad 12) :: rest))) : W p l e R s m args below meth c H locs cells slots Q (F0 m pc ls (.ref (ad 0) :: rest)) := va_get (D := D) (ci := 6) (v := .ref (ad 12)) (C := qR_M) (T := qF_M) (N := 32) F.1 F.2.1 F.2.2.2.2 qi_M F.2.2.2.1 hK w.1 0 rfl rfl 15 (by decide) (F.2.2.2.2 _ hl) (fun _ h9 => h9) rfl hd kk
theorem ml_M_caughtBound (F : CallFix p m c cc nL s args qtb own) (hK : va_K D qcl [(cI, .int), (cZ, .boolean)] s) (w : mW D ad cI cZ A H0 S H locs) {i : Int32} (hin : qin i 9000 = true) (hd : decode cc pc = .ok (.iaload, 1)) (kk : W p l e R s m args below meth c H locs cells slots Q (F0 m (pc + 1) ls (.int (S 15 i.toNatClampNeg) :: rest))) : W p l e R s m args below meth c H locs cells slots Q (F0 m pc ls (.int i :: .ref (ad 12) :: rest)) := va_iald F.1 F.2.1 hK w.1 12 0 rfl rfl (qin_ok hin) hd kk
theorem ms_M_caughtBound (F : CallFix p m c cc nL s args qtb own) (hK : va_K D qcl [(cI, .int), (cZ, .boolean)] s) (w : mW D ad cI cZ A H0 S H locs) {i v : Int32} (hin : qin i 9000 = true) (hd : decode cc pc = .ok (.iastore, 1)) (kk : ∀ (H1 : Heap) (locs1 : List Loc), mW D ad cI cZ A H0 (qwr S 15 i.toNatClampNeg v) H1 locs1 → W p l e R s m args below meth c H1 locs1 cells slots Q (F0 m (pc + 1) ls rest)) : W p l e R s m args below meth c H locs cells slots Q (F0 m pc ls (.int v :: .int i :: .ref (ad 12) :: rest)) := va_iast F.1 F.2.1 hK w.1 w.2.1 w.2.2 12 0 rfl rfl (qin_ok hin) hd (fun H1 locs1 a b z => kk H1 locs1 ⟨a, b, z⟩)
theorem mg_M_caughtBounds (F : CallFix p m c cc nL s args qtb own) (hK : va_K D qcl [(cI, .int), (cZ, .boolean)] s) (w : mW D ad cI cZ A H0 S H locs) {index : Nat} (hl : Cond.fieldLink own index "CaptureSubtypesModel" "caughtBounds" "[I" ∈ qtb) (hd : decode cc pc = .ok (.getfield index, 3)) (kk : W p l e R s m args below meth c H locs cells slots Q (F0 m (pc + 3) ls (.ref (ad 13) :: rest))) : W p l e R s m args below meth c H locs cells slots Q (F0 m pc ls (.ref (ad 0) :: rest)) := va_get (D := D) (ci := 6) (v := .ref (ad 13)) (C := qR_M) (T := qF_M) (N := 32) F.1 F.2.1 F.2.2.2.2 qi_M F.2.2.2.1 hK w.1 0 rfl rfl 16 (by decide) (F.2.2.2.2 _ hl) (fun _ h9 => h9) rfl hd kk
theorem ml_M_caughtBounds (F : CallFix p m c cc nL s args qtb own) (hK : va_K D qcl [(cI, .int), (cZ, .boolean)] s) (w : mW D ad cI cZ A H0 S H locs) {i : Int32} (hin : qin i 3000 = true) (hd : decode cc pc = .ok (.iaload, 1)) (kk : W p l e R s m args below meth c H locs cells slots Q (F0 m (pc + 1) ls (.int (S 16 i.toNatClampNeg) :: rest))) : W p l e R s m args below meth c H locs cells slots Q (F0 m pc ls (.int i :: .ref (ad 13) :: rest)) := va_iald F.1 F.2.1 hK w.1 13 0 rfl rfl (qin_ok hin) hd kk
theorem ms_M_caughtBounds (F : CallFix p m c cc nL s args qtb own) (hK : va_K D qcl [(cI, .int), (cZ, .boolean)] s) (w : mW D ad cI cZ A H0 S H locs) {i v : Int32} (hin : qin i 3000 = true) (hd : decode cc pc = .ok (.iastore, 1)) (kk : ∀ (H1 : Heap) (locs1 : List Loc), mW D ad cI cZ A H0 (qwr S 16 i.toNatClampNeg v) H1 locs1 → W p l e R s m args below meth c H1 locs1 cells slots Q (F0 m (pc + 1) ls rest)) : W p l e R s m args below meth c H locs cells slots Q (F0 m pc ls (.int v :: .int i :: .ref (ad 13) :: rest)) := va_iast F.1 F.2.1 hK w.1 w.2.1 w.2.2 13 0 rfl rfl (qin_ok hin) hd (fun H1 locs1 a b z => kk H1 locs1 ⟨a, b, z⟩)
theorem mg_M_caughtLow (F : CallFix p m c cc nL s args qtb own) (hK : va_K D qcl [(cI, .int), (cZ, .boolean)] s) (w : mW D ad cI cZ A H0 S H locs) {index : Nat} (hl : Cond.fieldLink own index "CaptureSubtypesModel" "caughtLow" "[I" ∈ qtb) (hd : decode cc pc = .ok (.getfield index, 3)) (kk : W p l e R s m args below meth c H locs cells slots Q (F0 m (pc + 3) ls (.ref (ad 14) :: rest))) : W p l e R s m args below meth c H locs cells slots Q (F0 m pc ls (.ref (ad 0) :: rest)) := va_get (D := D) (ci := 6) (v := .ref (ad 14)) (C := qR_M) (T := qF_M) (N := 32) F.1 F.2.1 F.2.2.2.2 qi_M F.2.2.2.1 hK w.1 0 rfl rfl 17 (by decide) (F.2.2.2.2 _ hl) (fun _ h9 => h9) rfl hd kk
theorem ml_M_caughtLow (F : CallFix p m c cc nL s args qtb own) (hK : va_K D qcl [(cI, .int), (cZ, .boolean)] s) (w : mW D ad cI cZ A H0 S H locs) {i : Int32} (hin : qin i 3000 = true) (hd : decode cc pc = .ok (.iaload, 1)) (kk : W p l e R s m args below meth c H locs cells slots Q (F0 m (pc + 1) ls (.int (S 17 i.toNatClampNeg) :: rest))) : W p l e R s m args below meth c H locs cells slots Q (F0 m pc ls (.int i :: .ref (ad 14) :: rest)) := va_iald F.1 F.2.1 hK w.1 14 0 rfl rfl (qin_ok hin) hd kk
theorem ms_M_caughtLow (F : CallFix p m c cc nL s args qtb own) (hK : va_K D qcl [(cI, .int), (cZ, .boolean)] s) (w : mW D ad cI cZ A H0 S H locs) {i v : Int32} (hin : qin i 3000 = true) (hd : decode cc pc = .ok (.iastore, 1)) (kk : ∀ (H1 : Heap) (locs1 : List Loc), mW D ad cI cZ A H0 (qwr S 17 i.toNatClampNeg v) H1 locs1 → W p l e R s m args below meth c H1 locs1 cells slots Q (F0 m (pc + 1) ls rest)) : W p l e R s m args below meth c H locs cells slots Q (F0 m pc ls (.int v :: .int i :: .ref (ad 14) :: rest)) := va_iast F.1 F.2.1 hK w.1 w.2.1 w.2.2 14 0 rfl rfl (qin_ok hin) hd (fun H1 locs1 a b z => kk H1 locs1 ⟨a, b, z⟩)
theorem mg_M_isBelow (F : CallFix p m c cc nL s args qtb own) (hK : va_K D qcl [(cI, .int), (cZ, .boolean)] s) (w : mW D ad cI cZ A H0 S H locs) {index : Nat} (hl : Cond.fieldLink own index "CaptureSubtypesModel" "isBelow" "[Z" ∈ qtb) (hd : decode cc pc = .ok (.getfield index, 3)) (kk : W p l e R s m args below meth c H locs cells slots Q (F0 m (pc + 3) ls (.ref (ad 15) :: rest))) : W p l e R s m args below meth c H locs cells slots Q (F0 m pc ls (.ref (ad 0) :: rest)) := va_get (D := D) (ci := 6) (v := .ref (ad 15)) (C := qR_M) (T := qF_M) (N := 32) F.1 F.2.1 F.2.2.2.2 qi_M F.2.2.2.1 hK w.1 0 rfl rfl 18 (by decide) (F.2.2.2.2 _ hl) (fun _ h9 => h9) rfl hd kk
theorem ml_M_isBelow (F : CallFix p m c cc nL s args qtb own) (hK : va_K D qcl [(cI, .int), (cZ, .boolean)] s) (w : mW D ad cI cZ A H0 S H locs) {i : Int32} (hin : qin i 144 = true) (hd : decode cc pc = .ok (.baload, 1)) (kk : W p l e R s m args below meth c H locs cells slots Q (F0 m (pc + 1) ls (.int (S 18 i.toNatClampNeg) :: rest))) : W p l e R s m args below meth c H locs cells slots Q (F0 m pc ls (.int i :: .ref (ad 15) :: rest)) := va_zald F.1 F.2.1 hK w.1 15 1 rfl rfl (qin_ok hin) hd kk
theorem ms_M_isBelow (F : CallFix p m c cc nL s args qtb own) (hK : va_K D qcl [(cI, .int), (cZ, .boolean)] s) (w : mW D ad cI cZ A H0 S H locs) {i v : Int32} (hin : qin i 144 = true) (hd : decode cc pc = .ok (.bastore, 1)) (kk : ∀ (H1 : Heap) (locs1 : List Loc), mW D ad cI cZ A H0 (qwr S 18 i.toNatClampNeg (vp_nar .boolean v)) H1 locs1 → W p l e R s m args below meth c H1 locs1 cells slots Q (F0 m (pc + 1) ls rest)) : W p l e R s m args below meth c H locs cells slots Q (F0 m pc ls (.int v :: .int i :: .ref (ad 15) :: rest)) := va_zast F.1 F.2.1 hK w.1 w.2.1 w.2.2 15 1 rfl rfl (qin_ok hin) hd (fun H1 locs1 a b z => kk H1 locs1 ⟨a, b, z⟩)
theorem mg_M_isApart (F : CallFix p m c cc nL s args qtb own) (hK : va_K D qcl [(cI, .int), (cZ, .boolean)] s) (w : mW D ad cI cZ A H0 S H locs) {index : Nat} (hl : Cond.fieldLink own index "CaptureSubtypesModel" "isApart" "[Z" ∈ qtb) (hd : decode cc pc = .ok (.getfield index, 3)) (kk : W p l e R s m args below meth c H locs cells slots Q (F0 m (pc + 3) ls (.ref (ad 16) :: rest))) : W p l e R s m args below meth c H locs cells slots Q (F0 m pc ls (.ref (ad 0) :: rest)) := va_get (D := D) (ci := 6) (v := .ref (ad 16)) (C := qR_M) (T := qF_M) (N := 32) F.1 F.2.1 F.2.2.2.2 qi_M F.2.2.2.1 hK w.1 0 rfl rfl 19 (by decide) (F.2.2.2.2 _ hl) (fun _ h9 => h9) rfl hd kk
theorem ml_M_isApart (F : CallFix p m c cc nL s args qtb own) (hK : va_K D qcl [(cI, .int), (cZ, .boolean)] s) (w : mW D ad cI cZ A H0 S H locs) {i : Int32} (hin : qin i 144 = true) (hd : decode cc pc = .ok (.baload, 1)) (kk : W p l e R s m args below meth c H locs cells slots Q (F0 m (pc + 1) ls (.int (S 19 i.toNatClampNeg) :: rest))) : W p l e R s m args below meth c H locs cells slots Q (F0 m pc ls (.int i :: .ref (ad 16) :: rest)) := va_zald F.1 F.2.1 hK w.1 16 1 rfl rfl (qin_ok hin) hd kk
theorem ms_M_isApart (F : CallFix p m c cc nL s args qtb own) (hK : va_K D qcl [(cI, .int), (cZ, .boolean)] s) (w : mW D ad cI cZ A H0 S H locs) {i v : Int32} (hin : qin i 144 = true) (hd : decode cc pc = .ok (.bastore, 1)) (kk : ∀ (H1 : Heap) (locs1 : List Loc), mW D ad cI cZ A H0 (qwr S 19 i.toNatClampNeg (vp_nar .boolean v)) H1 locs1 → W p l e R s m args below meth c H1 locs1 cells slots Q (F0 m (pc + 1) ls rest)) : W p l e R s m args below meth c H locs cells slots Q (F0 m pc ls (.int v :: .int i :: .ref (ad 16) :: rest)) := va_zast F.1 F.2.1 hK w.1 w.2.1 w.2.2 16 1 rfl rfl (qin_ok hin) hd (fun H1 locs1 a b z => kk H1 locs1 ⟨a, b, z⟩)
theorem mg_M_become (F : CallFix p m c cc nL s args qtb own) (hK : va_K D qcl [(cI, .int), (cZ, .boolean)] s) (w : mW D ad cI cZ A H0 S H locs) {index : Nat} (hl : Cond.fieldLink own index "CaptureSubtypesModel" "become" "[I" ∈ qtb) (hd : decode cc pc = .ok (.getfield index, 3)) (kk : W p l e R s m args below meth c H locs cells slots Q (F0 m (pc + 3) ls (.ref (ad 17) :: rest))) : W p l e R s m args below meth c H locs cells slots Q (F0 m pc ls (.ref (ad 0) :: rest)) := va_get (D := D) (ci := 6) (v := .ref (ad 17)) (C := qR_M) (T := qF_M) (N := 32) F.1 F.2.1 F.2.2.2.2 qi_M F.2.2.2.1 hK w.1 0 rfl rfl 20 (by decide) (F.2.2.2.2 _ hl) (fun _ h9 => h9) rfl hd kk
theorem ml_M_become (F : CallFix p m c cc nL s args qtb own) (hK : va_K D qcl [(cI, .int), (cZ, .boolean)] s) (w : mW D ad cI cZ A H0 S H locs) {i : Int32} (hin : qin i 9000 = true) (hd : decode cc pc = .ok (.iaload, 1)) (kk : W p l e R s m args below meth c H locs cells slots Q (F0 m (pc + 1) ls (.int (S 20 i.toNatClampNeg) :: rest))) : W p l e R s m args below meth c H locs cells slots Q (F0 m pc ls (.int i :: .ref (ad 17) :: rest)) := va_iald F.1 F.2.1 hK w.1 17 0 rfl rfl (qin_ok hin) hd kk
theorem ms_M_become (F : CallFix p m c cc nL s args qtb own) (hK : va_K D qcl [(cI, .int), (cZ, .boolean)] s) (w : mW D ad cI cZ A H0 S H locs) {i v : Int32} (hin : qin i 9000 = true) (hd : decode cc pc = .ok (.iastore, 1)) (kk : ∀ (H1 : Heap) (locs1 : List Loc), mW D ad cI cZ A H0 (qwr S 20 i.toNatClampNeg v) H1 locs1 → W p l e R s m args below meth c H1 locs1 cells slots Q (F0 m (pc + 1) ls rest)) : W p l e R s m args below meth c H locs cells slots Q (F0 m pc ls (.int v :: .int i :: .ref (ad 17) :: rest)) := va_iast F.1 F.2.1 hK w.1 w.2.1 w.2.2 17 0 rfl rfl (qin_ok hin) hd (fun H1 locs1 a b z => kk H1 locs1 ⟨a, b, z⟩)
theorem mg_M_isNeeded (F : CallFix p m c cc nL s args qtb own) (hK : va_K D qcl [(cI, .int), (cZ, .boolean)] s) (w : mW D ad cI cZ A H0 S H locs) {index : Nat} (hl : Cond.fieldLink own index "CaptureSubtypesModel" "isNeeded" "[Z" ∈ qtb) (hd : decode cc pc = .ok (.getfield index, 3)) (kk : W p l e R s m args below meth c H locs cells slots Q (F0 m (pc + 3) ls (.ref (ad 18) :: rest))) : W p l e R s m args below meth c H locs cells slots Q (F0 m pc ls (.ref (ad 0) :: rest)) := va_get (D := D) (ci := 6) (v := .ref (ad 18)) (C := qR_M) (T := qF_M) (N := 32) F.1 F.2.1 F.2.2.2.2 qi_M F.2.2.2.1 hK w.1 0 rfl rfl 21 (by decide) (F.2.2.2.2 _ hl) (fun _ h9 => h9) rfl hd kk
theorem ml_M_isNeeded (F : CallFix p m c cc nL s args qtb own) (hK : va_K D qcl [(cI, .int), (cZ, .boolean)] s) (w : mW D ad cI cZ A H0 S H locs) {i : Int32} (hin : qin i 9000 = true) (hd : decode cc pc = .ok (.baload, 1)) (kk : W p l e R s m args below meth c H locs cells slots Q (F0 m (pc + 1) ls (.int (S 21 i.toNatClampNeg) :: rest))) : W p l e R s m args below meth c H locs cells slots Q (F0 m pc ls (.int i :: .ref (ad 18) :: rest)) := va_zald F.1 F.2.1 hK w.1 18 1 rfl rfl (qin_ok hin) hd kk
theorem ms_M_isNeeded (F : CallFix p m c cc nL s args qtb own) (hK : va_K D qcl [(cI, .int), (cZ, .boolean)] s) (w : mW D ad cI cZ A H0 S H locs) {i v : Int32} (hin : qin i 9000 = true) (hd : decode cc pc = .ok (.bastore, 1)) (kk : ∀ (H1 : Heap) (locs1 : List Loc), mW D ad cI cZ A H0 (qwr S 21 i.toNatClampNeg (vp_nar .boolean v)) H1 locs1 → W p l e R s m args below meth c H1 locs1 cells slots Q (F0 m (pc + 1) ls rest)) : W p l e R s m args below meth c H locs cells slots Q (F0 m pc ls (.int v :: .int i :: .ref (ad 18) :: rest)) := va_zast F.1 F.2.1 hK w.1 w.2.1 w.2.2 18 1 rfl rfl (qin_ok hin) hd (fun H1 locs1 a b z => kk H1 locs1 ⟨a, b, z⟩)
theorem mg_M_caughtNow (F : CallFix p m c cc nL s args qtb own) (hK : va_K D qcl [(cI, .int), (cZ, .boolean)] s) (w : mW D ad cI cZ A H0 S H locs) {index : Nat} (hl : Cond.fieldLink own index "CaptureSubtypesModel" "caughtNow" "[I" ∈ qtb) (hd : decode cc pc = .ok (.getfield index, 3)) (kk : W p l e R s m args below meth c H locs cells slots Q (F0 m (pc + 3) ls (.ref (ad 19) :: rest))) : W p l e R s m args below meth c H locs cells slots Q (F0 m pc ls (.ref (ad 0) :: rest)) := va_get (D := D) (ci := 6) (v := .ref (ad 19)) (C := qR_M) (T := qF_M) (N := 32) F.1 F.2.1 F.2.2.2.2 qi_M F.2.2.2.1 hK w.1 0 rfl rfl 22 (by decide) (F.2.2.2.2 _ hl) (fun _ h9 => h9) rfl hd kk
theorem ml_M_caughtNow (F : CallFix p m c cc nL s args qtb own) (hK : va_K D qcl [(cI, .int), (cZ, .boolean)] s) (w : mW D ad cI cZ A H0 S H locs) {i : Int32} (hin : qin i 2 = true) (hd : decode cc pc = .ok (.iaload, 1)) (kk : W p l e R s m args below meth c H locs cells slots Q (F0 m (pc + 1) ls (.int (S 22 i.toNatClampNeg) :: rest))) : W p l e R s m args below meth c H locs cells slots Q (F0 m pc ls (.int i :: .ref (ad 19) :: rest)) := va_iald F.1 F.2.1 hK w.1 19 0 rfl rfl (qin_ok hin) hd kk
theorem ms_M_caughtNow (F : CallFix p m c cc nL s args qtb own) (hK : va_K D qcl [(cI, .int), (cZ, .boolean)] s) (w : mW D ad cI cZ A H0 S H locs) {i v : Int32} (hin : qin i 2 = true) (hd : decode cc pc = .ok (.iastore, 1)) (kk : ∀ (H1 : Heap) (locs1 : List Loc), mW D ad cI cZ A H0 (qwr S 22 i.toNatClampNeg v) H1 locs1 → W p l e R s m args below meth c H1 locs1 cells slots Q (F0 m (pc + 1) ls rest)) : W p l e R s m args below meth c H locs cells slots Q (F0 m pc ls (.int v :: .int i :: .ref (ad 19) :: rest)) := va_iast F.1 F.2.1 hK w.1 w.2.1 w.2.2 19 0 rfl rfl (qin_ok hin) hd (fun H1 locs1 a b z => kk H1 locs1 ⟨a, b, z⟩)
theorem mg_M_askS (F : CallFix p m c cc nL s args qtb own) (hK : va_K D qcl [(cI, .int), (cZ, .boolean)] s) (w : mW D ad cI cZ A H0 S H locs) {index : Nat} (hl : Cond.fieldLink own index "CaptureSubtypesModel" "askS" "[I" ∈ qtb) (hd : decode cc pc = .ok (.getfield index, 3)) (kk : W p l e R s m args below meth c H locs cells slots Q (F0 m (pc + 3) ls (.ref (ad 20) :: rest))) : W p l e R s m args below meth c H locs cells slots Q (F0 m pc ls (.ref (ad 0) :: rest)) := va_get (D := D) (ci := 6) (v := .ref (ad 20)) (C := qR_M) (T := qF_M) (N := 32) F.1 F.2.1 F.2.2.2.2 qi_M F.2.2.2.1 hK w.1 0 rfl rfl 23 (by decide) (F.2.2.2.2 _ hl) (fun _ h9 => h9) rfl hd kk
theorem ml_M_askS (F : CallFix p m c cc nL s args qtb own) (hK : va_K D qcl [(cI, .int), (cZ, .boolean)] s) (w : mW D ad cI cZ A H0 S H locs) {i : Int32} (hin : qin i 3000 = true) (hd : decode cc pc = .ok (.iaload, 1)) (kk : W p l e R s m args below meth c H locs cells slots Q (F0 m (pc + 1) ls (.int (S 23 i.toNatClampNeg) :: rest))) : W p l e R s m args below meth c H locs cells slots Q (F0 m pc ls (.int i :: .ref (ad 20) :: rest)) := va_iald F.1 F.2.1 hK w.1 20 0 rfl rfl (qin_ok hin) hd kk
theorem ms_M_askS (F : CallFix p m c cc nL s args qtb own) (hK : va_K D qcl [(cI, .int), (cZ, .boolean)] s) (w : mW D ad cI cZ A H0 S H locs) {i v : Int32} (hin : qin i 3000 = true) (hd : decode cc pc = .ok (.iastore, 1)) (kk : ∀ (H1 : Heap) (locs1 : List Loc), mW D ad cI cZ A H0 (qwr S 23 i.toNatClampNeg v) H1 locs1 → W p l e R s m args below meth c H1 locs1 cells slots Q (F0 m (pc + 1) ls rest)) : W p l e R s m args below meth c H locs cells slots Q (F0 m pc ls (.int v :: .int i :: .ref (ad 20) :: rest)) := va_iast F.1 F.2.1 hK w.1 w.2.1 w.2.2 20 0 rfl rfl (qin_ok hin) hd (fun H1 locs1 a b z => kk H1 locs1 ⟨a, b, z⟩)
theorem mg_M_askT (F : CallFix p m c cc nL s args qtb own) (hK : va_K D qcl [(cI, .int), (cZ, .boolean)] s) (w : mW D ad cI cZ A H0 S H locs) {index : Nat} (hl : Cond.fieldLink own index "CaptureSubtypesModel" "askT" "[I" ∈ qtb) (hd : decode cc pc = .ok (.getfield index, 3)) (kk : W p l e R s m args below meth c H locs cells slots Q (F0 m (pc + 3) ls (.ref (ad 21) :: rest))) : W p l e R s m args below meth c H locs cells slots Q (F0 m pc ls (.ref (ad 0) :: rest)) := va_get (D := D) (ci := 6) (v := .ref (ad 21)) (C := qR_M) (T := qF_M) (N := 32) F.1 F.2.1 F.2.2.2.2 qi_M F.2.2.2.1 hK w.1 0 rfl rfl 24 (by decide) (F.2.2.2.2 _ hl) (fun _ h9 => h9) rfl hd kk
theorem ml_M_askT (F : CallFix p m c cc nL s args qtb own) (hK : va_K D qcl [(cI, .int), (cZ, .boolean)] s) (w : mW D ad cI cZ A H0 S H locs) {i : Int32} (hin : qin i 3000 = true) (hd : decode cc pc = .ok (.iaload, 1)) (kk : W p l e R s m args below meth c H locs cells slots Q (F0 m (pc + 1) ls (.int (S 24 i.toNatClampNeg) :: rest))) : W p l e R s m args below meth c H locs cells slots Q (F0 m pc ls (.int i :: .ref (ad 21) :: rest)) := va_iald F.1 F.2.1 hK w.1 21 0 rfl rfl (qin_ok hin) hd kk
theorem ms_M_askT (F : CallFix p m c cc nL s args qtb own) (hK : va_K D qcl [(cI, .int), (cZ, .boolean)] s) (w : mW D ad cI cZ A H0 S H locs) {i v : Int32} (hin : qin i 3000 = true) (hd : decode cc pc = .ok (.iastore, 1)) (kk : ∀ (H1 : Heap) (locs1 : List Loc), mW D ad cI cZ A H0 (qwr S 24 i.toNatClampNeg v) H1 locs1 → W p l e R s m args below meth c H1 locs1 cells slots Q (F0 m (pc + 1) ls rest)) : W p l e R s m args below meth c H locs cells slots Q (F0 m pc ls (.int v :: .int i :: .ref (ad 21) :: rest)) := va_iast F.1 F.2.1 hK w.1 w.2.1 w.2.2 21 0 rfl rfl (qin_ok hin) hd (fun H1 locs1 a b z => kk H1 locs1 ⟨a, b, z⟩)
theorem mg_M_askState (F : CallFix p m c cc nL s args qtb own) (hK : va_K D qcl [(cI, .int), (cZ, .boolean)] s) (w : mW D ad cI cZ A H0 S H locs) {index : Nat} (hl : Cond.fieldLink own index "CaptureSubtypesModel" "askState" "[I" ∈ qtb) (hd : decode cc pc = .ok (.getfield index, 3)) (kk : W p l e R s m args below meth c H locs cells slots Q (F0 m (pc + 3) ls (.ref (ad 22) :: rest))) : W p l e R s m args below meth c H locs cells slots Q (F0 m pc ls (.ref (ad 0) :: rest)) := va_get (D := D) (ci := 6) (v := .ref (ad 22)) (C := qR_M) (T := qF_M) (N := 32) F.1 F.2.1 F.2.2.2.2 qi_M F.2.2.2.1 hK w.1 0 rfl rfl 25 (by decide) (F.2.2.2.2 _ hl) (fun _ h9 => h9) rfl hd kk
theorem ml_M_askState (F : CallFix p m c cc nL s args qtb own) (hK : va_K D qcl [(cI, .int), (cZ, .boolean)] s) (w : mW D ad cI cZ A H0 S H locs) {i : Int32} (hin : qin i 3000 = true) (hd : decode cc pc = .ok (.iaload, 1)) (kk : W p l e R s m args below meth c H locs cells slots Q (F0 m (pc + 1) ls (.int (S 25 i.toNatClampNeg) :: rest))) : W p l e R s m args below meth c H locs cells slots Q (F0 m pc ls (.int i :: .ref (ad 22) :: rest)) := va_iald F.1 F.2.1 hK w.1 22 0 rfl rfl (qin_ok hin) hd kk
theorem ms_M_askState (F : CallFix p m c cc nL s args qtb own) (hK : va_K D qcl [(cI, .int), (cZ, .boolean)] s) (w : mW D ad cI cZ A H0 S H locs) {i v : Int32} (hin : qin i 3000 = true) (hd : decode cc pc = .ok (.iastore, 1)) (kk : ∀ (H1 : Heap) (locs1 : List Loc), mW D ad cI cZ A H0 (qwr S 25 i.toNatClampNeg v) H1 locs1 → W p l e R s m args below meth c H1 locs1 cells slots Q (F0 m (pc + 1) ls rest)) : W p l e R s m args below meth c H locs cells slots Q (F0 m pc ls (.int v :: .int i :: .ref (ad 22) :: rest)) := va_iast F.1 F.2.1 hK w.1 w.2.1 w.2.2 22 0 rfl rfl (qin_ok hin) hd (fun H1 locs1 a b z => kk H1 locs1 ⟨a, b, z⟩)
theorem mg_M_askStep (F : CallFix p m c cc nL s args qtb own) (hK : va_K D qcl [(cI, .int), (cZ, .boolean)] s) (w : mW D ad cI cZ A H0 S H locs) {index : Nat} (hl : Cond.fieldLink own index "CaptureSubtypesModel" "askStep" "[I" ∈ qtb) (hd : decode cc pc = .ok (.getfield index, 3)) (kk : W p l e R s m args below meth c H locs cells slots Q (F0 m (pc + 3) ls (.ref (ad 23) :: rest))) : W p l e R s m args below meth c H locs cells slots Q (F0 m pc ls (.ref (ad 0) :: rest)) := va_get (D := D) (ci := 6) (v := .ref (ad 23)) (C := qR_M) (T := qF_M) (N := 32) F.1 F.2.1 F.2.2.2.2 qi_M F.2.2.2.1 hK w.1 0 rfl rfl 26 (by decide) (F.2.2.2.2 _ hl) (fun _ h9 => h9) rfl hd kk
theorem ml_M_askStep (F : CallFix p m c cc nL s args qtb own) (hK : va_K D qcl [(cI, .int), (cZ, .boolean)] s) (w : mW D ad cI cZ A H0 S H locs) {i : Int32} (hin : qin i 3000 = true) (hd : decode cc pc = .ok (.iaload, 1)) (kk : W p l e R s m args below meth c H locs cells slots Q (F0 m (pc + 1) ls (.int (S 26 i.toNatClampNeg) :: rest))) : W p l e R s m args below meth c H locs cells slots Q (F0 m pc ls (.int i :: .ref (ad 23) :: rest)) := va_iald F.1 F.2.1 hK w.1 23 0 rfl rfl (qin_ok hin) hd kk
theorem ms_M_askStep (F : CallFix p m c cc nL s args qtb own) (hK : va_K D qcl [(cI, .int), (cZ, .boolean)] s) (w : mW D ad cI cZ A H0 S H locs) {i v : Int32} (hin : qin i 3000 = true) (hd : decode cc pc = .ok (.iastore, 1)) (kk : ∀ (H1 : Heap) (locs1 : List Loc), mW D ad cI cZ A H0 (qwr S 26 i.toNatClampNeg v) H1 locs1 → W p l e R s m args below meth c H1 locs1 cells slots Q (F0 m (pc + 1) ls rest)) : W p l e R s m args below meth c H locs cells slots Q (F0 m pc ls (.int v :: .int i :: .ref (ad 23) :: rest)) := va_iast F.1 F.2.1 hK w.1 w.2.1 w.2.2 23 0 rfl rfl (qin_ok hin) hd (fun H1 locs1 a b z => kk H1 locs1 ⟨a, b, z⟩)
theorem mg_M_askAs (F : CallFix p m c cc nL s args qtb own) (hK : va_K D qcl [(cI, .int), (cZ, .boolean)] s) (w : mW D ad cI cZ A H0 S H locs) {index : Nat} (hl : Cond.fieldLink own index "CaptureSubtypesModel" "askAs" "[I" ∈ qtb) (hd : decode cc pc = .ok (.getfield index, 3)) (kk : W p l e R s m args below meth c H locs cells slots Q (F0 m (pc + 3) ls (.ref (ad 24) :: rest))) : W p l e R s m args below meth c H locs cells slots Q (F0 m pc ls (.ref (ad 0) :: rest)) := va_get (D := D) (ci := 6) (v := .ref (ad 24)) (C := qR_M) (T := qF_M) (N := 32) F.1 F.2.1 F.2.2.2.2 qi_M F.2.2.2.1 hK w.1 0 rfl rfl 27 (by decide) (F.2.2.2.2 _ hl) (fun _ h9 => h9) rfl hd kk
theorem ml_M_askAs (F : CallFix p m c cc nL s args qtb own) (hK : va_K D qcl [(cI, .int), (cZ, .boolean)] s) (w : mW D ad cI cZ A H0 S H locs) {i : Int32} (hin : qin i 3000 = true) (hd : decode cc pc = .ok (.iaload, 1)) (kk : W p l e R s m args below meth c H locs cells slots Q (F0 m (pc + 1) ls (.int (S 27 i.toNatClampNeg) :: rest))) : W p l e R s m args below meth c H locs cells slots Q (F0 m pc ls (.int i :: .ref (ad 24) :: rest)) := va_iald F.1 F.2.1 hK w.1 24 0 rfl rfl (qin_ok hin) hd kk
theorem ms_M_askAs (F : CallFix p m c cc nL s args qtb own) (hK : va_K D qcl [(cI, .int), (cZ, .boolean)] s) (w : mW D ad cI cZ A H0 S H locs) {i v : Int32} (hin : qin i 3000 = true) (hd : decode cc pc = .ok (.iastore, 1)) (kk : ∀ (H1 : Heap) (locs1 : List Loc), mW D ad cI cZ A H0 (qwr S 27 i.toNatClampNeg v) H1 locs1 → W p l e R s m args below meth c H1 locs1 cells slots Q (F0 m (pc + 1) ls rest)) : W p l e R s m args below meth c H locs cells slots Q (F0 m pc ls (.int v :: .int i :: .ref (ad 24) :: rest)) := va_iast F.1 F.2.1 hK w.1 w.2.1 w.2.2 24 0 rfl rfl (qin_ok hin) hd (fun H1 locs1 a b z => kk H1 locs1 ⟨a, b, z⟩)
theorem mg_M_asked (F : CallFix p m c cc nL s args qtb own) (hK : va_K D qcl [(cI, .int), (cZ, .boolean)] s) (w : mW D ad cI cZ A H0 S H locs) {index : Nat} (hl : Cond.fieldLink own index "CaptureSubtypesModel" "asked" "I" ∈ qtb) (hd : decode cc pc = .ok (.getfield index, 3)) (kk : W p l e R s m args below meth c H locs cells slots Q (F0 m (pc + 3) ls (.int (S 28 0) :: rest))) : W p l e R s m args below meth c H locs cells slots Q (F0 m pc ls (.ref (ad 0) :: rest)) := va_get (D := D) (ci := 6) (v := .int (S 28 0)) (C := qR_M) (T := qF_M) (N := 32) F.1 F.2.1 F.2.2.2.2 qi_M F.2.2.2.1 hK w.1 0 rfl rfl 28 (by decide) (F.2.2.2.2 _ hl) (fun _ h9 => h9) rfl hd kk
theorem mp_M_asked (F : CallFix p m c cc nL s args qtb own) (hK : va_K D qcl [(cI, .int), (cZ, .boolean)] s) (w : mW D ad cI cZ A H0 S H locs) {index : Nat} {v : Int32} (hl : Cond.fieldLink own index "CaptureSubtypesModel" "asked" "I" ∈ qtb) (hd : decode cc pc = .ok (.putfield index, 3)) (kk : ∀ (H1 : Heap) (locs1 : List Loc), mW D ad cI cZ A H0 (qwr S 28 0 v) H1 locs1 → W p l e R s m args below meth c H1 locs1 cells slots Q (F0 m (pc + 3) ls rest)) : W p l e R s m args below meth c H locs cells slots Q (F0 m pc ls (.int v :: .ref (ad 0) :: rest)) := va_put (D := D) (ci := 6) (v := .int v) (ty := .int) (C := qR_M) (T := qF_M) (N := 32) F.1 F.2.1 F.2.2.2.2 qi_M qt_M qt_M_ok qn_M F.2.2.2.1 hK w.1 w.2.1 w.2.2 0 rfl rfl 28 (by decide) (F.2.2.2.2 _ hl) (fun _ h9 => h9) rfl (by decide +kernel) rfl rfl (Nat.le_of_ble_eq_true rfl) hd (fun H1 locs1 a b z => kk H1 locs1 ⟨a, b, z⟩)
theorem mg_M_pileS (F : CallFix p m c cc nL s args qtb own) (hK : va_K D qcl [(cI, .int), (cZ, .boolean)] s) (w : mW D ad cI cZ A H0 S H locs) {index : Nat} (hl : Cond.fieldLink own index "CaptureSubtypesModel" "pileS" "[I" ∈ qtb) (hd : decode cc pc = .ok (.getfield index, 3)) (kk : W p l e R s m args below meth c H locs cells slots Q (F0 m (pc + 3) ls (.ref (ad 25) :: rest))) : W p l e R s m args below meth c H locs cells slots Q (F0 m pc ls (.ref (ad 0) :: rest)) := va_get (D := D) (ci := 6) (v := .ref (ad 25)) (C := qR_M) (T := qF_M) (N := 32) F.1 F.2.1 F.2.2.2.2 qi_M F.2.2.2.1 hK w.1 0 rfl rfl 29 (by decide) (F.2.2.2.2 _ hl) (fun _ h9 => h9) rfl hd kk
theorem ml_M_pileS (F : CallFix p m c cc nL s args qtb own) (hK : va_K D qcl [(cI, .int), (cZ, .boolean)] s) (w : mW D ad cI cZ A H0 S H locs) {i : Int32} (hin : qin i 3000 = true) (hd : decode cc pc = .ok (.iaload, 1)) (kk : W p l e R s m args below meth c H locs cells slots Q (F0 m (pc + 1) ls (.int (S 29 i.toNatClampNeg) :: rest))) : W p l e R s m args below meth c H locs cells slots Q (F0 m pc ls (.int i :: .ref (ad 25) :: rest)) := va_iald F.1 F.2.1 hK w.1 25 0 rfl rfl (qin_ok hin) hd kk
theorem ms_M_pileS (F : CallFix p m c cc nL s args qtb own) (hK : va_K D qcl [(cI, .int), (cZ, .boolean)] s) (w : mW D ad cI cZ A H0 S H locs) {i v : Int32} (hin : qin i 3000 = true) (hd : decode cc pc = .ok (.iastore, 1)) (kk : ∀ (H1 : Heap) (locs1 : List Loc), mW D ad cI cZ A H0 (qwr S 29 i.toNatClampNeg v) H1 locs1 → W p l e R s m args below meth c H1 locs1 cells slots Q (F0 m (pc + 1) ls rest)) : W p l e R s m args below meth c H locs cells slots Q (F0 m pc ls (.int v :: .int i :: .ref (ad 25) :: rest)) := va_iast F.1 F.2.1 hK w.1 w.2.1 w.2.2 25 0 rfl rfl (qin_ok hin) hd (fun H1 locs1 a b z => kk H1 locs1 ⟨a, b, z⟩)
theorem mg_M_pileT (F : CallFix p m c cc nL s args qtb own) (hK : va_K D qcl [(cI, .int), (cZ, .boolean)] s) (w : mW D ad cI cZ A H0 S H locs) {index : Nat} (hl : Cond.fieldLink own index "CaptureSubtypesModel" "pileT" "[I" ∈ qtb) (hd : decode cc pc = .ok (.getfield index, 3)) (kk : W p l e R s m args below meth c H locs cells slots Q (F0 m (pc + 3) ls (.ref (ad 26) :: rest))) : W p l e R s m args below meth c H locs cells slots Q (F0 m pc ls (.ref (ad 0) :: rest)) := va_get (D := D) (ci := 6) (v := .ref (ad 26)) (C := qR_M) (T := qF_M) (N := 32) F.1 F.2.1 F.2.2.2.2 qi_M F.2.2.2.1 hK w.1 0 rfl rfl 30 (by decide) (F.2.2.2.2 _ hl) (fun _ h9 => h9) rfl hd kk
theorem ml_M_pileT (F : CallFix p m c cc nL s args qtb own) (hK : va_K D qcl [(cI, .int), (cZ, .boolean)] s) (w : mW D ad cI cZ A H0 S H locs) {i : Int32} (hin : qin i 3000 = true) (hd : decode cc pc = .ok (.iaload, 1)) (kk : W p l e R s m args below meth c H locs cells slots Q (F0 m (pc + 1) ls (.int (S 30 i.toNatClampNeg) :: rest))) : W p l e R s m args below meth c H locs cells slots Q (F0 m pc ls (.int i :: .ref (ad 26) :: rest)) := va_iald F.1 F.2.1 hK w.1 26 0 rfl rfl (qin_ok hin) hd kk
theorem ms_M_pileT (F : CallFix p m c cc nL s args qtb own) (hK : va_K D qcl [(cI, .int), (cZ, .boolean)] s) (w : mW D ad cI cZ A H0 S H locs) {i v : Int32} (hin : qin i 3000 = true) (hd : decode cc pc = .ok (.iastore, 1)) (kk : ∀ (H1 : Heap) (locs1 : List Loc), mW D ad cI cZ A H0 (qwr S 30 i.toNatClampNeg v) H1 locs1 → W p l e R s m args below meth c H1 locs1 cells slots Q (F0 m (pc + 1) ls rest)) : W p l e R s m args below meth c H locs cells slots Q (F0 m pc ls (.int v :: .int i :: .ref (ad 26) :: rest)) := va_iast F.1 F.2.1 hK w.1 w.2.1 w.2.2 26 0 rfl rfl (qin_ok hin) hd (fun H1 locs1 a b z => kk H1 locs1 ⟨a, b, z⟩)
theorem mg_M_asOf (F : CallFix p m c cc nL s args qtb own) (hK : va_K D qcl [(cI, .int), (cZ, .boolean)] s) (w : mW D ad cI cZ A H0 S H locs) {index : Nat} (hl : Cond.fieldLink own index "CaptureSubtypesModel" "asOf" "[I" ∈ qtb) (hd : decode cc pc = .ok (.getfield index, 3)) (kk : W p l e R s m args below meth c H locs cells slots Q (F0 m (pc + 3) ls (.ref (ad 27) :: rest))) : W p l e R s m args below meth c H locs cells slots Q (F0 m pc ls (.ref (ad 0) :: rest)) := va_get (D := D) (ci := 6) (v := .ref (ad 27)) (C := qR_M) (T := qF_M) (N := 32) F.1 F.2.1 F.2.2.2.2 qi_M F.2.2.2.1 hK w.1 0 rfl rfl 31 (by decide) (F.2.2.2.2 _ hl) (fun _ h9 => h9) rfl hd kk
theorem ml_M_asOf (F : CallFix p m c cc nL s args qtb own) (hK : va_K D qcl [(cI, .int), (cZ, .boolean)] s) (w : mW D ad cI cZ A H0 S H locs) {i : Int32} (hin : qin i 144 = true) (hd : decode cc pc = .ok (.iaload, 1)) (kk : W p l e R s m args below meth c H locs cells slots Q (F0 m (pc + 1) ls (.int (S 31 i.toNatClampNeg) :: rest))) : W p l e R s m args below meth c H locs cells slots Q (F0 m pc ls (.int i :: .ref (ad 27) :: rest)) := va_iald F.1 F.2.1 hK w.1 27 0 rfl rfl (qin_ok hin) hd kk
theorem ms_M_asOf (F : CallFix p m c cc nL s args qtb own) (hK : va_K D qcl [(cI, .int), (cZ, .boolean)] s) (w : mW D ad cI cZ A H0 S H locs) {i v : Int32} (hin : qin i 144 = true) (hd : decode cc pc = .ok (.iastore, 1)) (kk : ∀ (H1 : Heap) (locs1 : List Loc), mW D ad cI cZ A H0 (qwr S 31 i.toNatClampNeg v) H1 locs1 → W p l e R s m args below meth c H1 locs1 cells slots Q (F0 m (pc + 1) ls rest)) : W p l e R s m args below meth c H locs cells slots Q (F0 m pc ls (.int v :: .int i :: .ref (ad 27) :: rest)) := va_iast F.1 F.2.1 hK w.1 w.2.1 w.2.2 27 0 rfl rfl (qin_ok hin) hd (fun H1 locs1 a b z => kk H1 locs1 ⟨a, b, z⟩)
end mRows
end
section
theorem q_good {y : MethodName} {b : ByteArray} {n : Nat} {ret : Option FieldType} (h5 : Cond.code y b n ret ∈ qtb) : GoodIn qtb (.code y b n ret :: qtb) := fun w hw => by
  have hm : w ∈ qtb := by
    rcases List.mem_cons.mp hw with rfl | h
    · exact h5
    · exact h
  exact ⟨hm, good_of_word (qw_gd hm)⟩
theorem q_goodV {own C : String} {idx : Nat} {y : MethodName} {b : ByteArray} {n : Nat} {ret : Option FieldType} (h1 : Cond.methodLink own idx y ∈ qtb) (h2 : Cond.instanceMethod y ∈ qtb) (h3 : Cond.selects C y y ∈ qtb) (h4 : Cond.initialized C ∈ qtb) (h5 : Cond.code y b n ret ∈ qtb) : GoodIn qtb (wsV own idx C y (.code y b n ret :: qtb)) := fun w hw => by
  have hm : w ∈ qtb := by
    unfold wsV at hw
    rcases List.mem_append.mp hw with h | h
    · simp only [List.mem_cons, List.not_mem_nil, or_false] at h
      rcases h with rfl | rfl | rfl | rfl <;> assumption
    · rcases List.mem_cons.mp h with rfl | h
      · exact h5
      · exact h
  exact ⟨hm, good_of_word (qw_gd hm)⟩
def xns : List Cond := [.methodLinkNest "CaptureSubtypes" 152 qy_O_isOne "CaptureSubtypes", .methodLinkNest "CaptureSubtypes" 155 qy_O_isUnchecked "CaptureSubtypes", .methodLinkNest "CaptureSubtypes" 162 qy_U_mayTurn "CaptureSubtypes", .methodLinkNest "CaptureSubtypes$Turning" 27 qy_O_isOne "CaptureSubtypes", .methodLinkNest "CaptureSubtypes$Turning" 112 qy_S_erasure "CaptureSubtypes", .methodLinkNest "CaptureSubtypes" 177 qy_S_erasure "CaptureSubtypes", .methodLinkNest "CaptureSubtypes$Order" 115 qy_S_putIn "CaptureSubtypes"]
theorem xns_form : ∀ w ∈ xns, ∃ (a : String) (i : Nat) (x : MethodName) (h : String), w = Cond.methodLinkNest a i x h := by
  intro w hw
  simp only [xns, List.mem_cons, List.not_mem_nil, or_false] at hw
  rcases hw with rfl | rfl | rfl | rfl | rfl | rfl | rfl <;> exact ⟨_, _, _, _, rfl⟩
theorem x_nests {s U : State} (hW : s.WarmedH U.vm) (h : qnests xns s) : qnests xns U := fun w hw => by
  have h1 := h w hw
  obtain ⟨a, i, x, hh, rfl⟩ := xns_form w hw
  exact va_Nw.warmM hW h1
theorem x_nestsame {s U : State} (e : s.vm = U.vm) (h : qnests xns s) : qnests xns U := fun w hw => by
  have h1 := h w hw
  obtain ⟨a, i, x, hh, rfl⟩ := xns_form w hw
  exact va_Nw.same rfl e h1
def xPre (D : va_G) (ad : Nat → Nat) (cI : ClassId) (S : Nat → Nat → Int32) (sz : Nat) (av : List Value) : Array Value → State → Prop := va_Pc av (fun U => U.heap.size = sz ∧ va_P D qcl (xw ad cI S) U.heap ∧ va_K D qcl [(cI, .int)] U ∧ va_D (fun _ => True) (xw ad cI S) ∧ qnests xns U)
/-- the contract of a method that answers r (an int, or a boolean as 0 or 1) and leaves the state S2 -/
def xMi (l : Launch) (y : MethodName) (b : ByteArray) (n : Nat) (ret : Option FieldType) (rm : Room) (D : va_G) (ad : Nat → Nat) (cI : ClassId) (S : Nat → Nat → Int32) (av : List Value) (r : Int32) (S2 : Nat → Nat → Int32) : Prop := ∀ sz : Nat, Met l y (.code y b n ret :: qtb) rm (xPre D ad cI S sz av) (va_Qi (fun (r1 : Int32) (_ : Unit) => r1 = r) (fun _ t => va_P D qcl (xw ad cI S2) t.heap) (va_A (xw ad cI S) sz)) 0 0 (va_A (xw ad cI S) sz)
def xMv (l : Launch) (y : MethodName) (b : ByteArray) (n : Nat) (ret : Option FieldType) (rm : Room) (D : va_G) (ad : Nat → Nat) (cI : ClassId) (S : Nat → Nat → Int32) (av : List Value) (S2 : Nat → Nat → Int32) : Prop := ∀ sz : Nat, Met l y (.code y b n ret :: qtb) rm (xPre D ad cI S sz av) (va_Qv (fun (_ : Unit) => True) (fun _ t => va_P D qcl (xw ad cI S2) t.heap) (va_A (xw ad cI S) sz)) 0 0 (va_A (xw ad cI S) sz)
theorem x_blind {D : va_G} {ad : Nat → Nat} {cI : ClassId} {S : Nat → Nat → Int32} {sz : Nat} {av : List Value} : FrameBlind (xPre D ad cI S sz av) := fun a U g mk q => by
  obtain ⟨q0, q1, qP, qK, qD, qN⟩ := q
  exact ⟨q0, q1, qP, va_K.moved (u := U) (U := U.calling g mk a) (Vm.Alike.refl U.vm) qK, qD, x_nestsame (s := U) rfl qN⟩
section xCalls
variable {p : Program} {l : Launch} {e : Env} {R : Room} {s : State} {m : MethodId} {args : Array Value} {below : List Frame} {meth : Method} {c : Code} {H : Heap} {locs : List Loc} {Q : State → Prop} {cc : ByteArray} {nL pc : Nat} {own : String} {ls : Array Slot} {rest : List Value} {D : va_G} {ad : Nat → Nat} {cI : ClassId} {A : Nat → Prop} {S S2 : Nat → Nat → Int32}
theorem x_calli (F : CallFix p m c cc nL s args qtb own) (hK : va_K D qcl [(cI, .int)] s) (hN : qnests xns s) (hA : ∀ q, s.heap.size ≤ q → A q) (w : xW D ad cI A s.heap S H locs) {y : MethodName} {b : ByteArray} {n : Nat} {ret : Option FieldType} {rm : Room} {r : Int32} {As : List Value} {j ci index cN : Nat} {C : String} {cT : u_T} {fs : List Value} (hM : xMi l y b n ret rm D ad cI S (.ref (ad j) :: As) r S2) (h1 : Cond.methodLink own index y ∈ qtb) (h2 : Cond.instanceMethod y ∈ qtb) (h3 : Cond.selects C y y ∈ qtb) (h4 : Cond.initialized C ∈ qtb) (h5 : Cond.code y b n ret ∈ qtb) (hy : y.cls = C ∧ y.cls ≠ "java/lang/invoke/MethodHandle" ∧ y.cls ≠ "java/lang/invoke/VarHandle" ∧ (parseMethodDescriptor y.desc).map (fun d => d.parameters.length) = some As.length) (hc0 : rm.cells = 0) (hs0 : rm.slots = 0) (hR : rm.frames + 1 ≤ R.frames ∧ 8 + (n + 11) + rm.locals ≤ R.locals) (hrc : qcl[ci]? = some (C, cT, cN)) (hrw : (xw ad cI S)[j]? = some (ad j, .inr (ci, fs))) (hsz : ls.size = nL) {st0 : List Value} (hst : st0 = As.reverse ++ .ref (ad j) :: rest) (hro : (rest.map fun v => v.category).sum ≤ 8) (hd : decode cc pc = .ok (.invokevirtual index, 3)) (kk : ∀ (H1 : Heap) (locs1 : List Loc), xW D ad cI A s.heap S2 H1 locs1 → W p l e R s m args below meth c H1 locs1 0 0 Q (F0 m (pc + 3) ls (.int r :: rest))) : W p l e R s m args below meth c H locs 0 0 Q (F0 m pc ls st0) := by
  subst hst
  have hF := x_free w hA
  refine va_calli (va_runV (As := As) (rest := rest) F (hM H.size) (cwV As.length F.2.2.2.2 (q_goodV h1 h2 h3 h4 h5) rfl hc0 hs0 hy hR) ⟨x_blind, va_recv hK w.1 hrc hrw, fun U hU hW => ⟨rfl, by rw [hU], by rw [hU]; exact w.1, va_K.moved hW.alike hK, w.2.1.weaken (fun _ _ _ _ => trivial), x_nests hW hN⟩⟩ rfl rfl hsz rfl (lv_room hro) hd ⟨Nat.zero_le _, Nat.zero_le _⟩) w.2.2 (fun q _ h => hF q h) hF (fun r1 u t H1 locs1 ht hvm hw hB hz1 hk1 hS => ?_)
  subst hw
  exact kk H1 locs1 ⟨ht ▸ hB, x_D _ w.2.1, hS⟩
theorem x_callv (F : CallFix p m c cc nL s args qtb own) (hK : va_K D qcl [(cI, .int)] s) (hN : qnests xns s) (hA : ∀ q, s.heap.size ≤ q → A q) (w : xW D ad cI A s.heap S H locs) {y : MethodName} {b : ByteArray} {n : Nat} {ret : Option FieldType} {rm : Room} {As : List Value} {j ci index cN : Nat} {C : String} {cT : u_T} {fs : List Value} (hM : xMv l y b n ret rm D ad cI S (.ref (ad j) :: As) S2) (h1 : Cond.methodLink own index y ∈ qtb) (h2 : Cond.instanceMethod y ∈ qtb) (h3 : Cond.selects C y y ∈ qtb) (h4 : Cond.initialized C ∈ qtb) (h5 : Cond.code y b n ret ∈ qtb) (hy : y.cls = C ∧ y.cls ≠ "java/lang/invoke/MethodHandle" ∧ y.cls ≠ "java/lang/invoke/VarHandle" ∧ (parseMethodDescriptor y.desc).map (fun d => d.parameters.length) = some As.length) (hc0 : rm.cells = 0) (hs0 : rm.slots = 0) (hR : rm.frames + 1 ≤ R.frames ∧ 8 + (n + 11) + rm.locals ≤ R.locals) (hrc : qcl[ci]? = some (C, cT, cN)) (hrw : (xw ad cI S)[j]? = some (ad j, .inr (ci, fs))) (hsz : ls.size = nL) {st0 : List Value} (hst : st0 = As.reverse ++ .ref (ad j) :: rest) (hro : (rest.map fun v => v.category).sum ≤ 8) (hd : decode cc pc = .ok (.invokevirtual index, 3)) (kk : ∀ (H1 : Heap) (locs1 : List Loc), xW D ad cI A s.heap S2 H1 locs1 → W p l e R s m args below meth c H1 locs1 0 0 Q (F0 m (pc + 3) ls (rest))) : W p l e R s m args below meth c H locs 0 0 Q (F0 m pc ls st0) := by
  subst hst
  have hF := x_free w hA
  refine va_callv (va_runV (As := As) (rest := rest) F (hM H.size) (cwV As.length F.2.2.2.2 (q_goodV h1 h2 h3 h4 h5) rfl hc0 hs0 hy hR) ⟨x_blind, va_recv hK w.1 hrc hrw, fun U hU hW => ⟨rfl, by rw [hU], by rw [hU]; exact w.1, va_K.moved hW.alike hK, w.2.1.weaken (fun _ _ _ _ => trivial), x_nests hW hN⟩⟩ rfl rfl hsz rfl (lv_room hro) hd ⟨Nat.zero_le _, Nat.zero_le _⟩) w.2.2 (fun q _ h => hF q h) hF (fun u t H1 locs1 ht hvm hw hB hz1 hk1 hS => ?_)
  exact kk H1 locs1 ⟨ht ▸ hB, x_D _ w.2.1, hS⟩
theorem x_calliN (F : CallFix p m c cc nL s args qtb own) (hK : va_K D qcl [(cI, .int)] s) (hN : qnests xns s) (hA : ∀ q, s.heap.size ≤ q → A q) (w : xW D ad cI A s.heap S H locs) {y : MethodName} {b : ByteArray} {n : Nat} {ret : Option FieldType} {rm : Room} {r : Int32} {As : List Value} {j ci index cN : Nat} {C host : String} {cT : u_T} {fs : List Value} (hM : xMi l y b n ret rm D ad cI S (.ref (ad j) :: As) r S2) (h1 : va_Nw (.methodLinkNest own index y host) s) (h2 : Cond.instanceMethod y ∈ qtb) (h3 : Cond.selects C y y ∈ qtb) (h4 : Cond.initialized C ∈ qtb) (h5 : Cond.code y b n ret ∈ qtb) (hy : y.cls = C ∧ y.cls ≠ "java/lang/invoke/MethodHandle" ∧ y.cls ≠ "java/lang/invoke/VarHandle" ∧ (parseMethodDescriptor y.desc).map (fun d => d.parameters.length) = some As.length) (hc0 : rm.cells = 0) (hs0 : rm.slots = 0) (hR : rm.frames + 1 ≤ R.frames ∧ 8 + (n + 11) + rm.locals ≤ R.locals) (hrc : qcl[ci]? = some (C, cT, cN)) (hrw : (xw ad cI S)[j]? = some (ad j, .inr (ci, fs))) (hsz : ls.size = nL) {st0 : List Value} (hst : st0 = As.reverse ++ .ref (ad j) :: rest) (hro : (rest.map fun v => v.category).sum ≤ 8) (hd : decode cc pc = .ok (.invokevirtual index, 3)) (kk : ∀ (H1 : Heap) (locs1 : List Loc), xW D ad cI A s.heap S2 H1 locs1 → W p l e R s m args below meth c H1 locs1 0 0 Q (F0 m (pc + 3) ls (.int r :: rest))) : W p l e R s m args below meth c H locs 0 0 Q (F0 m pc ls st0) := by
  subst hst
  have hF := x_free w hA
  refine va_calli (va_runVN (C := C) (As := As) (rest := rest) F (hM H.size) ⟨va_cnB As.length F.2.2.2.2 (q_good h5) rfl hc0 hs0 h1 (hy.1 ▸ F.2.2.2.2 _ h4) hy.2 hR, F.2.2.2.2 _ h2, F.2.2.2.2 _ h3⟩ ⟨x_blind, va_recv hK w.1 hrc hrw, fun U hU hW => ⟨rfl, by rw [hU], by rw [hU]; exact w.1, va_K.moved hW.alike hK, w.2.1.weaken (fun _ _ _ _ => trivial), x_nests hW hN⟩⟩ rfl rfl hsz rfl (lv_room hro) hd ⟨Nat.zero_le _, Nat.zero_le _⟩) w.2.2 (fun q _ h => hF q h) hF (fun r1 u t H1 locs1 ht hvm hw hB hz1 hk1 hS => ?_)
  subst hw
  exact kk H1 locs1 ⟨ht ▸ hB, x_D _ w.2.1, hS⟩
theorem x_callvN (F : CallFix p m c cc nL s args qtb own) (hK : va_K D qcl [(cI, .int)] s) (hN : qnests xns s) (hA : ∀ q, s.heap.size ≤ q → A q) (w : xW D ad cI A s.heap S H locs) {y : MethodName} {b : ByteArray} {n : Nat} {ret : Option FieldType} {rm : Room} {As : List Value} {j ci index cN : Nat} {C host : String} {cT : u_T} {fs : List Value} (hM : xMv l y b n ret rm D ad cI S (.ref (ad j) :: As) S2) (h1 : va_Nw (.methodLinkNest own index y host) s) (h2 : Cond.instanceMethod y ∈ qtb) (h3 : Cond.selects C y y ∈ qtb) (h4 : Cond.initialized C ∈ qtb) (h5 : Cond.code y b n ret ∈ qtb) (hy : y.cls = C ∧ y.cls ≠ "java/lang/invoke/MethodHandle" ∧ y.cls ≠ "java/lang/invoke/VarHandle" ∧ (parseMethodDescriptor y.desc).map (fun d => d.parameters.length) = some As.length) (hc0 : rm.cells = 0) (hs0 : rm.slots = 0) (hR : rm.frames + 1 ≤ R.frames ∧ 8 + (n + 11) + rm.locals ≤ R.locals) (hrc : qcl[ci]? = some (C, cT, cN)) (hrw : (xw ad cI S)[j]? = some (ad j, .inr (ci, fs))) (hsz : ls.size = nL) {st0 : List Value} (hst : st0 = As.reverse ++ .ref (ad j) :: rest) (hro : (rest.map fun v => v.category).sum ≤ 8) (hd : decode cc pc = .ok (.invokevirtual index, 3)) (kk : ∀ (H1 : Heap) (locs1 : List Loc), xW D ad cI A s.heap S2 H1 locs1 → W p l e R s m args below meth c H1 locs1 0 0 Q (F0 m (pc + 3) ls (rest))) : W p l e R s m args below meth c H locs 0 0 Q (F0 m pc ls st0) := by
  subst hst
  have hF := x_free w hA
  refine va_callv (va_runVN (C := C) (As := As) (rest := rest) F (hM H.size) ⟨va_cnB As.length F.2.2.2.2 (q_good h5) rfl hc0 hs0 h1 (hy.1 ▸ F.2.2.2.2 _ h4) hy.2 hR, F.2.2.2.2 _ h2, F.2.2.2.2 _ h3⟩ ⟨x_blind, va_recv hK w.1 hrc hrw, fun U hU hW => ⟨rfl, by rw [hU], by rw [hU]; exact w.1, va_K.moved hW.alike hK, w.2.1.weaken (fun _ _ _ _ => trivial), x_nests hW hN⟩⟩ rfl rfl hsz rfl (lv_room hro) hd ⟨Nat.zero_le _, Nat.zero_le _⟩) w.2.2 (fun q _ h => hF q h) hF (fun u t H1 locs1 ht hvm hw hB hz1 hk1 hS => ?_)
  exact kk H1 locs1 ⟨ht ▸ hB, x_D _ w.2.1, hS⟩
end xCalls
theorem x_ofi {l : Launch} {y : MethodName} {b : ByteArray} {n : Nat} {rm : Room} {D : va_G} {ad : Nat → Nat} {cI : ClassId} {S S2 : Nat → Nat → Int32} {av : List Value} {r : Int32} (hy : plainName y.cls = true) (hn : (lg_sl av).length ≤ n) (body : ∀ (p : Program) (e : Env) (s : State) (m : MethodId) (args : Array Value) (below : List Frame) (meth : Method) (c : Code) (Q : State → Prop) (A : Nat → Prop) (ls : Array Slot), CallFix p m c b n s args qtb y.cls → va_K D qcl [(cI, .int)] s → qnests xns s → (∀ q, s.heap.size ≤ q → A q) → xW D ad cI A s.heap S s.heap [] → lv_has ls n (lv_args 0 av) → (∀ (H : Heap) (locs : List Loc) (pc : Nat) (ls : Array Slot), decode b pc = .ok (.ireturn, 1) → xW D ad cI A s.heap S2 H locs → W p l e rm s m args below meth c H locs 0 0 Q (F0 m pc ls [.int r])) → W p l e rm s m args below meth c s.heap [] 0 0 Q (F0 m 0 ls [])) : xMi l y b n (some .int) rm D ad cI S av r S2 := by
  intro sz
  refine Met.ofW (cc := b) (maxL := n) (ret := some .int) hy rfl ?_
  intro p e s m args below meth c s₁ B hml hv
  obtain ⟨rfl, hsz, hP, hK, hD0, hN⟩ := hv
  have hts : ∀ w ∈ qtb, w.before av.toArray s = true := fun w h => atoms_spec (ws := .code y b n (some .int) :: qtb) B.pre w (List.mem_cons_of_mem _ h)
  have hr := B.returns
  have hlocks := B.notSynchronized
  subst hsz
  have hl := lv_entry av (n := n) hn
  rw [lg_entry_eq]
  generalize (lg_sl av ++ List.replicate (n - (lg_sl av).length) Slot.unset).toArray = ls at hl ⊢
  refine body p e s m _ below meth c _ (va_A (xw ad cI S) s.heap.size) ls ⟨B.exec, B.bytes, hml, findClass_of_methodNamed B.named, hts⟩ hK hN (fun q h => Or.inr h) ⟨hP, hD0.self, va_S.rf⟩ hl (fun H locs pc ls hd w => ?_)
  exact W.iret B.exec B.bytes hr (fun t ht hW => ⟨⟨_, (), rfl, rfl, by subst ht; exact w.1⟩, w.2.2.F ht⟩) w.2.2.2.2 hd
theorem x_ofz {l : Launch} {y : MethodName} {b : ByteArray} {n : Nat} {rm : Room} {D : va_G} {ad : Nat → Nat} {cI : ClassId} {S S2 : Nat → Nat → Int32} {av : List Value} {r : Bool} (hy : plainName y.cls = true) (hn : (lg_sl av).length ≤ n) (body : ∀ (p : Program) (e : Env) (s : State) (m : MethodId) (args : Array Value) (below : List Frame) (meth : Method) (c : Code) (Q : State → Prop) (A : Nat → Prop) (ls : Array Slot), CallFix p m c b n s args qtb y.cls → va_K D qcl [(cI, .int)] s → qnests xns s → (∀ q, s.heap.size ≤ q → A q) → xW D ad cI A s.heap S s.heap [] → lv_has ls n (lv_args 0 av) → (∀ (H : Heap) (locs : List Loc) (pc : Nat) (ls : Array Slot), decode b pc = .ok (.ireturn, 1) → xW D ad cI A s.heap S2 H locs → W p l e rm s m args below meth c H locs 0 0 Q (F0 m pc ls [.int (qB r)])) → W p l e rm s m args below meth c s.heap [] 0 0 Q (F0 m 0 ls [])) : xMi l y b n (some .boolean) rm D ad cI S av (qB r) S2 := by
  intro sz
  refine Met.ofW (cc := b) (maxL := n) (ret := some .boolean) hy rfl ?_
  intro p e s m args below meth c s₁ B hml hv
  obtain ⟨rfl, hsz, hP, hK, hD0, hN⟩ := hv
  have hts : ∀ w ∈ qtb, w.before av.toArray s = true := fun w h => atoms_spec (ws := .code y b n (some .boolean) :: qtb) B.pre w (List.mem_cons_of_mem _ h)
  have hr := B.returns
  have hlocks := B.notSynchronized
  subst hsz
  have hl := lv_entry av (n := n) hn
  rw [lg_entry_eq]
  generalize (lg_sl av ++ List.replicate (n - (lg_sl av).length) Slot.unset).toArray = ls at hl ⊢
  refine body p e s m _ below meth c _ (va_A (xw ad cI S) s.heap.size) ls ⟨B.exec, B.bytes, hml, findClass_of_methodNamed B.named, hts⟩ hK hN (fun q h => Or.inr h) ⟨hP, hD0.self, va_S.rf⟩ hl (fun H locs pc ls hd w => ?_)
  exact W.zret B.exec B.bytes hr (qB_nar r) (fun t ht hW => ⟨⟨_, (), rfl, rfl, by subst ht; exact w.1⟩, w.2.2.F ht⟩) w.2.2.2.2 hd
theorem x_ofv {l : Launch} {y : MethodName} {b : ByteArray} {n : Nat} {rm : Room} {D : va_G} {ad : Nat → Nat} {cI : ClassId} {S S2 : Nat → Nat → Int32} {av : List Value}  (hy : plainName y.cls = true) (hn : (lg_sl av).length ≤ n) (body : ∀ (p : Program) (e : Env) (s : State) (m : MethodId) (args : Array Value) (below : List Frame) (meth : Method) (c : Code) (Q : State → Prop) (A : Nat → Prop) (ls : Array Slot), CallFix p m c b n s args qtb y.cls → va_K D qcl [(cI, .int)] s → qnests xns s → (∀ q, s.heap.size ≤ q → A q) → xW D ad cI A s.heap S s.heap [] → lv_has ls n (lv_args 0 av) → (∀ (H : Heap) (locs : List Loc) (pc : Nat) (ls : Array Slot), decode b pc = .ok (.return_, 1) → xW D ad cI A s.heap S2 H locs → W p l e rm s m args below meth c H locs 0 0 Q (F0 m pc ls [])) → W p l e rm s m args below meth c s.heap [] 0 0 Q (F0 m 0 ls [])) : xMv l y b n (none) rm D ad cI S av S2 := by
  intro sz
  refine Met.ofW (cc := b) (maxL := n) (ret := none) hy rfl ?_
  intro p e s m args below meth c s₁ B hml hv
  obtain ⟨rfl, hsz, hP, hK, hD0, hN⟩ := hv
  have hts : ∀ w ∈ qtb, w.before av.toArray s = true := fun w h => atoms_spec (ws := .code y b n (none) :: qtb) B.pre w (List.mem_cons_of_mem _ h)
  have hr := B.returns
  have hlocks := B.notSynchronized
  subst hsz
  have hl := lv_entry av (n := n) hn
  rw [lg_entry_eq]
  generalize (lg_sl av ++ List.replicate (n - (lg_sl av).length) Slot.unset).toArray = ls at hl ⊢
  refine body p e s m _ below meth c _ (va_A (xw ad cI S) s.heap.size) ls ⟨B.exec, B.bytes, hml, findClass_of_methodNamed B.named, hts⟩ hK hN (fun q h => Or.inr h) ⟨hP, hD0.self, va_S.rf⟩ hl (fun H locs pc ls hd w => ?_)
  exact W.vret B.exec B.bytes hr (fun t ht hW => ⟨⟨(), rfl, trivial, by subst ht; exact w.1⟩, w.2.2.F ht⟩) w.2.2.2.2 hd
def mns : List Cond := []
theorem mns_form : ∀ w ∈ mns, ∃ (a : String) (i : Nat) (x : MethodName) (h : String), w = Cond.methodLinkNest a i x h := by
  intro w hw
  exact absurd hw List.not_mem_nil
theorem m_nests {s U : State} (hW : s.WarmedH U.vm) (h : qnests mns s) : qnests mns U := fun w hw => by
  have h1 := h w hw
  obtain ⟨a, i, x, hh, rfl⟩ := mns_form w hw
  exact va_Nw.warmM hW h1
theorem m_nestsame {s U : State} (e : s.vm = U.vm) (h : qnests mns s) : qnests mns U := fun w hw => by
  have h1 := h w hw
  obtain ⟨a, i, x, hh, rfl⟩ := mns_form w hw
  exact va_Nw.same rfl e h1
def mPre (D : va_G) (ad : Nat → Nat) (cI cZ : ClassId) (S : Nat → Nat → Int32) (sz : Nat) (av : List Value) : Array Value → State → Prop := va_Pc av (fun U => U.heap.size = sz ∧ va_P D qcl (mw ad cI cZ S) U.heap ∧ va_K D qcl [(cI, .int), (cZ, .boolean)] U ∧ va_D (fun _ => True) (mw ad cI cZ S) ∧ qnests mns U)
/-- the contract of a method that answers r (an int, or a boolean as 0 or 1) and leaves the state S2 -/
def mMi (l : Launch) (y : MethodName) (b : ByteArray) (n : Nat) (ret : Option FieldType) (rm : Room) (D : va_G) (ad : Nat → Nat) (cI cZ : ClassId) (S : Nat → Nat → Int32) (av : List Value) (r : Int32) (S2 : Nat → Nat → Int32) : Prop := ∀ sz : Nat, Met l y (.code y b n ret :: qtb) rm (mPre D ad cI cZ S sz av) (va_Qi (fun (r1 : Int32) (_ : Unit) => r1 = r) (fun _ t => va_P D qcl (mw ad cI cZ S2) t.heap) (va_A (mw ad cI cZ S) sz)) 0 0 (va_A (mw ad cI cZ S) sz)
def mMv (l : Launch) (y : MethodName) (b : ByteArray) (n : Nat) (ret : Option FieldType) (rm : Room) (D : va_G) (ad : Nat → Nat) (cI cZ : ClassId) (S : Nat → Nat → Int32) (av : List Value) (S2 : Nat → Nat → Int32) : Prop := ∀ sz : Nat, Met l y (.code y b n ret :: qtb) rm (mPre D ad cI cZ S sz av) (va_Qv (fun (_ : Unit) => True) (fun _ t => va_P D qcl (mw ad cI cZ S2) t.heap) (va_A (mw ad cI cZ S) sz)) 0 0 (va_A (mw ad cI cZ S) sz)
theorem m_blind {D : va_G} {ad : Nat → Nat} {cI cZ : ClassId} {S : Nat → Nat → Int32} {sz : Nat} {av : List Value} : FrameBlind (mPre D ad cI cZ S sz av) := fun a U g mk q => by
  obtain ⟨q0, q1, qP, qK, qD, qN⟩ := q
  exact ⟨q0, q1, qP, va_K.moved (u := U) (U := U.calling g mk a) (Vm.Alike.refl U.vm) qK, qD, m_nestsame (s := U) rfl qN⟩
section mCalls
variable {p : Program} {l : Launch} {e : Env} {R : Room} {s : State} {m : MethodId} {args : Array Value} {below : List Frame} {meth : Method} {c : Code} {H : Heap} {locs : List Loc} {Q : State → Prop} {cc : ByteArray} {nL pc : Nat} {own : String} {ls : Array Slot} {rest : List Value} {D : va_G} {ad : Nat → Nat} {cI cZ : ClassId} {A : Nat → Prop} {S S2 : Nat → Nat → Int32}
theorem m_calli (F : CallFix p m c cc nL s args qtb own) (hK : va_K D qcl [(cI, .int), (cZ, .boolean)] s) (hN : qnests mns s) (hA : ∀ q, s.heap.size ≤ q → A q) (w : mW D ad cI cZ A s.heap S H locs) {y : MethodName} {b : ByteArray} {n : Nat} {ret : Option FieldType} {rm : Room} {r : Int32} {As : List Value} {j ci index cN : Nat} {C : String} {cT : u_T} {fs : List Value} (hM : mMi l y b n ret rm D ad cI cZ S (.ref (ad j) :: As) r S2) (h1 : Cond.methodLink own index y ∈ qtb) (h2 : Cond.instanceMethod y ∈ qtb) (h3 : Cond.selects C y y ∈ qtb) (h4 : Cond.initialized C ∈ qtb) (h5 : Cond.code y b n ret ∈ qtb) (hy : y.cls = C ∧ y.cls ≠ "java/lang/invoke/MethodHandle" ∧ y.cls ≠ "java/lang/invoke/VarHandle" ∧ (parseMethodDescriptor y.desc).map (fun d => d.parameters.length) = some As.length) (hc0 : rm.cells = 0) (hs0 : rm.slots = 0) (hR : rm.frames + 1 ≤ R.frames ∧ 8 + (n + 11) + rm.locals ≤ R.locals) (hrc : qcl[ci]? = some (C, cT, cN)) (hrw : (mw ad cI cZ S)[j]? = some (ad j, .inr (ci, fs))) (hsz : ls.size = nL) {st0 : List Value} (hst : st0 = As.reverse ++ .ref (ad j) :: rest) (hro : (rest.map fun v => v.category).sum ≤ 8) (hd : decode cc pc = .ok (.invokevirtual index, 3)) (kk : ∀ (H1 : Heap) (locs1 : List Loc), mW D ad cI cZ A s.heap S2 H1 locs1 → W p l e R s m args below meth c H1 locs1 0 0 Q (F0 m (pc + 3) ls (.int r :: rest))) : W p l e R s m args below meth c H locs 0 0 Q (F0 m pc ls st0) := by
  subst hst
  have hF := m_free w hA
  refine va_calli (va_runV (As := As) (rest := rest) F (hM H.size) (cwV As.length F.2.2.2.2 (q_goodV h1 h2 h3 h4 h5) rfl hc0 hs0 hy hR) ⟨m_blind, va_recv hK w.1 hrc hrw, fun U hU hW => ⟨rfl, by rw [hU], by rw [hU]; exact w.1, va_K.moved hW.alike hK, w.2.1.weaken (fun _ _ _ _ => trivial), m_nests hW hN⟩⟩ rfl rfl hsz rfl (lv_room hro) hd ⟨Nat.zero_le _, Nat.zero_le _⟩) w.2.2 (fun q _ h => hF q h) hF (fun r1 u t H1 locs1 ht hvm hw hB hz1 hk1 hS => ?_)
  subst hw
  exact kk H1 locs1 ⟨ht ▸ hB, m_D _ w.2.1, hS⟩
theorem m_callv (F : CallFix p m c cc nL s args qtb own) (hK : va_K D qcl [(cI, .int), (cZ, .boolean)] s) (hN : qnests mns s) (hA : ∀ q, s.heap.size ≤ q → A q) (w : mW D ad cI cZ A s.heap S H locs) {y : MethodName} {b : ByteArray} {n : Nat} {ret : Option FieldType} {rm : Room} {As : List Value} {j ci index cN : Nat} {C : String} {cT : u_T} {fs : List Value} (hM : mMv l y b n ret rm D ad cI cZ S (.ref (ad j) :: As) S2) (h1 : Cond.methodLink own index y ∈ qtb) (h2 : Cond.instanceMethod y ∈ qtb) (h3 : Cond.selects C y y ∈ qtb) (h4 : Cond.initialized C ∈ qtb) (h5 : Cond.code y b n ret ∈ qtb) (hy : y.cls = C ∧ y.cls ≠ "java/lang/invoke/MethodHandle" ∧ y.cls ≠ "java/lang/invoke/VarHandle" ∧ (parseMethodDescriptor y.desc).map (fun d => d.parameters.length) = some As.length) (hc0 : rm.cells = 0) (hs0 : rm.slots = 0) (hR : rm.frames + 1 ≤ R.frames ∧ 8 + (n + 11) + rm.locals ≤ R.locals) (hrc : qcl[ci]? = some (C, cT, cN)) (hrw : (mw ad cI cZ S)[j]? = some (ad j, .inr (ci, fs))) (hsz : ls.size = nL) {st0 : List Value} (hst : st0 = As.reverse ++ .ref (ad j) :: rest) (hro : (rest.map fun v => v.category).sum ≤ 8) (hd : decode cc pc = .ok (.invokevirtual index, 3)) (kk : ∀ (H1 : Heap) (locs1 : List Loc), mW D ad cI cZ A s.heap S2 H1 locs1 → W p l e R s m args below meth c H1 locs1 0 0 Q (F0 m (pc + 3) ls (rest))) : W p l e R s m args below meth c H locs 0 0 Q (F0 m pc ls st0) := by
  subst hst
  have hF := m_free w hA
  refine va_callv (va_runV (As := As) (rest := rest) F (hM H.size) (cwV As.length F.2.2.2.2 (q_goodV h1 h2 h3 h4 h5) rfl hc0 hs0 hy hR) ⟨m_blind, va_recv hK w.1 hrc hrw, fun U hU hW => ⟨rfl, by rw [hU], by rw [hU]; exact w.1, va_K.moved hW.alike hK, w.2.1.weaken (fun _ _ _ _ => trivial), m_nests hW hN⟩⟩ rfl rfl hsz rfl (lv_room hro) hd ⟨Nat.zero_le _, Nat.zero_le _⟩) w.2.2 (fun q _ h => hF q h) hF (fun u t H1 locs1 ht hvm hw hB hz1 hk1 hS => ?_)
  exact kk H1 locs1 ⟨ht ▸ hB, m_D _ w.2.1, hS⟩
end mCalls
theorem m_ofi {l : Launch} {y : MethodName} {b : ByteArray} {n : Nat} {rm : Room} {D : va_G} {ad : Nat → Nat} {cI cZ : ClassId} {S S2 : Nat → Nat → Int32} {av : List Value} {r : Int32} (hy : plainName y.cls = true) (hn : (lg_sl av).length ≤ n) (body : ∀ (p : Program) (e : Env) (s : State) (m : MethodId) (args : Array Value) (below : List Frame) (meth : Method) (c : Code) (Q : State → Prop) (A : Nat → Prop) (ls : Array Slot), CallFix p m c b n s args qtb y.cls → va_K D qcl [(cI, .int), (cZ, .boolean)] s → qnests mns s → (∀ q, s.heap.size ≤ q → A q) → mW D ad cI cZ A s.heap S s.heap [] → lv_has ls n (lv_args 0 av) → (∀ (H : Heap) (locs : List Loc) (pc : Nat) (ls : Array Slot), decode b pc = .ok (.ireturn, 1) → mW D ad cI cZ A s.heap S2 H locs → W p l e rm s m args below meth c H locs 0 0 Q (F0 m pc ls [.int r])) → W p l e rm s m args below meth c s.heap [] 0 0 Q (F0 m 0 ls [])) : mMi l y b n (some .int) rm D ad cI cZ S av r S2 := by
  intro sz
  refine Met.ofW (cc := b) (maxL := n) (ret := some .int) hy rfl ?_
  intro p e s m args below meth c s₁ B hml hv
  obtain ⟨rfl, hsz, hP, hK, hD0, hN⟩ := hv
  have hts : ∀ w ∈ qtb, w.before av.toArray s = true := fun w h => atoms_spec (ws := .code y b n (some .int) :: qtb) B.pre w (List.mem_cons_of_mem _ h)
  have hr := B.returns
  have hlocks := B.notSynchronized
  subst hsz
  have hl := lv_entry av (n := n) hn
  rw [lg_entry_eq]
  generalize (lg_sl av ++ List.replicate (n - (lg_sl av).length) Slot.unset).toArray = ls at hl ⊢
  refine body p e s m _ below meth c _ (va_A (mw ad cI cZ S) s.heap.size) ls ⟨B.exec, B.bytes, hml, findClass_of_methodNamed B.named, hts⟩ hK hN (fun q h => Or.inr h) ⟨hP, hD0.self, va_S.rf⟩ hl (fun H locs pc ls hd w => ?_)
  exact W.iret B.exec B.bytes hr (fun t ht hW => ⟨⟨_, (), rfl, rfl, by subst ht; exact w.1⟩, w.2.2.F ht⟩) w.2.2.2.2 hd
theorem m_ofz {l : Launch} {y : MethodName} {b : ByteArray} {n : Nat} {rm : Room} {D : va_G} {ad : Nat → Nat} {cI cZ : ClassId} {S S2 : Nat → Nat → Int32} {av : List Value} {r : Bool} (hy : plainName y.cls = true) (hn : (lg_sl av).length ≤ n) (body : ∀ (p : Program) (e : Env) (s : State) (m : MethodId) (args : Array Value) (below : List Frame) (meth : Method) (c : Code) (Q : State → Prop) (A : Nat → Prop) (ls : Array Slot), CallFix p m c b n s args qtb y.cls → va_K D qcl [(cI, .int), (cZ, .boolean)] s → qnests mns s → (∀ q, s.heap.size ≤ q → A q) → mW D ad cI cZ A s.heap S s.heap [] → lv_has ls n (lv_args 0 av) → (∀ (H : Heap) (locs : List Loc) (pc : Nat) (ls : Array Slot), decode b pc = .ok (.ireturn, 1) → mW D ad cI cZ A s.heap S2 H locs → W p l e rm s m args below meth c H locs 0 0 Q (F0 m pc ls [.int (qB r)])) → W p l e rm s m args below meth c s.heap [] 0 0 Q (F0 m 0 ls [])) : mMi l y b n (some .boolean) rm D ad cI cZ S av (qB r) S2 := by
  intro sz
  refine Met.ofW (cc := b) (maxL := n) (ret := some .boolean) hy rfl ?_
  intro p e s m args below meth c s₁ B hml hv
  obtain ⟨rfl, hsz, hP, hK, hD0, hN⟩ := hv
  have hts : ∀ w ∈ qtb, w.before av.toArray s = true := fun w h => atoms_spec (ws := .code y b n (some .boolean) :: qtb) B.pre w (List.mem_cons_of_mem _ h)
  have hr := B.returns
  have hlocks := B.notSynchronized
  subst hsz
  have hl := lv_entry av (n := n) hn
  rw [lg_entry_eq]
  generalize (lg_sl av ++ List.replicate (n - (lg_sl av).length) Slot.unset).toArray = ls at hl ⊢
  refine body p e s m _ below meth c _ (va_A (mw ad cI cZ S) s.heap.size) ls ⟨B.exec, B.bytes, hml, findClass_of_methodNamed B.named, hts⟩ hK hN (fun q h => Or.inr h) ⟨hP, hD0.self, va_S.rf⟩ hl (fun H locs pc ls hd w => ?_)
  exact W.zret B.exec B.bytes hr (qB_nar r) (fun t ht hW => ⟨⟨_, (), rfl, rfl, by subst ht; exact w.1⟩, w.2.2.F ht⟩) w.2.2.2.2 hd
theorem m_ofv {l : Launch} {y : MethodName} {b : ByteArray} {n : Nat} {rm : Room} {D : va_G} {ad : Nat → Nat} {cI cZ : ClassId} {S S2 : Nat → Nat → Int32} {av : List Value}  (hy : plainName y.cls = true) (hn : (lg_sl av).length ≤ n) (body : ∀ (p : Program) (e : Env) (s : State) (m : MethodId) (args : Array Value) (below : List Frame) (meth : Method) (c : Code) (Q : State → Prop) (A : Nat → Prop) (ls : Array Slot), CallFix p m c b n s args qtb y.cls → va_K D qcl [(cI, .int), (cZ, .boolean)] s → qnests mns s → (∀ q, s.heap.size ≤ q → A q) → mW D ad cI cZ A s.heap S s.heap [] → lv_has ls n (lv_args 0 av) → (∀ (H : Heap) (locs : List Loc) (pc : Nat) (ls : Array Slot), decode b pc = .ok (.return_, 1) → mW D ad cI cZ A s.heap S2 H locs → W p l e rm s m args below meth c H locs 0 0 Q (F0 m pc ls [])) → W p l e rm s m args below meth c s.heap [] 0 0 Q (F0 m 0 ls [])) : mMv l y b n (none) rm D ad cI cZ S av S2 := by
  intro sz
  refine Met.ofW (cc := b) (maxL := n) (ret := none) hy rfl ?_
  intro p e s m args below meth c s₁ B hml hv
  obtain ⟨rfl, hsz, hP, hK, hD0, hN⟩ := hv
  have hts : ∀ w ∈ qtb, w.before av.toArray s = true := fun w h => atoms_spec (ws := .code y b n (none) :: qtb) B.pre w (List.mem_cons_of_mem _ h)
  have hr := B.returns
  have hlocks := B.notSynchronized
  subst hsz
  have hl := lv_entry av (n := n) hn
  rw [lg_entry_eq]
  generalize (lg_sl av ++ List.replicate (n - (lg_sl av).length) Slot.unset).toArray = ls at hl ⊢
  refine body p e s m _ below meth c _ (va_A (mw ad cI cZ S) s.heap.size) ls ⟨B.exec, B.bytes, hml, findClass_of_methodNamed B.named, hts⟩ hK hN (fun q h => Or.inr h) ⟨hP, hD0.self, va_S.rf⟩ hl (fun H locs pc ls hd w => ?_)
  exact W.vret B.exec B.bytes hr (fun t ht hW => ⟨⟨(), rfl, trivial, by subst ht; exact w.1⟩, w.2.2.F ht⟩) w.2.2.2.2 hd
end
