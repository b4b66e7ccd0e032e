section
-- ===== PART A: goes FIRST, ahead of the names: the tables' words, and 'selects' of the private methods out of them =====
/-- a private method of a class that the tables say can be made, by its rows of tables_1 -/
def lw_okq (q : MethodName × Nat) : Prop := (q.1.cls ≠ "java/lang/invoke/MethodHandle" ∧ q.1.cls ≠ "java/lang/invoke/VarHandle") ∧ Cond.instantiable q.1.cls q.2 ∈ tables_1 ∧ Cond.privateMethod q.1 ∈ tables_1 ∧ Cond.instanceMethod q.1 ∈ tables_1
theorem lw_p0 : lw_okq (⟨"MovedMembers$Reader", "start", "(I)V"⟩, 9) := ⟨⟨by decide +kernel, by decide +kernel⟩, List.mem_of_getElem? (i := 36) (by decide +kernel), List.mem_of_getElem? (i := 287) (by decide +kernel), List.mem_of_getElem? (i := 288) (by decide +kernel)⟩
theorem lw_p1 : lw_okq (⟨"MovedMembers$Reader", "take", "(I)Z"⟩, 9) := ⟨⟨by decide +kernel, by decide +kernel⟩, List.mem_of_getElem? (i := 36) (by decide +kernel), List.mem_of_getElem? (i := 295) (by decide +kernel), List.mem_of_getElem? (i := 296) (by decide +kernel)⟩
theorem lw_p2 : lw_okq (⟨"MovedMembers$Reader", "goOn", "(ZI)Z"⟩, 9) := ⟨⟨by decide +kernel, by decide +kernel⟩, List.mem_of_getElem? (i := 36) (by decide +kernel), List.mem_of_getElem? (i := 299) (by decide +kernel), List.mem_of_getElem? (i := 300) (by decide +kernel)⟩
theorem lw_p3 : lw_okq (⟨"MovedMembers$Reader", "takeMember", "(I)Z"⟩, 9) := ⟨⟨by decide +kernel, by decide +kernel⟩, List.mem_of_getElem? (i := 36) (by decide +kernel), List.mem_of_getElem? (i := 303) (by decide +kernel), List.mem_of_getElem? (i := 304) (by decide +kernel)⟩
theorem lw_p4 : lw_okq (⟨"MovedMembers$Reader", "takeDash", "()Z"⟩, 9) := ⟨⟨by decide +kernel, by decide +kernel⟩, List.mem_of_getElem? (i := 36) (by decide +kernel), List.mem_of_getElem? (i := 316) (by decide +kernel), List.mem_of_getElem? (i := 317) (by decide +kernel)⟩
theorem lw_p5 : lw_okq (⟨"MovedMembers$Reader", "takeBehindDash", "(I)Z"⟩, 9) := ⟨⟨by decide +kernel, by decide +kernel⟩, List.mem_of_getElem? (i := 36) (by decide +kernel), List.mem_of_getElem? (i := 324) (by decide +kernel), List.mem_of_getElem? (i := 325) (by decide +kernel)⟩
theorem lw_p6 : lw_okq (⟨"MovedMembers$Reader", "takeItem", "(I)Z"⟩, 9) := ⟨⟨by decide +kernel, by decide +kernel⟩, List.mem_of_getElem? (i := 36) (by decide +kernel), List.mem_of_getElem? (i := 328) (by decide +kernel), List.mem_of_getElem? (i := 329) (by decide +kernel)⟩
theorem lw_p7 : lw_okq (⟨"MovedMembers$Reader", "addItem", "(I)Z"⟩, 9) := ⟨⟨by decide +kernel, by decide +kernel⟩, List.mem_of_getElem? (i := 36) (by decide +kernel), List.mem_of_getElem? (i := 336) (by decide +kernel), List.mem_of_getElem? (i := 337) (by decide +kernel)⟩
theorem lw_p8 : lw_okq (⟨"MovedMembers$Reader", "takeAsked", "(I)Z"⟩, 9) := ⟨⟨by decide +kernel, by decide +kernel⟩, List.mem_of_getElem? (i := 36) (by decide +kernel), List.mem_of_getElem? (i := 340) (by decide +kernel), List.mem_of_getElem? (i := 341) (by decide +kernel)⟩
theorem lw_p9 : lw_okq (⟨"MovedMembers$Tree", "newBody", "(LMovedMembers$Reader;I)I"⟩, 10) := ⟨⟨by decide +kernel, by decide +kernel⟩, List.mem_of_getElem? (i := 73) (by decide +kernel), List.mem_of_getElem? (i := 377) (by decide +kernel), List.mem_of_getElem? (i := 378) (by decide +kernel)⟩
theorem lw_p10 : lw_okq (⟨"MovedMembers$Tracer", "meet", "(II)V"⟩, 9) := ⟨⟨by decide +kernel, by decide +kernel⟩, List.mem_of_getElem? (i := 117) (by decide +kernel), List.mem_of_getElem? (i := 494) (by decide +kernel), List.mem_of_getElem? (i := 495) (by decide +kernel)⟩
theorem lw_p11 : lw_okq (⟨"MovedMembers$Tracer", "note", "(II)V"⟩, 9) := ⟨⟨by decide +kernel, by decide +kernel⟩, List.mem_of_getElem? (i := 117) (by decide +kernel), List.mem_of_getElem? (i := 499) (by decide +kernel), List.mem_of_getElem? (i := 500) (by decide +kernel)⟩
theorem lw_p12 : lw_okq (⟨"MovedMembers$Tracer", "enter", "(II)V"⟩, 9) := ⟨⟨by decide +kernel, by decide +kernel⟩, List.mem_of_getElem? (i := 117) (by decide +kernel), List.mem_of_getElem? (i := 503) (by decide +kernel), List.mem_of_getElem? (i := 504) (by decide +kernel)⟩
theorem lw_p13 : lw_okq (⟨"MovedMembers$Tracer", "nextItem", "()I"⟩, 9) := ⟨⟨by decide +kernel, by decide +kernel⟩, List.mem_of_getElem? (i := 117) (by decide +kernel), List.mem_of_getElem? (i := 507) (by decide +kernel), List.mem_of_getElem? (i := 508) (by decide +kernel)⟩
theorem lw_p14 : lw_okq (⟨"MovedMembers$Tracer", "leave", "()V"⟩, 9) := ⟨⟨by decide +kernel, by decide +kernel⟩, List.mem_of_getElem? (i := 117) (by decide +kernel), List.mem_of_getElem? (i := 512) (by decide +kernel), List.mem_of_getElem? (i := 513) (by decide +kernel)⟩
theorem lw_p15 : lw_okq (⟨"MovedMembers$Tracer", "use", "(I)V"⟩, 9) := ⟨⟨by decide +kernel, by decide +kernel⟩, List.mem_of_getElem? (i := 117) (by decide +kernel), List.mem_of_getElem? (i := 517) (by decide +kernel), List.mem_of_getElem? (i := 518) (by decide +kernel)⟩
def lw_privs_1 : List (MethodName × Nat) := [(⟨"MovedMembers$Reader", "start", "(I)V"⟩, 9), (⟨"MovedMembers$Reader", "take", "(I)Z"⟩, 9), (⟨"MovedMembers$Reader", "goOn", "(ZI)Z"⟩, 9), (⟨"MovedMembers$Reader", "takeMember", "(I)Z"⟩, 9), (⟨"MovedMembers$Reader", "takeDash", "()Z"⟩, 9), (⟨"MovedMembers$Reader", "takeBehindDash", "(I)Z"⟩, 9), (⟨"MovedMembers$Reader", "takeItem", "(I)Z"⟩, 9), (⟨"MovedMembers$Reader", "addItem", "(I)Z"⟩, 9), (⟨"MovedMembers$Reader", "takeAsked", "(I)Z"⟩, 9), (⟨"MovedMembers$Tree", "newBody", "(LMovedMembers$Reader;I)I"⟩, 10), (⟨"MovedMembers$Tracer", "meet", "(II)V"⟩, 9), (⟨"MovedMembers$Tracer", "note", "(II)V"⟩, 9), (⟨"MovedMembers$Tracer", "enter", "(II)V"⟩, 9), (⟨"MovedMembers$Tracer", "nextItem", "()I"⟩, 9), (⟨"MovedMembers$Tracer", "leave", "()V"⟩, 9), (⟨"MovedMembers$Tracer", "use", "(I)V"⟩, 9)]
theorem lw_r1 : ∀ q ∈ lw_privs_1, lw_okq q := List.forall_mem_cons.mpr ⟨lw_p0, List.forall_mem_cons.mpr ⟨lw_p1, List.forall_mem_cons.mpr ⟨lw_p2, List.forall_mem_cons.mpr ⟨lw_p3, List.forall_mem_cons.mpr ⟨lw_p4, List.forall_mem_cons.mpr ⟨lw_p5, List.forall_mem_cons.mpr ⟨lw_p6, List.forall_mem_cons.mpr ⟨lw_p7, List.forall_mem_cons.mpr ⟨lw_p8, List.forall_mem_cons.mpr ⟨lw_p9, List.forall_mem_cons.mpr ⟨lw_p10, List.forall_mem_cons.mpr ⟨lw_p11, List.forall_mem_cons.mpr ⟨lw_p12, List.forall_mem_cons.mpr ⟨lw_p13, List.forall_mem_cons.mpr ⟨lw_p14, List.forall_mem_cons.mpr ⟨lw_p15, fun _ h => absurd h List.not_mem_nil⟩⟩⟩⟩⟩⟩⟩⟩⟩⟩⟩⟩⟩⟩⟩⟩
theorem lw_p16 : lw_okq (⟨"MovedMembers$Tracer", "openHome", "()I"⟩, 9) := ⟨⟨by decide +kernel, by decide +kernel⟩, List.mem_of_getElem? (i := 117) (by decide +kernel), List.mem_of_getElem? (i := 521) (by decide +kernel), List.mem_of_getElem? (i := 522) (by decide +kernel)⟩
theorem lw_p17 : lw_okq (⟨"MovedMembers$Tracer", "homeFor", "(II)I"⟩, 9) := ⟨⟨by decide +kernel, by decide +kernel⟩, List.mem_of_getElem? (i := 117) (by decide +kernel), List.mem_of_getElem? (i := 525) (by decide +kernel), List.mem_of_getElem? (i := 526) (by decide +kernel)⟩
theorem lw_p18 : lw_okq (⟨"MovedMembers$Survey", "store", "(II)V"⟩, 8) := ⟨⟨by decide +kernel, by decide +kernel⟩, List.mem_of_getElem? (i := 153) (by decide +kernel), List.mem_of_getElem? (i := 534) (by decide +kernel), List.mem_of_getElem? (i := 535) (by decide +kernel)⟩
theorem lw_p19 : lw_okq (⟨"MovedMembers$Survey", "addUp", "()V"⟩, 8) := ⟨⟨by decide +kernel, by decide +kernel⟩, List.mem_of_getElem? (i := 153) (by decide +kernel), List.mem_of_getElem? (i := 546) (by decide +kernel), List.mem_of_getElem? (i := 547) (by decide +kernel)⟩
theorem lw_p20 : lw_okq (⟨"MovedMembers$Mover", "someLack", "(II)Z"⟩, 14) := ⟨⟨by decide +kernel, by decide +kernel⟩, List.mem_of_getElem? (i := 185) (by decide +kernel), List.mem_of_getElem? (i := 577) (by decide +kernel), List.mem_of_getElem? (i := 578) (by decide +kernel)⟩
theorem lw_p21 : lw_okq (⟨"MovedMembers$Mover", "save", "(II)V"⟩, 14) := ⟨⟨by decide +kernel, by decide +kernel⟩, List.mem_of_getElem? (i := 185) (by decide +kernel), List.mem_of_getElem? (i := 582) (by decide +kernel), List.mem_of_getElem? (i := 583) (by decide +kernel)⟩
theorem lw_p22 : lw_okq (⟨"MovedMembers$Mover", "shift", "(IIZ)V"⟩, 14) := ⟨⟨by decide +kernel, by decide +kernel⟩, List.mem_of_getElem? (i := 185) (by decide +kernel), List.mem_of_getElem? (i := 587) (by decide +kernel), List.mem_of_getElem? (i := 588) (by decide +kernel)⟩
theorem lw_p23 : lw_okq (⟨"MovedMembers$Mover", "shiftUp", "(IIIZ)V"⟩, 14) := ⟨⟨by decide +kernel, by decide +kernel⟩, List.mem_of_getElem? (i := 185) (by decide +kernel), List.mem_of_getElem? (i := 591) (by decide +kernel), List.mem_of_getElem? (i := 592) (by decide +kernel)⟩
theorem lw_p24 : lw_okq (⟨"MovedMembers$Mover", "shiftDown", "(IIIZ)V"⟩, 14) := ⟨⟨by decide +kernel, by decide +kernel⟩, List.mem_of_getElem? (i := 185) (by decide +kernel), List.mem_of_getElem? (i := 596) (by decide +kernel), List.mem_of_getElem? (i := 597) (by decide +kernel)⟩
theorem lw_p25 : lw_okq (⟨"MovedMembers$Mover", "firstChange", "()I"⟩, 14) := ⟨⟨by decide +kernel, by decide +kernel⟩, List.mem_of_getElem? (i := 185) (by decide +kernel), List.mem_of_getElem? (i := 600) (by decide +kernel), List.mem_of_getElem? (i := 601) (by decide +kernel)⟩
theorem lw_p26 : lw_okq (⟨"MovedMembers$Mover", "restore", "(I)V"⟩, 14) := ⟨⟨by decide +kernel, by decide +kernel⟩, List.mem_of_getElem? (i := 185) (by decide +kernel), List.mem_of_getElem? (i := 613) (by decide +kernel), List.mem_of_getElem? (i := 614) (by decide +kernel)⟩
theorem lw_p27 : lw_okq (⟨"MovedMembers", "typesThatFit", "(I)I"⟩, 7) := ⟨⟨by decide +kernel, by decide +kernel⟩, List.mem_of_getElem? (i := 12) (by decide +kernel), List.mem_of_getElem? (i := 654) (by decide +kernel), List.mem_of_getElem? (i := 655) (by decide +kernel)⟩
theorem lw_p28 : lw_okq (⟨"MovedMembers", "nearestMisfit", "(I)I"⟩, 7) := ⟨⟨by decide +kernel, by decide +kernel⟩, List.mem_of_getElem? (i := 12) (by decide +kernel), List.mem_of_getElem? (i := 658) (by decide +kernel), List.mem_of_getElem? (i := 659) (by decide +kernel)⟩
theorem lw_p29 : lw_okq (⟨"MovedMembers", "withType", "(JI)J"⟩, 7) := ⟨⟨by decide +kernel, by decide +kernel⟩, List.mem_of_getElem? (i := 12) (by decide +kernel), List.mem_of_getElem? (i := 694) (by decide +kernel), List.mem_of_getElem? (i := 695) (by decide +kernel)⟩
theorem lw_p30 : lw_okq (⟨"MovedMembers", "withMethod", "(JII)J"⟩, 7) := ⟨⟨by decide +kernel, by decide +kernel⟩, List.mem_of_getElem? (i := 12) (by decide +kernel), List.mem_of_getElem? (i := 704) (by decide +kernel), List.mem_of_getElem? (i := 705) (by decide +kernel)⟩
theorem lw_p31 : lw_okq (⟨"MovedMembers", "withBody", "(JI)J"⟩, 7) := ⟨⟨by decide +kernel, by decide +kernel⟩, List.mem_of_getElem? (i := 12) (by decide +kernel), List.mem_of_getElem? (i := 709) (by decide +kernel), List.mem_of_getElem? (i := 710) (by decide +kernel)⟩
def lw_privs_2 : List (MethodName × Nat) := [(⟨"MovedMembers$Tracer", "openHome", "()I"⟩, 9), (⟨"MovedMembers$Tracer", "homeFor", "(II)I"⟩, 9), (⟨"MovedMembers$Survey", "store", "(II)V"⟩, 8), (⟨"MovedMembers$Survey", "addUp", "()V"⟩, 8), (⟨"MovedMembers$Mover", "someLack", "(II)Z"⟩, 14), (⟨"MovedMembers$Mover", "save", "(II)V"⟩, 14), (⟨"MovedMembers$Mover", "shift", "(IIZ)V"⟩, 14), (⟨"MovedMembers$Mover", "shiftUp", "(IIIZ)V"⟩, 14), (⟨"MovedMembers$Mover", "shiftDown", "(IIIZ)V"⟩, 14), (⟨"MovedMembers$Mover", "firstChange", "()I"⟩, 14), (⟨"MovedMembers$Mover", "restore", "(I)V"⟩, 14), (⟨"MovedMembers", "typesThatFit", "(I)I"⟩, 7), (⟨"MovedMembers", "nearestMisfit", "(I)I"⟩, 7), (⟨"MovedMembers", "withType", "(JI)J"⟩, 7), (⟨"MovedMembers", "withMethod", "(JII)J"⟩, 7), (⟨"MovedMembers", "withBody", "(JI)J"⟩, 7)]
theorem lw_r2 : ∀ q ∈ lw_privs_2, lw_okq q := List.forall_mem_cons.mpr ⟨lw_p16, List.forall_mem_cons.mpr ⟨lw_p17, List.forall_mem_cons.mpr ⟨lw_p18, List.forall_mem_cons.mpr ⟨lw_p19, List.forall_mem_cons.mpr ⟨lw_p20, List.forall_mem_cons.mpr ⟨lw_p21, List.forall_mem_cons.mpr ⟨lw_p22, List.forall_mem_cons.mpr ⟨lw_p23, List.forall_mem_cons.mpr ⟨lw_p24, List.forall_mem_cons.mpr ⟨lw_p25, List.forall_mem_cons.mpr ⟨lw_p26, List.forall_mem_cons.mpr ⟨lw_p27, List.forall_mem_cons.mpr ⟨lw_p28, List.forall_mem_cons.mpr ⟨lw_p29, List.forall_mem_cons.mpr ⟨lw_p30, List.forall_mem_cons.mpr ⟨lw_p31, fun _ h => absurd h List.not_mem_nil⟩⟩⟩⟩⟩⟩⟩⟩⟩⟩⟩⟩⟩⟩⟩⟩
theorem lw_p32 : lw_okq (⟨"MovedMembersModel", "read", "()I"⟩, 45) := ⟨⟨by decide +kernel, by decide +kernel⟩, List.mem_of_getElem? (i := 717) (by decide +kernel), List.mem_of_getElem? (i := 874) (by decide +kernel), List.mem_of_getElem? (i := 875) (by decide +kernel)⟩
theorem lw_p33 : lw_okq (⟨"MovedMembersModel", "takes", "(I)Z"⟩, 45) := ⟨⟨by decide +kernel, by decide +kernel⟩, List.mem_of_getElem? (i := 717) (by decide +kernel), List.mem_of_getElem? (i := 878) (by decide +kernel), List.mem_of_getElem? (i := 879) (by decide +kernel)⟩
theorem lw_p34 : lw_okq (⟨"MovedMembersModel", "takesHead", "(I)Z"⟩, 45) := ⟨⟨by decide +kernel, by decide +kernel⟩, List.mem_of_getElem? (i := 717) (by decide +kernel), List.mem_of_getElem? (i := 882) (by decide +kernel), List.mem_of_getElem? (i := 883) (by decide +kernel)⟩
theorem lw_p35 : lw_okq (⟨"MovedMembersModel", "takesMember", "(I)Z"⟩, 45) := ⟨⟨by decide +kernel, by decide +kernel⟩, List.mem_of_getElem? (i := 717) (by decide +kernel), List.mem_of_getElem? (i := 886) (by decide +kernel), List.mem_of_getElem? (i := 887) (by decide +kernel)⟩
theorem lw_p36 : lw_okq (⟨"MovedMembersModel", "takesBehindMethod", "(I)Z"⟩, 45) := ⟨⟨by decide +kernel, by decide +kernel⟩, List.mem_of_getElem? (i := 717) (by decide +kernel), List.mem_of_getElem? (i := 896) (by decide +kernel), List.mem_of_getElem? (i := 897) (by decide +kernel)⟩
theorem lw_p37 : lw_okq (⟨"MovedMembersModel", "takesItem", "(I)Z"⟩, 45) := ⟨⟨by decide +kernel, by decide +kernel⟩, List.mem_of_getElem? (i := 717) (by decide +kernel), List.mem_of_getElem? (i := 900) (by decide +kernel), List.mem_of_getElem? (i := 901) (by decide +kernel)⟩
theorem lw_p38 : lw_okq (⟨"MovedMembersModel", "isElsewhere", "()Z"⟩, 45) := ⟨⟨by decide +kernel, by decide +kernel⟩, List.mem_of_getElem? (i := 717) (by decide +kernel), List.mem_of_getElem? (i := 912) (by decide +kernel), List.mem_of_getElem? (i := 913) (by decide +kernel)⟩
theorem lw_p39 : lw_okq (⟨"MovedMembersModel", "isType", "(I)Z"⟩, 45) := ⟨⟨by decide +kernel, by decide +kernel⟩, List.mem_of_getElem? (i := 717) (by decide +kernel), List.mem_of_getElem? (i := 920) (by decide +kernel), List.mem_of_getElem? (i := 921) (by decide +kernel)⟩
theorem lw_p40 : lw_okq (⟨"MovedMembersModel", "typeNow", "(II)I"⟩, 45) := ⟨⟨by decide +kernel, by decide +kernel⟩, List.mem_of_getElem? (i := 717) (by decide +kernel), List.mem_of_getElem? (i := 928) (by decide +kernel), List.mem_of_getElem? (i := 929) (by decide +kernel)⟩
theorem lw_p41 : lw_okq (⟨"MovedMembersModel", "hasOf", "(III)I"⟩, 45) := ⟨⟨by decide +kernel, by decide +kernel⟩, List.mem_of_getElem? (i := 717) (by decide +kernel), List.mem_of_getElem? (i := 932) (by decide +kernel), List.mem_of_getElem? (i := 933) (by decide +kernel)⟩
theorem lw_p42 : lw_okq (⟨"MovedMembersModel", "memberOf", "(II)I"⟩, 45) := ⟨⟨by decide +kernel, by decide +kernel⟩, List.mem_of_getElem? (i := 717) (by decide +kernel), List.mem_of_getElem? (i := 936) (by decide +kernel), List.mem_of_getElem? (i := 937) (by decide +kernel)⟩
theorem lw_p43 : lw_okq (⟨"MovedMembersModel", "answered", "(I)I"⟩, 45) := ⟨⟨by decide +kernel, by decide +kernel⟩, List.mem_of_getElem? (i := 717) (by decide +kernel), List.mem_of_getElem? (i := 940) (by decide +kernel), List.mem_of_getElem? (i := 941) (by decide +kernel)⟩
theorem lw_p44 : lw_okq (⟨"MovedMembersModel", "answersIn", "(II)I"⟩, 45) := ⟨⟨by decide +kernel, by decide +kernel⟩, List.mem_of_getElem? (i := 717) (by decide +kernel), List.mem_of_getElem? (i := 944) (by decide +kernel), List.mem_of_getElem? (i := 945) (by decide +kernel)⟩
theorem lw_p45 : lw_okq (⟨"MovedMembersModel", "isHidden", "(II)Z"⟩, 45) := ⟨⟨by decide +kernel, by decide +kernel⟩, List.mem_of_getElem? (i := 717) (by decide +kernel), List.mem_of_getElem? (i := 948) (by decide +kernel), List.mem_of_getElem? (i := 949) (by decide +kernel)⟩
theorem lw_p46 : lw_okq (⟨"MovedMembersModel", "below", "(I)I"⟩, 45) := ⟨⟨by decide +kernel, by decide +kernel⟩, List.mem_of_getElem? (i := 717) (by decide +kernel), List.mem_of_getElem? (i := 952) (by decide +kernel), List.mem_of_getElem? (i := 953) (by decide +kernel)⟩
theorem lw_p47 : lw_okq (⟨"MovedMembersModel", "isMember", "(II)Z"⟩, 45) := ⟨⟨by decide +kernel, by decide +kernel⟩, List.mem_of_getElem? (i := 717) (by decide +kernel), List.mem_of_getElem? (i := 960) (by decide +kernel), List.mem_of_getElem? (i := 961) (by decide +kernel)⟩
def lw_privs_3 : List (MethodName × Nat) := [(⟨"MovedMembersModel", "read", "()I"⟩, 45), (⟨"MovedMembersModel", "takes", "(I)Z"⟩, 45), (⟨"MovedMembersModel", "takesHead", "(I)Z"⟩, 45), (⟨"MovedMembersModel", "takesMember", "(I)Z"⟩, 45), (⟨"MovedMembersModel", "takesBehindMethod", "(I)Z"⟩, 45), (⟨"MovedMembersModel", "takesItem", "(I)Z"⟩, 45), (⟨"MovedMembersModel", "isElsewhere", "()Z"⟩, 45), (⟨"MovedMembersModel", "isType", "(I)Z"⟩, 45), (⟨"MovedMembersModel", "typeNow", "(II)I"⟩, 45), (⟨"MovedMembersModel", "hasOf", "(III)I"⟩, 45), (⟨"MovedMembersModel", "memberOf", "(II)I"⟩, 45), (⟨"MovedMembersModel", "answered", "(I)I"⟩, 45), (⟨"MovedMembersModel", "answersIn", "(II)I"⟩, 45), (⟨"MovedMembersModel", "isHidden", "(II)Z"⟩, 45), (⟨"MovedMembersModel", "below", "(I)I"⟩, 45), (⟨"MovedMembersModel", "isMember", "(II)Z"⟩, 45)]
theorem lw_r3 : ∀ q ∈ lw_privs_3, lw_okq q := List.forall_mem_cons.mpr ⟨lw_p32, List.forall_mem_cons.mpr ⟨lw_p33, List.forall_mem_cons.mpr ⟨lw_p34, List.forall_mem_cons.mpr ⟨lw_p35, List.forall_mem_cons.mpr ⟨lw_p36, List.forall_mem_cons.mpr ⟨lw_p37, List.forall_mem_cons.mpr ⟨lw_p38, List.forall_mem_cons.mpr ⟨lw_p39, List.forall_mem_cons.mpr ⟨lw_p40, List.forall_mem_cons.mpr ⟨lw_p41, List.forall_mem_cons.mpr ⟨lw_p42, List.forall_mem_cons.mpr ⟨lw_p43, List.forall_mem_cons.mpr ⟨lw_p44, List.forall_mem_cons.mpr ⟨lw_p45, List.forall_mem_cons.mpr ⟨lw_p46, List.forall_mem_cons.mpr ⟨lw_p47, fun _ h => absurd h List.not_mem_nil⟩⟩⟩⟩⟩⟩⟩⟩⟩⟩⟩⟩⟩⟩⟩⟩
theorem lw_p48 : lw_okq (⟨"MovedMembersModel", "isMethod", "(II)Z"⟩, 45) := ⟨⟨by decide +kernel, by decide +kernel⟩, List.mem_of_getElem? (i := 717) (by decide +kernel), List.mem_of_getElem? (i := 968) (by decide +kernel), List.mem_of_getElem? (i := 969) (by decide +kernel)⟩
theorem lw_p49 : lw_okq (⟨"MovedMembersModel", "answerNow", "(III)I"⟩, 45) := ⟨⟨by decide +kernel, by decide +kernel⟩, List.mem_of_getElem? (i := 717) (by decide +kernel), List.mem_of_getElem? (i := 972) (by decide +kernel), List.mem_of_getElem? (i := 973) (by decide +kernel)⟩
theorem lw_p50 : lw_okq (⟨"MovedMembersModel", "bodyNow", "(II)I"⟩, 45) := ⟨⟨by decide +kernel, by decide +kernel⟩, List.mem_of_getElem? (i := 717) (by decide +kernel), List.mem_of_getElem? (i := 980) (by decide +kernel), List.mem_of_getElem? (i := 981) (by decide +kernel)⟩
theorem lw_p51 : lw_okq (⟨"MovedMembersModel", "traceNow", "(III)I"⟩, 45) := ⟨⟨by decide +kernel, by decide +kernel⟩, List.mem_of_getElem? (i := 717) (by decide +kernel), List.mem_of_getElem? (i := 988) (by decide +kernel), List.mem_of_getElem? (i := 989) (by decide +kernel)⟩
theorem lw_p52 : lw_okq (⟨"MovedMembersModel", "layTrace", "(II)Z"⟩, 45) := ⟨⟨by decide +kernel, by decide +kernel⟩, List.mem_of_getElem? (i := 717) (by decide +kernel), List.mem_of_getElem? (i := 992) (by decide +kernel), List.mem_of_getElem? (i := 993) (by decide +kernel)⟩
theorem lw_p53 : lw_okq (⟨"MovedMembersModel", "run", "(II)V"⟩, 45) := ⟨⟨by decide +kernel, by decide +kernel⟩, List.mem_of_getElem? (i := 717) (by decide +kernel), List.mem_of_getElem? (i := 996) (by decide +kernel), List.mem_of_getElem? (i := 997) (by decide +kernel)⟩
theorem lw_p54 : lw_okq (⟨"MovedMembersModel", "isRunning", "(I)Z"⟩, 45) := ⟨⟨by decide +kernel, by decide +kernel⟩, List.mem_of_getElem? (i := 717) (by decide +kernel), List.mem_of_getElem? (i := 1000) (by decide +kernel), List.mem_of_getElem? (i := 1001) (by decide +kernel)⟩
theorem lw_p55 : lw_okq (⟨"MovedMembersModel", "put", "(II)V"⟩, 45) := ⟨⟨by decide +kernel, by decide +kernel⟩, List.mem_of_getElem? (i := 717) (by decide +kernel), List.mem_of_getElem? (i := 1004) (by decide +kernel), List.mem_of_getElem? (i := 1005) (by decide +kernel)⟩
theorem lw_p56 : lw_okq (⟨"MovedMembersModel", "comesTo", "(III)V"⟩, 45) := ⟨⟨by decide +kernel, by decide +kernel⟩, List.mem_of_getElem? (i := 717) (by decide +kernel), List.mem_of_getElem? (i := 1008) (by decide +kernel), List.mem_of_getElem? (i := 1009) (by decide +kernel)⟩
theorem lw_p57 : lw_okq (⟨"MovedMembersModel", "slotFrom", "(II)I"⟩, 45) := ⟨⟨by decide +kernel, by decide +kernel⟩, List.mem_of_getElem? (i := 717) (by decide +kernel), List.mem_of_getElem? (i := 1012) (by decide +kernel), List.mem_of_getElem? (i := 1013) (by decide +kernel)⟩
theorem lw_p58 : lw_okq (⟨"MovedMembersModel", "whyNow", "(IIZ)I"⟩, 45) := ⟨⟨by decide +kernel, by decide +kernel⟩, List.mem_of_getElem? (i := 717) (by decide +kernel), List.mem_of_getElem? (i := 1024) (by decide +kernel), List.mem_of_getElem? (i := 1025) (by decide +kernel)⟩
theorem lw_p59 : lw_okq (⟨"MovedMembersModel", "plainWhy", "(IIZ)I"⟩, 45) := ⟨⟨by decide +kernel, by decide +kernel⟩, List.mem_of_getElem? (i := 717) (by decide +kernel), List.mem_of_getElem? (i := 1028) (by decide +kernel), List.mem_of_getElem? (i := 1029) (by decide +kernel)⟩
theorem lw_p60 : lw_okq (⟨"MovedMembersModel", "missesBelow", "(II)I"⟩, 45) := ⟨⟨by decide +kernel, by decide +kernel⟩, List.mem_of_getElem? (i := 717) (by decide +kernel), List.mem_of_getElem? (i := 1032) (by decide +kernel), List.mem_of_getElem? (i := 1033) (by decide +kernel)⟩
theorem lw_p61 : lw_okq (⟨"MovedMembersModel", "whereNow", "(IIZ)I"⟩, 45) := ⟨⟨by decide +kernel, by decide +kernel⟩, List.mem_of_getElem? (i := 717) (by decide +kernel), List.mem_of_getElem? (i := 1036) (by decide +kernel), List.mem_of_getElem? (i := 1037) (by decide +kernel)⟩
theorem lw_p62 : lw_okq (⟨"MovedMembersModel", "tryMove", "(IIZ)V"⟩, 45) := ⟨⟨by decide +kernel, by decide +kernel⟩, List.mem_of_getElem? (i := 717) (by decide +kernel), List.mem_of_getElem? (i := 1040) (by decide +kernel), List.mem_of_getElem? (i := 1041) (by decide +kernel)⟩
theorem lw_p63 : lw_okq (⟨"MovedMembersModel", "layTried", "()V"⟩, 45) := ⟨⟨by decide +kernel, by decide +kernel⟩, List.mem_of_getElem? (i := 717) (by decide +kernel), List.mem_of_getElem? (i := 1044) (by decide +kernel), List.mem_of_getElem? (i := 1045) (by decide +kernel)⟩
def lw_privs_4 : List (MethodName × Nat) := [(⟨"MovedMembersModel", "isMethod", "(II)Z"⟩, 45), (⟨"MovedMembersModel", "answerNow", "(III)I"⟩, 45), (⟨"MovedMembersModel", "bodyNow", "(II)I"⟩, 45), (⟨"MovedMembersModel", "traceNow", "(III)I"⟩, 45), (⟨"MovedMembersModel", "layTrace", "(II)Z"⟩, 45), (⟨"MovedMembersModel", "run", "(II)V"⟩, 45), (⟨"MovedMembersModel", "isRunning", "(I)Z"⟩, 45), (⟨"MovedMembersModel", "put", "(II)V"⟩, 45), (⟨"MovedMembersModel", "comesTo", "(III)V"⟩, 45), (⟨"MovedMembersModel", "slotFrom", "(II)I"⟩, 45), (⟨"MovedMembersModel", "whyNow", "(IIZ)I"⟩, 45), (⟨"MovedMembersModel", "plainWhy", "(IIZ)I"⟩, 45), (⟨"MovedMembersModel", "missesBelow", "(II)I"⟩, 45), (⟨"MovedMembersModel", "whereNow", "(IIZ)I"⟩, 45), (⟨"MovedMembersModel", "tryMove", "(IIZ)V"⟩, 45), (⟨"MovedMembersModel", "layTried", "()V"⟩, 45)]
theorem lw_r4 : ∀ q ∈ lw_privs_4, lw_okq q := List.forall_mem_cons.mpr ⟨lw_p48, List.forall_mem_cons.mpr ⟨lw_p49, List.forall_mem_cons.mpr ⟨lw_p50, List.forall_mem_cons.mpr ⟨lw_p51, List.forall_mem_cons.mpr ⟨lw_p52, List.forall_mem_cons.mpr ⟨lw_p53, List.forall_mem_cons.mpr ⟨lw_p54, List.forall_mem_cons.mpr ⟨lw_p55, List.forall_mem_cons.mpr ⟨lw_p56, List.forall_mem_cons.mpr ⟨lw_p57, List.forall_mem_cons.mpr ⟨lw_p58, List.forall_mem_cons.mpr ⟨lw_p59, List.forall_mem_cons.mpr ⟨lw_p60, List.forall_mem_cons.mpr ⟨lw_p61, List.forall_mem_cons.mpr ⟨lw_p62, List.forall_mem_cons.mpr ⟨lw_p63, fun _ h => absurd h List.not_mem_nil⟩⟩⟩⟩⟩⟩⟩⟩⟩⟩⟩⟩⟩⟩⟩⟩
theorem lw_p64 : lw_okq (⟨"MovedMembersModel", "lay", "(IIIIZ)V"⟩, 45) := ⟨⟨by decide +kernel, by decide +kernel⟩, List.mem_of_getElem? (i := 717) (by decide +kernel), List.mem_of_getElem? (i := 1048) (by decide +kernel), List.mem_of_getElem? (i := 1049) (by decide +kernel)⟩
theorem lw_p65 : lw_okq (⟨"MovedMembersModel", "whereTried", "()I"⟩, 45) := ⟨⟨by decide +kernel, by decide +kernel⟩, List.mem_of_getElem? (i := 717) (by decide +kernel), List.mem_of_getElem? (i := 1052) (by decide +kernel), List.mem_of_getElem? (i := 1053) (by decide +kernel)⟩
theorem lw_p66 : lw_okq (⟨"MovedMembersModel", "isOther", "(II)Z"⟩, 45) := ⟨⟨by decide +kernel, by decide +kernel⟩, List.mem_of_getElem? (i := 717) (by decide +kernel), List.mem_of_getElem? (i := 1056) (by decide +kernel), List.mem_of_getElem? (i := 1057) (by decide +kernel)⟩
theorem lw_p67 : lw_okq (⟨"MovedMembersModel", "layMoves", "()V"⟩, 45) := ⟨⟨by decide +kernel, by decide +kernel⟩, List.mem_of_getElem? (i := 717) (by decide +kernel), List.mem_of_getElem? (i := 1076) (by decide +kernel), List.mem_of_getElem? (i := 1077) (by decide +kernel)⟩
theorem lw_p68 : lw_okq (⟨"MovedMembersModel", "fitNow", "(II)I"⟩, 45) := ⟨⟨by decide +kernel, by decide +kernel⟩, List.mem_of_getElem? (i := 717) (by decide +kernel), List.mem_of_getElem? (i := 1088) (by decide +kernel), List.mem_of_getElem? (i := 1089) (by decide +kernel)⟩
theorem lw_p69 : lw_okq (⟨"MovedMembersModel", "layMet", "()V"⟩, 45) := ⟨⟨by decide +kernel, by decide +kernel⟩, List.mem_of_getElem? (i := 717) (by decide +kernel), List.mem_of_getElem? (i := 1103) (by decide +kernel), List.mem_of_getElem? (i := 1104) (by decide +kernel)⟩
theorem lw_p70 : lw_okq (⟨"MovedMembersModel", "deadNow", "(I)I"⟩, 45) := ⟨⟨by decide +kernel, by decide +kernel⟩, List.mem_of_getElem? (i := 717) (by decide +kernel), List.mem_of_getElem? (i := 1107) (by decide +kernel), List.mem_of_getElem? (i := 1108) (by decide +kernel)⟩
theorem lw_p71 : lw_okq (⟨"MovedMembersModel", "howMany", "(I)I"⟩, 45) := ⟨⟨by decide +kernel, by decide +kernel⟩, List.mem_of_getElem? (i := 717) (by decide +kernel), List.mem_of_getElem? (i := 1115) (by decide +kernel), List.mem_of_getElem? (i := 1116) (by decide +kernel)⟩
theorem lw_p72 : lw_okq (⟨"MovedMembersModel", "deadMany", "()I"⟩, 45) := ⟨⟨by decide +kernel, by decide +kernel⟩, List.mem_of_getElem? (i := 717) (by decide +kernel), List.mem_of_getElem? (i := 1119) (by decide +kernel), List.mem_of_getElem? (i := 1120) (by decide +kernel)⟩
theorem lw_p73 : lw_okq (⟨"MovedMembersModel", "missingMany", "()I"⟩, 45) := ⟨⟨by decide +kernel, by decide +kernel⟩, List.mem_of_getElem? (i := 717) (by decide +kernel), List.mem_of_getElem? (i := 1123) (by decide +kernel), List.mem_of_getElem? (i := 1124) (by decide +kernel)⟩
theorem lw_p74 : lw_okq (⟨"MovedMembersModel", "mixTypes", "()V"⟩, 45) := ⟨⟨by decide +kernel, by decide +kernel⟩, List.mem_of_getElem? (i := 717) (by decide +kernel), List.mem_of_getElem? (i := 1132) (by decide +kernel), List.mem_of_getElem? (i := 1133) (by decide +kernel)⟩
theorem lw_p75 : lw_okq (⟨"MovedMembersModel", "mix", "(J)V"⟩, 45) := ⟨⟨by decide +kernel, by decide +kernel⟩, List.mem_of_getElem? (i := 717) (by decide +kernel), List.mem_of_getElem? (i := 1136) (by decide +kernel), List.mem_of_getElem? (i := 1137) (by decide +kernel)⟩
theorem lw_p76 : lw_okq (⟨"MovedMembersModel", "mixMethod", "(II)V"⟩, 45) := ⟨⟨by decide +kernel, by decide +kernel⟩, List.mem_of_getElem? (i := 717) (by decide +kernel), List.mem_of_getElem? (i := 1141) (by decide +kernel), List.mem_of_getElem? (i := 1142) (by decide +kernel)⟩
def lw_privs_5 : List (MethodName × Nat) := [(⟨"MovedMembersModel", "lay", "(IIIIZ)V"⟩, 45), (⟨"MovedMembersModel", "whereTried", "()I"⟩, 45), (⟨"MovedMembersModel", "isOther", "(II)Z"⟩, 45), (⟨"MovedMembersModel", "layMoves", "()V"⟩, 45), (⟨"MovedMembersModel", "fitNow", "(II)I"⟩, 45), (⟨"MovedMembersModel", "layMet", "()V"⟩, 45), (⟨"MovedMembersModel", "deadNow", "(I)I"⟩, 45), (⟨"MovedMembersModel", "howMany", "(I)I"⟩, 45), (⟨"MovedMembersModel", "deadMany", "()I"⟩, 45), (⟨"MovedMembersModel", "missingMany", "()I"⟩, 45), (⟨"MovedMembersModel", "mixTypes", "()V"⟩, 45), (⟨"MovedMembersModel", "mix", "(J)V"⟩, 45), (⟨"MovedMembersModel", "mixMethod", "(II)V"⟩, 45)]
theorem lw_r5 : ∀ q ∈ lw_privs_5, lw_okq q := List.forall_mem_cons.mpr ⟨lw_p64, List.forall_mem_cons.mpr ⟨lw_p65, List.forall_mem_cons.mpr ⟨lw_p66, List.forall_mem_cons.mpr ⟨lw_p67, List.forall_mem_cons.mpr ⟨lw_p68, List.forall_mem_cons.mpr ⟨lw_p69, List.forall_mem_cons.mpr ⟨lw_p70, List.forall_mem_cons.mpr ⟨lw_p71, List.forall_mem_cons.mpr ⟨lw_p72, List.forall_mem_cons.mpr ⟨lw_p73, List.forall_mem_cons.mpr ⟨lw_p74, List.forall_mem_cons.mpr ⟨lw_p75, List.forall_mem_cons.mpr ⟨lw_p76, fun _ h => absurd h List.not_mem_nil⟩⟩⟩⟩⟩⟩⟩⟩⟩⟩⟩⟩⟩
def lw_privs : List (MethodName × Nat) := lw_privs_1 ++ (lw_privs_2 ++ (lw_privs_3 ++ (lw_privs_4 ++ (lw_privs_5))))
def lw_tbl : List Cond := k2_sels lw_privs ++ tables_1
theorem lw_privs_ok : ∀ q ∈ lw_privs, lw_okq q := by
  show ∀ q ∈ lw_privs_1 ++ (lw_privs_2 ++ (lw_privs_3 ++ (lw_privs_4 ++ (lw_privs_5)))), lw_okq q
  exact List.forall_mem_append.mpr ⟨lw_r1, List.forall_mem_append.mpr ⟨lw_r2, List.forall_mem_append.mpr ⟨lw_r3, List.forall_mem_append.mpr ⟨lw_r4, lw_r5⟩⟩⟩⟩
end
section
def RX0 : String := "MovedMembers$Mover"
def TX0 : u_T := fun k => match k with
  | 0 => ("MovedMembers$Mover", "tree", "LMovedMembers$Tree;", true)
  | 1 => ("MovedMembers$Mover", "tracer", "LMovedMembers$Tracer;", true)
  | 2 => ("MovedMembers$Mover", "survey", "LMovedMembers$Survey;", true)
  | 3 => ("MovedMembers$Mover", "savedHeld", "[I", true)
  | 4 => ("MovedMembers$Mover", "savedHidden", "[I", true)
  | 5 => ("MovedMembers$Mover", "savedMembers", "[I", true)
  | 6 => ("MovedMembers$Mover", "kept", "I", false)
  | 7 => ("MovedMembers$Mover", "done", "I", false)
  | 8 => ("MovedMembers$Mover", "undone", "I", false)
  | 9 => ("MovedMembers$Mover", "place", "I", false)
  | 10 => ("MovedMembers$Mover", "ups", "I", false)
  | 11 => ("MovedMembers$Mover", "downs", "I", false)
  | 12 => ("MovedMembers$Mover", "stopped", "I", false)
  | _ => ("MovedMembers$Mover", "version", "I", false)
def tyX0 : Nat → FieldType := fun k => match k with
  | 0 => .object "MovedMembers$Tree"
  | 1 => .object "MovedMembers$Tracer"
  | 2 => .object "MovedMembers$Survey"
  | 3 => .array .int
  | 4 => .array .int
  | 5 => .array .int
  | 6 => .int
  | 7 => .int
  | 8 => .int
  | 9 => .int
  | 10 => .int
  | 11 => .int
  | 12 => .int
  | _ => .int
theorem nmX0 : ∀ a, a < 14 → ∀ b, b < 14 → a ≠ b → (TX0 a).2.1 ≠ (TX0 b).2.1 := by decide +kernel
theorem tyX0_ok : ∀ k, k < 14 → parseFieldDescriptor (TX0 k).2.2.1 = some (tyX0 k) := by decide +kernel
abbrev cX0_init : ByteArray := prog_2_method_1_code
def yX0_init : MethodName := ⟨RX0, "<init>", "(LMovedMembers$Tree;LMovedMembers$Tracer;LMovedMembers$Survey;)V"⟩
abbrev cX0_forgetKept : ByteArray := prog_2_method_2_code
def yX0_forgetKept : MethodName := ⟨RX0, "forgetKept", "()V"⟩
abbrev cX0_reason : ByteArray := prog_2_method_3_code
def yX0_reason : MethodName := ⟨RX0, "reason", "(IIZ)I"⟩
abbrev cX0_keep : ByteArray := prog_2_method_4_code
def yX0_keep : MethodName := ⟨RX0, "keep", "(IIZ)Z"⟩
abbrev cX0_takeBack : ByteArray := prog_2_method_5_code
def yX0_takeBack : MethodName := ⟨RX0, "takeBack", "()Z"⟩
abbrev cX0_refresh : ByteArray := prog_2_method_6_code
def yX0_refresh : MethodName := ⟨RX0, "refresh", "()V"⟩
abbrev cX0_someLack : ByteArray := prog_2_method_7_code
def yX0_someLack : MethodName := ⟨RX0, "someLack", "(II)Z"⟩
abbrev cX0_shift : ByteArray := prog_2_method_8_code
def yX0_shift : MethodName := ⟨RX0, "shift", "(IIZ)V"⟩
abbrev cX0_shiftUp : ByteArray := prog_2_method_9_code
def yX0_shiftUp : MethodName := ⟨RX0, "shiftUp", "(IIIZ)V"⟩
abbrev cX0_shiftDown : ByteArray := prog_2_method_10_code
def yX0_shiftDown : MethodName := ⟨RX0, "shiftDown", "(IIIZ)V"⟩
abbrev cX0_firstChange : ByteArray := prog_2_method_11_code
def yX0_firstChange : MethodName := ⟨RX0, "firstChange", "()I"⟩
abbrev cX0_save : ByteArray := prog_2_method_12_code
def yX0_save : MethodName := ⟨RX0, "save", "(II)V"⟩
abbrev cX0_restore : ByteArray := prog_2_method_13_code
def yX0_restore : MethodName := ⟨RX0, "restore", "(I)V"⟩
def RX1 : String := "MovedMembers$Page"
def TX1 : u_T := fun k => match k with
  | 0 => ("MovedMembers$Page", "codes", "[I", true)
  | _ => ("MovedMembers$Page", "size", "I", false)
def tyX1 : Nat → FieldType := fun k => match k with
  | 0 => .array .int
  | _ => .int
theorem nmX1 : ∀ a, a < 2 → ∀ b, b < 2 → a ≠ b → (TX1 a).2.1 ≠ (TX1 b).2.1 := by decide +kernel
theorem tyX1_ok : ∀ k, k < 2 → parseFieldDescriptor (TX1 k).2.2.1 = some (tyX1 k) := by decide +kernel
abbrev cX1_init : ByteArray := prog_3_method_1_code
def yX1_init : MethodName := ⟨RX1, "<init>", "()V"⟩
abbrev cX1_append : ByteArray := prog_3_method_2_code
def yX1_append : MethodName := ⟨RX1, "append", "(I)Z"⟩
abbrev cX1_wipe : ByteArray := prog_3_method_3_code
def yX1_wipe : MethodName := ⟨RX1, "wipe", "()V"⟩
abbrev cX1_codeAt : ByteArray := prog_3_method_4_code
def yX1_codeAt : MethodName := ⟨RX1, "codeAt", "(I)I"⟩
def RX2 : String := "MovedMembers$Reader"
def TX2 : u_T := fun k => match k with
  | 0 => ("MovedMembers$Reader", "told", "[I", true)
  | 1 => ("MovedMembers$Reader", "itemCounts", "[I", true)
  | 2 => ("MovedMembers$Reader", "items", "[I", true)
  | 3 => ("MovedMembers$Reader", "state", "I", false)
  | 4 => ("MovedMembers$Reader", "typesAhead", "I", false)
  | 5 => ("MovedMembers$Reader", "parent", "I", false)
  | 6 => ("MovedMembers$Reader", "toldCount", "I", false)
  | 7 => ("MovedMembers$Reader", "seenBits", "I", false)
  | _ => ("MovedMembers$Reader", "hiddenBits", "I", false)
def tyX2 : Nat → FieldType := fun k => match k with
  | 0 => .array .int
  | 1 => .array .int
  | 2 => .array .int
  | 3 => .int
  | 4 => .int
  | 5 => .int
  | 6 => .int
  | 7 => .int
  | _ => .int
theorem nmX2 : ∀ a, a < 9 → ∀ b, b < 9 → a ≠ b → (TX2 a).2.1 ≠ (TX2 b).2.1 := by decide +kernel
theorem tyX2_ok : ∀ k, k < 9 → parseFieldDescriptor (TX2 k).2.2.1 = some (tyX2 k) := by decide +kernel
abbrev cX2_init : ByteArray := prog_4_method_1_code
def yX2_init : MethodName := ⟨RX2, "<init>", "()V"⟩
abbrev cX2_read : ByteArray := prog_4_method_2_code
def yX2_read : MethodName := ⟨RX2, "read", "(LMovedMembers$Page;I)I"⟩
abbrev cX2_isWhole : ByteArray := prog_4_method_3_code
def yX2_isWhole : MethodName := ⟨RX2, "isWhole", "()Z"⟩
abbrev cX2_methodCount : ByteArray := prog_4_method_4_code
def yX2_methodCount : MethodName := ⟨RX2, "methodCount", "()I"⟩
abbrev cX2_memberAt : ByteArray := prog_4_method_5_code
def yX2_memberAt : MethodName := ⟨RX2, "memberAt", "(I)I"⟩
abbrev cX2_itemCountOf : ByteArray := prog_4_method_6_code
def yX2_itemCountOf : MethodName := ⟨RX2, "itemCountOf", "(I)I"⟩
abbrev cX2_itemAt : ByteArray := prog_4_method_7_code
def yX2_itemAt : MethodName := ⟨RX2, "itemAt", "(II)I"⟩
abbrev cX2_start : ByteArray := prog_4_method_8_code
def yX2_start : MethodName := ⟨RX2, "start", "(I)V"⟩
abbrev cX2_take : ByteArray := prog_4_method_9_code
def yX2_take : MethodName := ⟨RX2, "take", "(I)Z"⟩
abbrev cX2_goOn : ByteArray := prog_4_method_10_code
def yX2_goOn : MethodName := ⟨RX2, "goOn", "(ZI)Z"⟩
abbrev cX2_takeMember : ByteArray := prog_4_method_11_code
def yX2_takeMember : MethodName := ⟨RX2, "takeMember", "(I)Z"⟩
abbrev cX2_takeDash : ByteArray := prog_4_method_12_code
def yX2_takeDash : MethodName := ⟨RX2, "takeDash", "()Z"⟩
abbrev cX2_takeBehindDash : ByteArray := prog_4_method_13_code
def yX2_takeBehindDash : MethodName := ⟨RX2, "takeBehindDash", "(I)Z"⟩
abbrev cX2_takeItem : ByteArray := prog_4_method_14_code
def yX2_takeItem : MethodName := ⟨RX2, "takeItem", "(I)Z"⟩
abbrev cX2_takeAsked : ByteArray := prog_4_method_15_code
def yX2_takeAsked : MethodName := ⟨RX2, "takeAsked", "(I)Z"⟩
abbrev cX2_addItem : ByteArray := prog_4_method_16_code
def yX2_addItem : MethodName := ⟨RX2, "addItem", "(I)Z"⟩
abbrev cX2_memberOf : ByteArray := prog_4_method_17_code
def yX2_memberOf : MethodName := ⟨RX2, "memberOf", "(I)I"⟩
def RX3 : String := "MovedMembers$Survey"
def TX3 : u_T := fun k => match k with
  | 0 => ("MovedMembers$Survey", "tree", "LMovedMembers$Tree;", true)
  | 1 => ("MovedMembers$Survey", "tracer", "LMovedMembers$Tracer;", true)
  | 2 => ("MovedMembers$Survey", "events", "[I", true)
  | 3 => ("MovedMembers$Survey", "sizes", "[I", true)
  | 4 => ("MovedMembers$Survey", "depths", "[I", true)
  | 5 => ("MovedMembers$Survey", "reachedBits", "J", false)
  | 6 => ("MovedMembers$Survey", "missing", "I", false)
  | _ => ("MovedMembers$Survey", "version", "I", false)
def tyX3 : Nat → FieldType := fun k => match k with
  | 0 => .object "MovedMembers$Tree"
  | 1 => .object "MovedMembers$Tracer"
  | 2 => .array .int
  | 3 => .array .int
  | 4 => .array .int
  | 5 => .long
  | 6 => .int
  | _ => .int
theorem nmX3 : ∀ a, a < 8 → ∀ b, b < 8 → a ≠ b → (TX3 a).2.1 ≠ (TX3 b).2.1 := by decide +kernel
theorem tyX3_ok : ∀ k, k < 8 → parseFieldDescriptor (TX3 k).2.2.1 = some (tyX3 k) := by decide +kernel
abbrev cX3_init : ByteArray := prog_5_method_1_code
def yX3_init : MethodName := ⟨RX3, "<init>", "(LMovedMembers$Tree;LMovedMembers$Tracer;)V"⟩
abbrev cX3_refresh : ByteArray := prog_5_method_2_code
def yX3_refresh : MethodName := ⟨RX3, "refresh", "()V"⟩
abbrev cX3_store : ByteArray := prog_5_method_3_code
def yX3_store : MethodName := ⟨RX3, "store", "(II)V"⟩
abbrev cX3_addUp : ByteArray := prog_5_method_4_code
def yX3_addUp : MethodName := ⟨RX3, "addUp", "()V"⟩
abbrev cX3_rowOf : ByteArray := prog_5_method_5_code
def yX3_rowOf : MethodName := ⟨RX3, "rowOf", "(II)I"⟩
abbrev cX3_sizeOf : ByteArray := prog_5_method_6_code
def yX3_sizeOf : MethodName := ⟨RX3, "sizeOf", "(II)I"⟩
abbrev cX3_depthOf : ByteArray := prog_5_method_7_code
def yX3_depthOf : MethodName := ⟨RX3, "depthOf", "(II)I"⟩
abbrev cX3_eventAt : ByteArray := prog_5_method_8_code
def yX3_eventAt : MethodName := ⟨RX3, "eventAt", "(III)I"⟩
abbrev cX3_isReached : ByteArray := prog_5_method_9_code
def yX3_isReached : MethodName := ⟨RX3, "isReached", "(I)Z"⟩
abbrev cX3_reachedCount : ByteArray := prog_5_method_10_code
def yX3_reachedCount : MethodName := ⟨RX3, "reachedCount", "()I"⟩
abbrev cX3_isAsTraced : ByteArray := prog_5_method_11_code
def yX3_isAsTraced : MethodName := ⟨RX3, "isAsTraced", "(II)Z"⟩
def RX4 : String := "MovedMembers$Tracer"
def TX4 : u_T := fun k => match k with
  | 0 => ("MovedMembers$Tracer", "tree", "LMovedMembers$Tree;", true)
  | 1 => ("MovedMembers$Tracer", "events", "[I", true)
  | 2 => ("MovedMembers$Tracer", "openBodies", "[I", true)
  | 3 => ("MovedMembers$Tracer", "openHomes", "[I", true)
  | 4 => ("MovedMembers$Tracer", "openPlaces", "[I", true)
  | 5 => ("MovedMembers$Tracer", "openBits", "J", false)
  | 6 => ("MovedMembers$Tracer", "open", "I", false)
  | 7 => ("MovedMembers$Tracer", "size", "I", false)
  | _ => ("MovedMembers$Tracer", "deepest", "I", false)
def tyX4 : Nat → FieldType := fun k => match k with
  | 0 => .object "MovedMembers$Tree"
  | 1 => .array .int
  | 2 => .array .int
  | 3 => .array .int
  | 4 => .array .int
  | 5 => .long
  | 6 => .int
  | 7 => .int
  | _ => .int
theorem nmX4 : ∀ a, a < 9 → ∀ b, b < 9 → a ≠ b → (TX4 a).2.1 ≠ (TX4 b).2.1 := by decide +kernel
theorem tyX4_ok : ∀ k, k < 9 → parseFieldDescriptor (TX4 k).2.2.1 = some (tyX4 k) := by decide +kernel
abbrev cX4_init : ByteArray := prog_6_method_1_code
def yX4_init : MethodName := ⟨RX4, "<init>", "(LMovedMembers$Tree;)V"⟩
abbrev cX4_run : ByteArray := prog_6_method_2_code
def yX4_run : MethodName := ⟨RX4, "run", "(II)V"⟩
abbrev cX4_nextItem : ByteArray := prog_6_method_3_code
def yX4_nextItem : MethodName := ⟨RX4, "nextItem", "()I"⟩
abbrev cX4_openHome : ByteArray := prog_6_method_4_code
def yX4_openHome : MethodName := ⟨RX4, "openHome", "()I"⟩
abbrev cX4_homeFor : ByteArray := prog_6_method_5_code
def yX4_homeFor : MethodName := ⟨RX4, "homeFor", "(II)I"⟩
abbrev cX4_use : ByteArray := prog_6_method_6_code
def yX4_use : MethodName := ⟨RX4, "use", "(I)V"⟩
abbrev cX4_meet : ByteArray := prog_6_method_7_code
def yX4_meet : MethodName := ⟨RX4, "meet", "(II)V"⟩
abbrev cX4_enter : ByteArray := prog_6_method_8_code
def yX4_enter : MethodName := ⟨RX4, "enter", "(II)V"⟩
abbrev cX4_leave : ByteArray := prog_6_method_9_code
def yX4_leave : MethodName := ⟨RX4, "leave", "()V"⟩
abbrev cX4_note : ByteArray := prog_6_method_10_code
def yX4_note : MethodName := ⟨RX4, "note", "(II)V"⟩
abbrev cX4_eventAt : ByteArray := prog_6_method_11_code
def yX4_eventAt : MethodName := ⟨RX4, "eventAt", "(I)I"⟩
def RX5 : String := "MovedMembers$Tree"
def TX5 : u_T := fun k => match k with
  | 0 => ("MovedMembers$Tree", "parents", "[I", true)
  | 1 => ("MovedMembers$Tree", "hollows", "[Z", true)
  | 2 => ("MovedMembers$Tree", "held", "[I", true)
  | 3 => ("MovedMembers$Tree", "hiddenBits", "[I", true)
  | 4 => ("MovedMembers$Tree", "firstBodies", "[I", true)
  | 5 => ("MovedMembers$Tree", "itemCounts", "[I", true)
  | 6 => ("MovedMembers$Tree", "items", "[I", true)
  | 7 => ("MovedMembers$Tree", "types", "I", false)
  | 8 => ("MovedMembers$Tree", "bodies", "I", false)
  | _ => ("MovedMembers$Tree", "version", "I", false)
def tyX5 : Nat → FieldType := fun k => match k with
  | 0 => .array .int
  | 1 => .array .boolean
  | 2 => .array .int
  | 3 => .array .int
  | 4 => .array .int
  | 5 => .array .int
  | 6 => .array .int
  | 7 => .int
  | 8 => .int
  | _ => .int
theorem nmX5 : ∀ a, a < 10 → ∀ b, b < 10 → a ≠ b → (TX5 a).2.1 ≠ (TX5 b).2.1 := by decide +kernel
theorem tyX5_ok : ∀ k, k < 10 → parseFieldDescriptor (TX5 k).2.2.1 = some (tyX5 k) := by decide +kernel
abbrev cX5_init : ByteArray := prog_7_method_1_code
def yX5_init : MethodName := ⟨RX5, "<init>", "()V"⟩
abbrev cX5_hasType : ByteArray := prog_7_method_2_code
def yX5_hasType : MethodName := ⟨RX5, "hasType", "(I)Z"⟩
abbrev cX5_hasBody : ByteArray := prog_7_method_3_code
def yX5_hasBody : MethodName := ⟨RX5, "hasBody", "(I)Z"⟩
abbrev cX5_parentOf : ByteArray := prog_7_method_4_code
def yX5_parentOf : MethodName := ⟨RX5, "parentOf", "(I)I"⟩
abbrev cX5_hides : ByteArray := prog_7_method_5_code
def yX5_hides : MethodName := ⟨RX5, "hides", "(II)Z"⟩
abbrev cX5_heldBy : ByteArray := prog_7_method_6_code
def yX5_heldBy : MethodName := ⟨RX5, "heldBy", "(II)I"⟩
abbrev cX5_itemAt : ByteArray := prog_7_method_7_code
def yX5_itemAt : MethodName := ⟨RX5, "itemAt", "(II)I"⟩
abbrev cX5_isHollow : ByteArray := prog_7_method_8_code
def yX5_isHollow : MethodName := ⟨RX5, "isHollow", "(I)Z"⟩
abbrev cX5_makeHollow : ByteArray := prog_7_method_9_code
def yX5_makeHollow : MethodName := ⟨RX5, "makeHollow", "(IZ)V"⟩
abbrev cX5_hiddenOf : ByteArray := prog_7_method_10_code
def yX5_hiddenOf : MethodName := ⟨RX5, "hiddenOf", "(I)I"⟩
abbrev cX5_put : ByteArray := prog_7_method_11_code
def yX5_put : MethodName := ⟨RX5, "put", "(IIIZ)V"⟩
abbrev cX5_heldBits : ByteArray := prog_7_method_12_code
def yX5_heldBits : MethodName := ⟨RX5, "heldBits", "(III)I"⟩
abbrev cX5_childBits : ByteArray := prog_7_method_13_code
def yX5_childBits : MethodName := ⟨RX5, "childBits", "(I)I"⟩
abbrev cX5_nearest : ByteArray := prog_7_method_14_code
def yX5_nearest : MethodName := ⟨RX5, "nearest", "(II)I"⟩
abbrev cX5_answerBits : ByteArray := prog_7_method_15_code
def yX5_answerBits : MethodName := ⟨RX5, "answerBits", "(I)I"⟩
abbrev cX5_itemCountOf : ByteArray := prog_7_method_16_code
def yX5_itemCountOf : MethodName := ⟨RX5, "itemCountOf", "(I)I"⟩
abbrev cX5_hasRoomFor : ByteArray := prog_7_method_17_code
def yX5_hasRoomFor : MethodName := ⟨RX5, "hasRoomFor", "(LMovedMembers$Reader;)Z"⟩
abbrev cX5_accept : ByteArray := prog_7_method_18_code
def yX5_accept : MethodName := ⟨RX5, "accept", "(LMovedMembers$Reader;)I"⟩
abbrev cX5_newBody : ByteArray := prog_7_method_19_code
def yX5_newBody : MethodName := ⟨RX5, "newBody", "(LMovedMembers$Reader;I)I"⟩
abbrev cX5_lastLiesElsewhere : ByteArray := prog_7_method_20_code
def yX5_lastLiesElsewhere : MethodName := ⟨RX5, "lastLiesElsewhere", "()Z"⟩
abbrev cX5_removeLast : ByteArray := prog_7_method_21_code
def yX5_removeLast : MethodName := ⟨RX5, "removeLast", "()V"⟩
def RX6 : String := "MovedMembers"
def TX6 : u_T := fun k => match k with
  | 0 => ("MovedMembers", "page", "LMovedMembers$Page;", true)
  | 1 => ("MovedMembers", "reader", "LMovedMembers$Reader;", true)
  | 2 => ("MovedMembers", "tree", "LMovedMembers$Tree;", true)
  | 3 => ("MovedMembers", "survey", "LMovedMembers$Survey;", true)
  | 4 => ("MovedMembers", "mover", "LMovedMembers$Mover;", true)
  | 5 => ("MovedMembers", "contracts", "[I", true)
  | _ => ("MovedMembers", "contractCount", "I", false)
def tyX6 : Nat → FieldType := fun k => match k with
  | 0 => .object "MovedMembers$Page"
  | 1 => .object "MovedMembers$Reader"
  | 2 => .object "MovedMembers$Tree"
  | 3 => .object "MovedMembers$Survey"
  | 4 => .object "MovedMembers$Mover"
  | 5 => .array .int
  | _ => .int
theorem nmX6 : ∀ a, a < 7 → ∀ b, b < 7 → a ≠ b → (TX6 a).2.1 ≠ (TX6 b).2.1 := by decide +kernel
theorem tyX6_ok : ∀ k, k < 7 → parseFieldDescriptor (TX6 k).2.2.1 = some (tyX6 k) := by decide +kernel
abbrev cX6_init : ByteArray := prog_1_method_1_code
def yX6_init : MethodName := ⟨RX6, "<init>", "()V"⟩
abbrev cX6_letter : ByteArray := prog_1_method_2_code
def yX6_letter : MethodName := ⟨RX6, "letter", "(I)I"⟩
abbrev cX6_blank : ByteArray := prog_1_method_3_code
def yX6_blank : MethodName := ⟨RX6, "blank", "()I"⟩
abbrev cX6_fault : ByteArray := prog_1_method_4_code
def yX6_fault : MethodName := ⟨RX6, "fault", "()I"⟩
abbrev cX6_type : ByteArray := prog_1_method_5_code
def yX6_type : MethodName := ⟨RX6, "type", "()I"⟩
abbrev cX6_drop : ByteArray := prog_1_method_6_code
def yX6_drop : MethodName := ⟨RX6, "drop", "()I"⟩
abbrev cX6_hollow : ByteArray := prog_1_method_7_code
def yX6_hollow : MethodName := ⟨RX6, "hollow", "(IZ)I"⟩
abbrev cX6_of : ByteArray := prog_1_method_8_code
def yX6_of : MethodName := ⟨RX6, "of", "(II)I"⟩
abbrev cX6_has : ByteArray := prog_1_method_9_code
def yX6_has : MethodName := ⟨RX6, "has", "(II)I"⟩
abbrev cX6_answer : ByteArray := prog_1_method_10_code
def yX6_answer : MethodName := ⟨RX6, "answer", "(III)I"⟩
abbrev cX6_body : ByteArray := prog_1_method_11_code
def yX6_body : MethodName := ⟨RX6, "body", "(II)I"⟩
abbrev cX6_trace : ByteArray := prog_1_method_12_code
def yX6_trace : MethodName := ⟨RX6, "trace", "(III)I"⟩
abbrev cX6_event : ByteArray := prog_1_method_13_code
def yX6_event : MethodName := ⟨RX6, "event", "(IIII)I"⟩
abbrev cX6_why : ByteArray := prog_1_method_14_code
def yX6_why : MethodName := ⟨RX6, "why", "(IIZ)I"⟩
abbrev cX6_where : ByteArray := prog_1_method_15_code
def yX6_where : MethodName := ⟨RX6, "where", "(IIZ)I"⟩
abbrev cX6_move : ByteArray := prog_1_method_16_code
def yX6_move : MethodName := ⟨RX6, "move", "(IIZ)I"⟩
abbrev cX6_undo : ByteArray := prog_1_method_17_code
def yX6_undo : MethodName := ⟨RX6, "undo", "()I"⟩
abbrev cX6_moves : ByteArray := prog_1_method_18_code
def yX6_moves : MethodName := ⟨RX6, "moves", "(I)I"⟩
abbrev cX6_contract : ByteArray := prog_1_method_19_code
def yX6_contract : MethodName := ⟨RX6, "contract", "(I)I"⟩
abbrev cX6_fit : ByteArray := prog_1_method_20_code
def yX6_fit : MethodName := ⟨RX6, "fit", "(II)I"⟩
abbrev cX6_common : ByteArray := prog_1_method_21_code
def yX6_common : MethodName := ⟨RX6, "common", "(I)I"⟩
abbrev cX6_dead : ByteArray := prog_1_method_22_code
def yX6_dead : MethodName := ⟨RX6, "dead", "(I)I"⟩
abbrev cX6_count : ByteArray := prog_1_method_23_code
def yX6_count : MethodName := ⟨RX6, "count", "(I)I"⟩
abbrev cX6_digest : ByteArray := prog_1_method_24_code
def yX6_digest : MethodName := ⟨RX6, "digest", "()J"⟩
abbrev cX6_withType : ByteArray := prog_1_method_25_code
def yX6_withType : MethodName := ⟨RX6, "withType", "(JI)J"⟩
abbrev cX6_withMethod : ByteArray := prog_1_method_26_code
def yX6_withMethod : MethodName := ⟨RX6, "withMethod", "(JII)J"⟩
abbrev cX6_withBody : ByteArray := prog_1_method_27_code
def yX6_withBody : MethodName := ⟨RX6, "withBody", "(JI)J"⟩
abbrev cX6_with : ByteArray := prog_1_method_28_code
def yX6_with : MethodName := ⟨RX6, "with", "(JJ)J"⟩
abbrev cX6_typesThatFit : ByteArray := prog_1_method_29_code
def yX6_typesThatFit : MethodName := ⟨RX6, "typesThatFit", "(I)I"⟩
abbrev cX6_nearestMisfit : ByteArray := prog_1_method_30_code
def yX6_nearestMisfit : MethodName := ⟨RX6, "nearestMisfit", "(I)I"⟩
abbrev cX6_isMember : ByteArray := prog_1_method_31_code
def yX6_isMember : MethodName := ⟨RX6, "isMember", "(I)Z"⟩
abbrev cX6_isMethod : ByteArray := prog_1_method_32_code
def yX6_isMethod : MethodName := ⟨RX6, "isMethod", "(I)Z"⟩
def RX7 : String := "MovedMembersModel"
def TX7 : u_T := fun k => match k with
  | 0 => ("MovedMembersModel", "pageLength", "I", false)
  | 1 => ("MovedMembersModel", "page", "[I", true)
  | 2 => ("MovedMembersModel", "types", "I", false)
  | 3 => ("MovedMembersModel", "parentOf", "[I", true)
  | 4 => ("MovedMembersModel", "isHollow", "[Z", true)
  | 5 => ("MovedMembersModel", "members", "[I", true)
  | 6 => ("MovedMembersModel", "hidden", "[I", true)
  | 7 => ("MovedMembersModel", "side", "I", false)
  | 8 => ("MovedMembersModel", "bodies", "I", false)
  | 9 => ("MovedMembersModel", "cameWith", "[I", true)
  | 10 => ("MovedMembersModel", "itemMany", "[I", true)
  | 11 => ("MovedMembersModel", "items", "[I", true)
  | 12 => ("MovedMembersModel", "kept", "I", false)
  | 13 => ("MovedMembersModel", "keptMembers", "[I", true)
  | 14 => ("MovedMembersModel", "keptHidden", "[I", true)
  | 15 => ("MovedMembersModel", "contracts", "I", false)
  | 16 => ("MovedMembersModel", "contractOf", "[I", true)
  | 17 => ("MovedMembersModel", "done", "I", false)
  | 18 => ("MovedMembersModel", "undone", "I", false)
  | 19 => ("MovedMembersModel", "stage", "I", false)
  | 20 => ("MovedMembersModel", "newParent", "I", false)
  | 21 => ("MovedMembersModel", "met", "I", false)
  | 22 => ("MovedMembersModel", "newHidden", "I", false)
  | 23 => ("MovedMembersModel", "newBodies", "I", false)
  | 24 => ("MovedMembersModel", "newBody", "[I", true)
  | 25 => ("MovedMembersModel", "newMany", "[I", true)
  | 26 => ("MovedMembersModel", "newItems", "[I", true)
  | 27 => ("MovedMembersModel", "lastMethod", "I", false)
  | 28 => ("MovedMembersModel", "events", "I", false)
  | 29 => ("MovedMembersModel", "sorts", "[I", true)
  | 30 => ("MovedMembersModel", "numbers", "[I", true)
  | 31 => ("MovedMembersModel", "deepest", "I", false)
  | 32 => ("MovedMembersModel", "running", "I", false)
  | 33 => ("MovedMembersModel", "runBody", "[I", true)
  | 34 => ("MovedMembersModel", "runType", "[I", true)
  | 35 => ("MovedMembersModel", "runItem", "[I", true)
  | 36 => ("MovedMembersModel", "wereEvents", "I", false)
  | 37 => ("MovedMembersModel", "wereSorts", "[I", true)
  | 38 => ("MovedMembersModel", "wereNumbers", "[I", true)
  | 39 => ("MovedMembersModel", "ups", "I", false)
  | 40 => ("MovedMembersModel", "downs", "I", false)
  | 41 => ("MovedMembersModel", "stopped", "I", false)
  | 42 => ("MovedMembersModel", "isMet", "[Z", true)
  | 43 => ("MovedMembersModel", "missing", "I", false)
  | _ => ("MovedMembersModel", "h", "J", false)
def tyX7 : Nat → FieldType := fun k => match k with
  | 0 => .int
  | 1 => .array .int
  | 2 => .int
  | 3 => .array .int
  | 4 => .array .boolean
  | 5 => .array .int
  | 6 => .array .int
  | 7 => .int
  | 8 => .int
  | 9 => .array .int
  | 10 => .array .int
  | 11 => .array .int
  | 12 => .int
  | 13 => .array .int
  | 14 => .array .int
  | 15 => .int
  | 16 => .array .int
  | 17 => .int
  | 18 => .int
  | 19 => .int
  | 20 => .int
  | 21 => .int
  | 22 => .int
  | 23 => .int
  | 24 => .array .int
  | 25 => .array .int
  | 26 => .array .int
  | 27 => .int
  | 28 => .int
  | 29 => .array .int
  | 30 => .array .int
  | 31 => .int
  | 32 => .int
  | 33 => .array .int
  | 34 => .array .int
  | 35 => .array .int
  | 36 => .int
  | 37 => .array .int
  | 38 => .array .int
  | 39 => .int
  | 40 => .int
  | 41 => .int
  | 42 => .array .boolean
  | 43 => .int
  | _ => .long
theorem nmX7 : ∀ a, a < 45 → ∀ b, b < 45 → a ≠ b → (TX7 a).2.1 ≠ (TX7 b).2.1 := by decide +kernel
theorem tyX7_ok : ∀ k, k < 45 → parseFieldDescriptor (TX7 k).2.2.1 = some (tyX7 k) := by decide +kernel
abbrev cX7_init : ByteArray := prog_9_method_1_code
def yX7_init : MethodName := ⟨RX7, "<init>", "()V"⟩
abbrev cX7_within : ByteArray := prog_9_method_3_code
def yX7_within : MethodName := ⟨RX7, "within", "(III)Z"⟩
abbrev cX7_hasBit : ByteArray := prog_9_method_4_code
def yX7_hasBit : MethodName := ⟨RX7, "hasBit", "(II)Z"⟩
abbrev cX7_ones : ByteArray := prog_9_method_5_code
def yX7_ones : MethodName := ⟨RX7, "ones", "(I)I"⟩
abbrev cX7_letter : ByteArray := prog_9_method_6_code
def yX7_letter : MethodName := ⟨RX7, "letter", "(I)I"⟩
abbrev cX7_blank : ByteArray := prog_9_method_7_code
def yX7_blank : MethodName := ⟨RX7, "blank", "()I"⟩
abbrev cX7_memberAt : ByteArray := prog_9_method_8_code
def yX7_memberAt : MethodName := ⟨RX7, "memberAt", "(I)I"⟩
abbrev cX7_takesMember : ByteArray := prog_9_method_9_code
def yX7_takesMember : MethodName := ⟨RX7, "takesMember", "(I)Z"⟩
abbrev cX7_takesBehindMethod : ByteArray := prog_9_method_10_code
def yX7_takesBehindMethod : MethodName := ⟨RX7, "takesBehindMethod", "(I)Z"⟩
abbrev cX7_takesItem : ByteArray := prog_9_method_11_code
def yX7_takesItem : MethodName := ⟨RX7, "takesItem", "(I)Z"⟩
abbrev cX7_takesHead : ByteArray := prog_9_method_12_code
def yX7_takesHead : MethodName := ⟨RX7, "takesHead", "(I)Z"⟩
abbrev cX7_takes : ByteArray := prog_9_method_13_code
def yX7_takes : MethodName := ⟨RX7, "takes", "(I)Z"⟩
abbrev cX7_read : ByteArray := prog_9_method_14_code
def yX7_read : MethodName := ⟨RX7, "read", "()I"⟩
abbrev cX7_fault : ByteArray := prog_9_method_15_code
def yX7_fault : MethodName := ⟨RX7, "fault", "()I"⟩
abbrev cX7_type : ByteArray := prog_9_method_16_code
def yX7_type : MethodName := ⟨RX7, "type", "()I"⟩
abbrev cX7_memberOf : ByteArray := prog_9_method_17_code
def yX7_memberOf : MethodName := ⟨RX7, "memberOf", "(II)I"⟩
abbrev cX7_isHidden : ByteArray := prog_9_method_18_code
def yX7_isHidden : MethodName := ⟨RX7, "isHidden", "(II)Z"⟩
abbrev cX7_isElsewhere : ByteArray := prog_9_method_19_code
def yX7_isElsewhere : MethodName := ⟨RX7, "isElsewhere", "()Z"⟩
abbrev cX7_drop : ByteArray := prog_9_method_20_code
def yX7_drop : MethodName := ⟨RX7, "drop", "()I"⟩
abbrev cX7_isType : ByteArray := prog_9_method_21_code
def yX7_isType : MethodName := ⟨RX7, "isType", "(I)Z"⟩
abbrev cX7_hollow : ByteArray := prog_9_method_22_code
def yX7_hollow : MethodName := ⟨RX7, "hollow", "(IZ)I"⟩
abbrev cX7_answersIn : ByteArray := prog_9_method_23_code
def yX7_answersIn : MethodName := ⟨RX7, "answersIn", "(II)I"⟩
abbrev cX7_slotFrom : ByteArray := prog_9_method_24_code
def yX7_slotFrom : MethodName := ⟨RX7, "slotFrom", "(II)I"⟩
abbrev cX7_answered : ByteArray := prog_9_method_25_code
def yX7_answered : MethodName := ⟨RX7, "answered", "(I)I"⟩
abbrev cX7_hasOf : ByteArray := prog_9_method_26_code
def yX7_hasOf : MethodName := ⟨RX7, "hasOf", "(III)I"⟩
abbrev cX7_below : ByteArray := prog_9_method_27_code
def yX7_below : MethodName := ⟨RX7, "below", "(I)I"⟩
abbrev cX7_typeNow : ByteArray := prog_9_method_28_code
def yX7_typeNow : MethodName := ⟨RX7, "typeNow", "(II)I"⟩
abbrev cX7_of : ByteArray := prog_9_method_29_code
def yX7_of : MethodName := ⟨RX7, "of", "(II)I"⟩
abbrev cX7_isMember : ByteArray := prog_9_method_30_code
def yX7_isMember : MethodName := ⟨RX7, "isMember", "(II)Z"⟩
abbrev cX7_isMethod : ByteArray := prog_9_method_31_code
def yX7_isMethod : MethodName := ⟨RX7, "isMethod", "(II)Z"⟩
abbrev cX7_has : ByteArray := prog_9_method_32_code
def yX7_has : MethodName := ⟨RX7, "has", "(II)I"⟩
abbrev cX7_answerNow : ByteArray := prog_9_method_33_code
def yX7_answerNow : MethodName := ⟨RX7, "answerNow", "(III)I"⟩
abbrev cX7_answer : ByteArray := prog_9_method_34_code
def yX7_answer : MethodName := ⟨RX7, "answer", "(III)I"⟩
abbrev cX7_bodyNow : ByteArray := prog_9_method_35_code
def yX7_bodyNow : MethodName := ⟨RX7, "bodyNow", "(II)I"⟩
abbrev cX7_body : ByteArray := prog_9_method_36_code
def yX7_body : MethodName := ⟨RX7, "body", "(II)I"⟩
abbrev cX7_put : ByteArray := prog_9_method_37_code
def yX7_put : MethodName := ⟨RX7, "put", "(II)V"⟩
abbrev cX7_isRunning : ByteArray := prog_9_method_38_code
def yX7_isRunning : MethodName := ⟨RX7, "isRunning", "(I)Z"⟩
abbrev cX7_run : ByteArray := prog_9_method_39_code
def yX7_run : MethodName := ⟨RX7, "run", "(II)V"⟩
abbrev cX7_comesTo : ByteArray := prog_9_method_40_code
def yX7_comesTo : MethodName := ⟨RX7, "comesTo", "(III)V"⟩
abbrev cX7_layTrace : ByteArray := prog_9_method_41_code
def yX7_layTrace : MethodName := ⟨RX7, "layTrace", "(II)Z"⟩
abbrev cX7_traceNow : ByteArray := prog_9_method_42_code
def yX7_traceNow : MethodName := ⟨RX7, "traceNow", "(III)I"⟩
abbrev cX7_trace : ByteArray := prog_9_method_43_code
def yX7_trace : MethodName := ⟨RX7, "trace", "(III)I"⟩
abbrev cX7_event : ByteArray := prog_9_method_44_code
def yX7_event : MethodName := ⟨RX7, "event", "(IIII)I"⟩
abbrev cX7_layTried : ByteArray := prog_9_method_45_code
def yX7_layTried : MethodName := ⟨RX7, "layTried", "()V"⟩
abbrev cX7_lay : ByteArray := prog_9_method_46_code
def yX7_lay : MethodName := ⟨RX7, "lay", "(IIIIZ)V"⟩
abbrev cX7_tryMove : ByteArray := prog_9_method_47_code
def yX7_tryMove : MethodName := ⟨RX7, "tryMove", "(IIZ)V"⟩
abbrev cX7_missesBelow : ByteArray := prog_9_method_48_code
def yX7_missesBelow : MethodName := ⟨RX7, "missesBelow", "(II)I"⟩
abbrev cX7_plainWhy : ByteArray := prog_9_method_49_code
def yX7_plainWhy : MethodName := ⟨RX7, "plainWhy", "(IIZ)I"⟩
abbrev cX7_isOther : ByteArray := prog_9_method_50_code
def yX7_isOther : MethodName := ⟨RX7, "isOther", "(II)Z"⟩
abbrev cX7_whereTried : ByteArray := prog_9_method_51_code
def yX7_whereTried : MethodName := ⟨RX7, "whereTried", "()I"⟩
abbrev cX7_whereNow : ByteArray := prog_9_method_52_code
def yX7_whereNow : MethodName := ⟨RX7, "whereNow", "(IIZ)I"⟩
abbrev cX7_whyNow : ByteArray := prog_9_method_53_code
def yX7_whyNow : MethodName := ⟨RX7, "whyNow", "(IIZ)I"⟩
abbrev cX7_why : ByteArray := prog_9_method_54_code
def yX7_why : MethodName := ⟨RX7, "why", "(IIZ)I"⟩
abbrev cX7_where : ByteArray := prog_9_method_55_code
def yX7_where : MethodName := ⟨RX7, "where", "(IIZ)I"⟩
abbrev cX7_move : ByteArray := prog_9_method_56_code
def yX7_move : MethodName := ⟨RX7, "move", "(IIZ)I"⟩
abbrev cX7_undo : ByteArray := prog_9_method_57_code
def yX7_undo : MethodName := ⟨RX7, "undo", "()I"⟩
abbrev cX7_layMoves : ByteArray := prog_9_method_58_code
def yX7_layMoves : MethodName := ⟨RX7, "layMoves", "()V"⟩
abbrev cX7_moves : ByteArray := prog_9_method_59_code
def yX7_moves : MethodName := ⟨RX7, "moves", "(I)I"⟩
abbrev cX7_contract : ByteArray := prog_9_method_60_code
def yX7_contract : MethodName := ⟨RX7, "contract", "(I)I"⟩
abbrev cX7_fitNow : ByteArray := prog_9_method_61_code
def yX7_fitNow : MethodName := ⟨RX7, "fitNow", "(II)I"⟩
abbrev cX7_fit : ByteArray := prog_9_method_62_code
def yX7_fit : MethodName := ⟨RX7, "fit", "(II)I"⟩
abbrev cX7_common : ByteArray := prog_9_method_63_code
def yX7_common : MethodName := ⟨RX7, "common", "(I)I"⟩
abbrev cX7_layMet : ByteArray := prog_9_method_64_code
def yX7_layMet : MethodName := ⟨RX7, "layMet", "()V"⟩
abbrev cX7_deadNow : ByteArray := prog_9_method_65_code
def yX7_deadNow : MethodName := ⟨RX7, "deadNow", "(I)I"⟩
abbrev cX7_dead : ByteArray := prog_9_method_66_code
def yX7_dead : MethodName := ⟨RX7, "dead", "(I)I"⟩
abbrev cX7_deadMany : ByteArray := prog_9_method_67_code
def yX7_deadMany : MethodName := ⟨RX7, "deadMany", "()I"⟩
abbrev cX7_missingMany : ByteArray := prog_9_method_68_code
def yX7_missingMany : MethodName := ⟨RX7, "missingMany", "()I"⟩
abbrev cX7_howMany : ByteArray := prog_9_method_69_code
def yX7_howMany : MethodName := ⟨RX7, "howMany", "(I)I"⟩
abbrev cX7_count : ByteArray := prog_9_method_70_code
def yX7_count : MethodName := ⟨RX7, "count", "(I)I"⟩
abbrev cX7_mix : ByteArray := prog_9_method_71_code
def yX7_mix : MethodName := ⟨RX7, "mix", "(J)V"⟩
abbrev cX7_mixMethod : ByteArray := prog_9_method_72_code
def yX7_mixMethod : MethodName := ⟨RX7, "mixMethod", "(II)V"⟩
abbrev cX7_mixTypes : ByteArray := prog_9_method_73_code
def yX7_mixTypes : MethodName := ⟨RX7, "mixTypes", "()V"⟩
abbrev cX7_digest : ByteArray := prog_9_method_74_code
def yX7_digest : MethodName := ⟨RX7, "digest", "()J"⟩
def RJ6 : String := "java/lang/Integer"
abbrev cJ6_bitCount_0f7a4 : ByteArray := prog_10_method_49_code
def yJ6_bitCount_0f7a4 : MethodName := ⟨RJ6, "bitCount", "(I)I"⟩
def RJ13 : String := "java/lang/Long"
abbrev cJ13_bitCount_95d88 : ByteArray := prog_11_method_50_code
def yJ13_bitCount_95d88 : MethodName := ⟨RJ13, "bitCount", "(J)I"⟩
def RL : String := "MovedMembersLaw"
abbrev cL_law : ByteArray := code
def yL_law : MethodName := ⟨RL, "law", "([I)Z"⟩
abbrev vwCl : List vw_C := [(RX0, TX0, 14), (RX1, TX1, 2), (RX2, TX2, 9), (RX3, TX3, 8), (RX4, TX4, 9), (RX5, TX5, 10), (RX6, TX6, 7), (RX7, TX7, 45)]
/-- a method: its name, its bytes, how many locals, what it answers -/
abbrev MD : Type := MethodName × ByteArray × Nat × Option FieldType
def mX0_init : MD := (yX0_init, cX0_init, 4, none)
def mX0_forgetKept : MD := (yX0_forgetKept, cX0_forgetKept, 1, none)
def mX0_reason : MD := (yX0_reason, cX0_reason, 5, (some .int))
def mX0_keep : MD := (yX0_keep, cX0_keep, 4, (some .boolean))
def mX0_takeBack : MD := (yX0_takeBack, cX0_takeBack, 1, (some .boolean))
def mX0_refresh : MD := (yX0_refresh, cX0_refresh, 5, none)
def mX0_someLack : MD := (yX0_someLack, cX0_someLack, 4, (some .boolean))
def mX0_shift : MD := (yX0_shift, cX0_shift, 6, none)
def mX0_shiftUp : MD := (yX0_shiftUp, cX0_shiftUp, 6, none)
def mX0_shiftDown : MD := (yX0_shiftDown, cX0_shiftDown, 6, none)
def mX0_firstChange : MD := (yX0_firstChange, cX0_firstChange, 3, (some .int))
def mX0_save : MD := (yX0_save, cX0_save, 4, none)
def mX0_restore : MD := (yX0_restore, cX0_restore, 4, none)
def mX1_init : MD := (yX1_init, cX1_init, 1, none)
def mX1_append : MD := (yX1_append, cX1_append, 2, (some .boolean))
def mX1_wipe : MD := (yX1_wipe, cX1_wipe, 1, none)
def mX1_codeAt : MD := (yX1_codeAt, cX1_codeAt, 2, (some .int))
def mX2_init : MD := (yX2_init, cX2_init, 1, none)
def mX2_read : MD := (yX2_read, cX2_read, 4, (some .int))
def mX2_isWhole : MD := (yX2_isWhole, cX2_isWhole, 1, (some .boolean))
def mX2_methodCount : MD := (yX2_methodCount, cX2_methodCount, 1, (some .int))
def mX2_memberAt : MD := (yX2_memberAt, cX2_memberAt, 2, (some .int))
def mX2_itemCountOf : MD := (yX2_itemCountOf, cX2_itemCountOf, 2, (some .int))
def mX2_itemAt : MD := (yX2_itemAt, cX2_itemAt, 3, (some .int))
def mX2_start : MD := (yX2_start, cX2_start, 2, none)
def mX2_take : MD := (yX2_take, cX2_take, 2, (some .boolean))
def mX2_goOn : MD := (yX2_goOn, cX2_goOn, 3, (some .boolean))
def mX2_takeMember : MD := (yX2_takeMember, cX2_takeMember, 3, (some .boolean))
def mX2_takeDash : MD := (yX2_takeDash, cX2_takeDash, 1, (some .boolean))
def mX2_takeBehindDash : MD := (yX2_takeBehindDash, cX2_takeBehindDash, 2, (some .boolean))
def mX2_takeItem : MD := (yX2_takeItem, cX2_takeItem, 4, (some .boolean))
def mX2_takeAsked : MD := (yX2_takeAsked, cX2_takeAsked, 3, (some .boolean))
def mX2_addItem : MD := (yX2_addItem, cX2_addItem, 3, (some .boolean))
def mX2_memberOf : MD := (yX2_memberOf, cX2_memberOf, 1, (some .int))
def mX3_init : MD := (yX3_init, cX3_init, 3, none)
def mX3_refresh : MD := (yX3_refresh, cX3_refresh, 3, none)
def mX3_store : MD := (yX3_store, cX3_store, 5, none)
def mX3_addUp : MD := (yX3_addUp, cX3_addUp, 3, none)
def mX3_rowOf : MD := (yX3_rowOf, cX3_rowOf, 2, (some .int))
def mX3_sizeOf : MD := (yX3_sizeOf, cX3_sizeOf, 4, (some .int))
def mX3_depthOf : MD := (yX3_depthOf, cX3_depthOf, 4, (some .int))
def mX3_eventAt : MD := (yX3_eventAt, cX3_eventAt, 5, (some .int))
def mX3_isReached : MD := (yX3_isReached, cX3_isReached, 2, (some .boolean))
def mX3_reachedCount : MD := (yX3_reachedCount, cX3_reachedCount, 1, (some .int))
def mX3_isAsTraced : MD := (yX3_isAsTraced, cX3_isAsTraced, 4, (some .boolean))
def mX4_init : MD := (yX4_init, cX4_init, 2, none)
def mX4_run : MD := (yX4_run, cX4_run, 6, none)
def mX4_nextItem : MD := (yX4_nextItem, cX4_nextItem, 3, (some .int))
def mX4_openHome : MD := (yX4_openHome, cX4_openHome, 1, (some .int))
def mX4_homeFor : MD := (yX4_homeFor, cX4_homeFor, 4, (some .int))
def mX4_use : MD := (yX4_use, cX4_use, 3, none)
def mX4_meet : MD := (yX4_meet, cX4_meet, 4, none)
def mX4_enter : MD := (yX4_enter, cX4_enter, 3, none)
def mX4_leave : MD := (yX4_leave, cX4_leave, 1, none)
def mX4_note : MD := (yX4_note, cX4_note, 3, none)
def mX4_eventAt : MD := (yX4_eventAt, cX4_eventAt, 2, (some .int))
def mX5_init : MD := (yX5_init, cX5_init, 1, none)
def mX5_hasType : MD := (yX5_hasType, cX5_hasType, 2, (some .boolean))
def mX5_hasBody : MD := (yX5_hasBody, cX5_hasBody, 2, (some .boolean))
def mX5_parentOf : MD := (yX5_parentOf, cX5_parentOf, 2, (some .int))
def mX5_hides : MD := (yX5_hides, cX5_hides, 3, (some .boolean))
def mX5_heldBy : MD := (yX5_heldBy, cX5_heldBy, 3, (some .int))
def mX5_itemAt : MD := (yX5_itemAt, cX5_itemAt, 3, (some .int))
def mX5_isHollow : MD := (yX5_isHollow, cX5_isHollow, 2, (some .boolean))
def mX5_makeHollow : MD := (yX5_makeHollow, cX5_makeHollow, 3, none)
def mX5_hiddenOf : MD := (yX5_hiddenOf, cX5_hiddenOf, 2, (some .int))
def mX5_put : MD := (yX5_put, cX5_put, 6, none)
def mX5_heldBits : MD := (yX5_heldBits, cX5_heldBits, 6, (some .int))
def mX5_childBits : MD := (yX5_childBits, cX5_childBits, 4, (some .int))
def mX5_nearest : MD := (yX5_nearest, cX5_nearest, 5, (some .int))
def mX5_answerBits : MD := (yX5_answerBits, cX5_answerBits, 4, (some .int))
def mX5_itemCountOf : MD := (yX5_itemCountOf, cX5_itemCountOf, 2, (some .int))
def mX5_hasRoomFor : MD := (yX5_hasRoomFor, cX5_hasRoomFor, 2, (some .boolean))
def mX5_accept : MD := (yX5_accept, cX5_accept, 6, (some .int))
def mX5_newBody : MD := (yX5_newBody, cX5_newBody, 5, (some .int))
def mX5_lastLiesElsewhere : MD := (yX5_lastLiesElsewhere, cX5_lastLiesElsewhere, 5, (some .boolean))
def mX5_removeLast : MD := (yX5_removeLast, cX5_removeLast, 2, none)
def mX6_init : MD := (yX6_init, cX6_init, 2, none)
def mX6_letter : MD := (yX6_letter, cX6_letter, 2, (some .int))
def mX6_blank : MD := (yX6_blank, cX6_blank, 2, (some .int))
def mX6_fault : MD := (yX6_fault, cX6_fault, 1, (some .int))
def mX6_type : MD := (yX6_type, cX6_type, 2, (some .int))
def mX6_drop : MD := (yX6_drop, cX6_drop, 1, (some .int))
def mX6_hollow : MD := (yX6_hollow, cX6_hollow, 4, (some .int))
def mX6_of : MD := (yX6_of, cX6_of, 3, (some .int))
def mX6_has : MD := (yX6_has, cX6_has, 3, (some .int))
def mX6_answer : MD := (yX6_answer, cX6_answer, 5, (some .int))
def mX6_body : MD := (yX6_body, cX6_body, 3, (some .int))
def mX6_trace : MD := (yX6_trace, cX6_trace, 4, (some .int))
def mX6_event : MD := (yX6_event, cX6_event, 6, (some .int))
def mX6_why : MD := (yX6_why, cX6_why, 4, (some .int))
def mX6_where : MD := (yX6_where, cX6_where, 4, (some .int))
def mX6_move : MD := (yX6_move, cX6_move, 4, (some .int))
def mX6_undo : MD := (yX6_undo, cX6_undo, 1, (some .int))
def mX6_moves : MD := (yX6_moves, cX6_moves, 2, (some .int))
def mX6_contract : MD := (yX6_contract, cX6_contract, 2, (some .int))
def mX6_fit : MD := (yX6_fit, cX6_fit, 4, (some .int))
def mX6_common : MD := (yX6_common, cX6_common, 4, (some .int))
def mX6_dead : MD := (yX6_dead, cX6_dead, 2, (some .int))
def mX6_count : MD := (yX6_count, cX6_count, 2, (some .int))
def mX6_digest : MD := (yX6_digest, cX6_digest, 5, (some .long))
def mX6_withType : MD := (yX6_withType, cX6_withType, 7, (some .long))
def mX6_withMethod : MD := (yX6_withMethod, cX6_withMethod, 10, (some .long))
def mX6_withBody : MD := (yX6_withBody, cX6_withBody, 7, (some .long))
def mX6_with : MD := (yX6_with, cX6_with, 4, (some .long))
def mX6_typesThatFit : MD := (yX6_typesThatFit, cX6_typesThatFit, 4, (some .int))
def mX6_nearestMisfit : MD := (yX6_nearestMisfit, cX6_nearestMisfit, 6, (some .int))
def mX6_isMember : MD := (yX6_isMember, cX6_isMember, 1, (some .boolean))
def mX6_isMethod : MD := (yX6_isMethod, cX6_isMethod, 1, (some .boolean))
def mX7_init : MD := (yX7_init, cX7_init, 1, none)
def mX7_within : MD := (yX7_within, cX7_within, 3, (some .boolean))
def mX7_hasBit : MD := (yX7_hasBit, cX7_hasBit, 2, (some .boolean))
def mX7_ones : MD := (yX7_ones, cX7_ones, 3, (some .int))
def mX7_letter : MD := (yX7_letter, cX7_letter, 2, (some .int))
def mX7_blank : MD := (yX7_blank, cX7_blank, 2, (some .int))
def mX7_memberAt : MD := (yX7_memberAt, cX7_memberAt, 1, (some .int))
def mX7_takesMember : MD := (yX7_takesMember, cX7_takesMember, 3, (some .boolean))
def mX7_takesBehindMethod : MD := (yX7_takesBehindMethod, cX7_takesBehindMethod, 2, (some .boolean))
def mX7_takesItem : MD := (yX7_takesItem, cX7_takesItem, 4, (some .boolean))
def mX7_takesHead : MD := (yX7_takesHead, cX7_takesHead, 2, (some .boolean))
def mX7_takes : MD := (yX7_takes, cX7_takes, 2, (some .boolean))
def mX7_read : MD := (yX7_read, cX7_read, 2, (some .int))
def mX7_fault : MD := (yX7_fault, cX7_fault, 1, (some .int))
def mX7_type : MD := (yX7_type, cX7_type, 3, (some .int))
def mX7_memberOf : MD := (yX7_memberOf, cX7_memberOf, 3, (some .int))
def mX7_isHidden : MD := (yX7_isHidden, cX7_isHidden, 3, (some .boolean))
def mX7_isElsewhere : MD := (yX7_isElsewhere, cX7_isElsewhere, 6, (some .boolean))
def mX7_drop : MD := (yX7_drop, cX7_drop, 1, (some .int))
def mX7_isType : MD := (yX7_isType, cX7_isType, 2, (some .boolean))
def mX7_hollow : MD := (yX7_hollow, cX7_hollow, 4, (some .int))
def mX7_answersIn : MD := (yX7_answersIn, cX7_answersIn, 4, (some .int))
def mX7_slotFrom : MD := (yX7_slotFrom, cX7_slotFrom, 4, (some .int))
def mX7_answered : MD := (yX7_answered, cX7_answered, 4, (some .int))
def mX7_hasOf : MD := (yX7_hasOf, cX7_hasOf, 6, (some .int))
def mX7_below : MD := (yX7_below, cX7_below, 4, (some .int))
def mX7_typeNow : MD := (yX7_typeNow, cX7_typeNow, 3, (some .int))
def mX7_of : MD := (yX7_of, cX7_of, 3, (some .int))
def mX7_isMember : MD := (yX7_isMember, cX7_isMember, 3, (some .boolean))
def mX7_isMethod : MD := (yX7_isMethod, cX7_isMethod, 3, (some .boolean))
def mX7_has : MD := (yX7_has, cX7_has, 3, (some .int))
def mX7_answerNow : MD := (yX7_answerNow, cX7_answerNow, 5, (some .int))
def mX7_answer : MD := (yX7_answer, cX7_answer, 4, (some .int))
def mX7_bodyNow : MD := (yX7_bodyNow, cX7_bodyNow, 3, (some .int))
def mX7_body : MD := (yX7_body, cX7_body, 3, (some .int))
def mX7_put : MD := (yX7_put, cX7_put, 3, none)
def mX7_isRunning : MD := (yX7_isRunning, cX7_isRunning, 4, (some .boolean))
def mX7_run : MD := (yX7_run, cX7_run, 3, none)
def mX7_comesTo : MD := (yX7_comesTo, cX7_comesTo, 8, none)
def mX7_layTrace : MD := (yX7_layTrace, cX7_layTrace, 6, (some .boolean))
def mX7_traceNow : MD := (yX7_traceNow, cX7_traceNow, 4, (some .int))
def mX7_trace : MD := (yX7_trace, cX7_trace, 4, (some .int))
def mX7_event : MD := (yX7_event, cX7_event, 5, (some .int))
def mX7_layTried : MD := (yX7_layTried, cX7_layTried, 2, none)
def mX7_lay : MD := (yX7_lay, cX7_lay, 7, none)
def mX7_tryMove : MD := (yX7_tryMove, cX7_tryMove, 9, none)
def mX7_missesBelow : MD := (yX7_missesBelow, cX7_missesBelow, 5, (some .int))
def mX7_plainWhy : MD := (yX7_plainWhy, cX7_plainWhy, 5, (some .int))
def mX7_isOther : MD := (yX7_isOther, cX7_isOther, 5, (some .boolean))
def mX7_whereTried : MD := (yX7_whereTried, cX7_whereTried, 3, (some .int))
def mX7_whereNow : MD := (yX7_whereNow, cX7_whereNow, 4, (some .int))
def mX7_whyNow : MD := (yX7_whyNow, cX7_whyNow, 5, (some .int))
def mX7_why : MD := (yX7_why, cX7_why, 4, (some .int))
def mX7_where : MD := (yX7_where, cX7_where, 4, (some .int))
def mX7_move : MD := (yX7_move, cX7_move, 5, (some .int))
def mX7_undo : MD := (yX7_undo, cX7_undo, 2, (some .int))
def mX7_layMoves : MD := (yX7_layMoves, cX7_layMoves, 4, none)
def mX7_moves : MD := (yX7_moves, cX7_moves, 2, (some .int))
def mX7_contract : MD := (yX7_contract, cX7_contract, 2, (some .int))
def mX7_fitNow : MD := (yX7_fitNow, cX7_fitNow, 8, (some .int))
def mX7_fit : MD := (yX7_fit, cX7_fit, 3, (some .int))
def mX7_common : MD := (yX7_common, cX7_common, 4, (some .int))
def mX7_layMet : MD := (yX7_layMet, cX7_layMet, 3, none)
def mX7_deadNow : MD := (yX7_deadNow, cX7_deadNow, 2, (some .int))
def mX7_dead : MD := (yX7_dead, cX7_dead, 2, (some .int))
def mX7_deadMany : MD := (yX7_deadMany, cX7_deadMany, 3, (some .int))
def mX7_missingMany : MD := (yX7_missingMany, cX7_missingMany, 1, (some .int))
def mX7_howMany : MD := (yX7_howMany, cX7_howMany, 2, (some .int))
def mX7_count : MD := (yX7_count, cX7_count, 2, (some .int))
def mX7_mix : MD := (yX7_mix, cX7_mix, 3, none)
def mX7_mixMethod : MD := (yX7_mixMethod, cX7_mixMethod, 4, none)
def mX7_mixTypes : MD := (yX7_mixTypes, cX7_mixTypes, 3, none)
def mX7_digest : MD := (yX7_digest, cX7_digest, 3, (some .long))
def mJ6_bitCount_0f7a4 : MD := (yJ6_bitCount_0f7a4, cJ6_bitCount_0f7a4, 1, (some .int))
def mJ13_bitCount_95d88 : MD := (yJ13_bitCount_95d88, cJ13_bitCount_95d88, 2, (some .int))
end
section
def gTbl : List Cond := lw_tbl.filter goodWord
def isNest (w : Cond) : Bool := match w with
  | .fieldLinkNest .. => true
  | .methodLinkNest .. => true
  | _ => false
def nTbl : List Cond := lw_tbl.filter isNest
theorem gm (i : Nat) {w : Cond} (h : lw_tbl[i]? = some w) (hg : goodWord w = true) : w ∈ gTbl := List.mem_filter.mpr ⟨List.mem_of_getElem? h, hg⟩
theorem nm_ (i : Nat) {w : Cond} (h : lw_tbl[i]? = some w) (hg : isNest w = true) : w ∈ nTbl := List.mem_filter.mpr ⟨List.mem_of_getElem? h, hg⟩
theorem gTbl_good : ∀ w ∈ gTbl, (w.onTables && w.keeps) = true ∨ ∃ ty, w = .arrayClass ty := fun w h => good_of_word (List.mem_filter.mp h).2
theorem gTbl_sub : ∀ w ∈ gTbl, w ∈ lw_tbl := fun w h => (List.mem_filter.mp h).1
theorem nTbl_sub : ∀ w ∈ nTbl, w ∈ lw_tbl := fun w h => (List.mem_filter.mp h).1
abbrev cdw (z : MD) : Cond := .code z.1 z.2.1 z.2.2.1 z.2.2.2
/-- class ci of vwCl, with its tables -/
def clsOK (ci : Nat) (C : String) (T : u_T) (N : Nat) (ty : Nat → FieldType) : Prop :=
  vwCl[ci]? = some (C, T, N) ∧ (∀ w ∈ u_ws C T N, w ∈ gTbl) ∧ (∀ k, k < N → parseFieldDescriptor (T k).2.2.1 = some (ty k)) ∧ (∀ a, a < N → ∀ b, b < N → a ≠ b → (T a).2.1 ≠ (T b).2.1) ∧ ∀ k, k < N → (T k).1 = C
/-- the pool entry idx of own names field j of class ci -/
def FLk (own : String) (idx ci j : Nat) : Prop := ∃ (C : String) (T : u_T) (N : Nat) (ty : Nat → FieldType), clsOK ci C T N ty ∧ j < N ∧ (Cond.fieldLink own idx C (T j).2.1 (T j).2.2.1 ∈ gTbl ∨ ∃ host, Cond.fieldLinkNest own idx C (T j).2.1 (T j).2.2.1 host ∈ nTbl)
def MLk (own : String) (idx : Nat) (z : MD) (n : Nat) : Prop := cdw z ∈ gTbl ∧ Cond.initialized z.1.cls ∈ gTbl ∧ (Cond.methodLink own idx z.1 ∈ gTbl ∨ ∃ host, Cond.methodLinkNest own idx z.1 host ∈ nTbl) ∧ z.1.cls ≠ "java/lang/invoke/MethodHandle" ∧ z.1.cls ≠ "java/lang/invoke/VarHandle" ∧ (parseMethodDescriptor z.1.desc).map (fun d => d.parameters.length) = some n
def MLkV (own : String) (idx : Nat) (z : MD) (n : Nat) : Prop := MLk own idx z n ∧ Cond.instanceMethod z.1 ∈ gTbl ∧ Cond.selects z.1.cls z.1 z.1 ∈ gTbl
def MLkS (own : String) (idx : Nat) (z : MD) (n : Nat) : Prop := MLk own idx z n ∧ Cond.static z.1 ∈ gTbl
theorem layX0 : ∀ w ∈ u_ws RX0 TX0 14, w ∈ gTbl := by
  show ∀ w ∈ ([u_lay RX0 TX0 0, u_lay RX0 TX0 1, u_lay RX0 TX0 2, u_lay RX0 TX0 3, u_lay RX0 TX0 4, u_lay RX0 TX0 5, u_lay RX0 TX0 6, u_lay RX0 TX0 7, u_lay RX0 TX0 8, u_lay RX0 TX0 9, u_lay RX0 TX0 10, u_lay RX0 TX0 11, u_lay RX0 TX0 12, u_lay RX0 TX0 13] : List Cond), w ∈ gTbl
  simp only [List.forall_mem_cons, List.not_mem_nil, false_imp_iff, implies_true, and_true]
  exact ⟨gm 288 (by decide +kernel) rfl, gm 290 (by decide +kernel) rfl, gm 292 (by decide +kernel) rfl, gm 294 (by decide +kernel) rfl, gm 296 (by decide +kernel) rfl, gm 298 (by decide +kernel) rfl, gm 300 (by decide +kernel) rfl, gm 302 (by decide +kernel) rfl, gm 304 (by decide +kernel) rfl, gm 306 (by decide +kernel) rfl, gm 308 (by decide +kernel) rfl, gm 310 (by decide +kernel) rfl, gm 312 (by decide +kernel) rfl, gm 314 (by decide +kernel) rfl⟩
theorem clsX0 : clsOK 0 RX0 TX0 14 tyX0 := ⟨rfl, layX0, tyX0_ok, nmX0, by decide +kernel⟩
theorem layX1 : ∀ w ∈ u_ws RX1 TX1 2, w ∈ gTbl := by
  show ∀ w ∈ ([u_lay RX1 TX1 0, u_lay RX1 TX1 1] : List Cond), w ∈ gTbl
  simp only [List.forall_mem_cons, List.not_mem_nil, false_imp_iff, implies_true, and_true]
  exact ⟨gm 106 (by decide +kernel) rfl, gm 108 (by decide +kernel) rfl⟩
theorem clsX1 : clsOK 1 RX1 TX1 2 tyX1 := ⟨rfl, layX1, tyX1_ok, nmX1, by decide +kernel⟩
theorem layX2 : ∀ w ∈ u_ws RX2 TX2 9, w ∈ gTbl := by
  show ∀ w ∈ ([u_lay RX2 TX2 0, u_lay RX2 TX2 1, u_lay RX2 TX2 2, u_lay RX2 TX2 3, u_lay RX2 TX2 4, u_lay RX2 TX2 5, u_lay RX2 TX2 6, u_lay RX2 TX2 7, u_lay RX2 TX2 8] : List Cond), w ∈ gTbl
  simp only [List.forall_mem_cons, List.not_mem_nil, false_imp_iff, implies_true, and_true]
  exact ⟨gm 130 (by decide +kernel) rfl, gm 132 (by decide +kernel) rfl, gm 134 (by decide +kernel) rfl, gm 136 (by decide +kernel) rfl, gm 138 (by decide +kernel) rfl, gm 140 (by decide +kernel) rfl, gm 142 (by decide +kernel) rfl, gm 144 (by decide +kernel) rfl, gm 146 (by decide +kernel) rfl⟩
theorem clsX2 : clsOK 2 RX2 TX2 9 tyX2 := ⟨rfl, layX2, tyX2_ok, nmX2, by decide +kernel⟩
theorem layX3 : ∀ w ∈ u_ws RX3 TX3 8, w ∈ gTbl := by
  show ∀ w ∈ ([u_lay RX3 TX3 0, u_lay RX3 TX3 1, u_lay RX3 TX3 2, u_lay RX3 TX3 3, u_lay RX3 TX3 4, u_lay RX3 TX3 5, u_lay RX3 TX3 6, u_lay RX3 TX3 7] : List Cond), w ∈ gTbl
  simp only [List.forall_mem_cons, List.not_mem_nil, false_imp_iff, implies_true, and_true]
  exact ⟨gm 244 (by decide +kernel) rfl, gm 246 (by decide +kernel) rfl, gm 248 (by decide +kernel) rfl, gm 250 (by decide +kernel) rfl, gm 252 (by decide +kernel) rfl, gm 254 (by decide +kernel) rfl, gm 256 (by decide +kernel) rfl, gm 258 (by decide +kernel) rfl⟩
theorem clsX3 : clsOK 3 RX3 TX3 8 tyX3 := ⟨rfl, layX3, tyX3_ok, nmX3, by decide +kernel⟩
theorem layX4 : ∀ w ∈ u_ws RX4 TX4 9, w ∈ gTbl := by
  show ∀ w ∈ ([u_lay RX4 TX4 0, u_lay RX4 TX4 1, u_lay RX4 TX4 2, u_lay RX4 TX4 3, u_lay RX4 TX4 4, u_lay RX4 TX4 5, u_lay RX4 TX4 6, u_lay RX4 TX4 7, u_lay RX4 TX4 8] : List Cond), w ∈ gTbl
  simp only [List.forall_mem_cons, List.not_mem_nil, false_imp_iff, implies_true, and_true]
  exact ⟨gm 210 (by decide +kernel) rfl, gm 212 (by decide +kernel) rfl, gm 214 (by decide +kernel) rfl, gm 216 (by decide +kernel) rfl, gm 218 (by decide +kernel) rfl, gm 220 (by decide +kernel) rfl, gm 222 (by decide +kernel) rfl, gm 224 (by decide +kernel) rfl, gm 226 (by decide +kernel) rfl⟩
theorem clsX4 : clsOK 4 RX4 TX4 9 tyX4 := ⟨rfl, layX4, tyX4_ok, nmX4, by decide +kernel⟩
theorem layX5 : ∀ w ∈ u_ws RX5 TX5 10, w ∈ gTbl := by
  show ∀ w ∈ ([u_lay RX5 TX5 0, u_lay RX5 TX5 1, u_lay RX5 TX5 2, u_lay RX5 TX5 3, u_lay RX5 TX5 4, u_lay RX5 TX5 5, u_lay RX5 TX5 6, u_lay RX5 TX5 7, u_lay RX5 TX5 8, u_lay RX5 TX5 9] : List Cond), w ∈ gTbl
  simp only [List.forall_mem_cons, List.not_mem_nil, false_imp_iff, implies_true, and_true]
  exact ⟨gm 171 (by decide +kernel) rfl, gm 173 (by decide +kernel) rfl, gm 175 (by decide +kernel) rfl, gm 177 (by decide +kernel) rfl, gm 179 (by decide +kernel) rfl, gm 181 (by decide +kernel) rfl, gm 183 (by decide +kernel) rfl, gm 185 (by decide +kernel) rfl, gm 187 (by decide +kernel) rfl, gm 189 (by decide +kernel) rfl⟩
theorem clsX5 : clsOK 5 RX5 TX5 10 tyX5 := ⟨rfl, layX5, tyX5_ok, nmX5, by decide +kernel⟩
theorem layX6 : ∀ w ∈ u_ws RX6 TX6 7, w ∈ gTbl := by
  show ∀ w ∈ ([u_lay RX6 TX6 0, u_lay RX6 TX6 1, u_lay RX6 TX6 2, u_lay RX6 TX6 3, u_lay RX6 TX6 4, u_lay RX6 TX6 5, u_lay RX6 TX6 6] : List Cond), w ∈ gTbl
  simp only [List.forall_mem_cons, List.not_mem_nil, false_imp_iff, implies_true, and_true]
  exact ⟨gm 324 (by decide +kernel) rfl, gm 326 (by decide +kernel) rfl, gm 328 (by decide +kernel) rfl, gm 330 (by decide +kernel) rfl, gm 332 (by decide +kernel) rfl, gm 334 (by decide +kernel) rfl, gm 336 (by decide +kernel) rfl⟩
theorem clsX6 : clsOK 6 RX6 TX6 7 tyX6 := ⟨rfl, layX6, tyX6_ok, nmX6, by decide +kernel⟩
theorem layX7 : ∀ w ∈ u_ws RX7 TX7 45, w ∈ gTbl := by
  show ∀ w ∈ ([u_lay RX7 TX7 0, u_lay RX7 TX7 1, u_lay RX7 TX7 2, u_lay RX7 TX7 3, u_lay RX7 TX7 4, u_lay RX7 TX7 5, u_lay RX7 TX7 6, u_lay RX7 TX7 7, u_lay RX7 TX7 8, u_lay RX7 TX7 9, u_lay RX7 TX7 10, u_lay RX7 TX7 11, u_lay RX7 TX7 12, u_lay RX7 TX7 13, u_lay RX7 TX7 14, u_lay RX7 TX7 15, u_lay RX7 TX7 16, u_lay RX7 TX7 17, u_lay RX7 TX7 18, u_lay RX7 TX7 19, u_lay RX7 TX7 20, u_lay RX7 TX7 21, u_lay RX7 TX7 22, u_lay RX7 TX7 23, u_lay RX7 TX7 24, u_lay RX7 TX7 25, u_lay RX7 TX7 26, u_lay RX7 TX7 27, u_lay RX7 TX7 28, u_lay RX7 TX7 29, u_lay RX7 TX7 30, u_lay RX7 TX7 31, u_lay RX7 TX7 32, u_lay RX7 TX7 33, u_lay RX7 TX7 34, u_lay RX7 TX7 35, u_lay RX7 TX7 36, u_lay RX7 TX7 37, u_lay RX7 TX7 38, u_lay RX7 TX7 39, u_lay RX7 TX7 40, u_lay RX7 TX7 41, u_lay RX7 TX7 42, u_lay RX7 TX7 43, u_lay RX7 TX7 44] : List Cond), w ∈ gTbl
  simp only [List.forall_mem_cons, List.not_mem_nil, false_imp_iff, implies_true, and_true]
  exact ⟨gm 844 (by decide +kernel) rfl, gm 846 (by decide +kernel) rfl, gm 848 (by decide +kernel) rfl, gm 850 (by decide +kernel) rfl, gm 852 (by decide +kernel) rfl, gm 854 (by decide +kernel) rfl, gm 856 (by decide +kernel) rfl, gm 858 (by decide +kernel) rfl, gm 860 (by decide +kernel) rfl, gm 862 (by decide +kernel) rfl, gm 864 (by decide +kernel) rfl, gm 866 (by decide +kernel) rfl, gm 868 (by decide +kernel) rfl, gm 870 (by decide +kernel) rfl, gm 872 (by decide +kernel) rfl, gm 874 (by decide +kernel) rfl, gm 876 (by decide +kernel) rfl, gm 878 (by decide +kernel) rfl, gm 880 (by decide +kernel) rfl, gm 882 (by decide +kernel) rfl, gm 884 (by decide +kernel) rfl, gm 886 (by decide +kernel) rfl, gm 888 (by decide +kernel) rfl, gm 890 (by decide +kernel) rfl, gm 892 (by decide +kernel) rfl, gm 894 (by decide +kernel) rfl, gm 896 (by decide +kernel) rfl, gm 898 (by decide +kernel) rfl, gm 900 (by decide +kernel) rfl, gm 902 (by decide +kernel) rfl, gm 904 (by decide +kernel) rfl, gm 906 (by decide +kernel) rfl, gm 908 (by decide +kernel) rfl, gm 910 (by decide +kernel) rfl, gm 912 (by decide +kernel) rfl, gm 914 (by decide +kernel) rfl, gm 916 (by decide +kernel) rfl, gm 918 (by decide +kernel) rfl, gm 920 (by decide +kernel) rfl, gm 922 (by decide +kernel) rfl, gm 924 (by decide +kernel) rfl, gm 926 (by decide +kernel) rfl, gm 928 (by decide +kernel) rfl, gm 930 (by decide +kernel) rfl, gm 932 (by decide +kernel) rfl⟩
theorem clsX7 : clsOK 7 RX7 TX7 45 tyX7 := ⟨rfl, layX7, tyX7_ok, nmX7, by decide +kernel⟩
theorem lkF_X1_9 : FLk RX1 9 1 0 := ⟨RX1, TX1, 2, tyX1, clsX1, by decide, Or.inl (gm 102 (by decide +kernel) rfl)⟩
theorem lkF_X1_15 : FLk RX1 15 1 1 := ⟨RX1, TX1, 2, tyX1, clsX1, by decide, Or.inl (gm 103 (by decide +kernel) rfl)⟩
theorem lkF_X2_25 : FLk RX2 25 1 1 := ⟨RX1, TX1, 2, tyX1, clsX1, by decide, Or.inr ⟨"MovedMembers", nm_ 104 (by decide +kernel) rfl⟩⟩
theorem lkF_X6_65 : FLk RX6 65 1 1 := ⟨RX1, TX1, 2, tyX1, clsX1, by decide, Or.inr ⟨"MovedMembers", nm_ 105 (by decide +kernel) rfl⟩⟩
theorem lkF_X2_9 : FLk RX2 9 2 0 := ⟨RX2, TX2, 9, tyX2, clsX2, by decide, Or.inl (gm 118 (by decide +kernel) rfl)⟩
theorem lkF_X2_15 : FLk RX2 15 2 1 := ⟨RX2, TX2, 9, tyX2, clsX2, by decide, Or.inl (gm 119 (by decide +kernel) rfl)⟩
theorem lkF_X2_18 : FLk RX2 18 2 2 := ⟨RX2, TX2, 9, tyX2, clsX2, by decide, Or.inl (gm 120 (by decide +kernel) rfl)⟩
theorem lkF_X2_39 : FLk RX2 39 2 3 := ⟨RX2, TX2, 9, tyX2, clsX2, by decide, Or.inl (gm 121 (by decide +kernel) rfl)⟩
theorem lkF_X2_56 : FLk RX2 56 2 4 := ⟨RX2, TX2, 9, tyX2, clsX2, by decide, Or.inl (gm 122 (by decide +kernel) rfl)⟩
theorem lkF_X2_59 : FLk RX2 59 2 5 := ⟨RX2, TX2, 9, tyX2, clsX2, by decide, Or.inl (gm 123 (by decide +kernel) rfl)⟩
theorem lkF_X5_71 : FLk RX5 71 2 5 := ⟨RX2, TX2, 9, tyX2, clsX2, by decide, Or.inr ⟨"MovedMembers", nm_ 124 (by decide +kernel) rfl⟩⟩
theorem lkF_X2_50 : FLk RX2 50 2 6 := ⟨RX2, TX2, 9, tyX2, clsX2, by decide, Or.inl (gm 125 (by decide +kernel) rfl)⟩
theorem lkF_X5_78 : FLk RX5 78 2 6 := ⟨RX2, TX2, 9, tyX2, clsX2, by decide, Or.inr ⟨"MovedMembers", nm_ 126 (by decide +kernel) rfl⟩⟩
theorem lkF_X2_42 : FLk RX2 42 2 7 := ⟨RX2, TX2, 9, tyX2, clsX2, by decide, Or.inl (gm 127 (by decide +kernel) rfl)⟩
theorem lkF_X2_62 : FLk RX2 62 2 8 := ⟨RX2, TX2, 9, tyX2, clsX2, by decide, Or.inl (gm 128 (by decide +kernel) rfl)⟩
theorem lkF_X5_84 : FLk RX5 84 2 8 := ⟨RX2, TX2, 9, tyX2, clsX2, by decide, Or.inr ⟨"MovedMembers", nm_ 129 (by decide +kernel) rfl⟩⟩
theorem lkF_X5_9 : FLk RX5 9 5 0 := ⟨RX5, TX5, 10, tyX5, clsX5, by decide, Or.inl (gm 155 (by decide +kernel) rfl)⟩
theorem lkF_X5_15 : FLk RX5 15 5 1 := ⟨RX5, TX5, 10, tyX5, clsX5, by decide, Or.inl (gm 156 (by decide +kernel) rfl)⟩
theorem lkF_X5_19 : FLk RX5 19 5 2 := ⟨RX5, TX5, 10, tyX5, clsX5, by decide, Or.inl (gm 157 (by decide +kernel) rfl)⟩
theorem lkF_X5_22 : FLk RX5 22 5 3 := ⟨RX5, TX5, 10, tyX5, clsX5, by decide, Or.inl (gm 158 (by decide +kernel) rfl)⟩
theorem lkF_X5_25 : FLk RX5 25 5 4 := ⟨RX5, TX5, 10, tyX5, clsX5, by decide, Or.inl (gm 159 (by decide +kernel) rfl)⟩
theorem lkF_X5_28 : FLk RX5 28 5 5 := ⟨RX5, TX5, 10, tyX5, clsX5, by decide, Or.inl (gm 160 (by decide +kernel) rfl)⟩
theorem lkF_X5_31 : FLk RX5 31 5 6 := ⟨RX5, TX5, 10, tyX5, clsX5, by decide, Or.inl (gm 161 (by decide +kernel) rfl)⟩
theorem lkF_X5_34 : FLk RX5 34 5 7 := ⟨RX5, TX5, 10, tyX5, clsX5, by decide, Or.inl (gm 162 (by decide +kernel) rfl)⟩
theorem lkF_X3_43 : FLk RX3 43 5 7 := ⟨RX5, TX5, 10, tyX5, clsX5, by decide, Or.inr ⟨"MovedMembers", nm_ 163 (by decide +kernel) rfl⟩⟩
theorem lkF_X6_71 : FLk RX6 71 5 7 := ⟨RX5, TX5, 10, tyX5, clsX5, by decide, Or.inr ⟨"MovedMembers", nm_ 164 (by decide +kernel) rfl⟩⟩
theorem lkF_X0_97 : FLk RX0 97 5 7 := ⟨RX5, TX5, 10, tyX5, clsX5, by decide, Or.inr ⟨"MovedMembers", nm_ 165 (by decide +kernel) rfl⟩⟩
theorem lkF_X5_38 : FLk RX5 38 5 8 := ⟨RX5, TX5, 10, tyX5, clsX5, by decide, Or.inl (gm 166 (by decide +kernel) rfl)⟩
theorem lkF_X6_196 : FLk RX6 196 5 8 := ⟨RX5, TX5, 10, tyX5, clsX5, by decide, Or.inr ⟨"MovedMembers", nm_ 167 (by decide +kernel) rfl⟩⟩
theorem lkF_X5_41 : FLk RX5 41 5 9 := ⟨RX5, TX5, 10, tyX5, clsX5, by decide, Or.inl (gm 168 (by decide +kernel) rfl)⟩
theorem lkF_X3_33 : FLk RX3 33 5 9 := ⟨RX5, TX5, 10, tyX5, clsX5, by decide, Or.inr ⟨"MovedMembers", nm_ 169 (by decide +kernel) rfl⟩⟩
theorem lkF_X0_87 : FLk RX0 87 5 9 := ⟨RX5, TX5, 10, tyX5, clsX5, by decide, Or.inr ⟨"MovedMembers", nm_ 170 (by decide +kernel) rfl⟩⟩
theorem lkF_X4_24 : FLk RX4 24 4 0 := ⟨RX4, TX4, 9, tyX4, clsX4, by decide, Or.inl (gm 199 (by decide +kernel) rfl)⟩
theorem lkF_X4_9 : FLk RX4 9 4 1 := ⟨RX4, TX4, 9, tyX4, clsX4, by decide, Or.inl (gm 200 (by decide +kernel) rfl)⟩
theorem lkF_X4_15 : FLk RX4 15 4 2 := ⟨RX4, TX4, 9, tyX4, clsX4, by decide, Or.inl (gm 201 (by decide +kernel) rfl)⟩
theorem lkF_X4_18 : FLk RX4 18 4 3 := ⟨RX4, TX4, 9, tyX4, clsX4, by decide, Or.inl (gm 202 (by decide +kernel) rfl)⟩
theorem lkF_X4_21 : FLk RX4 21 4 4 := ⟨RX4, TX4, 9, tyX4, clsX4, by decide, Or.inl (gm 203 (by decide +kernel) rfl)⟩
theorem lkF_X4_32 : FLk RX4 32 4 5 := ⟨RX4, TX4, 9, tyX4, clsX4, by decide, Or.inl (gm 204 (by decide +kernel) rfl)⟩
theorem lkF_X4_28 : FLk RX4 28 4 6 := ⟨RX4, TX4, 9, tyX4, clsX4, by decide, Or.inl (gm 205 (by decide +kernel) rfl)⟩
theorem lkF_X4_36 : FLk RX4 36 4 7 := ⟨RX4, TX4, 9, tyX4, clsX4, by decide, Or.inl (gm 206 (by decide +kernel) rfl)⟩
theorem lkF_X3_66 : FLk RX3 66 4 7 := ⟨RX4, TX4, 9, tyX4, clsX4, by decide, Or.inr ⟨"MovedMembers", nm_ 207 (by decide +kernel) rfl⟩⟩
theorem lkF_X4_39 : FLk RX4 39 4 8 := ⟨RX4, TX4, 9, tyX4, clsX4, by decide, Or.inl (gm 208 (by decide +kernel) rfl)⟩
theorem lkF_X3_69 : FLk RX3 69 4 8 := ⟨RX4, TX4, 9, tyX4, clsX4, by decide, Or.inr ⟨"MovedMembers", nm_ 209 (by decide +kernel) rfl⟩⟩
theorem lkF_X3_25 : FLk RX3 25 3 0 := ⟨RX3, TX3, 8, tyX3, clsX3, by decide, Or.inl (gm 235 (by decide +kernel) rfl)⟩
theorem lkF_X3_29 : FLk RX3 29 3 1 := ⟨RX3, TX3, 8, tyX3, clsX3, by decide, Or.inl (gm 236 (by decide +kernel) rfl)⟩
theorem lkF_X3_9 : FLk RX3 9 3 2 := ⟨RX3, TX3, 8, tyX3, clsX3, by decide, Or.inl (gm 237 (by decide +kernel) rfl)⟩
theorem lkF_X3_15 : FLk RX3 15 3 3 := ⟨RX3, TX3, 8, tyX3, clsX3, by decide, Or.inl (gm 238 (by decide +kernel) rfl)⟩
theorem lkF_X3_18 : FLk RX3 18 3 4 := ⟨RX3, TX3, 8, tyX3, clsX3, by decide, Or.inl (gm 239 (by decide +kernel) rfl)⟩
theorem lkF_X3_36 : FLk RX3 36 3 5 := ⟨RX3, TX3, 8, tyX3, clsX3, by decide, Or.inl (gm 240 (by decide +kernel) rfl)⟩
theorem lkF_X3_40 : FLk RX3 40 3 6 := ⟨RX3, TX3, 8, tyX3, clsX3, by decide, Or.inl (gm 241 (by decide +kernel) rfl)⟩
theorem lkF_X6_209 : FLk RX6 209 3 6 := ⟨RX3, TX3, 8, tyX3, clsX3, by decide, Or.inr ⟨"MovedMembers", nm_ 242 (by decide +kernel) rfl⟩⟩
theorem lkF_X3_21 : FLk RX3 21 3 7 := ⟨RX3, TX3, 8, tyX3, clsX3, by decide, Or.inl (gm 243 (by decide +kernel) rfl)⟩
theorem lkF_X0_37 : FLk RX0 37 0 0 := ⟨RX0, TX0, 14, tyX0, clsX0, by decide, Or.inl (gm 267 (by decide +kernel) rfl)⟩
theorem lkF_X0_41 : FLk RX0 41 0 1 := ⟨RX0, TX0, 14, tyX0, clsX0, by decide, Or.inl (gm 268 (by decide +kernel) rfl)⟩
theorem lkF_X0_45 : FLk RX0 45 0 2 := ⟨RX0, TX0, 14, tyX0, clsX0, by decide, Or.inl (gm 269 (by decide +kernel) rfl)⟩
theorem lkF_X0_11 : FLk RX0 11 0 3 := ⟨RX0, TX0, 14, tyX0, clsX0, by decide, Or.inl (gm 270 (by decide +kernel) rfl)⟩
theorem lkF_X0_15 : FLk RX0 15 0 4 := ⟨RX0, TX0, 14, tyX0, clsX0, by decide, Or.inl (gm 271 (by decide +kernel) rfl)⟩
theorem lkF_X0_18 : FLk RX0 18 0 5 := ⟨RX0, TX0, 14, tyX0, clsX0, by decide, Or.inl (gm 272 (by decide +kernel) rfl)⟩
theorem lkF_X0_21 : FLk RX0 21 0 6 := ⟨RX0, TX0, 14, tyX0, clsX0, by decide, Or.inl (gm 273 (by decide +kernel) rfl)⟩
theorem lkF_X6_171 : FLk RX6 171 0 6 := ⟨RX0, TX0, 14, tyX0, clsX0, by decide, Or.inr ⟨"MovedMembers", nm_ 274 (by decide +kernel) rfl⟩⟩
theorem lkF_X0_25 : FLk RX0 25 0 7 := ⟨RX0, TX0, 14, tyX0, clsX0, by decide, Or.inl (gm 275 (by decide +kernel) rfl)⟩
theorem lkF_X6_199 : FLk RX6 199 0 7 := ⟨RX0, TX0, 14, tyX0, clsX0, by decide, Or.inr ⟨"MovedMembers", nm_ 276 (by decide +kernel) rfl⟩⟩
theorem lkF_X0_28 : FLk RX0 28 0 8 := ⟨RX0, TX0, 14, tyX0, clsX0, by decide, Or.inl (gm 277 (by decide +kernel) rfl)⟩
theorem lkF_X6_202 : FLk RX6 202 0 8 := ⟨RX0, TX0, 14, tyX0, clsX0, by decide, Or.inr ⟨"MovedMembers", nm_ 278 (by decide +kernel) rfl⟩⟩
theorem lkF_X0_31 : FLk RX0 31 0 9 := ⟨RX0, TX0, 14, tyX0, clsX0, by decide, Or.inl (gm 279 (by decide +kernel) rfl)⟩
theorem lkF_X6_164 : FLk RX6 164 0 9 := ⟨RX0, TX0, 14, tyX0, clsX0, by decide, Or.inr ⟨"MovedMembers", nm_ 280 (by decide +kernel) rfl⟩⟩
theorem lkF_X0_88 : FLk RX0 88 0 10 := ⟨RX0, TX0, 14, tyX0, clsX0, by decide, Or.inl (gm 281 (by decide +kernel) rfl)⟩
theorem lkF_X6_178 : FLk RX6 178 0 10 := ⟨RX0, TX0, 14, tyX0, clsX0, by decide, Or.inr ⟨"MovedMembers", nm_ 282 (by decide +kernel) rfl⟩⟩
theorem lkF_X0_91 : FLk RX0 91 0 11 := ⟨RX0, TX0, 14, tyX0, clsX0, by decide, Or.inl (gm 283 (by decide +kernel) rfl)⟩
theorem lkF_X6_181 : FLk RX6 181 0 11 := ⟨RX0, TX0, 14, tyX0, clsX0, by decide, Or.inr ⟨"MovedMembers", nm_ 284 (by decide +kernel) rfl⟩⟩
theorem lkF_X0_94 : FLk RX0 94 0 12 := ⟨RX0, TX0, 14, tyX0, clsX0, by decide, Or.inl (gm 285 (by decide +kernel) rfl)⟩
theorem lkF_X6_184 : FLk RX6 184 0 12 := ⟨RX0, TX0, 14, tyX0, clsX0, by decide, Or.inr ⟨"MovedMembers", nm_ 286 (by decide +kernel) rfl⟩⟩
theorem lkF_X0_34 : FLk RX0 34 0 13 := ⟨RX0, TX0, 14, tyX0, clsX0, by decide, Or.inl (gm 287 (by decide +kernel) rfl)⟩
theorem lkF_X6_10 : FLk RX6 10 6 0 := ⟨RX6, TX6, 7, tyX6, clsX6, by decide, Or.inl (gm 317 (by decide +kernel) rfl)⟩
theorem lkF_X6_19 : FLk RX6 19 6 1 := ⟨RX6, TX6, 7, tyX6, clsX6, by decide, Or.inl (gm 318 (by decide +kernel) rfl)⟩
theorem lkF_X6_26 : FLk RX6 26 6 2 := ⟨RX6, TX6, 7, tyX6, clsX6, by decide, Or.inl (gm 319 (by decide +kernel) rfl)⟩
theorem lkF_X6_40 : FLk RX6 40 6 3 := ⟨RX6, TX6, 7, tyX6, clsX6, by decide, Or.inl (gm 320 (by decide +kernel) rfl)⟩
theorem lkF_X6_49 : FLk RX6 49 6 4 := ⟨RX6, TX6, 7, tyX6, clsX6, by decide, Or.inl (gm 321 (by decide +kernel) rfl)⟩
theorem lkF_X6_53 : FLk RX6 53 6 5 := ⟨RX6, TX6, 7, tyX6, clsX6, by decide, Or.inl (gm 322 (by decide +kernel) rfl)⟩
theorem lkF_X6_57 : FLk RX6 57 6 6 := ⟨RX6, TX6, 7, tyX6, clsX6, by decide, Or.inl (gm 323 (by decide +kernel) rfl)⟩
theorem lkF_X7_81 : FLk RX7 81 7 0 := ⟨RX7, TX7, 45, tyX7, clsX7, by decide, Or.inl (gm 799 (by decide +kernel) rfl)⟩
theorem lkF_X7_7 : FLk RX7 7 7 1 := ⟨RX7, TX7, 45, tyX7, clsX7, by decide, Or.inl (gm 800 (by decide +kernel) rfl)⟩
theorem lkF_X7_112 : FLk RX7 112 7 2 := ⟨RX7, TX7, 45, tyX7, clsX7, by decide, Or.inl (gm 801 (by decide +kernel) rfl)⟩
theorem lkF_X7_13 : FLk RX7 13 7 3 := ⟨RX7, TX7, 45, tyX7, clsX7, by decide, Or.inl (gm 802 (by decide +kernel) rfl)⟩
theorem lkF_X7_16 : FLk RX7 16 7 4 := ⟨RX7, TX7, 45, tyX7, clsX7, by decide, Or.inl (gm 803 (by decide +kernel) rfl)⟩
theorem lkF_X7_20 : FLk RX7 20 7 5 := ⟨RX7, TX7, 45, tyX7, clsX7, by decide, Or.inl (gm 804 (by decide +kernel) rfl)⟩
theorem lkF_X7_23 : FLk RX7 23 7 6 := ⟨RX7, TX7, 45, tyX7, clsX7, by decide, Or.inl (gm 805 (by decide +kernel) rfl)⟩
theorem lkF_X7_140 : FLk RX7 140 7 7 := ⟨RX7, TX7, 45, tyX7, clsX7, by decide, Or.inl (gm 806 (by decide +kernel) rfl)⟩
theorem lkF_X7_134 : FLk RX7 134 7 8 := ⟨RX7, TX7, 45, tyX7, clsX7, by decide, Or.inl (gm 807 (by decide +kernel) rfl)⟩
theorem lkF_X7_26 : FLk RX7 26 7 9 := ⟨RX7, TX7, 45, tyX7, clsX7, by decide, Or.inl (gm 808 (by decide +kernel) rfl)⟩
theorem lkF_X7_29 : FLk RX7 29 7 10 := ⟨RX7, TX7, 45, tyX7, clsX7, by decide, Or.inl (gm 809 (by decide +kernel) rfl)⟩
theorem lkF_X7_32 : FLk RX7 32 7 11 := ⟨RX7, TX7, 45, tyX7, clsX7, by decide, Or.inl (gm 810 (by decide +kernel) rfl)⟩
theorem lkF_X7_137 : FLk RX7 137 7 12 := ⟨RX7, TX7, 45, tyX7, clsX7, by decide, Or.inl (gm 811 (by decide +kernel) rfl)⟩
theorem lkF_X7_35 : FLk RX7 35 7 13 := ⟨RX7, TX7, 45, tyX7, clsX7, by decide, Or.inl (gm 812 (by decide +kernel) rfl)⟩
theorem lkF_X7_38 : FLk RX7 38 7 14 := ⟨RX7, TX7, 45, tyX7, clsX7, by decide, Or.inl (gm 813 (by decide +kernel) rfl)⟩
theorem lkF_X7_268 : FLk RX7 268 7 15 := ⟨RX7, TX7, 45, tyX7, clsX7, by decide, Or.inl (gm 814 (by decide +kernel) rfl)⟩
theorem lkF_X7_41 : FLk RX7 41 7 16 := ⟨RX7, TX7, 45, tyX7, clsX7, by decide, Or.inl (gm 815 (by decide +kernel) rfl)⟩
theorem lkF_X7_250 : FLk RX7 250 7 17 := ⟨RX7, TX7, 45, tyX7, clsX7, by decide, Or.inl (gm 816 (by decide +kernel) rfl)⟩
theorem lkF_X7_253 : FLk RX7 253 7 18 := ⟨RX7, TX7, 45, tyX7, clsX7, by decide, Or.inl (gm 817 (by decide +kernel) rfl)⟩
theorem lkF_X7_96 : FLk RX7 96 7 19 := ⟨RX7, TX7, 45, tyX7, clsX7, by decide, Or.inl (gm 818 (by decide +kernel) rfl)⟩
theorem lkF_X7_115 : FLk RX7 115 7 20 := ⟨RX7, TX7, 45, tyX7, clsX7, by decide, Or.inl (gm 819 (by decide +kernel) rfl)⟩
theorem lkF_X7_89 : FLk RX7 89 7 21 := ⟨RX7, TX7, 45, tyX7, clsX7, by decide, Or.inl (gm 820 (by decide +kernel) rfl)⟩
theorem lkF_X7_105 : FLk RX7 105 7 22 := ⟨RX7, TX7, 45, tyX7, clsX7, by decide, Or.inl (gm 821 (by decide +kernel) rfl)⟩
theorem lkF_X7_99 : FLk RX7 99 7 23 := ⟨RX7, TX7, 45, tyX7, clsX7, by decide, Or.inl (gm 822 (by decide +kernel) rfl)⟩
theorem lkF_X7_44 : FLk RX7 44 7 24 := ⟨RX7, TX7, 45, tyX7, clsX7, by decide, Or.inl (gm 823 (by decide +kernel) rfl)⟩
theorem lkF_X7_47 : FLk RX7 47 7 25 := ⟨RX7, TX7, 45, tyX7, clsX7, by decide, Or.inl (gm 824 (by decide +kernel) rfl)⟩
theorem lkF_X7_50 : FLk RX7 50 7 26 := ⟨RX7, TX7, 45, tyX7, clsX7, by decide, Or.inl (gm 825 (by decide +kernel) rfl)⟩
theorem lkF_X7_102 : FLk RX7 102 7 27 := ⟨RX7, TX7, 45, tyX7, clsX7, by decide, Or.inl (gm 826 (by decide +kernel) rfl)⟩
theorem lkF_X7_185 : FLk RX7 185 7 28 := ⟨RX7, TX7, 45, tyX7, clsX7, by decide, Or.inl (gm 827 (by decide +kernel) rfl)⟩
theorem lkF_X7_53 : FLk RX7 53 7 29 := ⟨RX7, TX7, 45, tyX7, clsX7, by decide, Or.inl (gm 828 (by decide +kernel) rfl)⟩
theorem lkF_X7_56 : FLk RX7 56 7 30 := ⟨RX7, TX7, 45, tyX7, clsX7, by decide, Or.inl (gm 829 (by decide +kernel) rfl)⟩
theorem lkF_X7_198 : FLk RX7 198 7 31 := ⟨RX7, TX7, 45, tyX7, clsX7, by decide, Or.inl (gm 830 (by decide +kernel) rfl)⟩
theorem lkF_X7_188 : FLk RX7 188 7 32 := ⟨RX7, TX7, 45, tyX7, clsX7, by decide, Or.inl (gm 831 (by decide +kernel) rfl)⟩
theorem lkF_X7_59 : FLk RX7 59 7 33 := ⟨RX7, TX7, 45, tyX7, clsX7, by decide, Or.inl (gm 832 (by decide +kernel) rfl)⟩
theorem lkF_X7_62 : FLk RX7 62 7 34 := ⟨RX7, TX7, 45, tyX7, clsX7, by decide, Or.inl (gm 833 (by decide +kernel) rfl)⟩
theorem lkF_X7_65 : FLk RX7 65 7 35 := ⟨RX7, TX7, 45, tyX7, clsX7, by decide, Or.inl (gm 834 (by decide +kernel) rfl)⟩
theorem lkF_X7_227 : FLk RX7 227 7 36 := ⟨RX7, TX7, 45, tyX7, clsX7, by decide, Or.inl (gm 835 (by decide +kernel) rfl)⟩
theorem lkF_X7_68 : FLk RX7 68 7 37 := ⟨RX7, TX7, 45, tyX7, clsX7, by decide, Or.inl (gm 836 (by decide +kernel) rfl)⟩
theorem lkF_X7_71 : FLk RX7 71 7 38 := ⟨RX7, TX7, 45, tyX7, clsX7, by decide, Or.inl (gm 837 (by decide +kernel) rfl)⟩
theorem lkF_X7_256 : FLk RX7 256 7 39 := ⟨RX7, TX7, 45, tyX7, clsX7, by decide, Or.inl (gm 838 (by decide +kernel) rfl)⟩
theorem lkF_X7_259 : FLk RX7 259 7 40 := ⟨RX7, TX7, 45, tyX7, clsX7, by decide, Or.inl (gm 839 (by decide +kernel) rfl)⟩
theorem lkF_X7_262 : FLk RX7 262 7 41 := ⟨RX7, TX7, 45, tyX7, clsX7, by decide, Or.inl (gm 840 (by decide +kernel) rfl)⟩
theorem lkF_X7_74 : FLk RX7 74 7 42 := ⟨RX7, TX7, 45, tyX7, clsX7, by decide, Or.inl (gm 841 (by decide +kernel) rfl)⟩
theorem lkF_X7_277 : FLk RX7 277 7 43 := ⟨RX7, TX7, 45, tyX7, clsX7, by decide, Or.inl (gm 842 (by decide +kernel) rfl)⟩
theorem lkF_X7_297 : FLk RX7 297 7 44 := ⟨RX7, TX7, 45, tyX7, clsX7, by decide, Or.inl (gm 843 (by decide +kernel) rfl)⟩
theorem lkM_L_13 : MLkV RL 13 mX6_letter 1 := ⟨⟨gm 342 (by decide +kernel) rfl, gm 78 (by decide +kernel) rfl, Or.inl (gm 339 (by decide +kernel) rfl), by decide +kernel, by decide +kernel, by decide +kernel⟩, gm 340 (by decide +kernel) rfl, gm 341 (by decide +kernel) rfl⟩
theorem lkM_X6_61 : MLkV RX6 61 mX1_append 1 := ⟨⟨gm 346 (by decide +kernel) rfl, gm 79 (by decide +kernel) rfl, Or.inl (gm 343 (by decide +kernel) rfl), by decide +kernel, by decide +kernel, by decide +kernel⟩, gm 344 (by decide +kernel) rfl, gm 345 (by decide +kernel) rfl⟩
theorem lkM_L_18 : MLkV RL 18 mX6_blank 0 := ⟨⟨gm 350 (by decide +kernel) rfl, gm 78 (by decide +kernel) rfl, Or.inl (gm 347 (by decide +kernel) rfl), by decide +kernel, by decide +kernel, by decide +kernel⟩, gm 348 (by decide +kernel) rfl, gm 349 (by decide +kernel) rfl⟩
theorem lkM_X6_68 : MLkV RX6 68 mX1_wipe 0 := ⟨⟨gm 354 (by decide +kernel) rfl, gm 79 (by decide +kernel) rfl, Or.inl (gm 351 (by decide +kernel) rfl), by decide +kernel, by decide +kernel, by decide +kernel⟩, gm 352 (by decide +kernel) rfl, gm 353 (by decide +kernel) rfl⟩
theorem lkM_L_23 : MLkV RL 23 mX6_fault 0 := ⟨⟨gm 358 (by decide +kernel) rfl, gm 78 (by decide +kernel) rfl, Or.inl (gm 355 (by decide +kernel) rfl), by decide +kernel, by decide +kernel, by decide +kernel⟩, gm 356 (by decide +kernel) rfl, gm 357 (by decide +kernel) rfl⟩
theorem lkM_X6_74 : MLkV RX6 74 mX2_read 2 := ⟨⟨gm 362 (by decide +kernel) rfl, gm 80 (by decide +kernel) rfl, Or.inl (gm 359 (by decide +kernel) rfl), by decide +kernel, by decide +kernel, by decide +kernel⟩, gm 360 (by decide +kernel) rfl, gm 361 (by decide +kernel) rfl⟩
theorem lkM_X2_21 : MLkV RX2 21 mX2_start 1 := ⟨⟨gm 366 (by decide +kernel) rfl, gm 80 (by decide +kernel) rfl, Or.inl (gm 363 (by decide +kernel) rfl), by decide +kernel, by decide +kernel, by decide +kernel⟩, gm 365 (by decide +kernel) rfl, gm 0 (by decide +kernel) rfl⟩
theorem lkM_X2_31 : MLkV RX2 31 mX1_codeAt 1 := ⟨⟨gm 370 (by decide +kernel) rfl, gm 79 (by decide +kernel) rfl, Or.inl (gm 367 (by decide +kernel) rfl), by decide +kernel, by decide +kernel, by decide +kernel⟩, gm 368 (by decide +kernel) rfl, gm 369 (by decide +kernel) rfl⟩
theorem lkM_X2_35 : MLkV RX2 35 mX2_take 1 := ⟨⟨gm 374 (by decide +kernel) rfl, gm 80 (by decide +kernel) rfl, Or.inl (gm 371 (by decide +kernel) rfl), by decide +kernel, by decide +kernel, by decide +kernel⟩, gm 373 (by decide +kernel) rfl, gm 1 (by decide +kernel) rfl⟩
theorem lkM_X2_65 : MLkV RX2 65 mX2_goOn 2 := ⟨⟨gm 378 (by decide +kernel) rfl, gm 80 (by decide +kernel) rfl, Or.inl (gm 375 (by decide +kernel) rfl), by decide +kernel, by decide +kernel, by decide +kernel⟩, gm 377 (by decide +kernel) rfl, gm 2 (by decide +kernel) rfl⟩
theorem lkM_X2_69 : MLkV RX2 69 mX2_takeMember 1 := ⟨⟨gm 382 (by decide +kernel) rfl, gm 80 (by decide +kernel) rfl, Or.inl (gm 379 (by decide +kernel) rfl), by decide +kernel, by decide +kernel, by decide +kernel⟩, gm 381 (by decide +kernel) rfl, gm 3 (by decide +kernel) rfl⟩
theorem lkM_X2_85 : MLkS RX2 85 mX2_memberOf 1 := ⟨⟨gm 385 (by decide +kernel) rfl, gm 80 (by decide +kernel) rfl, Or.inl (gm 383 (by decide +kernel) rfl), by decide +kernel, by decide +kernel, by decide +kernel⟩, gm 384 (by decide +kernel) rfl⟩
theorem lkM_X2_53 : MLkS RX2 53 mX6_isMember 1 := ⟨⟨gm 388 (by decide +kernel) rfl, gm 78 (by decide +kernel) rfl, Or.inr ⟨"MovedMembers", nm_ 386 (by decide +kernel) rfl⟩, by decide +kernel, by decide +kernel, by decide +kernel⟩, gm 387 (by decide +kernel) rfl⟩
theorem lkM_X2_88 : MLkS RX2 88 mX6_isMethod 1 := ⟨⟨gm 391 (by decide +kernel) rfl, gm 78 (by decide +kernel) rfl, Or.inr ⟨"MovedMembers", nm_ 389 (by decide +kernel) rfl⟩, by decide +kernel, by decide +kernel, by decide +kernel⟩, gm 390 (by decide +kernel) rfl⟩
theorem lkM_X2_72 : MLkV RX2 72 mX2_takeDash 0 := ⟨⟨gm 395 (by decide +kernel) rfl, gm 80 (by decide +kernel) rfl, Or.inl (gm 392 (by decide +kernel) rfl), by decide +kernel, by decide +kernel, by decide +kernel⟩, gm 394 (by decide +kernel) rfl, gm 4 (by decide +kernel) rfl⟩
theorem lkM_X2_91 : MLkV RX2 91 mX2_memberAt 1 := ⟨⟨gm 399 (by decide +kernel) rfl, gm 80 (by decide +kernel) rfl, Or.inl (gm 396 (by decide +kernel) rfl), by decide +kernel, by decide +kernel, by decide +kernel⟩, gm 397 (by decide +kernel) rfl, gm 398 (by decide +kernel) rfl⟩
theorem lkM_X2_76 : MLkV RX2 76 mX2_takeBehindDash 1 := ⟨⟨gm 403 (by decide +kernel) rfl, gm 80 (by decide +kernel) rfl, Or.inl (gm 400 (by decide +kernel) rfl), by decide +kernel, by decide +kernel, by decide +kernel⟩, gm 402 (by decide +kernel) rfl, gm 5 (by decide +kernel) rfl⟩
theorem lkM_X2_79 : MLkV RX2 79 mX2_takeItem 1 := ⟨⟨gm 407 (by decide +kernel) rfl, gm 80 (by decide +kernel) rfl, Or.inl (gm 404 (by decide +kernel) rfl), by decide +kernel, by decide +kernel, by decide +kernel⟩, gm 406 (by decide +kernel) rfl, gm 6 (by decide +kernel) rfl⟩
theorem lkM_X2_94 : MLkV RX2 94 mX2_itemCountOf 1 := ⟨⟨gm 411 (by decide +kernel) rfl, gm 80 (by decide +kernel) rfl, Or.inl (gm 408 (by decide +kernel) rfl), by decide +kernel, by decide +kernel, by decide +kernel⟩, gm 409 (by decide +kernel) rfl, gm 410 (by decide +kernel) rfl⟩
theorem lkM_X2_97 : MLkV RX2 97 mX2_addItem 1 := ⟨⟨gm 415 (by decide +kernel) rfl, gm 80 (by decide +kernel) rfl, Or.inl (gm 412 (by decide +kernel) rfl), by decide +kernel, by decide +kernel, by decide +kernel⟩, gm 414 (by decide +kernel) rfl, gm 7 (by decide +kernel) rfl⟩
theorem lkM_X2_82 : MLkV RX2 82 mX2_takeAsked 1 := ⟨⟨gm 419 (by decide +kernel) rfl, gm 80 (by decide +kernel) rfl, Or.inl (gm 416 (by decide +kernel) rfl), by decide +kernel, by decide +kernel, by decide +kernel⟩, gm 418 (by decide +kernel) rfl, gm 8 (by decide +kernel) rfl⟩
theorem lkM_L_27 : MLkV RL 27 mX6_type 0 := ⟨⟨gm 423 (by decide +kernel) rfl, gm 78 (by decide +kernel) rfl, Or.inl (gm 420 (by decide +kernel) rfl), by decide +kernel, by decide +kernel, by decide +kernel⟩, gm 421 (by decide +kernel) rfl, gm 422 (by decide +kernel) rfl⟩
theorem lkM_X6_78 : MLkV RX6 78 mX2_isWhole 0 := ⟨⟨gm 427 (by decide +kernel) rfl, gm 80 (by decide +kernel) rfl, Or.inl (gm 424 (by decide +kernel) rfl), by decide +kernel, by decide +kernel, by decide +kernel⟩, gm 425 (by decide +kernel) rfl, gm 426 (by decide +kernel) rfl⟩
theorem lkM_X6_82 : MLkV RX6 82 mX5_hasRoomFor 1 := ⟨⟨gm 431 (by decide +kernel) rfl, gm 81 (by decide +kernel) rfl, Or.inl (gm 428 (by decide +kernel) rfl), by decide +kernel, by decide +kernel, by decide +kernel⟩, gm 429 (by decide +kernel) rfl, gm 430 (by decide +kernel) rfl⟩
theorem lkM_X5_65 : MLkV RX5 65 mX2_methodCount 0 := ⟨⟨gm 435 (by decide +kernel) rfl, gm 80 (by decide +kernel) rfl, Or.inl (gm 432 (by decide +kernel) rfl), by decide +kernel, by decide +kernel, by decide +kernel⟩, gm 433 (by decide +kernel) rfl, gm 434 (by decide +kernel) rfl⟩
theorem lkM_X2_45 : MLkS RX2 45 mJ6_bitCount_0f7a4 1 := ⟨⟨gm 438 (by decide +kernel) rfl, gm 86 (by decide +kernel) rfl, Or.inl (gm 436 (by decide +kernel) rfl), by decide +kernel, by decide +kernel, by decide +kernel⟩, gm 437 (by decide +kernel) rfl⟩
theorem lkM_X6_86 : MLkV RX6 86 mX5_accept 1 := ⟨⟨gm 445 (by decide +kernel) rfl, gm 81 (by decide +kernel) rfl, Or.inl (gm 442 (by decide +kernel) rfl), by decide +kernel, by decide +kernel, by decide +kernel⟩, gm 443 (by decide +kernel) rfl, gm 444 (by decide +kernel) rfl⟩
theorem lkM_X5_74 : MLkV RX5 74 mX5_put 4 := ⟨⟨gm 449 (by decide +kernel) rfl, gm 81 (by decide +kernel) rfl, Or.inl (gm 446 (by decide +kernel) rfl), by decide +kernel, by decide +kernel, by decide +kernel⟩, gm 447 (by decide +kernel) rfl, gm 448 (by decide +kernel) rfl⟩
theorem lkM_X5_48 : MLkS RX5 48 mX6_isMember 1 := ⟨⟨gm 388 (by decide +kernel) rfl, gm 78 (by decide +kernel) rfl, Or.inr ⟨"MovedMembers", nm_ 450 (by decide +kernel) rfl⟩, by decide +kernel, by decide +kernel, by decide +kernel⟩, gm 387 (by decide +kernel) rfl⟩
theorem lkM_X5_81 : MLkV RX5 81 mX2_memberAt 1 := ⟨⟨gm 399 (by decide +kernel) rfl, gm 80 (by decide +kernel) rfl, Or.inl (gm 451 (by decide +kernel) rfl), by decide +kernel, by decide +kernel, by decide +kernel⟩, gm 397 (by decide +kernel) rfl, gm 398 (by decide +kernel) rfl⟩
theorem lkM_X5_86 : MLkS RX5 86 mX6_isMethod 1 := ⟨⟨gm 391 (by decide +kernel) rfl, gm 78 (by decide +kernel) rfl, Or.inr ⟨"MovedMembers", nm_ 452 (by decide +kernel) rfl⟩, by decide +kernel, by decide +kernel, by decide +kernel⟩, gm 390 (by decide +kernel) rfl⟩
theorem lkM_X5_89 : MLkV RX5 89 mX5_newBody 2 := ⟨⟨gm 456 (by decide +kernel) rfl, gm 81 (by decide +kernel) rfl, Or.inl (gm 453 (by decide +kernel) rfl), by decide +kernel, by decide +kernel, by decide +kernel⟩, gm 455 (by decide +kernel) rfl, gm 9 (by decide +kernel) rfl⟩
theorem lkM_X5_93 : MLkV RX5 93 mX2_itemCountOf 1 := ⟨⟨gm 411 (by decide +kernel) rfl, gm 80 (by decide +kernel) rfl, Or.inl (gm 457 (by decide +kernel) rfl), by decide +kernel, by decide +kernel, by decide +kernel⟩, gm 409 (by decide +kernel) rfl, gm 410 (by decide +kernel) rfl⟩
theorem lkM_X5_96 : MLkV RX5 96 mX2_itemAt 2 := ⟨⟨gm 461 (by decide +kernel) rfl, gm 80 (by decide +kernel) rfl, Or.inl (gm 458 (by decide +kernel) rfl), by decide +kernel, by decide +kernel, by decide +kernel⟩, gm 459 (by decide +kernel) rfl, gm 460 (by decide +kernel) rfl⟩
theorem lkM_X6_90 : MLkV RX6 90 mX0_forgetKept 0 := ⟨⟨gm 465 (by decide +kernel) rfl, gm 84 (by decide +kernel) rfl, Or.inl (gm 462 (by decide +kernel) rfl), by decide +kernel, by decide +kernel, by decide +kernel⟩, gm 463 (by decide +kernel) rfl, gm 464 (by decide +kernel) rfl⟩
theorem lkM_L_31 : MLkV RL 31 mX6_drop 0 := ⟨⟨gm 469 (by decide +kernel) rfl, gm 78 (by decide +kernel) rfl, Or.inl (gm 466 (by decide +kernel) rfl), by decide +kernel, by decide +kernel, by decide +kernel⟩, gm 467 (by decide +kernel) rfl, gm 468 (by decide +kernel) rfl⟩
theorem lkM_X6_93 : MLkV RX6 93 mX5_lastLiesElsewhere 0 := ⟨⟨gm 473 (by decide +kernel) rfl, gm 81 (by decide +kernel) rfl, Or.inl (gm 470 (by decide +kernel) rfl), by decide +kernel, by decide +kernel, by decide +kernel⟩, gm 471 (by decide +kernel) rfl, gm 472 (by decide +kernel) rfl⟩
theorem lkM_X5_44 : MLkV RX5 44 mX5_hasType 1 := ⟨⟨gm 477 (by decide +kernel) rfl, gm 81 (by decide +kernel) rfl, Or.inl (gm 474 (by decide +kernel) rfl), by decide +kernel, by decide +kernel, by decide +kernel⟩, gm 475 (by decide +kernel) rfl, gm 476 (by decide +kernel) rfl⟩
theorem lkM_X5_51 : MLkV RX5 51 mX5_heldBy 2 := ⟨⟨gm 481 (by decide +kernel) rfl, gm 81 (by decide +kernel) rfl, Or.inl (gm 478 (by decide +kernel) rfl), by decide +kernel, by decide +kernel, by decide +kernel⟩, gm 479 (by decide +kernel) rfl, gm 480 (by decide +kernel) rfl⟩
theorem lkM_X6_96 : MLkV RX6 96 mX5_removeLast 0 := ⟨⟨gm 485 (by decide +kernel) rfl, gm 81 (by decide +kernel) rfl, Or.inl (gm 482 (by decide +kernel) rfl), by decide +kernel, by decide +kernel, by decide +kernel⟩, gm 483 (by decide +kernel) rfl, gm 484 (by decide +kernel) rfl⟩
theorem lkM_L_35 : MLkV RL 35 mX6_hollow 2 := ⟨⟨gm 489 (by decide +kernel) rfl, gm 78 (by decide +kernel) rfl, Or.inl (gm 486 (by decide +kernel) rfl), by decide +kernel, by decide +kernel, by decide +kernel⟩, gm 487 (by decide +kernel) rfl, gm 488 (by decide +kernel) rfl⟩
theorem lkM_X6_99 : MLkV RX6 99 mX5_hasType 1 := ⟨⟨gm 477 (by decide +kernel) rfl, gm 81 (by decide +kernel) rfl, Or.inl (gm 490 (by decide +kernel) rfl), by decide +kernel, by decide +kernel, by decide +kernel⟩, gm 475 (by decide +kernel) rfl, gm 476 (by decide +kernel) rfl⟩
theorem lkM_X6_102 : MLkV RX6 102 mX5_isHollow 1 := ⟨⟨gm 494 (by decide +kernel) rfl, gm 81 (by decide +kernel) rfl, Or.inl (gm 491 (by decide +kernel) rfl), by decide +kernel, by decide +kernel, by decide +kernel⟩, gm 492 (by decide +kernel) rfl, gm 493 (by decide +kernel) rfl⟩
theorem lkM_X6_105 : MLkV RX6 105 mX5_makeHollow 2 := ⟨⟨gm 498 (by decide +kernel) rfl, gm 81 (by decide +kernel) rfl, Or.inl (gm 495 (by decide +kernel) rfl), by decide +kernel, by decide +kernel, by decide +kernel⟩, gm 496 (by decide +kernel) rfl, gm 497 (by decide +kernel) rfl⟩
theorem lkM_L_40 : MLkV RL 40 mX6_of 2 := ⟨⟨gm 502 (by decide +kernel) rfl, gm 78 (by decide +kernel) rfl, Or.inl (gm 499 (by decide +kernel) rfl), by decide +kernel, by decide +kernel, by decide +kernel⟩, gm 500 (by decide +kernel) rfl, gm 501 (by decide +kernel) rfl⟩
theorem lkM_X6_109 : MLkV RX6 109 mX5_parentOf 1 := ⟨⟨gm 506 (by decide +kernel) rfl, gm 81 (by decide +kernel) rfl, Or.inl (gm 503 (by decide +kernel) rfl), by decide +kernel, by decide +kernel, by decide +kernel⟩, gm 504 (by decide +kernel) rfl, gm 505 (by decide +kernel) rfl⟩
theorem lkM_X6_113 : MLkV RX6 113 mX5_heldBits 3 := ⟨⟨gm 510 (by decide +kernel) rfl, gm 81 (by decide +kernel) rfl, Or.inl (gm 507 (by decide +kernel) rfl), by decide +kernel, by decide +kernel, by decide +kernel⟩, gm 508 (by decide +kernel) rfl, gm 509 (by decide +kernel) rfl⟩
theorem lkM_X6_117 : MLkV RX6 117 mX5_hiddenOf 1 := ⟨⟨gm 514 (by decide +kernel) rfl, gm 81 (by decide +kernel) rfl, Or.inl (gm 511 (by decide +kernel) rfl), by decide +kernel, by decide +kernel, by decide +kernel⟩, gm 512 (by decide +kernel) rfl, gm 513 (by decide +kernel) rfl⟩
theorem lkM_X6_120 : MLkV RX6 120 mX5_answerBits 1 := ⟨⟨gm 518 (by decide +kernel) rfl, gm 81 (by decide +kernel) rfl, Or.inl (gm 515 (by decide +kernel) rfl), by decide +kernel, by decide +kernel, by decide +kernel⟩, gm 516 (by decide +kernel) rfl, gm 517 (by decide +kernel) rfl⟩
theorem lkM_X5_59 : MLkV RX5 59 mX5_nearest 2 := ⟨⟨gm 522 (by decide +kernel) rfl, gm 81 (by decide +kernel) rfl, Or.inl (gm 519 (by decide +kernel) rfl), by decide +kernel, by decide +kernel, by decide +kernel⟩, gm 520 (by decide +kernel) rfl, gm 521 (by decide +kernel) rfl⟩
theorem lkM_X6_123 : MLkV RX6 123 mX5_childBits 1 := ⟨⟨gm 526 (by decide +kernel) rfl, gm 81 (by decide +kernel) rfl, Or.inl (gm 523 (by decide +kernel) rfl), by decide +kernel, by decide +kernel, by decide +kernel⟩, gm 524 (by decide +kernel) rfl, gm 525 (by decide +kernel) rfl⟩
theorem lkM_X5_55 : MLkV RX5 55 mX5_parentOf 1 := ⟨⟨gm 506 (by decide +kernel) rfl, gm 81 (by decide +kernel) rfl, Or.inl (gm 527 (by decide +kernel) rfl), by decide +kernel, by decide +kernel, by decide +kernel⟩, gm 504 (by decide +kernel) rfl, gm 505 (by decide +kernel) rfl⟩
theorem lkM_L_45 : MLkV RL 45 mX6_has 2 := ⟨⟨gm 531 (by decide +kernel) rfl, gm 78 (by decide +kernel) rfl, Or.inl (gm 528 (by decide +kernel) rfl), by decide +kernel, by decide +kernel, by decide +kernel⟩, gm 529 (by decide +kernel) rfl, gm 530 (by decide +kernel) rfl⟩
theorem lkM_X6_126 : MLkS RX6 126 mX6_isMember 1 := ⟨⟨gm 388 (by decide +kernel) rfl, gm 78 (by decide +kernel) rfl, Or.inl (gm 532 (by decide +kernel) rfl), by decide +kernel, by decide +kernel, by decide +kernel⟩, gm 387 (by decide +kernel) rfl⟩
theorem lkM_X6_129 : MLkV RX6 129 mX5_heldBy 2 := ⟨⟨gm 481 (by decide +kernel) rfl, gm 81 (by decide +kernel) rfl, Or.inl (gm 533 (by decide +kernel) rfl), by decide +kernel, by decide +kernel, by decide +kernel⟩, gm 479 (by decide +kernel) rfl, gm 480 (by decide +kernel) rfl⟩
theorem lkM_L_49 : MLkV RL 49 mX6_answer 3 := ⟨⟨gm 537 (by decide +kernel) rfl, gm 78 (by decide +kernel) rfl, Or.inl (gm 534 (by decide +kernel) rfl), by decide +kernel, by decide +kernel, by decide +kernel⟩, gm 535 (by decide +kernel) rfl, gm 536 (by decide +kernel) rfl⟩
theorem lkM_X6_133 : MLkS RX6 133 mX6_isMethod 1 := ⟨⟨gm 391 (by decide +kernel) rfl, gm 78 (by decide +kernel) rfl, Or.inl (gm 538 (by decide +kernel) rfl), by decide +kernel, by decide +kernel, by decide +kernel⟩, gm 390 (by decide +kernel) rfl⟩
theorem lkM_X6_136 : MLkV RX6 136 mX5_nearest 2 := ⟨⟨gm 522 (by decide +kernel) rfl, gm 81 (by decide +kernel) rfl, Or.inl (gm 539 (by decide +kernel) rfl), by decide +kernel, by decide +kernel, by decide +kernel⟩, gm 520 (by decide +kernel) rfl, gm 521 (by decide +kernel) rfl⟩
theorem lkM_L_54 : MLkV RL 54 mX6_body 2 := ⟨⟨gm 543 (by decide +kernel) rfl, gm 78 (by decide +kernel) rfl, Or.inl (gm 540 (by decide +kernel) rfl), by decide +kernel, by decide +kernel, by decide +kernel⟩, gm 541 (by decide +kernel) rfl, gm 542 (by decide +kernel) rfl⟩
theorem lkM_X6_139 : MLkV RX6 139 mX5_hasBody 1 := ⟨⟨gm 547 (by decide +kernel) rfl, gm 81 (by decide +kernel) rfl, Or.inl (gm 544 (by decide +kernel) rfl), by decide +kernel, by decide +kernel, by decide +kernel⟩, gm 545 (by decide +kernel) rfl, gm 546 (by decide +kernel) rfl⟩
theorem lkM_X6_142 : MLkV RX6 142 mX5_itemCountOf 1 := ⟨⟨gm 551 (by decide +kernel) rfl, gm 81 (by decide +kernel) rfl, Or.inl (gm 548 (by decide +kernel) rfl), by decide +kernel, by decide +kernel, by decide +kernel⟩, gm 549 (by decide +kernel) rfl, gm 550 (by decide +kernel) rfl⟩
theorem lkM_X5_62 : MLkV RX5 62 mX5_hasBody 1 := ⟨⟨gm 547 (by decide +kernel) rfl, gm 81 (by decide +kernel) rfl, Or.inl (gm 552 (by decide +kernel) rfl), by decide +kernel, by decide +kernel, by decide +kernel⟩, gm 545 (by decide +kernel) rfl, gm 546 (by decide +kernel) rfl⟩
theorem lkM_X6_145 : MLkV RX6 145 mX5_itemAt 2 := ⟨⟨gm 556 (by decide +kernel) rfl, gm 81 (by decide +kernel) rfl, Or.inl (gm 553 (by decide +kernel) rfl), by decide +kernel, by decide +kernel, by decide +kernel⟩, gm 554 (by decide +kernel) rfl, gm 555 (by decide +kernel) rfl⟩
theorem lkM_L_58 : MLkV RL 58 mX6_trace 3 := ⟨⟨gm 560 (by decide +kernel) rfl, gm 78 (by decide +kernel) rfl, Or.inl (gm 557 (by decide +kernel) rfl), by decide +kernel, by decide +kernel, by decide +kernel⟩, gm 558 (by decide +kernel) rfl, gm 559 (by decide +kernel) rfl⟩
theorem lkM_X6_148 : MLkV RX6 148 mX3_refresh 0 := ⟨⟨gm 564 (by decide +kernel) rfl, gm 83 (by decide +kernel) rfl, Or.inl (gm 561 (by decide +kernel) rfl), by decide +kernel, by decide +kernel, by decide +kernel⟩, gm 562 (by decide +kernel) rfl, gm 563 (by decide +kernel) rfl⟩
theorem lkM_X3_46 : MLkV RX3 46 mX4_run 2 := ⟨⟨gm 568 (by decide +kernel) rfl, gm 82 (by decide +kernel) rfl, Or.inl (gm 565 (by decide +kernel) rfl), by decide +kernel, by decide +kernel, by decide +kernel⟩, gm 566 (by decide +kernel) rfl, gm 567 (by decide +kernel) rfl⟩
theorem lkM_X4_42 : MLkV RX4 42 mX5_nearest 2 := ⟨⟨gm 522 (by decide +kernel) rfl, gm 81 (by decide +kernel) rfl, Or.inl (gm 569 (by decide +kernel) rfl), by decide +kernel, by decide +kernel, by decide +kernel⟩, gm 520 (by decide +kernel) rfl, gm 521 (by decide +kernel) rfl⟩
theorem lkM_X4_48 : MLkV RX4 48 mX4_meet 2 := ⟨⟨gm 573 (by decide +kernel) rfl, gm 82 (by decide +kernel) rfl, Or.inl (gm 570 (by decide +kernel) rfl), by decide +kernel, by decide +kernel, by decide +kernel⟩, gm 572 (by decide +kernel) rfl, gm 10 (by decide +kernel) rfl⟩
theorem lkM_X4_80 : MLkV RX4 80 mX5_heldBy 2 := ⟨⟨gm 481 (by decide +kernel) rfl, gm 81 (by decide +kernel) rfl, Or.inl (gm 574 (by decide +kernel) rfl), by decide +kernel, by decide +kernel, by decide +kernel⟩, gm 479 (by decide +kernel) rfl, gm 480 (by decide +kernel) rfl⟩
theorem lkM_X4_83 : MLkV RX4 83 mX4_note 2 := ⟨⟨gm 578 (by decide +kernel) rfl, gm 82 (by decide +kernel) rfl, Or.inl (gm 575 (by decide +kernel) rfl), by decide +kernel, by decide +kernel, by decide +kernel⟩, gm 577 (by decide +kernel) rfl, gm 11 (by decide +kernel) rfl⟩
theorem lkM_X4_86 : MLkV RX4 86 mX4_enter 2 := ⟨⟨gm 582 (by decide +kernel) rfl, gm 82 (by decide +kernel) rfl, Or.inl (gm 579 (by decide +kernel) rfl), by decide +kernel, by decide +kernel, by decide +kernel⟩, gm 581 (by decide +kernel) rfl, gm 12 (by decide +kernel) rfl⟩
theorem lkM_X4_52 : MLkV RX4 52 mX4_nextItem 0 := ⟨⟨gm 586 (by decide +kernel) rfl, gm 82 (by decide +kernel) rfl, Or.inl (gm 583 (by decide +kernel) rfl), by decide +kernel, by decide +kernel, by decide +kernel⟩, gm 585 (by decide +kernel) rfl, gm 13 (by decide +kernel) rfl⟩
theorem lkM_X4_66 : MLkV RX4 66 mX5_itemAt 2 := ⟨⟨gm 556 (by decide +kernel) rfl, gm 81 (by decide +kernel) rfl, Or.inl (gm 587 (by decide +kernel) rfl), by decide +kernel, by decide +kernel, by decide +kernel⟩, gm 554 (by decide +kernel) rfl, gm 555 (by decide +kernel) rfl⟩
theorem lkM_X4_56 : MLkV RX4 56 mX4_leave 0 := ⟨⟨gm 591 (by decide +kernel) rfl, gm 82 (by decide +kernel) rfl, Or.inl (gm 588 (by decide +kernel) rfl), by decide +kernel, by decide +kernel, by decide +kernel⟩, gm 590 (by decide +kernel) rfl, gm 14 (by decide +kernel) rfl⟩
theorem lkM_X4_59 : MLkV RX4 59 mX4_use 1 := ⟨⟨gm 596 (by decide +kernel) rfl, gm 82 (by decide +kernel) rfl, Or.inl (gm 593 (by decide +kernel) rfl), by decide +kernel, by decide +kernel, by decide +kernel⟩, gm 595 (by decide +kernel) rfl, gm 15 (by decide +kernel) rfl⟩
theorem lkM_X4_69 : MLkV RX4 69 mX4_openHome 0 := ⟨⟨gm 600 (by decide +kernel) rfl, gm 82 (by decide +kernel) rfl, Or.inl (gm 597 (by decide +kernel) rfl), by decide +kernel, by decide +kernel, by decide +kernel⟩, gm 599 (by decide +kernel) rfl, gm 16 (by decide +kernel) rfl⟩
theorem lkM_X4_63 : MLkV RX4 63 mX4_homeFor 2 := ⟨⟨gm 604 (by decide +kernel) rfl, gm 82 (by decide +kernel) rfl, Or.inl (gm 601 (by decide +kernel) rfl), by decide +kernel, by decide +kernel, by decide +kernel⟩, gm 603 (by decide +kernel) rfl, gm 17 (by decide +kernel) rfl⟩
theorem lkM_X4_72 : MLkV RX4 72 mX5_parentOf 1 := ⟨⟨gm 506 (by decide +kernel) rfl, gm 81 (by decide +kernel) rfl, Or.inl (gm 605 (by decide +kernel) rfl), by decide +kernel, by decide +kernel, by decide +kernel⟩, gm 504 (by decide +kernel) rfl, gm 505 (by decide +kernel) rfl⟩
theorem lkM_X4_76 : MLkV RX4 76 mX5_hides 2 := ⟨⟨gm 609 (by decide +kernel) rfl, gm 81 (by decide +kernel) rfl, Or.inl (gm 606 (by decide +kernel) rfl), by decide +kernel, by decide +kernel, by decide +kernel⟩, gm 607 (by decide +kernel) rfl, gm 608 (by decide +kernel) rfl⟩
theorem lkM_X3_52 : MLkV RX3 52 mX3_store 2 := ⟨⟨gm 613 (by decide +kernel) rfl, gm 83 (by decide +kernel) rfl, Or.inl (gm 610 (by decide +kernel) rfl), by decide +kernel, by decide +kernel, by decide +kernel⟩, gm 612 (by decide +kernel) rfl, gm 18 (by decide +kernel) rfl⟩
theorem lkM_X3_62 : MLkS RX3 62 mX3_rowOf 2 := ⟨⟨gm 616 (by decide +kernel) rfl, gm 83 (by decide +kernel) rfl, Or.inl (gm 614 (by decide +kernel) rfl), by decide +kernel, by decide +kernel, by decide +kernel⟩, gm 615 (by decide +kernel) rfl⟩
theorem lkM_X3_72 : MLkV RX3 72 mX4_eventAt 1 := ⟨⟨gm 620 (by decide +kernel) rfl, gm 82 (by decide +kernel) rfl, Or.inl (gm 617 (by decide +kernel) rfl), by decide +kernel, by decide +kernel, by decide +kernel⟩, gm 618 (by decide +kernel) rfl, gm 619 (by decide +kernel) rfl⟩
theorem lkM_X3_55 : MLkV RX3 55 mX5_isHollow 1 := ⟨⟨gm 494 (by decide +kernel) rfl, gm 81 (by decide +kernel) rfl, Or.inl (gm 621 (by decide +kernel) rfl), by decide +kernel, by decide +kernel, by decide +kernel⟩, gm 492 (by decide +kernel) rfl, gm 493 (by decide +kernel) rfl⟩
theorem lkM_X3_59 : MLkV RX3 59 mX3_addUp 0 := ⟨⟨gm 625 (by decide +kernel) rfl, gm 83 (by decide +kernel) rfl, Or.inl (gm 622 (by decide +kernel) rfl), by decide +kernel, by decide +kernel, by decide +kernel⟩, gm 624 (by decide +kernel) rfl, gm 19 (by decide +kernel) rfl⟩
theorem lkM_X6_151 : MLkV RX6 151 mX3_sizeOf 2 := ⟨⟨gm 629 (by decide +kernel) rfl, gm 83 (by decide +kernel) rfl, Or.inl (gm 626 (by decide +kernel) rfl), by decide +kernel, by decide +kernel, by decide +kernel⟩, gm 627 (by decide +kernel) rfl, gm 628 (by decide +kernel) rfl⟩
theorem lkM_X6_154 : MLkV RX6 154 mX3_depthOf 2 := ⟨⟨gm 633 (by decide +kernel) rfl, gm 83 (by decide +kernel) rfl, Or.inl (gm 630 (by decide +kernel) rfl), by decide +kernel, by decide +kernel, by decide +kernel⟩, gm 631 (by decide +kernel) rfl, gm 632 (by decide +kernel) rfl⟩
theorem lkM_L_62 : MLkV RL 62 mX6_event 4 := ⟨⟨gm 637 (by decide +kernel) rfl, gm 78 (by decide +kernel) rfl, Or.inl (gm 634 (by decide +kernel) rfl), by decide +kernel, by decide +kernel, by decide +kernel⟩, gm 635 (by decide +kernel) rfl, gm 636 (by decide +kernel) rfl⟩
theorem lkM_X6_157 : MLkV RX6 157 mX3_eventAt 3 := ⟨⟨gm 641 (by decide +kernel) rfl, gm 83 (by decide +kernel) rfl, Or.inl (gm 638 (by decide +kernel) rfl), by decide +kernel, by decide +kernel, by decide +kernel⟩, gm 639 (by decide +kernel) rfl, gm 640 (by decide +kernel) rfl⟩
theorem lkM_L_67 : MLkV RL 67 mX6_why 3 := ⟨⟨gm 645 (by decide +kernel) rfl, gm 78 (by decide +kernel) rfl, Or.inl (gm 642 (by decide +kernel) rfl), by decide +kernel, by decide +kernel, by decide +kernel⟩, gm 643 (by decide +kernel) rfl, gm 644 (by decide +kernel) rfl⟩
theorem lkM_X6_160 : MLkV RX6 160 mX0_reason 3 := ⟨⟨gm 649 (by decide +kernel) rfl, gm 84 (by decide +kernel) rfl, Or.inl (gm 646 (by decide +kernel) rfl), by decide +kernel, by decide +kernel, by decide +kernel⟩, gm 647 (by decide +kernel) rfl, gm 648 (by decide +kernel) rfl⟩
theorem lkM_X0_49 : MLkV RX0 49 mX5_heldBy 2 := ⟨⟨gm 481 (by decide +kernel) rfl, gm 81 (by decide +kernel) rfl, Or.inl (gm 650 (by decide +kernel) rfl), by decide +kernel, by decide +kernel, by decide +kernel⟩, gm 479 (by decide +kernel) rfl, gm 480 (by decide +kernel) rfl⟩
theorem lkM_X0_55 : MLkV RX0 55 mX5_childBits 1 := ⟨⟨gm 526 (by decide +kernel) rfl, gm 81 (by decide +kernel) rfl, Or.inl (gm 651 (by decide +kernel) rfl), by decide +kernel, by decide +kernel, by decide +kernel⟩, gm 524 (by decide +kernel) rfl, gm 525 (by decide +kernel) rfl⟩
theorem lkM_X0_59 : MLkV RX0 59 mX5_parentOf 1 := ⟨⟨gm 506 (by decide +kernel) rfl, gm 81 (by decide +kernel) rfl, Or.inl (gm 652 (by decide +kernel) rfl), by decide +kernel, by decide +kernel, by decide +kernel⟩, gm 504 (by decide +kernel) rfl, gm 505 (by decide +kernel) rfl⟩
theorem lkM_X0_62 : MLkV RX0 62 mX0_someLack 2 := ⟨⟨gm 656 (by decide +kernel) rfl, gm 84 (by decide +kernel) rfl, Or.inl (gm 653 (by decide +kernel) rfl), by decide +kernel, by decide +kernel, by decide +kernel⟩, gm 655 (by decide +kernel) rfl, gm 20 (by decide +kernel) rfl⟩
theorem lkM_X0_66 : MLkV RX0 66 mX3_refresh 0 := ⟨⟨gm 564 (by decide +kernel) rfl, gm 83 (by decide +kernel) rfl, Or.inl (gm 657 (by decide +kernel) rfl), by decide +kernel, by decide +kernel, by decide +kernel⟩, gm 562 (by decide +kernel) rfl, gm 563 (by decide +kernel) rfl⟩
theorem lkM_X0_71 : MLkV RX0 71 mX0_save 2 := ⟨⟨gm 661 (by decide +kernel) rfl, gm 84 (by decide +kernel) rfl, Or.inl (gm 658 (by decide +kernel) rfl), by decide +kernel, by decide +kernel, by decide +kernel⟩, gm 660 (by decide +kernel) rfl, gm 21 (by decide +kernel) rfl⟩
theorem lkM_X0_104 : MLkV RX0 104 mX5_hides 2 := ⟨⟨gm 609 (by decide +kernel) rfl, gm 81 (by decide +kernel) rfl, Or.inl (gm 662 (by decide +kernel) rfl), by decide +kernel, by decide +kernel, by decide +kernel⟩, gm 607 (by decide +kernel) rfl, gm 608 (by decide +kernel) rfl⟩
theorem lkM_X0_75 : MLkV RX0 75 mX0_shift 3 := ⟨⟨gm 666 (by decide +kernel) rfl, gm 84 (by decide +kernel) rfl, Or.inl (gm 663 (by decide +kernel) rfl), by decide +kernel, by decide +kernel, by decide +kernel⟩, gm 665 (by decide +kernel) rfl, gm 22 (by decide +kernel) rfl⟩
theorem lkM_X0_107 : MLkV RX0 107 mX0_shiftUp 4 := ⟨⟨gm 670 (by decide +kernel) rfl, gm 84 (by decide +kernel) rfl, Or.inl (gm 667 (by decide +kernel) rfl), by decide +kernel, by decide +kernel, by decide +kernel⟩, gm 669 (by decide +kernel) rfl, gm 23 (by decide +kernel) rfl⟩
theorem lkM_X0_114 : MLkV RX0 114 mX5_put 4 := ⟨⟨gm 449 (by decide +kernel) rfl, gm 81 (by decide +kernel) rfl, Or.inl (gm 671 (by decide +kernel) rfl), by decide +kernel, by decide +kernel, by decide +kernel⟩, gm 447 (by decide +kernel) rfl, gm 448 (by decide +kernel) rfl⟩
theorem lkM_X0_111 : MLkV RX0 111 mX0_shiftDown 4 := ⟨⟨gm 675 (by decide +kernel) rfl, gm 84 (by decide +kernel) rfl, Or.inl (gm 672 (by decide +kernel) rfl), by decide +kernel, by decide +kernel, by decide +kernel⟩, gm 674 (by decide +kernel) rfl, gm 24 (by decide +kernel) rfl⟩
theorem lkM_X0_79 : MLkV RX0 79 mX0_firstChange 0 := ⟨⟨gm 679 (by decide +kernel) rfl, gm 84 (by decide +kernel) rfl, Or.inl (gm 676 (by decide +kernel) rfl), by decide +kernel, by decide +kernel, by decide +kernel⟩, gm 678 (by decide +kernel) rfl, gm 25 (by decide +kernel) rfl⟩
theorem lkM_X0_117 : MLkV RX0 117 mX5_isHollow 1 := ⟨⟨gm 494 (by decide +kernel) rfl, gm 81 (by decide +kernel) rfl, Or.inl (gm 680 (by decide +kernel) rfl), by decide +kernel, by decide +kernel, by decide +kernel⟩, gm 492 (by decide +kernel) rfl, gm 493 (by decide +kernel) rfl⟩
theorem lkM_X0_121 : MLkV RX0 121 mX3_sizeOf 2 := ⟨⟨gm 629 (by decide +kernel) rfl, gm 83 (by decide +kernel) rfl, Or.inl (gm 681 (by decide +kernel) rfl), by decide +kernel, by decide +kernel, by decide +kernel⟩, gm 627 (by decide +kernel) rfl, gm 628 (by decide +kernel) rfl⟩
theorem lkM_X0_124 : MLkV RX0 124 mX4_run 2 := ⟨⟨gm 568 (by decide +kernel) rfl, gm 82 (by decide +kernel) rfl, Or.inl (gm 682 (by decide +kernel) rfl), by decide +kernel, by decide +kernel, by decide +kernel⟩, gm 566 (by decide +kernel) rfl, gm 567 (by decide +kernel) rfl⟩
theorem lkM_X0_129 : MLkV RX0 129 mX3_isAsTraced 2 := ⟨⟨gm 686 (by decide +kernel) rfl, gm 83 (by decide +kernel) rfl, Or.inl (gm 683 (by decide +kernel) rfl), by decide +kernel, by decide +kernel, by decide +kernel⟩, gm 684 (by decide +kernel) rfl, gm 685 (by decide +kernel) rfl⟩
theorem lkM_X3_82 : MLkV RX3 82 mX3_sizeOf 2 := ⟨⟨gm 629 (by decide +kernel) rfl, gm 83 (by decide +kernel) rfl, Or.inl (gm 687 (by decide +kernel) rfl), by decide +kernel, by decide +kernel, by decide +kernel⟩, gm 627 (by decide +kernel) rfl, gm 628 (by decide +kernel) rfl⟩
theorem lkM_X3_85 : MLkV RX3 85 mX3_eventAt 3 := ⟨⟨gm 641 (by decide +kernel) rfl, gm 83 (by decide +kernel) rfl, Or.inl (gm 688 (by decide +kernel) rfl), by decide +kernel, by decide +kernel, by decide +kernel⟩, gm 639 (by decide +kernel) rfl, gm 640 (by decide +kernel) rfl⟩
theorem lkM_X0_83 : MLkV RX0 83 mX0_restore 1 := ⟨⟨gm 692 (by decide +kernel) rfl, gm 84 (by decide +kernel) rfl, Or.inl (gm 689 (by decide +kernel) rfl), by decide +kernel, by decide +kernel, by decide +kernel⟩, gm 691 (by decide +kernel) rfl, gm 26 (by decide +kernel) rfl⟩
theorem lkM_L_72 : MLkV RL 72 mX6_where 3 := ⟨⟨gm 696 (by decide +kernel) rfl, gm 78 (by decide +kernel) rfl, Or.inl (gm 693 (by decide +kernel) rfl), by decide +kernel, by decide +kernel, by decide +kernel⟩, gm 694 (by decide +kernel) rfl, gm 695 (by decide +kernel) rfl⟩
theorem lkM_L_76 : MLkV RL 76 mX6_move 3 := ⟨⟨gm 700 (by decide +kernel) rfl, gm 78 (by decide +kernel) rfl, Or.inl (gm 697 (by decide +kernel) rfl), by decide +kernel, by decide +kernel, by decide +kernel⟩, gm 698 (by decide +kernel) rfl, gm 699 (by decide +kernel) rfl⟩
theorem lkM_X6_167 : MLkV RX6 167 mX0_keep 3 := ⟨⟨gm 704 (by decide +kernel) rfl, gm 84 (by decide +kernel) rfl, Or.inl (gm 701 (by decide +kernel) rfl), by decide +kernel, by decide +kernel, by decide +kernel⟩, gm 702 (by decide +kernel) rfl, gm 703 (by decide +kernel) rfl⟩
theorem lkM_L_80 : MLkV RL 80 mX6_undo 0 := ⟨⟨gm 708 (by decide +kernel) rfl, gm 78 (by decide +kernel) rfl, Or.inl (gm 705 (by decide +kernel) rfl), by decide +kernel, by decide +kernel, by decide +kernel⟩, gm 706 (by decide +kernel) rfl, gm 707 (by decide +kernel) rfl⟩
theorem lkM_X6_174 : MLkV RX6 174 mX0_takeBack 0 := ⟨⟨gm 712 (by decide +kernel) rfl, gm 84 (by decide +kernel) rfl, Or.inl (gm 709 (by decide +kernel) rfl), by decide +kernel, by decide +kernel, by decide +kernel⟩, gm 710 (by decide +kernel) rfl, gm 711 (by decide +kernel) rfl⟩
theorem lkM_L_84 : MLkV RL 84 mX6_moves 1 := ⟨⟨gm 716 (by decide +kernel) rfl, gm 78 (by decide +kernel) rfl, Or.inl (gm 713 (by decide +kernel) rfl), by decide +kernel, by decide +kernel, by decide +kernel⟩, gm 714 (by decide +kernel) rfl, gm 715 (by decide +kernel) rfl⟩
theorem lkM_X6_177 : MLkV RX6 177 mX0_refresh 0 := ⟨⟨gm 720 (by decide +kernel) rfl, gm 84 (by decide +kernel) rfl, Or.inl (gm 717 (by decide +kernel) rfl), by decide +kernel, by decide +kernel, by decide +kernel⟩, gm 718 (by decide +kernel) rfl, gm 719 (by decide +kernel) rfl⟩
theorem lkM_X0_100 : MLkV RX0 100 mX0_reason 3 := ⟨⟨gm 649 (by decide +kernel) rfl, gm 84 (by decide +kernel) rfl, Or.inl (gm 721 (by decide +kernel) rfl), by decide +kernel, by decide +kernel, by decide +kernel⟩, gm 647 (by decide +kernel) rfl, gm 648 (by decide +kernel) rfl⟩
theorem lkM_L_88 : MLkV RL 88 mX6_contract 1 := ⟨⟨gm 725 (by decide +kernel) rfl, gm 78 (by decide +kernel) rfl, Or.inl (gm 722 (by decide +kernel) rfl), by decide +kernel, by decide +kernel, by decide +kernel⟩, gm 723 (by decide +kernel) rfl, gm 724 (by decide +kernel) rfl⟩
theorem lkM_L_92 : MLkV RL 92 mX6_fit 2 := ⟨⟨gm 729 (by decide +kernel) rfl, gm 78 (by decide +kernel) rfl, Or.inl (gm 726 (by decide +kernel) rfl), by decide +kernel, by decide +kernel, by decide +kernel⟩, gm 727 (by decide +kernel) rfl, gm 728 (by decide +kernel) rfl⟩
theorem lkM_X6_187 : MLkV RX6 187 mX6_typesThatFit 1 := ⟨⟨gm 733 (by decide +kernel) rfl, gm 78 (by decide +kernel) rfl, Or.inl (gm 730 (by decide +kernel) rfl), by decide +kernel, by decide +kernel, by decide +kernel⟩, gm 732 (by decide +kernel) rfl, gm 27 (by decide +kernel) rfl⟩
theorem lkM_X6_190 : MLkV RX6 190 mX6_nearestMisfit 1 := ⟨⟨gm 737 (by decide +kernel) rfl, gm 78 (by decide +kernel) rfl, Or.inl (gm 734 (by decide +kernel) rfl), by decide +kernel, by decide +kernel, by decide +kernel⟩, gm 736 (by decide +kernel) rfl, gm 28 (by decide +kernel) rfl⟩
theorem lkM_X6_252 : MLkS RX6 252 mJ6_bitCount_0f7a4 1 := ⟨⟨gm 438 (by decide +kernel) rfl, gm 86 (by decide +kernel) rfl, Or.inl (gm 738 (by decide +kernel) rfl), by decide +kernel, by decide +kernel, by decide +kernel⟩, gm 437 (by decide +kernel) rfl⟩
theorem lkM_L_96 : MLkV RL 96 mX6_common 1 := ⟨⟨gm 742 (by decide +kernel) rfl, gm 78 (by decide +kernel) rfl, Or.inl (gm 739 (by decide +kernel) rfl), by decide +kernel, by decide +kernel, by decide +kernel⟩, gm 740 (by decide +kernel) rfl, gm 741 (by decide +kernel) rfl⟩
theorem lkM_L_100 : MLkV RL 100 mX6_dead 1 := ⟨⟨gm 746 (by decide +kernel) rfl, gm 78 (by decide +kernel) rfl, Or.inl (gm 743 (by decide +kernel) rfl), by decide +kernel, by decide +kernel, by decide +kernel⟩, gm 744 (by decide +kernel) rfl, gm 745 (by decide +kernel) rfl⟩
theorem lkM_X6_193 : MLkV RX6 193 mX3_isReached 1 := ⟨⟨gm 750 (by decide +kernel) rfl, gm 83 (by decide +kernel) rfl, Or.inl (gm 747 (by decide +kernel) rfl), by decide +kernel, by decide +kernel, by decide +kernel⟩, gm 748 (by decide +kernel) rfl, gm 749 (by decide +kernel) rfl⟩
theorem lkM_L_104 : MLkV RL 104 mX6_count 1 := ⟨⟨gm 754 (by decide +kernel) rfl, gm 78 (by decide +kernel) rfl, Or.inl (gm 751 (by decide +kernel) rfl), by decide +kernel, by decide +kernel, by decide +kernel⟩, gm 752 (by decide +kernel) rfl, gm 753 (by decide +kernel) rfl⟩
theorem lkM_X6_205 : MLkV RX6 205 mX3_reachedCount 0 := ⟨⟨gm 758 (by decide +kernel) rfl, gm 83 (by decide +kernel) rfl, Or.inl (gm 755 (by decide +kernel) rfl), by decide +kernel, by decide +kernel, by decide +kernel⟩, gm 756 (by decide +kernel) rfl, gm 757 (by decide +kernel) rfl⟩
theorem lkM_X3_76 : MLkS RX3 76 mJ13_bitCount_95d88 1 := ⟨⟨gm 761 (by decide +kernel) rfl, gm 87 (by decide +kernel) rfl, Or.inl (gm 759 (by decide +kernel) rfl), by decide +kernel, by decide +kernel, by decide +kernel⟩, gm 760 (by decide +kernel) rfl⟩
theorem lkM_L_108 : MLkV RL 108 mX6_digest 0 := ⟨⟨gm 768 (by decide +kernel) rfl, gm 78 (by decide +kernel) rfl, Or.inl (gm 765 (by decide +kernel) rfl), by decide +kernel, by decide +kernel, by decide +kernel⟩, gm 766 (by decide +kernel) rfl, gm 767 (by decide +kernel) rfl⟩
theorem lkM_X6_214 : MLkV RX6 214 mX6_withType 2 := ⟨⟨gm 773 (by decide +kernel) rfl, gm 78 (by decide +kernel) rfl, Or.inl (gm 770 (by decide +kernel) rfl), by decide +kernel, by decide +kernel, by decide +kernel⟩, gm 772 (by decide +kernel) rfl, gm 29 (by decide +kernel) rfl⟩
theorem lkM_X6_234 : MLkV RX6 234 mX6_of 2 := ⟨⟨gm 502 (by decide +kernel) rfl, gm 78 (by decide +kernel) rfl, Or.inl (gm 774 (by decide +kernel) rfl), by decide +kernel, by decide +kernel, by decide +kernel⟩, gm 500 (by decide +kernel) rfl, gm 501 (by decide +kernel) rfl⟩
theorem lkM_X6_221 : MLkS RX6 221 mX6_with 2 := ⟨⟨gm 777 (by decide +kernel) rfl, gm 78 (by decide +kernel) rfl, Or.inl (gm 775 (by decide +kernel) rfl), by decide +kernel, by decide +kernel, by decide +kernel⟩, gm 776 (by decide +kernel) rfl⟩
theorem lkM_X6_237 : MLkV RX6 237 mX6_has 2 := ⟨⟨gm 531 (by decide +kernel) rfl, gm 78 (by decide +kernel) rfl, Or.inl (gm 779 (by decide +kernel) rfl), by decide +kernel, by decide +kernel, by decide +kernel⟩, gm 529 (by decide +kernel) rfl, gm 530 (by decide +kernel) rfl⟩
theorem lkM_X6_240 : MLkV RX6 240 mX6_withMethod 3 := ⟨⟨gm 783 (by decide +kernel) rfl, gm 78 (by decide +kernel) rfl, Or.inl (gm 780 (by decide +kernel) rfl), by decide +kernel, by decide +kernel, by decide +kernel⟩, gm 782 (by decide +kernel) rfl, gm 30 (by decide +kernel) rfl⟩
theorem lkM_X6_244 : MLkV RX6 244 mX6_answer 3 := ⟨⟨gm 537 (by decide +kernel) rfl, gm 78 (by decide +kernel) rfl, Or.inl (gm 784 (by decide +kernel) rfl), by decide +kernel, by decide +kernel, by decide +kernel⟩, gm 535 (by decide +kernel) rfl, gm 536 (by decide +kernel) rfl⟩
theorem lkM_X6_218 : MLkV RX6 218 mX6_withBody 2 := ⟨⟨gm 788 (by decide +kernel) rfl, gm 78 (by decide +kernel) rfl, Or.inl (gm 785 (by decide +kernel) rfl), by decide +kernel, by decide +kernel, by decide +kernel⟩, gm 787 (by decide +kernel) rfl, gm 31 (by decide +kernel) rfl⟩
theorem lkM_X6_247 : MLkV RX6 247 mX6_body 2 := ⟨⟨gm 543 (by decide +kernel) rfl, gm 78 (by decide +kernel) rfl, Or.inl (gm 789 (by decide +kernel) rfl), by decide +kernel, by decide +kernel, by decide +kernel⟩, gm 541 (by decide +kernel) rfl, gm 542 (by decide +kernel) rfl⟩
theorem lkM_X6_225 : MLkV RX6 225 mX6_fit 2 := ⟨⟨gm 729 (by decide +kernel) rfl, gm 78 (by decide +kernel) rfl, Or.inl (gm 790 (by decide +kernel) rfl), by decide +kernel, by decide +kernel, by decide +kernel⟩, gm 727 (by decide +kernel) rfl, gm 728 (by decide +kernel) rfl⟩
theorem lkM_X6_228 : MLkV RX6 228 mX1_codeAt 1 := ⟨⟨gm 370 (by decide +kernel) rfl, gm 79 (by decide +kernel) rfl, Or.inl (gm 791 (by decide +kernel) rfl), by decide +kernel, by decide +kernel, by decide +kernel⟩, gm 368 (by decide +kernel) rfl, gm 369 (by decide +kernel) rfl⟩
theorem lkM_X6_231 : MLkV RX6 231 mX6_count 1 := ⟨⟨gm 754 (by decide +kernel) rfl, gm 78 (by decide +kernel) rfl, Or.inl (gm 792 (by decide +kernel) rfl), by decide +kernel, by decide +kernel, by decide +kernel⟩, gm 752 (by decide +kernel) rfl, gm 753 (by decide +kernel) rfl⟩
theorem lkM_L_17 : MLkV RL 17 mX7_letter 1 := ⟨⟨gm 938 (by decide +kernel) rfl, gm 85 (by decide +kernel) rfl, Or.inl (gm 935 (by decide +kernel) rfl), by decide +kernel, by decide +kernel, by decide +kernel⟩, gm 936 (by decide +kernel) rfl, gm 937 (by decide +kernel) rfl⟩
theorem lkM_X7_77 : MLkS RX7 77 mX7_within 3 := ⟨⟨gm 941 (by decide +kernel) rfl, gm 85 (by decide +kernel) rfl, Or.inl (gm 939 (by decide +kernel) rfl), by decide +kernel, by decide +kernel, by decide +kernel⟩, gm 940 (by decide +kernel) rfl⟩
theorem lkM_L_22 : MLkV RL 22 mX7_blank 0 := ⟨⟨gm 945 (by decide +kernel) rfl, gm 85 (by decide +kernel) rfl, Or.inl (gm 942 (by decide +kernel) rfl), by decide +kernel, by decide +kernel, by decide +kernel⟩, gm 943 (by decide +kernel) rfl, gm 944 (by decide +kernel) rfl⟩
theorem lkM_L_26 : MLkV RL 26 mX7_fault 0 := ⟨⟨gm 949 (by decide +kernel) rfl, gm 85 (by decide +kernel) rfl, Or.inl (gm 946 (by decide +kernel) rfl), by decide +kernel, by decide +kernel, by decide +kernel⟩, gm 947 (by decide +kernel) rfl, gm 948 (by decide +kernel) rfl⟩
theorem lkM_X7_130 : MLkV RX7 130 mX7_read 0 := ⟨⟨gm 953 (by decide +kernel) rfl, gm 85 (by decide +kernel) rfl, Or.inl (gm 950 (by decide +kernel) rfl), by decide +kernel, by decide +kernel, by decide +kernel⟩, gm 952 (by decide +kernel) rfl, gm 32 (by decide +kernel) rfl⟩
theorem lkM_X7_127 : MLkV RX7 127 mX7_takes 1 := ⟨⟨gm 957 (by decide +kernel) rfl, gm 85 (by decide +kernel) rfl, Or.inl (gm 954 (by decide +kernel) rfl), by decide +kernel, by decide +kernel, by decide +kernel⟩, gm 956 (by decide +kernel) rfl, gm 33 (by decide +kernel) rfl⟩
theorem lkM_X7_118 : MLkV RX7 118 mX7_takesHead 1 := ⟨⟨gm 961 (by decide +kernel) rfl, gm 85 (by decide +kernel) rfl, Or.inl (gm 958 (by decide +kernel) rfl), by decide +kernel, by decide +kernel, by decide +kernel⟩, gm 960 (by decide +kernel) rfl, gm 34 (by decide +kernel) rfl⟩
theorem lkM_X7_108 : MLkV RX7 108 mX7_takesMember 1 := ⟨⟨gm 965 (by decide +kernel) rfl, gm 85 (by decide +kernel) rfl, Or.inl (gm 962 (by decide +kernel) rfl), by decide +kernel, by decide +kernel, by decide +kernel⟩, gm 964 (by decide +kernel) rfl, gm 35 (by decide +kernel) rfl⟩
theorem lkM_X7_85 : MLkS RX7 85 mX7_memberAt 1 := ⟨⟨gm 968 (by decide +kernel) rfl, gm 85 (by decide +kernel) rfl, Or.inl (gm 966 (by decide +kernel) rfl), by decide +kernel, by decide +kernel, by decide +kernel⟩, gm 967 (by decide +kernel) rfl⟩
theorem lkM_X7_92 : MLkS RX7 92 mX7_hasBit 2 := ⟨⟨gm 971 (by decide +kernel) rfl, gm 85 (by decide +kernel) rfl, Or.inl (gm 969 (by decide +kernel) rfl), by decide +kernel, by decide +kernel, by decide +kernel⟩, gm 970 (by decide +kernel) rfl⟩
theorem lkM_X7_121 : MLkV RX7 121 mX7_takesBehindMethod 1 := ⟨⟨gm 975 (by decide +kernel) rfl, gm 85 (by decide +kernel) rfl, Or.inl (gm 972 (by decide +kernel) rfl), by decide +kernel, by decide +kernel, by decide +kernel⟩, gm 974 (by decide +kernel) rfl, gm 36 (by decide +kernel) rfl⟩
theorem lkM_X7_124 : MLkV RX7 124 mX7_takesItem 1 := ⟨⟨gm 979 (by decide +kernel) rfl, gm 85 (by decide +kernel) rfl, Or.inl (gm 976 (by decide +kernel) rfl), by decide +kernel, by decide +kernel, by decide +kernel⟩, gm 978 (by decide +kernel) rfl, gm 37 (by decide +kernel) rfl⟩
theorem lkM_L_30 : MLkV RL 30 mX7_type 0 := ⟨⟨gm 983 (by decide +kernel) rfl, gm 85 (by decide +kernel) rfl, Or.inl (gm 980 (by decide +kernel) rfl), by decide +kernel, by decide +kernel, by decide +kernel⟩, gm 981 (by decide +kernel) rfl, gm 982 (by decide +kernel) rfl⟩
theorem lkM_L_34 : MLkV RL 34 mX7_drop 0 := ⟨⟨gm 987 (by decide +kernel) rfl, gm 85 (by decide +kernel) rfl, Or.inl (gm 984 (by decide +kernel) rfl), by decide +kernel, by decide +kernel, by decide +kernel⟩, gm 985 (by decide +kernel) rfl, gm 986 (by decide +kernel) rfl⟩
theorem lkM_X7_143 : MLkV RX7 143 mX7_isElsewhere 0 := ⟨⟨gm 991 (by decide +kernel) rfl, gm 85 (by decide +kernel) rfl, Or.inl (gm 988 (by decide +kernel) rfl), by decide +kernel, by decide +kernel, by decide +kernel⟩, gm 990 (by decide +kernel) rfl, gm 38 (by decide +kernel) rfl⟩
theorem lkM_L_39 : MLkV RL 39 mX7_hollow 2 := ⟨⟨gm 995 (by decide +kernel) rfl, gm 85 (by decide +kernel) rfl, Or.inl (gm 992 (by decide +kernel) rfl), by decide +kernel, by decide +kernel, by decide +kernel⟩, gm 993 (by decide +kernel) rfl, gm 994 (by decide +kernel) rfl⟩
theorem lkM_X7_147 : MLkV RX7 147 mX7_isType 1 := ⟨⟨gm 999 (by decide +kernel) rfl, gm 85 (by decide +kernel) rfl, Or.inl (gm 996 (by decide +kernel) rfl), by decide +kernel, by decide +kernel, by decide +kernel⟩, gm 998 (by decide +kernel) rfl, gm 39 (by decide +kernel) rfl⟩
theorem lkM_L_44 : MLkV RL 44 mX7_of 2 := ⟨⟨gm 1003 (by decide +kernel) rfl, gm 85 (by decide +kernel) rfl, Or.inl (gm 1000 (by decide +kernel) rfl), by decide +kernel, by decide +kernel, by decide +kernel⟩, gm 1001 (by decide +kernel) rfl, gm 1002 (by decide +kernel) rfl⟩
theorem lkM_X7_170 : MLkV RX7 170 mX7_typeNow 2 := ⟨⟨gm 1007 (by decide +kernel) rfl, gm 85 (by decide +kernel) rfl, Or.inl (gm 1004 (by decide +kernel) rfl), by decide +kernel, by decide +kernel, by decide +kernel⟩, gm 1006 (by decide +kernel) rfl, gm 40 (by decide +kernel) rfl⟩
theorem lkM_X7_160 : MLkV RX7 160 mX7_hasOf 3 := ⟨⟨gm 1011 (by decide +kernel) rfl, gm 85 (by decide +kernel) rfl, Or.inl (gm 1008 (by decide +kernel) rfl), by decide +kernel, by decide +kernel, by decide +kernel⟩, gm 1010 (by decide +kernel) rfl, gm 41 (by decide +kernel) rfl⟩
theorem lkM_X7_150 : MLkV RX7 150 mX7_memberOf 2 := ⟨⟨gm 1015 (by decide +kernel) rfl, gm 85 (by decide +kernel) rfl, Or.inl (gm 1012 (by decide +kernel) rfl), by decide +kernel, by decide +kernel, by decide +kernel⟩, gm 1014 (by decide +kernel) rfl, gm 42 (by decide +kernel) rfl⟩
theorem lkM_X7_164 : MLkV RX7 164 mX7_answered 1 := ⟨⟨gm 1019 (by decide +kernel) rfl, gm 85 (by decide +kernel) rfl, Or.inl (gm 1016 (by decide +kernel) rfl), by decide +kernel, by decide +kernel, by decide +kernel⟩, gm 1018 (by decide +kernel) rfl, gm 43 (by decide +kernel) rfl⟩
theorem lkM_X7_157 : MLkV RX7 157 mX7_answersIn 2 := ⟨⟨gm 1023 (by decide +kernel) rfl, gm 85 (by decide +kernel) rfl, Or.inl (gm 1020 (by decide +kernel) rfl), by decide +kernel, by decide +kernel, by decide +kernel⟩, gm 1022 (by decide +kernel) rfl, gm 44 (by decide +kernel) rfl⟩
theorem lkM_X7_154 : MLkV RX7 154 mX7_isHidden 2 := ⟨⟨gm 1027 (by decide +kernel) rfl, gm 85 (by decide +kernel) rfl, Or.inl (gm 1024 (by decide +kernel) rfl), by decide +kernel, by decide +kernel, by decide +kernel⟩, gm 1026 (by decide +kernel) rfl, gm 45 (by decide +kernel) rfl⟩
theorem lkM_X7_167 : MLkV RX7 167 mX7_below 1 := ⟨⟨gm 1031 (by decide +kernel) rfl, gm 85 (by decide +kernel) rfl, Or.inl (gm 1028 (by decide +kernel) rfl), by decide +kernel, by decide +kernel, by decide +kernel⟩, gm 1030 (by decide +kernel) rfl, gm 46 (by decide +kernel) rfl⟩
theorem lkM_L_48 : MLkV RL 48 mX7_has 2 := ⟨⟨gm 1035 (by decide +kernel) rfl, gm 85 (by decide +kernel) rfl, Or.inl (gm 1032 (by decide +kernel) rfl), by decide +kernel, by decide +kernel, by decide +kernel⟩, gm 1033 (by decide +kernel) rfl, gm 1034 (by decide +kernel) rfl⟩
theorem lkM_X7_173 : MLkV RX7 173 mX7_isMember 2 := ⟨⟨gm 1039 (by decide +kernel) rfl, gm 85 (by decide +kernel) rfl, Or.inl (gm 1036 (by decide +kernel) rfl), by decide +kernel, by decide +kernel, by decide +kernel⟩, gm 1038 (by decide +kernel) rfl, gm 47 (by decide +kernel) rfl⟩
theorem lkM_L_53 : MLkV RL 53 mX7_answer 3 := ⟨⟨gm 1043 (by decide +kernel) rfl, gm 85 (by decide +kernel) rfl, Or.inl (gm 1040 (by decide +kernel) rfl), by decide +kernel, by decide +kernel, by decide +kernel⟩, gm 1041 (by decide +kernel) rfl, gm 1042 (by decide +kernel) rfl⟩
theorem lkM_X7_176 : MLkV RX7 176 mX7_isMethod 2 := ⟨⟨gm 1047 (by decide +kernel) rfl, gm 85 (by decide +kernel) rfl, Or.inl (gm 1044 (by decide +kernel) rfl), by decide +kernel, by decide +kernel, by decide +kernel⟩, gm 1046 (by decide +kernel) rfl, gm 48 (by decide +kernel) rfl⟩
theorem lkM_X7_179 : MLkV RX7 179 mX7_answerNow 3 := ⟨⟨gm 1051 (by decide +kernel) rfl, gm 85 (by decide +kernel) rfl, Or.inl (gm 1048 (by decide +kernel) rfl), by decide +kernel, by decide +kernel, by decide +kernel⟩, gm 1050 (by decide +kernel) rfl, gm 49 (by decide +kernel) rfl⟩
theorem lkM_L_57 : MLkV RL 57 mX7_body 2 := ⟨⟨gm 1055 (by decide +kernel) rfl, gm 85 (by decide +kernel) rfl, Or.inl (gm 1052 (by decide +kernel) rfl), by decide +kernel, by decide +kernel, by decide +kernel⟩, gm 1053 (by decide +kernel) rfl, gm 1054 (by decide +kernel) rfl⟩
theorem lkM_X7_182 : MLkV RX7 182 mX7_bodyNow 2 := ⟨⟨gm 1059 (by decide +kernel) rfl, gm 85 (by decide +kernel) rfl, Or.inl (gm 1056 (by decide +kernel) rfl), by decide +kernel, by decide +kernel, by decide +kernel⟩, gm 1058 (by decide +kernel) rfl, gm 50 (by decide +kernel) rfl⟩
theorem lkM_L_61 : MLkV RL 61 mX7_trace 3 := ⟨⟨gm 1063 (by decide +kernel) rfl, gm 85 (by decide +kernel) rfl, Or.inl (gm 1060 (by decide +kernel) rfl), by decide +kernel, by decide +kernel, by decide +kernel⟩, gm 1061 (by decide +kernel) rfl, gm 1062 (by decide +kernel) rfl⟩
theorem lkM_X7_214 : MLkV RX7 214 mX7_traceNow 3 := ⟨⟨gm 1067 (by decide +kernel) rfl, gm 85 (by decide +kernel) rfl, Or.inl (gm 1064 (by decide +kernel) rfl), by decide +kernel, by decide +kernel, by decide +kernel⟩, gm 1066 (by decide +kernel) rfl, gm 51 (by decide +kernel) rfl⟩
theorem lkM_X7_211 : MLkV RX7 211 mX7_layTrace 2 := ⟨⟨gm 1071 (by decide +kernel) rfl, gm 85 (by decide +kernel) rfl, Or.inl (gm 1068 (by decide +kernel) rfl), by decide +kernel, by decide +kernel, by decide +kernel⟩, gm 1070 (by decide +kernel) rfl, gm 52 (by decide +kernel) rfl⟩
theorem lkM_X7_204 : MLkV RX7 204 mX7_run 2 := ⟨⟨gm 1075 (by decide +kernel) rfl, gm 85 (by decide +kernel) rfl, Or.inl (gm 1072 (by decide +kernel) rfl), by decide +kernel, by decide +kernel, by decide +kernel⟩, gm 1074 (by decide +kernel) rfl, gm 53 (by decide +kernel) rfl⟩
theorem lkM_X7_191 : MLkV RX7 191 mX7_isRunning 1 := ⟨⟨gm 1079 (by decide +kernel) rfl, gm 85 (by decide +kernel) rfl, Or.inl (gm 1076 (by decide +kernel) rfl), by decide +kernel, by decide +kernel, by decide +kernel⟩, gm 1078 (by decide +kernel) rfl, gm 54 (by decide +kernel) rfl⟩
theorem lkM_X7_194 : MLkV RX7 194 mX7_put 2 := ⟨⟨gm 1083 (by decide +kernel) rfl, gm 85 (by decide +kernel) rfl, Or.inl (gm 1080 (by decide +kernel) rfl), by decide +kernel, by decide +kernel, by decide +kernel⟩, gm 1082 (by decide +kernel) rfl, gm 55 (by decide +kernel) rfl⟩
theorem lkM_X7_207 : MLkV RX7 207 mX7_comesTo 3 := ⟨⟨gm 1087 (by decide +kernel) rfl, gm 85 (by decide +kernel) rfl, Or.inl (gm 1084 (by decide +kernel) rfl), by decide +kernel, by decide +kernel, by decide +kernel⟩, gm 1086 (by decide +kernel) rfl, gm 56 (by decide +kernel) rfl⟩
theorem lkM_X7_201 : MLkV RX7 201 mX7_slotFrom 2 := ⟨⟨gm 1091 (by decide +kernel) rfl, gm 85 (by decide +kernel) rfl, Or.inl (gm 1088 (by decide +kernel) rfl), by decide +kernel, by decide +kernel, by decide +kernel⟩, gm 1090 (by decide +kernel) rfl, gm 57 (by decide +kernel) rfl⟩
theorem lkM_L_66 : MLkV RL 66 mX7_event 4 := ⟨⟨gm 1095 (by decide +kernel) rfl, gm 85 (by decide +kernel) rfl, Or.inl (gm 1092 (by decide +kernel) rfl), by decide +kernel, by decide +kernel, by decide +kernel⟩, gm 1093 (by decide +kernel) rfl, gm 1094 (by decide +kernel) rfl⟩
theorem lkM_L_71 : MLkV RL 71 mX7_why 3 := ⟨⟨gm 1099 (by decide +kernel) rfl, gm 85 (by decide +kernel) rfl, Or.inl (gm 1096 (by decide +kernel) rfl), by decide +kernel, by decide +kernel, by decide +kernel⟩, gm 1097 (by decide +kernel) rfl, gm 1098 (by decide +kernel) rfl⟩
theorem lkM_X7_247 : MLkV RX7 247 mX7_whyNow 3 := ⟨⟨gm 1103 (by decide +kernel) rfl, gm 85 (by decide +kernel) rfl, Or.inl (gm 1100 (by decide +kernel) rfl), by decide +kernel, by decide +kernel, by decide +kernel⟩, gm 1102 (by decide +kernel) rfl, gm 58 (by decide +kernel) rfl⟩
theorem lkM_X7_233 : MLkV RX7 233 mX7_plainWhy 3 := ⟨⟨gm 1107 (by decide +kernel) rfl, gm 85 (by decide +kernel) rfl, Or.inl (gm 1104 (by decide +kernel) rfl), by decide +kernel, by decide +kernel, by decide +kernel⟩, gm 1106 (by decide +kernel) rfl, gm 59 (by decide +kernel) rfl⟩
theorem lkM_X7_224 : MLkV RX7 224 mX7_missesBelow 2 := ⟨⟨gm 1111 (by decide +kernel) rfl, gm 85 (by decide +kernel) rfl, Or.inl (gm 1108 (by decide +kernel) rfl), by decide +kernel, by decide +kernel, by decide +kernel⟩, gm 1110 (by decide +kernel) rfl, gm 60 (by decide +kernel) rfl⟩
theorem lkM_X7_244 : MLkV RX7 244 mX7_whereNow 3 := ⟨⟨gm 1115 (by decide +kernel) rfl, gm 85 (by decide +kernel) rfl, Or.inl (gm 1112 (by decide +kernel) rfl), by decide +kernel, by decide +kernel, by decide +kernel⟩, gm 1114 (by decide +kernel) rfl, gm 61 (by decide +kernel) rfl⟩
theorem lkM_X7_237 : MLkV RX7 237 mX7_tryMove 3 := ⟨⟨gm 1119 (by decide +kernel) rfl, gm 85 (by decide +kernel) rfl, Or.inl (gm 1116 (by decide +kernel) rfl), by decide +kernel, by decide +kernel, by decide +kernel⟩, gm 1118 (by decide +kernel) rfl, gm 62 (by decide +kernel) rfl⟩
theorem lkM_X7_217 : MLkV RX7 217 mX7_layTried 0 := ⟨⟨gm 1123 (by decide +kernel) rfl, gm 85 (by decide +kernel) rfl, Or.inl (gm 1120 (by decide +kernel) rfl), by decide +kernel, by decide +kernel, by decide +kernel⟩, gm 1122 (by decide +kernel) rfl, gm 63 (by decide +kernel) rfl⟩
theorem lkM_X7_220 : MLkV RX7 220 mX7_lay 5 := ⟨⟨gm 1127 (by decide +kernel) rfl, gm 85 (by decide +kernel) rfl, Or.inl (gm 1124 (by decide +kernel) rfl), by decide +kernel, by decide +kernel, by decide +kernel⟩, gm 1126 (by decide +kernel) rfl, gm 64 (by decide +kernel) rfl⟩
theorem lkM_X7_241 : MLkV RX7 241 mX7_whereTried 0 := ⟨⟨gm 1131 (by decide +kernel) rfl, gm 85 (by decide +kernel) rfl, Or.inl (gm 1128 (by decide +kernel) rfl), by decide +kernel, by decide +kernel, by decide +kernel⟩, gm 1130 (by decide +kernel) rfl, gm 65 (by decide +kernel) rfl⟩
theorem lkM_X7_230 : MLkV RX7 230 mX7_isOther 2 := ⟨⟨gm 1135 (by decide +kernel) rfl, gm 85 (by decide +kernel) rfl, Or.inl (gm 1132 (by decide +kernel) rfl), by decide +kernel, by decide +kernel, by decide +kernel⟩, gm 1134 (by decide +kernel) rfl, gm 66 (by decide +kernel) rfl⟩
theorem lkM_L_75 : MLkV RL 75 mX7_where 3 := ⟨⟨gm 1139 (by decide +kernel) rfl, gm 85 (by decide +kernel) rfl, Or.inl (gm 1136 (by decide +kernel) rfl), by decide +kernel, by decide +kernel, by decide +kernel⟩, gm 1137 (by decide +kernel) rfl, gm 1138 (by decide +kernel) rfl⟩
theorem lkM_L_79 : MLkV RL 79 mX7_move 3 := ⟨⟨gm 1143 (by decide +kernel) rfl, gm 85 (by decide +kernel) rfl, Or.inl (gm 1140 (by decide +kernel) rfl), by decide +kernel, by decide +kernel, by decide +kernel⟩, gm 1141 (by decide +kernel) rfl, gm 1142 (by decide +kernel) rfl⟩
theorem lkM_L_83 : MLkV RL 83 mX7_undo 0 := ⟨⟨gm 1147 (by decide +kernel) rfl, gm 85 (by decide +kernel) rfl, Or.inl (gm 1144 (by decide +kernel) rfl), by decide +kernel, by decide +kernel, by decide +kernel⟩, gm 1145 (by decide +kernel) rfl, gm 1146 (by decide +kernel) rfl⟩
theorem lkM_L_87 : MLkV RL 87 mX7_moves 1 := ⟨⟨gm 1151 (by decide +kernel) rfl, gm 85 (by decide +kernel) rfl, Or.inl (gm 1148 (by decide +kernel) rfl), by decide +kernel, by decide +kernel, by decide +kernel⟩, gm 1149 (by decide +kernel) rfl, gm 1150 (by decide +kernel) rfl⟩
theorem lkM_X7_265 : MLkV RX7 265 mX7_layMoves 0 := ⟨⟨gm 1155 (by decide +kernel) rfl, gm 85 (by decide +kernel) rfl, Or.inl (gm 1152 (by decide +kernel) rfl), by decide +kernel, by decide +kernel, by decide +kernel⟩, gm 1154 (by decide +kernel) rfl, gm 67 (by decide +kernel) rfl⟩
theorem lkM_L_91 : MLkV RL 91 mX7_contract 1 := ⟨⟨gm 1159 (by decide +kernel) rfl, gm 85 (by decide +kernel) rfl, Or.inl (gm 1156 (by decide +kernel) rfl), by decide +kernel, by decide +kernel, by decide +kernel⟩, gm 1157 (by decide +kernel) rfl, gm 1158 (by decide +kernel) rfl⟩
theorem lkM_L_95 : MLkV RL 95 mX7_fit 2 := ⟨⟨gm 1163 (by decide +kernel) rfl, gm 85 (by decide +kernel) rfl, Or.inl (gm 1160 (by decide +kernel) rfl), by decide +kernel, by decide +kernel, by decide +kernel⟩, gm 1161 (by decide +kernel) rfl, gm 1162 (by decide +kernel) rfl⟩
theorem lkM_X7_274 : MLkV RX7 274 mX7_fitNow 2 := ⟨⟨gm 1167 (by decide +kernel) rfl, gm 85 (by decide +kernel) rfl, Or.inl (gm 1164 (by decide +kernel) rfl), by decide +kernel, by decide +kernel, by decide +kernel⟩, gm 1166 (by decide +kernel) rfl, gm 68 (by decide +kernel) rfl⟩
theorem lkM_X7_271 : MLkS RX7 271 mX7_ones 1 := ⟨⟨gm 1170 (by decide +kernel) rfl, gm 85 (by decide +kernel) rfl, Or.inl (gm 1168 (by decide +kernel) rfl), by decide +kernel, by decide +kernel, by decide +kernel⟩, gm 1169 (by decide +kernel) rfl⟩
theorem lkM_L_99 : MLkV RL 99 mX7_common 1 := ⟨⟨gm 1174 (by decide +kernel) rfl, gm 85 (by decide +kernel) rfl, Or.inl (gm 1171 (by decide +kernel) rfl), by decide +kernel, by decide +kernel, by decide +kernel⟩, gm 1172 (by decide +kernel) rfl, gm 1173 (by decide +kernel) rfl⟩
theorem lkM_L_103 : MLkV RL 103 mX7_dead 1 := ⟨⟨gm 1178 (by decide +kernel) rfl, gm 85 (by decide +kernel) rfl, Or.inl (gm 1175 (by decide +kernel) rfl), by decide +kernel, by decide +kernel, by decide +kernel⟩, gm 1176 (by decide +kernel) rfl, gm 1177 (by decide +kernel) rfl⟩
theorem lkM_X7_280 : MLkV RX7 280 mX7_layMet 0 := ⟨⟨gm 1182 (by decide +kernel) rfl, gm 85 (by decide +kernel) rfl, Or.inl (gm 1179 (by decide +kernel) rfl), by decide +kernel, by decide +kernel, by decide +kernel⟩, gm 1181 (by decide +kernel) rfl, gm 69 (by decide +kernel) rfl⟩
theorem lkM_X7_283 : MLkV RX7 283 mX7_deadNow 1 := ⟨⟨gm 1186 (by decide +kernel) rfl, gm 85 (by decide +kernel) rfl, Or.inl (gm 1183 (by decide +kernel) rfl), by decide +kernel, by decide +kernel, by decide +kernel⟩, gm 1185 (by decide +kernel) rfl, gm 70 (by decide +kernel) rfl⟩
theorem lkM_L_107 : MLkV RL 107 mX7_count 1 := ⟨⟨gm 1190 (by decide +kernel) rfl, gm 85 (by decide +kernel) rfl, Or.inl (gm 1187 (by decide +kernel) rfl), by decide +kernel, by decide +kernel, by decide +kernel⟩, gm 1188 (by decide +kernel) rfl, gm 1189 (by decide +kernel) rfl⟩
theorem lkM_X7_292 : MLkV RX7 292 mX7_howMany 1 := ⟨⟨gm 1194 (by decide +kernel) rfl, gm 85 (by decide +kernel) rfl, Or.inl (gm 1191 (by decide +kernel) rfl), by decide +kernel, by decide +kernel, by decide +kernel⟩, gm 1193 (by decide +kernel) rfl, gm 71 (by decide +kernel) rfl⟩
theorem lkM_X7_286 : MLkV RX7 286 mX7_deadMany 0 := ⟨⟨gm 1198 (by decide +kernel) rfl, gm 85 (by decide +kernel) rfl, Or.inl (gm 1195 (by decide +kernel) rfl), by decide +kernel, by decide +kernel, by decide +kernel⟩, gm 1197 (by decide +kernel) rfl, gm 72 (by decide +kernel) rfl⟩
theorem lkM_X7_289 : MLkV RX7 289 mX7_missingMany 0 := ⟨⟨gm 1202 (by decide +kernel) rfl, gm 85 (by decide +kernel) rfl, Or.inl (gm 1199 (by decide +kernel) rfl), by decide +kernel, by decide +kernel, by decide +kernel⟩, gm 1201 (by decide +kernel) rfl, gm 73 (by decide +kernel) rfl⟩
theorem lkM_L_112 : MLkV RL 112 mX7_digest 0 := ⟨⟨gm 1206 (by decide +kernel) rfl, gm 85 (by decide +kernel) rfl, Or.inl (gm 1203 (by decide +kernel) rfl), by decide +kernel, by decide +kernel, by decide +kernel⟩, gm 1204 (by decide +kernel) rfl, gm 1205 (by decide +kernel) rfl⟩
theorem lkM_X7_310 : MLkV RX7 310 mX7_mixTypes 0 := ⟨⟨gm 1211 (by decide +kernel) rfl, gm 85 (by decide +kernel) rfl, Or.inl (gm 1208 (by decide +kernel) rfl), by decide +kernel, by decide +kernel, by decide +kernel⟩, gm 1210 (by decide +kernel) rfl, gm 74 (by decide +kernel) rfl⟩
theorem lkM_X7_301 : MLkV RX7 301 mX7_mix 1 := ⟨⟨gm 1215 (by decide +kernel) rfl, gm 85 (by decide +kernel) rfl, Or.inl (gm 1212 (by decide +kernel) rfl), by decide +kernel, by decide +kernel, by decide +kernel⟩, gm 1214 (by decide +kernel) rfl, gm 75 (by decide +kernel) rfl⟩
theorem lkM_X7_305 : MLkV RX7 305 mX7_mixMethod 2 := ⟨⟨gm 1220 (by decide +kernel) rfl, gm 85 (by decide +kernel) rfl, Or.inl (gm 1217 (by decide +kernel) rfl), by decide +kernel, by decide +kernel, by decide +kernel⟩, gm 1219 (by decide +kernel) rfl, gm 76 (by decide +kernel) rfl⟩
end
section
/-! the small machine: ints as Int, cells by their numbers -/
abbrev MV : Type := Int ⊕ (Int ⊕ Nat)
abbrev vI (z : Int) : MV := Sum.inl z
abbrev vL (z : Int) : MV := Sum.inr (Sum.inl z)
abbrev vR (k : Nat) : MV := Sum.inr (Sum.inr k)
abbrev Om : Type := Nat → Int → Int
/-- the launch, the classes' numbers, the cells' addresses, the classes of int[] and boolean[] -/
abbrev Cx : Type := Launch × va_G × (Nat → Nat) × ClassId × ClassId
def InR (z : Int) : Prop := -2147483648 ≤ z ∧ z ≤ 2147483647
def InL (z : Int) : Prop := -9223372036854775808 ≤ z ∧ z ≤ 9223372036854775807
def RV : MV → Prop
  | .inl z => InR z
  | .inr (.inl z) => InL z
  | .inr (.inr _) => True
def emb (X : Cx) : MV → Value
  | .inl z => .int (Int32.ofInt z)
  | .inr (.inl z) => .long (Int64.ofInt z)
  | .inr (.inr k) => .ref (X.2.2.1 k)
def isL (k : Nat) (j : Int) : Bool := (k == 4 && j == 5) || (k == 5 && j == 5) || (k == 29 && j == 44)
def ROm (ω : Om) : Prop := (∀ k j, isL k j = false → InR (ω k j)) ∧ ∀ k j, InL (ω k j)
def up (ω : Om) (k : Nat) (i z : Int) : Om := fun k' i' => if k' = k ∧ i' = i then z else ω k' i'
theorem InR.L {z : Int} (h : InR z) : InL z := by unfold InR InL at *; omega
theorem up_s {ω : Om} {k : Nat} {i z : Int} : up ω k i z k i = z := by simp [up]
theorem up_k {ω : Om} {k k' : Nat} {i i' z : Int} (h : k' ≠ k) : up ω k i z k' i' = ω k' i' := by simp [up, h]
theorem up_i {ω : Om} {k k' : Nat} {i i' z : Int} (h : i' ≠ i) : up ω k i z k' i' = ω k' i' := by simp [up, h]
theorem ROm_up {ω : Om} (h : ROm ω) {k : Nat} {i z : Int} (hz : InR z) : ROm (up ω k i z) := by
  refine ⟨fun k' j hl => ?_, fun k' j => ?_⟩
  · by_cases e : k' = k ∧ j = i
    · rw [e.1, e.2, up_s]; exact hz
    · show InR (if k' = k ∧ j = i then z else ω k' j)
      rw [if_neg e]; exact h.1 k' j hl
  · by_cases e : k' = k ∧ j = i
    · rw [e.1, e.2, up_s]; exact hz.L
    · show InL (if k' = k ∧ j = i then z else ω k' j)
      rw [if_neg e]; exact h.2 k' j
theorem ROm_upL {ω : Om} (h : ROm ω) {k : Nat} {i z : Int} (hz : InL z) (hl0 : isL k i = true) : ROm (up ω k i z) := by
  refine ⟨fun k' j hl => ?_, fun k' j => ?_⟩
  · by_cases e : k' = k ∧ j = i
    · rw [e.1, e.2, hl0] at hl; cases hl
    · show InR (if k' = k ∧ j = i then z else ω k' j)
      rw [if_neg e]; exact h.1 k' j hl
  · by_cases e : k' = k ∧ j = i
    · rw [e.1, e.2, up_s]; exact hz
    · show InL (if k' = k ∧ j = i then z else ω k' j)
      rw [if_neg e]; exact h.2 k' j
/-- a cell's shape: 0 an int[], 1 a boolean[], c+2 an object of class c; its length; its fields: 0 an int, 1 a long, c+2 a reference to cell c -/
def lay : List (Nat × Nat × List Nat) := [(8, 7, [3, 4, 5, 7, 8, 9, 0]),
  (3, 2, [10, 0]),
  (4, 9, [11, 12, 13, 0, 0, 0, 0, 0, 0]),
  (7, 10, [14, 15, 16, 17, 18, 19, 20, 0, 0, 0]),
  (6, 9, [5, 21, 22, 23, 24, 1, 0, 0, 0]),
  (5, 8, [5, 6, 25, 26, 27, 1, 0, 0]),
  (2, 14, [5, 6, 7, 28, 29, 30, 0, 0, 0, 0, 0, 0, 0, 0]),
  (0, 6, []),
  (0, 40, []),
  (0, 12, []),
  (0, 12, []),
  (0, 72, []),
  (0, 8, []),
  (1, 8, []),
  (0, 96, []),
  (0, 8, []),
  (0, 8, []),
  (0, 40, []),
  (0, 240, []),
  (0, 60, []),
  (0, 40, []),
  (0, 40, []),
  (0, 40, []),
  (0, 2880, []),
  (0, 48, []),
  (0, 48, []),
  (0, 168, []),
  (0, 21, []),
  (0, 21, []),
  (9, 45, [0, 32, 0, 33, 34, 35, 36, 0, 0, 37, 38, 39, 0, 40, 41, 0, 42, 0, 0, 0, 0, 0, 0, 0, 43, 44, 45, 0, 0, 46, 47, 0, 0, 48, 49, 50, 0, 51, 52, 0, 0, 0, 53, 0, 1]),
  (0, 40, []),
  (0, 8, []),
  (1, 8, []),
  (0, 192, []),
  (0, 16, []),
  (0, 40, []),
  (0, 40, []),
  (0, 240, []),
  (0, 1920, []),
  (0, 160, []),
  (0, 6, []),
  (0, 6, []),
  (0, 6, []),
  (0, 36, []),
  (0, 60, []),
  (0, 60, []),
  (0, 61, []),
  (0, 61, []),
  (0, 61, []),
  (0, 60, []),
  (0, 60, []),
  (1, 40, [])]
def fv (X : Cx) (ω : Om) (k j : Nat) (code : Nat) : Value := match code with
  | 0 => .int (Int32.ofInt (ω k j))
  | 1 => .long (Int64.ofInt (ω k j))
  | c + 2 => .ref (X.2.2.1 c)
def cellOf (X : Cx) (ω : Om) (k : Nat) (L : Nat × Nat × List Nat) : va_E := match L.1 with
  | 0 => .inl (X.2.2.2.1, L.2.1, .inl (fun j => Int32.ofInt (ω k j)))
  | 1 => .inl (X.2.2.2.2, L.2.1, .inl (fun j => Int32.ofInt (ω k j)))
  | c + 2 => .inr (c, L.2.2.mapIdx (fun j code => fv X ω k j code))
def pic (X : Cx) (ω : Om) : va_W := lay.mapIdx (fun k L => (X.2.2.1 k, cellOf X ω k L))
def fcode (k ci j : Nat) : Option Nat := match lay[k]? with
  | some (c, _, fl) => if c = ci + 2 then fl[j]? else none
  | none => none
def acode (k : Nat) : Option (Nat × Nat) := match lay[k]? with
  | some (c, n, _) => some (c, n)
  | none => none
def tysX (X : Cx) : List (ClassId × FieldType) := [(X.2.2.2.1, .int), (X.2.2.2.2, .boolean)]
def AX (X : Cx) : Nat → Prop := fun q => ∃ k, k < 52 ∧ q = X.2.2.1 k
def InjX (X : Cx) : Prop := ∀ i j, i < 52 → j < 52 → X.2.2.1 i = X.2.2.1 j → i = j
theorem lay_len : lay.length = 52 := by decide +kernel
theorem pic_len (X : Cx) (ω : Om) : (pic X ω).length = 52 := by simp [pic, lay_len]
theorem pic_get (X : Cx) (ω : Om) (k : Nat) : (pic X ω)[k]? = (lay[k]?).map (fun L => (X.2.2.1 k, cellOf X ω k L)) := by simp [pic, List.getElem?_mapIdx]
theorem pic_obj (X : Cx) (ω : Om) {k ci j code : Nat} (h : fcode k ci j = some code) : ∃ fl : List Nat, (pic X ω)[k]? = some (X.2.2.1 k, .inr (ci, fl.mapIdx (fun j code => fv X ω k j code))) ∧ fl[j]? = some code ∧ ∃ n, lay[k]? = some (ci + 2, n, fl) := by
  unfold fcode at h
  cases hl : lay[k]? with
  | none => rw [hl] at h; cases h
  | some L =>
    obtain ⟨c, n, fl⟩ := L
    rw [hl] at h
    by_cases hc : c = ci + 2
    · subst hc
      simp only [if_true] at h
      exact ⟨fl, by rw [pic_get, hl]; rfl, h, n, rfl⟩
    · simp only [hc, if_false] at h
      cases h
theorem lay_lt {k : Nat} {L : Nat × Nat × List Nat} (h : lay[k]? = some L) : k < 52 := by
  rw [← lay_len]; exact (List.getElem?_eq_some_iff.mp h).1
theorem pic_D {X : Cx} {A : Nat → Prop} (ω : Om) (hI : InjX X) (hA : ∀ k, k < 52 → A (X.2.2.1 k)) : va_D A (pic X ω) := by
  have key : ∀ (i : Nat) (q : Nat × va_E), (pic X ω)[i]? = some q → i < 52 ∧ q.1 = X.2.2.1 i := by
    intro i q h
    rw [pic_get] at h
    cases hl : lay[i]? with
    | none => rw [hl] at h; cases h
    | some L => rw [hl] at h; cases h; exact ⟨lay_lt hl, rfl⟩
  refine ⟨fun i j p q hp hq e => ?_, fun k q h => ?_⟩
  · obtain ⟨a1, a2⟩ := key i p hp
    obtain ⟨b1, b2⟩ := key j q hq
    exact hI i j a1 b1 (by rw [← a2, ← b2, e])
  · obtain ⟨a1, a2⟩ := key k q h
    rw [a2]; exact hA k a1
theorem cellOf_ne {X : Cx} {ω : Om} {k k' : Nat} {i z : Int} (h : k' ≠ k) (L : Nat × Nat × List Nat) : cellOf X (up ω k i z) k' L = cellOf X ω k' L := by
  have e : ∀ j : Int, up ω k i z k' j = ω k' j := fun j => up_k h
  obtain ⟨c, n, fl⟩ := L
  match c with
  | 0 => simp only [cellOf, e]
  | 1 => simp only [cellOf, e]
  | c + 2 =>
    simp only [cellOf]
    congr 2
    congr 1
    funext j code
    match code with
    | 0 => simp only [fv, e]
    | 1 => simp only [fv, e]
    | c + 2 => rfl
theorem pic_set {X : Cx} {ω : Om} {k : Nat} {i z : Int} {e : va_E} {L : Nat × Nat × List Nat} (hl : lay[k]? = some L) (he : cellOf X (up ω k i z) k L = e) : (pic X ω).set k (X.2.2.1 k, e) = pic X (up ω k i z) := by
  apply List.ext_getElem?
  intro q
  rw [List.getElem?_set, pic_get X (up ω k i z)]
  by_cases hq : k = q
  · subst hq
    rw [if_pos rfl, if_pos (by rw [pic_len]; exact lay_lt hl), hl, ← he]
    rfl
  · rw [if_neg hq, pic_get]
    cases lay[q]? with
    | none => rfl
    | some L' => simp only [Option.map_some, cellOf_ne (fun h => hq h.symm)]
theorem fl_set {X : Cx} {ω : Om} {k j : Nat} {z : Int} {fl : List Nat} {code : Nat} (hf : fl[j]? = some code) (v : Value) (hv : fv X (up ω k j z) k j code = v) : fl.mapIdx (fun a code => fv X (up ω k j z) k a code) = (fl.mapIdx (fun a code => fv X ω k a code)).set j v := by
  apply List.ext_getElem?
  intro q
  rw [List.getElem?_set]
  by_cases hq : j = q
  · subst hq
    have hlt := (List.getElem?_eq_some_iff.mp hf).1
    rw [if_pos rfl, if_pos (by simpa using hlt)]
    simp [List.getElem?_mapIdx, hf, hv]
  · rw [if_neg hq]
    simp only [List.getElem?_mapIdx]
    cases fl[q]? with
    | none => rfl
    | some c =>
      have e : up ω k j z k q = ω k q := up_i (fun h => hq (by omega))
      simp only [Option.map_some]
      match c with
      | 0 => simp only [fv, e]
      | 1 => simp only [fv, e]
      | c + 2 => rfl
/-- the locals, by their places -/
def lvl (X : Cx) : Nat → List (Option MV) → List (Nat × Value)
  | _, [] => []
  | i, none :: r => lvl X (i + 1) r
  | i, some v :: r => (i, emb X v) :: lvl X (i + 1) r
theorem lvl_mem {X : Cx} : ∀ (lv : List (Option MV)) (n : Nat) (q : Nat × Value), q ∈ lvl X n lv ↔ ∃ j v, q = (n + j, emb X v) ∧ lv[j]? = some (some v) := by
  intro lv
  induction lv with
  | nil => intro n q; simp [lvl]
  | cons a r ih =>
    intro n q
    have tail : q ∈ lvl X (n + 1) r ↔ ∃ j v, q = (n + (j + 1), emb X v) ∧ (a :: r)[j + 1]? = some (some v) := by
      rw [ih]
      constructor
      · rintro ⟨j, v, h1, h2⟩; exact ⟨j, v, by rw [h1]; congr 1; omega, by simpa using h2⟩
      · rintro ⟨j, v, h1, h2⟩; exact ⟨j, v, by rw [h1]; congr 1; omega, by simpa using h2⟩
    cases a with
    | none =>
      simp only [lvl]
      rw [tail]
      constructor
      · rintro ⟨j, v, h⟩; exact ⟨j + 1, v, h⟩
      · rintro ⟨j, v, h1, h2⟩
        cases j with
        | zero => simp at h2
        | succ j => exact ⟨j, v, h1, h2⟩
    | some v0 =>
      simp only [lvl, List.mem_cons]
      rw [tail]
      constructor
      · rintro (h | ⟨j, v, h⟩)
        · exact ⟨0, v0, by simpa using h, rfl⟩
        · exact ⟨j + 1, v, h⟩
      · rintro ⟨j, v, h1, h2⟩
        cases j with
        | zero => left; simp at h2; subst h2; simpa using h1
        | succ j => exact Or.inr ⟨j, v, h1, h2⟩
theorem lvl_at {X : Cx} {ls : Array Slot} {nL : Nat} {lv : List (Option MV)} (h : lv_has ls nL (lvl X 0 lv)) {i : Nat} {v : MV} (hi : lv[i]? = some (some v)) : ls[i]? = some (.val (emb X v)) :=
  h.2.2 (i, emb X v) ((lvl_mem lv 0 _).mpr ⟨i, v, by simp, hi⟩)
def noL (o : Option (Option MV)) : Bool := match o with
  | some (some (.inr (.inl _))) => false
  | _ => true
theorem cat_noL {X : Cx} {v : MV} (h : noL (some (some v)) = true) : (emb X v).category = 1 := by
  match v, h with
  | .inl z, _ => rfl
  | .inr (.inr k), _ => rfl
theorem emb_cat1 {X : Cx} {v : MV} (h : (emb X v).category = 2) : noL (some (some v)) = false := by
  match v, h with
  | .inr (.inl z), _ => rfl
theorem lvl_set {X : Cx} {ls : Array Slot} {nL i : Nat} {lv : List (Option MV)} {v : MV} (hno : i = 0 ∨ noL lv[i - 1]? = true)
    (h : lv_has ls nL ((i, emb X v) :: (lvl X 0 lv).filter (fun q => !(q.1 == i) && !(q.1 + 1 == i && q.2.category == 2)))) : lv_has ls nL (lvl X 0 (lv.set i (some v))) := by
  refine ⟨h.1, h.2.1, fun q hq => h.2.2 q ?_⟩
  obtain ⟨j, w, h1, h2⟩ := (lvl_mem _ 0 _).mp hq
  subst h1
  rw [List.getElem?_set] at h2
  by_cases hj : i = j
  · subst hj
    rw [if_pos rfl] at h2
    split at h2
    · cases h2; simp
    · cases h2
  · rw [if_neg hj] at h2
    refine List.mem_cons_of_mem _ (List.mem_filter.mpr ⟨(lvl_mem lv 0 _).mpr ⟨j, w, rfl, h2⟩, ?_⟩)
    simp only [Nat.zero_add, Bool.and_eq_true, Bool.not_eq_true', beq_eq_false_iff_ne, ne_eq, Bool.and_eq_false_iff]
    refine ⟨fun e => hj e.symm, ?_⟩
    by_cases e : j + 1 = i
    · right
      intro hc
      rcases hno with h0 | h0
      · omega
      · rw [show i - 1 = j from by omega, h2] at h0
        rw [emb_cat1 hc] at h0
        cases h0
    · left; exact e
theorem lvl_set2 {X : Cx} {ls : Array Slot} {nL i : Nat} {lv : List (Option MV)} {v : MV} (hno : i = 0 ∨ noL lv[i - 1]? = true)
    (h : lv_has ls nL ((i, emb X v) :: (lvl X 0 lv).filter (fun q => !(q.1 == i) && (!(q.1 == i + 1) && !(q.1 + 1 == i && q.2.category == 2))))) : lv_has ls nL (lvl X 0 ((lv.set i (some v)).set (i + 1) none)) := by
  refine ⟨h.1, h.2.1, fun q hq => h.2.2 q ?_⟩
  obtain ⟨j, w, h1, h2⟩ := (lvl_mem _ 0 _).mp hq
  subst h1
  rw [List.getElem?_set] at h2
  by_cases hj1 : i + 1 = j
  · rw [if_pos hj1] at h2
    split at h2
    · cases h2
    · cases h2
  · rw [if_neg hj1, List.getElem?_set] at h2
    by_cases hj : i = j
    · subst hj
      rw [if_pos rfl] at h2
      split at h2
      · cases h2; simp
      · cases h2
    · rw [if_neg hj] at h2
      refine List.mem_cons_of_mem _ (List.mem_filter.mpr ⟨(lvl_mem lv 0 _).mpr ⟨j, w, rfl, h2⟩, ?_⟩)
      simp only [Nat.zero_add, Bool.and_eq_true, Bool.not_eq_true', beq_eq_false_iff_ne, ne_eq, Bool.and_eq_false_iff]
      refine ⟨fun e => hj e.symm, fun e => hj1 e.symm, ?_⟩
      by_cases e : j + 1 = i
      · right
        intro hc
        rcases hno with h0 | h0
        · omega
        · rw [show i - 1 = j from by omega, h2] at h0
          rw [emb_cat1 hc] at h0
          cases h0
      · left; exact e
end
section
/-! judgements of the small machine -/
def rmD (d : Nat) : Room := { frames := d + 1, cells := 0, slots := 0, locals := 40 * d + 12 }
def PcX (X : Cx) (as : List MV) (ω : Om) : Array Value → State → Prop := fun v U => v = (as.map (emb X)).toArray ∧ (∀ a ∈ as, RV a) ∧ ROm ω ∧ InjX X ∧ va_P X.2.1 vwCl (pic X ω) U.heap ∧ va_K X.2.1 vwCl (tysX X) U ∧ ∀ w ∈ nTbl, va_Nw w U
def QcX (X : Cx) (Q : Option MV → Om → Prop) : Array Value → State → Outcome → State → Prop := fun _ st oc t => ∃ (r : Option MV) (ω : Om), oc = .returned (r.map (emb X)) ∧ (∀ v, r = some v → RV v) ∧ ROm ω ∧ Q r ω ∧ va_P X.2.1 vwCl (pic X ω) t.heap ∧ va_F (AX X) st t
/-- the method's contract at these arguments and cells: it returns, and Q of its answer and the cells behind it -/
def Mc (X : Cx) (y : MD) (d : Nat) (as : List MV) (ω : Om) (Q : Option MV → Om → Prop) : Prop :=
  Met X.1 y.1 (cdw y :: gTbl) (rmD d) (PcX X as ω) (QcX X Q) 0 0 (AX X)
def Act (X : Cx) (A : Nat → Prop) (own : String) (cc : ByteArray) (nL : Nat) (p : Program) (s : State) (m : MethodId) (args : Array Value) (c : Code) : Prop :=
  p.tables.exec = Jvm.exec ∧ c.code = cc ∧ c.maxLocals = nL ∧ s.vm.findClass own = some m.cls ∧ (∀ w ∈ gTbl, w.before args s = true) ∧ (∀ w ∈ nTbl, va_Nw w s) ∧ va_K X.2.1 vwCl (tysX X) s ∧ InjX X ∧ ∀ k, k < 52 → A (X.2.2.1 k)
abbrev PT : Type := Program → Env → Room → State → MethodId → Array Value → List Frame → Method → Code → Nat → Nat → (State → Prop) → Prop
/-- from here on, at this place, with these locals, this stack, these cells: the machine comes to what is asked -/
def J (X : Cx) (A : Nat → Prop) (own : String) (cc : ByteArray) (nL : Nat) (P : PT) (pc : Nat) (lv : List (Option MV)) (st : List MV) (ω : Om) : Prop :=
  ∀ (p : Program) (e : Env) (R : Room) (s : State) (m : MethodId) (args : Array Value) (below : List Frame) (meth : Method) (c : Code) (cells slots : Nat) (Qm : State → Prop),
    Act X A own cc nL p s m args c → P p e R s m args below meth c cells slots Qm →
    ∀ (H : Heap) (locs : List Loc) (ls : Array Slot), (∀ v ∈ st, RV v) → (∀ v, some v ∈ lv → RV v) → ROm ω → va_P X.2.1 vwCl (pic X ω) H → va_S A s.heap H locs → lv_has ls nL (lvl X 0 lv) →
      W p X.1 e R s m args below meth c H locs cells slots Qm (F0 m pc ls (st.map (emb X)))
def Pm (X : Cx) (y : MD) (d : Nat) (Q : Option MV → Om → Prop) : PT := fun _ _ R s _ args below meth _ cells slots Qm => meth.sig.returnType = y.2.2.2 ∧ meth.locks = false ∧ R = rmD d ∧ cells = 0 ∧ slots = 0 ∧ Qm = MQ below (QcX X Q) args s 0 0 (AX X)
/-- inside a method -/
abbrev JM (X : Cx) (y : MD) (d : Nat) (Q : Option MV → Om → Prop) (pc : Nat) (lv : List (Option MV)) (st : List MV) (ω : Om) : Prop := J X (AX X) y.1.cls y.2.1 y.2.2.1 (Pm X y d Q) pc lv st ω
section JR
variable {X : Cx} {A : Nat → Prop} {own : String} {cc : ByteArray} {nL : Nat} {P : PT} {pc : Nat} {lv : List (Option MV)} {st : List MV} {ω : Om}
theorem i32_of {z : Int} (h : InR z) : (Int32.ofInt z).toInt = z := Int32.toInt_ofInt_of_le (by have := h.1; omega) (by have := h.2; omega)
theorem i64_of {z : Int} (h : InL z) : (Int64.ofInt z).toInt = z := Int64.toInt_ofInt_of_le (by have := h.1; omega) (by have := h.2; omega)
theorem i32_R (x : Int32) : InR x.toInt := ⟨by have := x.le_toInt; omega, by have := x.toInt_lt; omega⟩
theorem i64_L (x : Int64) : InL x.toInt := ⟨by have := x.le_toInt; omega, by have := x.toInt_lt; omega⟩
theorem i32_lt {x y : Int} (hx : InR x) (hy : InR y) : Int32.ofInt x < Int32.ofInt y ↔ x < y := by rw [Int32.lt_iff_toInt_lt, i32_of hx, i32_of hy]
theorem i32_le {x y : Int} (hx : InR x) (hy : InR y) : Int32.ofInt x ≤ Int32.ofInt y ↔ x ≤ y := by rw [Int32.le_iff_toInt_le, i32_of hx, i32_of hy]
theorem i32_eq {x y : Int} (hx : InR x) (hy : InR y) : Int32.ofInt x = Int32.ofInt y ↔ x = y := by rw [← Int32.toInt_inj, i32_of hx, i32_of hy]
theorem InR0 : InR 0 := ⟨by decide, by decide⟩
theorem i32_0 : Int32.ofInt 0 = 0 := by decide
theorem i32_toNat {z : Int} (h : InR z) : (Int32.ofInt z).toNatClampNeg = z.toNat := by rw [← Int32.toNat_toInt, i32_of h]
theorem st_c {v : MV} {r : List MV} (hv : RV v) (hr : ∀ w ∈ r, RV w) : ∀ w ∈ v :: r, RV w := fun w h => by
  rcases List.mem_cons.mp h with rfl | h
  · exact hv
  · exact hr w h
theorem st_t {v : MV} {r : List MV} (h : ∀ w ∈ v :: r, RV w) : ∀ w ∈ r, RV w := fun w hw => h w (List.mem_cons_of_mem _ hw)
theorem st_h {v : MV} {r : List MV} (h : ∀ w ∈ v :: r, RV w) : RV v := h v List.mem_cons_self
theorem lv_s {lv : List (Option MV)} {i : Nat} {v : MV} (hv : RV v) (h : ∀ w, some w ∈ lv → RV w) : ∀ w, some w ∈ lv.set i (some v) → RV w := fun w hw => by
  rcases List.mem_or_eq_of_mem_set hw with q | q
  · exact h w q
  · cases q; exact hv
theorem lv_s0 {lv : List (Option MV)} {i : Nat} (h : ∀ w, some w ∈ lv → RV w) : ∀ w, some w ∈ lv.set i none → RV w := fun w hw => by
  rcases List.mem_or_eq_of_mem_set hw with q | q
  · exact h w q
  · cases q
/-- what the cells hold is in range -/
theorem J_rng (k : ROm ω → J X A own cc nL P pc lv st ω) : J X A own cc nL P pc lv st ω :=
  fun p e R s m args below meth c cells slots Qm hA hP H locs ls h1 h2 h3 h4 h5 h6 => k h3 p e R s m args below meth c cells slots Qm hA hP H locs ls h1 h2 h3 h4 h5 h6
theorem J_rngS {v : MV} (k : RV v → J X A own cc nL P pc lv (v :: st) ω) : J X A own cc nL P pc lv (v :: st) ω :=
  fun p e R s m args below meth c cells slots Qm hA hP H locs ls h1 h2 h3 h4 h5 h6 => k (st_h h1) p e R s m args below meth c cells slots Qm hA hP H locs ls h1 h2 h3 h4 h5 h6
theorem J_rngL {v : MV} (hv : some v ∈ lv) (k : RV v → J X A own cc nL P pc lv st ω) : J X A own cc nL P pc lv st ω :=
  fun p e R s m args below meth c cells slots Qm hA hP H locs ls h1 h2 h3 h4 h5 h6 => k (h2 v hv) p e R s m args below meth c cells slots Qm hA hP H locs ls h1 h2 h3 h4 h5 h6
theorem J_iconst (n : Int) (hd : decode cc pc = .ok (.iconst n, 1)) (hr : InR n) (k : J X A own cc nL P (pc + 1) lv (vI n :: st) ω) : J X A own cc nL P pc lv st ω :=
  fun p e R s m args below meth c cells slots Qm hA hP H locs ls h1 h2 h3 h4 h5 h6 => lv_iconst hA.1 hA.2.1 hd rfl (k p e R s m args below meth c cells slots Qm hA hP H locs ls (st_c hr h1) h2 h3 h4 h5 h6)
theorem J_bipush (n : Int) (hd : decode cc pc = .ok (.bipush n, 2)) (hr : InR n) (hn : (Int8.ofInt n).toInt32 = Int32.ofInt n) (k : J X A own cc nL P (pc + 2) lv (vI n :: st) ω) : J X A own cc nL P pc lv st ω :=
  fun p e R s m args below meth c cells slots Qm hA hP H locs ls h1 h2 h3 h4 h5 h6 => lv_bipush hA.1 hA.2.1 hd hn (k p e R s m args below meth c cells slots Qm hA hP H locs ls (st_c hr h1) h2 h3 h4 h5 h6)
theorem J_sipush (n : Int) (hd : decode cc pc = .ok (.sipush n, 3)) (hr : InR n) (hn : (Int16.ofInt n).toInt32 = Int32.ofInt n) (k : J X A own cc nL P (pc + 3) lv (vI n :: st) ω) : J X A own cc nL P pc lv st ω :=
  fun p e R s m args below meth c cells slots Qm hA hP H locs ls h1 h2 h3 h4 h5 h6 => lv_sipush hA.1 hA.2.1 hd hn (k p e R s m args below meth c cells slots Qm hA hP H locs ls (st_c hr h1) h2 h3 h4 h5 h6)
theorem J_lconst0 (hd : decode cc pc = .ok (.lconst 0, 1)) (k : J X A own cc nL P (pc + 1) lv (vL 0 :: st) ω) : J X A own cc nL P pc lv st ω :=
  fun p e R s m args below meth c cells slots Qm hA hP H locs ls h1 h2 h3 h4 h5 h6 => lv_lconst hA.1 hA.2.1 hd (by decide) (k p e R s m args below meth c cells slots Qm hA hP H locs ls (st_c (show InL 0 from ⟨by decide, by decide⟩) h1) h2 h3 h4 h5 h6)
theorem J_lconst1 (hd : decode cc pc = .ok (.lconst 1, 1)) (k : J X A own cc nL P (pc + 1) lv (vL 1 :: st) ω) : J X A own cc nL P pc lv st ω :=
  fun p e R s m args below meth c cells slots Qm hA hP H locs ls h1 h2 h3 h4 h5 h6 => lv_lconst hA.1 hA.2.1 hd (by decide) (k p e R s m args below meth c cells slots Qm hA hP H locs ls (st_c (show InL 1 from ⟨by decide, by decide⟩) h1) h2 h3 h4 h5 h6)
theorem J_ldcw {index : Nat} {v : Int32} (hw : Cond.constant own index v ∈ gTbl) (hd : decode cc pc = .ok (.ldc_w index, 3)) (k : J X A own cc nL P (pc + 3) lv (vI v.toInt :: st) ω) : J X A own cc nL P pc lv st ω :=
  fun p e R s m args below meth c cells slots Qm hA hP H locs ls h1 h2 h3 h4 h5 h6 => lv_ldcw hA.1 hA.2.1 hA.2.2.2.1 (hA.2.2.2.2.1 _ hw) hd (by
    have q := k p e R s m args below meth c cells slots Qm hA hP H locs ls (st_c (i32_R v) h1) h2 h3 h4 h5 h6
    simp only [List.map_cons, emb, Int32.ofInt_toInt] at q
    exact q)
theorem J_ldc2 {index : Nat} {v : Int64} (hw : Cond.constantLong own index v ∈ gTbl) (hd : decode cc pc = .ok (.ldc2_w index, 3)) (k : J X A own cc nL P (pc + 3) lv (vL v.toInt :: st) ω) : J X A own cc nL P pc lv st ω :=
  fun p e R s m args below meth c cells slots Qm hA hP H locs ls h1 h2 h3 h4 h5 h6 => lv_ldc2 hA.1 hA.2.1 hA.2.2.2.1 (hA.2.2.2.2.1 _ hw) hd (by
    have q := k p e R s m args below meth c cells slots Qm hA hP H locs ls (st_c (i64_L v) h1) h2 h3 h4 h5 h6
    simp only [List.map_cons, emb, Int64.ofInt_toInt] at q
    exact q)
-- locals
theorem lvR {v : MV} {i : Nat} (hi : lv[i]? = some (some v)) (h2 : ∀ w, some w ∈ lv → RV w) : RV v := h2 v (List.mem_of_getElem? hi)
theorem J_iload_n (i : Fin 4) {z : Int} (hd : decode cc pc = .ok (.iload_n i, 1)) (hi : lv[i.val]? = some (some (vI z))) (k : J X A own cc nL P (pc + 1) lv (vI z :: st) ω) : J X A own cc nL P pc lv st ω :=
  fun p e R s m args below meth c cells slots Qm hA hP H locs ls h1 h2 h3 h4 h5 h6 => lv_iload_n hA.1 hA.2.1 hd rfl (lvl_at h6 hi) (k p e R s m args below meth c cells slots Qm hA hP H locs ls (st_c (lvR hi h2) h1) h2 h3 h4 h5 h6)
theorem J_iload (i : Nat) {z : Int} (hd : decode cc pc = .ok (.iload i, 2)) (hi : lv[i]? = some (some (vI z))) (k : J X A own cc nL P (pc + 2) lv (vI z :: st) ω) : J X A own cc nL P pc lv st ω :=
  fun p e R s m args below meth c cells slots Qm hA hP H locs ls h1 h2 h3 h4 h5 h6 => lv_iload hA.1 hA.2.1 hd (lvl_at h6 hi) (k p e R s m args below meth c cells slots Qm hA hP H locs ls (st_c (lvR hi h2) h1) h2 h3 h4 h5 h6)
theorem J_lload_n (i : Fin 4) {z : Int} (hd : decode cc pc = .ok (.lload_n i, 1)) (hi : lv[i.val]? = some (some (vL z))) (k : J X A own cc nL P (pc + 1) lv (vL z :: st) ω) : J X A own cc nL P pc lv st ω :=
  fun p e R s m args below meth c cells slots Qm hA hP H locs ls h1 h2 h3 h4 h5 h6 => lv_lload_n hA.1 hA.2.1 hd rfl (lvl_at h6 hi) (k p e R s m args below meth c cells slots Qm hA hP H locs ls (st_c (lvR hi h2) h1) h2 h3 h4 h5 h6)
theorem J_lload (i : Nat) {z : Int} (hd : decode cc pc = .ok (.lload i, 2)) (hi : lv[i]? = some (some (vL z))) (k : J X A own cc nL P (pc + 2) lv (vL z :: st) ω) : J X A own cc nL P pc lv st ω :=
  fun p e R s m args below meth c cells slots Qm hA hP H locs ls h1 h2 h3 h4 h5 h6 => lv_lload hA.1 hA.2.1 hd (lvl_at h6 hi) (k p e R s m args below meth c cells slots Qm hA hP H locs ls (st_c (lvR hi h2) h1) h2 h3 h4 h5 h6)
theorem J_aload_n (i : Fin 4) {z : Nat} (hd : decode cc pc = .ok (.aload_n i, 1)) (hi : lv[i.val]? = some (some (vR z))) (k : J X A own cc nL P (pc + 1) lv (vR z :: st) ω) : J X A own cc nL P pc lv st ω :=
  fun p e R s m args below meth c cells slots Qm hA hP H locs ls h1 h2 h3 h4 h5 h6 => lv_aload_n hA.1 hA.2.1 hd rfl (lvl_at h6 hi) (k p e R s m args below meth c cells slots Qm hA hP H locs ls (st_c (lvR hi h2) h1) h2 h3 h4 h5 h6)
theorem J_istore_n (i : Fin 4) {z : Int} {lv' : List (Option MV)} (hd : decode cc pc = .ok (.istore_n i, 1)) (hn : i.val < nL) (hno : i.val = 0 ∨ noL lv[i.val - 1]? = true) (hl : lv.set i.val (some (vI z)) = lv') (k : J X A own cc nL P (pc + 1) lv' st ω) : J X A own cc nL P pc lv (vI z :: st) ω :=
  fun p e R s m args below meth c cells slots Qm hA hP H locs ls h1 h2 h3 h4 h5 h6 => lv_istore_n hA.1 hA.2.1 hd rfl h6 hn rfl (fun ls' h => k p e R s m args below meth c cells slots Qm hA hP H locs ls' (st_t h1) (hl ▸ lv_s (st_h h1) h2) h3 h4 h5 (hl ▸ lvl_set (v := vI z) hno h))
theorem J_istore (i : Nat) {z : Int} {lv' : List (Option MV)} (hd : decode cc pc = .ok (.istore i, 2)) (hn : i < nL) (hno : i = 0 ∨ noL lv[i - 1]? = true) (hl : lv.set i (some (vI z)) = lv') (k : J X A own cc nL P (pc + 2) lv' st ω) : J X A own cc nL P pc lv (vI z :: st) ω :=
  fun p e R s m args below meth c cells slots Qm hA hP H locs ls h1 h2 h3 h4 h5 h6 => lv_istore hA.1 hA.2.1 hd h6 hn rfl (fun ls' h => k p e R s m args below meth c cells slots Qm hA hP H locs ls' (st_t h1) (hl ▸ lv_s (st_h h1) h2) h3 h4 h5 (hl ▸ lvl_set (v := vI z) hno h))
theorem J_lstore_n (i : Fin 4) {z : Int} {lv' : List (Option MV)} (hd : decode cc pc = .ok (.lstore_n i, 1)) (hn : i.val + 1 < nL) (hno : i.val = 0 ∨ noL lv[i.val - 1]? = true) (hl : (lv.set i.val (some (vL z))).set (i.val + 1) none = lv') (k : J X A own cc nL P (pc + 1) lv' st ω) : J X A own cc nL P pc lv (vL z :: st) ω :=
  fun p e R s m args below meth c cells slots Qm hA hP H locs ls h1 h2 h3 h4 h5 h6 => lv_lstore_n hA.1 hA.2.1 hd rfl h6 hn rfl (fun ls' h => k p e R s m args below meth c cells slots Qm hA hP H locs ls' (st_t h1) (hl ▸ lv_s0 (lv_s (st_h h1) h2)) h3 h4 h5 (hl ▸ lvl_set2 (v := vL z) hno h))
theorem J_lstore (i : Nat) {z : Int} {lv' : List (Option MV)} (hd : decode cc pc = .ok (.lstore i, 2)) (hn : i + 1 < nL) (hno : i = 0 ∨ noL lv[i - 1]? = true) (hl : (lv.set i (some (vL z))).set (i + 1) none = lv') (k : J X A own cc nL P (pc + 2) lv' st ω) : J X A own cc nL P pc lv (vL z :: st) ω :=
  fun p e R s m args below meth c cells slots Qm hA hP H locs ls h1 h2 h3 h4 h5 h6 => lv_lstore hA.1 hA.2.1 hd h6 hn rfl (fun ls' h => k p e R s m args below meth c cells slots Qm hA hP H locs ls' (st_t h1) (hl ▸ lv_s0 (lv_s (st_h h1) h2)) h3 h4 h5 (hl ▸ lvl_set2 (v := vL z) hno h))
theorem J_iinc (i : Nat) (n : Int) {z : Int} {lv' : List (Option MV)} (hd : decode cc pc = .ok (.iinc i n, 3)) (hn : i < nL) (hi : lv[i]? = some (some (vI z))) (hr : InR (z + n)) (hno : i = 0 ∨ noL lv[i - 1]? = true) (hl : lv.set i (some (vI (z + n))) = lv') (k : J X A own cc nL P (pc + 3) lv' st ω) : J X A own cc nL P pc lv st ω :=
  fun p e R s m args below meth c cells slots Qm hA hP H locs ls h1 h2 h3 h4 h5 h6 => by
    obtain ⟨q, hq⟩ := List.getElem?_of_mem ((lvl_mem (X := X) lv 0 (i, emb X (vI z))).mpr ⟨i, vI z, by simp, hi⟩)
    exact lv_iinc hA.1 hA.2.1 hd h6 hq (v := Int32.ofInt (z + n)) (by rw [Int32.ofInt_add]) hn rfl (fun ls' h => k p e R s m args below meth c cells slots Qm hA hP H locs ls' h1 (hl ▸ lv_s (show RV (vI (z + n)) from hr) h2) h3 h4 h5 (hl ▸ lvl_set (v := vI (z + n)) hno h))
-- arithmetic
def zAnd (x y : Int) : Int := (Int32.ofInt x &&& Int32.ofInt y).toInt
def zOr (x y : Int) : Int := (Int32.ofInt x ||| Int32.ofInt y).toInt
def zXor (x y : Int) : Int := (Int32.ofInt x ^^^ Int32.ofInt y).toInt
def zShl (x y : Int) : Int := (Int32.ofInt x <<< (Int32.ofInt y &&& 31)).toInt
def zShr (x y : Int) : Int := (Int32.ofInt x >>> (Int32.ofInt y &&& 31)).toInt
def zUshr (x y : Int) : Int := (((Int32.ofInt x).toUInt32 >>> ((Int32.ofInt y).toUInt32 &&& Int32.toUInt32 31)).toInt32).toInt
def zAdd (x y : Int) : Int := (Int32.ofInt x + Int32.ofInt y).toInt
def zSub (x y : Int) : Int := (Int32.ofInt x - Int32.ofInt y).toInt
def lAdd (x y : Int) : Int := (Int64.ofInt x + Int64.ofInt y).toInt
def lSub (x y : Int) : Int := (Int64.ofInt x - Int64.ofInt y).toInt
def lMul (x y : Int) : Int := (Int64.ofInt x * Int64.ofInt y).toInt
def lAnd (x y : Int) : Int := (Int64.ofInt x &&& Int64.ofInt y).toInt
def lOr (x y : Int) : Int := (Int64.ofInt x ||| Int64.ofInt y).toInt
def lXor (x y : Int) : Int := (Int64.ofInt x ^^^ Int64.ofInt y).toInt
def lShl (x y : Int) : Int := (Int64.ofInt x <<< ((Int32.ofInt y).toInt64 &&& 63)).toInt
def lShr (x y : Int) : Int := (Int64.ofInt x >>> ((Int32.ofInt y).toInt64 &&& 63)).toInt
def lUshr (x y : Int) : Int := ((Int64.ofInt x).toUInt64 >>> ((Int32.ofInt y).toInt64.toUInt64 &&& Int64.toUInt64 63)).toInt64.toInt
def l2i (x : Int) : Int := (Int64.ofInt x).toInt32.toInt
def lCmp (x y : Int) : Int := if y < x then 1 else if x = y then 0 else -1
theorem lg_cmpZ {x y : Int} (hx : InL x) (hy : InL y) : lg_cmp (Int64.ofInt x) (Int64.ofInt y) = Int32.ofInt (lCmp x y) := by
  have a : Int64.ofInt y < Int64.ofInt x ↔ y < x := by rw [Int64.lt_iff_toInt_lt, i64_of hx, i64_of hy]
  have b : Int64.ofInt x = Int64.ofInt y ↔ x = y := by rw [← Int64.toInt_inj, i64_of hx, i64_of hy]
  unfold lg_cmp lCmp
  simp only [a, b]
  split
  · rfl
  · split <;> rfl
theorem lCmp_R {x y : Int} : InR (lCmp x y) := by
  unfold lCmp InR; split
  · omega
  · split <;> omega
theorem rem_of {x y : Int} (hx : InR x) (hy : InR y) (h0 : 0 ≤ x) (h1 : 0 < y) : Int32.ofInt x - Int32.ofInt x / Int32.ofInt y * Int32.ofInt y = Int32.ofInt (x % y) := by
  have e1 : Int32.ofInt x = nI x.toNat := by
    apply Int32.toInt_inj.mp; rw [i32_of hx, nI_toInt (by have := hx.2; omega)]; omega
  have e2 : Int32.ofInt y = nI y.toNat := by
    apply Int32.toInt_inj.mp; rw [i32_of hy, nI_toInt (by have := hy.2; omega)]; omega
  have hm : x % y < y := Int.emod_lt_of_pos x h1
  have hp : 0 ≤ x % y := Int.emod_nonneg x (by omega)
  have h2 := hy.2
  have h3 := hx.2
  rw [e1, e2, pk_rem (by omega) (by omega) (by omega)]
  apply Int32.toInt_inj.mp
  have hlt : x.toNat % y.toNat < y.toNat := Nat.mod_lt _ (by omega)
  rw [nI_toInt (by omega), i32_of ⟨by omega, by omega⟩, Int.natCast_emod, Int.toNat_of_nonneg h0, Int.toNat_of_nonneg (by omega)]
theorem div_of {x y : Int} (hx : InR x) (hy : InR y) (h0 : 0 ≤ x) (h1 : 0 < y) : Int32.ofInt x / Int32.ofInt y = Int32.ofInt (x / y) := by
  have e1 : Int32.ofInt x = nI x.toNat := by
    apply Int32.toInt_inj.mp; rw [i32_of hx, nI_toInt (by have := hx.2; omega)]; omega
  have e2 : Int32.ofInt y = nI y.toNat := by
    apply Int32.toInt_inj.mp; rw [i32_of hy, nI_toInt (by have := hy.2; omega)]; omega
  have h2 := hy.2
  have h3 := hx.2
  have hle : x / y ≤ x := Int.ediv_le_self y h0
  have hp : 0 ≤ x / y := Int.ediv_nonneg h0 (by omega)
  rw [e1, e2, pk_div (by omega) (by omega) (by omega)]
  apply Int32.toInt_inj.mp
  have hlt : x.toNat / y.toNat ≤ x.toNat := Nat.div_le_self _ _
  rw [nI_toInt (by omega), i32_of ⟨by omega, by omega⟩, Int.natCast_ediv, Int.toNat_of_nonneg h0, Int.toNat_of_nonneg (by omega)]
theorem J_iadd {x y : Int} (hd : decode cc pc = .ok (.iadd, 1)) (hr : InR (x + y)) (k : J X A own cc nL P (pc + 1) lv (vI (x + y) :: st) ω) : J X A own cc nL P pc lv (vI y :: vI x :: st) ω :=
  fun p e R s m args below meth c cells slots Qm hA hP H locs ls h1 h2 h3 h4 h5 h6 => lv_iadd hA.1 hA.2.1 hd (by
    have q := k p e R s m args below meth c cells slots Qm hA hP H locs ls (st_c (show RV (vI (x + y)) from hr) (st_t (st_t h1))) h2 h3 h4 h5 h6
    simp only [List.map_cons, emb, Int32.ofInt_add] at q
    exact q)
theorem J_isub {x y : Int} (hd : decode cc pc = .ok (.isub, 1)) (hr : InR (x - y)) (k : J X A own cc nL P (pc + 1) lv (vI (x - y) :: st) ω) : J X A own cc nL P pc lv (vI y :: vI x :: st) ω :=
  fun p e R s m args below meth c cells slots Qm hA hP H locs ls h1 h2 h3 h4 h5 h6 => lv_isub hA.1 hA.2.1 hd (by
    have q := k p e R s m args below meth c cells slots Qm hA hP H locs ls (st_c (show RV (vI (x - y)) from hr) (st_t (st_t h1))) h2 h3 h4 h5 h6
    simp only [List.map_cons, emb, Int32.ofInt_sub] at q
    exact q)
theorem J_imul {x y : Int} (hd : decode cc pc = .ok (.imul, 1)) (hr : InR (x * y)) (k : J X A own cc nL P (pc + 1) lv (vI (x * y) :: st) ω) : J X A own cc nL P pc lv (vI y :: vI x :: st) ω :=
  fun p e R s m args below meth c cells slots Qm hA hP H locs ls h1 h2 h3 h4 h5 h6 => lv_imul hA.1 hA.2.1 hd (by
    have q := k p e R s m args below meth c cells slots Qm hA hP H locs ls (st_c (show RV (vI (x * y)) from hr) (st_t (st_t h1))) h2 h3 h4 h5 h6
    simp only [List.map_cons, emb, Int32.ofInt_mul] at q
    exact q)
theorem J_iand {x y : Int} (hd : decode cc pc = .ok (.iand, 1)) (k : J X A own cc nL P (pc + 1) lv (vI (zAnd x y) :: st) ω) : J X A own cc nL P pc lv (vI y :: vI x :: st) ω :=
  fun p e R s m args below meth c cells slots Qm hA hP H locs ls h1 h2 h3 h4 h5 h6 => lv_iand hA.1 hA.2.1 hd (by
    have q := k p e R s m args below meth c cells slots Qm hA hP H locs ls (st_c (show RV (vI (zAnd x y)) from i32_R _) (st_t (st_t h1))) h2 h3 h4 h5 h6
    simp only [List.map_cons, emb, zAnd, Int32.ofInt_toInt] at q
    exact q)
theorem J_ior {x y : Int} (hd : decode cc pc = .ok (.ior, 1)) (k : J X A own cc nL P (pc + 1) lv (vI (zOr x y) :: st) ω) : J X A own cc nL P pc lv (vI y :: vI x :: st) ω :=
  fun p e R s m args below meth c cells slots Qm hA hP H locs ls h1 h2 h3 h4 h5 h6 => lv_ior hA.1 hA.2.1 hd (by
    have q := k p e R s m args below meth c cells slots Qm hA hP H locs ls (st_c (show RV (vI (zOr x y)) from i32_R _) (st_t (st_t h1))) h2 h3 h4 h5 h6
    simp only [List.map_cons, emb, zOr, Int32.ofInt_toInt] at q
    exact q)
theorem J_ixor {x y : Int} (hd : decode cc pc = .ok (.ixor, 1)) (k : J X A own cc nL P (pc + 1) lv (vI (zXor x y) :: st) ω) : J X A own cc nL P pc lv (vI y :: vI x :: st) ω :=
  fun p e R s m args below meth c cells slots Qm hA hP H locs ls h1 h2 h3 h4 h5 h6 => lv_ixor hA.1 hA.2.1 hd (by
    have q := k p e R s m args below meth c cells slots Qm hA hP H locs ls (st_c (show RV (vI (zXor x y)) from i32_R _) (st_t (st_t h1))) h2 h3 h4 h5 h6
    simp only [List.map_cons, emb, zXor, Int32.ofInt_toInt] at q
    exact q)
theorem J_ishl {x y : Int} (hd : decode cc pc = .ok (.ishl, 1)) (k : J X A own cc nL P (pc + 1) lv (vI (zShl x y) :: st) ω) : J X A own cc nL P pc lv (vI y :: vI x :: st) ω :=
  fun p e R s m args below meth c cells slots Qm hA hP H locs ls h1 h2 h3 h4 h5 h6 => lv_ishl hA.1 hA.2.1 hd (by
    have q := k p e R s m args below meth c cells slots Qm hA hP H locs ls (st_c (show RV (vI (zShl x y)) from i32_R _) (st_t (st_t h1))) h2 h3 h4 h5 h6
    simp only [List.map_cons, emb, zShl, Int32.ofInt_toInt] at q
    exact q)
theorem J_ishr {x y : Int} (hd : decode cc pc = .ok (.ishr, 1)) (k : J X A own cc nL P (pc + 1) lv (vI (zShr x y) :: st) ω) : J X A own cc nL P pc lv (vI y :: vI x :: st) ω :=
  fun p e R s m args below meth c cells slots Qm hA hP H locs ls h1 h2 h3 h4 h5 h6 => lv_ishr hA.1 hA.2.1 hd (by
    have q := k p e R s m args below meth c cells slots Qm hA hP H locs ls (st_c (show RV (vI (zShr x y)) from i32_R _) (st_t (st_t h1))) h2 h3 h4 h5 h6
    simp only [List.map_cons, emb, zShr, Int32.ofInt_toInt] at q
    exact q)
theorem J_iaddW {x y : Int} (hd : decode cc pc = .ok (.iadd, 1)) (k : J X A own cc nL P (pc + 1) lv (vI (zAdd x y) :: st) ω) : J X A own cc nL P pc lv (vI y :: vI x :: st) ω :=
  fun p e R s m args below meth c cells slots Qm hA hP H locs ls h1 h2 h3 h4 h5 h6 => lv_iadd hA.1 hA.2.1 hd (by
    have q := k p e R s m args below meth c cells slots Qm hA hP H locs ls (st_c (show RV (vI (zAdd x y)) from i32_R _) (st_t (st_t h1))) h2 h3 h4 h5 h6
    simp only [List.map_cons, emb, zAdd, Int32.ofInt_toInt] at q
    exact q)
theorem J_isubW {x y : Int} (hd : decode cc pc = .ok (.isub, 1)) (k : J X A own cc nL P (pc + 1) lv (vI (zSub x y) :: st) ω) : J X A own cc nL P pc lv (vI y :: vI x :: st) ω :=
  fun p e R s m args below meth c cells slots Qm hA hP H locs ls h1 h2 h3 h4 h5 h6 => lv_isub hA.1 hA.2.1 hd (by
    have q := k p e R s m args below meth c cells slots Qm hA hP H locs ls (st_c (show RV (vI (zSub x y)) from i32_R _) (st_t (st_t h1))) h2 h3 h4 h5 h6
    simp only [List.map_cons, emb, zSub, Int32.ofInt_toInt] at q
    exact q)
theorem J_iushr {x y : Int} (hd : decode cc pc = .ok (.iushr, 1)) (k : J X A own cc nL P (pc + 1) lv (vI (zUshr x y) :: st) ω) : J X A own cc nL P pc lv (vI y :: vI x :: st) ω :=
  fun p e R s m args below meth c cells slots Qm hA hP H locs ls h1 h2 h3 h4 h5 h6 => lv_iushr hA.1 hA.2.1 hd rfl (by
    have q := k p e R s m args below meth c cells slots Qm hA hP H locs ls (st_c (show RV (vI (zUshr x y)) from i32_R _) (st_t (st_t h1))) h2 h3 h4 h5 h6
    simp only [List.map_cons, emb, zUshr, Int32.ofInt_toInt] at q
    exact q)
theorem J_irem {x y : Int} (hd : decode cc pc = .ok (.irem, 1)) (h0 : 0 ≤ x) (hy : 0 < y) (k : J X A own cc nL P (pc + 1) lv (vI (x % y) :: st) ω) : J X A own cc nL P pc lv (vI y :: vI x :: st) ω :=
  fun p e R s m args below meth c cells slots Qm hA hP H locs ls h1 h2 h3 h4 h5 h6 => by
    have rx : InR x := st_h (st_t h1)
    have ry : InR y := st_h h1
    have hm : x % y < y := Int.emod_lt_of_pos x hy
    have hp : 0 ≤ x % y := Int.emod_nonneg x (by omega)
    have r2 := ry.2
    have q := k p e R s m args below meth c cells slots Qm hA hP H locs ls (st_c (show RV (vI (x % y)) from ⟨by omega, by omega⟩) (st_t (st_t h1))) h2 h3 h4 h5 h6
    refine lv_irem hA.1 hA.2.1 hd (fun h => ?_) ?_
    · rw [← i32_0, i32_eq ry InR0] at h; omega
    · rw [rem_of rx ry h0 hy]; exact q
theorem J_idiv {x y : Int} (hd : decode cc pc = .ok (.idiv, 1)) (h0 : 0 ≤ x) (hy : 0 < y) (k : J X A own cc nL P (pc + 1) lv (vI (x / y) :: st) ω) : J X A own cc nL P pc lv (vI y :: vI x :: st) ω :=
  fun p e R s m args below meth c cells slots Qm hA hP H locs ls h1 h2 h3 h4 h5 h6 => by
    have rx : InR x := st_h (st_t h1)
    have ry : InR y := st_h h1
    have hle : x / y ≤ x := Int.ediv_le_self y h0
    have hp : 0 ≤ x / y := Int.ediv_nonneg h0 (by omega)
    have r2 := rx.2
    have q := k p e R s m args below meth c cells slots Qm hA hP H locs ls (st_c (show RV (vI (x / y)) from ⟨by omega, by omega⟩) (st_t (st_t h1))) h2 h3 h4 h5 h6
    refine lv_idiv hA.1 hA.2.1 hd (fun h => ?_) ?_
    · rw [← i32_0, i32_eq ry InR0] at h; omega
    · rw [div_of rx ry h0 hy]; exact q
theorem J_i2l {x : Int} (hd : decode cc pc = .ok (.i2l, 1)) (k : J X A own cc nL P (pc + 1) lv (vL x :: st) ω) : J X A own cc nL P pc lv (vI x :: st) ω :=
  fun p e R s m args below meth c cells slots Qm hA hP H locs ls h1 h2 h3 h4 h5 h6 => lv_i2l hA.1 hA.2.1 hd (v := Int64.ofInt x) (by
    have rx : InR x := st_h h1
    apply Int64.toInt_inj.mp; rw [Int32.toInt_toInt64, i32_of rx, i64_of rx.L]) (k p e R s m args below meth c cells slots Qm hA hP H locs ls (st_c (show RV (vL x) from (show InR x from st_h h1).L) (st_t h1)) h2 h3 h4 h5 h6)
theorem J_l2i {x : Int} (hd : decode cc pc = .ok (.l2i, 1)) (k : J X A own cc nL P (pc + 1) lv (vI (l2i x) :: st) ω) : J X A own cc nL P pc lv (vL x :: st) ω :=
  fun p e R s m args below meth c cells slots Qm hA hP H locs ls h1 h2 h3 h4 h5 h6 => lv_l2i hA.1 hA.2.1 hd rfl (by
    have q := k p e R s m args below meth c cells slots Qm hA hP H locs ls (st_c (show RV (vI (l2i x)) from i32_R _) (st_t h1)) h2 h3 h4 h5 h6
    simp only [List.map_cons, emb, l2i, Int32.ofInt_toInt] at q
    exact q)
theorem J_lcmp {x y : Int} (hd : decode cc pc = .ok (.lcmp, 1)) (k : J X A own cc nL P (pc + 1) lv (vI (lCmp x y) :: st) ω) : J X A own cc nL P pc lv (vL y :: vL x :: st) ω :=
  fun p e R s m args below meth c cells slots Qm hA hP H locs ls h1 h2 h3 h4 h5 h6 => W.lcmp hA.1 hA.2.1 hd (by
    have q := k p e R s m args below meth c cells slots Qm hA hP H locs ls (st_c (show RV (vI (lCmp x y)) from lCmp_R) (st_t (st_t h1))) h2 h3 h4 h5 h6
    simp only [List.map_cons, emb] at q
    rw [lg_cmpZ (show InL x from st_h (st_t h1)) (show InL y from st_h h1)]
    exact q)
theorem J_ladd {x y : Int} (hd : decode cc pc = .ok (.ladd, 1)) (k : J X A own cc nL P (pc + 1) lv (vL (lAdd x y) :: st) ω) : J X A own cc nL P pc lv (vL y :: vL x :: st) ω :=
  fun p e R s m args below meth c cells slots Qm hA hP H locs ls h1 h2 h3 h4 h5 h6 => lv_ladd hA.1 hA.2.1 hd (by
    have q := k p e R s m args below meth c cells slots Qm hA hP H locs ls (st_c (show RV (vL (lAdd x y)) from i64_L _) (st_t (st_t h1))) h2 h3 h4 h5 h6
    simp only [List.map_cons, emb, lAdd, Int64.ofInt_toInt] at q
    exact q)
theorem J_lsub {x y : Int} (hd : decode cc pc = .ok (.lsub, 1)) (k : J X A own cc nL P (pc + 1) lv (vL (lSub x y) :: st) ω) : J X A own cc nL P pc lv (vL y :: vL x :: st) ω :=
  fun p e R s m args below meth c cells slots Qm hA hP H locs ls h1 h2 h3 h4 h5 h6 => lv_lsub hA.1 hA.2.1 hd (by
    have q := k p e R s m args below meth c cells slots Qm hA hP H locs ls (st_c (show RV (vL (lSub x y)) from i64_L _) (st_t (st_t h1))) h2 h3 h4 h5 h6
    simp only [List.map_cons, emb, lSub, Int64.ofInt_toInt] at q
    exact q)
theorem J_lmul {x y : Int} (hd : decode cc pc = .ok (.lmul, 1)) (k : J X A own cc nL P (pc + 1) lv (vL (lMul x y) :: st) ω) : J X A own cc nL P pc lv (vL y :: vL x :: st) ω :=
  fun p e R s m args below meth c cells slots Qm hA hP H locs ls h1 h2 h3 h4 h5 h6 => lv_lmul hA.1 hA.2.1 hd (by
    have q := k p e R s m args below meth c cells slots Qm hA hP H locs ls (st_c (show RV (vL (lMul x y)) from i64_L _) (st_t (st_t h1))) h2 h3 h4 h5 h6
    simp only [List.map_cons, emb, lMul, Int64.ofInt_toInt] at q
    exact q)
theorem J_land {x y : Int} (hd : decode cc pc = .ok (.land, 1)) (k : J X A own cc nL P (pc + 1) lv (vL (lAnd x y) :: st) ω) : J X A own cc nL P pc lv (vL y :: vL x :: st) ω :=
  fun p e R s m args below meth c cells slots Qm hA hP H locs ls h1 h2 h3 h4 h5 h6 => lv_land hA.1 hA.2.1 hd (by
    have q := k p e R s m args below meth c cells slots Qm hA hP H locs ls (st_c (show RV (vL (lAnd x y)) from i64_L _) (st_t (st_t h1))) h2 h3 h4 h5 h6
    simp only [List.map_cons, emb, lAnd, Int64.ofInt_toInt] at q
    exact q)
theorem J_lor {x y : Int} (hd : decode cc pc = .ok (.lor, 1)) (k : J X A own cc nL P (pc + 1) lv (vL (lOr x y) :: st) ω) : J X A own cc nL P pc lv (vL y :: vL x :: st) ω :=
  fun p e R s m args below meth c cells slots Qm hA hP H locs ls h1 h2 h3 h4 h5 h6 => lv_lor hA.1 hA.2.1 hd (by
    have q := k p e R s m args below meth c cells slots Qm hA hP H locs ls (st_c (show RV (vL (lOr x y)) from i64_L _) (st_t (st_t h1))) h2 h3 h4 h5 h6
    simp only [List.map_cons, emb, lOr, Int64.ofInt_toInt] at q
    exact q)
theorem J_lxor {x y : Int} (hd : decode cc pc = .ok (.lxor, 1)) (k : J X A own cc nL P (pc + 1) lv (vL (lXor x y) :: st) ω) : J X A own cc nL P pc lv (vL y :: vL x :: st) ω :=
  fun p e R s m args below meth c cells slots Qm hA hP H locs ls h1 h2 h3 h4 h5 h6 => lv_lxor hA.1 hA.2.1 hd (by
    have q := k p e R s m args below meth c cells slots Qm hA hP H locs ls (st_c (show RV (vL (lXor x y)) from i64_L _) (st_t (st_t h1))) h2 h3 h4 h5 h6
    simp only [List.map_cons, emb, lXor, Int64.ofInt_toInt] at q
    exact q)
theorem J_lshl {x y : Int} (hd : decode cc pc = .ok (.lshl, 1)) (k : J X A own cc nL P (pc + 1) lv (vL (lShl x y) :: st) ω) : J X A own cc nL P pc lv (vI y :: vL x :: st) ω :=
  fun p e R s m args below meth c cells slots Qm hA hP H locs ls h1 h2 h3 h4 h5 h6 => lv_lshl hA.1 hA.2.1 hd rfl (by
    have q := k p e R s m args below meth c cells slots Qm hA hP H locs ls (st_c (show RV (vL (lShl x y)) from i64_L _) (st_t (st_t h1))) h2 h3 h4 h5 h6
    simp only [List.map_cons, emb, lShl, Int64.ofInt_toInt] at q
    exact q)
theorem J_lshr {x y : Int} (hd : decode cc pc = .ok (.lshr, 1)) (k : J X A own cc nL P (pc + 1) lv (vL (lShr x y) :: st) ω) : J X A own cc nL P pc lv (vI y :: vL x :: st) ω :=
  fun p e R s m args below meth c cells slots Qm hA hP H locs ls h1 h2 h3 h4 h5 h6 => lv_lshr hA.1 hA.2.1 hd rfl (by
    have q := k p e R s m args below meth c cells slots Qm hA hP H locs ls (st_c (show RV (vL (lShr x y)) from i64_L _) (st_t (st_t h1))) h2 h3 h4 h5 h6
    simp only [List.map_cons, emb, lShr, Int64.ofInt_toInt] at q
    exact q)
theorem J_lushr {x y : Int} (hd : decode cc pc = .ok (.lushr, 1)) (k : J X A own cc nL P (pc + 1) lv (vL (lUshr x y) :: st) ω) : J X A own cc nL P pc lv (vI y :: vL x :: st) ω :=
  fun p e R s m args below meth c cells slots Qm hA hP H locs ls h1 h2 h3 h4 h5 h6 => lv_lushr hA.1 hA.2.1 hd rfl (by
    have q := k p e R s m args below meth c cells slots Qm hA hP H locs ls (st_c (show RV (vL (lUshr x y)) from i64_L _) (st_t (st_t h1))) h2 h3 h4 h5 h6
    simp only [List.map_cons, emb, lUshr, Int64.ofInt_toInt] at q
    exact q)
theorem J_dupR {a : Nat} (hd : decode cc pc = .ok (.dup, 1)) (k : J X A own cc nL P (pc + 1) lv (vR a :: vR a :: st) ω) : J X A own cc nL P pc lv (vR a :: st) ω :=
  fun p e R s m args below meth c cells slots Qm hA hP H locs ls h1 h2 h3 h4 h5 h6 => lv_dup hA.1 hA.2.1 hd rfl (k p e R s m args below meth c cells slots Qm hA hP H locs ls (st_c (st_h h1) h1) h2 h3 h4 h5 h6)
theorem J_dupI {a : Int} (hd : decode cc pc = .ok (.dup, 1)) (k : J X A own cc nL P (pc + 1) lv (vI a :: vI a :: st) ω) : J X A own cc nL P pc lv (vI a :: st) ω :=
  fun p e R s m args below meth c cells slots Qm hA hP H locs ls h1 h2 h3 h4 h5 h6 => lv_dup hA.1 hA.2.1 hd rfl (k p e R s m args below meth c cells slots Qm hA hP H locs ls (st_c (st_h h1) h1) h2 h3 h4 h5 h6)
theorem J_dup2 {a : Int} {b : Nat} (hd : decode cc pc = .ok (.dup2, 1)) (k : J X A own cc nL P (pc + 1) lv (vI a :: vR b :: vI a :: vR b :: st) ω) : J X A own cc nL P pc lv (vI a :: vR b :: st) ω :=
  fun p e R s m args below meth c cells slots Qm hA hP H locs ls h1 h2 h3 h4 h5 h6 => lv_dup2_11 hA.1 hA.2.1 hd rfl rfl (k p e R s m args below meth c cells slots Qm hA hP H locs ls (st_c (st_h h1) (st_c (st_h (st_t h1)) h1)) h2 h3 h4 h5 h6)
theorem J_pop {a : Int} (hd : decode cc pc = .ok (.pop, 1)) (k : J X A own cc nL P (pc + 1) lv st ω) : J X A own cc nL P pc lv (vI a :: st) ω :=
  fun p e R s m args below meth c cells slots Qm hA hP H locs ls h1 h2 h3 h4 h5 h6 => lv_pop hA.1 hA.2.1 hd rfl (k p e R s m args below meth c cells slots Qm hA hP H locs ls (st_t h1) h2 h3 h4 h5 h6)
theorem J_goto (tgt : Nat) {off : Int} (hd : decode cc pc = .ok (.goto off, 3)) (ht : (pc : Int) + off = (tgt : Int)) (k : J X A own cc nL P tgt lv st ω) : J X A own cc nL P pc lv st ω :=
  fun p e R s m args below meth c cells slots Qm hA hP H locs ls h1 h2 h3 h4 h5 h6 => lv_goto hA.1 hA.2.1 hd ht (k p e R s m args below meth c cells slots Qm hA hP H locs ls h1 h2 h3 h4 h5 h6)
theorem J_if_eq {x : Int} (tgt : Nat) {off : Int} (hd : decode cc pc = .ok (.ifCond .eq off, 3)) (ht : (pc : Int) + off = (tgt : Int)) (kt : x = 0 → J X A own cc nL P tgt lv st ω) (kf : ¬ x = 0 → J X A own cc nL P (pc + 3) lv st ω) : J X A own cc nL P pc lv (vI x :: st) ω :=
  fun p e R s m args below meth c cells slots Qm hA hP H locs ls h1 h2 h3 h4 h5 h6 => by
    have rx : InR x := st_h h1
    have ee := i32_eq rx InR0
    rw [i32_0] at ee
    refine lv_if_eq hA.1 hA.2.1 hd ht (fun h => ?_) (fun h => ?_)
    · rw [ee] at h; exact kt h p e R s m args below meth c cells slots Qm hA hP H locs ls (st_t h1) h2 h3 h4 h5 h6
    · rw [ee] at h; exact kf h p e R s m args below meth c cells slots Qm hA hP H locs ls (st_t h1) h2 h3 h4 h5 h6
theorem J_icmp_eq {x y : Int} (tgt : Nat) {off : Int} (hd : decode cc pc = .ok (.if_icmp .eq off, 3)) (ht : (pc : Int) + off = (tgt : Int)) (kt : x = y → J X A own cc nL P tgt lv st ω) (kf : ¬ x = y → J X A own cc nL P (pc + 3) lv st ω) : J X A own cc nL P pc lv (vI y :: vI x :: st) ω :=
  fun p e R s m args below meth c cells slots Qm hA hP H locs ls h1 h2 h3 h4 h5 h6 => by
    have rx : InR x := st_h (st_t h1)
    have ry : InR y := st_h h1
    have ee := i32_eq rx ry
    refine lv_icmp_eq hA.1 hA.2.1 hd ht (fun h => ?_) (fun h => ?_)
    · rw [ee] at h; exact kt h p e R s m args below meth c cells slots Qm hA hP H locs ls (st_t (st_t h1)) h2 h3 h4 h5 h6
    · rw [ee] at h; exact kf h p e R s m args below meth c cells slots Qm hA hP H locs ls (st_t (st_t h1)) h2 h3 h4 h5 h6
theorem J_if_ne {x : Int} (tgt : Nat) {off : Int} (hd : decode cc pc = .ok (.ifCond .ne off, 3)) (ht : (pc : Int) + off = (tgt : Int)) (kt : ¬ x = 0 → J X A own cc nL P tgt lv st ω) (kf : x = 0 → J X A own cc nL P (pc + 3) lv st ω) : J X A own cc nL P pc lv (vI x :: st) ω :=
  fun p e R s m args below meth c cells slots Qm hA hP H locs ls h1 h2 h3 h4 h5 h6 => by
    have rx : InR x := st_h h1
    have ee := i32_eq rx InR0
    rw [i32_0] at ee
    refine lv_if_ne hA.1 hA.2.1 hd ht (fun h => ?_) (fun h => ?_)
    · rw [ee] at h; exact kt h p e R s m args below meth c cells slots Qm hA hP H locs ls (st_t h1) h2 h3 h4 h5 h6
    · rw [ee] at h; exact kf h p e R s m args below meth c cells slots Qm hA hP H locs ls (st_t h1) h2 h3 h4 h5 h6
theorem J_icmp_ne {x y : Int} (tgt : Nat) {off : Int} (hd : decode cc pc = .ok (.if_icmp .ne off, 3)) (ht : (pc : Int) + off = (tgt : Int)) (kt : ¬ x = y → J X A own cc nL P tgt lv st ω) (kf : x = y → J X A own cc nL P (pc + 3) lv st ω) : J X A own cc nL P pc lv (vI y :: vI x :: st) ω :=
  fun p e R s m args below meth c cells slots Qm hA hP H locs ls h1 h2 h3 h4 h5 h6 => by
    have rx : InR x := st_h (st_t h1)
    have ry : InR y := st_h h1
    have ee := i32_eq rx ry
    refine lv_icmp_ne hA.1 hA.2.1 hd ht (fun h => ?_) (fun h => ?_)
    · rw [ee] at h; exact kt h p e R s m args below meth c cells slots Qm hA hP H locs ls (st_t (st_t h1)) h2 h3 h4 h5 h6
    · rw [ee] at h; exact kf h p e R s m args below meth c cells slots Qm hA hP H locs ls (st_t (st_t h1)) h2 h3 h4 h5 h6
theorem J_if_lt {x : Int} (tgt : Nat) {off : Int} (hd : decode cc pc = .ok (.ifCond .lt off, 3)) (ht : (pc : Int) + off = (tgt : Int)) (kt : x < 0 → J X A own cc nL P tgt lv st ω) (kf : ¬ x < 0 → J X A own cc nL P (pc + 3) lv st ω) : J X A own cc nL P pc lv (vI x :: st) ω :=
  fun p e R s m args below meth c cells slots Qm hA hP H locs ls h1 h2 h3 h4 h5 h6 => by
    have rx : InR x := st_h h1
    have ee := i32_lt rx InR0
    rw [i32_0] at ee
    refine lv_if_lt hA.1 hA.2.1 hd ht (fun h => ?_) (fun h => ?_)
    · rw [ee] at h; exact kt h p e R s m args below meth c cells slots Qm hA hP H locs ls (st_t h1) h2 h3 h4 h5 h6
    · rw [ee] at h; exact kf h p e R s m args below meth c cells slots Qm hA hP H locs ls (st_t h1) h2 h3 h4 h5 h6
theorem J_icmp_lt {x y : Int} (tgt : Nat) {off : Int} (hd : decode cc pc = .ok (.if_icmp .lt off, 3)) (ht : (pc : Int) + off = (tgt : Int)) (kt : x < y → J X A own cc nL P tgt lv st ω) (kf : ¬ x < y → J X A own cc nL P (pc + 3) lv st ω) : J X A own cc nL P pc lv (vI y :: vI x :: st) ω :=
  fun p e R s m args below meth c cells slots Qm hA hP H locs ls h1 h2 h3 h4 h5 h6 => by
    have rx : InR x := st_h (st_t h1)
    have ry : InR y := st_h h1
    have ee := i32_lt rx ry
    refine lv_icmp_lt hA.1 hA.2.1 hd ht (fun h => ?_) (fun h => ?_)
    · rw [ee] at h; exact kt h p e R s m args below meth c cells slots Qm hA hP H locs ls (st_t (st_t h1)) h2 h3 h4 h5 h6
    · rw [ee] at h; exact kf h p e R s m args below meth c cells slots Qm hA hP H locs ls (st_t (st_t h1)) h2 h3 h4 h5 h6
theorem J_if_ge {x : Int} (tgt : Nat) {off : Int} (hd : decode cc pc = .ok (.ifCond .ge off, 3)) (ht : (pc : Int) + off = (tgt : Int)) (kt : 0 ≤ x → J X A own cc nL P tgt lv st ω) (kf : ¬ 0 ≤ x → J X A own cc nL P (pc + 3) lv st ω) : J X A own cc nL P pc lv (vI x :: st) ω :=
  fun p e R s m args below meth c cells slots Qm hA hP H locs ls h1 h2 h3 h4 h5 h6 => by
    have rx : InR x := st_h h1
    have ee := i32_le InR0 rx
    rw [i32_0] at ee
    refine lv_if_ge hA.1 hA.2.1 hd ht (fun h => ?_) (fun h => ?_)
    · rw [ee] at h; exact kt h p e R s m args below meth c cells slots Qm hA hP H locs ls (st_t h1) h2 h3 h4 h5 h6
    · rw [ee] at h; exact kf h p e R s m args below meth c cells slots Qm hA hP H locs ls (st_t h1) h2 h3 h4 h5 h6
theorem J_icmp_ge {x y : Int} (tgt : Nat) {off : Int} (hd : decode cc pc = .ok (.if_icmp .ge off, 3)) (ht : (pc : Int) + off = (tgt : Int)) (kt : y ≤ x → J X A own cc nL P tgt lv st ω) (kf : ¬ y ≤ x → J X A own cc nL P (pc + 3) lv st ω) : J X A own cc nL P pc lv (vI y :: vI x :: st) ω :=
  fun p e R s m args below meth c cells slots Qm hA hP H locs ls h1 h2 h3 h4 h5 h6 => by
    have rx : InR x := st_h (st_t h1)
    have ry : InR y := st_h h1
    have ee := i32_le ry rx
    refine lv_icmp_ge hA.1 hA.2.1 hd ht (fun h => ?_) (fun h => ?_)
    · rw [ee] at h; exact kt h p e R s m args below meth c cells slots Qm hA hP H locs ls (st_t (st_t h1)) h2 h3 h4 h5 h6
    · rw [ee] at h; exact kf h p e R s m args below meth c cells slots Qm hA hP H locs ls (st_t (st_t h1)) h2 h3 h4 h5 h6
theorem J_if_gt {x : Int} (tgt : Nat) {off : Int} (hd : decode cc pc = .ok (.ifCond .gt off, 3)) (ht : (pc : Int) + off = (tgt : Int)) (kt : 0 < x → J X A own cc nL P tgt lv st ω) (kf : ¬ 0 < x → J X A own cc nL P (pc + 3) lv st ω) : J X A own cc nL P pc lv (vI x :: st) ω :=
  fun p e R s m args below meth c cells slots Qm hA hP H locs ls h1 h2 h3 h4 h5 h6 => by
    have rx : InR x := st_h h1
    have ee := i32_lt InR0 rx
    rw [i32_0] at ee
    refine lv_if_gt hA.1 hA.2.1 hd ht (fun h => ?_) (fun h => ?_)
    · rw [ee] at h; exact kt h p e R s m args below meth c cells slots Qm hA hP H locs ls (st_t h1) h2 h3 h4 h5 h6
    · rw [ee] at h; exact kf h p e R s m args below meth c cells slots Qm hA hP H locs ls (st_t h1) h2 h3 h4 h5 h6
theorem J_icmp_gt {x y : Int} (tgt : Nat) {off : Int} (hd : decode cc pc = .ok (.if_icmp .gt off, 3)) (ht : (pc : Int) + off = (tgt : Int)) (kt : y < x → J X A own cc nL P tgt lv st ω) (kf : ¬ y < x → J X A own cc nL P (pc + 3) lv st ω) : J X A own cc nL P pc lv (vI y :: vI x :: st) ω :=
  fun p e R s m args below meth c cells slots Qm hA hP H locs ls h1 h2 h3 h4 h5 h6 => by
    have rx : InR x := st_h (st_t h1)
    have ry : InR y := st_h h1
    have ee := i32_lt ry rx
    refine lv_icmp_gt hA.1 hA.2.1 hd ht (fun h => ?_) (fun h => ?_)
    · rw [ee] at h; exact kt h p e R s m args below meth c cells slots Qm hA hP H locs ls (st_t (st_t h1)) h2 h3 h4 h5 h6
    · rw [ee] at h; exact kf h p e R s m args below meth c cells slots Qm hA hP H locs ls (st_t (st_t h1)) h2 h3 h4 h5 h6
theorem J_if_le {x : Int} (tgt : Nat) {off : Int} (hd : decode cc pc = .ok (.ifCond .le off, 3)) (ht : (pc : Int) + off = (tgt : Int)) (kt : x ≤ 0 → J X A own cc nL P tgt lv st ω) (kf : ¬ x ≤ 0 → J X A own cc nL P (pc + 3) lv st ω) : J X A own cc nL P pc lv (vI x :: st) ω :=
  fun p e R s m args below meth c cells slots Qm hA hP H locs ls h1 h2 h3 h4 h5 h6 => by
    have rx : InR x := st_h h1
    have ee := i32_le rx InR0
    rw [i32_0] at ee
    refine lv_if_le hA.1 hA.2.1 hd ht (fun h => ?_) (fun h => ?_)
    · rw [ee] at h; exact kt h p e R s m args below meth c cells slots Qm hA hP H locs ls (st_t h1) h2 h3 h4 h5 h6
    · rw [ee] at h; exact kf h p e R s m args below meth c cells slots Qm hA hP H locs ls (st_t h1) h2 h3 h4 h5 h6
theorem J_icmp_le {x y : Int} (tgt : Nat) {off : Int} (hd : decode cc pc = .ok (.if_icmp .le off, 3)) (ht : (pc : Int) + off = (tgt : Int)) (kt : x ≤ y → J X A own cc nL P tgt lv st ω) (kf : ¬ x ≤ y → J X A own cc nL P (pc + 3) lv st ω) : J X A own cc nL P pc lv (vI y :: vI x :: st) ω :=
  fun p e R s m args below meth c cells slots Qm hA hP H locs ls h1 h2 h3 h4 h5 h6 => by
    have rx : InR x := st_h (st_t h1)
    have ry : InR y := st_h h1
    have ee := i32_le rx ry
    refine lv_icmp_le hA.1 hA.2.1 hd ht (fun h => ?_) (fun h => ?_)
    · rw [ee] at h; exact kt h p e R s m args below meth c cells slots Qm hA hP H locs ls (st_t (st_t h1)) h2 h3 h4 h5 h6
    · rw [ee] at h; exact kf h p e R s m args below meth c cells slots Qm hA hP H locs ls (st_t (st_t h1)) h2 h3 h4 h5 h6
theorem J_switch {x : Int} {dflt lo hi : Int} {offs : Array Int} {len : Nat} (hd : decode cc pc = .ok (.tableswitch dflt lo hi offs, len)) (tgt : Nat) (ht : (pc : Int) + dflt = (tgt : Int)) (kd : (x < lo ∨ hi < x) → J X A own cc nL P tgt lv st ω)
    (kc : ¬ x < lo → ¬ hi < x → ∃ (off : Int) (t : Nat), offs[(x - lo).toNat]? = some off ∧ (pc : Int) + off = (t : Int) ∧ J X A own cc nL P t lv st ω) : J X A own cc nL P pc lv (vI x :: st) ω :=
  fun p e R s m args below meth c cells slots Qm hA hP H locs ls h1 h2 h3 h4 h5 h6 => by
    have rx : InR x := st_h h1
    have ee := i32_of rx
    by_cases h : x < lo ∨ hi < x
    · exact lv_tableOut hA.1 hA.2.1 hd (by rw [ee]; exact h) ht (kd h p e R s m args below meth c cells slots Qm hA hP H locs ls (st_t h1) h2 h3 h4 h5 h6)
    · obtain ⟨off, t, ho, htt, k⟩ := kc (fun q => h (Or.inl q)) (fun q => h (Or.inr q))
      exact lv_tableIn hA.1 hA.2.1 hd (by rw [ee]; exact fun q => h (Or.inl q)) (by rw [ee]; exact fun q => h (Or.inr q)) (by rw [ee]; exact ho) htt (k p e R s m args below meth c cells slots Qm hA hP H locs ls (st_t h1) h2 h3 h4 h5 h6)
-- fields
theorem J_getfieldV {k idx ci j code : Nat} (v : MV) (lk : FLk own idx ci j) (hf : fcode k ci j = some code) (hv : fv X ω k j code = emb X v) (hr : ROm ω → RV v) (hd : decode cc pc = .ok (.getfield idx, 3)) (kk : J X A own cc nL P (pc + 3) lv (v :: st) ω) : J X A own cc nL P pc lv (vR k :: st) ω :=
  fun p e R s m args below meth c cells slots Qm hA hP H locs ls h1 h2 h3 h4 h5 h6 => by
    obtain ⟨C, T, N, ty, ⟨c1, c2, c3, c4, c5⟩, hj, hl⟩ := lk
    obtain ⟨fl, g1, g2, n, g3⟩ := pic_obj X ω hf
    have q := kk p e R s m args below meth c cells slots Qm hA hP H locs ls (st_c (hr h3) (st_t h1)) h2 h3 h4 h5 h6
    have hvv : (fl.mapIdx (fun j code => fv X ω k j code))[j]? = some (emb X v) := by simp [List.getElem?_mapIdx, g2, hv]
    rcases hl with hl | ⟨host, hl⟩
    · exact va_get hA.1 hA.2.1 hA.2.2.2.2.1 c2 hA.2.2.2.1 hA.2.2.2.2.2.2.1 h4 k g1 c1 j hj (hA.2.2.2.2.1 _ hl) (fun x h => by rw [c5 j hj] at h; exact h) hvv hd q
    · exact va_getN hA.1 hA.2.1 hA.2.2.2.2.1 c2 hA.2.2.2.1 hA.2.2.2.2.2.2.1 h4 k g1 c1 j hj (va_Nw.use rfl (hA.2.2.2.2.2.1 _ hl)) (fun x h => by rw [c5 j hj] at h; exact h) hvv hd q
theorem J_getI {k idx ci j : Nat} (lk : FLk own idx ci j) (hf : fcode k ci j = some 0) (hn : isL k j = false) (hd : decode cc pc = .ok (.getfield idx, 3)) (kk : J X A own cc nL P (pc + 3) lv (vI (ω k j) :: st) ω) : J X A own cc nL P pc lv (vR k :: st) ω :=
  J_getfieldV (vI (ω k j)) lk hf rfl (fun h => h.1 k j hn) hd kk
theorem J_getL {k idx ci j : Nat} (lk : FLk own idx ci j) (hf : fcode k ci j = some 1) (hd : decode cc pc = .ok (.getfield idx, 3)) (kk : J X A own cc nL P (pc + 3) lv (vL (ω k j) :: st) ω) : J X A own cc nL P pc lv (vR k :: st) ω :=
  J_getfieldV (vL (ω k j)) lk hf rfl (fun h => h.2 k j) hd kk
theorem J_getR {k idx ci j c : Nat} (lk : FLk own idx ci j) (hf : fcode k ci j = some (c + 2)) (hd : decode cc pc = .ok (.getfield idx, 3)) (kk : J X A own cc nL P (pc + 3) lv (vR c :: st) ω) : J X A own cc nL P pc lv (vR k :: st) ω :=
  J_getfieldV (vR c) lk hf rfl (fun _ => trivial) hd kk
/-- field j of class ci can be written: it is an int (0) or a long (1), and isn't final -/
def fput (ci j code : Nat) : Prop := ∃ (C : String) (T : u_T) (N : Nat) (ty : Nat → FieldType), clsOK ci C T N ty ∧ j < N ∧ (T j).2.2.2 = false ∧ ((code = 0 ∧ ty j = .int) ∨ (code = 1 ∧ ty j = .long))
theorem J_putfieldV {k idx ci j code : Nat} (v : MV) (z : Int) (lk : FLk own idx ci j) (fp : fput ci j code) (hf : fcode k ci j = some code) (hv : (code = 0 ∧ v = vI z) ∨ (code = 1 ∧ v = vL z)) (hr : RV v → ROm ω → ROm (up ω k j z)) (hd : decode cc pc = .ok (.putfield idx, 3)) (kk : J X A own cc nL P (pc + 3) lv st (up ω k j z)) : J X A own cc nL P pc lv (v :: vR k :: st) ω :=
  fun p e R s m args below meth c cells slots Qm hA hP H locs ls h1 h2 h3 h4 h5 h6 => by
    obtain ⟨C, T, N, ty, ⟨c1, c2, c3, c4, c5⟩, hj, hl⟩ := lk
    obtain ⟨C', T', N', ty', ⟨d1, d2, d3, d4, d5⟩, hj', hfin, hty⟩ := fp
    obtain ⟨fl, g1, g2, n, g3⟩ := pic_obj X ω hf
    rw [c1] at d1; cases d1
    have hD := pic_D ω hA.2.2.2.2.2.2.2.1 hA.2.2.2.2.2.2.2.2
    have hlt : j < (fl.mapIdx (fun j code => fv X ω k j code)).length := by have := (List.getElem?_eq_some_iff.mp g2).1; simpa using this
    have hnf : narrow (ty' j) (emb X v) = emb X v ∧ fits (ty' j) (emb X v) = true ∧ fv X (up ω k j z) k j code = emb X v := by
      rcases hv with ⟨rfl, rfl⟩ | ⟨rfl, rfl⟩ <;> rcases hty with ⟨e1, e2⟩ | ⟨e1, e2⟩
      · rw [e2]; exact ⟨rfl, rfl, by simp only [fv, up_s, emb]⟩
      · cases e1
      · cases e1
      · rw [e2]; exact ⟨rfl, rfl, by simp only [fv, up_s, emb]⟩
    have he := pic_set (X := X) (ω := ω) (i := j) (z := z) g3 (e := .inr (ci, (fl.mapIdx (fun j code => fv X ω k j code)).set j (emb X v))) (by simp only [cellOf]; rw [fl_set g2 _ hnf.2.2])
    have q : ∀ (H1 : Heap) (locs1 : List Loc), va_P X.2.1 vwCl ((pic X ω).set k (X.2.2.1 k, .inr (ci, (fl.mapIdx (fun j code => fv X ω k j code)).set j (emb X v)))) H1 → va_D A ((pic X ω).set k (X.2.2.1 k, .inr (ci, (fl.mapIdx (fun j code => fv X ω k j code)).set j (emb X v)))) → va_S A s.heap H1 locs1 → W p X.1 e R s m args below meth c H1 locs1 cells slots Qm (F0 m (pc + 3) ls (st.map (emb X))) := by
      intro H1 locs1 q1 _ q3
      rw [he] at q1
      exact kk p e R s m args below meth c cells slots Qm hA hP H1 locs1 ls (st_t (st_t h1)) h2 (hr (st_h h1) h3) q1 q3 h6
    rcases hl with hl | ⟨host, hl⟩
    · exact va_put hA.1 hA.2.1 hA.2.2.2.2.1 c2 ty' d3 c4 hA.2.2.2.1 hA.2.2.2.2.2.2.1 h4 hD h5 k g1 c1 j hj (hA.2.2.2.2.1 _ hl) (fun x h => by rw [c5 j hj] at h; exact h) hfin (d3 j hj) hnf.1 hnf.2.1 hlt hd q
    · exact va_putN hA.1 hA.2.1 hA.2.2.2.2.1 c2 ty' d3 c4 hA.2.2.2.1 hA.2.2.2.2.2.2.1 h4 hD h5 k g1 c1 j hj (va_Nw.use rfl (hA.2.2.2.2.2.1 _ hl)) (fun x h => by rw [c5 j hj] at h; exact h) hfin (d3 j hj) hnf.1 hnf.2.1 hlt hd q
theorem J_putI {k idx ci j : Nat} {z : Int} (lk : FLk own idx ci j) (fp : fput ci j 0) (hf : fcode k ci j = some 0) (hd : decode cc pc = .ok (.putfield idx, 3)) (kk : J X A own cc nL P (pc + 3) lv st (up ω k j z)) : J X A own cc nL P pc lv (vI z :: vR k :: st) ω :=
  J_putfieldV (vI z) z lk fp hf (Or.inl ⟨rfl, rfl⟩) (fun h1 h2 => ROm_up h2 h1) hd kk
theorem J_putL {k idx ci j : Nat} {z : Int} (lk : FLk own idx ci j) (fp : fput ci j 1) (hf : fcode k ci j = some 1) (hl : isL k j = true) (hd : decode cc pc = .ok (.putfield idx, 3)) (kk : J X A own cc nL P (pc + 3) lv st (up ω k j z)) : J X A own cc nL P pc lv (vL z :: vR k :: st) ω :=
  J_putfieldV (vL z) z lk fp hf (Or.inr ⟨rfl, rfl⟩) (fun h1 h2 => ROm_upL h2 h1 hl) hd kk
-- arrays
theorem pic_arr {X : Cx} (ω : Om) {k n : Nat} (h : acode k = some (0, n)) : (pic X ω)[k]? = some (X.2.2.1 k, .inl (X.2.2.2.1, n, .inl (fun j => Int32.ofInt (ω k j)))) ∧ ∃ fl, lay[k]? = some (0, n, fl) := by
  unfold acode at h
  cases hl : lay[k]? with
  | none => rw [hl] at h; cases h
  | some L =>
    obtain ⟨c, n', fl⟩ := L
    rw [hl] at h
    cases h
    exact ⟨by rw [pic_get, hl]; rfl, fl, rfl⟩
theorem pic_arz {X : Cx} (ω : Om) {k n : Nat} (h : acode k = some (1, n)) : (pic X ω)[k]? = some (X.2.2.1 k, .inl (X.2.2.2.2, n, .inl (fun j => Int32.ofInt (ω k j)))) ∧ ∃ fl, lay[k]? = some (1, n, fl) := by
  unfold acode at h
  cases hl : lay[k]? with
  | none => rw [hl] at h; cases h
  | some L =>
    obtain ⟨c, n', fl⟩ := L
    rw [hl] at h
    cases h
    exact ⟨by rw [pic_get, hl]; rfl, fl, rfl⟩
theorem in_of {i : Int} {n : Nat} (hr : InR i) (h : 0 ≤ i ∧ i < n) : vp_in (Int32.ofInt i) n := by
  rw [vp_in_iff, i32_of hr]; exact h
theorem ar_up {ω : Om} {k : Nat} {i z : Int} (hr : InR i) (h0 : 0 ≤ i) (x : Int32) (hx : x = Int32.ofInt z) : (fun j : Nat => Int32.ofInt (up ω k i z k j)) = upd (fun j : Nat => Int32.ofInt (ω k j)) (Int32.ofInt i).toNatClampNeg x := by
  rw [i32_toNat hr]
  funext j
  unfold upd
  by_cases hj : j = i.toNat
  · rw [if_pos hj, hx]
    have : (j : Int) = i := by omega
    rw [this, up_s]
  · rw [if_neg hj, up_i (by omega)]
theorem J_iaload {k : Nat} {i : Int} (n : Nat) (ha : acode k = some (0, n)) (hn : isL k i = false) (hi : 0 ≤ i ∧ i < n) (hd : decode cc pc = .ok (.iaload, 1)) (kk : J X A own cc nL P (pc + 1) lv (vI (ω k i) :: st) ω) : J X A own cc nL P pc lv (vI i :: vR k :: st) ω :=
  fun p e R s m args below meth c cells slots Qm hA hP H locs ls h1 h2 h3 h4 h5 h6 => by
    have ri : InR i := st_h h1
    have q := kk p e R s m args below meth c cells slots Qm hA hP H locs ls (st_c (show RV (vI (ω k i)) from h3.1 k i hn) (st_t (st_t h1))) h2 h3 h4 h5 h6
    refine va_iald hA.1 hA.2.1 hA.2.2.2.2.2.2.1 h4 k 0 (pic_arr ω ha).1 rfl (in_of ri hi) hd ?_
    rw [i32_toNat ri, show ((i.toNat : Nat) : Int) = i from by omega]
    exact q
theorem J_baload {k : Nat} {i : Int} (n : Nat) (ha : acode k = some (1, n)) (hn : isL k i = false) (hi : 0 ≤ i ∧ i < n) (hd : decode cc pc = .ok (.baload, 1)) (kk : J X A own cc nL P (pc + 1) lv (vI (ω k i) :: st) ω) : J X A own cc nL P pc lv (vI i :: vR k :: st) ω :=
  fun p e R s m args below meth c cells slots Qm hA hP H locs ls h1 h2 h3 h4 h5 h6 => by
    have ri : InR i := st_h h1
    have q := kk p e R s m args below meth c cells slots Qm hA hP H locs ls (st_c (show RV (vI (ω k i)) from h3.1 k i hn) (st_t (st_t h1))) h2 h3 h4 h5 h6
    refine va_zald hA.1 hA.2.1 hA.2.2.2.2.2.2.1 h4 k 1 (pic_arz ω ha).1 rfl (in_of ri hi) hd ?_
    rw [i32_toNat ri, show ((i.toNat : Nat) : Int) = i from by omega]
    exact q
theorem J_iastore {k : Nat} {i z : Int} (n : Nat) (ha : acode k = some (0, n)) (hi : 0 ≤ i ∧ i < n) (hd : decode cc pc = .ok (.iastore, 1)) (kk : J X A own cc nL P (pc + 1) lv st (up ω k i z)) : J X A own cc nL P pc lv (vI z :: vI i :: vR k :: st) ω :=
  fun p e R s m args below meth c cells slots Qm hA hP H locs ls h1 h2 h3 h4 h5 h6 => by
    have ri : InR i := st_h (st_t h1)
    have rz : InR z := st_h h1
    obtain ⟨g1, fl, g2⟩ := pic_arr (X := X) ω ha
    have hD := pic_D ω hA.2.2.2.2.2.2.2.1 hA.2.2.2.2.2.2.2.2
    refine va_iast hA.1 hA.2.1 hA.2.2.2.2.2.2.1 h4 hD h5 k 0 g1 rfl (in_of ri hi) hd (fun H1 locs1 q1 _ q3 => ?_)
    rw [pic_set (X := X) (ω := ω) (i := i) (z := z) g2 (by simp only [cellOf]; rw [ar_up ri hi.1 _ rfl])] at q1
    exact kk p e R s m args below meth c cells slots Qm hA hP H1 locs1 ls (st_t (st_t (st_t h1))) h2 (ROm_up h3 rz) q1 q3 h6
theorem J_bastore {k : Nat} {i z : Int} (n : Nat) (ha : acode k = some (1, n)) (hi : 0 ≤ i ∧ i < n) (hz : z = 0 ∨ z = 1) (hd : decode cc pc = .ok (.bastore, 1)) (kk : J X A own cc nL P (pc + 1) lv st (up ω k i z)) : J X A own cc nL P pc lv (vI z :: vI i :: vR k :: st) ω :=
  fun p e R s m args below meth c cells slots Qm hA hP H locs ls h1 h2 h3 h4 h5 h6 => by
    have ri : InR i := st_h (st_t h1)
    have rz : InR z := st_h h1
    obtain ⟨g1, fl, g2⟩ := pic_arz (X := X) ω ha
    have hD := pic_D ω hA.2.2.2.2.2.2.2.1 hA.2.2.2.2.2.2.2.2
    refine va_zast hA.1 hA.2.1 hA.2.2.2.2.2.2.1 h4 hD h5 k 1 g1 rfl (in_of ri hi) hd (fun H1 locs1 q1 _ q3 => ?_)
    rw [pic_set (X := X) (ω := ω) (i := i) (z := z) g2 (by simp only [cellOf]; rw [ar_up ri hi.1 (vp_nar .boolean (Int32.ofInt z)) (by rcases hz with rfl | rfl <;> decide +kernel)])] at q1
    exact kk p e R s m args below meth c cells slots Qm hA hP H1 locs1 ls (st_t (st_t (st_t h1))) h2 (ROm_up h3 rz) q1 q3 h6
end JR
end
section
section JC
variable {X : Cx} {A : Nat → Prop} {own : String} {cc : ByteArray} {nL : Nat} {P : PT} {pc : Nat} {lv : List (Option MV)} {st : List MV} {ω : Om}
def wt : List MV → Nat
  | [] => 0
  | .inr (.inl _) :: r => 2 + wt r
  | _ :: r => 1 + wt r
theorem wt_emb : ∀ st : List MV, ((st.map (emb X)).map fun v => v.category).sum = wt st := by
  intro st
  induction st with
  | nil => rfl
  | cons v r ih =>
    simp only [List.map_cons, List.sum_cons, ih]
    match v with
    | .inl z => rfl
    | .inr (.inl z) => rfl
    | .inr (.inr k) => rfl
theorem PcX_blind (as : List MV) (ω : Om) : FrameBlind (PcX X as ω) := by
  intro a U g mk h
  obtain ⟨e1, r1, r2, r3, r4, r5, r6⟩ := h
  exact ⟨e1, r1, r2, r3, r4, va_K.moved (u := U) (U := U.calling g mk a) (Vm.Alike.refl U.vm) r5, fun w hw => va_Nw.same (by
    have := (List.mem_filter.mp hw).2
    cases w <;> first | rfl | (simp [isNest] at this)) (by rfl) (r6 w hw)⟩
theorem nTbl_warm {s U : State} (hW : s.WarmedH U.vm) (h : ∀ w ∈ nTbl, va_Nw w s) : ∀ w ∈ nTbl, va_Nw w U := by
  intro w hw
  have h1 := (List.mem_filter.mp hw).2
  have h2 := h w hw
  cases w <;> first | exact va_Nw.warmF hW h2 | exact va_Nw.warmM hW h2 | (simp [isNest] at h1)
theorem good_all (z : MD) (hz : cdw z ∈ gTbl) : GoodIn gTbl (cdw z :: gTbl) := by
  intro w hw
  rcases List.mem_cons.mp hw with rfl | hw
  · exact ⟨hz, gTbl_good _ hz⟩
  · exact ⟨hw, gTbl_good _ hw⟩
/-- the room that a call of a method of depth d wants -/
def rmOk (d : Nat) (z : MD) (R : Room) (cells slots : Nat) : Prop := d + 2 ≤ R.frames ∧ 8 + (z.2.2.1 + 11) + (40 * d + 12) ≤ R.locals ∧ cells ≤ R.cells ∧ slots ≤ R.slots
def rcv (k : Nat) (C : String) : Prop := ∃ (ci n : Nat) (fl : List Nat) (q : vw_C), lay[k]? = some (ci + 2, n, fl) ∧ vwCl[ci]? = some q ∧ q.1 = C
/-- behind a call -/
theorem J_back {z : MD} {d : Nat} {as : List MV} {st0 : List Value} {a : Array Value} {p : Program} {e : Env} {R : Room} {s : State} {m : MethodId} {args : Array Value} {below : List Frame} {meth : Method} {c : Code} {cells slots : Nat} {Qm : State → Prop} {H : Heap} {locs : List Loc} {ls : Array Slot}
    (hA : Act X A own cc nL p s m args c) (hP : P p e R s m args below meth c cells slots Qm) (h1 : ∀ v ∈ st, RV v) (h2 : ∀ v, some v ∈ lv → RV v) (h5 : va_S A s.heap H locs) (h6 : lv_has ls nL (lvl X 0 lv))
    (hr : va_Run p X.1 e R s m args below meth c H locs cells slots 0 0 (F0 m pc ls st0) (st.map (emb X)) (QcX X (fun r ω' => J X A own cc nL P (pc + 3) lv (r.toList ++ st) ω') a) (AX X)) :
    W p X.1 e R s m args below meth c H locs cells slots Qm (F0 m pc ls st0) := by
  have hAA : ∀ q, AX X q → A q := fun q ⟨k, hk, e⟩ => e ▸ hA.2.2.2.2.2.2.2.2 k hk
  intro T hT XS
  obtain ⟨v, st₀, t, T', L, h0, X', hL, e1, e2, ⟨r, ω', q1, q2, q3, q4, q5, q6, q7⟩, sg⟩ := hr T hT XS
  cases q1
  rw [h0] at q6 q7
  have hst : ∀ v ∈ r.toList ++ st, RV v := by
    intro v hv
    rcases List.mem_append.mp hv with hv | hv
    · exact q2 v (by simpa using hv)
    · exact h1 v hv
  have hS : va_S A s.heap T'.heap (locs ++ L) := by
    refine ⟨Nat.le_trans h5.1 (by rw [e1]; exact q6), fun q g1 g2 => ?_, fun q hq => ?_⟩
    · rw [e1, q7 q (Nat.lt_of_lt_of_le g1 h5.1) (fun z => g2 (hAA q z))]; exact h5.2.1 q g1 g2
    · rcases List.mem_append.mp hq with h | h
      · exact h5.2.2 q h
      · exact hAA _ (hL q h)
  have K := q4 p e R s m args below meth c cells slots Qm hA hP T'.heap (locs ++ L) ls hst h2 q3 (by rw [e1]; exact q5) hS h6
  obtain ⟨t2, a1, b1⟩ := K T' rfl X'
  refine ⟨t2, sg t2 ?_, b1⟩
  have ev : (r.toList ++ st).map (emb X) = (r.map (emb X)).toList ++ st.map (emb X) := by cases r <;> rfl
  rw [ev] at a1
  exact a1
theorem J_callV {z : MD} {d idx n k : Nat} {as : List MV} (hP0 : ∀ p e R s m args below meth c cells slots Qm, P p e R s m args below meth c cells slots Qm → rmOk d z R cells slots) (lk : MLkV own idx z n) (hn : as.length = n) (hk : rcv k z.1.cls) (hw : wt st ≤ 8) (hd : decode cc pc = .ok (.invokevirtual idx, 3))
    (hM : Mc X z d (vR k :: as) ω (fun r ω' => J X A own cc nL P (pc + 3) lv (r.toList ++ st) ω')) : J X A own cc nL P pc lv (as.reverse ++ vR k :: st) ω :=
  fun p e R s m args below meth c cells slots Qm hA hP H locs ls h1 h2 h3 h4 h5 h6 => by
    obtain ⟨f1, f2, f3, f4⟩ := hP0 p e R s m args below meth c cells slots Qm hP
    obtain ⟨⟨l1, l2, l3, l4, l5, l6⟩, l7, l8⟩ := lk
    obtain ⟨ci, nn, fl, q, y1, y2, y3⟩ := hk
    have hst : (as.reverse ++ vR k :: st).map (emb X) = (as.map (emb X)).reverse ++ .ref (X.2.2.1 k) :: st.map (emb X) := by simp [emb]
    have hr1 : ∀ v ∈ st, RV v := fun v hv => h1 v (by simp [hv])
    have hra : ∀ v ∈ vR k :: as, RV v := fun v hv => h1 v (by
      rcases List.mem_cons.mp hv with rfl | hv
      · simp
      · simp [hv])
    have hpre : PreV s H z.1.cls (X.2.2.1 k) (PcX X (vR k :: as) ω) (as.map (emb X)) := by
      refine ⟨PcX_blind _ _, ?_, fun U hU hW => ⟨rfl, hra, h3, hA.2.2.2.2.2.2.2.1, by rw [hU]; exact h4, va_K.moved hW.alike hA.2.2.2.2.2.2.1, nTbl_warm hW hA.2.2.2.2.2.1⟩⟩
      rw [← y3]
      exact va_recv hA.2.2.2.2.2.2.1 h4 y2 (q0 := k) (by rw [pic_get, y1]; rfl)
    rw [hst]
    have hroom : 2 * (F0 m pc ls ((as.map (emb X)).reverse ++ .ref (X.2.2.1 k) :: st.map (emb X))).monitorRoom + ((st.map (emb X)).map fun v => v.category).sum ≤ 8 := lv_room (by rw [wt_emb]; exact hw)
    have hlen : (as.map (emb X)).length = n := by simpa using hn
    rcases l3 with l3 | ⟨host, l3⟩
    · exact J_back (z := z) (d := d) (as := as) hA hP hr1 h2 h5 h6 (va_runV (Ts := gTbl) (own := own) (C := z.1.cls) ⟨hA.1, hA.2.1, hA.2.2.1, hA.2.2.2.1, hA.2.2.2.2.1⟩ hM
        ⟨callB_of n hA.2.2.2.2.1 (good_all z l1) rfl rfl rfl (hA.2.2.2.2.1 _ l2) (hA.2.2.2.2.1 _ l3) ⟨l4, l5, l6⟩ ⟨f1, f2⟩, hA.2.2.2.2.1 _ l7, hA.2.2.2.2.1 _ l8⟩
        hpre rfl hlen h6.1 rfl hroom hd ⟨f3, f4⟩)
    · exact J_back (z := z) (d := d) (as := as) hA hP hr1 h2 h5 h6 (va_runVN (Ts := gTbl) (own := own) (C := z.1.cls) ⟨hA.1, hA.2.1, hA.2.2.1, hA.2.2.2.1, hA.2.2.2.2.1⟩ hM
        ⟨va_cnB n hA.2.2.2.2.1 (good_all z l1) rfl rfl rfl (hA.2.2.2.2.2.1 _ l3) (hA.2.2.2.2.1 _ l2) ⟨l4, l5, l6⟩ ⟨f1, f2⟩, hA.2.2.2.2.1 _ l7, hA.2.2.2.2.1 _ l8⟩
        hpre rfl hlen h6.1 rfl hroom hd ⟨f3, f4⟩)
theorem J_callS {z : MD} {d idx n : Nat} {as : List MV} (hP0 : ∀ p e R s m args below meth c cells slots Qm, P p e R s m args below meth c cells slots Qm → rmOk d z R cells slots) (lk : MLkS own idx z n) (hn : as.length = n) (hw : wt st ≤ 8) (hd : decode cc pc = .ok (.invokestatic idx, 3))
    (hM : Mc X z d as ω (fun r ω' => J X A own cc nL P (pc + 3) lv (r.toList ++ st) ω')) : J X A own cc nL P pc lv (as.reverse ++ st) ω :=
  fun p e R s m args below meth c cells slots Qm hA hP H locs ls h1 h2 h3 h4 h5 h6 => by
    obtain ⟨f1, f2, f3, f4⟩ := hP0 p e R s m args below meth c cells slots Qm hP
    obtain ⟨⟨l1, l2, l3, l4, l5, l6⟩, l7⟩ := lk
    have hst : (as.reverse ++ st).map (emb X) = (as.map (emb X)).reverse ++ st.map (emb X) := by simp
    have hr1 : ∀ v ∈ st, RV v := fun v hv => h1 v (by simp [hv])
    have hra : ∀ v ∈ as, RV v := fun v hv => h1 v (by simp [hv])
    have hpre : PreS s H (PcX X as ω) (as.map (emb X)) :=
      ⟨PcX_blind _ _, fun U hU hW => ⟨rfl, hra, h3, hA.2.2.2.2.2.2.2.1, by rw [hU]; exact h4, va_K.moved hW.alike hA.2.2.2.2.2.2.1, nTbl_warm hW hA.2.2.2.2.2.1⟩⟩
    rw [hst]
    have hroom : 2 * (F0 m pc ls ((as.map (emb X)).reverse ++ st.map (emb X))).monitorRoom + ((st.map (emb X)).map fun v => v.category).sum ≤ 8 := lv_room (by rw [wt_emb]; exact hw)
    have hlen : (as.map (emb X)).length = n := by simpa using hn
    rcases l3 with l3 | ⟨host, l3⟩
    · exact J_back (z := z) (d := d) (as := as) hA hP hr1 h2 h5 h6 (va_runS (Ts := gTbl) (own := own) ⟨hA.1, hA.2.1, hA.2.2.1, hA.2.2.2.1, hA.2.2.2.2.1⟩ hM
        ⟨callB_of n hA.2.2.2.2.1 (good_all z l1) rfl rfl rfl (hA.2.2.2.2.1 _ l2) (hA.2.2.2.2.1 _ l3) ⟨l4, l5, l6⟩ ⟨f1, f2⟩, hA.2.2.2.2.1 _ l7⟩
        hpre rfl hlen h6.1 rfl hroom hd ⟨f3, f4⟩)
    · exact J_back (z := z) (d := d) (as := as) hA hP hr1 h2 h5 h6 (va_runSN (Ts := gTbl) (own := own) ⟨hA.1, hA.2.1, hA.2.2.1, hA.2.2.2.1, hA.2.2.2.2.1⟩ hM
        ⟨va_cnB n hA.2.2.2.2.1 (good_all z l1) rfl rfl rfl (hA.2.2.2.2.2.1 _ l3) (hA.2.2.2.2.1 _ l2) ⟨l4, l5, l6⟩ ⟨f1, f2⟩, hA.2.2.2.2.1 _ l7, trivial⟩
        hpre rfl hlen h6.1 rfl hroom hd ⟨f3, f4⟩)
-- a method's end
variable {y : MD} {d : Nat} {Q : Option MV → Om → Prop}
theorem JM_iret {z : Int} (hr : y.2.2.2 = some .int) (hd : decode y.2.1 pc = .ok (.ireturn, 1)) (hQ : Q (some (vI z)) ω) : JM X y d Q pc lv [vI z] ω :=
  fun p e R s m args below meth c cells slots Qm hA hP H locs ls h1 h2 h3 h4 h5 h6 => by
    obtain ⟨b1, b2, rfl, rfl, rfl, rfl⟩ := hP
    exact W.iret hA.1 hA.2.1 (b1.trans hr) (fun t ht _ => ⟨some (vI z), ω, rfl, fun v hv => by cases hv; exact st_h h1, h3, hQ, by rw [ht]; exact h4, h5.F ht⟩) (fun q hq => h5.2.2 q hq) hd b2
theorem JM_zret {z : Int} (hr : y.2.2.2 = some .boolean) (hz : z = 0 ∨ z = 1) (hd : decode y.2.1 pc = .ok (.ireturn, 1)) (hQ : Q (some (vI z)) ω) : JM X y d Q pc lv [vI z] ω :=
  fun p e R s m args below meth c cells slots Qm hA hP H locs ls h1 h2 h3 h4 h5 h6 => by
    obtain ⟨b1, b2, rfl, rfl, rfl, rfl⟩ := hP
    exact W.zret hA.1 hA.2.1 (b1.trans hr) (by rcases hz with rfl | rfl <;> rfl) (fun t ht _ => ⟨some (vI z), ω, rfl, fun v hv => by cases hv; exact st_h h1, h3, hQ, by rw [ht]; exact h4, h5.F ht⟩) (fun q hq => h5.2.2 q hq) hd b2
theorem JM_lret {z : Int} (hr : y.2.2.2 = some .long) (hd : decode y.2.1 pc = .ok (.lreturn, 1)) (hQ : Q (some (vL z)) ω) : JM X y d Q pc lv [vL z] ω :=
  fun p e R s m args below meth c cells slots Qm hA hP H locs ls h1 h2 h3 h4 h5 h6 => by
    obtain ⟨b1, b2, rfl, rfl, rfl, rfl⟩ := hP
    exact W.lret hA.1 hA.2.1 (b1.trans hr) (fun t ht _ => ⟨some (vL z), ω, rfl, fun v hv => by cases hv; exact st_h h1, h3, hQ, by rw [ht]; exact h4, h5.F ht⟩) (fun q hq => h5.2.2 q hq) hd b2
theorem JM_vret (hr : y.2.2.2 = none) (hd : decode y.2.1 pc = .ok (.return_, 1)) (hQ : Q none ω) : JM X y d Q pc lv [] ω :=
  fun p e R s m args below meth c cells slots Qm hA hP H locs ls h1 h2 h3 h4 h5 h6 => by
    obtain ⟨b1, b2, rfl, rfl, rfl, rfl⟩ := hP
    exact W.vret hA.1 hA.2.1 (b1.trans hr) (fun t ht _ => ⟨none, ω, rfl, fun v hv => by (cases hv), h3, hQ, by rw [ht]; exact h4, h5.F ht⟩) (fun q hq => h5.2.2 q hq) hd b2
-- a method's start
def argLv : List MV → List (Option MV)
  | [] => []
  | .inr (.inl z) :: r => some (vL z) :: none :: argLv r
  | v :: r => some v :: argLv r
theorem argLv_args (X : Cx) : ∀ (as : List MV) (n : Nat), lvl X n (argLv as) = lv_args n (as.map (emb X)) := by
  intro as
  induction as with
  | nil => intro n; rfl
  | cons v r ih =>
    intro n
    match v with
    | .inl z => simp only [argLv, lvl, List.map_cons, lv_args, ih]; rfl
    | .inr (.inl z) => simp only [argLv, lvl, List.map_cons, lv_args, ih]; rfl
    | .inr (.inr k) => simp only [argLv, lvl, List.map_cons, lv_args, ih]; rfl
theorem argLv_len (X : Cx) : ∀ as : List MV, (lg_sl (as.map (emb X))).length = (argLv as).length := by
  intro as
  induction as with
  | nil => rfl
  | cons v r ih =>
    have e : ∀ (w : Value) (t : List Value), lg_sl (w :: t) = (if w.category = 2 then [.val w, .second] else [.val w]) ++ lg_sl t := fun w t => by simp [lg_sl]
    match v with
    | .inl z => simp only [List.map_cons, e, argLv, List.length_append, ih, List.length_cons]; simp [emb, Value.category]; omega
    | .inr (.inl z) => simp only [List.map_cons, e, argLv, List.length_append, ih, List.length_cons]; simp [emb, Value.category]; omega
    | .inr (.inr k) => simp only [List.map_cons, e, argLv, List.length_append, ih, List.length_cons]; simp [emb, Value.category]; omega
theorem lvl_app (X : Cx) : ∀ (a : List (Option MV)) (k n : Nat), lvl X n (a ++ List.replicate k none) = lvl X n a := by
  intro a
  induction a with
  | nil =>
    intro k
    induction k with
    | zero => intro n; rfl
    | succ k ih => intro n; simp only [List.replicate_succ, List.nil_append, lvl] at ih ⊢; exact ih (n + 1)
  | cons v r ih =>
    intro k n
    cases v with
    | none => simp only [List.cons_append, lvl, ih]
    | some v => simp only [List.cons_append, lvl, ih]
theorem argLv_RV : ∀ as : List MV, (∀ w ∈ as, RV w) → ∀ v, some v ∈ argLv as → RV v := by
  intro as
  induction as with
  | nil => intro _ v hv; cases hv
  | cons a r ih =>
    intro r1 v hv
    have ih' := ih (fun w hw => r1 w (List.mem_cons_of_mem _ hw))
    have ra := r1 a List.mem_cons_self
    match a, ra, hv with
    | .inl z, ra, hv =>
      simp only [argLv, List.mem_cons] at hv
      rcases hv with hv | hv
      · cases hv; exact ra
      · exact ih' v hv
    | .inr (.inl z), ra, hv =>
      simp only [argLv, List.mem_cons] at hv
      rcases hv with hv | hv | hv
      · cases hv; exact ra
      · cases hv
      · exact ih' v hv
    | .inr (.inr q), ra, hv =>
      simp only [argLv, List.mem_cons] at hv
      rcases hv with hv | hv
      · cases hv; exact ra
      · exact ih' v hv
/-- a contract out of the walk of the body -/
theorem Mc_of {as : List MV} (lv : List (Option MV)) (hy : plainName y.1.cls = true) (hl : argLv as ++ List.replicate (y.2.2.1 - (argLv as).length) none = lv) (hn : (argLv as).length ≤ y.2.2.1) (k : JM X y d Q 0 lv [] ω) : Mc X y d as ω Q := by
  refine Met.ofW (cc := y.2.1) (maxL := y.2.2.1) (ret := y.2.2.2) hy rfl ?_
  intro p e s m args below meth c s₁ B hml hv
  obtain ⟨rfl, r1, r2, r3, r4, r5, r6⟩ := hv
  have hts := atoms_spec (ws := cdw y :: gTbl) B.pre
  have hown : s.vm.findClass y.1.cls = some m.cls := findClass_of_methodNamed B.named
  have h6 := lv_entry (as.map (emb X)) (n := y.2.2.1) (by rw [argLv_len]; exact hn)
  rw [lg_entry_eq]
  refine k p e (rmD d) s m _ below meth c 0 0 _ ⟨B.exec, B.bytes, hml, hown, fun w hw => hts w (List.mem_cons_of_mem _ hw), r6, r5, r3, fun q hq => ⟨q, hq, rfl⟩⟩ ⟨B.returns, B.notSynchronized, rfl, rfl, rfl, rfl⟩ s.heap [] _ (fun v hv => by cases hv) ?_ r2 r4 va_S.rf ?_
  · intro v hv
    subst hl
    rcases List.mem_append.mp hv with hv | hv
    · exact argLv_RV as r1 v hv
    · have := (List.mem_replicate.mp hv).2; cases this
  · rw [← hl, lvl_app, argLv_args]; exact h6
end JC
end
section
section JV
variable {X : Cx} {A : Nat → Prop} {own : String} {cc : ByteArray} {nL : Nat} {P : PT} {pc : Nat} {lv : List (Option MV)} {st : List MV} {ω : Om}
def push (r : Option MV) (st : List MV) : List MV := match r with
  | none => st
  | some v => v :: st
theorem push_app (r : Option MV) (st : List MV) : r.toList ++ st = push r st := by cases r <;> rfl
theorem J_istore_0 { b : Option MV} {r : List (Option MV)} {z : Int} (hd : decode cc pc = .ok (.istore_n 0, 1)) (hn : 0 < nL) (k : J X A own cc nL P (pc + 1) (some (vI z) :: r) st ω) : J X A own cc nL P pc (b :: r) (vI z :: st) ω := J_istore_n 0 hd hn (Or.inl rfl) rfl k
theorem J_lstore_0 { b b2 : Option MV} {r : List (Option MV)} {z : Int} (hd : decode cc pc = .ok (.lstore_n 0, 1)) (hn : 0 + 1 < nL) (k : J X A own cc nL P (pc + 1) (some (vL z) :: none :: r) st ω) : J X A own cc nL P pc (b :: b2 :: r) (vL z :: st) ω := J_lstore_n 0 hd hn (Or.inl rfl) rfl k
theorem J_iinc_0 {r : List (Option MV)} {z n : Int} (hd : decode cc pc = .ok (.iinc 0 n, 3)) (hn : 0 < nL) (hr : InR (z + n)) (k : J X A own cc nL P (pc + 3) (some (vI (z + n)) :: r) st ω) : J X A own cc nL P pc (some (vI z) :: r) st ω := J_iinc 0 n hd hn rfl hr (Or.inl rfl) rfl k
theorem J_istore_1 {a0 b : Option MV} {r : List (Option MV)} {z : Int} (hd : decode cc pc = .ok (.istore_n 1, 1)) (hn : 1 < nL) (hno : noL (some a0) = true) (k : J X A own cc nL P (pc + 1) (a0 :: some (vI z) :: r) st ω) : J X A own cc nL P pc (a0 :: b :: r) (vI z :: st) ω := J_istore_n 1 hd hn (Or.inr hno) rfl k
theorem J_lstore_1 {a0 b b2 : Option MV} {r : List (Option MV)} {z : Int} (hd : decode cc pc = .ok (.lstore_n 1, 1)) (hn : 1 + 1 < nL) (hno : noL (some a0) = true) (k : J X A own cc nL P (pc + 1) (a0 :: some (vL z) :: none :: r) st ω) : J X A own cc nL P pc (a0 :: b :: b2 :: r) (vL z :: st) ω := J_lstore_n 1 hd hn (Or.inr hno) rfl k
theorem J_iinc_1 {a0 : Option MV} {r : List (Option MV)} {z n : Int} (hd : decode cc pc = .ok (.iinc 1 n, 3)) (hn : 1 < nL) (hr : InR (z + n)) (hno : noL (some a0) = true) (k : J X A own cc nL P (pc + 3) (a0 :: some (vI (z + n)) :: r) st ω) : J X A own cc nL P pc (a0 :: some (vI z) :: r) st ω := J_iinc 1 n hd hn rfl hr (Or.inr hno) rfl k
theorem J_istore_2 {a0 a1 b : Option MV} {r : List (Option MV)} {z : Int} (hd : decode cc pc = .ok (.istore_n 2, 1)) (hn : 2 < nL) (hno : noL (some a1) = true) (k : J X A own cc nL P (pc + 1) (a0 :: a1 :: some (vI z) :: r) st ω) : J X A own cc nL P pc (a0 :: a1 :: b :: r) (vI z :: st) ω := J_istore_n 2 hd hn (Or.inr hno) rfl k
theorem J_lstore_2 {a0 a1 b b2 : Option MV} {r : List (Option MV)} {z : Int} (hd : decode cc pc = .ok (.lstore_n 2, 1)) (hn : 2 + 1 < nL) (hno : noL (some a1) = true) (k : J X A own cc nL P (pc + 1) (a0 :: a1 :: some (vL z) :: none :: r) st ω) : J X A own cc nL P pc (a0 :: a1 :: b :: b2 :: r) (vL z :: st) ω := J_lstore_n 2 hd hn (Or.inr hno) rfl k
theorem J_iinc_2 {a0 a1 : Option MV} {r : List (Option MV)} {z n : Int} (hd : decode cc pc = .ok (.iinc 2 n, 3)) (hn : 2 < nL) (hr : InR (z + n)) (hno : noL (some a1) = true) (k : J X A own cc nL P (pc + 3) (a0 :: a1 :: some (vI (z + n)) :: r) st ω) : J X A own cc nL P pc (a0 :: a1 :: some (vI z) :: r) st ω := J_iinc 2 n hd hn rfl hr (Or.inr hno) rfl k
theorem J_istore_3 {a0 a1 a2 b : Option MV} {r : List (Option MV)} {z : Int} (hd : decode cc pc = .ok (.istore_n 3, 1)) (hn : 3 < nL) (hno : noL (some a2) = true) (k : J X A own cc nL P (pc + 1) (a0 :: a1 :: a2 :: some (vI z) :: r) st ω) : J X A own cc nL P pc (a0 :: a1 :: a2 :: b :: r) (vI z :: st) ω := J_istore_n 3 hd hn (Or.inr hno) rfl k
theorem J_lstore_3 {a0 a1 a2 b b2 : Option MV} {r : List (Option MV)} {z : Int} (hd : decode cc pc = .ok (.lstore_n 3, 1)) (hn : 3 + 1 < nL) (hno : noL (some a2) = true) (k : J X A own cc nL P (pc + 1) (a0 :: a1 :: a2 :: some (vL z) :: none :: r) st ω) : J X A own cc nL P pc (a0 :: a1 :: a2 :: b :: b2 :: r) (vL z :: st) ω := J_lstore_n 3 hd hn (Or.inr hno) rfl k
theorem J_iinc_3 {a0 a1 a2 : Option MV} {r : List (Option MV)} {z n : Int} (hd : decode cc pc = .ok (.iinc 3 n, 3)) (hn : 3 < nL) (hr : InR (z + n)) (hno : noL (some a2) = true) (k : J X A own cc nL P (pc + 3) (a0 :: a1 :: a2 :: some (vI (z + n)) :: r) st ω) : J X A own cc nL P pc (a0 :: a1 :: a2 :: some (vI z) :: r) st ω := J_iinc 3 n hd hn rfl hr (Or.inr hno) rfl k
theorem J_istore_4 {a0 a1 a2 a3 b : Option MV} {r : List (Option MV)} {z : Int} (hd : decode cc pc = .ok (.istore 4, 2)) (hn : 4 < nL) (hno : noL (some a3) = true) (k : J X A own cc nL P (pc + 2) (a0 :: a1 :: a2 :: a3 :: some (vI z) :: r) st ω) : J X A own cc nL P pc (a0 :: a1 :: a2 :: a3 :: b :: r) (vI z :: st) ω := J_istore 4 hd hn (Or.inr hno) rfl k
theorem J_lstore_4 {a0 a1 a2 a3 b b2 : Option MV} {r : List (Option MV)} {z : Int} (hd : decode cc pc = .ok (.lstore 4, 2)) (hn : 4 + 1 < nL) (hno : noL (some a3) = true) (k : J X A own cc nL P (pc + 2) (a0 :: a1 :: a2 :: a3 :: some (vL z) :: none :: r) st ω) : J X A own cc nL P pc (a0 :: a1 :: a2 :: a3 :: b :: b2 :: r) (vL z :: st) ω := J_lstore 4 hd hn (Or.inr hno) rfl k
theorem J_iinc_4 {a0 a1 a2 a3 : Option MV} {r : List (Option MV)} {z n : Int} (hd : decode cc pc = .ok (.iinc 4 n, 3)) (hn : 4 < nL) (hr : InR (z + n)) (hno : noL (some a3) = true) (k : J X A own cc nL P (pc + 3) (a0 :: a1 :: a2 :: a3 :: some (vI (z + n)) :: r) st ω) : J X A own cc nL P pc (a0 :: a1 :: a2 :: a3 :: some (vI z) :: r) st ω := J_iinc 4 n hd hn rfl hr (Or.inr hno) rfl k
theorem J_istore_5 {a0 a1 a2 a3 a4 b : Option MV} {r : List (Option MV)} {z : Int} (hd : decode cc pc = .ok (.istore 5, 2)) (hn : 5 < nL) (hno : noL (some a4) = true) (k : J X A own cc nL P (pc + 2) (a0 :: a1 :: a2 :: a3 :: a4 :: some (vI z) :: r) st ω) : J X A own cc nL P pc (a0 :: a1 :: a2 :: a3 :: a4 :: b :: r) (vI z :: st) ω := J_istore 5 hd hn (Or.inr hno) rfl k
theorem J_lstore_5 {a0 a1 a2 a3 a4 b b2 : Option MV} {r : List (Option MV)} {z : Int} (hd : decode cc pc = .ok (.lstore 5, 2)) (hn : 5 + 1 < nL) (hno : noL (some a4) = true) (k : J X A own cc nL P (pc + 2) (a0 :: a1 :: a2 :: a3 :: a4 :: some (vL z) :: none :: r) st ω) : J X A own cc nL P pc (a0 :: a1 :: a2 :: a3 :: a4 :: b :: b2 :: r) (vL z :: st) ω := J_lstore 5 hd hn (Or.inr hno) rfl k
theorem J_iinc_5 {a0 a1 a2 a3 a4 : Option MV} {r : List (Option MV)} {z n : Int} (hd : decode cc pc = .ok (.iinc 5 n, 3)) (hn : 5 < nL) (hr : InR (z + n)) (hno : noL (some a4) = true) (k : J X A own cc nL P (pc + 3) (a0 :: a1 :: a2 :: a3 :: a4 :: some (vI (z + n)) :: r) st ω) : J X A own cc nL P pc (a0 :: a1 :: a2 :: a3 :: a4 :: some (vI z) :: r) st ω := J_iinc 5 n hd hn rfl hr (Or.inr hno) rfl k
theorem J_istore_6 {a0 a1 a2 a3 a4 a5 b : Option MV} {r : List (Option MV)} {z : Int} (hd : decode cc pc = .ok (.istore 6, 2)) (hn : 6 < nL) (hno : noL (some a5) = true) (k : J X A own cc nL P (pc + 2) (a0 :: a1 :: a2 :: a3 :: a4 :: a5 :: some (vI z) :: r) st ω) : J X A own cc nL P pc (a0 :: a1 :: a2 :: a3 :: a4 :: a5 :: b :: r) (vI z :: st) ω := J_istore 6 hd hn (Or.inr hno) rfl k
theorem J_lstore_6 {a0 a1 a2 a3 a4 a5 b b2 : Option MV} {r : List (Option MV)} {z : Int} (hd : decode cc pc = .ok (.lstore 6, 2)) (hn : 6 + 1 < nL) (hno : noL (some a5) = true) (k : J X A own cc nL P (pc + 2) (a0 :: a1 :: a2 :: a3 :: a4 :: a5 :: some (vL z) :: none :: r) st ω) : J X A own cc nL P pc (a0 :: a1 :: a2 :: a3 :: a4 :: a5 :: b :: b2 :: r) (vL z :: st) ω := J_lstore 6 hd hn (Or.inr hno) rfl k
theorem J_iinc_6 {a0 a1 a2 a3 a4 a5 : Option MV} {r : List (Option MV)} {z n : Int} (hd : decode cc pc = .ok (.iinc 6 n, 3)) (hn : 6 < nL) (hr : InR (z + n)) (hno : noL (some a5) = true) (k : J X A own cc nL P (pc + 3) (a0 :: a1 :: a2 :: a3 :: a4 :: a5 :: some (vI (z + n)) :: r) st ω) : J X A own cc nL P pc (a0 :: a1 :: a2 :: a3 :: a4 :: a5 :: some (vI z) :: r) st ω := J_iinc 6 n hd hn rfl hr (Or.inr hno) rfl k
theorem J_istore_7 {a0 a1 a2 a3 a4 a5 a6 b : Option MV} {r : List (Option MV)} {z : Int} (hd : decode cc pc = .ok (.istore 7, 2)) (hn : 7 < nL) (hno : noL (some a6) = true) (k : J X A own cc nL P (pc + 2) (a0 :: a1 :: a2 :: a3 :: a4 :: a5 :: a6 :: some (vI z) :: r) st ω) : J X A own cc nL P pc (a0 :: a1 :: a2 :: a3 :: a4 :: a5 :: a6 :: b :: r) (vI z :: st) ω := J_istore 7 hd hn (Or.inr hno) rfl k
theorem J_lstore_7 {a0 a1 a2 a3 a4 a5 a6 b b2 : Option MV} {r : List (Option MV)} {z : Int} (hd : decode cc pc = .ok (.lstore 7, 2)) (hn : 7 + 1 < nL) (hno : noL (some a6) = true) (k : J X A own cc nL P (pc + 2) (a0 :: a1 :: a2 :: a3 :: a4 :: a5 :: a6 :: some (vL z) :: none :: r) st ω) : J X A own cc nL P pc (a0 :: a1 :: a2 :: a3 :: a4 :: a5 :: a6 :: b :: b2 :: r) (vL z :: st) ω := J_lstore 7 hd hn (Or.inr hno) rfl k
theorem J_iinc_7 {a0 a1 a2 a3 a4 a5 a6 : Option MV} {r : List (Option MV)} {z n : Int} (hd : decode cc pc = .ok (.iinc 7 n, 3)) (hn : 7 < nL) (hr : InR (z + n)) (hno : noL (some a6) = true) (k : J X A own cc nL P (pc + 3) (a0 :: a1 :: a2 :: a3 :: a4 :: a5 :: a6 :: some (vI (z + n)) :: r) st ω) : J X A own cc nL P pc (a0 :: a1 :: a2 :: a3 :: a4 :: a5 :: a6 :: some (vI z) :: r) st ω := J_iinc 7 n hd hn rfl hr (Or.inr hno) rfl k
theorem J_istore_8 {a0 a1 a2 a3 a4 a5 a6 a7 b : Option MV} {r : List (Option MV)} {z : Int} (hd : decode cc pc = .ok (.istore 8, 2)) (hn : 8 < nL) (hno : noL (some a7) = true) (k : J X A own cc nL P (pc + 2) (a0 :: a1 :: a2 :: a3 :: a4 :: a5 :: a6 :: a7 :: some (vI z) :: r) st ω) : J X A own cc nL P pc (a0 :: a1 :: a2 :: a3 :: a4 :: a5 :: a6 :: a7 :: b :: r) (vI z :: st) ω := J_istore 8 hd hn (Or.inr hno) rfl k
theorem J_lstore_8 {a0 a1 a2 a3 a4 a5 a6 a7 b b2 : Option MV} {r : List (Option MV)} {z : Int} (hd : decode cc pc = .ok (.lstore 8, 2)) (hn : 8 + 1 < nL) (hno : noL (some a7) = true) (k : J X A own cc nL P (pc + 2) (a0 :: a1 :: a2 :: a3 :: a4 :: a5 :: a6 :: a7 :: some (vL z) :: none :: r) st ω) : J X A own cc nL P pc (a0 :: a1 :: a2 :: a3 :: a4 :: a5 :: a6 :: a7 :: b :: b2 :: r) (vL z :: st) ω := J_lstore 8 hd hn (Or.inr hno) rfl k
theorem J_iinc_8 {a0 a1 a2 a3 a4 a5 a6 a7 : Option MV} {r : List (Option MV)} {z n : Int} (hd : decode cc pc = .ok (.iinc 8 n, 3)) (hn : 8 < nL) (hr : InR (z + n)) (hno : noL (some a7) = true) (k : J X A own cc nL P (pc + 3) (a0 :: a1 :: a2 :: a3 :: a4 :: a5 :: a6 :: a7 :: some (vI (z + n)) :: r) st ω) : J X A own cc nL P pc (a0 :: a1 :: a2 :: a3 :: a4 :: a5 :: a6 :: a7 :: some (vI z) :: r) st ω := J_iinc 8 n hd hn rfl hr (Or.inr hno) rfl k
theorem J_istore_9 {a0 a1 a2 a3 a4 a5 a6 a7 a8 b : Option MV} {r : List (Option MV)} {z : Int} (hd : decode cc pc = .ok (.istore 9, 2)) (hn : 9 < nL) (hno : noL (some a8) = true) (k : J X A own cc nL P (pc + 2) (a0 :: a1 :: a2 :: a3 :: a4 :: a5 :: a6 :: a7 :: a8 :: some (vI z) :: r) st ω) : J X A own cc nL P pc (a0 :: a1 :: a2 :: a3 :: a4 :: a5 :: a6 :: a7 :: a8 :: b :: r) (vI z :: st) ω := J_istore 9 hd hn (Or.inr hno) rfl k
theorem J_lstore_9 {a0 a1 a2 a3 a4 a5 a6 a7 a8 b b2 : Option MV} {r : List (Option MV)} {z : Int} (hd : decode cc pc = .ok (.lstore 9, 2)) (hn : 9 + 1 < nL) (hno : noL (some a8) = true) (k : J X A own cc nL P (pc + 2) (a0 :: a1 :: a2 :: a3 :: a4 :: a5 :: a6 :: a7 :: a8 :: some (vL z) :: none :: r) st ω) : J X A own cc nL P pc (a0 :: a1 :: a2 :: a3 :: a4 :: a5 :: a6 :: a7 :: a8 :: b :: b2 :: r) (vL z :: st) ω := J_lstore 9 hd hn (Or.inr hno) rfl k
theorem J_iinc_9 {a0 a1 a2 a3 a4 a5 a6 a7 a8 : Option MV} {r : List (Option MV)} {z n : Int} (hd : decode cc pc = .ok (.iinc 9 n, 3)) (hn : 9 < nL) (hr : InR (z + n)) (hno : noL (some a8) = true) (k : J X A own cc nL P (pc + 3) (a0 :: a1 :: a2 :: a3 :: a4 :: a5 :: a6 :: a7 :: a8 :: some (vI (z + n)) :: r) st ω) : J X A own cc nL P pc (a0 :: a1 :: a2 :: a3 :: a4 :: a5 :: a6 :: a7 :: a8 :: some (vI z) :: r) st ω := J_iinc 9 n hd hn rfl hr (Or.inr hno) rfl k
variable {y : MD} {d : Nat} {Q : Option MV → Om → Prop}
theorem Pm_room {z : MD} (hz : z.2.2.1 ≤ 21) : ∀ p e R s m args below meth c cells slots Qm, Pm X y (d + 1) Q p e R s m args below meth c cells slots Qm → rmOk d z R cells slots := by
  intro p e R s m args below meth c cells slots Qm ⟨_, _, h, h1, h2, _⟩
  subst h; subst h1; subst h2
  refine ⟨?_, ?_, Nat.le_refl 0, Nat.le_refl 0⟩
  · show d + 2 ≤ d + 1 + 1; omega
  · show 8 + (z.2.2.1 + 11) + (40 * d + 12) ≤ 40 * (d + 1) + 12; omega
theorem JM_V0 {z : MD} {idx k : Nat} (lk : MLkV y.1.cls idx z 0) (hk : rcv k z.1.cls) (hd : decode y.2.1 pc = .ok (.invokevirtual idx, 3)) (hz : z.2.2.1 ≤ 21) (hw : wt st ≤ 8) (hM : Mc X z d [vR k] ω (fun r ω' => JM X y (d + 1) Q (pc + 3) lv (push r st) ω')) : JM X y (d + 1) Q pc lv (vR k :: st) ω :=
  J_callV (as := []) (Pm_room hz) lk rfl hk hw hd (by simp only [push_app]; exact hM)
theorem JM_V1 {z : MD} {idx k : Nat} {x0 : MV} (lk : MLkV y.1.cls idx z 1) (hk : rcv k z.1.cls) (hd : decode y.2.1 pc = .ok (.invokevirtual idx, 3)) (hz : z.2.2.1 ≤ 21) (hw : wt st ≤ 8) (hM : Mc X z d [vR k, x0] ω (fun r ω' => JM X y (d + 1) Q (pc + 3) lv (push r st) ω')) : JM X y (d + 1) Q pc lv (x0 :: vR k :: st) ω :=
  J_callV (as := [x0]) (Pm_room hz) lk rfl hk hw hd (by simp only [push_app]; exact hM)
theorem JM_S1 {z : MD} {idx : Nat} {x0 : MV} (lk : MLkS y.1.cls idx z 1) (hd : decode y.2.1 pc = .ok (.invokestatic idx, 3)) (hz : z.2.2.1 ≤ 21) (hw : wt st ≤ 8) (hM : Mc X z d [x0] ω (fun r ω' => JM X y (d + 1) Q (pc + 3) lv (push r st) ω')) : JM X y (d + 1) Q pc lv (x0 :: st) ω :=
  J_callS (as := [x0]) (Pm_room hz) lk rfl hw hd (by simp only [push_app]; exact hM)
theorem JM_V2 {z : MD} {idx k : Nat} {x0 x1 : MV} (lk : MLkV y.1.cls idx z 2) (hk : rcv k z.1.cls) (hd : decode y.2.1 pc = .ok (.invokevirtual idx, 3)) (hz : z.2.2.1 ≤ 21) (hw : wt st ≤ 8) (hM : Mc X z d [vR k, x0, x1] ω (fun r ω' => JM X y (d + 1) Q (pc + 3) lv (push r st) ω')) : JM X y (d + 1) Q pc lv (x1 :: x0 :: vR k :: st) ω :=
  J_callV (as := [x0, x1]) (Pm_room hz) lk rfl hk hw hd (by simp only [push_app]; exact hM)
theorem JM_S2 {z : MD} {idx : Nat} {x0 x1 : MV} (lk : MLkS y.1.cls idx z 2) (hd : decode y.2.1 pc = .ok (.invokestatic idx, 3)) (hz : z.2.2.1 ≤ 21) (hw : wt st ≤ 8) (hM : Mc X z d [x0, x1] ω (fun r ω' => JM X y (d + 1) Q (pc + 3) lv (push r st) ω')) : JM X y (d + 1) Q pc lv (x1 :: x0 :: st) ω :=
  J_callS (as := [x0, x1]) (Pm_room hz) lk rfl hw hd (by simp only [push_app]; exact hM)
theorem JM_V3 {z : MD} {idx k : Nat} {x0 x1 x2 : MV} (lk : MLkV y.1.cls idx z 3) (hk : rcv k z.1.cls) (hd : decode y.2.1 pc = .ok (.invokevirtual idx, 3)) (hz : z.2.2.1 ≤ 21) (hw : wt st ≤ 8) (hM : Mc X z d [vR k, x0, x1, x2] ω (fun r ω' => JM X y (d + 1) Q (pc + 3) lv (push r st) ω')) : JM X y (d + 1) Q pc lv (x2 :: x1 :: x0 :: vR k :: st) ω :=
  J_callV (as := [x0, x1, x2]) (Pm_room hz) lk rfl hk hw hd (by simp only [push_app]; exact hM)
theorem JM_S3 {z : MD} {idx : Nat} {x0 x1 x2 : MV} (lk : MLkS y.1.cls idx z 3) (hd : decode y.2.1 pc = .ok (.invokestatic idx, 3)) (hz : z.2.2.1 ≤ 21) (hw : wt st ≤ 8) (hM : Mc X z d [x0, x1, x2] ω (fun r ω' => JM X y (d + 1) Q (pc + 3) lv (push r st) ω')) : JM X y (d + 1) Q pc lv (x2 :: x1 :: x0 :: st) ω :=
  J_callS (as := [x0, x1, x2]) (Pm_room hz) lk rfl hw hd (by simp only [push_app]; exact hM)
theorem JM_V4 {z : MD} {idx k : Nat} {x0 x1 x2 x3 : MV} (lk : MLkV y.1.cls idx z 4) (hk : rcv k z.1.cls) (hd : decode y.2.1 pc = .ok (.invokevirtual idx, 3)) (hz : z.2.2.1 ≤ 21) (hw : wt st ≤ 8) (hM : Mc X z d [vR k, x0, x1, x2, x3] ω (fun r ω' => JM X y (d + 1) Q (pc + 3) lv (push r st) ω')) : JM X y (d + 1) Q pc lv (x3 :: x2 :: x1 :: x0 :: vR k :: st) ω :=
  J_callV (as := [x0, x1, x2, x3]) (Pm_room hz) lk rfl hk hw hd (by simp only [push_app]; exact hM)
theorem JM_S4 {z : MD} {idx : Nat} {x0 x1 x2 x3 : MV} (lk : MLkS y.1.cls idx z 4) (hd : decode y.2.1 pc = .ok (.invokestatic idx, 3)) (hz : z.2.2.1 ≤ 21) (hw : wt st ≤ 8) (hM : Mc X z d [x0, x1, x2, x3] ω (fun r ω' => JM X y (d + 1) Q (pc + 3) lv (push r st) ω')) : JM X y (d + 1) Q pc lv (x3 :: x2 :: x1 :: x0 :: st) ω :=
  J_callS (as := [x0, x1, x2, x3]) (Pm_room hz) lk rfl hw hd (by simp only [push_app]; exact hM)
theorem JM_V5 {z : MD} {idx k : Nat} {x0 x1 x2 x3 x4 : MV} (lk : MLkV y.1.cls idx z 5) (hk : rcv k z.1.cls) (hd : decode y.2.1 pc = .ok (.invokevirtual idx, 3)) (hz : z.2.2.1 ≤ 21) (hw : wt st ≤ 8) (hM : Mc X z d [vR k, x0, x1, x2, x3, x4] ω (fun r ω' => JM X y (d + 1) Q (pc + 3) lv (push r st) ω')) : JM X y (d + 1) Q pc lv (x4 :: x3 :: x2 :: x1 :: x0 :: vR k :: st) ω :=
  J_callV (as := [x0, x1, x2, x3, x4]) (Pm_room hz) lk rfl hk hw hd (by simp only [push_app]; exact hM)
theorem JM_S5 {z : MD} {idx : Nat} {x0 x1 x2 x3 x4 : MV} (lk : MLkS y.1.cls idx z 5) (hd : decode y.2.1 pc = .ok (.invokestatic idx, 3)) (hz : z.2.2.1 ≤ 21) (hw : wt st ≤ 8) (hM : Mc X z d [x0, x1, x2, x3, x4] ω (fun r ω' => JM X y (d + 1) Q (pc + 3) lv (push r st) ω')) : JM X y (d + 1) Q pc lv (x4 :: x3 :: x2 :: x1 :: x0 :: st) ω :=
  J_callS (as := [x0, x1, x2, x3, x4]) (Pm_room hz) lk rfl hw hd (by simp only [push_app]; exact hM)
end JV
theorem rcv_0 : rcv 0 RX6 := ⟨6, _, _, _, rfl, rfl, rfl⟩
theorem rcv_1 : rcv 1 RX1 := ⟨1, _, _, _, rfl, rfl, rfl⟩
theorem rcv_2 : rcv 2 RX2 := ⟨2, _, _, _, rfl, rfl, rfl⟩
theorem rcv_3 : rcv 3 RX5 := ⟨5, _, _, _, rfl, rfl, rfl⟩
theorem rcv_4 : rcv 4 RX4 := ⟨4, _, _, _, rfl, rfl, rfl⟩
theorem rcv_5 : rcv 5 RX3 := ⟨3, _, _, _, rfl, rfl, rfl⟩
theorem rcv_6 : rcv 6 RX0 := ⟨0, _, _, _, rfl, rfl, rfl⟩
theorem rcv_29 : rcv 29 RX7 := ⟨7, _, _, _, rfl, rfl, rfl⟩
theorem fp_0_6 : fput 0 6 0 := ⟨RX0, TX0, 14, tyX0, clsX0, by decide, rfl, Or.inl ⟨rfl, rfl⟩⟩
theorem fp_0_7 : fput 0 7 0 := ⟨RX0, TX0, 14, tyX0, clsX0, by decide, rfl, Or.inl ⟨rfl, rfl⟩⟩
theorem fp_0_8 : fput 0 8 0 := ⟨RX0, TX0, 14, tyX0, clsX0, by decide, rfl, Or.inl ⟨rfl, rfl⟩⟩
theorem fp_0_9 : fput 0 9 0 := ⟨RX0, TX0, 14, tyX0, clsX0, by decide, rfl, Or.inl ⟨rfl, rfl⟩⟩
theorem fp_0_10 : fput 0 10 0 := ⟨RX0, TX0, 14, tyX0, clsX0, by decide, rfl, Or.inl ⟨rfl, rfl⟩⟩
theorem fp_0_11 : fput 0 11 0 := ⟨RX0, TX0, 14, tyX0, clsX0, by decide, rfl, Or.inl ⟨rfl, rfl⟩⟩
theorem fp_0_12 : fput 0 12 0 := ⟨RX0, TX0, 14, tyX0, clsX0, by decide, rfl, Or.inl ⟨rfl, rfl⟩⟩
theorem fp_0_13 : fput 0 13 0 := ⟨RX0, TX0, 14, tyX0, clsX0, by decide, rfl, Or.inl ⟨rfl, rfl⟩⟩
theorem fp_1_1 : fput 1 1 0 := ⟨RX1, TX1, 2, tyX1, clsX1, by decide, rfl, Or.inl ⟨rfl, rfl⟩⟩
theorem fp_2_3 : fput 2 3 0 := ⟨RX2, TX2, 9, tyX2, clsX2, by decide, rfl, Or.inl ⟨rfl, rfl⟩⟩
theorem fp_2_4 : fput 2 4 0 := ⟨RX2, TX2, 9, tyX2, clsX2, by decide, rfl, Or.inl ⟨rfl, rfl⟩⟩
theorem fp_2_5 : fput 2 5 0 := ⟨RX2, TX2, 9, tyX2, clsX2, by decide, rfl, Or.inl ⟨rfl, rfl⟩⟩
theorem fp_2_6 : fput 2 6 0 := ⟨RX2, TX2, 9, tyX2, clsX2, by decide, rfl, Or.inl ⟨rfl, rfl⟩⟩
theorem fp_2_7 : fput 2 7 0 := ⟨RX2, TX2, 9, tyX2, clsX2, by decide, rfl, Or.inl ⟨rfl, rfl⟩⟩
theorem fp_2_8 : fput 2 8 0 := ⟨RX2, TX2, 9, tyX2, clsX2, by decide, rfl, Or.inl ⟨rfl, rfl⟩⟩
theorem fp_3_5 : fput 3 5 1 := ⟨RX3, TX3, 8, tyX3, clsX3, by decide, rfl, Or.inr ⟨rfl, rfl⟩⟩
theorem fp_3_6 : fput 3 6 0 := ⟨RX3, TX3, 8, tyX3, clsX3, by decide, rfl, Or.inl ⟨rfl, rfl⟩⟩
theorem fp_3_7 : fput 3 7 0 := ⟨RX3, TX3, 8, tyX3, clsX3, by decide, rfl, Or.inl ⟨rfl, rfl⟩⟩
theorem fp_4_5 : fput 4 5 1 := ⟨RX4, TX4, 9, tyX4, clsX4, by decide, rfl, Or.inr ⟨rfl, rfl⟩⟩
theorem fp_4_6 : fput 4 6 0 := ⟨RX4, TX4, 9, tyX4, clsX4, by decide, rfl, Or.inl ⟨rfl, rfl⟩⟩
theorem fp_4_7 : fput 4 7 0 := ⟨RX4, TX4, 9, tyX4, clsX4, by decide, rfl, Or.inl ⟨rfl, rfl⟩⟩
theorem fp_4_8 : fput 4 8 0 := ⟨RX4, TX4, 9, tyX4, clsX4, by decide, rfl, Or.inl ⟨rfl, rfl⟩⟩
theorem fp_5_7 : fput 5 7 0 := ⟨RX5, TX5, 10, tyX5, clsX5, by decide, rfl, Or.inl ⟨rfl, rfl⟩⟩
theorem fp_5_8 : fput 5 8 0 := ⟨RX5, TX5, 10, tyX5, clsX5, by decide, rfl, Or.inl ⟨rfl, rfl⟩⟩
theorem fp_5_9 : fput 5 9 0 := ⟨RX5, TX5, 10, tyX5, clsX5, by decide, rfl, Or.inl ⟨rfl, rfl⟩⟩
theorem fp_6_6 : fput 6 6 0 := ⟨RX6, TX6, 7, tyX6, clsX6, by decide, rfl, Or.inl ⟨rfl, rfl⟩⟩
theorem fp_7_0 : fput 7 0 0 := ⟨RX7, TX7, 45, tyX7, clsX7, by decide, rfl, Or.inl ⟨rfl, rfl⟩⟩
theorem fp_7_2 : fput 7 2 0 := ⟨RX7, TX7, 45, tyX7, clsX7, by decide, rfl, Or.inl ⟨rfl, rfl⟩⟩
theorem fp_7_7 : fput 7 7 0 := ⟨RX7, TX7, 45, tyX7, clsX7, by decide, rfl, Or.inl ⟨rfl, rfl⟩⟩
theorem fp_7_8 : fput 7 8 0 := ⟨RX7, TX7, 45, tyX7, clsX7, by decide, rfl, Or.inl ⟨rfl, rfl⟩⟩
theorem fp_7_12 : fput 7 12 0 := ⟨RX7, TX7, 45, tyX7, clsX7, by decide, rfl, Or.inl ⟨rfl, rfl⟩⟩
theorem fp_7_15 : fput 7 15 0 := ⟨RX7, TX7, 45, tyX7, clsX7, by decide, rfl, Or.inl ⟨rfl, rfl⟩⟩
theorem fp_7_17 : fput 7 17 0 := ⟨RX7, TX7, 45, tyX7, clsX7, by decide, rfl, Or.inl ⟨rfl, rfl⟩⟩
theorem fp_7_18 : fput 7 18 0 := ⟨RX7, TX7, 45, tyX7, clsX7, by decide, rfl, Or.inl ⟨rfl, rfl⟩⟩
theorem fp_7_19 : fput 7 19 0 := ⟨RX7, TX7, 45, tyX7, clsX7, by decide, rfl, Or.inl ⟨rfl, rfl⟩⟩
theorem fp_7_20 : fput 7 20 0 := ⟨RX7, TX7, 45, tyX7, clsX7, by decide, rfl, Or.inl ⟨rfl, rfl⟩⟩
theorem fp_7_21 : fput 7 21 0 := ⟨RX7, TX7, 45, tyX7, clsX7, by decide, rfl, Or.inl ⟨rfl, rfl⟩⟩
theorem fp_7_22 : fput 7 22 0 := ⟨RX7, TX7, 45, tyX7, clsX7, by decide, rfl, Or.inl ⟨rfl, rfl⟩⟩
theorem fp_7_23 : fput 7 23 0 := ⟨RX7, TX7, 45, tyX7, clsX7, by decide, rfl, Or.inl ⟨rfl, rfl⟩⟩
theorem fp_7_27 : fput 7 27 0 := ⟨RX7, TX7, 45, tyX7, clsX7, by decide, rfl, Or.inl ⟨rfl, rfl⟩⟩
theorem fp_7_28 : fput 7 28 0 := ⟨RX7, TX7, 45, tyX7, clsX7, by decide, rfl, Or.inl ⟨rfl, rfl⟩⟩
theorem fp_7_31 : fput 7 31 0 := ⟨RX7, TX7, 45, tyX7, clsX7, by decide, rfl, Or.inl ⟨rfl, rfl⟩⟩
theorem fp_7_32 : fput 7 32 0 := ⟨RX7, TX7, 45, tyX7, clsX7, by decide, rfl, Or.inl ⟨rfl, rfl⟩⟩
theorem fp_7_36 : fput 7 36 0 := ⟨RX7, TX7, 45, tyX7, clsX7, by decide, rfl, Or.inl ⟨rfl, rfl⟩⟩
theorem fp_7_39 : fput 7 39 0 := ⟨RX7, TX7, 45, tyX7, clsX7, by decide, rfl, Or.inl ⟨rfl, rfl⟩⟩
theorem fp_7_40 : fput 7 40 0 := ⟨RX7, TX7, 45, tyX7, clsX7, by decide, rfl, Or.inl ⟨rfl, rfl⟩⟩
theorem fp_7_41 : fput 7 41 0 := ⟨RX7, TX7, 45, tyX7, clsX7, by decide, rfl, Or.inl ⟨rfl, rfl⟩⟩
theorem fp_7_43 : fput 7 43 0 := ⟨RX7, TX7, 45, tyX7, clsX7, by decide, rfl, Or.inl ⟨rfl, rfl⟩⟩
theorem fp_7_44 : fput 7 44 1 := ⟨RX7, TX7, 45, tyX7, clsX7, by decide, rfl, Or.inr ⟨rfl, rfl⟩⟩
end
