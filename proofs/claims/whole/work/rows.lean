section
-- ===== PART A: goes FIRST, ahead of the names: the tables' words, and 'selects' of the private methods out of them =====
/-- a private method of a class that the tables say can be made, by its rows of tables_1 -/
def lw_okq (q : MethodName × Nat) : Prop := (q.1.cls ≠ "java/lang/invoke/MethodHandle" ∧ q.1.cls ≠ "java/lang/invoke/VarHandle") ∧ Cond.instantiable q.1.cls q.2 ∈ tables_1 ∧ Cond.privateMethod q.1 ∈ tables_1 ∧ Cond.instanceMethod q.1 ∈ tables_1
theorem lw_p0 : lw_okq (⟨"MovedMembers$Reader", "start", "(I)V"⟩, 9) := ⟨⟨by decide +kernel, by decide +kernel⟩, List.mem_of_getElem? (i := 36) (by decide +kernel), List.mem_of_getElem? (i := 287) (by decide +kernel), List.mem_of_getElem? (i := 288) (by decide +kernel)⟩
theorem lw_p1 : lw_okq (⟨"MovedMembers$Reader", "take", "(I)Z"⟩, 9) := ⟨⟨by decide +kernel, by decide +kernel⟩, List.mem_of_getElem? (i := 36) (by decide +kernel), List.mem_of_getElem? (i := 295) (by decide +kernel), List.mem_of_getElem? (i := 296) (by decide +kernel)⟩
theorem lw_p2 : lw_okq (⟨"MovedMembers$Reader", "goOn", "(ZI)Z"⟩, 9) := ⟨⟨by decide +kernel, by decide +kernel⟩, List.mem_of_getElem? (i := 36) (by decide +kernel), List.mem_of_getElem? (i := 299) (by decide +kernel), List.mem_of_getElem? (i := 300) (by decide +kernel)⟩
theorem lw_p3 : lw_okq (⟨"MovedMembers$Reader", "takeMember", "(I)Z"⟩, 9) := ⟨⟨by decide +kernel, by decide +kernel⟩, List.mem_of_getElem? (i := 36) (by decide +kernel), List.mem_of_getElem? (i := 303) (by decide +kernel), List.mem_of_getElem? (i := 304) (by decide +kernel)⟩
theorem lw_p4 : lw_okq (⟨"MovedMembers$Reader", "takeDash", "()Z"⟩, 9) := ⟨⟨by decide +kernel, by decide +kernel⟩, List.mem_of_getElem? (i := 36) (by decide +kernel), List.mem_of_getElem? (i := 316) (by decide +kernel), List.mem_of_getElem? (i := 317) (by decide +kernel)⟩
theorem lw_p5 : lw_okq (⟨"MovedMembers$Reader", "takeBehindDash", "(I)Z"⟩, 9) := ⟨⟨by decide +kernel, by decide +kernel⟩, List.mem_of_getElem? (i := 36) (by decide +kernel), List.mem_of_getElem? (i := 324) (by decide +kernel), List.mem_of_getElem? (i := 325) (by decide +kernel)⟩
theorem lw_p6 : lw_okq (⟨"MovedMembers$Reader", "takeItem", "(I)Z"⟩, 9) := ⟨⟨by decide +kernel, by decide +kernel⟩, List.mem_of_getElem? (i := 36) (by decide +kernel), List.mem_of_getElem? (i := 328) (by decide +kernel), List.mem_of_getElem? (i := 329) (by decide +kernel)⟩
theorem lw_p7 : lw_okq (⟨"MovedMembers$Reader", "addItem", "(I)Z"⟩, 9) := ⟨⟨by decide +kernel, by decide +kernel⟩, List.mem_of_getElem? (i := 36) (by decide +kernel), List.mem_of_getElem? (i := 336) (by decide +kernel), List.mem_of_getElem? (i := 337) (by decide +kernel)⟩
theorem lw_p8 : lw_okq (⟨"MovedMembers$Reader", "takeAsked", "(I)Z"⟩, 9) := ⟨⟨by decide +kernel, by decide +kernel⟩, List.mem_of_getElem? (i := 36) (by decide +kernel), List.mem_of_getElem? (i := 340) (by decide +kernel), List.mem_of_getElem? (i := 341) (by decide +kernel)⟩
theorem lw_p9 : lw_okq (⟨"MovedMembers$Tree", "newBody", "(LMovedMembers$Reader;I)I"⟩, 10) := ⟨⟨by decide +kernel, by decide +kernel⟩, List.mem_of_getElem? (i := 73) (by decide +kernel), List.mem_of_getElem? (i := 377) (by decide +kernel), List.mem_of_getElem? (i := 378) (by decide +kernel)⟩
theorem lw_p10 : lw_okq (⟨"MovedMembers$Tracer", "meet", "(II)V"⟩, 9) := ⟨⟨by decide +kernel, by decide +kernel⟩, List.mem_of_getElem? (i := 117) (by decide +kernel), List.mem_of_getElem? (i := 494) (by decide +kernel), List.mem_of_getElem? (i := 495) (by decide +kernel)⟩
theorem lw_p11 : lw_okq (⟨"MovedMembers$Tracer", "note", "(II)V"⟩, 9) := ⟨⟨by decide +kernel, by decide +kernel⟩, List.mem_of_getElem? (i := 117) (by decide +kernel), List.mem_of_getElem? (i := 499) (by decide +kernel), List.mem_of_getElem? (i := 500) (by decide +kernel)⟩
theorem lw_p12 : lw_okq (⟨"MovedMembers$Tracer", "enter", "(II)V"⟩, 9) := ⟨⟨by decide +kernel, by decide +kernel⟩, List.mem_of_getElem? (i := 117) (by decide +kernel), List.mem_of_getElem? (i := 503) (by decide +kernel), List.mem_of_getElem? (i := 504) (by decide +kernel)⟩
theorem lw_p13 : lw_okq (⟨"MovedMembers$Tracer", "nextItem", "()I"⟩, 9) := ⟨⟨by decide +kernel, by decide +kernel⟩, List.mem_of_getElem? (i := 117) (by decide +kernel), List.mem_of_getElem? (i := 507) (by decide +kernel), List.mem_of_getElem? (i := 508) (by decide +kernel)⟩
theorem lw_p14 : lw_okq (⟨"MovedMembers$Tracer", "leave", "()V"⟩, 9) := ⟨⟨by decide +kernel, by decide +kernel⟩, List.mem_of_getElem? (i := 117) (by decide +kernel), List.mem_of_getElem? (i := 512) (by decide +kernel), List.mem_of_getElem? (i := 513) (by decide +kernel)⟩
theorem lw_p15 : lw_okq (⟨"MovedMembers$Tracer", "use", "(I)V"⟩, 9) := ⟨⟨by decide +kernel, by decide +kernel⟩, List.mem_of_getElem? (i := 117) (by decide +kernel), List.mem_of_getElem? (i := 517) (by decide +kernel), List.mem_of_getElem? (i := 518) (by decide +kernel)⟩
def lw_privs_1 : List (MethodName × Nat) := [(⟨"MovedMembers$Reader", "start", "(I)V"⟩, 9), (⟨"MovedMembers$Reader", "take", "(I)Z"⟩, 9), (⟨"MovedMembers$Reader", "goOn", "(ZI)Z"⟩, 9), (⟨"MovedMembers$Reader", "takeMember", "(I)Z"⟩, 9), (⟨"MovedMembers$Reader", "takeDash", "()Z"⟩, 9), (⟨"MovedMembers$Reader", "takeBehindDash", "(I)Z"⟩, 9), (⟨"MovedMembers$Reader", "takeItem", "(I)Z"⟩, 9), (⟨"MovedMembers$Reader", "addItem", "(I)Z"⟩, 9), (⟨"MovedMembers$Reader", "takeAsked", "(I)Z"⟩, 9), (⟨"MovedMembers$Tree", "newBody", "(LMovedMembers$Reader;I)I"⟩, 10), (⟨"MovedMembers$Tracer", "meet", "(II)V"⟩, 9), (⟨"MovedMembers$Tracer", "note", "(II)V"⟩, 9), (⟨"MovedMembers$Tracer", "enter", "(II)V"⟩, 9), (⟨"MovedMembers$Tracer", "nextItem", "()I"⟩, 9), (⟨"MovedMembers$Tracer", "leave", "()V"⟩, 9), (⟨"MovedMembers$Tracer", "use", "(I)V"⟩, 9)]
theorem lw_r1 : ∀ q ∈ lw_privs_1, lw_okq q := List.forall_mem_cons.mpr ⟨lw_p0, List.forall_mem_cons.mpr ⟨lw_p1, List.forall_mem_cons.mpr ⟨lw_p2, List.forall_mem_cons.mpr ⟨lw_p3, List.forall_mem_cons.mpr ⟨lw_p4, List.forall_mem_cons.mpr ⟨lw_p5, List.forall_mem_cons.mpr ⟨lw_p6, List.forall_mem_cons.mpr ⟨lw_p7, List.forall_mem_cons.mpr ⟨lw_p8, List.forall_mem_cons.mpr ⟨lw_p9, List.forall_mem_cons.mpr ⟨lw_p10, List.forall_mem_cons.mpr ⟨lw_p11, List.forall_mem_cons.mpr ⟨lw_p12, List.forall_mem_cons.mpr ⟨lw_p13, List.forall_mem_cons.mpr ⟨lw_p14, List.forall_mem_cons.mpr ⟨lw_p15, fun _ h => absurd h List.not_mem_nil⟩⟩⟩⟩⟩⟩⟩⟩⟩⟩⟩⟩⟩⟩⟩⟩
theorem lw_p16 : lw_okq (⟨"MovedMembers$Tracer", "openHome", "()I"⟩, 9) := ⟨⟨by decide +kernel, by decide +kernel⟩, List.mem_of_getElem? (i := 117) (by decide +kernel), List.mem_of_getElem? (i := 521) (by decide +kernel), List.mem_of_getElem? (i := 522) (by decide +kernel)⟩
theorem lw_p17 : lw_okq (⟨"MovedMembers$Tracer", "homeFor", "(II)I"⟩, 9) := ⟨⟨by decide +kernel, by decide +kernel⟩, List.mem_of_getElem? (i := 117) (by decide +kernel), List.mem_of_getElem? (i := 525) (by decide +kernel), List.mem_of_getElem? (i := 526) (by decide +kernel)⟩
theorem lw_p18 : lw_okq (⟨"MovedMembers$Survey", "store", "(II)V"⟩, 8) := ⟨⟨by decide +kernel, by decide +kernel⟩, List.mem_of_getElem? (i := 153) (by decide +kernel), List.mem_of_getElem? (i := 534) (by decide +kernel), List.mem_of_getElem? (i := 535) (by decide +kernel)⟩
theorem lw_p19 : lw_okq (⟨"MovedMembers$Survey", "addUp", "()V"⟩, 8) := ⟨⟨by decide +kernel, by decide +kernel⟩, List.mem_of_getElem? (i := 153) (by decide +kernel), List.mem_of_getElem? (i := 546) (by decide +kernel), List.mem_of_getElem? (i := 547) (by decide +kernel)⟩
theorem lw_p20 : lw_okq (⟨"MovedMembers$Mover", "someLack", "(II)Z"⟩, 14) := ⟨⟨by decide +kernel, by decide +kernel⟩, List.mem_of_getElem? (i := 185) (by decide +kernel), List.mem_of_getElem? (i := 577) (by decide +kernel), List.mem_of_getElem? (i := 578) (by decide +kernel)⟩
theorem lw_p21 : lw_okq (⟨"MovedMembers$Mover", "save", "(II)V"⟩, 14) := ⟨⟨by decide +kernel, by decide +kernel⟩, List.mem_of_getElem? (i := 185) (by decide +kernel), List.mem_of_getElem? (i := 582) (by decide +kernel), List.mem_of_getElem? (i := 583) (by decide +kernel)⟩
theorem lw_p22 : lw_okq (⟨"MovedMembers$Mover", "shift", "(IIZ)V"⟩, 14) := ⟨⟨by decide +kernel, by decide +kernel⟩, List.mem_of_getElem? (i := 185) (by decide +kernel), List.mem_of_getElem? (i := 587) (by decide +kernel), List.mem_of_getElem? (i := 588) (by decide +kernel)⟩
theorem lw_p23 : lw_okq (⟨"MovedMembers$Mover", "shiftUp", "(IIIZ)V"⟩, 14) := ⟨⟨by decide +kernel, by decide +kernel⟩, List.mem_of_getElem? (i := 185) (by decide +kernel), List.mem_of_getElem? (i := 591) (by decide +kernel), List.mem_of_getElem? (i := 592) (by decide +kernel)⟩
theorem lw_p24 : lw_okq (⟨"MovedMembers$Mover", "shiftDown", "(IIIZ)V"⟩, 14) := ⟨⟨by decide +kernel, by decide +kernel⟩, List.mem_of_getElem? (i := 185) (by decide +kernel), List.mem_of_getElem? (i := 596) (by decide +kernel), List.mem_of_getElem? (i := 597) (by decide +kernel)⟩
theorem lw_p25 : lw_okq (⟨"MovedMembers$Mover", "firstChange", "()I"⟩, 14) := ⟨⟨by decide +kernel, by decide +kernel⟩, List.mem_of_getElem? (i := 185) (by decide +kernel), List.mem_of_getElem? (i := 600) (by decide +kernel), List.mem_of_getElem? (i := 601) (by decide +kernel)⟩
theorem lw_p26 : lw_okq (⟨"MovedMembers$Mover", "restore", "(I)V"⟩, 14) := ⟨⟨by decide +kernel, by decide +kernel⟩, List.mem_of_getElem? (i := 185) (by decide +kernel), List.mem_of_getElem? (i := 613) (by decide +kernel), List.mem_of_getElem? (i := 614) (by decide +kernel)⟩
theorem lw_p27 : lw_okq (⟨"MovedMembers", "typesThatFit", "(I)I"⟩, 7) := ⟨⟨by decide +kernel, by decide +kernel⟩, List.mem_of_getElem? (i := 12) (by decide +kernel), List.mem_of_getElem? (i := 654) (by decide +kernel), List.mem_of_getElem? (i := 655) (by decide +kernel)⟩
theorem lw_p28 : lw_okq (⟨"MovedMembers", "nearestMisfit", "(I)I"⟩, 7) := ⟨⟨by decide +kernel, by decide +kernel⟩, List.mem_of_getElem? (i := 12) (by decide +kernel), List.mem_of_getElem? (i := 658) (by decide +kernel), List.mem_of_getElem? (i := 659) (by decide +kernel)⟩
theorem lw_p29 : lw_okq (⟨"MovedMembers", "withType", "(JI)J"⟩, 7) := ⟨⟨by decide +kernel, by decide +kernel⟩, List.mem_of_getElem? (i := 12) (by decide +kernel), List.mem_of_getElem? (i := 694) (by decide +kernel), List.mem_of_getElem? (i := 695) (by decide +kernel)⟩
theorem lw_p30 : lw_okq (⟨"MovedMembers", "withMethod", "(JII)J"⟩, 7) := ⟨⟨by decide +kernel, by decide +kernel⟩, List.mem_of_getElem? (i := 12) (by decide +kernel), List.mem_of_getElem? (i := 704) (by decide +kernel), List.mem_of_getElem? (i := 705) (by decide +kernel)⟩
theorem lw_p31 : lw_okq (⟨"MovedMembers", "withBody", "(JI)J"⟩, 7) := ⟨⟨by decide +kernel, by decide +kernel⟩, List.mem_of_getElem? (i := 12) (by decide +kernel), List.mem_of_getElem? (i := 709) (by decide +kernel), List.mem_of_getElem? (i := 710) (by decide +kernel)⟩
def lw_privs_2 : List (MethodName × Nat) := [(⟨"MovedMembers$Tracer", "openHome", "()I"⟩, 9), (⟨"MovedMembers$Tracer", "homeFor", "(II)I"⟩, 9), (⟨"MovedMembers$Survey", "store", "(II)V"⟩, 8), (⟨"MovedMembers$Survey", "addUp", "()V"⟩, 8), (⟨"MovedMembers$Mover", "someLack", "(II)Z"⟩, 14), (⟨"MovedMembers$Mover", "save", "(II)V"⟩, 14), (⟨"MovedMembers$Mover", "shift", "(IIZ)V"⟩, 14), (⟨"MovedMembers$Mover", "shiftUp", "(IIIZ)V"⟩, 14), (⟨"MovedMembers$Mover", "shiftDown", "(IIIZ)V"⟩, 14), (⟨"MovedMembers$Mover", "firstChange", "()I"⟩, 14), (⟨"MovedMembers$Mover", "restore", "(I)V"⟩, 14), (⟨"MovedMembers", "typesThatFit", "(I)I"⟩, 7), (⟨"MovedMembers", "nearestMisfit", "(I)I"⟩, 7), (⟨"MovedMembers", "withType", "(JI)J"⟩, 7), (⟨"MovedMembers", "withMethod", "(JII)J"⟩, 7), (⟨"MovedMembers", "withBody", "(JI)J"⟩, 7)]
theorem lw_r2 : ∀ q ∈ lw_privs_2, lw_okq q := List.forall_mem_cons.mpr ⟨lw_p16, List.forall_mem_cons.mpr ⟨lw_p17, List.forall_mem_cons.mpr ⟨lw_p18, List.forall_mem_cons.mpr ⟨lw_p19, List.forall_mem_cons.mpr ⟨lw_p20, List.forall_mem_cons.mpr ⟨lw_p21, List.forall_mem_cons.mpr ⟨lw_p22, List.forall_mem_cons.mpr ⟨lw_p23, List.forall_mem_cons.mpr ⟨lw_p24, List.forall_mem_cons.mpr ⟨lw_p25, List.forall_mem_cons.mpr ⟨lw_p26, List.forall_mem_cons.mpr ⟨lw_p27, List.forall_mem_cons.mpr ⟨lw_p28, List.forall_mem_cons.mpr ⟨lw_p29, List.forall_mem_cons.mpr ⟨lw_p30, List.forall_mem_cons.mpr ⟨lw_p31, fun _ h => absurd h List.not_mem_nil⟩⟩⟩⟩⟩⟩⟩⟩⟩⟩⟩⟩⟩⟩⟩⟩
theorem lw_p32 : lw_okq (⟨"MovedMembersModel", "read", "()I"⟩, 45) := ⟨⟨by decide +kernel, by decide +kernel⟩, List.mem_of_getElem? (i := 717) (by decide +kernel), List.mem_of_getElem? (i := 874) (by decide +kernel), List.mem_of_getElem? (i := 875) (by decide +kernel)⟩
theorem lw_p33 : lw_okq (⟨"MovedMembersModel", "takes", "(I)Z"⟩, 45) := ⟨⟨by decide +kernel, by decide +kernel⟩, List.mem_of_getElem? (i := 717) (by decide +kernel), List.mem_of_getElem? (i := 878) (by decide +kernel), List.mem_of_getElem? (i := 879) (by decide +kernel)⟩
theorem lw_p34 : lw_okq (⟨"MovedMembersModel", "takesHead", "(I)Z"⟩, 45) := ⟨⟨by decide +kernel, by decide +kernel⟩, List.mem_of_getElem? (i := 717) (by decide +kernel), List.mem_of_getElem? (i := 882) (by decide +kernel), List.mem_of_getElem? (i := 883) (by decide +kernel)⟩
theorem lw_p35 : lw_okq (⟨"MovedMembersModel", "takesMember", "(I)Z"⟩, 45) := ⟨⟨by decide +kernel, by decide +kernel⟩, List.mem_of_getElem? (i := 717) (by decide +kernel), List.mem_of_getElem? (i := 886) (by decide +kernel), List.mem_of_getElem? (i := 887) (by decide +kernel)⟩
theorem lw_p36 : lw_okq (⟨"MovedMembersModel", "takesBehindMethod", "(I)Z"⟩, 45) := ⟨⟨by decide +kernel, by decide +kernel⟩, List.mem_of_getElem? (i := 717) (by decide +kernel), List.mem_of_getElem? (i := 896) (by decide +kernel), List.mem_of_getElem? (i := 897) (by decide +kernel)⟩
theorem lw_p37 : lw_okq (⟨"MovedMembersModel", "takesItem", "(I)Z"⟩, 45) := ⟨⟨by decide +kernel, by decide +kernel⟩, List.mem_of_getElem? (i := 717) (by decide +kernel), List.mem_of_getElem? (i := 900) (by decide +kernel), List.mem_of_getElem? (i := 901) (by decide +kernel)⟩
theorem lw_p38 : lw_okq (⟨"MovedMembersModel", "isElsewhere", "()Z"⟩, 45) := ⟨⟨by decide +kernel, by decide +kernel⟩, List.mem_of_getElem? (i := 717) (by decide +kernel), List.mem_of_getElem? (i := 912) (by decide +kernel), List.mem_of_getElem? (i := 913) (by decide +kernel)⟩
theorem lw_p39 : lw_okq (⟨"MovedMembersModel", "isType", "(I)Z"⟩, 45) := ⟨⟨by decide +kernel, by decide +kernel⟩, List.mem_of_getElem? (i := 717) (by decide +kernel), List.mem_of_getElem? (i := 920) (by decide +kernel), List.mem_of_getElem? (i := 921) (by decide +kernel)⟩
theorem lw_p40 : lw_okq (⟨"MovedMembersModel", "typeNow", "(II)I"⟩, 45) := ⟨⟨by decide +kernel, by decide +kernel⟩, List.mem_of_getElem? (i := 717) (by decide +kernel), List.mem_of_getElem? (i := 928) (by decide +kernel), List.mem_of_getElem? (i := 929) (by decide +kernel)⟩
theorem lw_p41 : lw_okq (⟨"MovedMembersModel", "hasOf", "(III)I"⟩, 45) := ⟨⟨by decide +kernel, by decide +kernel⟩, List.mem_of_getElem? (i := 717) (by decide +kernel), List.mem_of_getElem? (i := 932) (by decide +kernel), List.mem_of_getElem? (i := 933) (by decide +kernel)⟩
theorem lw_p42 : lw_okq (⟨"MovedMembersModel", "memberOf", "(II)I"⟩, 45) := ⟨⟨by decide +kernel, by decide +kernel⟩, List.mem_of_getElem? (i := 717) (by decide +kernel), List.mem_of_getElem? (i := 936) (by decide +kernel), List.mem_of_getElem? (i := 937) (by decide +kernel)⟩
theorem lw_p43 : lw_okq (⟨"MovedMembersModel", "answered", "(I)I"⟩, 45) := ⟨⟨by decide +kernel, by decide +kernel⟩, List.mem_of_getElem? (i := 717) (by decide +kernel), List.mem_of_getElem? (i := 940) (by decide +kernel), List.mem_of_getElem? (i := 941) (by decide +kernel)⟩
theorem lw_p44 : lw_okq (⟨"MovedMembersModel", "answersIn", "(II)I"⟩, 45) := ⟨⟨by decide +kernel, by decide +kernel⟩, List.mem_of_getElem? (i := 717) (by decide +kernel), List.mem_of_getElem? (i := 944) (by decide +kernel), List.mem_of_getElem? (i := 945) (by decide +kernel)⟩
theorem lw_p45 : lw_okq (⟨"MovedMembersModel", "isHidden", "(II)Z"⟩, 45) := ⟨⟨by decide +kernel, by decide +kernel⟩, List.mem_of_getElem? (i := 717) (by decide +kernel), List.mem_of_getElem? (i := 948) (by decide +kernel), List.mem_of_getElem? (i := 949) (by decide +kernel)⟩
theorem lw_p46 : lw_okq (⟨"MovedMembersModel", "below", "(I)I"⟩, 45) := ⟨⟨by decide +kernel, by decide +kernel⟩, List.mem_of_getElem? (i := 717) (by decide +kernel), List.mem_of_getElem? (i := 952) (by decide +kernel), List.mem_of_getElem? (i := 953) (by decide +kernel)⟩
theorem lw_p47 : lw_okq (⟨"MovedMembersModel", "isMember", "(II)Z"⟩, 45) := ⟨⟨by decide +kernel, by decide +kernel⟩, List.mem_of_getElem? (i := 717) (by decide +kernel), List.mem_of_getElem? (i := 960) (by decide +kernel), List.mem_of_getElem? (i := 961) (by decide +kernel)⟩
def lw_privs_3 : List (MethodName × Nat) := [(⟨"MovedMembersModel", "read", "()I"⟩, 45), (⟨"MovedMembersModel", "takes", "(I)Z"⟩, 45), (⟨"MovedMembersModel", "takesHead", "(I)Z"⟩, 45), (⟨"MovedMembersModel", "takesMember", "(I)Z"⟩, 45), (⟨"MovedMembersModel", "takesBehindMethod", "(I)Z"⟩, 45), (⟨"MovedMembersModel", "takesItem", "(I)Z"⟩, 45), (⟨"MovedMembersModel", "isElsewhere", "()Z"⟩, 45), (⟨"MovedMembersModel", "isType", "(I)Z"⟩, 45), (⟨"MovedMembersModel", "typeNow", "(II)I"⟩, 45), (⟨"MovedMembersModel", "hasOf", "(III)I"⟩, 45), (⟨"MovedMembersModel", "memberOf", "(II)I"⟩, 45), (⟨"MovedMembersModel", "answered", "(I)I"⟩, 45), (⟨"MovedMembersModel", "answersIn", "(II)I"⟩, 45), (⟨"MovedMembersModel", "isHidden", "(II)Z"⟩, 45), (⟨"MovedMembersModel", "below", "(I)I"⟩, 45), (⟨"MovedMembersModel", "isMember", "(II)Z"⟩, 45)]
theorem lw_r3 : ∀ q ∈ lw_privs_3, lw_okq q := List.forall_mem_cons.mpr ⟨lw_p32, List.forall_mem_cons.mpr ⟨lw_p33, List.forall_mem_cons.mpr ⟨lw_p34, List.forall_mem_cons.mpr ⟨lw_p35, List.forall_mem_cons.mpr ⟨lw_p36, List.forall_mem_cons.mpr ⟨lw_p37, List.forall_mem_cons.mpr ⟨lw_p38, List.forall_mem_cons.mpr ⟨lw_p39, List.forall_mem_cons.mpr ⟨lw_p40, List.forall_mem_cons.mpr ⟨lw_p41, List.forall_mem_cons.mpr ⟨lw_p42, List.forall_mem_cons.mpr ⟨lw_p43, List.forall_mem_cons.mpr ⟨lw_p44, List.forall_mem_cons.mpr ⟨lw_p45, List.forall_mem_cons.mpr ⟨lw_p46, List.forall_mem_cons.mpr ⟨lw_p47, fun _ h => absurd h List.not_mem_nil⟩⟩⟩⟩⟩⟩⟩⟩⟩⟩⟩⟩⟩⟩⟩⟩
theorem lw_p48 : lw_okq (⟨"MovedMembersModel", "isMethod", "(II)Z"⟩, 45) := ⟨⟨by decide +kernel, by decide +kernel⟩, List.mem_of_getElem? (i := 717) (by decide +kernel), List.mem_of_getElem? (i := 968) (by decide +kernel), List.mem_of_getElem? (i := 969) (by decide +kernel)⟩
theorem lw_p49 : lw_okq (⟨"MovedMembersModel", "answerNow", "(III)I"⟩, 45) := ⟨⟨by decide +kernel, by decide +kernel⟩, List.mem_of_getElem? (i := 717) (by decide +kernel), List.mem_of_getElem? (i := 972) (by decide +kernel), List.mem_of_getElem? (i := 973) (by decide +kernel)⟩
theorem lw_p50 : lw_okq (⟨"MovedMembersModel", "bodyNow", "(II)I"⟩, 45) := ⟨⟨by decide +kernel, by decide +kernel⟩, List.mem_of_getElem? (i := 717) (by decide +kernel), List.mem_of_getElem? (i := 980) (by decide +kernel), List.mem_of_getElem? (i := 981) (by decide +kernel)⟩
theorem lw_p51 : lw_okq (⟨"MovedMembersModel", "traceNow", "(III)I"⟩, 45) := ⟨⟨by decide +kernel, by decide +kernel⟩, List.mem_of_getElem? (i := 717) (by decide +kernel), List.mem_of_getElem? (i := 988) (by decide +kernel), List.mem_of_getElem? (i := 989) (by decide +kernel)⟩
theorem lw_p52 : lw_okq (⟨"MovedMembersModel", "layTrace", "(II)Z"⟩, 45) := ⟨⟨by decide +kernel, by decide +kernel⟩, List.mem_of_getElem? (i := 717) (by decide +kernel), List.mem_of_getElem? (i := 992) (by decide +kernel), List.mem_of_getElem? (i := 993) (by decide +kernel)⟩
theorem lw_p53 : lw_okq (⟨"MovedMembersModel", "run", "(II)V"⟩, 45) := ⟨⟨by decide +kernel, by decide +kernel⟩, List.mem_of_getElem? (i := 717) (by decide +kernel), List.mem_of_getElem? (i := 996) (by decide +kernel), List.mem_of_getElem? (i := 997) (by decide +kernel)⟩
theorem lw_p54 : lw_okq (⟨"MovedMembersModel", "isRunning", "(I)Z"⟩, 45) := ⟨⟨by decide +kernel, by decide +kernel⟩, List.mem_of_getElem? (i := 717) (by decide +kernel), List.mem_of_getElem? (i := 1000) (by decide +kernel), List.mem_of_getElem? (i := 1001) (by decide +kernel)⟩
theorem lw_p55 : lw_okq (⟨"MovedMembersModel", "put", "(II)V"⟩, 45) := ⟨⟨by decide +kernel, by decide +kernel⟩, List.mem_of_getElem? (i := 717) (by decide +kernel), List.mem_of_getElem? (i := 1004) (by decide +kernel), List.mem_of_getElem? (i := 1005) (by decide +kernel)⟩
theorem lw_p56 : lw_okq (⟨"MovedMembersModel", "comesTo", "(III)V"⟩, 45) := ⟨⟨by decide +kernel, by decide +kernel⟩, List.mem_of_getElem? (i := 717) (by decide +kernel), List.mem_of_getElem? (i := 1008) (by decide +kernel), List.mem_of_getElem? (i := 1009) (by decide +kernel)⟩
theorem lw_p57 : lw_okq (⟨"MovedMembersModel", "slotFrom", "(II)I"⟩, 45) := ⟨⟨by decide +kernel, by decide +kernel⟩, List.mem_of_getElem? (i := 717) (by decide +kernel), List.mem_of_getElem? (i := 1012) (by decide +kernel), List.mem_of_getElem? (i := 1013) (by decide +kernel)⟩
theorem lw_p58 : lw_okq (⟨"MovedMembersModel", "whyNow", "(IIZ)I"⟩, 45) := ⟨⟨by decide +kernel, by decide +kernel⟩, List.mem_of_getElem? (i := 717) (by decide +kernel), List.mem_of_getElem? (i := 1024) (by decide +kernel), List.mem_of_getElem? (i := 1025) (by decide +kernel)⟩
theorem lw_p59 : lw_okq (⟨"MovedMembersModel", "plainWhy", "(IIZ)I"⟩, 45) := ⟨⟨by decide +kernel, by decide +kernel⟩, List.mem_of_getElem? (i := 717) (by decide +kernel), List.mem_of_getElem? (i := 1028) (by decide +kernel), List.mem_of_getElem? (i := 1029) (by decide +kernel)⟩
theorem lw_p60 : lw_okq (⟨"MovedMembersModel", "missesBelow", "(II)I"⟩, 45) := ⟨⟨by decide +kernel, by decide +kernel⟩, List.mem_of_getElem? (i := 717) (by decide +kernel), List.mem_of_getElem? (i := 1032) (by decide +kernel), List.mem_of_getElem? (i := 1033) (by decide +kernel)⟩
theorem lw_p61 : lw_okq (⟨"MovedMembersModel", "whereNow", "(IIZ)I"⟩, 45) := ⟨⟨by decide +kernel, by decide +kernel⟩, List.mem_of_getElem? (i := 717) (by decide +kernel), List.mem_of_getElem? (i := 1036) (by decide +kernel), List.mem_of_getElem? (i := 1037) (by decide +kernel)⟩
theorem lw_p62 : lw_okq (⟨"MovedMembersModel", "tryMove", "(IIZ)V"⟩, 45) := ⟨⟨by decide +kernel, by decide +kernel⟩, List.mem_of_getElem? (i := 717) (by decide +kernel), List.mem_of_getElem? (i := 1040) (by decide +kernel), List.mem_of_getElem? (i := 1041) (by decide +kernel)⟩
theorem lw_p63 : lw_okq (⟨"MovedMembersModel", "layTried", "()V"⟩, 45) := ⟨⟨by decide +kernel, by decide +kernel⟩, List.mem_of_getElem? (i := 717) (by decide +kernel), List.mem_of_getElem? (i := 1044) (by decide +kernel), List.mem_of_getElem? (i := 1045) (by decide +kernel)⟩
def lw_privs_4 : List (MethodName × Nat) := [(⟨"MovedMembersModel", "isMethod", "(II)Z"⟩, 45), (⟨"MovedMembersModel", "answerNow", "(III)I"⟩, 45), (⟨"MovedMembersModel", "bodyNow", "(II)I"⟩, 45), (⟨"MovedMembersModel", "traceNow", "(III)I"⟩, 45), (⟨"MovedMembersModel", "layTrace", "(II)Z"⟩, 45), (⟨"MovedMembersModel", "run", "(II)V"⟩, 45), (⟨"MovedMembersModel", "isRunning", "(I)Z"⟩, 45), (⟨"MovedMembersModel", "put", "(II)V"⟩, 45), (⟨"MovedMembersModel", "comesTo", "(III)V"⟩, 45), (⟨"MovedMembersModel", "slotFrom", "(II)I"⟩, 45), (⟨"MovedMembersModel", "whyNow", "(IIZ)I"⟩, 45), (⟨"MovedMembersModel", "plainWhy", "(IIZ)I"⟩, 45), (⟨"MovedMembersModel", "missesBelow", "(II)I"⟩, 45), (⟨"MovedMembersModel", "whereNow", "(IIZ)I"⟩, 45), (⟨"MovedMembersModel", "tryMove", "(IIZ)V"⟩, 45), (⟨"MovedMembersModel", "layTried", "()V"⟩, 45)]
theorem lw_r4 : ∀ q ∈ lw_privs_4, lw_okq q := List.forall_mem_cons.mpr ⟨lw_p48, List.forall_mem_cons.mpr ⟨lw_p49, List.forall_mem_cons.mpr ⟨lw_p50, List.forall_mem_cons.mpr ⟨lw_p51, List.forall_mem_cons.mpr ⟨lw_p52, List.forall_mem_cons.mpr ⟨lw_p53, List.forall_mem_cons.mpr ⟨lw_p54, List.forall_mem_cons.mpr ⟨lw_p55, List.forall_mem_cons.mpr ⟨lw_p56, List.forall_mem_cons.mpr ⟨lw_p57, List.forall_mem_cons.mpr ⟨lw_p58, List.forall_mem_cons.mpr ⟨lw_p59, List.forall_mem_cons.mpr ⟨lw_p60, List.forall_mem_cons.mpr ⟨lw_p61, List.forall_mem_cons.mpr ⟨lw_p62, List.forall_mem_cons.mpr ⟨lw_p63, fun _ h => absurd h List.not_mem_nil⟩⟩⟩⟩⟩⟩⟩⟩⟩⟩⟩⟩⟩⟩⟩⟩
theorem lw_p64 : lw_okq (⟨"MovedMembersModel", "lay", "(IIIIZ)V"⟩, 45) := ⟨⟨by decide +kernel, by decide +kernel⟩, List.mem_of_getElem? (i := 717) (by decide +kernel), List.mem_of_getElem? (i := 1048) (by decide +kernel), List.mem_of_getElem? (i := 1049) (by decide +kernel)⟩
theorem lw_p65 : lw_okq (⟨"MovedMembersModel", "whereTried", "()I"⟩, 45) := ⟨⟨by decide +kernel, by decide +kernel⟩, List.mem_of_getElem? (i := 717) (by decide +kernel), List.mem_of_getElem? (i := 1052) (by decide +kernel), List.mem_of_getElem? (i := 1053) (by decide +kernel)⟩
theorem lw_p66 : lw_okq (⟨"MovedMembersModel", "isOther", "(II)Z"⟩, 45) := ⟨⟨by decide +kernel, by decide +kernel⟩, List.mem_of_getElem? (i := 717) (by decide +kernel), List.mem_of_getElem? (i := 1056) (by decide +kernel), List.mem_of_getElem? (i := 1057) (by decide +kernel)⟩
theorem lw_p67 : lw_okq (⟨"MovedMembersModel", "layMoves", "()V"⟩, 45) := ⟨⟨by decide +kernel, by decide +kernel⟩, List.mem_of_getElem? (i := 717) (by decide +kernel), List.mem_of_getElem? (i := 1076) (by decide +kernel), List.mem_of_getElem? (i := 1077) (by decide +kernel)⟩
theorem lw_p68 : lw_okq (⟨"MovedMembersModel", "fitNow", "(II)I"⟩, 45) := ⟨⟨by decide +kernel, by decide +kernel⟩, List.mem_of_getElem? (i := 717) (by decide +kernel), List.mem_of_getElem? (i := 1088) (by decide +kernel), List.mem_of_getElem? (i := 1089) (by decide +kernel)⟩
theorem lw_p69 : lw_okq (⟨"MovedMembersModel", "layMet", "()V"⟩, 45) := ⟨⟨by decide +kernel, by decide +kernel⟩, List.mem_of_getElem? (i := 717) (by decide +kernel), List.mem_of_getElem? (i := 1103) (by decide +kernel), List.mem_of_getElem? (i := 1104) (by decide +kernel)⟩
theorem lw_p70 : lw_okq (⟨"MovedMembersModel", "deadNow", "(I)I"⟩, 45) := ⟨⟨by decide +kernel, by decide +kernel⟩, List.mem_of_getElem? (i := 717) (by decide +kernel), List.mem_of_getElem? (i := 1107) (by decide +kernel), List.mem_of_getElem? (i := 1108) (by decide +kernel)⟩
theorem lw_p71 : lw_okq (⟨"MovedMembersModel", "howMany", "(I)I"⟩, 45) := ⟨⟨by decide +kernel, by decide +kernel⟩, List.mem_of_getElem? (i := 717) (by decide +kernel), List.mem_of_getElem? (i := 1115) (by decide +kernel), List.mem_of_getElem? (i := 1116) (by decide +kernel)⟩
theorem lw_p72 : lw_okq (⟨"MovedMembersModel", "deadMany", "()I"⟩, 45) := ⟨⟨by decide +kernel, by decide +kernel⟩, List.mem_of_getElem? (i := 717) (by decide +kernel), List.mem_of_getElem? (i := 1119) (by decide +kernel), List.mem_of_getElem? (i := 1120) (by decide +kernel)⟩
theorem lw_p73 : lw_okq (⟨"MovedMembersModel", "missingMany", "()I"⟩, 45) := ⟨⟨by decide +kernel, by decide +kernel⟩, List.mem_of_getElem? (i := 717) (by decide +kernel), List.mem_of_getElem? (i := 1123) (by decide +kernel), List.mem_of_getElem? (i := 1124) (by decide +kernel)⟩
theorem lw_p74 : lw_okq (⟨"MovedMembersModel", "mixTypes", "()V"⟩, 45) := ⟨⟨by decide +kernel, by decide +kernel⟩, List.mem_of_getElem? (i := 717) (by decide +kernel), List.mem_of_getElem? (i := 1132) (by decide +kernel), List.mem_of_getElem? (i := 1133) (by decide +kernel)⟩
theorem lw_p75 : lw_okq (⟨"MovedMembersModel", "mix", "(J)V"⟩, 45) := ⟨⟨by decide +kernel, by decide +kernel⟩, List.mem_of_getElem? (i := 717) (by decide +kernel), List.mem_of_getElem? (i := 1136) (by decide +kernel), List.mem_of_getElem? (i := 1137) (by decide +kernel)⟩
theorem lw_p76 : lw_okq (⟨"MovedMembersModel", "mixMethod", "(II)V"⟩, 45) := ⟨⟨by decide +kernel, by decide +kernel⟩, List.mem_of_getElem? (i := 717) (by decide +kernel), List.mem_of_getElem? (i := 1141) (by decide +kernel), List.mem_of_getElem? (i := 1142) (by decide +kernel)⟩
def lw_privs_5 : List (MethodName × Nat) := [(⟨"MovedMembersModel", "lay", "(IIIIZ)V"⟩, 45), (⟨"MovedMembersModel", "whereTried", "()I"⟩, 45), (⟨"MovedMembersModel", "isOther", "(II)Z"⟩, 45), (⟨"MovedMembersModel", "layMoves", "()V"⟩, 45), (⟨"MovedMembersModel", "fitNow", "(II)I"⟩, 45), (⟨"MovedMembersModel", "layMet", "()V"⟩, 45), (⟨"MovedMembersModel", "deadNow", "(I)I"⟩, 45), (⟨"MovedMembersModel", "howMany", "(I)I"⟩, 45), (⟨"MovedMembersModel", "deadMany", "()I"⟩, 45), (⟨"MovedMembersModel", "missingMany", "()I"⟩, 45), (⟨"MovedMembersModel", "mixTypes", "()V"⟩, 45), (⟨"MovedMembersModel", "mix", "(J)V"⟩, 45), (⟨"MovedMembersModel", "mixMethod", "(II)V"⟩, 45)]
theorem lw_r5 : ∀ q ∈ lw_privs_5, lw_okq q := List.forall_mem_cons.mpr ⟨lw_p64, List.forall_mem_cons.mpr ⟨lw_p65, List.forall_mem_cons.mpr ⟨lw_p66, List.forall_mem_cons.mpr ⟨lw_p67, List.forall_mem_cons.mpr ⟨lw_p68, List.forall_mem_cons.mpr ⟨lw_p69, List.forall_mem_cons.mpr ⟨lw_p70, List.forall_mem_cons.mpr ⟨lw_p71, List.forall_mem_cons.mpr ⟨lw_p72, List.forall_mem_cons.mpr ⟨lw_p73, List.forall_mem_cons.mpr ⟨lw_p74, List.forall_mem_cons.mpr ⟨lw_p75, List.forall_mem_cons.mpr ⟨lw_p76, fun _ h => absurd h List.not_mem_nil⟩⟩⟩⟩⟩⟩⟩⟩⟩⟩⟩⟩⟩
def lw_privs : List (MethodName × Nat) := lw_privs_1 ++ (lw_privs_2 ++ (lw_privs_3 ++ (lw_privs_4 ++ (lw_privs_5))))
def lw_tbl : List Cond := k2_sels lw_privs ++ tables_1
theorem lw_privs_ok : ∀ q ∈ lw_privs, lw_okq q := by
  show ∀ q ∈ lw_privs_1 ++ (lw_privs_2 ++ (lw_privs_3 ++ (lw_privs_4 ++ (lw_privs_5)))), lw_okq q
  exact List.forall_mem_append.mpr ⟨lw_r1, List.forall_mem_append.mpr ⟨lw_r2, List.forall_mem_append.mpr ⟨lw_r3, List.forall_mem_append.mpr ⟨lw_r4, lw_r5⟩⟩⟩⟩
end
section
def RX0 : String := "MovedMembers$Mover"
def TX0 : u_T := fun k => match k with
  | 0 => ("MovedMembers$Mover", "tree", "LMovedMembers$Tree;", true)
  | 1 => ("MovedMembers$Mover", "tracer", "LMovedMembers$Tracer;", true)
  | 2 => ("MovedMembers$Mover", "survey", "LMovedMembers$Survey;", true)
  | 3 => ("MovedMembers$Mover", "savedHeld", "[I", true)
  | 4 => ("MovedMembers$Mover", "savedHidden", "[I", true)
  | 5 => ("MovedMembers$Mover", "savedMembers", "[I", true)
  | 6 => ("MovedMembers$Mover", "kept", "I", false)
  | 7 => ("MovedMembers$Mover", "done", "I", false)
  | 8 => ("MovedMembers$Mover", "undone", "I", false)
  | 9 => ("MovedMembers$Mover", "place", "I", false)
  | 10 => ("MovedMembers$Mover", "ups", "I", false)
  | 11 => ("MovedMembers$Mover", "downs", "I", false)
  | 12 => ("MovedMembers$Mover", "stopped", "I", false)
  | _ => ("MovedMembers$Mover", "version", "I", false)
def tyX0 : Nat → FieldType := fun k => match k with
  | 0 => .object "MovedMembers$Tree"
  | 1 => .object "MovedMembers$Tracer"
  | 2 => .object "MovedMembers$Survey"
  | 3 => .array .int
  | 4 => .array .int
  | 5 => .array .int
  | 6 => .int
  | 7 => .int
  | 8 => .int
  | 9 => .int
  | 10 => .int
  | 11 => .int
  | 12 => .int
  | _ => .int
theorem nmX0 : ∀ a, a < 14 → ∀ b, b < 14 → a ≠ b → (TX0 a).2.1 ≠ (TX0 b).2.1 := by decide +kernel
theorem tyX0_ok : ∀ k, k < 14 → parseFieldDescriptor (TX0 k).2.2.1 = some (tyX0 k) := by decide +kernel
abbrev cX0_init : ByteArray := prog_2_method_1_code
def yX0_init : MethodName := ⟨RX0, "<init>", "(LMovedMembers$Tree;LMovedMembers$Tracer;LMovedMembers$Survey;)V"⟩
abbrev cX0_forgetKept : ByteArray := prog_2_method_2_code
def yX0_forgetKept : MethodName := ⟨RX0, "forgetKept", "()V"⟩
abbrev cX0_reason : ByteArray := prog_2_method_3_code
def yX0_reason : MethodName := ⟨RX0, "reason", "(IIZ)I"⟩
abbrev cX0_keep : ByteArray := prog_2_method_4_code
def yX0_keep : MethodName := ⟨RX0, "keep", "(IIZ)Z"⟩
abbrev cX0_takeBack : ByteArray := prog_2_method_5_code
def yX0_takeBack : MethodName := ⟨RX0, "takeBack", "()Z"⟩
abbrev cX0_refresh : ByteArray := prog_2_method_6_code
def yX0_refresh : MethodName := ⟨RX0, "refresh", "()V"⟩
abbrev cX0_someLack : ByteArray := prog_2_method_7_code
def yX0_someLack : MethodName := ⟨RX0, "someLack", "(II)Z"⟩
abbrev cX0_shift : ByteArray := prog_2_method_8_code
def yX0_shift : MethodName := ⟨RX0, "shift", "(IIZ)V"⟩
abbrev cX0_shiftUp : ByteArray := prog_2_method_9_code
def yX0_shiftUp : MethodName := ⟨RX0, "shiftUp", "(IIIZ)V"⟩
abbrev cX0_shiftDown : ByteArray := prog_2_method_10_code
def yX0_shiftDown : MethodName := ⟨RX0, "shiftDown", "(IIIZ)V"⟩
abbrev cX0_firstChange : ByteArray := prog_2_method_11_code
def yX0_firstChange : MethodName := ⟨RX0, "firstChange", "()I"⟩
abbrev cX0_save : ByteArray := prog_2_method_12_code
def yX0_save : MethodName := ⟨RX0, "save", "(II)V"⟩
abbrev cX0_restore : ByteArray := prog_2_method_13_code
def yX0_restore : MethodName := ⟨RX0, "restore", "(I)V"⟩
def RX1 : String := "MovedMembers$Page"
def TX1 : u_T := fun k => match k with
  | 0 => ("MovedMembers$Page", "codes", "[I", true)
  | _ => ("MovedMembers$Page", "size", "I", false)
def tyX1 : Nat → FieldType := fun k => match k with
  | 0 => .array .int
  | _ => .int
theorem nmX1 : ∀ a, a < 2 → ∀ b, b < 2 → a ≠ b → (TX1 a).2.1 ≠ (TX1 b).2.1 := by decide +kernel
theorem tyX1_ok : ∀ k, k < 2 → parseFieldDescriptor (TX1 k).2.2.1 = some (tyX1 k) := by decide +kernel
abbrev cX1_init : ByteArray := prog_3_method_1_code
def yX1_init : MethodName := ⟨RX1, "<init>", "()V"⟩
abbrev cX1_append : ByteArray := prog_3_method_2_code
def yX1_append : MethodName := ⟨RX1, "append", "(I)Z"⟩
abbrev cX1_wipe : ByteArray := prog_3_method_3_code
def yX1_wipe : MethodName := ⟨RX1, "wipe", "()V"⟩
abbrev cX1_codeAt : ByteArray := prog_3_method_4_code
def yX1_codeAt : MethodName := ⟨RX1, "codeAt", "(I)I"⟩
def RX2 : String := "MovedMembers$Reader"
def TX2 : u_T := fun k => match k with
  | 0 => ("MovedMembers$Reader", "told", "[I", true)
  | 1 => ("MovedMembers$Reader", "itemCounts", "[I", true)
  | 2 => ("MovedMembers$Reader", "items", "[I", true)
  | 3 => ("MovedMembers$Reader", "state", "I", false)
  | 4 => ("MovedMembers$Reader", "typesAhead", "I", false)
  | 5 => ("MovedMembers$Reader", "parent", "I", false)
  | 6 => ("MovedMembers$Reader", "toldCount", "I", false)
  | 7 => ("MovedMembers$Reader", "seenBits", "I", false)
  | _ => ("MovedMembers$Reader", "hiddenBits", "I", false)
def tyX2 : Nat → FieldType := fun k => match k with
  | 0 => .array .int
  | 1 => .array .int
  | 2 => .array .int
  | 3 => .int
  | 4 => .int
  | 5 => .int
  | 6 => .int
  | 7 => .int
  | _ => .int
theorem nmX2 : ∀ a, a < 9 → ∀ b, b < 9 → a ≠ b → (TX2 a).2.1 ≠ (TX2 b).2.1 := by decide +kernel
theorem tyX2_ok : ∀ k, k < 9 → parseFieldDescriptor (TX2 k).2.2.1 = some (tyX2 k) := by decide +kernel
abbrev cX2_init : ByteArray := prog_4_method_1_code
def yX2_init : MethodName := ⟨RX2, "<init>", "()V"⟩
abbrev cX2_read : ByteArray := prog_4_method_2_code
def yX2_read : MethodName := ⟨RX2, "read", "(LMovedMembers$Page;I)I"⟩
abbrev cX2_isWhole : ByteArray := prog_4_method_3_code
def yX2_isWhole : MethodName := ⟨RX2, "isWhole", "()Z"⟩
abbrev cX2_methodCount : ByteArray := prog_4_method_4_code
def yX2_methodCount : MethodName := ⟨RX2, "methodCount", "()I"⟩
abbrev cX2_memberAt : ByteArray := prog_4_method_5_code
def yX2_memberAt : MethodName := ⟨RX2, "memberAt", "(I)I"⟩
abbrev cX2_itemCountOf : ByteArray := prog_4_method_6_code
def yX2_itemCountOf : MethodName := ⟨RX2, "itemCountOf", "(I)I"⟩
abbrev cX2_itemAt : ByteArray := prog_4_method_7_code
def yX2_itemAt : MethodName := ⟨RX2, "itemAt", "(II)I"⟩
abbrev cX2_start : ByteArray := prog_4_method_8_code
def yX2_start : MethodName := ⟨RX2, "start", "(I)V"⟩
abbrev cX2_take : ByteArray := prog_4_method_9_code
def yX2_take : MethodName := ⟨RX2, "take", "(I)Z"⟩
abbrev cX2_goOn : ByteArray := prog_4_method_10_code
def yX2_goOn : MethodName := ⟨RX2, "goOn", "(ZI)Z"⟩
abbrev cX2_takeMember : ByteArray := prog_4_method_11_code
def yX2_takeMember : MethodName := ⟨RX2, "takeMember", "(I)Z"⟩
abbrev cX2_takeDash : ByteArray := prog_4_method_12_code
def yX2_takeDash : MethodName := ⟨RX2, "takeDash", "()Z"⟩
abbrev cX2_takeBehindDash : ByteArray := prog_4_method_13_code
def yX2_takeBehindDash : MethodName := ⟨RX2, "takeBehindDash", "(I)Z"⟩
abbrev cX2_takeItem : ByteArray := prog_4_method_14_code
def yX2_takeItem : MethodName := ⟨RX2, "takeItem", "(I)Z"⟩
abbrev cX2_takeAsked : ByteArray := prog_4_method_15_code
def yX2_takeAsked : MethodName := ⟨RX2, "takeAsked", "(I)Z"⟩
abbrev cX2_addItem : ByteArray := prog_4_method_16_code
def yX2_addItem : MethodName := ⟨RX2, "addItem", "(I)Z"⟩
abbrev cX2_memberOf : ByteArray := prog_4_method_17_code
def yX2_memberOf : MethodName := ⟨RX2, "memberOf", "(I)I"⟩
def RX3 : String := "MovedMembers$Survey"
def TX3 : u_T := fun k => match k with
  | 0 => ("MovedMembers$Survey", "tree", "LMovedMembers$Tree;", true)
  | 1 => ("MovedMembers$Survey", "tracer", "LMovedMembers$Tracer;", true)
  | 2 => ("MovedMembers$Survey", "events", "[I", true)
  | 3 => ("MovedMembers$Survey", "sizes", "[I", true)
  | 4 => ("MovedMembers$Survey", "depths", "[I", true)
  | 5 => ("MovedMembers$Survey", "reachedBits", "J", false)
  | 6 => ("MovedMembers$Survey", "missing", "I", false)
  | _ => ("MovedMembers$Survey", "version", "I", false)
def tyX3 : Nat → FieldType := fun k => match k with
  | 0 => .object "MovedMembers$Tree"
  | 1 => .object "MovedMembers$Tracer"
  | 2 => .array .int
  | 3 => .array .int
  | 4 => .array .int
  | 5 => .long
  | 6 => .int
  | _ => .int
theorem nmX3 : ∀ a, a < 8 → ∀ b, b < 8 → a ≠ b → (TX3 a).2.1 ≠ (TX3 b).2.1 := by decide +kernel
theorem tyX3_ok : ∀ k, k < 8 → parseFieldDescriptor (TX3 k).2.2.1 = some (tyX3 k) := by decide +kernel
abbrev cX3_init : ByteArray := prog_5_method_1_code
def yX3_init : MethodName := ⟨RX3, "<init>", "(LMovedMembers$Tree;LMovedMembers$Tracer;)V"⟩
abbrev cX3_refresh : ByteArray := prog_5_method_2_code
def yX3_refresh : MethodName := ⟨RX3, "refresh", "()V"⟩
abbrev cX3_store : ByteArray := prog_5_method_3_code
def yX3_store : MethodName := ⟨RX3, "store", "(II)V"⟩
abbrev cX3_addUp : ByteArray := prog_5_method_4_code
def yX3_addUp : MethodName := ⟨RX3, "addUp", "()V"⟩
abbrev cX3_rowOf : ByteArray := prog_5_method_5_code
def yX3_rowOf : MethodName := ⟨RX3, "rowOf", "(II)I"⟩
abbrev cX3_sizeOf : ByteArray := prog_5_method_6_code
def yX3_sizeOf : MethodName := ⟨RX3, "sizeOf", "(II)I"⟩
abbrev cX3_depthOf : ByteArray := prog_5_method_7_code
def yX3_depthOf : MethodName := ⟨RX3, "depthOf", "(II)I"⟩
abbrev cX3_eventAt : ByteArray := prog_5_method_8_code
def yX3_eventAt : MethodName := ⟨RX3, "eventAt", "(III)I"⟩
abbrev cX3_isReached : ByteArray := prog_5_method_9_code
def yX3_isReached : MethodName := ⟨RX3, "isReached", "(I)Z"⟩
abbrev cX3_reachedCount : ByteArray := prog_5_method_10_code
def yX3_reachedCount : MethodName := ⟨RX3, "reachedCount", "()I"⟩
abbrev cX3_isAsTraced : ByteArray := prog_5_method_11_code
def yX3_isAsTraced : MethodName := ⟨RX3, "isAsTraced", "(II)Z"⟩
def RX4 : String := "MovedMembers$Tracer"
def TX4 : u_T := fun k => match k with
  | 0 => ("MovedMembers$Tracer", "tree", "LMovedMembers$Tree;", true)
  | 1 => ("MovedMembers$Tracer", "events", "[I", true)
  | 2 => ("MovedMembers$Tracer", "openBodies", "[I", true)
  | 3 => ("MovedMembers$Tracer", "openHomes", "[I", true)
  | 4 => ("MovedMembers$Tracer", "openPlaces", "[I", true)
  | 5 => ("MovedMembers$Tracer", "openBits", "J", false)
  | 6 => ("MovedMembers$Tracer", "open", "I", false)
  | 7 => ("MovedMembers$Tracer", "size", "I", false)
  | _ => ("MovedMembers$Tracer", "deepest", "I", false)
def tyX4 : Nat → FieldType := fun k => match k with
  | 0 => .object "MovedMembers$Tree"
  | 1 => .array .int
  | 2 => .array .int
  | 3 => .array .int
  | 4 => .array .int
  | 5 => .long
  | 6 => .int
  | 7 => .int
  | _ => .int
theorem nmX4 : ∀ a, a < 9 → ∀ b, b < 9 → a ≠ b → (TX4 a).2.1 ≠ (TX4 b).2.1 := by decide +kernel
theorem tyX4_ok : ∀ k, k < 9 → parseFieldDescriptor (TX4 k).2.2.1 = some (tyX4 k) := by decide +kernel
abbrev cX4_init : ByteArray := prog_6_method_1_code
def yX4_init : MethodName := ⟨RX4, "<init>", "(LMovedMembers$Tree;)V"⟩
abbrev cX4_run : ByteArray := prog_6_method_2_code
def yX4_run : MethodName := ⟨RX4, "run", "(II)V"⟩
abbrev cX4_nextItem : ByteArray := prog_6_method_3_code
def yX4_nextItem : MethodName := ⟨RX4, "nextItem", "()I"⟩
abbrev cX4_openHome : ByteArray := prog_6_method_4_code
def yX4_openHome : MethodName := ⟨RX4, "openHome", "()I"⟩
abbrev cX4_homeFor : ByteArray := prog_6_method_5_code
def yX4_homeFor : MethodName := ⟨RX4, "homeFor", "(II)I"⟩
abbrev cX4_use : ByteArray := prog_6_method_6_code
def yX4_use : MethodName := ⟨RX4, "use", "(I)V"⟩
abbrev cX4_meet : ByteArray := prog_6_method_7_code
def yX4_meet : MethodName := ⟨RX4, "meet", "(II)V"⟩
abbrev cX4_enter : ByteArray := prog_6_method_8_code
def yX4_enter : MethodName := ⟨RX4, "enter", "(II)V"⟩
abbrev cX4_leave : ByteArray := prog_6_method_9_code
def yX4_leave : MethodName := ⟨RX4, "leave", "()V"⟩
abbrev cX4_note : ByteArray := prog_6_method_10_code
def yX4_note : MethodName := ⟨RX4, "note", "(II)V"⟩
abbrev cX4_eventAt : ByteArray := prog_6_method_11_code
def yX4_eventAt : MethodName := ⟨RX4, "eventAt", "(I)I"⟩
def RX5 : String := "MovedMembers$Tree"
def TX5 : u_T := fun k => match k with
  | 0 => ("MovedMembers$Tree", "parents", "[I", true)
  | 1 => ("MovedMembers$Tree", "hollows", "[Z", true)
  | 2 => ("MovedMembers$Tree", "held", "[I", true)
  | 3 => ("MovedMembers$Tree", "hiddenBits", "[I", true)
  | 4 => ("MovedMembers$Tree", "firstBodies", "[I", true)
  | 5 => ("MovedMembers$Tree", "itemCounts", "[I", true)
  | 6 => ("MovedMembers$Tree", "items", "[I", true)
  | 7 => ("MovedMembers$Tree", "types", "I", false)
  | 8 => ("MovedMembers$Tree", "bodies", "I", false)
  | _ => ("MovedMembers$Tree", "version", "I", false)
def tyX5 : Nat → FieldType := fun k => match k with
  | 0 => .array .int
  | 1 => .array .boolean
  | 2 => .array .int
  | 3 => .array .int
  | 4 => .array .int
  | 5 => .array .int
  | 6 => .array .int
  | 7 => .int
  | 8 => .int
  | _ => .int
theorem nmX5 : ∀ a, a < 10 → ∀ b, b < 10 → a ≠ b → (TX5 a).2.1 ≠ (TX5 b).2.1 := by decide +kernel
theorem tyX5_ok : ∀ k, k < 10 → parseFieldDescriptor (TX5 k).2.2.1 = some (tyX5 k) := by decide +kernel
abbrev cX5_init : ByteArray := prog_7_method_1_code
def yX5_init : MethodName := ⟨RX5, "<init>", "()V"⟩
abbrev cX5_hasType : ByteArray := prog_7_method_2_code
def yX5_hasType : MethodName := ⟨RX5, "hasType", "(I)Z"⟩
abbrev cX5_hasBody : ByteArray := prog_7_method_3_code
def yX5_hasBody : MethodName := ⟨RX5, "hasBody", "(I)Z"⟩
abbrev cX5_parentOf : ByteArray := prog_7_method_4_code
def yX5_parentOf : MethodName := ⟨RX5, "parentOf", "(I)I"⟩
abbrev cX5_hides : ByteArray := prog_7_method_5_code
def yX5_hides : MethodName := ⟨RX5, "hides", "(II)Z"⟩
abbrev cX5_heldBy : ByteArray := prog_7_method_6_code
def yX5_heldBy : MethodName := ⟨RX5, "heldBy", "(II)I"⟩
abbrev cX5_itemAt : ByteArray := prog_7_method_7_code
def yX5_itemAt : MethodName := ⟨RX5, "itemAt", "(II)I"⟩
abbrev cX5_isHollow : ByteArray := prog_7_method_8_code
def yX5_isHollow : MethodName := ⟨RX5, "isHollow", "(I)Z"⟩
abbrev cX5_makeHollow : ByteArray := prog_7_method_9_code
def yX5_makeHollow : MethodName := ⟨RX5, "makeHollow", "(IZ)V"⟩
abbrev cX5_hiddenOf : ByteArray := prog_7_method_10_code
def yX5_hiddenOf : MethodName := ⟨RX5, "hiddenOf", "(I)I"⟩
abbrev cX5_put : ByteArray := prog_7_method_11_code
def yX5_put : MethodName := ⟨RX5, "put", "(IIIZ)V"⟩
abbrev cX5_heldBits : ByteArray := prog_7_method_12_code
def yX5_heldBits : MethodName := ⟨RX5, "heldBits", "(III)I"⟩
abbrev cX5_childBits : ByteArray := prog_7_method_13_code
def yX5_childBits : MethodName := ⟨RX5, "childBits", "(I)I"⟩
abbrev cX5_nearest : ByteArray := prog_7_method_14_code
def yX5_nearest : MethodName := ⟨RX5, "nearest", "(II)I"⟩
abbrev cX5_answerBits : ByteArray := prog_7_method_15_code
def yX5_answerBits : MethodName := ⟨RX5, "answerBits", "(I)I"⟩
abbrev cX5_itemCountOf : ByteArray := prog_7_method_16_code
def yX5_itemCountOf : MethodName := ⟨RX5, "itemCountOf", "(I)I"⟩
abbrev cX5_hasRoomFor : ByteArray := prog_7_method_17_code
def yX5_hasRoomFor : MethodName := ⟨RX5, "hasRoomFor", "(LMovedMembers$Reader;)Z"⟩
abbrev cX5_accept : ByteArray := prog_7_method_18_code
def yX5_accept : MethodName := ⟨RX5, "accept", "(LMovedMembers$Reader;)I"⟩
abbrev cX5_newBody : ByteArray := prog_7_method_19_code
def yX5_newBody : MethodName := ⟨RX5, "newBody", "(LMovedMembers$Reader;I)I"⟩
abbrev cX5_lastLiesElsewhere : ByteArray := prog_7_method_20_code
def yX5_lastLiesElsewhere : MethodName := ⟨RX5, "lastLiesElsewhere", "()Z"⟩
abbrev cX5_removeLast : ByteArray := prog_7_method_21_code
def yX5_removeLast : MethodName := ⟨RX5, "removeLast", "()V"⟩
def RX6 : String := "MovedMembers"
def TX6 : u_T := fun k => match k with
  | 0 => ("MovedMembers", "page", "LMovedMembers$Page;", true)
  | 1 => ("MovedMembers", "reader", "LMovedMembers$Reader;", true)
  | 2 => ("MovedMembers", "tree", "LMovedMembers$Tree;", true)
  | 3 => ("MovedMembers", "survey", "LMovedMembers$Survey;", true)
  | 4 => ("MovedMembers", "mover", "LMovedMembers$Mover;", true)
  | 5 => ("MovedMembers", "contracts", "[I", true)
  | _ => ("MovedMembers", "contractCount", "I", false)
def tyX6 : Nat → FieldType := fun k => match k with
  | 0 => .object "MovedMembers$Page"
  | 1 => .object "MovedMembers$Reader"
  | 2 => .object "MovedMembers$Tree"
  | 3 => .object "MovedMembers$Survey"
  | 4 => .object "MovedMembers$Mover"
  | 5 => .array .int
  | _ => .int
theorem nmX6 : ∀ a, a < 7 → ∀ b, b < 7 → a ≠ b → (TX6 a).2.1 ≠ (TX6 b).2.1 := by decide +kernel
theorem tyX6_ok : ∀ k, k < 7 → parseFieldDescriptor (TX6 k).2.2.1 = some (tyX6 k) := by decide +kernel
abbrev cX6_init : ByteArray := prog_1_method_1_code
def yX6_init : MethodName := ⟨RX6, "<init>", "()V"⟩
abbrev cX6_letter : ByteArray := prog_1_method_2_code
def yX6_letter : MethodName := ⟨RX6, "letter", "(I)I"⟩
abbrev cX6_blank : ByteArray := prog_1_method_3_code
def yX6_blank : MethodName := ⟨RX6, "blank", "()I"⟩
abbrev cX6_fault : ByteArray := prog_1_method_4_code
def yX6_fault : MethodName := ⟨RX6, "fault", "()I"⟩
abbrev cX6_type : ByteArray := prog_1_method_5_code
def yX6_type : MethodName := ⟨RX6, "type", "()I"⟩
abbrev cX6_drop : ByteArray := prog_1_method_6_code
def yX6_drop : MethodName := ⟨RX6, "drop", "()I"⟩
abbrev cX6_hollow : ByteArray := prog_1_method_7_code
def yX6_hollow : MethodName := ⟨RX6, "hollow", "(IZ)I"⟩
abbrev cX6_of : ByteArray := prog_1_method_8_code
def yX6_of : MethodName := ⟨RX6, "of", "(II)I"⟩
abbrev cX6_has : ByteArray := prog_1_method_9_code
def yX6_has : MethodName := ⟨RX6, "has", "(II)I"⟩
abbrev cX6_answer : ByteArray := prog_1_method_10_code
def yX6_answer : MethodName := ⟨RX6, "answer", "(III)I"⟩
abbrev cX6_body : ByteArray := prog_1_method_11_code
def yX6_body : MethodName := ⟨RX6, "body", "(II)I"⟩
abbrev cX6_trace : ByteArray := prog_1_method_12_code
def yX6_trace : MethodName := ⟨RX6, "trace", "(III)I"⟩
abbrev cX6_event : ByteArray := prog_1_method_13_code
def yX6_event : MethodName := ⟨RX6, "event", "(IIII)I"⟩
abbrev cX6_why : ByteArray := prog_1_method_14_code
def yX6_why : MethodName := ⟨RX6, "why", "(IIZ)I"⟩
abbrev cX6_where : ByteArray := prog_1_method_15_code
def yX6_where : MethodName := ⟨RX6, "where", "(IIZ)I"⟩
abbrev cX6_move : ByteArray := prog_1_method_16_code
def yX6_move : MethodName := ⟨RX6, "move", "(IIZ)I"⟩
abbrev cX6_undo : ByteArray := prog_1_method_17_code
def yX6_undo : MethodName := ⟨RX6, "undo", "()I"⟩
abbrev cX6_moves : ByteArray := prog_1_method_18_code
def yX6_moves : MethodName := ⟨RX6, "moves", "(I)I"⟩
abbrev cX6_contract : ByteArray := prog_1_method_19_code
def yX6_contract : MethodName := ⟨RX6, "contract", "(I)I"⟩
abbrev cX6_fit : ByteArray := prog_1_method_20_code
def yX6_fit : MethodName := ⟨RX6, "fit", "(II)I"⟩
abbrev cX6_common : ByteArray := prog_1_method_21_code
def yX6_common : MethodName := ⟨RX6, "common", "(I)I"⟩
abbrev cX6_dead : ByteArray := prog_1_method_22_code
def yX6_dead : MethodName := ⟨RX6, "dead", "(I)I"⟩
abbrev cX6_count : ByteArray := prog_1_method_23_code
def yX6_count : MethodName := ⟨RX6, "count", "(I)I"⟩
abbrev cX6_digest : ByteArray := prog_1_method_24_code
def yX6_digest : MethodName := ⟨RX6, "digest", "()J"⟩
abbrev cX6_withType : ByteArray := prog_1_method_25_code
def yX6_withType : MethodName := ⟨RX6, "withType", "(JI)J"⟩
abbrev cX6_withMethod : ByteArray := prog_1_method_26_code
def yX6_withMethod : MethodName := ⟨RX6, "withMethod", "(JII)J"⟩
abbrev cX6_withBody : ByteArray := prog_1_method_27_code
def yX6_withBody : MethodName := ⟨RX6, "withBody", "(JI)J"⟩
abbrev cX6_with : ByteArray := prog_1_method_28_code
def yX6_with : MethodName := ⟨RX6, "with", "(JJ)J"⟩
abbrev cX6_typesThatFit : ByteArray := prog_1_method_29_code
def yX6_typesThatFit : MethodName := ⟨RX6, "typesThatFit", "(I)I"⟩
abbrev cX6_nearestMisfit : ByteArray := prog_1_method_30_code
def yX6_nearestMisfit : MethodName := ⟨RX6, "nearestMisfit", "(I)I"⟩
abbrev cX6_isMember : ByteArray := prog_1_method_31_code
def yX6_isMember : MethodName := ⟨RX6, "isMember", "(I)Z"⟩
abbrev cX6_isMethod : ByteArray := prog_1_method_32_code
def yX6_isMethod : MethodName := ⟨RX6, "isMethod", "(I)Z"⟩
def RX7 : String := "MovedMembersModel"
def TX7 : u_T := fun k => match k with
  | 0 => ("MovedMembersModel", "pageLength", "I", false)
  | 1 => ("MovedMembersModel", "page", "[I", true)
  | 2 => ("MovedMembersModel", "types", "I", false)
  | 3 => ("MovedMembersModel", "parentOf", "[I", true)
  | 4 => ("MovedMembersModel", "isHollow", "[Z", true)
  | 5 => ("MovedMembersModel", "members", "[I", true)
  | 6 => ("MovedMembersModel", "hidden", "[I", true)
  | 7 => ("MovedMembersModel", "side", "I", false)
  | 8 => ("MovedMembersModel", "bodies", "I", false)
  | 9 => ("MovedMembersModel", "cameWith", "[I", true)
  | 10 => ("MovedMembersModel", "itemMany", "[I", true)
  | 11 => ("MovedMembersModel", "items", "[I", true)
  | 12 => ("MovedMembersModel", "kept", "I", false)
  | 13 => ("MovedMembersModel", "keptMembers", "[I", true)
  | 14 => ("MovedMembersModel", "keptHidden", "[I", true)
  | 15 => ("MovedMembersModel", "contracts", "I", false)
  | 16 => ("MovedMembersModel", "contractOf", "[I", true)
  | 17 => ("MovedMembersModel", "done", "I", false)
  | 18 => ("MovedMembersModel", "undone", "I", false)
  | 19 => ("MovedMembersModel", "stage", "I", false)
  | 20 => ("MovedMembersModel", "newParent", "I", false)
  | 21 => ("MovedMembersModel", "met", "I", false)
  | 22 => ("MovedMembersModel", "newHidden", "I", false)
  | 23 => ("MovedMembersModel", "newBodies", "I", false)
  | 24 => ("MovedMembersModel", "newBody", "[I", true)
  | 25 => ("MovedMembersModel", "newMany", "[I", true)
  | 26 => ("MovedMembersModel", "newItems", "[I", true)
  | 27 => ("MovedMembersModel", "lastMethod", "I", false)
  | 28 => ("MovedMembersModel", "events", "I", false)
  | 29 => ("MovedMembersModel", "sorts", "[I", true)
  | 30 => ("MovedMembersModel", "numbers", "[I", true)
  | 31 => ("MovedMembersModel", "deepest", "I", false)
  | 32 => ("MovedMembersModel", "running", "I", false)
  | 33 => ("MovedMembersModel", "runBody", "[I", true)
  | 34 => ("MovedMembersModel", "runType", "[I", true)
  | 35 => ("MovedMembersModel", "runItem", "[I", true)
  | 36 => ("MovedMembersModel", "wereEvents", "I", false)
  | 37 => ("MovedMembersModel", "wereSorts", "[I", true)
  | 38 => ("MovedMembersModel", "wereNumbers", "[I", true)
  | 39 => ("MovedMembersModel", "ups", "I", false)
  | 40 => ("MovedMembersModel", "downs", "I", false)
  | 41 => ("MovedMembersModel", "stopped", "I", false)
  | 42 => ("MovedMembersModel", "isMet", "[Z", true)
  | 43 => ("MovedMembersModel", "missing", "I", false)
  | _ => ("MovedMembersModel", "h", "J", false)
def tyX7 : Nat → FieldType := fun k => match k with
  | 0 => .int
  | 1 => .array .int
  | 2 => .int
  | 3 => .array .int
  | 4 => .array .boolean
  | 5 => .array .int
  | 6 => .array .int
  | 7 => .int
  | 8 => .int
  | 9 => .array .int
  | 10 => .array .int
  | 11 => .array .int
  | 12 => .int
  | 13 => .array .int
  | 14 => .array .int
  | 15 => .int
  | 16 => .array .int
  | 17 => .int
  | 18 => .int
  | 19 => .int
  | 20 => .int
  | 21 => .int
  | 22 => .int
  | 23 => .int
  | 24 => .array .int
  | 25 => .array .int
  | 26 => .array .int
  | 27 => .int
  | 28 => .int
  | 29 => .array .int
  | 30 => .array .int
  | 31 => .int
  | 32 => .int
  | 33 => .array .int
  | 34 => .array .int
  | 35 => .array .int
  | 36 => .int
  | 37 => .array .int
  | 38 => .array .int
  | 39 => .int
  | 40 => .int
  | 41 => .int
  | 42 => .array .boolean
  | 43 => .int
  | _ => .long
theorem nmX7 : ∀ a, a < 45 → ∀ b, b < 45 → a ≠ b → (TX7 a).2.1 ≠ (TX7 b).2.1 := by decide +kernel
theorem tyX7_ok : ∀ k, k < 45 → parseFieldDescriptor (TX7 k).2.2.1 = some (tyX7 k) := by decide +kernel
abbrev cX7_init : ByteArray := prog_9_method_1_code
def yX7_init : MethodName := ⟨RX7, "<init>", "()V"⟩
abbrev cX7_within : ByteArray := prog_9_method_3_code
def yX7_within : MethodName := ⟨RX7, "within", "(III)Z"⟩
abbrev cX7_hasBit : ByteArray := prog_9_method_4_code
def yX7_hasBit : MethodName := ⟨RX7, "hasBit", "(II)Z"⟩
abbrev cX7_ones : ByteArray := prog_9_method_5_code
def yX7_ones : MethodName := ⟨RX7, "ones", "(I)I"⟩
abbrev cX7_letter : ByteArray := prog_9_method_6_code
def yX7_letter : MethodName := ⟨RX7, "letter", "(I)I"⟩
abbrev cX7_blank : ByteArray := prog_9_method_7_code
def yX7_blank : MethodName := ⟨RX7, "blank", "()I"⟩
abbrev cX7_memberAt : ByteArray := prog_9_method_8_code
def yX7_memberAt : MethodName := ⟨RX7, "memberAt", "(I)I"⟩
abbrev cX7_takesMember : ByteArray := prog_9_method_9_code
def yX7_takesMember : MethodName := ⟨RX7, "takesMember", "(I)Z"⟩
abbrev cX7_takesBehindMethod : ByteArray := prog_9_method_10_code
def yX7_takesBehindMethod : MethodName := ⟨RX7, "takesBehindMethod", "(I)Z"⟩
abbrev cX7_takesItem : ByteArray := prog_9_method_11_code
def yX7_takesItem : MethodName := ⟨RX7, "takesItem", "(I)Z"⟩
abbrev cX7_takesHead : ByteArray := prog_9_method_12_code
def yX7_takesHead : MethodName := ⟨RX7, "takesHead", "(I)Z"⟩
abbrev cX7_takes : ByteArray := prog_9_method_13_code
def yX7_takes : MethodName := ⟨RX7, "takes", "(I)Z"⟩
abbrev cX7_read : ByteArray := prog_9_method_14_code
def yX7_read : MethodName := ⟨RX7, "read", "()I"⟩
abbrev cX7_fault : ByteArray := prog_9_method_15_code
def yX7_fault : MethodName := ⟨RX7, "fault", "()I"⟩
abbrev cX7_type : ByteArray := prog_9_method_16_code
def yX7_type : MethodName := ⟨RX7, "type", "()I"⟩
abbrev cX7_memberOf : ByteArray := prog_9_method_17_code
def yX7_memberOf : MethodName := ⟨RX7, "memberOf", "(II)I"⟩
abbrev cX7_isHidden : ByteArray := prog_9_method_18_code
def yX7_isHidden : MethodName := ⟨RX7, "isHidden", "(II)Z"⟩
abbrev cX7_isElsewhere : ByteArray := prog_9_method_19_code
def yX7_isElsewhere : MethodName := ⟨RX7, "isElsewhere", "()Z"⟩
abbrev cX7_drop : ByteArray := prog_9_method_20_code
def yX7_drop : MethodName := ⟨RX7, "drop", "()I"⟩
abbrev cX7_isType : ByteArray := prog_9_method_21_code
def yX7_isType : MethodName := ⟨RX7, "isType", "(I)Z"⟩
abbrev cX7_hollow : ByteArray := prog_9_method_22_code
def yX7_hollow : MethodName := ⟨RX7, "hollow", "(IZ)I"⟩
abbrev cX7_answersIn : ByteArray := prog_9_method_23_code
def yX7_answersIn : MethodName := ⟨RX7, "answersIn", "(II)I"⟩
abbrev cX7_slotFrom : ByteArray := prog_9_method_24_code
def yX7_slotFrom : MethodName := ⟨RX7, "slotFrom", "(II)I"⟩
abbrev cX7_answered : ByteArray := prog_9_method_25_code
def yX7_answered : MethodName := ⟨RX7, "answered", "(I)I"⟩
abbrev cX7_hasOf : ByteArray := prog_9_method_26_code
def yX7_hasOf : MethodName := ⟨RX7, "hasOf", "(III)I"⟩
abbrev cX7_below : ByteArray := prog_9_method_27_code
def yX7_below : MethodName := ⟨RX7, "below", "(I)I"⟩
abbrev cX7_typeNow : ByteArray := prog_9_method_28_code
def yX7_typeNow : MethodName := ⟨RX7, "typeNow", "(II)I"⟩
abbrev cX7_of : ByteArray := prog_9_method_29_code
def yX7_of : MethodName := ⟨RX7, "of", "(II)I"⟩
abbrev cX7_isMember : ByteArray := prog_9_method_30_code
def yX7_isMember : MethodName := ⟨RX7, "isMember", "(II)Z"⟩
abbrev cX7_isMethod : ByteArray := prog_9_method_31_code
def yX7_isMethod : MethodName := ⟨RX7, "isMethod", "(II)Z"⟩
abbrev cX7_has : ByteArray := prog_9_method_32_code
def yX7_has : MethodName := ⟨RX7, "has", "(II)I"⟩
abbrev cX7_answerNow : ByteArray := prog_9_method_33_code
def yX7_answerNow : MethodName := ⟨RX7, "answerNow", "(III)I"⟩
abbrev cX7_answer : ByteArray := prog_9_method_34_code
def yX7_answer : MethodName := ⟨RX7, "answer", "(III)I"⟩
abbrev cX7_bodyNow : ByteArray := prog_9_method_35_code
def yX7_bodyNow : MethodName := ⟨RX7, "bodyNow", "(II)I"⟩
abbrev cX7_body : ByteArray := prog_9_method_36_code
def yX7_body : MethodName := ⟨RX7, "body", "(II)I"⟩
abbrev cX7_put : ByteArray := prog_9_method_37_code
def yX7_put : MethodName := ⟨RX7, "put", "(II)V"⟩
abbrev cX7_isRunning : ByteArray := prog_9_method_38_code
def yX7_isRunning : MethodName := ⟨RX7, "isRunning", "(I)Z"⟩
abbrev cX7_run : ByteArray := prog_9_method_39_code
def yX7_run : MethodName := ⟨RX7, "run", "(II)V"⟩
abbrev cX7_comesTo : ByteArray := prog_9_method_40_code
def yX7_comesTo : MethodName := ⟨RX7, "comesTo", "(III)V"⟩
abbrev cX7_layTrace : ByteArray := prog_9_method_41_code
def yX7_layTrace : MethodName := ⟨RX7, "layTrace", "(II)Z"⟩
abbrev cX7_traceNow : ByteArray := prog_9_method_42_code
def yX7_traceNow : MethodName := ⟨RX7, "traceNow", "(III)I"⟩
abbrev cX7_trace : ByteArray := prog_9_method_43_code
def yX7_trace : MethodName := ⟨RX7, "trace", "(III)I"⟩
abbrev cX7_event : ByteArray := prog_9_method_44_code
def yX7_event : MethodName := ⟨RX7, "event", "(IIII)I"⟩
abbrev cX7_layTried : ByteArray := prog_9_method_45_code
def yX7_layTried : MethodName := ⟨RX7, "layTried", "()V"⟩
abbrev cX7_lay : ByteArray := prog_9_method_46_code
def yX7_lay : MethodName := ⟨RX7, "lay", "(IIIIZ)V"⟩
abbrev cX7_tryMove : ByteArray := prog_9_method_47_code
def yX7_tryMove : MethodName := ⟨RX7, "tryMove", "(IIZ)V"⟩
abbrev cX7_missesBelow : ByteArray := prog_9_method_48_code
def yX7_missesBelow : MethodName := ⟨RX7, "missesBelow", "(II)I"⟩
abbrev cX7_plainWhy : ByteArray := prog_9_method_49_code
def yX7_plainWhy : MethodName := ⟨RX7, "plainWhy", "(IIZ)I"⟩
abbrev cX7_isOther : ByteArray := prog_9_method_50_code
def yX7_isOther : MethodName := ⟨RX7, "isOther", "(II)Z"⟩
abbrev cX7_whereTried : ByteArray := prog_9_method_51_code
def yX7_whereTried : MethodName := ⟨RX7, "whereTried", "()I"⟩
abbrev cX7_whereNow : ByteArray := prog_9_method_52_code
def yX7_whereNow : MethodName := ⟨RX7, "whereNow", "(IIZ)I"⟩
abbrev cX7_whyNow : ByteArray := prog_9_method_53_code
def yX7_whyNow : MethodName := ⟨RX7, "whyNow", "(IIZ)I"⟩
abbrev cX7_why : ByteArray := prog_9_method_54_code
def yX7_why : MethodName := ⟨RX7, "why", "(IIZ)I"⟩
abbrev cX7_where : ByteArray := prog_9_method_55_code
def yX7_where : MethodName := ⟨RX7, "where", "(IIZ)I"⟩
abbrev cX7_move : ByteArray := prog_9_method_56_code
def yX7_move : MethodName := ⟨RX7, "move", "(IIZ)I"⟩
abbrev cX7_undo : ByteArray := prog_9_method_57_code
def yX7_undo : MethodName := ⟨RX7, "undo", "()I"⟩
abbrev cX7_layMoves : ByteArray := prog_9_method_58_code
def yX7_layMoves : MethodName := ⟨RX7, "layMoves", "()V"⟩
abbrev cX7_moves : ByteArray := prog_9_method_59_code
def yX7_moves : MethodName := ⟨RX7, "moves", "(I)I"⟩
abbrev cX7_contract : ByteArray := prog_9_method_60_code
def yX7_contract : MethodName := ⟨RX7, "contract", "(I)I"⟩
abbrev cX7_fitNow : ByteArray := prog_9_method_61_code
def yX7_fitNow : MethodName := ⟨RX7, "fitNow", "(II)I"⟩
abbrev cX7_fit : ByteArray := prog_9_method_62_code
def yX7_fit : MethodName := ⟨RX7, "fit", "(II)I"⟩
abbrev cX7_common : ByteArray := prog_9_method_63_code
def yX7_common : MethodName := ⟨RX7, "common", "(I)I"⟩
abbrev cX7_layMet : ByteArray := prog_9_method_64_code
def yX7_layMet : MethodName := ⟨RX7, "layMet", "()V"⟩
abbrev cX7_deadNow : ByteArray := prog_9_method_65_code
def yX7_deadNow : MethodName := ⟨RX7, "deadNow", "(I)I"⟩
abbrev cX7_dead : ByteArray := prog_9_method_66_code
def yX7_dead : MethodName := ⟨RX7, "dead", "(I)I"⟩
abbrev cX7_deadMany : ByteArray := prog_9_method_67_code
def yX7_deadMany : MethodName := ⟨RX7, "deadMany", "()I"⟩
abbrev cX7_missingMany : ByteArray := prog_9_method_68_code
def yX7_missingMany : MethodName := ⟨RX7, "missingMany", "()I"⟩
abbrev cX7_howMany : ByteArray := prog_9_method_69_code
def yX7_howMany : MethodName := ⟨RX7, "howMany", "(I)I"⟩
abbrev cX7_count : ByteArray := prog_9_method_70_code
def yX7_count : MethodName := ⟨RX7, "count", "(I)I"⟩
abbrev cX7_mix : ByteArray := prog_9_method_71_code
def yX7_mix : MethodName := ⟨RX7, "mix", "(J)V"⟩
abbrev cX7_mixMethod : ByteArray := prog_9_method_72_code
def yX7_mixMethod : MethodName := ⟨RX7, "mixMethod", "(II)V"⟩
abbrev cX7_mixTypes : ByteArray := prog_9_method_73_code
def yX7_mixTypes : MethodName := ⟨RX7, "mixTypes", "()V"⟩
abbrev cX7_digest : ByteArray := prog_9_method_74_code
def yX7_digest : MethodName := ⟨RX7, "digest", "()J"⟩
def RJ6 : String := "java/lang/Integer"
abbrev cJ6_bitCount_0f7a4 : ByteArray := prog_10_method_49_code
def yJ6_bitCount_0f7a4 : MethodName := ⟨RJ6, "bitCount", "(I)I"⟩
def RJ13 : String := "java/lang/Long"
abbrev cJ13_bitCount_95d88 : ByteArray := prog_11_method_50_code
def yJ13_bitCount_95d88 : MethodName := ⟨RJ13, "bitCount", "(J)I"⟩
def RL : String := "MovedMembersLaw"
abbrev cL_law : ByteArray := code
def yL_law : MethodName := ⟨RL, "law", "([I)Z"⟩
abbrev vwCl : List vw_C := [(RX0, TX0, 14), (RX1, TX1, 2), (RX2, TX2, 9), (RX3, TX3, 8), (RX4, TX4, 9), (RX5, TX5, 10), (RX6, TX6, 7), (RX7, TX7, 45)]
/-- a method: its name, its bytes, how many locals, what it answers -/
abbrev MD : Type := MethodName × ByteArray × Nat × Option FieldType
def mX0_init : MD := (yX0_init, cX0_init, 4, none)
def mX0_forgetKept : MD := (yX0_forgetKept, cX0_forgetKept, 1, none)
def mX0_reason : MD := (yX0_reason, cX0_reason, 5, (some .int))
def mX0_keep : MD := (yX0_keep, cX0_keep, 4, (some .boolean))
def mX0_takeBack : MD := (yX0_takeBack, cX0_takeBack, 1, (some .boolean))
def mX0_refresh : MD := (yX0_refresh, cX0_refresh, 5, none)
def mX0_someLack : MD := (yX0_someLack, cX0_someLack, 4, (some .boolean))
def mX0_shift : MD := (yX0_shift, cX0_shift, 6, none)
def mX0_shiftUp : MD := (yX0_shiftUp, cX0_shiftUp, 6, none)
def mX0_shiftDown : MD := (yX0_shiftDown, cX0_shiftDown, 6, none)
def mX0_firstChange : MD := (yX0_firstChange, cX0_firstChange, 3, (some .int))
def mX0_save : MD := (yX0_save, cX0_save, 4, none)
def mX0_restore : MD := (yX0_restore, cX0_restore, 4, none)
def mX1_init : MD := (yX1_init, cX1_init, 1, none)
def mX1_append : MD := (yX1_append, cX1_append, 2, (some .boolean))
def mX1_wipe : MD := (yX1_wipe, cX1_wipe, 1, none)
def mX1_codeAt : MD := (yX1_codeAt, cX1_codeAt, 2, (some .int))
def mX2_init : MD := (yX2_init, cX2_init, 1, none)
def mX2_read : MD := (yX2_read, cX2_read, 4, (some .int))
def mX2_isWhole : MD := (yX2_isWhole, cX2_isWhole, 1, (some .boolean))
def mX2_methodCount : MD := (yX2_methodCount, cX2_methodCount, 1, (some .int))
def mX2_memberAt : MD := (yX2_memberAt, cX2_memberAt, 2, (some .int))
def mX2_itemCountOf : MD := (yX2_itemCountOf, cX2_itemCountOf, 2, (some .int))
def mX2_itemAt : MD := (yX2_itemAt, cX2_itemAt, 3, (some .int))
def mX2_start : MD := (yX2_start, cX2_start, 2, none)
def mX2_take : MD := (yX2_take, cX2_take, 2, (some .boolean))
def mX2_goOn : MD := (yX2_goOn, cX2_goOn, 3, (some .boolean))
def mX2_takeMember : MD := (yX2_takeMember, cX2_takeMember, 3, (some .boolean))
def mX2_takeDash : MD := (yX2_takeDash, cX2_takeDash, 1, (some .boolean))
def mX2_takeBehindDash : MD := (yX2_takeBehindDash, cX2_takeBehindDash, 2, (some .boolean))
def mX2_takeItem : MD := (yX2_takeItem, cX2_takeItem, 4, (some .boolean))
def mX2_takeAsked : MD := (yX2_takeAsked, cX2_takeAsked, 3, (some .boolean))
def mX2_addItem : MD := (yX2_addItem, cX2_addItem, 3, (some .boolean))
def mX2_memberOf : MD := (yX2_memberOf, cX2_memberOf, 1, (some .int))
def mX3_init : MD := (yX3_init, cX3_init, 3, none)
def mX3_refresh : MD := (yX3_refresh, cX3_refresh, 3, none)
def mX3_store : MD := (yX3_store, cX3_store, 5, none)
def mX3_addUp : MD := (yX3_addUp, cX3_addUp, 3, none)
def mX3_rowOf : MD := (yX3_rowOf, cX3_rowOf, 2, (some .int))
def mX3_sizeOf : MD := (yX3_sizeOf, cX3_sizeOf, 4, (some .int))
def mX3_depthOf : MD := (yX3_depthOf, cX3_depthOf, 4, (some .int))
def mX3_eventAt : MD := (yX3_eventAt, cX3_eventAt, 5, (some .int))
def mX3_isReached : MD := (yX3_isReached, cX3_isReached, 2, (some .boolean))
def mX3_reachedCount : MD := (yX3_reachedCount, cX3_reachedCount, 1, (some .int))
def mX3_isAsTraced : MD := (yX3_isAsTraced, cX3_isAsTraced, 4, (some .boolean))
def mX4_init : MD := (yX4_init, cX4_init, 2, none)
def mX4_run : MD := (yX4_run, cX4_run, 6, none)
def mX4_nextItem : MD := (yX4_nextItem, cX4_nextItem, 3, (some .int))
def mX4_openHome : MD := (yX4_openHome, cX4_openHome, 1, (some .int))
def mX4_homeFor : MD := (yX4_homeFor, cX4_homeFor, 4, (some .int))
def mX4_use : MD := (yX4_use, cX4_use, 3, none)
def mX4_meet : MD := (yX4_meet, cX4_meet, 4, none)
def mX4_enter : MD := (yX4_enter, cX4_enter, 3, none)
def mX4_leave : MD := (yX4_leave, cX4_leave, 1, none)
def mX4_note : MD := (yX4_note, cX4_note, 3, none)
def mX4_eventAt : MD := (yX4_eventAt, cX4_eventAt, 2, (some .int))
def mX5_init : MD := (yX5_init, cX5_init, 1, none)
def mX5_hasType : MD := (yX5_hasType, cX5_hasType, 2, (some .boolean))
def mX5_hasBody : MD := (yX5_hasBody, cX5_hasBody, 2, (some .boolean))
def mX5_parentOf : MD := (yX5_parentOf, cX5_parentOf, 2, (some .int))
def mX5_hides : MD := (yX5_hides, cX5_hides, 3, (some .boolean))
def mX5_heldBy : MD := (yX5_heldBy, cX5_heldBy, 3, (some .int))
def mX5_itemAt : MD := (yX5_itemAt, cX5_itemAt, 3, (some .int))
def mX5_isHollow : MD := (yX5_isHollow, cX5_isHollow, 2, (some .boolean))
def mX5_makeHollow : MD := (yX5_makeHollow, cX5_makeHollow, 3, none)
def mX5_hiddenOf : MD := (yX5_hiddenOf, cX5_hiddenOf, 2, (some .int))
def mX5_put : MD := (yX5_put, cX5_put, 6, none)
def mX5_heldBits : MD := (yX5_heldBits, cX5_heldBits, 6, (some .int))
def mX5_childBits : MD := (yX5_childBits, cX5_childBits, 4, (some .int))
def mX5_nearest : MD := (yX5_nearest, cX5_nearest, 5, (some .int))
def mX5_answerBits : MD := (yX5_answerBits, cX5_answerBits, 4, (some .int))
def mX5_itemCountOf : MD := (yX5_itemCountOf, cX5_itemCountOf, 2, (some .int))
def mX5_hasRoomFor : MD := (yX5_hasRoomFor, cX5_hasRoomFor, 2, (some .boolean))
def mX5_accept : MD := (yX5_accept, cX5_accept, 6, (some .int))
def mX5_newBody : MD := (yX5_newBody, cX5_newBody, 5, (some .int))
def mX5_lastLiesElsewhere : MD := (yX5_lastLiesElsewhere, cX5_lastLiesElsewhere, 5, (some .boolean))
def mX5_removeLast : MD := (yX5_removeLast, cX5_removeLast, 2, none)
def mX6_init : MD := (yX6_init, cX6_init, 2, none)
def mX6_letter : MD := (yX6_letter, cX6_letter, 2, (some .int))
def mX6_blank : MD := (yX6_blank, cX6_blank, 2, (some .int))
def mX6_fault : MD := (yX6_fault, cX6_fault, 1, (some .int))
def mX6_type : MD := (yX6_type, cX6_type, 2, (some .int))
def mX6_drop : MD := (yX6_drop, cX6_drop, 1, (some .int))
def mX6_hollow : MD := (yX6_hollow, cX6_hollow, 4, (some .int))
def mX6_of : MD := (yX6_of, cX6_of, 3, (some .int))
def mX6_has : MD := (yX6_has, cX6_has, 3, (some .int))
def mX6_answer : MD := (yX6_answer, cX6_answer, 5, (some .int))
def mX6_body : MD := (yX6_body, cX6_body, 3, (some .int))
def mX6_trace : MD := (yX6_trace, cX6_trace, 4, (some .int))
def mX6_event : MD := (yX6_event, cX6_event, 6, (some .int))
def mX6_why : MD := (yX6_why, cX6_why, 4, (some .int))
def mX6_where : MD := (yX6_where, cX6_where, 4, (some .int))
def mX6_move : MD := (yX6_move, cX6_move, 4, (some .int))
def mX6_undo : MD := (yX6_undo, cX6_undo, 1, (some .int))
def mX6_moves : MD := (yX6_moves, cX6_moves, 2, (some .int))
def mX6_contract : MD := (yX6_contract, cX6_contract, 2, (some .int))
def mX6_fit : MD := (yX6_fit, cX6_fit, 4, (some .int))
def mX6_common : MD := (yX6_common, cX6_common, 4, (some .int))
def mX6_dead : MD := (yX6_dead, cX6_dead, 2, (some .int))
def mX6_count : MD := (yX6_count, cX6_count, 2, (some .int))
def mX6_digest : MD := (yX6_digest, cX6_digest, 5, (some .long))
def mX6_withType : MD := (yX6_withType, cX6_withType, 7, (some .long))
def mX6_withMethod : MD := (yX6_withMethod, cX6_withMethod, 10, (some .long))
def mX6_withBody : MD := (yX6_withBody, cX6_withBody, 7, (some .long))
def mX6_with : MD := (yX6_with, cX6_with, 4, (some .long))
def mX6_typesThatFit : MD := (yX6_typesThatFit, cX6_typesThatFit, 4, (some .int))
def mX6_nearestMisfit : MD := (yX6_nearestMisfit, cX6_nearestMisfit, 6, (some .int))
def mX6_isMember : MD := (yX6_isMember, cX6_isMember, 1, (some .boolean))
def mX6_isMethod : MD := (yX6_isMethod, cX6_isMethod, 1, (some .boolean))
def mX7_init : MD := (yX7_init, cX7_init, 1, none)
def mX7_within : MD := (yX7_within, cX7_within, 3, (some .boolean))
def mX7_hasBit : MD := (yX7_hasBit, cX7_hasBit, 2, (some .boolean))
def mX7_ones : MD := (yX7_ones, cX7_ones, 3, (some .int))
def mX7_letter : MD := (yX7_letter, cX7_letter, 2, (some .int))
def mX7_blank : MD := (yX7_blank, cX7_blank, 2, (some .int))
def mX7_memberAt : MD := (yX7_memberAt, cX7_memberAt, 1, (some .int))
def mX7_takesMember : MD := (yX7_takesMember, cX7_takesMember, 3, (some .boolean))
def mX7_takesBehindMethod : MD := (yX7_takesBehindMethod, cX7_takesBehindMethod, 2, (some .boolean))
def mX7_takesItem : MD := (yX7_takesItem, cX7_takesItem, 4, (some .boolean))
def mX7_takesHead : MD := (yX7_takesHead, cX7_takesHead, 2, (some .boolean))
def mX7_takes : MD := (yX7_takes, cX7_takes, 2, (some .boolean))
def mX7_read : MD := (yX7_read, cX7_read, 2, (some .int))
def mX7_fault : MD := (yX7_fault, cX7_fault, 1, (some .int))
def mX7_type : MD := (yX7_type, cX7_type, 3, (some .int))
def mX7_memberOf : MD := (yX7_memberOf, cX7_memberOf, 3, (some .int))
def mX7_isHidden : MD := (yX7_isHidden, cX7_isHidden, 3, (some .boolean))
def mX7_isElsewhere : MD := (yX7_isElsewhere, cX7_isElsewhere, 6, (some .boolean))
def mX7_drop : MD := (yX7_drop, cX7_drop, 1, (some .int))
def mX7_isType : MD := (yX7_isType, cX7_isType, 2, (some .boolean))
def mX7_hollow : MD := (yX7_hollow, cX7_hollow, 4, (some .int))
def mX7_answersIn : MD := (yX7_answersIn, cX7_answersIn, 4, (some .int))
def mX7_slotFrom : MD := (yX7_slotFrom, cX7_slotFrom, 4, (some .int))
def mX7_answered : MD := (yX7_answered, cX7_answered, 4, (some .int))
def mX7_hasOf : MD := (yX7_hasOf, cX7_hasOf, 6, (some .int))
def mX7_below : MD := (yX7_below, cX7_below, 4, (some .int))
def mX7_typeNow : MD := (yX7_typeNow, cX7_typeNow, 3, (some .int))
def mX7_of : MD := (yX7_of, cX7_of, 3, (some .int))
def mX7_isMember : MD := (yX7_isMember, cX7_isMember, 3, (some .boolean))
def mX7_isMethod : MD := (yX7_isMethod, cX7_isMethod, 3, (some .boolean))
def mX7_has : MD := (yX7_has, cX7_has, 3, (some .int))
def mX7_answerNow : MD := (yX7_answerNow, cX7_answerNow, 5, (some .int))
def mX7_answer : MD := (yX7_answer, cX7_answer, 4, (some .int))
def mX7_bodyNow : MD := (yX7_bodyNow, cX7_bodyNow, 3, (some .int))
def mX7_body : MD := (yX7_body, cX7_body, 3, (some .int))
def mX7_put : MD := (yX7_put, cX7_put, 3, none)
def mX7_isRunning : MD := (yX7_isRunning, cX7_isRunning, 4, (some .boolean))
def mX7_run : MD := (yX7_run, cX7_run, 3, none)
def mX7_comesTo : MD := (yX7_comesTo, cX7_comesTo, 8, none)
def mX7_layTrace : MD := (yX7_layTrace, cX7_layTrace, 6, (some .boolean))
def mX7_traceNow : MD := (yX7_traceNow, cX7_traceNow, 4, (some .int))
def mX7_trace : MD := (yX7_trace, cX7_trace, 4, (some .int))
def mX7_event : MD := (yX7_event, cX7_event, 5, (some .int))
def mX7_layTried : MD := (yX7_layTried, cX7_layTried, 2, none)
def mX7_lay : MD := (yX7_lay, cX7_lay, 7, none)
def mX7_tryMove : MD := (yX7_tryMove, cX7_tryMove, 9, none)
def mX7_missesBelow : MD := (yX7_missesBelow, cX7_missesBelow, 5, (some .int))
def mX7_plainWhy : MD := (yX7_plainWhy, cX7_plainWhy, 5, (some .int))
def mX7_isOther : MD := (yX7_isOther, cX7_isOther, 5, (some .boolean))
def mX7_whereTried : MD := (yX7_whereTried, cX7_whereTried, 3, (some .int))
def mX7_whereNow : MD := (yX7_whereNow, cX7_whereNow, 4, (some .int))
def mX7_whyNow : MD := (yX7_whyNow, cX7_whyNow, 5, (some .int))
def mX7_why : MD := (yX7_why, cX7_why, 4, (some .int))
def mX7_where : MD := (yX7_where, cX7_where, 4, (some .int))
def mX7_move : MD := (yX7_move, cX7_move, 5, (some .int))
def mX7_undo : MD := (yX7_undo, cX7_undo, 2, (some .int))
def mX7_layMoves : MD := (yX7_layMoves, cX7_layMoves, 4, none)
def mX7_moves : MD := (yX7_moves, cX7_moves, 2, (some .int))
def mX7_contract : MD := (yX7_contract, cX7_contract, 2, (some .int))
def mX7_fitNow : MD := (yX7_fitNow, cX7_fitNow, 8, (some .int))
def mX7_fit : MD := (yX7_fit, cX7_fit, 3, (some .int))
def mX7_common : MD := (yX7_common, cX7_common, 4, (some .int))
def mX7_layMet : MD := (yX7_layMet, cX7_layMet, 3, none)
def mX7_deadNow : MD := (yX7_deadNow, cX7_deadNow, 2, (some .int))
def mX7_dead : MD := (yX7_dead, cX7_dead, 2, (some .int))
def mX7_deadMany : MD := (yX7_deadMany, cX7_deadMany, 3, (some .int))
def mX7_missingMany : MD := (yX7_missingMany, cX7_missingMany, 1, (some .int))
def mX7_howMany : MD := (yX7_howMany, cX7_howMany, 2, (some .int))
def mX7_count : MD := (yX7_count, cX7_count, 2, (some .int))
def mX7_mix : MD := (yX7_mix, cX7_mix, 3, none)
def mX7_mixMethod : MD := (yX7_mixMethod, cX7_mixMethod, 4, none)
def mX7_mixTypes : MD := (yX7_mixTypes, cX7_mixTypes, 3, none)
def mX7_digest : MD := (yX7_digest, cX7_digest, 3, (some .long))
def mJ6_bitCount_0f7a4 : MD := (yJ6_bitCount_0f7a4, cJ6_bitCount_0f7a4, 1, (some .int))
def mJ13_bitCount_95d88 : MD := (yJ13_bitCount_95d88, cJ13_bitCount_95d88, 2, (some .int))
end
section
def gTbl : List Cond := lw_tbl.filter goodWord
def isNest (w : Cond) : Bool := match w with
  | .fieldLinkNest .. => true
  | .methodLinkNest .. => true
  | _ => false
def nTbl : List Cond := lw_tbl.filter isNest
theorem gm (i : Nat) {w : Cond} (h : lw_tbl[i]? = some w) (hg : goodWord w = true) : w ∈ gTbl := List.mem_filter.mpr ⟨List.mem_of_getElem? h, hg⟩
theorem nm_ (i : Nat) {w : Cond} (h : lw_tbl[i]? = some w) (hg : isNest w = true) : w ∈ nTbl := List.mem_filter.mpr ⟨List.mem_of_getElem? h, hg⟩
theorem gTbl_good : ∀ w ∈ gTbl, (w.onTables && w.keeps) = true ∨ ∃ ty, w = .arrayClass ty := fun w h => good_of_word (List.mem_filter.mp h).2
theorem gTbl_sub : ∀ w ∈ gTbl, w ∈ lw_tbl := fun w h => (List.mem_filter.mp h).1
theorem nTbl_sub : ∀ w ∈ nTbl, w ∈ lw_tbl := fun w h => (List.mem_filter.mp h).1
abbrev cdw (z : MD) : Cond := .code z.1 z.2.1 z.2.2.1 z.2.2.2
/-- class ci of vwCl, with its tables -/
def clsOK (ci : Nat) (C : String) (T : u_T) (N : Nat) (ty : Nat → FieldType) : Prop :=
  vwCl[ci]? = some (C, T, N) ∧ (∀ w ∈ u_ws C T N, w ∈ gTbl) ∧ (∀ k, k < N → parseFieldDescriptor (T k).2.2.1 = some (ty k)) ∧ (∀ a, a < N → ∀ b, b < N → a ≠ b → (T a).2.1 ≠ (T b).2.1) ∧ ∀ k, k < N → (T k).1 = C
/-- the pool entry idx of own names field j of class ci -/
def FLk (own : String) (idx ci j : Nat) : Prop := ∃ (C : String) (T : u_T) (N : Nat) (ty : Nat → FieldType), clsOK ci C T N ty ∧ j < N ∧ (Cond.fieldLink own idx C (T j).2.1 (T j).2.2.1 ∈ gTbl ∨ ∃ host, Cond.fieldLinkNest own idx C (T j).2.1 (T j).2.2.1 host ∈ nTbl)
def MLk (own : String) (idx : Nat) (z : MD) (n : Nat) : Prop := cdw z ∈ gTbl ∧ Cond.initialized z.1.cls ∈ gTbl ∧ (Cond.methodLink own idx z.1 ∈ gTbl ∨ ∃ host, Cond.methodLinkNest own idx z.1 host ∈ nTbl) ∧ z.1.cls ≠ "java/lang/invoke/MethodHandle" ∧ z.1.cls ≠ "java/lang/invoke/VarHandle" ∧ (parseMethodDescriptor z.1.desc).map (fun d => d.parameters.length) = some n
def MLkV (own : String) (idx : Nat) (z : MD) (n : Nat) : Prop := MLk own idx z n ∧ Cond.instanceMethod z.1 ∈ gTbl ∧ Cond.selects z.1.cls z.1 z.1 ∈ gTbl
def MLkS (own : String) (idx : Nat) (z : MD) (n : Nat) : Prop := MLk own idx z n ∧ Cond.static z.1 ∈ gTbl
theorem layX0 : ∀ w ∈ u_ws RX0 TX0 14, w ∈ gTbl := by
  show ∀ w ∈ ([u_lay RX0 TX0 0, u_lay RX0 TX0 1, u_lay RX0 TX0 2, u_lay RX0 TX0 3, u_lay RX0 TX0 4, u_lay RX0 TX0 5, u_lay RX0 TX0 6, u_lay RX0 TX0 7, u_lay RX0 TX0 8, u_lay RX0 TX0 9, u_lay RX0 TX0 10, u_lay RX0 TX0 11, u_lay RX0 TX0 12, u_lay RX0 TX0 13] : List Cond), w ∈ gTbl
  simp only [List.forall_mem_cons, List.not_mem_nil, false_imp_iff, implies_true, and_true]
  exact ⟨gm 288 (by decide +kernel) rfl, gm 290 (by decide +kernel) rfl, gm 292 (by decide +kernel) rfl, gm 294 (by decide +kernel) rfl, gm 296 (by decide +kernel) rfl, gm 298 (by decide +kernel) rfl, gm 300 (by decide +kernel) rfl, gm 302 (by decide +kernel) rfl, gm 304 (by decide +kernel) rfl, gm 306 (by decide +kernel) rfl, gm 308 (by decide +kernel) rfl, gm 310 (by decide +kernel) rfl, gm 312 (by decide +kernel) rfl, gm 314 (by decide +kernel) rfl⟩
theorem clsX0 : clsOK 0 RX0 TX0 14 tyX0 := ⟨rfl, layX0, tyX0_ok, nmX0, by decide +kernel⟩
theorem layX1 : ∀ w ∈ u_ws RX1 TX1 2, w ∈ gTbl := by
  show ∀ w ∈ ([u_lay RX1 TX1 0, u_lay RX1 TX1 1] : List Cond), w ∈ gTbl
  simp only [List.forall_mem_cons, List.not_mem_nil, false_imp_iff, implies_true, and_true]
  exact ⟨gm 106 (by decide +kernel) rfl, gm 108 (by decide +kernel) rfl⟩
theorem clsX1 : clsOK 1 RX1 TX1 2 tyX1 := ⟨rfl, layX1, tyX1_ok, nmX1, by decide +kernel⟩
theorem layX2 : ∀ w ∈ u_ws RX2 TX2 9, w ∈ gTbl := by
  show ∀ w ∈ ([u_lay RX2 TX2 0, u_lay RX2 TX2 1, u_lay RX2 TX2 2, u_lay RX2 TX2 3, u_lay RX2 TX2 4, u_lay RX2 TX2 5, u_lay RX2 TX2 6, u_lay RX2 TX2 7, u_lay RX2 TX2 8] : List Cond), w ∈ gTbl
  simp only [List.forall_mem_cons, List.not_mem_nil, false_imp_iff, implies_true, and_true]
  exact ⟨gm 130 (by decide +kernel) rfl, gm 132 (by decide +kernel) rfl, gm 134 (by decide +kernel) rfl, gm 136 (by decide +kernel) rfl, gm 138 (by decide +kernel) rfl, gm 140 (by decide +kernel) rfl, gm 142 (by decide +kernel) rfl, gm 144 (by decide +kernel) rfl, gm 146 (by decide +kernel) rfl⟩
theorem clsX2 : clsOK 2 RX2 TX2 9 tyX2 := ⟨rfl, layX2, tyX2_ok, nmX2, by decide +kernel⟩
theorem layX3 : ∀ w ∈ u_ws RX3 TX3 8, w ∈ gTbl := by
  show ∀ w ∈ ([u_lay RX3 TX3 0, u_lay RX3 TX3 1, u_lay RX3 TX3 2, u_lay RX3 TX3 3, u_lay RX3 TX3 4, u_lay RX3 TX3 5, u_lay RX3 TX3 6, u_lay RX3 TX3 7] : List Cond), w ∈ gTbl
  simp only [List.forall_mem_cons, List.not_mem_nil, false_imp_iff, implies_true, and_true]
  exact ⟨gm 244 (by decide +kernel) rfl, gm 246 (by decide +kernel) rfl, gm 248 (by decide +kernel) rfl, gm 250 (by decide +kernel) rfl, gm 252 (by decide +kernel) rfl, gm 254 (by decide +kernel) rfl, gm 256 (by decide +kernel) rfl, gm 258 (by decide +kernel) rfl⟩
theorem clsX3 : clsOK 3 RX3 TX3 8 tyX3 := ⟨rfl, layX3, tyX3_ok, nmX3, by decide +kernel⟩
theorem layX4 : ∀ w ∈ u_ws RX4 TX4 9, w ∈ gTbl := by
  show ∀ w ∈ ([u_lay RX4 TX4 0, u_lay RX4 TX4 1, u_lay RX4 TX4 2, u_lay RX4 TX4 3, u_lay RX4 TX4 4, u_lay RX4 TX4 5, u_lay RX4 TX4 6, u_lay RX4 TX4 7, u_lay RX4 TX4 8] : List Cond), w ∈ gTbl
  simp only [List.forall_mem_cons, List.not_mem_nil, false_imp_iff, implies_true, and_true]
  exact ⟨gm 210 (by decide +kernel) rfl, gm 212 (by decide +kernel) rfl, gm 214 (by decide +kernel) rfl, gm 216 (by decide +kernel) rfl, gm 218 (by decide +kernel) rfl, gm 220 (by decide +kernel) rfl, gm 222 (by decide +kernel) rfl, gm 224 (by decide +kernel) rfl, gm 226 (by decide +kernel) rfl⟩
theorem clsX4 : clsOK 4 RX4 TX4 9 tyX4 := ⟨rfl, layX4, tyX4_ok, nmX4, by decide +kernel⟩
theorem layX5 : ∀ w ∈ u_ws RX5 TX5 10, w ∈ gTbl := by
  show ∀ w ∈ ([u_lay RX5 TX5 0, u_lay RX5 TX5 1, u_lay RX5 TX5 2, u_lay RX5 TX5 3, u_lay RX5 TX5 4, u_lay RX5 TX5 5, u_lay RX5 TX5 6, u_lay RX5 TX5 7, u_lay RX5 TX5 8, u_lay RX5 TX5 9] : List Cond), w ∈ gTbl
  simp only [List.forall_mem_cons, List.not_mem_nil, false_imp_iff, implies_true, and_true]
  exact ⟨gm 171 (by decide +kernel) rfl, gm 173 (by decide +kernel) rfl, gm 175 (by decide +kernel) rfl, gm 177 (by decide +kernel) rfl, gm 179 (by decide +kernel) rfl, gm 181 (by decide +kernel) rfl, gm 183 (by decide +kernel) rfl, gm 185 (by decide +kernel) rfl, gm 187 (by decide +kernel) rfl, gm 189 (by decide +kernel) rfl⟩
theorem clsX5 : clsOK 5 RX5 TX5 10 tyX5 := ⟨rfl, layX5, tyX5_ok, nmX5, by decide +kernel⟩
theorem layX6 : ∀ w ∈ u_ws RX6 TX6 7, w ∈ gTbl := by
  show ∀ w ∈ ([u_lay RX6 TX6 0, u_lay RX6 TX6 1, u_lay RX6 TX6 2, u_lay RX6 TX6 3, u_lay RX6 TX6 4, u_lay RX6 TX6 5, u_lay RX6 TX6 6] : List Cond), w ∈ gTbl
  simp only [List.forall_mem_cons, List.not_mem_nil, false_imp_iff, implies_true, and_true]
  exact ⟨gm 324 (by decide +kernel) rfl, gm 326 (by decide +kernel) rfl, gm 328 (by decide +kernel) rfl, gm 330 (by decide +kernel) rfl, gm 332 (by decide +kernel) rfl, gm 334 (by decide +kernel) rfl, gm 336 (by decide +kernel) rfl⟩
theorem clsX6 : clsOK 6 RX6 TX6 7 tyX6 := ⟨rfl, layX6, tyX6_ok, nmX6, by decide +kernel⟩
theorem layX7 : ∀ w ∈ u_ws RX7 TX7 45, w ∈ gTbl := by
  show ∀ w ∈ ([u_lay RX7 TX7 0, u_lay RX7 TX7 1, u_lay RX7 TX7 2, u_lay RX7 TX7 3, u_lay RX7 TX7 4, u_lay RX7 TX7 5, u_lay RX7 TX7 6, u_lay RX7 TX7 7, u_lay RX7 TX7 8, u_lay RX7 TX7 9, u_lay RX7 TX7 10, u_lay RX7 TX7 11, u_lay RX7 TX7 12, u_lay RX7 TX7 13, u_lay RX7 TX7 14, u_lay RX7 TX7 15, u_lay RX7 TX7 16, u_lay RX7 TX7 17, u_lay RX7 TX7 18, u_lay RX7 TX7 19, u_lay RX7 TX7 20, u_lay RX7 TX7 21, u_lay RX7 TX7 22, u_lay RX7 TX7 23, u_lay RX7 TX7 24, u_lay RX7 TX7 25, u_lay RX7 TX7 26, u_lay RX7 TX7 27, u_lay RX7 TX7 28, u_lay RX7 TX7 29, u_lay RX7 TX7 30, u_lay RX7 TX7 31, u_lay RX7 TX7 32, u_lay RX7 TX7 33, u_lay RX7 TX7 34, u_lay RX7 TX7 35, u_lay RX7 TX7 36, u_lay RX7 TX7 37, u_lay RX7 TX7 38, u_lay RX7 TX7 39, u_lay RX7 TX7 40, u_lay RX7 TX7 41, u_lay RX7 TX7 42, u_lay RX7 TX7 43, u_lay RX7 TX7 44] : List Cond), w ∈ gTbl
  simp only [List.forall_mem_cons, List.not_mem_nil, false_imp_iff, implies_true, and_true]
  exact ⟨gm 844 (by decide +kernel) rfl, gm 846 (by decide +kernel) rfl, gm 848 (by decide +kernel) rfl, gm 850 (by decide +kernel) rfl, gm 852 (by decide +kernel) rfl, gm 854 (by decide +kernel) rfl, gm 856 (by decide +kernel) rfl, gm 858 (by decide +kernel) rfl, gm 860 (by decide +kernel) rfl, gm 862 (by decide +kernel) rfl, gm 864 (by decide +kernel) rfl, gm 866 (by decide +kernel) rfl, gm 868 (by decide +kernel) rfl, gm 870 (by decide +kernel) rfl, gm 872 (by decide +kernel) rfl, gm 874 (by decide +kernel) rfl, gm 876 (by decide +kernel) rfl, gm 878 (by decide +kernel) rfl, gm 880 (by decide +kernel) rfl, gm 882 (by decide +kernel) rfl, gm 884 (by decide +kernel) rfl, gm 886 (by decide +kernel) rfl, gm 888 (by decide +kernel) rfl, gm 890 (by decide +kernel) rfl, gm 892 (by decide +kernel) rfl, gm 894 (by decide +kernel) rfl, gm 896 (by decide +kernel) rfl, gm 898 (by decide +kernel) rfl, gm 900 (by decide +kernel) rfl, gm 902 (by decide +kernel) rfl, gm 904 (by decide +kernel) rfl, gm 906 (by decide +kernel) rfl, gm 908 (by decide +kernel) rfl, gm 910 (by decide +kernel) rfl, gm 912 (by decide +kernel) rfl, gm 914 (by decide +kernel) rfl, gm 916 (by decide +kernel) rfl, gm 918 (by decide +kernel) rfl, gm 920 (by decide +kernel) rfl, gm 922 (by decide +kernel) rfl, gm 924 (by decide +kernel) rfl, gm 926 (by decide +kernel) rfl, gm 928 (by decide +kernel) rfl, gm 930 (by decide +kernel) rfl, gm 932 (by decide +kernel) rfl⟩
theorem clsX7 : clsOK 7 RX7 TX7 45 tyX7 := ⟨rfl, layX7, tyX7_ok, nmX7, by decide +kernel⟩
theorem lkF_X1_9 : FLk RX1 9 1 0 := ⟨RX1, TX1, 2, tyX1, clsX1, by decide, Or.inl (gm 102 (by decide +kernel) rfl)⟩
theorem lkF_X1_15 : FLk RX1 15 1 1 := ⟨RX1, TX1, 2, tyX1, clsX1, by decide, Or.inl (gm 103 (by decide +kernel) rfl)⟩
theorem lkF_X2_25 : FLk RX2 25 1 1 := ⟨RX1, TX1, 2, tyX1, clsX1, by decide, Or.inr ⟨"MovedMembers", nm_ 104 (by decide +kernel) rfl⟩⟩
theorem lkF_X6_65 : FLk RX6 65 1 1 := ⟨RX1, TX1, 2, tyX1, clsX1, by decide, Or.inr ⟨"MovedMembers", nm_ 105 (by decide +kernel) rfl⟩⟩
theorem lkF_X2_9 : FLk RX2 9 2 0 := ⟨RX2, TX2, 9, tyX2, clsX2, by decide, Or.inl (gm 118 (by decide +kernel) rfl)⟩
theorem lkF_X2_15 : FLk RX2 15 2 1 := ⟨RX2, TX2, 9, tyX2, clsX2, by decide, Or.inl (gm 119 (by decide +kernel) rfl)⟩
theorem lkF_X2_18 : FLk RX2 18 2 2 := ⟨RX2, TX2, 9, tyX2, clsX2, by decide, Or.inl (gm 120 (by decide +kernel) rfl)⟩
theorem lkF_X2_39 : FLk RX2 39 2 3 := ⟨RX2, TX2, 9, tyX2, clsX2, by decide, Or.inl (gm 121 (by decide +kernel) rfl)⟩
theorem lkF_X2_56 : FLk RX2 56 2 4 := ⟨RX2, TX2, 9, tyX2, clsX2, by decide, Or.inl (gm 122 (by decide +kernel) rfl)⟩
theorem lkF_X2_59 : FLk RX2 59 2 5 := ⟨RX2, TX2, 9, tyX2, clsX2, by decide, Or.inl (gm 123 (by decide +kernel) rfl)⟩
theorem lkF_X5_71 : FLk RX5 71 2 5 := ⟨RX2, TX2, 9, tyX2, clsX2, by decide, Or.inr ⟨"MovedMembers", nm_ 124 (by decide +kernel) rfl⟩⟩
theorem lkF_X2_50 : FLk RX2 50 2 6 := ⟨RX2, TX2, 9, tyX2, clsX2, by decide, Or.inl (gm 125 (by decide +kernel) rfl)⟩
theorem lkF_X5_78 : FLk RX5 78 2 6 := ⟨RX2, TX2, 9, tyX2, clsX2, by decide, Or.inr ⟨"MovedMembers", nm_ 126 (by decide +kernel) rfl⟩⟩
theorem lkF_X2_42 : FLk RX2 42 2 7 := ⟨RX2, TX2, 9, tyX2, clsX2, by decide, Or.inl (gm 127 (by decide +kernel) rfl)⟩
theorem lkF_X2_62 : FLk RX2 62 2 8 := ⟨RX2, TX2, 9, tyX2, clsX2, by decide, Or.inl (gm 128 (by decide +kernel) rfl)⟩
theorem lkF_X5_84 : FLk RX5 84 2 8 := ⟨RX2, TX2, 9, tyX2, clsX2, by decide, Or.inr ⟨"MovedMembers", nm_ 129 (by decide +kernel) rfl⟩⟩
theorem lkF_X5_9 : FLk RX5 9 5 0 := ⟨RX5, TX5, 10, tyX5, clsX5, by decide, Or.inl (gm 155 (by decide +kernel) rfl)⟩
theorem lkF_X5_15 : FLk RX5 15 5 1 := ⟨RX5, TX5, 10, tyX5, clsX5, by decide, Or.inl (gm 156 (by decide +kernel) rfl)⟩
theorem lkF_X5_19 : FLk RX5 19 5 2 := ⟨RX5, TX5, 10, tyX5, clsX5, by decide, Or.inl (gm 157 (by decide +kernel) rfl)⟩
theorem lkF_X5_22 : FLk RX5 22 5 3 := ⟨RX5, TX5, 10, tyX5, clsX5, by decide, Or.inl (gm 158 (by decide +kernel) rfl)⟩
theorem lkF_X5_25 : FLk RX5 25 5 4 := ⟨RX5, TX5, 10, tyX5, clsX5, by decide, Or.inl (gm 159 (by decide +kernel) rfl)⟩
theorem lkF_X5_28 : FLk RX5 28 5 5 := ⟨RX5, TX5, 10, tyX5, clsX5, by decide, Or.inl (gm 160 (by decide +kernel) rfl)⟩
theorem lkF_X5_31 : FLk RX5 31 5 6 := ⟨RX5, TX5, 10, tyX5, clsX5, by decide, Or.inl (gm 161 (by decide +kernel) rfl)⟩
theorem lkF_X5_34 : FLk RX5 34 5 7 := ⟨RX5, TX5, 10, tyX5, clsX5, by decide, Or.inl (gm 162 (by decide +kernel) rfl)⟩
theorem lkF_X3_43 : FLk RX3 43 5 7 := ⟨RX5, TX5, 10, tyX5, clsX5, by decide, Or.inr ⟨"MovedMembers", nm_ 163 (by decide +kernel) rfl⟩⟩
theorem lkF_X6_71 : FLk RX6 71 5 7 := ⟨RX5, TX5, 10, tyX5, clsX5, by decide, Or.inr ⟨"MovedMembers", nm_ 164 (by decide +kernel) rfl⟩⟩
theorem lkF_X0_97 : FLk RX0 97 5 7 := ⟨RX5, TX5, 10, tyX5, clsX5, by decide, Or.inr ⟨"MovedMembers", nm_ 165 (by decide +kernel) rfl⟩⟩
theorem lkF_X5_38 : FLk RX5 38 5 8 := ⟨RX5, TX5, 10, tyX5, clsX5, by decide, Or.inl (gm 166 (by decide +kernel) rfl)⟩
theorem lkF_X6_196 : FLk RX6 196 5 8 := ⟨RX5, TX5, 10, tyX5, clsX5, by decide, Or.inr ⟨"MovedMembers", nm_ 167 (by decide +kernel) rfl⟩⟩
theorem lkF_X5_41 : FLk RX5 41 5 9 := ⟨RX5, TX5, 10, tyX5, clsX5, by decide, Or.inl (gm 168 (by decide +kernel) rfl)⟩
theorem lkF_X3_33 : FLk RX3 33 5 9 := ⟨RX5, TX5, 10, tyX5, clsX5, by decide, Or.inr ⟨"MovedMembers", nm_ 169 (by decide +kernel) rfl⟩⟩
theorem lkF_X0_87 : FLk RX0 87 5 9 := ⟨RX5, TX5, 10, tyX5, clsX5, by decide, Or.inr ⟨"MovedMembers", nm_ 170 (by decide +kernel) rfl⟩⟩
theorem lkF_X4_24 : FLk RX4 24 4 0 := ⟨RX4, TX4, 9, tyX4, clsX4, by decide, Or.inl (gm 199 (by decide +kernel) rfl)⟩
theorem lkF_X4_9 : FLk RX4 9 4 1 := ⟨RX4, TX4, 9, tyX4, clsX4, by decide, Or.inl (gm 200 (by decide +kernel) rfl)⟩
theorem lkF_X4_15 : FLk RX4 15 4 2 := ⟨RX4, TX4, 9, tyX4, clsX4, by decide, Or.inl (gm 201 (by decide +kernel) rfl)⟩
theorem lkF_X4_18 : FLk RX4 18 4 3 := ⟨RX4, TX4, 9, tyX4, clsX4, by decide, Or.inl (gm 202 (by decide +kernel) rfl)⟩
theorem lkF_X4_21 : FLk RX4 21 4 4 := ⟨RX4, TX4, 9, tyX4, clsX4, by decide, Or.inl (gm 203 (by decide +kernel) rfl)⟩
theorem lkF_X4_32 : FLk RX4 32 4 5 := ⟨RX4, TX4, 9, tyX4, clsX4, by decide, Or.inl (gm 204 (by decide +kernel) rfl)⟩
theorem lkF_X4_28 : FLk RX4 28 4 6 := ⟨RX4, TX4, 9, tyX4, clsX4, by decide, Or.inl (gm 205 (by decide +kernel) rfl)⟩
theorem lkF_X4_36 : FLk RX4 36 4 7 := ⟨RX4, TX4, 9, tyX4, clsX4, by decide, Or.inl (gm 206 (by decide +kernel) rfl)⟩
theorem lkF_X3_66 : FLk RX3 66 4 7 := ⟨RX4, TX4, 9, tyX4, clsX4, by decide, Or.inr ⟨"MovedMembers", nm_ 207 (by decide +kernel) rfl⟩⟩
theorem lkF_X4_39 : FLk RX4 39 4 8 := ⟨RX4, TX4, 9, tyX4, clsX4, by decide, Or.inl (gm 208 (by decide +kernel) rfl)⟩
theorem lkF_X3_69 : FLk RX3 69 4 8 := ⟨RX4, TX4, 9, tyX4, clsX4, by decide, Or.inr ⟨"MovedMembers", nm_ 209 (by decide +kernel) rfl⟩⟩
theorem lkF_X3_25 : FLk RX3 25 3 0 := ⟨RX3, TX3, 8, tyX3, clsX3, by decide, Or.inl (gm 235 (by decide +kernel) rfl)⟩
theorem lkF_X3_29 : FLk RX3 29 3 1 := ⟨RX3, TX3, 8, tyX3, clsX3, by decide, Or.inl (gm 236 (by decide +kernel) rfl)⟩
theorem lkF_X3_9 : FLk RX3 9 3 2 := ⟨RX3, TX3, 8, tyX3, clsX3, by decide, Or.inl (gm 237 (by decide +kernel) rfl)⟩
theorem lkF_X3_15 : FLk RX3 15 3 3 := ⟨RX3, TX3, 8, tyX3, clsX3, by decide, Or.inl (gm 238 (by decide +kernel) rfl)⟩
theorem lkF_X3_18 : FLk RX3 18 3 4 := ⟨RX3, TX3, 8, tyX3, clsX3, by decide, Or.inl (gm 239 (by decide +kernel) rfl)⟩
theorem lkF_X3_36 : FLk RX3 36 3 5 := ⟨RX3, TX3, 8, tyX3, clsX3, by decide, Or.inl (gm 240 (by decide +kernel) rfl)⟩
theorem lkF_X3_40 : FLk RX3 40 3 6 := ⟨RX3, TX3, 8, tyX3, clsX3, by decide, Or.inl (gm 241 (by decide +kernel) rfl)⟩
theorem lkF_X6_209 : FLk RX6 209 3 6 := ⟨RX3, TX3, 8, tyX3, clsX3, by decide, Or.inr ⟨"MovedMembers", nm_ 242 (by decide +kernel) rfl⟩⟩
theorem lkF_X3_21 : FLk RX3 21 3 7 := ⟨RX3, TX3, 8, tyX3, clsX3, by decide, Or.inl (gm 243 (by decide +kernel) rfl)⟩
theorem lkF_X0_37 : FLk RX0 37 0 0 := ⟨RX0, TX0, 14, tyX0, clsX0, by decide, Or.inl (gm 267 (by decide +kernel) rfl)⟩
theorem lkF_X0_41 : FLk RX0 41 0 1 := ⟨RX0, TX0, 14, tyX0, clsX0, by decide, Or.inl (gm 268 (by decide +kernel) rfl)⟩
theorem lkF_X0_45 : FLk RX0 45 0 2 := ⟨RX0, TX0, 14, tyX0, clsX0, by decide, Or.inl (gm 269 (by decide +kernel) rfl)⟩
theorem lkF_X0_11 : FLk RX0 11 0 3 := ⟨RX0, TX0, 14, tyX0, clsX0, by decide, Or.inl (gm 270 (by decide +kernel) rfl)⟩
theorem lkF_X0_15 : FLk RX0 15 0 4 := ⟨RX0, TX0, 14, tyX0, clsX0, by decide, Or.inl (gm 271 (by decide +kernel) rfl)⟩
theorem lkF_X0_18 : FLk RX0 18 0 5 := ⟨RX0, TX0, 14, tyX0, clsX0, by decide, Or.inl (gm 272 (by decide +kernel) rfl)⟩
theorem lkF_X0_21 : FLk RX0 21 0 6 := ⟨RX0, TX0, 14, tyX0, clsX0, by decide, Or.inl (gm 273 (by decide +kernel) rfl)⟩
theorem lkF_X6_171 : FLk RX6 171 0 6 := ⟨RX0, TX0, 14, tyX0, clsX0, by decide, Or.inr ⟨"MovedMembers", nm_ 274 (by decide +kernel) rfl⟩⟩
theorem lkF_X0_25 : FLk RX0 25 0 7 := ⟨RX0, TX0, 14, tyX0, clsX0, by decide, Or.inl (gm 275 (by decide +kernel) rfl)⟩
theorem lkF_X6_199 : FLk RX6 199 0 7 := ⟨RX0, TX0, 14, tyX0, clsX0, by decide, Or.inr ⟨"MovedMembers", nm_ 276 (by decide +kernel) rfl⟩⟩
theorem lkF_X0_28 : FLk RX0 28 0 8 := ⟨RX0, TX0, 14, tyX0, clsX0, by decide, Or.inl (gm 277 (by decide +kernel) rfl)⟩
theorem lkF_X6_202 : FLk RX6 202 0 8 := ⟨RX0, TX0, 14, tyX0, clsX0, by decide, Or.inr ⟨"MovedMembers", nm_ 278 (by decide +kernel) rfl⟩⟩
theorem lkF_X0_31 : FLk RX0 31 0 9 := ⟨RX0, TX0, 14, tyX0, clsX0, by decide, Or.inl (gm 279 (by decide +kernel) rfl)⟩
theorem lkF_X6_164 : FLk RX6 164 0 9 := ⟨RX0, TX0, 14, tyX0, clsX0, by decide, Or.inr ⟨"MovedMembers", nm_ 280 (by decide +kernel) rfl⟩⟩
theorem lkF_X0_88 : FLk RX0 88 0 10 := ⟨RX0, TX0, 14, tyX0, clsX0, by decide, Or.inl (gm 281 (by decide +kernel) rfl)⟩
theorem lkF_X6_178 : FLk RX6 178 0 10 := ⟨RX0, TX0, 14, tyX0, clsX0, by decide, Or.inr ⟨"MovedMembers", nm_ 282 (by decide +kernel) rfl⟩⟩
theorem lkF_X0_91 : FLk RX0 91 0 11 := ⟨RX0, TX0, 14, tyX0, clsX0, by decide, Or.inl (gm 283 (by decide +kernel) rfl)⟩
theorem lkF_X6_181 : FLk RX6 181 0 11 := ⟨RX0, TX0, 14, tyX0, clsX0, by decide, Or.inr ⟨"MovedMembers", nm_ 284 (by decide +kernel) rfl⟩⟩
theorem lkF_X0_94 : FLk RX0 94 0 12 := ⟨RX0, TX0, 14, tyX0, clsX0, by decide, Or.inl (gm 285 (by decide +kernel) rfl)⟩
theorem lkF_X6_184 : FLk RX6 184 0 12 := ⟨RX0, TX0, 14, tyX0, clsX0, by decide, Or.inr ⟨"MovedMembers", nm_ 286 (by decide +kernel) rfl⟩⟩
theorem lkF_X0_34 : FLk RX0 34 0 13 := ⟨RX0, TX0, 14, tyX0, clsX0, by decide, Or.inl (gm 287 (by decide +kernel) rfl)⟩
theorem lkF_X6_10 : FLk RX6 10 6 0 := ⟨RX6, TX6, 7, tyX6, clsX6, by decide, Or.inl (gm 317 (by decide +kernel) rfl)⟩
theorem lkF_X6_19 : FLk RX6 19 6 1 := ⟨RX6, TX6, 7, tyX6, clsX6, by decide, Or.inl (gm 318 (by decide +kernel) rfl)⟩
theorem lkF_X6_26 : FLk RX6 26 6 2 := ⟨RX6, TX6, 7, tyX6, clsX6, by decide, Or.inl (gm 319 (by decide +kernel) rfl)⟩
theorem lkF_X6_40 : FLk RX6 40 6 3 := ⟨RX6, TX6, 7, tyX6, clsX6, by decide, Or.inl (gm 320 (by decide +kernel) rfl)⟩
theorem lkF_X6_49 : FLk RX6 49 6 4 := ⟨RX6, TX6, 7, tyX6, clsX6, by decide, Or.inl (gm 321 (by decide +kernel) rfl)⟩
theorem lkF_X6_53 : FLk RX6 53 6 5 := ⟨RX6, TX6, 7, tyX6, clsX6, by decide, Or.inl (gm 322 (by decide +kernel) rfl)⟩
theorem lkF_X6_57 : FLk RX6 57 6 6 := ⟨RX6, TX6, 7, tyX6, clsX6, by decide, Or.inl (gm 323 (by decide +kernel) rfl)⟩
theorem lkF_X7_81 : FLk RX7 81 7 0 := ⟨RX7, TX7, 45, tyX7, clsX7, by decide, Or.inl (gm 799 (by decide +kernel) rfl)⟩
theorem lkF_X7_7 : FLk RX7 7 7 1 := ⟨RX7, TX7, 45, tyX7, clsX7, by decide, Or.inl (gm 800 (by decide +kernel) rfl)⟩
theorem lkF_X7_112 : FLk RX7 112 7 2 := ⟨RX7, TX7, 45, tyX7, clsX7, by decide, Or.inl (gm 801 (by decide +kernel) rfl)⟩
theorem lkF_X7_13 : FLk RX7 13 7 3 := ⟨RX7, TX7, 45, tyX7, clsX7, by decide, Or.inl (gm 802 (by decide +kernel) rfl)⟩
theorem lkF_X7_16 : FLk RX7 16 7 4 := ⟨RX7, TX7, 45, tyX7, clsX7, by decide, Or.inl (gm 803 (by decide +kernel) rfl)⟩
theorem lkF_X7_20 : FLk RX7 20 7 5 := ⟨RX7, TX7, 45, tyX7, clsX7, by decide, Or.inl (gm 804 (by decide +kernel) rfl)⟩
theorem lkF_X7_23 : FLk RX7 23 7 6 := ⟨RX7, TX7, 45, tyX7, clsX7, by decide, Or.inl (gm 805 (by decide +kernel) rfl)⟩
theorem lkF_X7_140 : FLk RX7 140 7 7 := ⟨RX7, TX7, 45, tyX7, clsX7, by decide, Or.inl (gm 806 (by decide +kernel) rfl)⟩
theorem lkF_X7_134 : FLk RX7 134 7 8 := ⟨RX7, TX7, 45, tyX7, clsX7, by decide, Or.inl (gm 807 (by decide +kernel) rfl)⟩
theorem lkF_X7_26 : FLk RX7 26 7 9 := ⟨RX7, TX7, 45, tyX7, clsX7, by decide, Or.inl (gm 808 (by decide +kernel) rfl)⟩
theorem lkF_X7_29 : FLk RX7 29 7 10 := ⟨RX7, TX7, 45, tyX7, clsX7, by decide, Or.inl (gm 809 (by decide +kernel) rfl)⟩
theorem lkF_X7_32 : FLk RX7 32 7 11 := ⟨RX7, TX7, 45, tyX7, clsX7, by decide, Or.inl (gm 810 (by decide +kernel) rfl)⟩
theorem lkF_X7_137 : FLk RX7 137 7 12 := ⟨RX7, TX7, 45, tyX7, clsX7, by decide, Or.inl (gm 811 (by decide +kernel) rfl)⟩
theorem lkF_X7_35 : FLk RX7 35 7 13 := ⟨RX7, TX7, 45, tyX7, clsX7, by decide, Or.inl (gm 812 (by decide +kernel) rfl)⟩
theorem lkF_X7_38 : FLk RX7 38 7 14 := ⟨RX7, TX7, 45, tyX7, clsX7, by decide, Or.inl (gm 813 (by decide +kernel) rfl)⟩
theorem lkF_X7_268 : FLk RX7 268 7 15 := ⟨RX7, TX7, 45, tyX7, clsX7, by decide, Or.inl (gm 814 (by decide +kernel) rfl)⟩
theorem lkF_X7_41 : FLk RX7 41 7 16 := ⟨RX7, TX7, 45, tyX7, clsX7, by decide, Or.inl (gm 815 (by decide +kernel) rfl)⟩
theorem lkF_X7_250 : FLk RX7 250 7 17 := ⟨RX7, TX7, 45, tyX7, clsX7, by decide, Or.inl (gm 816 (by decide +kernel) rfl)⟩
theorem lkF_X7_253 : FLk RX7 253 7 18 := ⟨RX7, TX7, 45, tyX7, clsX7, by decide, Or.inl (gm 817 (by decide +kernel) rfl)⟩
theorem lkF_X7_96 : FLk RX7 96 7 19 := ⟨RX7, TX7, 45, tyX7, clsX7, by decide, Or.inl (gm 818 (by decide +kernel) rfl)⟩
theorem lkF_X7_115 : FLk RX7 115 7 20 := ⟨RX7, TX7, 45, tyX7, clsX7, by decide, Or.inl (gm 819 (by decide +kernel) rfl)⟩
theorem lkF_X7_89 : FLk RX7 89 7 21 := ⟨RX7, TX7, 45, tyX7, clsX7, by decide, Or.inl (gm 820 (by decide +kernel) rfl)⟩
theorem lkF_X7_105 : FLk RX7 105 7 22 := ⟨RX7, TX7, 45, tyX7, clsX7, by decide, Or.inl (gm 821 (by decide +kernel) rfl)⟩
theorem lkF_X7_99 : FLk RX7 99 7 23 := ⟨RX7, TX7, 45, tyX7, clsX7, by decide, Or.inl (gm 822 (by decide +kernel) rfl)⟩
theorem lkF_X7_44 : FLk RX7 44 7 24 := ⟨RX7, TX7, 45, tyX7, clsX7, by decide, Or.inl (gm 823 (by decide +kernel) rfl)⟩
theorem lkF_X7_47 : FLk RX7 47 7 25 := ⟨RX7, TX7, 45, tyX7, clsX7, by decide, Or.inl (gm 824 (by decide +kernel) rfl)⟩
theorem lkF_X7_50 : FLk RX7 50 7 26 := ⟨RX7, TX7, 45, tyX7, clsX7, by decide, Or.inl (gm 825 (by decide +kernel) rfl)⟩
theorem lkF_X7_102 : FLk RX7 102 7 27 := ⟨RX7, TX7, 45, tyX7, clsX7, by decide, Or.inl (gm 826 (by decide +kernel) rfl)⟩
theorem lkF_X7_185 : FLk RX7 185 7 28 := ⟨RX7, TX7, 45, tyX7, clsX7, by decide, Or.inl (gm 827 (by decide +kernel) rfl)⟩
theorem lkF_X7_53 : FLk RX7 53 7 29 := ⟨RX7, TX7, 45, tyX7, clsX7, by decide, Or.inl (gm 828 (by decide +kernel) rfl)⟩
theorem lkF_X7_56 : FLk RX7 56 7 30 := ⟨RX7, TX7, 45, tyX7, clsX7, by decide, Or.inl (gm 829 (by decide +kernel) rfl)⟩
theorem lkF_X7_198 : FLk RX7 198 7 31 := ⟨RX7, TX7, 45, tyX7, clsX7, by decide, Or.inl (gm 830 (by decide +kernel) rfl)⟩
theorem lkF_X7_188 : FLk RX7 188 7 32 := ⟨RX7, TX7, 45, tyX7, clsX7, by decide, Or.inl (gm 831 (by decide +kernel) rfl)⟩
theorem lkF_X7_59 : FLk RX7 59 7 33 := ⟨RX7, TX7, 45, tyX7, clsX7, by decide, Or.inl (gm 832 (by decide +kernel) rfl)⟩
theorem lkF_X7_62 : FLk RX7 62 7 34 := ⟨RX7, TX7, 45, tyX7, clsX7, by decide, Or.inl (gm 833 (by decide +kernel) rfl)⟩
theorem lkF_X7_65 : FLk RX7 65 7 35 := ⟨RX7, TX7, 45, tyX7, clsX7, by decide, Or.inl (gm 834 (by decide +kernel) rfl)⟩
theorem lkF_X7_227 : FLk RX7 227 7 36 := ⟨RX7, TX7, 45, tyX7, clsX7, by decide, Or.inl (gm 835 (by decide +kernel) rfl)⟩
theorem lkF_X7_68 : FLk RX7 68 7 37 := ⟨RX7, TX7, 45, tyX7, clsX7, by decide, Or.inl (gm 836 (by decide +kernel) rfl)⟩
theorem lkF_X7_71 : FLk RX7 71 7 38 := ⟨RX7, TX7, 45, tyX7, clsX7, by decide, Or.inl (gm 837 (by decide +kernel) rfl)⟩
theorem lkF_X7_256 : FLk RX7 256 7 39 := ⟨RX7, TX7, 45, tyX7, clsX7, by decide, Or.inl (gm 838 (by decide +kernel) rfl)⟩
theorem lkF_X7_259 : FLk RX7 259 7 40 := ⟨RX7, TX7, 45, tyX7, clsX7, by decide, Or.inl (gm 839 (by decide +kernel) rfl)⟩
theorem lkF_X7_262 : FLk RX7 262 7 41 := ⟨RX7, TX7, 45, tyX7, clsX7, by decide, Or.inl (gm 840 (by decide +kernel) rfl)⟩
theorem lkF_X7_74 : FLk RX7 74 7 42 := ⟨RX7, TX7, 45, tyX7, clsX7, by decide, Or.inl (gm 841 (by decide +kernel) rfl)⟩
theorem lkF_X7_277 : FLk RX7 277 7 43 := ⟨RX7, TX7, 45, tyX7, clsX7, by decide, Or.inl (gm 842 (by decide +kernel) rfl)⟩
theorem lkF_X7_297 : FLk RX7 297 7 44 := ⟨RX7, TX7, 45, tyX7, clsX7, by decide, Or.inl (gm 843 (by decide +kernel) rfl)⟩
theorem lkM_L_13 : MLkV RL 13 mX6_letter 1 := ⟨⟨gm 342 (by decide +kernel) rfl, gm 78 (by decide +kernel) rfl, Or.inl (gm 339 (by decide +kernel) rfl), by decide +kernel, by decide +kernel, by decide +kernel⟩, gm 340 (by decide +kernel) rfl, gm 341 (by decide +kernel) rfl⟩
theorem lkM_X6_61 : MLkV RX6 61 mX1_append 1 := ⟨⟨gm 346 (by decide +kernel) rfl, gm 79 (by decide +kernel) rfl, Or.inl (gm 343 (by decide +kernel) rfl), by decide +kernel, by decide +kernel, by decide +kernel⟩, gm 344 (by decide +kernel) rfl, gm 345 (by decide +kernel) rfl⟩
theorem lkM_L_18 : MLkV RL 18 mX6_blank 0 := ⟨⟨gm 350 (by decide +kernel) rfl, gm 78 (by decide +kernel) rfl, Or.inl (gm 347 (by decide +kernel) rfl), by decide +kernel, by decide +kernel, by decide +kernel⟩, gm 348 (by decide +kernel) rfl, gm 349 (by decide +kernel) rfl⟩
theorem lkM_X6_68 : MLkV RX6 68 mX1_wipe 0 := ⟨⟨gm 354 (by decide +kernel) rfl, gm 79 (by decide +kernel) rfl, Or.inl (gm 351 (by decide +kernel) rfl), by decide +kernel, by decide +kernel, by decide +kernel⟩, gm 352 (by decide +kernel) rfl, gm 353 (by decide +kernel) rfl⟩
theorem lkM_L_23 : MLkV RL 23 mX6_fault 0 := ⟨⟨gm 358 (by decide +kernel) rfl, gm 78 (by decide +kernel) rfl, Or.inl (gm 355 (by decide +kernel) rfl), by decide +kernel, by decide +kernel, by decide +kernel⟩, gm 356 (by decide +kernel) rfl, gm 357 (by decide +kernel) rfl⟩
theorem lkM_X6_74 : MLkV RX6 74 mX2_read 2 := ⟨⟨gm 362 (by decide +kernel) rfl, gm 80 (by decide +kernel) rfl, Or.inl (gm 359 (by decide +kernel) rfl), by decide +kernel, by decide +kernel, by decide +kernel⟩, gm 360 (by decide +kernel) rfl, gm 361 (by decide +kernel) rfl⟩
theorem lkM_X2_21 : MLkV RX2 21 mX2_start 1 := ⟨⟨gm 366 (by decide +kernel) rfl, gm 80 (by decide +kernel) rfl, Or.inl (gm 363 (by decide +kernel) rfl), by decide +kernel, by decide +kernel, by decide +kernel⟩, gm 365 (by decide +kernel) rfl, gm 0 (by decide +kernel) rfl⟩
theorem lkM_X2_31 : MLkV RX2 31 mX1_codeAt 1 := ⟨⟨gm 370 (by decide +kernel) rfl, gm 79 (by decide +kernel) rfl, Or.inl (gm 367 (by decide +kernel) rfl), by decide +kernel, by decide +kernel, by decide +kernel⟩, gm 368 (by decide +kernel) rfl, gm 369 (by decide +kernel) rfl⟩
theorem lkM_X2_35 : MLkV RX2 35 mX2_take 1 := ⟨⟨gm 374 (by decide +kernel) rfl, gm 80 (by decide +kernel) rfl, Or.inl (gm 371 (by decide +kernel) rfl), by decide +kernel, by decide +kernel, by decide +kernel⟩, gm 373 (by decide +kernel) rfl, gm 1 (by decide +kernel) rfl⟩
theorem lkM_X2_65 : MLkV RX2 65 mX2_goOn 2 := ⟨⟨gm 378 (by decide +kernel) rfl, gm 80 (by decide +kernel) rfl, Or.inl (gm 375 (by decide +kernel) rfl), by decide +kernel, by decide +kernel, by decide +kernel⟩, gm 377 (by decide +kernel) rfl, gm 2 (by decide +kernel) rfl⟩
theorem lkM_X2_69 : MLkV RX2 69 mX2_takeMember 1 := ⟨⟨gm 382 (by decide +kernel) rfl, gm 80 (by decide +kernel) rfl, Or.inl (gm 379 (by decide +kernel) rfl), by decide +kernel, by decide +kernel, by decide +kernel⟩, gm 381 (by decide +kernel) rfl, gm 3 (by decide +kernel) rfl⟩
theorem lkM_X2_85 : MLkS RX2 85 mX2_memberOf 1 := ⟨⟨gm 385 (by decide +kernel) rfl, gm 80 (by decide +kernel) rfl, Or.inl (gm 383 (by decide +kernel) rfl), by decide +kernel, by decide +kernel, by decide +kernel⟩, gm 384 (by decide +kernel) rfl⟩
theorem lkM_X2_53 : MLkS RX2 53 mX6_isMember 1 := ⟨⟨gm 388 (by decide +kernel) rfl, gm 78 (by decide +kernel) rfl, Or.inr ⟨"MovedMembers", nm_ 386 (by decide +kernel) rfl⟩, by decide +kernel, by decide +kernel, by decide +kernel⟩, gm 387 (by decide +kernel) rfl⟩
theorem lkM_X2_88 : MLkS RX2 88 mX6_isMethod 1 := ⟨⟨gm 391 (by decide +kernel) rfl, gm 78 (by decide +kernel) rfl, Or.inr ⟨"MovedMembers", nm_ 389 (by decide +kernel) rfl⟩, by decide +kernel, by decide +kernel, by decide +kernel⟩, gm 390 (by decide +kernel) rfl⟩
theorem lkM_X2_72 : MLkV RX2 72 mX2_takeDash 0 := ⟨⟨gm 395 (by decide +kernel) rfl, gm 80 (by decide +kernel) rfl, Or.inl (gm 392 (by decide +kernel) rfl), by decide +kernel, by decide +kernel, by decide +kernel⟩, gm 394 (by decide +kernel) rfl, gm 4 (by decide +kernel) rfl⟩
theorem lkM_X2_91 : MLkV RX2 91 mX2_memberAt 1 := ⟨⟨gm 399 (by decide +kernel) rfl, gm 80 (by decide +kernel) rfl, Or.inl (gm 396 (by decide +kernel) rfl), by decide +kernel, by decide +kernel, by decide +kernel⟩, gm 397 (by decide +kernel) rfl, gm 398 (by decide +kernel) rfl⟩
theorem lkM_X2_76 : MLkV RX2 76 mX2_takeBehindDash 1 := ⟨⟨gm 403 (by decide +kernel) rfl, gm 80 (by decide +kernel) rfl, Or.inl (gm 400 (by decide +kernel) rfl), by decide +kernel, by decide +kernel, by decide +kernel⟩, gm 402 (by decide +kernel) rfl, gm 5 (by decide +kernel) rfl⟩
theorem lkM_X2_79 : MLkV RX2 79 mX2_takeItem 1 := ⟨⟨gm 407 (by decide +kernel) rfl, gm 80 (by decide +kernel) rfl, Or.inl (gm 404 (by decide +kernel) rfl), by decide +kernel, by decide +kernel, by decide +kernel⟩, gm 406 (by decide +kernel) rfl, gm 6 (by decide +kernel) rfl⟩
theorem lkM_X2_94 : MLkV RX2 94 mX2_itemCountOf 1 := ⟨⟨gm 411 (by decide +kernel) rfl, gm 80 (by decide +kernel) rfl, Or.inl (gm 408 (by decide +kernel) rfl), by decide +kernel, by decide +kernel, by decide +kernel⟩, gm 409 (by decide +kernel) rfl, gm 410 (by decide +kernel) rfl⟩
theorem lkM_X2_97 : MLkV RX2 97 mX2_addItem 1 := ⟨⟨gm 415 (by decide +kernel) rfl, gm 80 (by decide +kernel) rfl, Or.inl (gm 412 (by decide +kernel) rfl), by decide +kernel, by decide +kernel, by decide +kernel⟩, gm 414 (by decide +kernel) rfl, gm 7 (by decide +kernel) rfl⟩
theorem lkM_X2_82 : MLkV RX2 82 mX2_takeAsked 1 := ⟨⟨gm 419 (by decide +kernel) rfl, gm 80 (by decide +kernel) rfl, Or.inl (gm 416 (by decide +kernel) rfl), by decide +kernel, by decide +kernel, by decide +kernel⟩, gm 418 (by decide +kernel) rfl, gm 8 (by decide +kernel) rfl⟩
theorem lkM_L_27 : MLkV RL 27 mX6_type 0 := ⟨⟨gm 423 (by decide +kernel) rfl, gm 78 (by decide +kernel) rfl, Or.inl (gm 420 (by decide +kernel) rfl), by decide +kernel, by decide +kernel, by decide +kernel⟩, gm 421 (by decide +kernel) rfl, gm 422 (by decide +kernel) rfl⟩
theorem lkM_X6_78 : MLkV RX6 78 mX2_isWhole 0 := ⟨⟨gm 427 (by decide +kernel) rfl, gm 80 (by decide +kernel) rfl, Or.inl (gm 424 (by decide +kernel) rfl), by decide +kernel, by decide +kernel, by decide +kernel⟩, gm 425 (by decide +kernel) rfl, gm 426 (by decide +kernel) rfl⟩
theorem lkM_X6_82 : MLkV RX6 82 mX5_hasRoomFor 1 := ⟨⟨gm 431 (by decide +kernel) rfl, gm 81 (by decide +kernel) rfl, Or.inl (gm 428 (by decide +kernel) rfl), by decide +kernel, by decide +kernel, by decide +kernel⟩, gm 429 (by decide +kernel) rfl, gm 430 (by decide +kernel) rfl⟩
theorem lkM_X5_65 : MLkV RX5 65 mX2_methodCount 0 := ⟨⟨gm 435 (by decide +kernel) rfl, gm 80 (by decide +kernel) rfl, Or.inl (gm 432 (by decide +kernel) rfl), by decide +kernel, by decide +kernel, by decide +kernel⟩, gm 433 (by decide +kernel) rfl, gm 434 (by decide +kernel) rfl⟩
theorem lkM_X2_45 : MLkS RX2 45 mJ6_bitCount_0f7a4 1 := ⟨⟨gm 438 (by decide +kernel) rfl, gm 86 (by decide +kernel) rfl, Or.inl (gm 436 (by decide +kernel) rfl), by decide +kernel, by decide +kernel, by decide +kernel⟩, gm 437 (by decide +kernel) rfl⟩
theorem lkM_X6_86 : MLkV RX6 86 mX5_accept 1 := ⟨⟨gm 445 (by decide +kernel) rfl, gm 81 (by decide +kernel) rfl, Or.inl (gm 442 (by decide +kernel) rfl), by decide +kernel, by decide +kernel, by decide +kernel⟩, gm 443 (by decide +kernel) rfl, gm 444 (by decide +kernel) rfl⟩
theorem lkM_X5_74 : MLkV RX5 74 mX5_put 4 := ⟨⟨gm 449 (by decide +kernel) rfl, gm 81 (by decide +kernel) rfl, Or.inl (gm 446 (by decide +kernel) rfl), by decide +kernel, by decide +kernel, by decide +kernel⟩, gm 447 (by decide +kernel) rfl, gm 448 (by decide +kernel) rfl⟩
theorem lkM_X5_48 : MLkS RX5 48 mX6_isMember 1 := ⟨⟨gm 388 (by decide +kernel) rfl, gm 78 (by decide +kernel) rfl, Or.inr ⟨"MovedMembers", nm_ 450 (by decide +kernel) rfl⟩, by decide +kernel, by decide +kernel, by decide +kernel⟩, gm 387 (by decide +kernel) rfl⟩
theorem lkM_X5_81 : MLkV RX5 81 mX2_memberAt 1 := ⟨⟨gm 399 (by decide +kernel) rfl, gm 80 (by decide +kernel) rfl, Or.inl (gm 451 (by decide +kernel) rfl), by decide +kernel, by decide +kernel, by decide +kernel⟩, gm 397 (by decide +kernel) rfl, gm 398 (by decide +kernel) rfl⟩
theorem lkM_X5_86 : MLkS RX5 86 mX6_isMethod 1 := ⟨⟨gm 391 (by decide +kernel) rfl, gm 78 (by decide +kernel) rfl, Or.inr ⟨"MovedMembers", nm_ 452 (by decide +kernel) rfl⟩, by decide +kernel, by decide +kernel, by decide +kernel⟩, gm 390 (by decide +kernel) rfl⟩
theorem lkM_X5_89 : MLkV RX5 89 mX5_newBody 2 := ⟨⟨gm 456 (by decide +kernel) rfl, gm 81 (by decide +kernel) rfl, Or.inl (gm 453 (by decide +kernel) rfl), by decide +kernel, by decide +kernel, by decide +kernel⟩, gm 455 (by decide +kernel) rfl, gm 9 (by decide +kernel) rfl⟩
theorem lkM_X5_93 : MLkV RX5 93 mX2_itemCountOf 1 := ⟨⟨gm 411 (by decide +kernel) rfl, gm 80 (by decide +kernel) rfl, Or.inl (gm 457 (by decide +kernel) rfl), by decide +kernel, by decide +kernel, by decide +kernel⟩, gm 409 (by decide +kernel) rfl, gm 410 (by decide +kernel) rfl⟩
theorem lkM_X5_96 : MLkV RX5 96 mX2_itemAt 2 := ⟨⟨gm 461 (by decide +kernel) rfl, gm 80 (by decide +kernel) rfl, Or.inl (gm 458 (by decide +kernel) rfl), by decide +kernel, by decide +kernel, by decide +kernel⟩, gm 459 (by decide +kernel) rfl, gm 460 (by decide +kernel) rfl⟩
theorem lkM_X6_90 : MLkV RX6 90 mX0_forgetKept 0 := ⟨⟨gm 465 (by decide +kernel) rfl, gm 84 (by decide +kernel) rfl, Or.inl (gm 462 (by decide +kernel) rfl), by decide +kernel, by decide +kernel, by decide +kernel⟩, gm 463 (by decide +kernel) rfl, gm 464 (by decide +kernel) rfl⟩
theorem lkM_L_31 : MLkV RL 31 mX6_drop 0 := ⟨⟨gm 469 (by decide +kernel) rfl, gm 78 (by decide +kernel) rfl, Or.inl (gm 466 (by decide +kernel) rfl), by decide +kernel, by decide +kernel, by decide +kernel⟩, gm 467 (by decide +kernel) rfl, gm 468 (by decide +kernel) rfl⟩
theorem lkM_X6_93 : MLkV RX6 93 mX5_lastLiesElsewhere 0 := ⟨⟨gm 473 (by decide +kernel) rfl, gm 81 (by decide +kernel) rfl, Or.inl (gm 470 (by decide +kernel) rfl), by decide +kernel, by decide +kernel, by decide +kernel⟩, gm 471 (by decide +kernel) rfl, gm 472 (by decide +kernel) rfl⟩
theorem lkM_X5_44 : MLkV RX5 44 mX5_hasType 1 := ⟨⟨gm 477 (by decide +kernel) rfl, gm 81 (by decide +kernel) rfl, Or.inl (gm 474 (by decide +kernel) rfl), by decide +kernel, by decide +kernel, by decide +kernel⟩, gm 475 (by decide +kernel) rfl, gm 476 (by decide +kernel) rfl⟩
theorem lkM_X5_51 : MLkV RX5 51 mX5_heldBy 2 := ⟨⟨gm 481 (by decide +kernel) rfl, gm 81 (by decide +kernel) rfl, Or.inl (gm 478 (by decide +kernel) rfl), by decide +kernel, by decide +kernel, by decide +kernel⟩, gm 479 (by decide +kernel) rfl, gm 480 (by decide +kernel) rfl⟩
theorem lkM_X6_96 : MLkV RX6 96 mX5_removeLast 0 := ⟨⟨gm 485 (by decide +kernel) rfl, gm 81 (by decide +kernel) rfl, Or.inl (gm 482 (by decide +kernel) rfl), by decide +kernel, by decide +kernel, by decide +kernel⟩, gm 483 (by decide +kernel) rfl, gm 484 (by decide +kernel) rfl⟩
theorem lkM_L_35 : MLkV RL 35 mX6_hollow 2 := ⟨⟨gm 489 (by decide +kernel) rfl, gm 78 (by decide +kernel) rfl, Or.inl (gm 486 (by decide +kernel) rfl), by decide +kernel, by decide +kernel, by decide +kernel⟩, gm 487 (by decide +kernel) rfl, gm 488 (by decide +kernel) rfl⟩
theorem lkM_X6_99 : MLkV RX6 99 mX5_hasType 1 := ⟨⟨gm 477 (by decide +kernel) rfl, gm 81 (by decide +kernel) rfl, Or.inl (gm 490 (by decide +kernel) rfl), by decide +kernel, by decide +kernel, by decide +kernel⟩, gm 475 (by decide +kernel) rfl, gm 476 (by decide +kernel) rfl⟩
theorem lkM_X6_102 : MLkV RX6 102 mX5_isHollow 1 := ⟨⟨gm 494 (by decide +kernel) rfl, gm 81 (by decide +kernel) rfl, Or.inl (gm 491 (by decide +kernel) rfl), by decide +kernel, by decide +kernel, by decide +kernel⟩, gm 492 (by decide +kernel) rfl, gm 493 (by decide +kernel) rfl⟩
theorem lkM_X6_105 : MLkV RX6 105 mX5_makeHollow 2 := ⟨⟨gm 498 (by decide +kernel) rfl, gm 81 (by decide +kernel) rfl, Or.inl (gm 495 (by decide +kernel) rfl), by decide +kernel, by decide +kernel, by decide +kernel⟩, gm 496 (by decide +kernel) rfl, gm 497 (by decide +kernel) rfl⟩
theorem lkM_L_40 : MLkV RL 40 mX6_of 2 := ⟨⟨gm 502 (by decide +kernel) rfl, gm 78 (by decide +kernel) rfl, Or.inl (gm 499 (by decide +kernel) rfl), by decide +kernel, by decide +kernel, by decide +kernel⟩, gm 500 (by decide +kernel) rfl, gm 501 (by decide +kernel) rfl⟩
theorem lkM_X6_109 : MLkV RX6 109 mX5_parentOf 1 := ⟨⟨gm 506 (by decide +kernel) rfl, gm 81 (by decide +kernel) rfl, Or.inl (gm 503 (by decide +kernel) rfl), by decide +kernel, by decide +kernel, by decide +kernel⟩, gm 504 (by decide +kernel) rfl, gm 505 (by decide +kernel) rfl⟩
theorem lkM_X6_113 : MLkV RX6 113 mX5_heldBits 3 := ⟨⟨gm 510 (by decide +kernel) rfl, gm 81 (by decide +kernel) rfl, Or.inl (gm 507 (by decide +kernel) rfl), by decide +kernel, by decide +kernel, by decide +kernel⟩, gm 508 (by decide +kernel) rfl, gm 509 (by decide +kernel) rfl⟩
theorem lkM_X6_117 : MLkV RX6 117 mX5_hiddenOf 1 := ⟨⟨gm 514 (by decide +kernel) rfl, gm 81 (by decide +kernel) rfl, Or.inl (gm 511 (by decide +kernel) rfl), by decide +kernel, by decide +kernel, by decide +kernel⟩, gm 512 (by decide +kernel) rfl, gm 513 (by decide +kernel) rfl⟩
theorem lkM_X6_120 : MLkV RX6 120 mX5_answerBits 1 := ⟨⟨gm 518 (by decide +kernel) rfl, gm 81 (by decide +kernel) rfl, Or.inl (gm 515 (by decide +kernel) rfl), by decide +kernel, by decide +kernel, by decide +kernel⟩, gm 516 (by decide +kernel) rfl, gm 517 (by decide +kernel) rfl⟩
theorem lkM_X5_59 : MLkV RX5 59 mX5_nearest 2 := ⟨⟨gm 522 (by decide +kernel) rfl, gm 81 (by decide +kernel) rfl, Or.inl (gm 519 (by decide +kernel) rfl), by decide +kernel, by decide +kernel, by decide +kernel⟩, gm 520 (by decide +kernel) rfl, gm 521 (by decide +kernel) rfl⟩
theorem lkM_X6_123 : MLkV RX6 123 mX5_childBits 1 := ⟨⟨gm 526 (by decide +kernel) rfl, gm 81 (by decide +kernel) rfl, Or.inl (gm 523 (by decide +kernel) rfl), by decide +kernel, by decide +kernel, by decide +kernel⟩, gm 524 (by decide +kernel) rfl, gm 525 (by decide +kernel) rfl⟩
theorem lkM_X5_55 : MLkV RX5 55 mX5_parentOf 1 := ⟨⟨gm 506 (by decide +kernel) rfl, gm 81 (by decide +kernel) rfl, Or.inl (gm 527 (by decide +kernel) rfl), by decide +kernel, by decide +kernel, by decide +kernel⟩, gm 504 (by decide +kernel) rfl, gm 505 (by decide +kernel) rfl⟩
theorem lkM_L_45 : MLkV RL 45 mX6_has 2 := ⟨⟨gm 531 (by decide +kernel) rfl, gm 78 (by decide +kernel) rfl, Or.inl (gm 528 (by decide +kernel) rfl), by decide +kernel, by decide +kernel, by decide +kernel⟩, gm 529 (by decide +kernel) rfl, gm 530 (by decide +kernel) rfl⟩
theorem lkM_X6_126 : MLkS RX6 126 mX6_isMember 1 := ⟨⟨gm 388 (by decide +kernel) rfl, gm 78 (by decide +kernel) rfl, Or.inl (gm 532 (by decide +kernel) rfl), by decide +kernel, by decide +kernel, by decide +kernel⟩, gm 387 (by decide +kernel) rfl⟩
theorem lkM_X6_129 : MLkV RX6 129 mX5_heldBy 2 := ⟨⟨gm 481 (by decide +kernel) rfl, gm 81 (by decide +kernel) rfl, Or.inl (gm 533 (by decide +kernel) rfl), by decide +kernel, by decide +kernel, by decide +kernel⟩, gm 479 (by decide +kernel) rfl, gm 480 (by decide +kernel) rfl⟩
theorem lkM_L_49 : MLkV RL 49 mX6_answer 3 := ⟨⟨gm 537 (by decide +kernel) rfl, gm 78 (by decide +kernel) rfl, Or.inl (gm 534 (by decide +kernel) rfl), by decide +kernel, by decide +kernel, by decide +kernel⟩, gm 535 (by decide +kernel) rfl, gm 536 (by decide +kernel) rfl⟩
theorem lkM_X6_133 : MLkS RX6 133 mX6_isMethod 1 := ⟨⟨gm 391 (by decide +kernel) rfl, gm 78 (by decide +kernel) rfl, Or.inl (gm 538 (by decide +kernel) rfl), by decide +kernel, by decide +kernel, by decide +kernel⟩, gm 390 (by decide +kernel) rfl⟩
theorem lkM_X6_136 : MLkV RX6 136 mX5_nearest 2 := ⟨⟨gm 522 (by decide +kernel) rfl, gm 81 (by decide +kernel) rfl, Or.inl (gm 539 (by decide +kernel) rfl), by decide +kernel, by decide +kernel, by decide +kernel⟩, gm 520 (by decide +kernel) rfl, gm 521 (by decide +kernel) rfl⟩
theorem lkM_L_54 : MLkV RL 54 mX6_body 2 := ⟨⟨gm 543 (by decide +kernel) rfl, gm 78 (by decide +kernel) rfl, Or.inl (gm 540 (by decide +kernel) rfl), by decide +kernel, by decide +kernel, by decide +kernel⟩, gm 541 (by decide +kernel) rfl, gm 542 (by decide +kernel) rfl⟩
theorem lkM_X6_139 : MLkV RX6 139 mX5_hasBody 1 := ⟨⟨gm 547 (by decide +kernel) rfl, gm 81 (by decide +kernel) rfl, Or.inl (gm 544 (by decide +kernel) rfl), by decide +kernel, by decide +kernel, by decide +kernel⟩, gm 545 (by decide +kernel) rfl, gm 546 (by decide +kernel) rfl⟩
theorem lkM_X6_142 : MLkV RX6 142 mX5_itemCountOf 1 := ⟨⟨gm 551 (by decide +kernel) rfl, gm 81 (by decide +kernel) rfl, Or.inl (gm 548 (by decide +kernel) rfl), by decide +kernel, by decide +kernel, by decide +kernel⟩, gm 549 (by decide +kernel) rfl, gm 550 (by decide +kernel) rfl⟩
theorem lkM_X5_62 : MLkV RX5 62 mX5_hasBody 1 := ⟨⟨gm 547 (by decide +kernel) rfl, gm 81 (by decide +kernel) rfl, Or.inl (gm 552 (by decide +kernel) rfl), by decide +kernel, by decide +kernel, by decide +kernel⟩, gm 545 (by decide +kernel) rfl, gm 546 (by decide +kernel) rfl⟩
theorem lkM_X6_145 : MLkV RX6 145 mX5_itemAt 2 := ⟨⟨gm 556 (by decide +kernel) rfl, gm 81 (by decide +kernel) rfl, Or.inl (gm 553 (by decide +kernel) rfl), by decide +kernel, by decide +kernel, by decide +kernel⟩, gm 554 (by decide +kernel) rfl, gm 555 (by decide +kernel) rfl⟩
theorem lkM_L_58 : MLkV RL 58 mX6_trace 3 := ⟨⟨gm 560 (by decide +kernel) rfl, gm 78 (by decide +kernel) rfl, Or.inl (gm 557 (by decide +kernel) rfl), by decide +kernel, by decide +kernel, by decide +kernel⟩, gm 558 (by decide +kernel) rfl, gm 559 (by decide +kernel) rfl⟩
theorem lkM_X6_148 : MLkV RX6 148 mX3_refresh 0 := ⟨⟨gm 564 (by decide +kernel) rfl, gm 83 (by decide +kernel) rfl, Or.inl (gm 561 (by decide +kernel) rfl), by decide +kernel, by decide +kernel, by decide +kernel⟩, gm 562 (by decide +kernel) rfl, gm 563 (by decide +kernel) rfl⟩
theorem lkM_X3_46 : MLkV RX3 46 mX4_run 2 := ⟨⟨gm 568 (by decide +kernel) rfl, gm 82 (by decide +kernel) rfl, Or.inl (gm 565 (by decide +kernel) rfl), by decide +kernel, by decide +kernel, by decide +kernel⟩, gm 566 (by decide +kernel) rfl, gm 567 (by decide +kernel) rfl⟩
theorem lkM_X4_42 : MLkV RX4 42 mX5_nearest 2 := ⟨⟨gm 522 (by decide +kernel) rfl, gm 81 (by decide +kernel) rfl, Or.inl (gm 569 (by decide +kernel) rfl), by decide +kernel, by decide +kernel, by decide +kernel⟩, gm 520 (by decide +kernel) rfl, gm 521 (by decide +kernel) rfl⟩
theorem lkM_X4_48 : MLkV RX4 48 mX4_meet 2 := ⟨⟨gm 573 (by decide +kernel) rfl, gm 82 (by decide +kernel) rfl, Or.inl (gm 570 (by decide +kernel) rfl), by decide +kernel, by decide +kernel, by decide +kernel⟩, gm 572 (by decide +kernel) rfl, gm 10 (by decide +kernel) rfl⟩
theorem lkM_X4_80 : MLkV RX4 80 mX5_heldBy 2 := ⟨⟨gm 481 (by decide +kernel) rfl, gm 81 (by decide +kernel) rfl, Or.inl (gm 574 (by decide +kernel) rfl), by decide +kernel, by decide +kernel, by decide +kernel⟩, gm 479 (by decide +kernel) rfl, gm 480 (by decide +kernel) rfl⟩
theorem lkM_X4_83 : MLkV RX4 83 mX4_note 2 := ⟨⟨gm 578 (by decide +kernel) rfl, gm 82 (by decide +kernel) rfl, Or.inl (gm 575 (by decide +kernel) rfl), by decide +kernel, by decide +kernel, by decide +kernel⟩, gm 577 (by decide +kernel) rfl, gm 11 (by decide +kernel) rfl⟩
theorem lkM_X4_86 : MLkV RX4 86 mX4_enter 2 := ⟨⟨gm 582 (by decide +kernel) rfl, gm 82 (by decide +kernel) rfl, Or.inl (gm 579 (by decide +kernel) rfl), by decide +kernel, by decide +kernel, by decide +kernel⟩, gm 581 (by decide +kernel) rfl, gm 12 (by decide +kernel) rfl⟩
theorem lkM_X4_52 : MLkV RX4 52 mX4_nextItem 0 := ⟨⟨gm 586 (by decide +kernel) rfl, gm 82 (by decide +kernel) rfl, Or.inl (gm 583 (by decide +kernel) rfl), by decide +kernel, by decide +kernel, by decide +kernel⟩, gm 585 (by decide +kernel) rfl, gm 13 (by decide +kernel) rfl⟩
theorem lkM_X4_66 : MLkV RX4 66 mX5_itemAt 2 := ⟨⟨gm 556 (by decide +kernel) rfl, gm 81 (by decide +kernel) rfl, Or.inl (gm 587 (by decide +kernel) rfl), by decide +kernel, by decide +kernel, by decide +kernel⟩, gm 554 (by decide +kernel) rfl, gm 555 (by decide +kernel) rfl⟩
theorem lkM_X4_56 : MLkV RX4 56 mX4_leave 0 := ⟨⟨gm 591 (by decide +kernel) rfl, gm 82 (by decide +kernel) rfl, Or.inl (gm 588 (by decide +kernel) rfl), by decide +kernel, by decide +kernel, by decide +kernel⟩, gm 590 (by decide +kernel) rfl, gm 14 (by decide +kernel) rfl⟩
theorem lkM_X4_59 : MLkV RX4 59 mX4_use 1 := ⟨⟨gm 596 (by decide +kernel) rfl, gm 82 (by decide +kernel) rfl, Or.inl (gm 593 (by decide +kernel) rfl), by decide +kernel, by decide +kernel, by decide +kernel⟩, gm 595 (by decide +kernel) rfl, gm 15 (by decide +kernel) rfl⟩
theorem lkM_X4_69 : MLkV RX4 69 mX4_openHome 0 := ⟨⟨gm 600 (by decide +kernel) rfl, gm 82 (by decide +kernel) rfl, Or.inl (gm 597 (by decide +kernel) rfl), by decide +kernel, by decide +kernel, by decide +kernel⟩, gm 599 (by decide +kernel) rfl, gm 16 (by decide +kernel) rfl⟩
theorem lkM_X4_63 : MLkV RX4 63 mX4_homeFor 2 := ⟨⟨gm 604 (by decide +kernel) rfl, gm 82 (by decide +kernel) rfl, Or.inl (gm 601 (by decide +kernel) rfl), by decide +kernel, by decide +kernel, by decide +kernel⟩, gm 603 (by decide +kernel) rfl, gm 17 (by decide +kernel) rfl⟩
theorem lkM_X4_72 : MLkV RX4 72 mX5_parentOf 1 := ⟨⟨gm 506 (by decide +kernel) rfl, gm 81 (by decide +kernel) rfl, Or.inl (gm 605 (by decide +kernel) rfl), by decide +kernel, by decide +kernel, by decide +kernel⟩, gm 504 (by decide +kernel) rfl, gm 505 (by decide +kernel) rfl⟩
theorem lkM_X4_76 : MLkV RX4 76 mX5_hides 2 := ⟨⟨gm 609 (by decide +kernel) rfl, gm 81 (by decide +kernel) rfl, Or.inl (gm 606 (by decide +kernel) rfl), by decide +kernel, by decide +kernel, by decide +kernel⟩, gm 607 (by decide +kernel) rfl, gm 608 (by decide +kernel) rfl⟩
theorem lkM_X3_52 : MLkV RX3 52 mX3_store 2 := ⟨⟨gm 613 (by decide +kernel) rfl, gm 83 (by decide +kernel) rfl, Or.inl (gm 610 (by decide +kernel) rfl), by decide +kernel, by decide +kernel, by decide +kernel⟩, gm 612 (by decide +kernel) rfl, gm 18 (by decide +kernel) rfl⟩
theorem lkM_X3_62 : MLkS RX3 62 mX3_rowOf 2 := ⟨⟨gm 616 (by decide +kernel) rfl, gm 83 (by decide +kernel) rfl, Or.inl (gm 614 (by decide +kernel) rfl), by decide +kernel, by decide +kernel, by decide +kernel⟩, gm 615 (by decide +kernel) rfl⟩
theorem lkM_X3_72 : MLkV RX3 72 mX4_eventAt 1 := ⟨⟨gm 620 (by decide +kernel) rfl, gm 82 (by decide +kernel) rfl, Or.inl (gm 617 (by decide +kernel) rfl), by decide +kernel, by decide +kernel, by decide +kernel⟩, gm 618 (by decide +kernel) rfl, gm 619 (by decide +kernel) rfl⟩
theorem lkM_X3_55 : MLkV RX3 55 mX5_isHollow 1 := ⟨⟨gm 494 (by decide +kernel) rfl, gm 81 (by decide +kernel) rfl, Or.inl (gm 621 (by decide +kernel) rfl), by decide +kernel, by decide +kernel, by decide +kernel⟩, gm 492 (by decide +kernel) rfl, gm 493 (by decide +kernel) rfl⟩
theorem lkM_X3_59 : MLkV RX3 59 mX3_addUp 0 := ⟨⟨gm 625 (by decide +kernel) rfl, gm 83 (by decide +kernel) rfl, Or.inl (gm 622 (by decide +kernel) rfl), by decide +kernel, by decide +kernel, by decide +kernel⟩, gm 624 (by decide +kernel) rfl, gm 19 (by decide +kernel) rfl⟩
theorem lkM_X6_151 : MLkV RX6 151 mX3_sizeOf 2 := ⟨⟨gm 629 (by decide +kernel) rfl, gm 83 (by decide +kernel) rfl, Or.inl (gm 626 (by decide +kernel) rfl), by decide +kernel, by decide +kernel, by decide +kernel⟩, gm 627 (by decide +kernel) rfl, gm 628 (by decide +kernel) rfl⟩
theorem lkM_X6_154 : MLkV RX6 154 mX3_depthOf 2 := ⟨⟨gm 633 (by decide +kernel) rfl, gm 83 (by decide +kernel) rfl, Or.inl (gm 630 (by decide +kernel) rfl), by decide +kernel, by decide +kernel, by decide +kernel⟩, gm 631 (by decide +kernel) rfl, gm 632 (by decide +kernel) rfl⟩
theorem lkM_L_62 : MLkV RL 62 mX6_event 4 := ⟨⟨gm 637 (by decide +kernel) rfl, gm 78 (by decide +kernel) rfl, Or.inl (gm 634 (by decide +kernel) rfl), by decide +kernel, by decide +kernel, by decide +kernel⟩, gm 635 (by decide +kernel) rfl, gm 636 (by decide +kernel) rfl⟩
theorem lkM_X6_157 : MLkV RX6 157 mX3_eventAt 3 := ⟨⟨gm 641 (by decide +kernel) rfl, gm 83 (by decide +kernel) rfl, Or.inl (gm 638 (by decide +kernel) rfl), by decide +kernel, by decide +kernel, by decide +kernel⟩, gm 639 (by decide +kernel) rfl, gm 640 (by decide +kernel) rfl⟩
theorem lkM_L_67 : MLkV RL 67 mX6_why 3 := ⟨⟨gm 645 (by decide +kernel) rfl, gm 78 (by decide +kernel) rfl, Or.inl (gm 642 (by decide +kernel) rfl), by decide +kernel, by decide +kernel, by decide +kernel⟩, gm 643 (by decide +kernel) rfl, gm 644 (by decide +kernel) rfl⟩
theorem lkM_X6_160 : MLkV RX6 160 mX0_reason 3 := ⟨⟨gm 649 (by decide +kernel) rfl, gm 84 (by decide +kernel) rfl, Or.inl (gm 646 (by decide +kernel) rfl), by decide +kernel, by decide +kernel, by decide +kernel⟩, gm 647 (by decide +kernel) rfl, gm 648 (by decide +kernel) rfl⟩
theorem lkM_X0_49 : MLkV RX0 49 mX5_heldBy 2 := ⟨⟨gm 481 (by decide +kernel) rfl, gm 81 (by decide +kernel) rfl, Or.inl (gm 650 (by decide +kernel) rfl), by decide +kernel, by decide +kernel, by decide +kernel⟩, gm 479 (by decide +kernel) rfl, gm 480 (by decide +kernel) rfl⟩
theorem lkM_X0_55 : MLkV RX0 55 mX5_childBits 1 := ⟨⟨gm 526 (by decide +kernel) rfl, gm 81 (by decide +kernel) rfl, Or.inl (gm 651 (by decide +kernel) rfl), by decide +kernel, by decide +kernel, by decide +kernel⟩, gm 524 (by decide +kernel) rfl, gm 525 (by decide +kernel) rfl⟩
theorem lkM_X0_59 : MLkV RX0 59 mX5_parentOf 1 := ⟨⟨gm 506 (by decide +kernel) rfl, gm 81 (by decide +kernel) rfl, Or.inl (gm 652 (by decide +kernel) rfl), by decide +kernel, by decide +kernel, by decide +kernel⟩, gm 504 (by decide +kernel) rfl, gm 505 (by decide +kernel) rfl⟩
theorem lkM_X0_62 : MLkV RX0 62 mX0_someLack 2 := ⟨⟨gm 656 (by decide +kernel) rfl, gm 84 (by decide +kernel) rfl, Or.inl (gm 653 (by decide +kernel) rfl), by decide +kernel, by decide +kernel, by decide +kernel⟩, gm 655 (by decide +kernel) rfl, gm 20 (by decide +kernel) rfl⟩
theorem lkM_X0_66 : MLkV RX0 66 mX3_refresh 0 := ⟨⟨gm 564 (by decide +kernel) rfl, gm 83 (by decide +kernel) rfl, Or.inl (gm 657 (by decide +kernel) rfl), by decide +kernel, by decide +kernel, by decide +kernel⟩, gm 562 (by decide +kernel) rfl, gm 563 (by decide +kernel) rfl⟩
theorem lkM_X0_71 : MLkV RX0 71 mX0_save 2 := ⟨⟨gm 661 (by decide +kernel) rfl, gm 84 (by decide +kernel) rfl, Or.inl (gm 658 (by decide +kernel) rfl), by decide +kernel, by decide +kernel, by decide +kernel⟩, gm 660 (by decide +kernel) rfl, gm 21 (by decide +kernel) rfl⟩
theorem lkM_X0_104 : MLkV RX0 104 mX5_hides 2 := ⟨⟨gm 609 (by decide +kernel) rfl, gm 81 (by decide +kernel) rfl, Or.inl (gm 662 (by decide +kernel) rfl), by decide +kernel, by decide +kernel, by decide +kernel⟩, gm 607 (by decide +kernel) rfl, gm 608 (by decide +kernel) rfl⟩
theorem lkM_X0_75 : MLkV RX0 75 mX0_shift 3 := ⟨⟨gm 666 (by decide +kernel) rfl, gm 84 (by decide +kernel) rfl, Or.inl (gm 663 (by decide +kernel) rfl), by decide +kernel, by decide +kernel, by decide +kernel⟩, gm 665 (by decide +kernel) rfl, gm 22 (by decide +kernel) rfl⟩
theorem lkM_X0_107 : MLkV RX0 107 mX0_shiftUp 4 := ⟨⟨gm 670 (by decide +kernel) rfl, gm 84 (by decide +kernel) rfl, Or.inl (gm 667 (by decide +kernel) rfl), by decide +kernel, by decide +kernel, by decide +kernel⟩, gm 669 (by decide +kernel) rfl, gm 23 (by decide +kernel) rfl⟩
theorem lkM_X0_114 : MLkV RX0 114 mX5_put 4 := ⟨⟨gm 449 (by decide +kernel) rfl, gm 81 (by decide +kernel) rfl, Or.inl (gm 671 (by decide +kernel) rfl), by decide +kernel, by decide +kernel, by decide +kernel⟩, gm 447 (by decide +kernel) rfl, gm 448 (by decide +kernel) rfl⟩
theorem lkM_X0_111 : MLkV RX0 111 mX0_shiftDown 4 := ⟨⟨gm 675 (by decide +kernel) rfl, gm 84 (by decide +kernel) rfl, Or.inl (gm 672 (by decide +kernel) rfl), by decide +kernel, by decide +kernel, by decide +kernel⟩, gm 674 (by decide +kernel) rfl, gm 24 (by decide +kernel) rfl⟩
theorem lkM_X0_79 : MLkV RX0 79 mX0_firstChange 0 := ⟨⟨gm 679 (by decide +kernel) rfl, gm 84 (by decide +kernel) rfl, Or.inl (gm 676 (by decide +kernel) rfl), by decide +kernel, by decide +kernel, by decide +kernel⟩, gm 678 (by decide +kernel) rfl, gm 25 (by decide +kernel) rfl⟩
theorem lkM_X0_117 : MLkV RX0 117 mX5_isHollow 1 := ⟨⟨gm 494 (by decide +kernel) rfl, gm 81 (by decide +kernel) rfl, Or.inl (gm 680 (by decide +kernel) rfl), by decide +kernel, by decide +kernel, by decide +kernel⟩, gm 492 (by decide +kernel) rfl, gm 493 (by decide +kernel) rfl⟩
theorem lkM_X0_121 : MLkV RX0 121 mX3_sizeOf 2 := ⟨⟨gm 629 (by decide +kernel) rfl, gm 83 (by decide +kernel) rfl, Or.inl (gm 681 (by decide +kernel) rfl), by decide +kernel, by decide +kernel, by decide +kernel⟩, gm 627 (by decide +kernel) rfl, gm 628 (by decide +kernel) rfl⟩
theorem lkM_X0_124 : MLkV RX0 124 mX4_run 2 := ⟨⟨gm 568 (by decide +kernel) rfl, gm 82 (by decide +kernel) rfl, Or.inl (gm 682 (by decide +kernel) rfl), by decide +kernel, by decide +kernel, by decide +kernel⟩, gm 566 (by decide +kernel) rfl, gm 567 (by decide +kernel) rfl⟩
theorem lkM_X0_129 : MLkV RX0 129 mX3_isAsTraced 2 := ⟨⟨gm 686 (by decide +kernel) rfl, gm 83 (by decide +kernel) rfl, Or.inl (gm 683 (by decide +kernel) rfl), by decide +kernel, by decide +kernel, by decide +kernel⟩, gm 684 (by decide +kernel) rfl, gm 685 (by decide +kernel) rfl⟩
theorem lkM_X3_82 : MLkV RX3 82 mX3_sizeOf 2 := ⟨⟨gm 629 (by decide +kernel) rfl, gm 83 (by decide +kernel) rfl, Or.inl (gm 687 (by decide +kernel) rfl), by decide +kernel, by decide +kernel, by decide +kernel⟩, gm 627 (by decide +kernel) rfl, gm 628 (by decide +kernel) rfl⟩
theorem lkM_X3_85 : MLkV RX3 85 mX3_eventAt 3 := ⟨⟨gm 641 (by decide +kernel) rfl, gm 83 (by decide +kernel) rfl, Or.inl (gm 688 (by decide +kernel) rfl), by decide +kernel, by decide +kernel, by decide +kernel⟩, gm 639 (by decide +kernel) rfl, gm 640 (by decide +kernel) rfl⟩
theorem lkM_X0_83 : MLkV RX0 83 mX0_restore 1 := ⟨⟨gm 692 (by decide +kernel) rfl, gm 84 (by decide +kernel) rfl, Or.inl (gm 689 (by decide +kernel) rfl), by decide +kernel, by decide +kernel, by decide +kernel⟩, gm 691 (by decide +kernel) rfl, gm 26 (by decide +kernel) rfl⟩
theorem lkM_L_72 : MLkV RL 72 mX6_where 3 := ⟨⟨gm 696 (by decide +kernel) rfl, gm 78 (by decide +kernel) rfl, Or.inl (gm 693 (by decide +kernel) rfl), by decide +kernel, by decide +kernel, by decide +kernel⟩, gm 694 (by decide +kernel) rfl, gm 695 (by decide +kernel) rfl⟩
theorem lkM_L_76 : MLkV RL 76 mX6_move 3 := ⟨⟨gm 700 (by decide +kernel) rfl, gm 78 (by decide +kernel) rfl, Or.inl (gm 697 (by decide +kernel) rfl), by decide +kernel, by decide +kernel, by decide +kernel⟩, gm 698 (by decide +kernel) rfl, gm 699 (by decide +kernel) rfl⟩
theorem lkM_X6_167 : MLkV RX6 167 mX0_keep 3 := ⟨⟨gm 704 (by decide +kernel) rfl, gm 84 (by decide +kernel) rfl, Or.inl (gm 701 (by decide +kernel) rfl), by decide +kernel, by decide +kernel, by decide +kernel⟩, gm 702 (by decide +kernel) rfl, gm 703 (by decide +kernel) rfl⟩
theorem lkM_L_80 : MLkV RL 80 mX6_undo 0 := ⟨⟨gm 708 (by decide +kernel) rfl, gm 78 (by decide +kernel) rfl, Or.inl (gm 705 (by decide +kernel) rfl), by decide +kernel, by decide +kernel, by decide +kernel⟩, gm 706 (by decide +kernel) rfl, gm 707 (by decide +kernel) rfl⟩
theorem lkM_X6_174 : MLkV RX6 174 mX0_takeBack 0 := ⟨⟨gm 712 (by decide +kernel) rfl, gm 84 (by decide +kernel) rfl, Or.inl (gm 709 (by decide +kernel) rfl), by decide +kernel, by decide +kernel, by decide +kernel⟩, gm 710 (by decide +kernel) rfl, gm 711 (by decide +kernel) rfl⟩
theorem lkM_L_84 : MLkV RL 84 mX6_moves 1 := ⟨⟨gm 716 (by decide +kernel) rfl, gm 78 (by decide +kernel) rfl, Or.inl (gm 713 (by decide +kernel) rfl), by decide +kernel, by decide +kernel, by decide +kernel⟩, gm 714 (by decide +kernel) rfl, gm 715 (by decide +kernel) rfl⟩
theorem lkM_X6_177 : MLkV RX6 177 mX0_refresh 0 := ⟨⟨gm 720 (by decide +kernel) rfl, gm 84 (by decide +kernel) rfl, Or.inl (gm 717 (by decide +kernel) rfl), by decide +kernel, by decide +kernel, by decide +kernel⟩, gm 718 (by decide +kernel) rfl, gm 719 (by decide +kernel) rfl⟩
theorem lkM_X0_100 : MLkV RX0 100 mX0_reason 3 := ⟨⟨gm 649 (by decide +kernel) rfl, gm 84 (by decide +kernel) rfl, Or.inl (gm 721 (by decide +kernel) rfl), by decide +kernel, by decide +kernel, by decide +kernel⟩, gm 647 (by decide +kernel) rfl, gm 648 (by decide +kernel) rfl⟩
theorem lkM_L_88 : MLkV RL 88 mX6_contract 1 := ⟨⟨gm 725 (by decide +kernel) rfl, gm 78 (by decide +kernel) rfl, Or.inl (gm 722 (by decide +kernel) rfl), by decide +kernel, by decide +kernel, by decide +kernel⟩, gm 723 (by decide +kernel) rfl, gm 724 (by decide +kernel) rfl⟩
theorem lkM_L_92 : MLkV RL 92 mX6_fit 2 := ⟨⟨gm 729 (by decide +kernel) rfl, gm 78 (by decide +kernel) rfl, Or.inl (gm 726 (by decide +kernel) rfl), by decide +kernel, by decide +kernel, by decide +kernel⟩, gm 727 (by decide +kernel) rfl, gm 728 (by decide +kernel) rfl⟩
theorem lkM_X6_187 : MLkV RX6 187 mX6_typesThatFit 1 := ⟨⟨gm 733 (by decide +kernel) rfl, gm 78 (by decide +kernel) rfl, Or.inl (gm 730 (by decide +kernel) rfl), by decide +kernel, by decide +kernel, by decide +kernel⟩, gm 732 (by decide +kernel) rfl, gm 27 (by decide +kernel) rfl⟩
theorem lkM_X6_190 : MLkV RX6 190 mX6_nearestMisfit 1 := ⟨⟨gm 737 (by decide +kernel) rfl, gm 78 (by decide +kernel) rfl, Or.inl (gm 734 (by decide +kernel) rfl), by decide +kernel, by decide +kernel, by decide +kernel⟩, gm 736 (by decide +kernel) rfl, gm 28 (by decide +kernel) rfl⟩
theorem lkM_X6_252 : MLkS RX6 252 mJ6_bitCount_0f7a4 1 := ⟨⟨gm 438 (by decide +kernel) rfl, gm 86 (by decide +kernel) rfl, Or.inl (gm 738 (by decide +kernel) rfl), by decide +kernel, by decide +kernel, by decide +kernel⟩, gm 437 (by decide +kernel) rfl⟩
theorem lkM_L_96 : MLkV RL 96 mX6_common 1 := ⟨⟨gm 742 (by decide +kernel) rfl, gm 78 (by decide +kernel) rfl, Or.inl (gm 739 (by decide +kernel) rfl), by decide +kernel, by decide +kernel, by decide +kernel⟩, gm 740 (by decide +kernel) rfl, gm 741 (by decide +kernel) rfl⟩
theorem lkM_L_100 : MLkV RL 100 mX6_dead 1 := ⟨⟨gm 746 (by decide +kernel) rfl, gm 78 (by decide +kernel) rfl, Or.inl (gm 743 (by decide +kernel) rfl), by decide +kernel, by decide +kernel, by decide +kernel⟩, gm 744 (by decide +kernel) rfl, gm 745 (by decide +kernel) rfl⟩
theorem lkM_X6_193 : MLkV RX6 193 mX3_isReached 1 := ⟨⟨gm 750 (by decide +kernel) rfl, gm 83 (by decide +kernel) rfl, Or.inl (gm 747 (by decide +kernel) rfl), by decide +kernel, by decide +kernel, by decide +kernel⟩, gm 748 (by decide +kernel) rfl, gm 749 (by decide +kernel) rfl⟩
theorem lkM_L_104 : MLkV RL 104 mX6_count 1 := ⟨⟨gm 754 (by decide +kernel) rfl, gm 78 (by decide +kernel) rfl, Or.inl (gm 751 (by decide +kernel) rfl), by decide +kernel, by decide +kernel, by decide +kernel⟩, gm 752 (by decide +kernel) rfl, gm 753 (by decide +kernel) rfl⟩
theorem lkM_X6_205 : MLkV RX6 205 mX3_reachedCount 0 := ⟨⟨gm 758 (by decide +kernel) rfl, gm 83 (by decide +kernel) rfl, Or.inl (gm 755 (by decide +kernel) rfl), by decide +kernel, by decide +kernel, by decide +kernel⟩, gm 756 (by decide +kernel) rfl, gm 757 (by decide +kernel) rfl⟩
theorem lkM_X3_76 : MLkS RX3 76 mJ13_bitCount_95d88 1 := ⟨⟨gm 761 (by decide +kernel) rfl, gm 87 (by decide +kernel) rfl, Or.inl (gm 759 (by decide +kernel) rfl), by decide +kernel, by decide +kernel, by decide +kernel⟩, gm 760 (by decide +kernel) rfl⟩
theorem lkM_L_108 : MLkV RL 108 mX6_digest 0 := ⟨⟨gm 768 (by decide +kernel) rfl, gm 78 (by decide +kernel) rfl, Or.inl (gm 765 (by decide +kernel) rfl), by decide +kernel, by decide +kernel, by decide +kernel⟩, gm 766 (by decide +kernel) rfl, gm 767 (by decide +kernel) rfl⟩
theorem lkM_X6_214 : MLkV RX6 214 mX6_withType 2 := ⟨⟨gm 773 (by decide +kernel) rfl, gm 78 (by decide +kernel) rfl, Or.inl (gm 770 (by decide +kernel) rfl), by decide +kernel, by decide +kernel, by decide +kernel⟩, gm 772 (by decide +kernel) rfl, gm 29 (by decide +kernel) rfl⟩
theorem lkM_X6_234 : MLkV RX6 234 mX6_of 2 := ⟨⟨gm 502 (by decide +kernel) rfl, gm 78 (by decide +kernel) rfl, Or.inl (gm 774 (by decide +kernel) rfl), by decide +kernel, by decide +kernel, by decide +kernel⟩, gm 500 (by decide +kernel) rfl, gm 501 (by decide +kernel) rfl⟩
theorem lkM_X6_221 : MLkS RX6 221 mX6_with 2 := ⟨⟨gm 777 (by decide +kernel) rfl, gm 78 (by decide +kernel) rfl, Or.inl (gm 775 (by decide +kernel) rfl), by decide +kernel, by decide +kernel, by decide +kernel⟩, gm 776 (by decide +kernel) rfl⟩
theorem lkM_X6_237 : MLkV RX6 237 mX6_has 2 := ⟨⟨gm 531 (by decide +kernel) rfl, gm 78 (by decide +kernel) rfl, Or.inl (gm 779 (by decide +kernel) rfl), by decide +kernel, by decide +kernel, by decide +kernel⟩, gm 529 (by decide +kernel) rfl, gm 530 (by decide +kernel) rfl⟩
theorem lkM_X6_240 : MLkV RX6 240 mX6_withMethod 3 := ⟨⟨gm 783 (by decide +kernel) rfl, gm 78 (by decide +kernel) rfl, Or.inl (gm 780 (by decide +kernel) rfl), by decide +kernel, by decide +kernel, by decide +kernel⟩, gm 782 (by decide +kernel) rfl, gm 30 (by decide +kernel) rfl⟩
theorem lkM_X6_244 : MLkV RX6 244 mX6_answer 3 := ⟨⟨gm 537 (by decide +kernel) rfl, gm 78 (by decide +kernel) rfl, Or.inl (gm 784 (by decide +kernel) rfl), by decide +kernel, by decide +kernel, by decide +kernel⟩, gm 535 (by decide +kernel) rfl, gm 536 (by decide +kernel) rfl⟩
theorem lkM_X6_218 : MLkV RX6 218 mX6_withBody 2 := ⟨⟨gm 788 (by decide +kernel) rfl, gm 78 (by decide +kernel) rfl, Or.inl (gm 785 (by decide +kernel) rfl), by decide +kernel, by decide +kernel, by decide +kernel⟩, gm 787 (by decide +kernel) rfl, gm 31 (by decide +kernel) rfl⟩
theorem lkM_X6_247 : MLkV RX6 247 mX6_body 2 := ⟨⟨gm 543 (by decide +kernel) rfl, gm 78 (by decide +kernel) rfl, Or.inl (gm 789 (by decide +kernel) rfl), by decide +kernel, by decide +kernel, by decide +kernel⟩, gm 541 (by decide +kernel) rfl, gm 542 (by decide +kernel) rfl⟩
theorem lkM_X6_225 : MLkV RX6 225 mX6_fit 2 := ⟨⟨gm 729 (by decide +kernel) rfl, gm 78 (by decide +kernel) rfl, Or.inl (gm 790 (by decide +kernel) rfl), by decide +kernel, by decide +kernel, by decide +kernel⟩, gm 727 (by decide +kernel) rfl, gm 728 (by decide +kernel) rfl⟩
theorem lkM_X6_228 : MLkV RX6 228 mX1_codeAt 1 := ⟨⟨gm 370 (by decide +kernel) rfl, gm 79 (by decide +kernel) rfl, Or.inl (gm 791 (by decide +kernel) rfl), by decide +kernel, by decide +kernel, by decide +kernel⟩, gm 368 (by decide +kernel) rfl, gm 369 (by decide +kernel) rfl⟩
theorem lkM_X6_231 : MLkV RX6 231 mX6_count 1 := ⟨⟨gm 754 (by decide +kernel) rfl, gm 78 (by decide +kernel) rfl, Or.inl (gm 792 (by decide +kernel) rfl), by decide +kernel, by decide +kernel, by decide +kernel⟩, gm 752 (by decide +kernel) rfl, gm 753 (by decide +kernel) rfl⟩
theorem lkM_L_17 : MLkV RL 17 mX7_letter 1 := ⟨⟨gm 938 (by decide +kernel) rfl, gm 85 (by decide +kernel) rfl, Or.inl (gm 935 (by decide +kernel) rfl), by decide +kernel, by decide +kernel, by decide +kernel⟩, gm 936 (by decide +kernel) rfl, gm 937 (by decide +kernel) rfl⟩
theorem lkM_X7_77 : MLkS RX7 77 mX7_within 3 := ⟨⟨gm 941 (by decide +kernel) rfl, gm 85 (by decide +kernel) rfl, Or.inl (gm 939 (by decide +kernel) rfl), by decide +kernel, by decide +kernel, by decide +kernel⟩, gm 940 (by decide +kernel) rfl⟩
theorem lkM_L_22 : MLkV RL 22 mX7_blank 0 := ⟨⟨gm 945 (by decide +kernel) rfl, gm 85 (by decide +kernel) rfl, Or.inl (gm 942 (by decide +kernel) rfl), by decide +kernel, by decide +kernel, by decide +kernel⟩, gm 943 (by decide +kernel) rfl, gm 944 (by decide +kernel) rfl⟩
theorem lkM_L_26 : MLkV RL 26 mX7_fault 0 := ⟨⟨gm 949 (by decide +kernel) rfl, gm 85 (by decide +kernel) rfl, Or.inl (gm 946 (by decide +kernel) rfl), by decide +kernel, by decide +kernel, by decide +kernel⟩, gm 947 (by decide +kernel) rfl, gm 948 (by decide +kernel) rfl⟩
theorem lkM_X7_130 : MLkV RX7 130 mX7_read 0 := ⟨⟨gm 953 (by decide +kernel) rfl, gm 85 (by decide +kernel) rfl, Or.inl (gm 950 (by decide +kernel) rfl), by decide +kernel, by decide +kernel, by decide +kernel⟩, gm 952 (by decide +kernel) rfl, gm 32 (by decide +kernel) rfl⟩
theorem lkM_X7_127 : MLkV RX7 127 mX7_takes 1 := ⟨⟨gm 957 (by decide +kernel) rfl, gm 85 (by decide +kernel) rfl, Or.inl (gm 954 (by decide +kernel) rfl), by decide +kernel, by decide +kernel, by decide +kernel⟩, gm 956 (by decide +kernel) rfl, gm 33 (by decide +kernel) rfl⟩
theorem lkM_X7_118 : MLkV RX7 118 mX7_takesHead 1 := ⟨⟨gm 961 (by decide +kernel) rfl, gm 85 (by decide +kernel) rfl, Or.inl (gm 958 (by decide +kernel) rfl), by decide +kernel, by decide +kernel, by decide +kernel⟩, gm 960 (by decide +kernel) rfl, gm 34 (by decide +kernel) rfl⟩
theorem lkM_X7_108 : MLkV RX7 108 mX7_takesMember 1 := ⟨⟨gm 965 (by decide +kernel) rfl, gm 85 (by decide +kernel) rfl, Or.inl (gm 962 (by decide +kernel) rfl), by decide +kernel, by decide +kernel, by decide +kernel⟩, gm 964 (by decide +kernel) rfl, gm 35 (by decide +kernel) rfl⟩
theorem lkM_X7_85 : MLkS RX7 85 mX7_memberAt 1 := ⟨⟨gm 968 (by decide +kernel) rfl, gm 85 (by decide +kernel) rfl, Or.inl (gm 966 (by decide +kernel) rfl), by decide +kernel, by decide +kernel, by decide +kernel⟩, gm 967 (by decide +kernel) rfl⟩
theorem lkM_X7_92 : MLkS RX7 92 mX7_hasBit 2 := ⟨⟨gm 971 (by decide +kernel) rfl, gm 85 (by decide +kernel) rfl, Or.inl (gm 969 (by decide +kernel) rfl), by decide +kernel, by decide +kernel, by decide +kernel⟩, gm 970 (by decide +kernel) rfl⟩
theorem lkM_X7_121 : MLkV RX7 121 mX7_takesBehindMethod 1 := ⟨⟨gm 975 (by decide +kernel) rfl, gm 85 (by decide +kernel) rfl, Or.inl (gm 972 (by decide +kernel) rfl), by decide +kernel, by decide +kernel, by decide +kernel⟩, gm 974 (by decide +kernel) rfl, gm 36 (by decide +kernel) rfl⟩
theorem lkM_X7_124 : MLkV RX7 124 mX7_takesItem 1 := ⟨⟨gm 979 (by decide +kernel) rfl, gm 85 (by decide +kernel) rfl, Or.inl (gm 976 (by decide +kernel) rfl), by decide +kernel, by decide +kernel, by decide +kernel⟩, gm 978 (by decide +kernel) rfl, gm 37 (by decide +kernel) rfl⟩
theorem lkM_L_30 : MLkV RL 30 mX7_type 0 := ⟨⟨gm 983 (by decide +kernel) rfl, gm 85 (by decide +kernel) rfl, Or.inl (gm 980 (by decide +kernel) rfl), by decide +kernel, by decide +kernel, by decide +kernel⟩, gm 981 (by decide +kernel) rfl, gm 982 (by decide +kernel) rfl⟩
theorem lkM_L_34 : MLkV RL 34 mX7_drop 0 := ⟨⟨gm 987 (by decide +kernel) rfl, gm 85 (by decide +kernel) rfl, Or.inl (gm 984 (by decide +kernel) rfl), by decide +kernel, by decide +kernel, by decide +kernel⟩, gm 985 (by decide +kernel) rfl, gm 986 (by decide +kernel) rfl⟩
theorem lkM_X7_143 : MLkV RX7 143 mX7_isElsewhere 0 := ⟨⟨gm 991 (by decide +kernel) rfl, gm 85 (by decide +kernel) rfl, Or.inl (gm 988 (by decide +kernel) rfl), by decide +kernel, by decide +kernel, by decide +kernel⟩, gm 990 (by decide +kernel) rfl, gm 38 (by decide +kernel) rfl⟩
theorem lkM_L_39 : MLkV RL 39 mX7_hollow 2 := ⟨⟨gm 995 (by decide +kernel) rfl, gm 85 (by decide +kernel) rfl, Or.inl (gm 992 (by decide +kernel) rfl), by decide +kernel, by decide +kernel, by decide +kernel⟩, gm 993 (by decide +kernel) rfl, gm 994 (by decide +kernel) rfl⟩
theorem lkM_X7_147 : MLkV RX7 147 mX7_isType 1 := ⟨⟨gm 999 (by decide +kernel) rfl, gm 85 (by decide +kernel) rfl, Or.inl (gm 996 (by decide +kernel) rfl), by decide +kernel, by decide +kernel, by decide +kernel⟩, gm 998 (by decide +kernel) rfl, gm 39 (by decide +kernel) rfl⟩
theorem lkM_L_44 : MLkV RL 44 mX7_of 2 := ⟨⟨gm 1003 (by decide +kernel) rfl, gm 85 (by decide +kernel) rfl, Or.inl (gm 1000 (by decide +kernel) rfl), by decide +kernel, by decide +kernel, by decide +kernel⟩, gm 1001 (by decide +kernel) rfl, gm 1002 (by decide +kernel) rfl⟩
theorem lkM_X7_170 : MLkV RX7 170 mX7_typeNow 2 := ⟨⟨gm 1007 (by decide +kernel) rfl, gm 85 (by decide +kernel) rfl, Or.inl (gm 1004 (by decide +kernel) rfl), by decide +kernel, by decide +kernel, by decide +kernel⟩, gm 1006 (by decide +kernel) rfl, gm 40 (by decide +kernel) rfl⟩
theorem lkM_X7_160 : MLkV RX7 160 mX7_hasOf 3 := ⟨⟨gm 1011 (by decide +kernel) rfl, gm 85 (by decide +kernel) rfl, Or.inl (gm 1008 (by decide +kernel) rfl), by decide +kernel, by decide +kernel, by decide +kernel⟩, gm 1010 (by decide +kernel) rfl, gm 41 (by decide +kernel) rfl⟩
theorem lkM_X7_150 : MLkV RX7 150 mX7_memberOf 2 := ⟨⟨gm 1015 (by decide +kernel) rfl, gm 85 (by decide +kernel) rfl, Or.inl (gm 1012 (by decide +kernel) rfl), by decide +kernel, by decide +kernel, by decide +kernel⟩, gm 1014 (by decide +kernel) rfl, gm 42 (by decide +kernel) rfl⟩
theorem lkM_X7_164 : MLkV RX7 164 mX7_answered 1 := ⟨⟨gm 1019 (by decide +kernel) rfl, gm 85 (by decide +kernel) rfl, Or.inl (gm 1016 (by decide +kernel) rfl), by decide +kernel, by decide +kernel, by decide +kernel⟩, gm 1018 (by decide +kernel) rfl, gm 43 (by decide +kernel) rfl⟩
theorem lkM_X7_157 : MLkV RX7 157 mX7_answersIn 2 := ⟨⟨gm 1023 (by decide +kernel) rfl, gm 85 (by decide +kernel) rfl, Or.inl (gm 1020 (by decide +kernel) rfl), by decide +kernel, by decide +kernel, by decide +kernel⟩, gm 1022 (by decide +kernel) rfl, gm 44 (by decide +kernel) rfl⟩
theorem lkM_X7_154 : MLkV RX7 154 mX7_isHidden 2 := ⟨⟨gm 1027 (by decide +kernel) rfl, gm 85 (by decide +kernel) rfl, Or.inl (gm 1024 (by decide +kernel) rfl), by decide +kernel, by decide +kernel, by decide +kernel⟩, gm 1026 (by decide +kernel) rfl, gm 45 (by decide +kernel) rfl⟩
theorem lkM_X7_167 : MLkV RX7 167 mX7_below 1 := ⟨⟨gm 1031 (by decide +kernel) rfl, gm 85 (by decide +kernel) rfl, Or.inl (gm 1028 (by decide +kernel) rfl), by decide +kernel, by decide +kernel, by decide +kernel⟩, gm 1030 (by decide +kernel) rfl, gm 46 (by decide +kernel) rfl⟩
theorem lkM_L_48 : MLkV RL 48 mX7_has 2 := ⟨⟨gm 1035 (by decide +kernel) rfl, gm 85 (by decide +kernel) rfl, Or.inl (gm 1032 (by decide +kernel) rfl), by decide +kernel, by decide +kernel, by decide +kernel⟩, gm 1033 (by decide +kernel) rfl, gm 1034 (by decide +kernel) rfl⟩
theorem lkM_X7_173 : MLkV RX7 173 mX7_isMember 2 := ⟨⟨gm 1039 (by decide +kernel) rfl, gm 85 (by decide +kernel) rfl, Or.inl (gm 1036 (by decide +kernel) rfl), by decide +kernel, by decide +kernel, by decide +kernel⟩, gm 1038 (by decide +kernel) rfl, gm 47 (by decide +kernel) rfl⟩
theorem lkM_L_53 : MLkV RL 53 mX7_answer 3 := ⟨⟨gm 1043 (by decide +kernel) rfl, gm 85 (by decide +kernel) rfl, Or.inl (gm 1040 (by decide +kernel) rfl), by decide +kernel, by decide +kernel, by decide +kernel⟩, gm 1041 (by decide +kernel) rfl, gm 1042 (by decide +kernel) rfl⟩
theorem lkM_X7_176 : MLkV RX7 176 mX7_isMethod 2 := ⟨⟨gm 1047 (by decide +kernel) rfl, gm 85 (by decide +kernel) rfl, Or.inl (gm 1044 (by decide +kernel) rfl), by decide +kernel, by decide +kernel, by decide +kernel⟩, gm 1046 (by decide +kernel) rfl, gm 48 (by decide +kernel) rfl⟩
theorem lkM_X7_179 : MLkV RX7 179 mX7_answerNow 3 := ⟨⟨gm 1051 (by decide +kernel) rfl, gm 85 (by decide +kernel) rfl, Or.inl (gm 1048 (by decide +kernel) rfl), by decide +kernel, by decide +kernel, by decide +kernel⟩, gm 1050 (by decide +kernel) rfl, gm 49 (by decide +kernel) rfl⟩
theorem lkM_L_57 : MLkV RL 57 mX7_body 2 := ⟨⟨gm 1055 (by decide +kernel) rfl, gm 85 (by decide +kernel) rfl, Or.inl (gm 1052 (by decide +kernel) rfl), by decide +kernel, by decide +kernel, by decide +kernel⟩, gm 1053 (by decide +kernel) rfl, gm 1054 (by decide +kernel) rfl⟩
theorem lkM_X7_182 : MLkV RX7 182 mX7_bodyNow 2 := ⟨⟨gm 1059 (by decide +kernel) rfl, gm 85 (by decide +kernel) rfl, Or.inl (gm 1056 (by decide +kernel) rfl), by decide +kernel, by decide +kernel, by decide +kernel⟩, gm 1058 (by decide +kernel) rfl, gm 50 (by decide +kernel) rfl⟩
theorem lkM_L_61 : MLkV RL 61 mX7_trace 3 := ⟨⟨gm 1063 (by decide +kernel) rfl, gm 85 (by decide +kernel) rfl, Or.inl (gm 1060 (by decide +kernel) rfl), by decide +kernel, by decide +kernel, by decide +kernel⟩, gm 1061 (by decide +kernel) rfl, gm 1062 (by decide +kernel) rfl⟩
theorem lkM_X7_214 : MLkV RX7 214 mX7_traceNow 3 := ⟨⟨gm 1067 (by decide +kernel) rfl, gm 85 (by decide +kernel) rfl, Or.inl (gm 1064 (by decide +kernel) rfl), by decide +kernel, by decide +kernel, by decide +kernel⟩, gm 1066 (by decide +kernel) rfl, gm 51 (by decide +kernel) rfl⟩
theorem lkM_X7_211 : MLkV RX7 211 mX7_layTrace 2 := ⟨⟨gm 1071 (by decide +kernel) rfl, gm 85 (by decide +kernel) rfl, Or.inl (gm 1068 (by decide +kernel) rfl), by decide +kernel, by decide +kernel, by decide +kernel⟩, gm 1070 (by decide +kernel) rfl, gm 52 (by decide +kernel) rfl⟩
theorem lkM_X7_204 : MLkV RX7 204 mX7_run 2 := ⟨⟨gm 1075 (by decide +kernel) rfl, gm 85 (by decide +kernel) rfl, Or.inl (gm 1072 (by decide +kernel) rfl), by decide +kernel, by decide +kernel, by decide +kernel⟩, gm 1074 (by decide +kernel) rfl, gm 53 (by decide +kernel) rfl⟩
theorem lkM_X7_191 : MLkV RX7 191 mX7_isRunning 1 := ⟨⟨gm 1079 (by decide +kernel) rfl, gm 85 (by decide +kernel) rfl, Or.inl (gm 1076 (by decide +kernel) rfl), by decide +kernel, by decide +kernel, by decide +kernel⟩, gm 1078 (by decide +kernel) rfl, gm 54 (by decide +kernel) rfl⟩
theorem lkM_X7_194 : MLkV RX7 194 mX7_put 2 := ⟨⟨gm 1083 (by decide +kernel) rfl, gm 85 (by decide +kernel) rfl, Or.inl (gm 1080 (by decide +kernel) rfl), by decide +kernel, by decide +kernel, by decide +kernel⟩, gm 1082 (by decide +kernel) rfl, gm 55 (by decide +kernel) rfl⟩
theorem lkM_X7_207 : MLkV RX7 207 mX7_comesTo 3 := ⟨⟨gm 1087 (by decide +kernel) rfl, gm 85 (by decide +kernel) rfl, Or.inl (gm 1084 (by decide +kernel) rfl), by decide +kernel, by decide +kernel, by decide +kernel⟩, gm 1086 (by decide +kernel) rfl, gm 56 (by decide +kernel) rfl⟩
theorem lkM_X7_201 : MLkV RX7 201 mX7_slotFrom 2 := ⟨⟨gm 1091 (by decide +kernel) rfl, gm 85 (by decide +kernel) rfl, Or.inl (gm 1088 (by decide +kernel) rfl), by decide +kernel, by decide +kernel, by decide +kernel⟩, gm 1090 (by decide +kernel) rfl, gm 57 (by decide +kernel) rfl⟩
theorem lkM_L_66 : MLkV RL 66 mX7_event 4 := ⟨⟨gm 1095 (by decide +kernel) rfl, gm 85 (by decide +kernel) rfl, Or.inl (gm 1092 (by decide +kernel) rfl), by decide +kernel, by decide +kernel, by decide +kernel⟩, gm 1093 (by decide +kernel) rfl, gm 1094 (by decide +kernel) rfl⟩
theorem lkM_L_71 : MLkV RL 71 mX7_why 3 := ⟨⟨gm 1099 (by decide +kernel) rfl, gm 85 (by decide +kernel) rfl, Or.inl (gm 1096 (by decide +kernel) rfl), by decide +kernel, by decide +kernel, by decide +kernel⟩, gm 1097 (by decide +kernel) rfl, gm 1098 (by decide +kernel) rfl⟩
theorem lkM_X7_247 : MLkV RX7 247 mX7_whyNow 3 := ⟨⟨gm 1103 (by decide +kernel) rfl, gm 85 (by decide +kernel) rfl, Or.inl (gm 1100 (by decide +kernel) rfl), by decide +kernel, by decide +kernel, by decide +kernel⟩, gm 1102 (by decide +kernel) rfl, gm 58 (by decide +kernel) rfl⟩
theorem lkM_X7_233 : MLkV RX7 233 mX7_plainWhy 3 := ⟨⟨gm 1107 (by decide +kernel) rfl, gm 85 (by decide +kernel) rfl, Or.inl (gm 1104 (by decide +kernel) rfl), by decide +kernel, by decide +kernel, by decide +kernel⟩, gm 1106 (by decide +kernel) rfl, gm 59 (by decide +kernel) rfl⟩
theorem lkM_X7_224 : MLkV RX7 224 mX7_missesBelow 2 := ⟨⟨gm 1111 (by decide +kernel) rfl, gm 85 (by decide +kernel) rfl, Or.inl (gm 1108 (by decide +kernel) rfl), by decide +kernel, by decide +kernel, by decide +kernel⟩, gm 1110 (by decide +kernel) rfl, gm 60 (by decide +kernel) rfl⟩
theorem lkM_X7_244 : MLkV RX7 244 mX7_whereNow 3 := ⟨⟨gm 1115 (by decide +kernel) rfl, gm 85 (by decide +kernel) rfl, Or.inl (gm 1112 (by decide +kernel) rfl), by decide +kernel, by decide +kernel, by decide +kernel⟩, gm 1114 (by decide +kernel) rfl, gm 61 (by decide +kernel) rfl⟩
theorem lkM_X7_237 : MLkV RX7 237 mX7_tryMove 3 := ⟨⟨gm 1119 (by decide +kernel) rfl, gm 85 (by decide +kernel) rfl, Or.inl (gm 1116 (by decide +kernel) rfl), by decide +kernel, by decide +kernel, by decide +kernel⟩, gm 1118 (by decide +kernel) rfl, gm 62 (by decide +kernel) rfl⟩
theorem lkM_X7_217 : MLkV RX7 217 mX7_layTried 0 := ⟨⟨gm 1123 (by decide +kernel) rfl, gm 85 (by decide +kernel) rfl, Or.inl (gm 1120 (by decide +kernel) rfl), by decide +kernel, by decide +kernel, by decide +kernel⟩, gm 1122 (by decide +kernel) rfl, gm 63 (by decide +kernel) rfl⟩
theorem lkM_X7_220 : MLkV RX7 220 mX7_lay 5 := ⟨⟨gm 1127 (by decide +kernel) rfl, gm 85 (by decide +kernel) rfl, Or.inl (gm 1124 (by decide +kernel) rfl), by decide +kernel, by decide +kernel, by decide +kernel⟩, gm 1126 (by decide +kernel) rfl, gm 64 (by decide +kernel) rfl⟩
theorem lkM_X7_241 : MLkV RX7 241 mX7_whereTried 0 := ⟨⟨gm 1131 (by decide +kernel) rfl, gm 85 (by decide +kernel) rfl, Or.inl (gm 1128 (by decide +kernel) rfl), by decide +kernel, by decide +kernel, by decide +kernel⟩, gm 1130 (by decide +kernel) rfl, gm 65 (by decide +kernel) rfl⟩
theorem lkM_X7_230 : MLkV RX7 230 mX7_isOther 2 := ⟨⟨gm 1135 (by decide +kernel) rfl, gm 85 (by decide +kernel) rfl, Or.inl (gm 1132 (by decide +kernel) rfl), by decide +kernel, by decide +kernel, by decide +kernel⟩, gm 1134 (by decide +kernel) rfl, gm 66 (by decide +kernel) rfl⟩
theorem lkM_L_75 : MLkV RL 75 mX7_where 3 := ⟨⟨gm 1139 (by decide +kernel) rfl, gm 85 (by decide +kernel) rfl, Or.inl (gm 1136 (by decide +kernel) rfl), by decide +kernel, by decide +kernel, by decide +kernel⟩, gm 1137 (by decide +kernel) rfl, gm 1138 (by decide +kernel) rfl⟩
theorem lkM_L_79 : MLkV RL 79 mX7_move 3 := ⟨⟨gm 1143 (by decide +kernel) rfl, gm 85 (by decide +kernel) rfl, Or.inl (gm 1140 (by decide +kernel) rfl), by decide +kernel, by decide +kernel, by decide +kernel⟩, gm 1141 (by decide +kernel) rfl, gm 1142 (by decide +kernel) rfl⟩
theorem lkM_L_83 : MLkV RL 83 mX7_undo 0 := ⟨⟨gm 1147 (by decide +kernel) rfl, gm 85 (by decide +kernel) rfl, Or.inl (gm 1144 (by decide +kernel) rfl), by decide +kernel, by decide +kernel, by decide +kernel⟩, gm 1145 (by decide +kernel) rfl, gm 1146 (by decide +kernel) rfl⟩
theorem lkM_L_87 : MLkV RL 87 mX7_moves 1 := ⟨⟨gm 1151 (by decide +kernel) rfl, gm 85 (by decide +kernel) rfl, Or.inl (gm 1148 (by decide +kernel) rfl), by decide +kernel, by decide +kernel, by decide +kernel⟩, gm 1149 (by decide +kernel) rfl, gm 1150 (by decide +kernel) rfl⟩
theorem lkM_X7_265 : MLkV RX7 265 mX7_layMoves 0 := ⟨⟨gm 1155 (by decide +kernel) rfl, gm 85 (by decide +kernel) rfl, Or.inl (gm 1152 (by decide +kernel) rfl), by decide +kernel, by decide +kernel, by decide +kernel⟩, gm 1154 (by decide +kernel) rfl, gm 67 (by decide +kernel) rfl⟩
theorem lkM_L_91 : MLkV RL 91 mX7_contract 1 := ⟨⟨gm 1159 (by decide +kernel) rfl, gm 85 (by decide +kernel) rfl, Or.inl (gm 1156 (by decide +kernel) rfl), by decide +kernel, by decide +kernel, by decide +kernel⟩, gm 1157 (by decide +kernel) rfl, gm 1158 (by decide +kernel) rfl⟩
theorem lkM_L_95 : MLkV RL 95 mX7_fit 2 := ⟨⟨gm 1163 (by decide +kernel) rfl, gm 85 (by decide +kernel) rfl, Or.inl (gm 1160 (by decide +kernel) rfl), by decide +kernel, by decide +kernel, by decide +kernel⟩, gm 1161 (by decide +kernel) rfl, gm 1162 (by decide +kernel) rfl⟩
theorem lkM_X7_274 : MLkV RX7 274 mX7_fitNow 2 := ⟨⟨gm 1167 (by decide +kernel) rfl, gm 85 (by decide +kernel) rfl, Or.inl (gm 1164 (by decide +kernel) rfl), by decide +kernel, by decide +kernel, by decide +kernel⟩, gm 1166 (by decide +kernel) rfl, gm 68 (by decide +kernel) rfl⟩
theorem lkM_X7_271 : MLkS RX7 271 mX7_ones 1 := ⟨⟨gm 1170 (by decide +kernel) rfl, gm 85 (by decide +kernel) rfl, Or.inl (gm 1168 (by decide +kernel) rfl), by decide +kernel, by decide +kernel, by decide +kernel⟩, gm 1169 (by decide +kernel) rfl⟩
theorem lkM_L_99 : MLkV RL 99 mX7_common 1 := ⟨⟨gm 1174 (by decide +kernel) rfl, gm 85 (by decide +kernel) rfl, Or.inl (gm 1171 (by decide +kernel) rfl), by decide +kernel, by decide +kernel, by decide +kernel⟩, gm 1172 (by decide +kernel) rfl, gm 1173 (by decide +kernel) rfl⟩
theorem lkM_L_103 : MLkV RL 103 mX7_dead 1 := ⟨⟨gm 1178 (by decide +kernel) rfl, gm 85 (by decide +kernel) rfl, Or.inl (gm 1175 (by decide +kernel) rfl), by decide +kernel, by decide +kernel, by decide +kernel⟩, gm 1176 (by decide +kernel) rfl, gm 1177 (by decide +kernel) rfl⟩
theorem lkM_X7_280 : MLkV RX7 280 mX7_layMet 0 := ⟨⟨gm 1182 (by decide +kernel) rfl, gm 85 (by decide +kernel) rfl, Or.inl (gm 1179 (by decide +kernel) rfl), by decide +kernel, by decide +kernel, by decide +kernel⟩, gm 1181 (by decide +kernel) rfl, gm 69 (by decide +kernel) rfl⟩
theorem lkM_X7_283 : MLkV RX7 283 mX7_deadNow 1 := ⟨⟨gm 1186 (by decide +kernel) rfl, gm 85 (by decide +kernel) rfl, Or.inl (gm 1183 (by decide +kernel) rfl), by decide +kernel, by decide +kernel, by decide +kernel⟩, gm 1185 (by decide +kernel) rfl, gm 70 (by decide +kernel) rfl⟩
theorem lkM_L_107 : MLkV RL 107 mX7_count 1 := ⟨⟨gm 1190 (by decide +kernel) rfl, gm 85 (by decide +kernel) rfl, Or.inl (gm 1187 (by decide +kernel) rfl), by decide +kernel, by decide +kernel, by decide +kernel⟩, gm 1188 (by decide +kernel) rfl, gm 1189 (by decide +kernel) rfl⟩
theorem lkM_X7_292 : MLkV RX7 292 mX7_howMany 1 := ⟨⟨gm 1194 (by decide +kernel) rfl, gm 85 (by decide +kernel) rfl, Or.inl (gm 1191 (by decide +kernel) rfl), by decide +kernel, by decide +kernel, by decide +kernel⟩, gm 1193 (by decide +kernel) rfl, gm 71 (by decide +kernel) rfl⟩
theorem lkM_X7_286 : MLkV RX7 286 mX7_deadMany 0 := ⟨⟨gm 1198 (by decide +kernel) rfl, gm 85 (by decide +kernel) rfl, Or.inl (gm 1195 (by decide +kernel) rfl), by decide +kernel, by decide +kernel, by decide +kernel⟩, gm 1197 (by decide +kernel) rfl, gm 72 (by decide +kernel) rfl⟩
theorem lkM_X7_289 : MLkV RX7 289 mX7_missingMany 0 := ⟨⟨gm 1202 (by decide +kernel) rfl, gm 85 (by decide +kernel) rfl, Or.inl (gm 1199 (by decide +kernel) rfl), by decide +kernel, by decide +kernel, by decide +kernel⟩, gm 1201 (by decide +kernel) rfl, gm 73 (by decide +kernel) rfl⟩
theorem lkM_L_112 : MLkV RL 112 mX7_digest 0 := ⟨⟨gm 1206 (by decide +kernel) rfl, gm 85 (by decide +kernel) rfl, Or.inl (gm 1203 (by decide +kernel) rfl), by decide +kernel, by decide +kernel, by decide +kernel⟩, gm 1204 (by decide +kernel) rfl, gm 1205 (by decide +kernel) rfl⟩
theorem lkM_X7_310 : MLkV RX7 310 mX7_mixTypes 0 := ⟨⟨gm 1211 (by decide +kernel) rfl, gm 85 (by decide +kernel) rfl, Or.inl (gm 1208 (by decide +kernel) rfl), by decide +kernel, by decide +kernel, by decide +kernel⟩, gm 1210 (by decide +kernel) rfl, gm 74 (by decide +kernel) rfl⟩
theorem lkM_X7_301 : MLkV RX7 301 mX7_mix 1 := ⟨⟨gm 1215 (by decide +kernel) rfl, gm 85 (by decide +kernel) rfl, Or.inl (gm 1212 (by decide +kernel) rfl), by decide +kernel, by decide +kernel, by decide +kernel⟩, gm 1214 (by decide +kernel) rfl, gm 75 (by decide +kernel) rfl⟩
theorem lkM_X7_305 : MLkV RX7 305 mX7_mixMethod 2 := ⟨⟨gm 1220 (by decide +kernel) rfl, gm 85 (by decide +kernel) rfl, Or.inl (gm 1217 (by decide +kernel) rfl), by decide +kernel, by decide +kernel, by decide +kernel⟩, gm 1219 (by decide +kernel) rfl, gm 76 (by decide +kernel) rfl⟩
end
section
/-! the small machine: ints as Int, cells by their numbers -/
abbrev MV : Type := Int ⊕ (Int ⊕ Nat)
abbrev vI (z : Int) : MV := Sum.inl z
abbrev vL (z : Int) : MV := Sum.inr (Sum.inl z)
abbrev vR (k : Nat) : MV := Sum.inr (Sum.inr k)
abbrev Om : Type := Nat → Int → Int
/-- the launch, the classes' numbers, the cells' addresses, the classes of int[] and boolean[] -/
abbrev Cx : Type := Launch × va_G × (Nat → Nat) × ClassId × ClassId
def InR (z : Int) : Prop := -2147483648 ≤ z ∧ z ≤ 2147483647
def InL (z : Int) : Prop := -9223372036854775808 ≤ z ∧ z ≤ 9223372036854775807
def RV : MV → Prop
  | .inl z => InR z
  | .inr (.inl z) => InL z
  | .inr (.inr _) => True
def emb (X : Cx) : MV → Value
  | .inl z => .int (Int32.ofInt z)
  | .inr (.inl z) => .long (Int64.ofInt z)
  | .inr (.inr k) => .ref (X.2.2.1 k)
def isL (k : Nat) (j : Int) : Bool := (k == 4 && j == 5) || (k == 5 && j == 5) || (k == 29 && j == 44)
def ROm (ω : Om) : Prop := (∀ k j, isL k j = false → InR (ω k j)) ∧ ∀ k j, InL (ω k j)
def up (ω : Om) (k : Nat) (i z : Int) : Om := fun k' i' => if k' = k ∧ i' = i then z else ω k' i'
theorem InR.L {z : Int} (h : InR z) : InL z := by unfold InR InL at *; omega
theorem up_s {ω : Om} {k : Nat} {i z : Int} : up ω k i z k i = z := by simp [up]
theorem up_k {ω : Om} {k k' : Nat} {i i' z : Int} (h : k' ≠ k) : up ω k i z k' i' = ω k' i' := by simp [up, h]
theorem up_i {ω : Om} {k k' : Nat} {i i' z : Int} (h : i' ≠ i) : up ω k i z k' i' = ω k' i' := by simp [up, h]
theorem ROm_up {ω : Om} (h : ROm ω) {k : Nat} {i z : Int} (hz : InR z) : ROm (up ω k i z) := by
  refine ⟨fun k' j hl => ?_, fun k' j => ?_⟩
  · by_cases e : k' = k ∧ j = i
    · rw [e.1, e.2, up_s]; exact hz
    · show InR (if k' = k ∧ j = i then z else ω k' j)
      rw [if_neg e]; exact h.1 k' j hl
  · by_cases e : k' = k ∧ j = i
    · rw [e.1, e.2, up_s]; exact hz.L
    · show InL (if k' = k ∧ j = i then z else ω k' j)
      rw [if_neg e]; exact h.2 k' j
theorem ROm_upL {ω : Om} (h : ROm ω) {k : Nat} {i z : Int} (hz : InL z) (hl0 : isL k i = true) : ROm (up ω k i z) := by
  refine ⟨fun k' j hl => ?_, fun k' j => ?_⟩
  · by_cases e : k' = k ∧ j = i
    · rw [e.1, e.2, hl0] at hl; cases hl
    · show InR (if k' = k ∧ j = i then z else ω k' j)
      rw [if_neg e]; exact h.1 k' j hl
  · by_cases e : k' = k ∧ j = i
    · rw [e.1, e.2, up_s]; exact hz
    · show InL (if k' = k ∧ j = i then z else ω k' j)
      rw [if_neg e]; exact h.2 k' j
/-- a cell's shape: 0 an int[], 1 a boolean[], c+2 an object of class c; its length; its fields: 0 an int, 1 a long, c+2 a reference to cell c -/
def lay : List (Nat × Nat × List Nat) := [(8, 7, [3, 4, 5, 7, 8, 9, 0]),
  (3, 2, [10, 0]),
  (4, 9, [11, 12, 13, 0, 0, 0, 0, 0, 0]),
  (7, 10, [14, 15, 16, 17, 18, 19, 20, 0, 0, 0]),
  (6, 9, [5, 21, 22, 23, 24, 1, 0, 0, 0]),
  (5, 8, [5, 6, 25, 26, 27, 1, 0, 0]),
  (2, 14, [5, 6, 7, 28, 29, 30, 0, 0, 0, 0, 0, 0, 0, 0]),
  (0, 6, []),
  (0, 40, []),
  (0, 12, []),
  (0, 12, []),
  (0, 72, []),
  (0, 8, []),
  (1, 8, []),
  (0, 96, []),
  (0, 8, []),
  (0, 8, []),
  (0, 40, []),
  (0, 240, []),
  (0, 60, []),
  (0, 40, []),
  (0, 40, []),
  (0, 40, []),
  (0, 2880, []),
  (0, 48, []),
  (0, 48, []),
  (0, 168, []),
  (0, 21, []),
  (0, 21, []),
  (9, 45, [0, 32, 0, 33, 34, 35, 36, 0, 0, 37, 38, 39, 0, 40, 41, 0, 42, 0, 0, 0, 0, 0, 0, 0, 43, 44, 45, 0, 0, 46, 47, 0, 0, 48, 49, 50, 0, 51, 52, 0, 0, 0, 53, 0, 1]),
  (0, 40, []),
  (0, 8, []),
  (1, 8, []),
  (0, 192, []),
  (0, 16, []),
  (0, 40, []),
  (0, 40, []),
  (0, 240, []),
  (0, 1920, []),
  (0, 160, []),
  (0, 6, []),
  (0, 6, []),
  (0, 6, []),
  (0, 36, []),
  (0, 60, []),
  (0, 60, []),
  (0, 61, []),
  (0, 61, []),
  (0, 61, []),
  (0, 60, []),
  (0, 60, []),
  (1, 40, [])]
def fv (X : Cx) (ω : Om) (k j : Nat) (code : Nat) : Value := match code with
  | 0 => .int (Int32.ofInt (ω k j))
  | 1 => .long (Int64.ofInt (ω k j))
  | c + 2 => .ref (X.2.2.1 c)
def cellOf (X : Cx) (ω : Om) (k : Nat) (L : Nat × Nat × List Nat) : va_E := match L.1 with
  | 0 => .inl (X.2.2.2.1, L.2.1, .inl (fun j => Int32.ofInt (ω k j)))
  | 1 => .inl (X.2.2.2.2, L.2.1, .inl (fun j => Int32.ofInt (ω k j)))
  | c + 2 => .inr (c, L.2.2.mapIdx (fun j code => fv X ω k j code))
def pic (X : Cx) (ω : Om) : va_W := lay.mapIdx (fun k L => (X.2.2.1 k, cellOf X ω k L))
def fcode (k ci j : Nat) : Option Nat := match lay[k]? with
  | some (c, _, fl) => if c = ci + 2 then fl[j]? else none
  | none => none
def acode (k : Nat) : Option (Nat × Nat) := match lay[k]? with
  | some (c, n, _) => some (c, n)
  | none => none
def tysX (X : Cx) : List (ClassId × FieldType) := [(X.2.2.2.1, .int), (X.2.2.2.2, .boolean)]
def AX (X : Cx) : Nat → Prop := fun q => ∃ k, k < 52 ∧ q = X.2.2.1 k
def InjX (X : Cx) : Prop := ∀ i j, i < 52 → j < 52 → X.2.2.1 i = X.2.2.1 j → i = j
theorem lay_len : lay.length = 52 := by decide +kernel
theorem pic_len (X : Cx) (ω : Om) : (pic X ω).length = 52 := by simp [pic, lay_len]
theorem pic_get (X : Cx) (ω : Om) (k : Nat) : (pic X ω)[k]? = (lay[k]?).map (fun L => (X.2.2.1 k, cellOf X ω k L)) := by simp [pic, List.getElem?_mapIdx]
theorem pic_obj (X : Cx) (ω : Om) {k ci j code : Nat} (h : fcode k ci j = some code) : ∃ fl : List Nat, (pic X ω)[k]? = some (X.2.2.1 k, .inr (ci, fl.mapIdx (fun j code => fv X ω k j code))) ∧ fl[j]? = some code ∧ ∃ n, lay[k]? = some (ci + 2, n, fl) := by
  unfold fcode at h
  cases hl : lay[k]? with
  | none => rw [hl] at h; cases h
  | some L =>
    obtain ⟨c, n, fl⟩ := L
    rw [hl] at h
    by_cases hc : c = ci + 2
    · subst hc
      simp only [if_true] at h
      exact ⟨fl, by rw [pic_get, hl]; rfl, h, n, rfl⟩
    · simp only [hc, if_false] at h
      cases h
theorem lay_lt {k : Nat} {L : Nat × Nat × List Nat} (h : lay[k]? = some L) : k < 52 := by
  rw [← lay_len]; exact (List.getElem?_eq_some_iff.mp h).1
theorem pic_D {X : Cx} {A : Nat → Prop} (ω : Om) (hI : InjX X) (hA : ∀ k, k < 52 → A (X.2.2.1 k)) : va_D A (pic X ω) := by
  have key : ∀ (i : Nat) (q : Nat × va_E), (pic X ω)[i]? = some q → i < 52 ∧ q.1 = X.2.2.1 i := by
    intro i q h
    rw [pic_get] at h
    cases hl : lay[i]? with
    | none => rw [hl] at h; cases h
    | some L => rw [hl] at h; cases h; exact ⟨lay_lt hl, rfl⟩
  refine ⟨fun i j p q hp hq e => ?_, fun k q h => ?_⟩
  · obtain ⟨a1, a2⟩ := key i p hp
    obtain ⟨b1, b2⟩ := key j q hq
    exact hI i j a1 b1 (by rw [← a2, ← b2, e])
  · obtain ⟨a1, a2⟩ := key k q h
    rw [a2]; exact hA k a1
theorem cellOf_ne {X : Cx} {ω : Om} {k k' : Nat} {i z : Int} (h : k' ≠ k) (L : Nat × Nat × List Nat) : cellOf X (up ω k i z) k' L = cellOf X ω k' L := by
  have e : ∀ j : Int, up ω k i z k' j = ω k' j := fun j => up_k h
  obtain ⟨c, n, fl⟩ := L
  match c with
  | 0 => simp only [cellOf, e]
  | 1 => simp only [cellOf, e]
  | c + 2 =>
    simp only [cellOf]
    congr 2
    congr 1
    funext j code
    match code with
    | 0 => simp only [fv, e]
    | 1 => simp only [fv, e]
    | c + 2 => rfl
theorem pic_set {X : Cx} {ω : Om} {k : Nat} {i z : Int} {e : va_E} {L : Nat × Nat × List Nat} (hl : lay[k]? = some L) (he : cellOf X (up ω k i z) k L = e) : (pic X ω).set k (X.2.2.1 k, e) = pic X (up ω k i z) := by
  apply List.ext_getElem?
  intro q
  rw [List.getElem?_set, pic_get X (up ω k i z)]
  by_cases hq : k = q
  · subst hq
    rw [if_pos rfl, if_pos (by rw [pic_len]; exact lay_lt hl), hl, ← he]
    rfl
  · rw [if_neg hq, pic_get]
    cases lay[q]? with
    | none => rfl
    | some L' => simp only [Option.map_some, cellOf_ne (fun h => hq h.symm)]
theorem fl_set {X : Cx} {ω : Om} {k j : Nat} {z : Int} {fl : List Nat} {code : Nat} (hf : fl[j]? = some code) (v : Value) (hv : fv X (up ω k j z) k j code = v) : fl.mapIdx (fun a code => fv X (up ω k j z) k a code) = (fl.mapIdx (fun a code => fv X ω k a code)).set j v := by
  apply List.ext_getElem?
  intro q
  rw [List.getElem?_set]
  by_cases hq : j = q
  · subst hq
    have hlt := (List.getElem?_eq_some_iff.mp hf).1
    rw [if_pos rfl, if_pos (by simpa using hlt)]
    simp [List.getElem?_mapIdx, hf, hv]
  · rw [if_neg hq]
    simp only [List.getElem?_mapIdx]
    cases fl[q]? with
    | none => rfl
    | some c =>
      have e : up ω k j z k q = ω k q := up_i (fun h => hq (by omega))
      simp only [Option.map_some]
      match c with
      | 0 => simp only [fv, e]
      | 1 => simp only [fv, e]
      | c + 2 => rfl
/-- the locals, by their places -/
def lvl (X : Cx) : Nat → List (Option MV) → List (Nat × Value)
  | _, [] => []
  | i, none :: r => lvl X (i + 1) r
  | i, some v :: r => (i, emb X v) :: lvl X (i + 1) r
theorem lvl_mem {X : Cx} : ∀ (lv : List (Option MV)) (n : Nat) (q : Nat × Value), q ∈ lvl X n lv ↔ ∃ j v, q = (n + j, emb X v) ∧ lv[j]? = some (some v) := by
  intro lv
  induction lv with
  | nil => intro n q; simp [lvl]
  | cons a r ih =>
    intro n q
    have tail : q ∈ lvl X (n + 1) r ↔ ∃ j v, q = (n + (j + 1), emb X v) ∧ (a :: r)[j + 1]? = some (some v) := by
      rw [ih]
      constructor
      · rintro ⟨j, v, h1, h2⟩; exact ⟨j, v, by rw [h1]; congr 1; omega, by simpa using h2⟩
      · rintro ⟨j, v, h1, h2⟩; exact ⟨j, v, by rw [h1]; congr 1; omega, by simpa using h2⟩
    cases a with
    | none =>
      simp only [lvl]
      rw [tail]
      constructor
      · rintro ⟨j, v, h⟩; exact ⟨j + 1, v, h⟩
      · rintro ⟨j, v, h1, h2⟩
        cases j with
        | zero => simp at h2
        | succ j => exact ⟨j, v, h1, h2⟩
    | some v0 =>
      simp only [lvl, List.mem_cons]
      rw [tail]
      constructor
      · rintro (h | ⟨j, v, h⟩)
        · exact ⟨0, v0, by simpa using h, rfl⟩
        · exact ⟨j + 1, v, h⟩
      · rintro ⟨j, v, h1, h2⟩
        cases j with
        | zero => left; simp at h2; subst h2; simpa using h1
        | succ j => exact Or.inr ⟨j, v, h1, h2⟩
theorem lvl_at {X : Cx} {ls : Array Slot} {nL : Nat} {lv : List (Option MV)} (h : lv_has ls nL (lvl X 0 lv)) {i : Nat} {v : MV} (hi : lv[i]? = some (some v)) : ls[i]? = some (.val (emb X v)) :=
  h.2.2 (i, emb X v) ((lvl_mem lv 0 _).mpr ⟨i, v, by simp, hi⟩)
def noL (o : Option (Option MV)) : Bool := match o with
  | some (some (.inr (.inl _))) => false
  | _ => true
theorem cat_noL {X : Cx} {v : MV} (h : noL (some (some v)) = true) : (emb X v).category = 1 := by
  match v, h with
  | .inl z, _ => rfl
  | .inr (.inr k), _ => rfl
theorem emb_cat1 {X : Cx} {v : MV} (h : (emb X v).category = 2) : noL (some (some v)) = false := by
  match v, h with
  | .inr (.inl z), _ => rfl
theorem lvl_set {X : Cx} {ls : Array Slot} {nL i : Nat} {lv : List (Option MV)} {v : MV} (hno : i = 0 ∨ noL lv[i - 1]? = true)
    (h : lv_has ls nL ((i, emb X v) :: (lvl X 0 lv).filter (fun q => !(q.1 == i) && !(q.1 + 1 == i && q.2.category == 2)))) : lv_has ls nL (lvl X 0 (lv.set i (some v))) := by
  refine ⟨h.1, h.2.1, fun q hq => h.2.2 q ?_⟩
  obtain ⟨j, w, h1, h2⟩ := (lvl_mem _ 0 _).mp hq
  subst h1
  rw [List.getElem?_set] at h2
  by_cases hj : i = j
  · subst hj
    rw [if_pos rfl] at h2
    split at h2
    · cases h2; simp
    · cases h2
  · rw [if_neg hj] at h2
    refine List.mem_cons_of_mem _ (List.mem_filter.mpr ⟨(lvl_mem lv 0 _).mpr ⟨j, w, rfl, h2⟩, ?_⟩)
    simp only [Nat.zero_add, Bool.and_eq_true, Bool.not_eq_true', beq_eq_false_iff_ne, ne_eq, Bool.and_eq_false_iff]
    refine ⟨fun e => hj e.symm, ?_⟩
    by_cases e : j + 1 = i
    · right
      intro hc
      rcases hno with h0 | h0
      · omega
      · rw [show i - 1 = j from by omega, h2] at h0
        rw [emb_cat1 hc] at h0
        cases h0
    · left; exact e
theorem lvl_set2 {X : Cx} {ls : Array Slot} {nL i : Nat} {lv : List (Option MV)} {v : MV} (hno : i = 0 ∨ noL lv[i - 1]? = true)
    (h : lv_has ls nL ((i, emb X v) :: (lvl X 0 lv).filter (fun q => !(q.1 == i) && (!(q.1 == i + 1) && !(q.1 + 1 == i && q.2.category == 2))))) : lv_has ls nL (lvl X 0 ((lv.set i (some v)).set (i + 1) none)) := by
  refine ⟨h.1, h.2.1, fun q hq => h.2.2 q ?_⟩
  obtain ⟨j, w, h1, h2⟩ := (lvl_mem _ 0 _).mp hq
  subst h1
  rw [List.getElem?_set] at h2
  by_cases hj1 : i + 1 = j
  · rw [if_pos hj1] at h2
    split at h2
    · cases h2
    · cases h2
  · rw [if_neg hj1, List.getElem?_set] at h2
    by_cases hj : i = j
    · subst hj
      rw [if_pos rfl] at h2
      split at h2
      · cases h2; simp
      · cases h2
    · rw [if_neg hj] at h2
      refine List.mem_cons_of_mem _ (List.mem_filter.mpr ⟨(lvl_mem lv 0 _).mpr ⟨j, w, rfl, h2⟩, ?_⟩)
      simp only [Nat.zero_add, Bool.and_eq_true, Bool.not_eq_true', beq_eq_false_iff_ne, ne_eq, Bool.and_eq_false_iff]
      refine ⟨fun e => hj e.symm, fun e => hj1 e.symm, ?_⟩
      by_cases e : j + 1 = i
      · right
        intro hc
        rcases hno with h0 | h0
        · omega
        · rw [show i - 1 = j from by omega, h2] at h0
          rw [emb_cat1 hc] at h0
          cases h0
      · left; exact e
end
section
/-! judgements of the small machine -/
def rmD (d : Nat) : Room := { frames := d + 1, cells := 0, slots := 0, locals := 40 * d + 12 }
def PcX (X : Cx) (as : List MV) (ω : Om) : Array Value → State → Prop := fun v U => v = (as.map (emb X)).toArray ∧ (∀ a ∈ as, RV a) ∧ ROm ω ∧ InjX X ∧ va_P X.2.1 vwCl (pic X ω) U.heap ∧ va_K X.2.1 vwCl (tysX X) U ∧ ∀ w ∈ nTbl, va_Nw w U
def QcX (X : Cx) (Q : Option MV → Om → Prop) : Array Value → State → Outcome → State → Prop := fun _ st oc t => ∃ (r : Option MV) (ω : Om), oc = .returned (r.map (emb X)) ∧ (∀ v, r = some v → RV v) ∧ ROm ω ∧ Q r ω ∧ va_P X.2.1 vwCl (pic X ω) t.heap ∧ va_F (AX X) st t
/-- the method's contract at these arguments and cells: it returns, and Q of its answer and the cells behind it -/
def Mc (X : Cx) (y : MD) (d : Nat) (as : List MV) (ω : Om) (Q : Option MV → Om → Prop) : Prop :=
  Met X.1 y.1 (cdw y :: gTbl) (rmD d) (PcX X as ω) (QcX X Q) 0 0 (AX X)
def Act (X : Cx) (A : Nat → Prop) (own : String) (cc : ByteArray) (nL : Nat) (p : Program) (s : State) (m : MethodId) (args : Array Value) (c : Code) : Prop :=
  p.tables.exec = Jvm.exec ∧ c.code = cc ∧ c.maxLocals = nL ∧ s.vm.findClass own = some m.cls ∧ (∀ w ∈ gTbl, w.before args s = true) ∧ (∀ w ∈ nTbl, va_Nw w s) ∧ va_K X.2.1 vwCl (tysX X) s ∧ InjX X ∧ ∀ k, k < 52 → A (X.2.2.1 k)
abbrev PT : Type := Program → Env → Room → State → MethodId → Array Value → List Frame → Method → Code → Nat → Nat → (State → Prop) → Prop
/-- from here on, at this place, with these locals, this stack, these cells: the machine comes to what is asked -/
def J (X : Cx) (A : Nat → Prop) (own : String) (cc : ByteArray) (nL : Nat) (P : PT) (pc : Nat) (lv : List (Option MV)) (st : List MV) (ω : Om) : Prop :=
  ∀ (p : Program) (e : Env) (R : Room) (s : State) (m : MethodId) (args : Array Value) (below : List Frame) (meth : Method) (c : Code) (cells slots : Nat) (Qm : State → Prop),
    Act X A own cc nL p s m args c → P p e R s m args below meth c cells slots Qm →
    ∀ (H : Heap) (locs : List Loc) (ls : Array Slot), (∀ v ∈ st, RV v) → (∀ v, some v ∈ lv → RV v) → ROm ω → va_P X.2.1 vwCl (pic X ω) H → va_S A s.heap H locs → lv_has ls nL (lvl X 0 lv) →
      W p X.1 e R s m args below meth c H locs cells slots Qm (F0 m pc ls (st.map (emb X)))
def Pm (X : Cx) (y : MD) (d : Nat) (Q : Option MV → Om → Prop) : PT := fun _ _ R s _ args below meth _ cells slots Qm => meth.sig.returnType = y.2.2.2 ∧ meth.locks = false ∧ R = rmD d ∧ cells = 0 ∧ slots = 0 ∧ Qm = MQ below (QcX X Q) args s 0 0 (AX X)
/-- inside a method -/
abbrev JM (X : Cx) (y : MD) (d : Nat) (Q : Option MV → Om → Prop) (pc : Nat) (lv : List (Option MV)) (st : List MV) (ω : Om) : Prop := J X (AX X) y.1.cls y.2.1 y.2.2.1 (Pm X y d Q) pc lv st ω
section JR
variable {X : Cx} {A : Nat → Prop} {own : String} {cc : ByteArray} {nL : Nat} {P : PT} {pc : Nat} {lv : List (Option MV)} {st : List MV} {ω : Om}
theorem i32_of {z : Int} (h : InR z) : (Int32.ofInt z).toInt = z := Int32.toInt_ofInt_of_le (by have := h.1; omega) (by have := h.2; omega)
theorem i64_of {z : Int} (h : InL z) : (Int64.ofInt z).toInt = z := Int64.toInt_ofInt_of_le (by have := h.1; omega) (by have := h.2; omega)
theorem i32_R (x : Int32) : InR x.toInt := ⟨by have := x.le_toInt; omega, by have := x.toInt_lt; omega⟩
theorem i64_L (x : Int64) : InL x.toInt := ⟨by have := x.le_toInt; omega, by have := x.toInt_lt; omega⟩
theorem i32_lt {x y : Int} (hx : InR x) (hy : InR y) : Int32.ofInt x < Int32.ofInt y ↔ x < y := by rw [Int32.lt_iff_toInt_lt, i32_of hx, i32_of hy]
theorem i32_le {x y : Int} (hx : InR x) (hy : InR y) : Int32.ofInt x ≤ Int32.ofInt y ↔ x ≤ y := by rw [Int32.le_iff_toInt_le, i32_of hx, i32_of hy]
theorem i32_eq {x y : Int} (hx : InR x) (hy : InR y) : Int32.ofInt x = Int32.ofInt y ↔ x = y := by rw [← Int32.toInt_inj, i32_of hx, i32_of hy]
theorem InR0 : InR 0 := ⟨by decide, by decide⟩
theorem i32_0 : Int32.ofInt 0 = 0 := by decide
theorem i32_toNat {z : Int} (h : InR z) : (Int32.ofInt z).toNatClampNeg = z.toNat := by rw [← Int32.toNat_toInt, i32_of h]
theorem st_c {v : MV} {r : List MV} (hv : RV v) (hr : ∀ w ∈ r, RV w) : ∀ w ∈ v :: r, RV w := fun w h => by
  rcases List.mem_cons.mp h with rfl | h
  · exact hv
  · exact hr w h
theorem st_t {v : MV} {r : List MV} (h : ∀ w ∈ v :: r, RV w) : ∀ w ∈ r, RV w := fun w hw => h w (List.mem_cons_of_mem _ hw)
theorem st_h {v : MV} {r : List MV} (h : ∀ w ∈ v :: r, RV w) : RV v := h v List.mem_cons_self
theorem lv_s {lv : List (Option MV)} {i : Nat} {v : MV} (hv : RV v) (h : ∀ w, some w ∈ lv → RV w) : ∀ w, some w ∈ lv.set i (some v) → RV w := fun w hw => by
  rcases List.mem_or_eq_of_mem_set hw with q | q
  · exact h w q
  · cases q; exact hv
theorem lv_s0 {lv : List (Option MV)} {i : Nat} (h : ∀ w, some w ∈ lv → RV w) : ∀ w, some w ∈ lv.set i none → RV w := fun w hw => by
  rcases List.mem_or_eq_of_mem_set hw with q | q
  · exact h w q
  · cases q
/-- what the cells hold is in range -/
theorem J_rng (k : ROm ω → J X A own cc nL P pc lv st ω) : J X A own cc nL P pc lv st ω :=
  fun p e R s m args below meth c cells slots Qm hA hP H locs ls h1 h2 h3 h4 h5 h6 => k h3 p e R s m args below meth c cells slots Qm hA hP H locs ls h1 h2 h3 h4 h5 h6
theorem J_rngS {v : MV} (k : RV v → J X A own cc nL P pc lv (v :: st) ω) : J X A own cc nL P pc lv (v :: st) ω :=
  fun p e R s m args below meth c cells slots Qm hA hP H locs ls h1 h2 h3 h4 h5 h6 => k (st_h h1) p e R s m args below meth c cells slots Qm hA hP H locs ls h1 h2 h3 h4 h5 h6
theorem J_rngL {v : MV} (hv : some v ∈ lv) (k : RV v → J X A own cc nL P pc lv st ω) : J X A own cc nL P pc lv st ω :=
  fun p e R s m args below meth c cells slots Qm hA hP H locs ls h1 h2 h3 h4 h5 h6 => k (h2 v hv) p e R s m args below meth c cells slots Qm hA hP H locs ls h1 h2 h3 h4 h5 h6
theorem J_iconst (n : Int) (hd : decode cc pc = .ok (.iconst n, 1)) (hr : InR n) (k : J X A own cc nL P (pc + 1) lv (vI n :: st) ω) : J X A own cc nL P pc lv st ω :=
  fun p e R s m args below meth c cells slots Qm hA hP H locs ls h1 h2 h3 h4 h5 h6 => lv_iconst hA.1 hA.2.1 hd rfl (k p e R s m args below meth c cells slots Qm hA hP H locs ls (st_c hr h1) h2 h3 h4 h5 h6)
theorem J_bipush (n : Int) (hd : decode cc pc = .ok (.bipush n, 2)) (hr : InR n) (hn : (Int8.ofInt n).toInt32 = Int32.ofInt n) (k : J X A own cc nL P (pc + 2) lv (vI n :: st) ω) : J X A own cc nL P pc lv st ω :=
  fun p e R s m args below meth c cells slots Qm hA hP H locs ls h1 h2 h3 h4 h5 h6 => lv_bipush hA.1 hA.2.1 hd hn (k p e R s m args below meth c cells slots Qm hA hP H locs ls (st_c hr h1) h2 h3 h4 h5 h6)
theorem J_sipush (n : Int) (hd : decode cc pc = .ok (.sipush n, 3)) (hr : InR n) (hn : (Int16.ofInt n).toInt32 = Int32.ofInt n) (k : J X A own cc nL P (pc + 3) lv (vI n :: st) ω) : J X A own cc nL P pc lv st ω :=
  fun p e R s m args below meth c cells slots Qm hA hP H locs ls h1 h2 h3 h4 h5 h6 => lv_sipush hA.1 hA.2.1 hd hn (k p e R s m args below meth c cells slots Qm hA hP H locs ls (st_c hr h1) h2 h3 h4 h5 h6)
theorem J_lconst0 (hd : decode cc pc = .ok (.lconst 0, 1)) (k : J X A own cc nL P (pc + 1) lv (vL 0 :: st) ω) : J X A own cc nL P pc lv st ω :=
  fun p e R s m args below meth c cells slots Qm hA hP H locs ls h1 h2 h3 h4 h5 h6 => lv_lconst hA.1 hA.2.1 hd (by decide) (k p e R s m args below meth c cells slots Qm hA hP H locs ls (st_c (show InL 0 from ⟨by decide, by decide⟩) h1) h2 h3 h4 h5 h6)
theorem J_lconst1 (hd : decode cc pc = .ok (.lconst 1, 1)) (k : J X A own cc nL P (pc + 1) lv (vL 1 :: st) ω) : J X A own cc nL P pc lv st ω :=
  fun p e R s m args below meth c cells slots Qm hA hP H locs ls h1 h2 h3 h4 h5 h6 => lv_lconst hA.1 hA.2.1 hd (by decide) (k p e R s m args below meth c cells slots Qm hA hP H locs ls (st_c (show InL 1 from ⟨by decide, by decide⟩) h1) h2 h3 h4 h5 h6)
theorem J_ldcw {index : Nat} {v : Int32} (hw : Cond.constant own index v ∈ gTbl) (hd : decode cc pc = .ok (.ldc_w index, 3)) (k : J X A own cc nL P (pc + 3) lv (vI v.toInt :: st) ω) : J X A own cc nL P pc lv st ω :=
  fun p e R s m args below meth c cells slots Qm hA hP H locs ls h1 h2 h3 h4 h5 h6 => lv_ldcw hA.1 hA.2.1 hA.2.2.2.1 (hA.2.2.2.2.1 _ hw) hd (by
    have q := k p e R s m args below meth c cells slots Qm hA hP H locs ls (st_c (i32_R v) h1) h2 h3 h4 h5 h6
    simp only [List.map_cons, emb, Int32.ofInt_toInt] at q
    exact q)
theorem J_ldc2 {index : Nat} {v : Int64} (hw : Cond.constantLong own index v ∈ gTbl) (hd : decode cc pc = .ok (.ldc2_w index, 3)) (k : J X A own cc nL P (pc + 3) lv (vL v.toInt :: st) ω) : J X A own cc nL P pc lv st ω :=
  fun p e R s m args below meth c cells slots Qm hA hP H locs ls h1 h2 h3 h4 h5 h6 => lv_ldc2 hA.1 hA.2.1 hA.2.2.2.1 (hA.2.2.2.2.1 _ hw) hd (by
    have q := k p e R s m args below meth c cells slots Qm hA hP H locs ls (st_c (i64_L v) h1) h2 h3 h4 h5 h6
    simp only [List.map_cons, emb, Int64.ofInt_toInt] at q
    exact q)
-- locals
theorem lvR {v : MV} {i : Nat} (hi : lv[i]? = some (some v)) (h2 : ∀ w, some w ∈ lv → RV w) : RV v := h2 v (List.mem_of_getElem? hi)
theorem J_iload_n (i : Fin 4) {z : Int} (hd : decode cc pc = .ok (.iload_n i, 1)) (hi : lv[i.val]? = some (some (vI z))) (k : J X A own cc nL P (pc + 1) lv (vI z :: st) ω) : J X A own cc nL P pc lv st ω :=
  fun p e R s m args below meth c cells slots Qm hA hP H locs ls h1 h2 h3 h4 h5 h6 => lv_iload_n hA.1 hA.2.1 hd rfl (lvl_at h6 hi) (k p e R s m args below meth c cells slots Qm hA hP H locs ls (st_c (lvR hi h2) h1) h2 h3 h4 h5 h6)
theorem J_iload (i : Nat) {z : Int} (hd : decode cc pc = .ok (.iload i, 2)) (hi : lv[i]? = some (some (vI z))) (k : J X A own cc nL P (pc + 2) lv (vI z :: st) ω) : J X A own cc nL P pc lv st ω :=
  fun p e R s m args below meth c cells slots Qm hA hP H locs ls h1 h2 h3 h4 h5 h6 => lv_iload hA.1 hA.2.1 hd (lvl_at h6 hi) (k p e R s m args below meth c cells slots Qm hA hP H locs ls (st_c (lvR hi h2) h1) h2 h3 h4 h5 h6)
theorem J_lload_n (i : Fin 4) {z : Int} (hd : decode cc pc = .ok (.lload_n i, 1)) (hi : lv[i.val]? = some (some (vL z))) (k : J X A own cc nL P (pc + 1) lv (vL z :: st) ω) : J X A own cc nL P pc lv st ω :=
  fun p e R s m args below meth c cells slots Qm hA hP H locs ls h1 h2 h3 h4 h5 h6 => lv_lload_n hA.1 hA.2.1 hd rfl (lvl_at h6 hi) (k p e R s m args below meth c cells slots Qm hA hP H locs ls (st_c (lvR hi h2) h1) h2 h3 h4 h5 h6)
theorem J_lload (i : Nat) {z : Int} (hd : decode cc pc = .ok (.lload i, 2)) (hi : lv[i]? = some (some (vL z))) (k : J X A own cc nL P (pc + 2) lv (vL z :: st) ω) : J X A own cc nL P pc lv st ω :=
  fun p e R s m args below meth c cells slots Qm hA hP H locs ls h1 h2 h3 h4 h5 h6 => lv_lload hA.1 hA.2.1 hd (lvl_at h6 hi) (k p e R s m args below meth c cells slots Qm hA hP H locs ls (st_c (lvR hi h2) h1) h2 h3 h4 h5 h6)
theorem J_aload_n (i : Fin 4) {z : Nat} (hd : decode cc pc = .ok (.aload_n i, 1)) (hi : lv[i.val]? = some (some (vR z))) (k : J X A own cc nL P (pc + 1) lv (vR z :: st) ω) : J X A own cc nL P pc lv st ω :=
  fun p e R s m args below meth c cells slots Qm hA hP H locs ls h1 h2 h3 h4 h5 h6 => lv_aload_n hA.1 hA.2.1 hd rfl (lvl_at h6 hi) (k p e R s m args below meth c cells slots Qm hA hP H locs ls (st_c (lvR hi h2) h1) h2 h3 h4 h5 h6)
theorem J_istore_n (i : Fin 4) {z : Int} {lv' : List (Option MV)} (hd : decode cc pc = .ok (.istore_n i, 1)) (hn : i.val < nL) (hno : i.val = 0 ∨ noL lv[i.val - 1]? = true) (hl : lv.set i.val (some (vI z)) = lv') (k : J X A own cc nL P (pc + 1) lv' st ω) : J X A own cc nL P pc lv (vI z :: st) ω :=
  fun p e R s m args below meth c cells slots Qm hA hP H locs ls h1 h2 h3 h4 h5 h6 => lv_istore_n hA.1 hA.2.1 hd rfl h6 hn rfl (fun ls' h => k p e R s m args below meth c cells slots Qm hA hP H locs ls' (st_t h1) (hl ▸ lv_s (st_h h1) h2) h3 h4 h5 (hl ▸ lvl_set (v := vI z) hno h))
theorem J_istore (i : Nat) {z : Int} {lv' : List (Option MV)} (hd : decode cc pc = .ok (.istore i, 2)) (hn : i < nL) (hno : i = 0 ∨ noL lv[i - 1]? = true) (hl : lv.set i (some (vI z)) = lv') (k : J X A own cc nL P (pc + 2) lv' st ω) : J X A own cc nL P pc lv (vI z :: st) ω :=
  fun p e R s m args below meth c cells slots Qm hA hP H locs ls h1 h2 h3 h4 h5 h6 => lv_istore hA.1 hA.2.1 hd h6 hn rfl (fun ls' h => k p e R s m args below meth c cells slots Qm hA hP H locs ls' (st_t h1) (hl ▸ lv_s (st_h h1) h2) h3 h4 h5 (hl ▸ lvl_set (v := vI z) hno h))
theorem J_lstore_n (i : Fin 4) {z : Int} {lv' : List (Option MV)} (hd : decode cc pc = .ok (.lstore_n i, 1)) (hn : i.val + 1 < nL) (hno : i.val = 0 ∨ noL lv[i.val - 1]? = true) (hl : (lv.set i.val (some (vL z))).set (i.val + 1) none = lv') (k : J X A own cc nL P (pc + 1) lv' st ω) : J X A own cc nL P pc lv (vL z :: st) ω :=
  fun p e R s m args below meth c cells slots Qm hA hP H locs ls h1 h2 h3 h4 h5 h6 => lv_lstore_n hA.1 hA.2.1 hd rfl h6 hn rfl (fun ls' h => k p e R s m args below meth c cells slots Qm hA hP H locs ls' (st_t h1) (hl ▸ lv_s0 (lv_s (st_h h1) h2)) h3 h4 h5 (hl ▸ lvl_set2 (v := vL z) hno h))
theorem J_lstore (i : Nat) {z : Int} {lv' : List (Option MV)} (hd : decode cc pc = .ok (.lstore i, 2)) (hn : i + 1 < nL) (hno : i = 0 ∨ noL lv[i - 1]? = true) (hl : (lv.set i (some (vL z))).set (i + 1) none = lv') (k : J X A own cc nL P (pc + 2) lv' st ω) : J X A own cc nL P pc lv (vL z :: st) ω :=
  fun p e R s m args below meth c cells slots Qm hA hP H locs ls h1 h2 h3 h4 h5 h6 => lv_lstore hA.1 hA.2.1 hd h6 hn rfl (fun ls' h => k p e R s m args below meth c cells slots Qm hA hP H locs ls' (st_t h1) (hl ▸ lv_s0 (lv_s (st_h h1) h2)) h3 h4 h5 (hl ▸ lvl_set2 (v := vL z) hno h))
theorem J_iinc (i : Nat) (n : Int) {z : Int} {lv' : List (Option MV)} (hd : decode cc pc = .ok (.iinc i n, 3)) (hn : i < nL) (hi : lv[i]? = some (some (vI z))) (hr : InR (z + n)) (hno : i = 0 ∨ noL lv[i - 1]? = true) (hl : lv.set i (some (vI (z + n))) = lv') (k : J X A own cc nL P (pc + 3) lv' st ω) : J X A own cc nL P pc lv st ω :=
  fun p e R s m args below meth c cells slots Qm hA hP H locs ls h1 h2 h3 h4 h5 h6 => by
    obtain ⟨q, hq⟩ := List.getElem?_of_mem ((lvl_mem (X := X) lv 0 (i, emb X (vI z))).mpr ⟨i, vI z, by simp, hi⟩)
    exact lv_iinc hA.1 hA.2.1 hd h6 hq (v := Int32.ofInt (z + n)) (by rw [Int32.ofInt_add]) hn rfl (fun ls' h => k p e R s m args below meth c cells slots Qm hA hP H locs ls' h1 (hl ▸ lv_s (show RV (vI (z + n)) from hr) h2) h3 h4 h5 (hl ▸ lvl_set (v := vI (z + n)) hno h))
-- arithmetic
def zAnd (x y : Int) : Int := (Int32.ofInt x &&& Int32.ofInt y).toInt
def zOr (x y : Int) : Int := (Int32.ofInt x ||| Int32.ofInt y).toInt
def zXor (x y : Int) : Int := (Int32.ofInt x ^^^ Int32.ofInt y).toInt
def zShl (x y : Int) : Int := (Int32.ofInt x <<< (Int32.ofInt y &&& 31)).toInt
def zShr (x y : Int) : Int := (Int32.ofInt x >>> (Int32.ofInt y &&& 31)).toInt
def zUshr (x y : Int) : Int := (((Int32.ofInt x).toUInt32 >>> ((Int32.ofInt y).toUInt32 &&& Int32.toUInt32 31)).toInt32).toInt
def zAdd (x y : Int) : Int := (Int32.ofInt x + Int32.ofInt y).toInt
def zSub (x y : Int) : Int := (Int32.ofInt x - Int32.ofInt y).toInt
def lAdd (x y : Int) : Int := (Int64.ofInt x + Int64.ofInt y).toInt
def lSub (x y : Int) : Int := (Int64.ofInt x - Int64.ofInt y).toInt
def lMul (x y : Int) : Int := (Int64.ofInt x * Int64.ofInt y).toInt
def lAnd (x y : Int) : Int := (Int64.ofInt x &&& Int64.ofInt y).toInt
def lOr (x y : Int) : Int := (Int64.ofInt x ||| Int64.ofInt y).toInt
def lXor (x y : Int) : Int := (Int64.ofInt x ^^^ Int64.ofInt y).toInt
def lShl (x y : Int) : Int := (Int64.ofInt x <<< ((Int32.ofInt y).toInt64 &&& 63)).toInt
def lShr (x y : Int) : Int := (Int64.ofInt x >>> ((Int32.ofInt y).toInt64 &&& 63)).toInt
def lUshr (x y : Int) : Int := ((Int64.ofInt x).toUInt64 >>> ((Int32.ofInt y).toInt64.toUInt64 &&& Int64.toUInt64 63)).toInt64.toInt
def l2i (x : Int) : Int := (Int64.ofInt x).toInt32.toInt
def lCmp (x y : Int) : Int := if y < x then 1 else if x = y then 0 else -1
theorem lg_cmpZ {x y : Int} (hx : InL x) (hy : InL y) : lg_cmp (Int64.ofInt x) (Int64.ofInt y) = Int32.ofInt (lCmp x y) := by
  have a : Int64.ofInt y < Int64.ofInt x ↔ y < x := by rw [Int64.lt_iff_toInt_lt, i64_of hx, i64_of hy]
  have b : Int64.ofInt x = Int64.ofInt y ↔ x = y := by rw [← Int64.toInt_inj, i64_of hx, i64_of hy]
  unfold lg_cmp lCmp
  simp only [a, b]
  split
  · rfl
  · split <;> rfl
theorem lCmp_R {x y : Int} : InR (lCmp x y) := by
  unfold lCmp InR; split
  · omega
  · split <;> omega
theorem rem_of {x y : Int} (hx : InR x) (hy : InR y) (h0 : 0 ≤ x) (h1 : 0 < y) : Int32.ofInt x - Int32.ofInt x / Int32.ofInt y * Int32.ofInt y = Int32.ofInt (x % y) := by
  have e1 : Int32.ofInt x = nI x.toNat := by
    apply Int32.toInt_inj.mp; rw [i32_of hx, nI_toInt (by have := hx.2; omega)]; omega
  have e2 : Int32.ofInt y = nI y.toNat := by
    apply Int32.toInt_inj.mp; rw [i32_of hy, nI_toInt (by have := hy.2; omega)]; omega
  have hm : x % y < y := Int.emod_lt_of_pos x h1
  have hp : 0 ≤ x % y := Int.emod_nonneg x (by omega)
  have h2 := hy.2
  have h3 := hx.2
  rw [e1, e2, pk_rem (by omega) (by omega) (by omega)]
  apply Int32.toInt_inj.mp
  have hlt : x.toNat % y.toNat < y.toNat := Nat.mod_lt _ (by omega)
  rw [nI_toInt (by omega), i32_of ⟨by omega, by omega⟩, Int.natCast_emod, Int.toNat_of_nonneg h0, Int.toNat_of_nonneg (by omega)]
theorem div_of {x y : Int} (hx : InR x) (hy : InR y) (h0 : 0 ≤ x) (h1 : 0 < y) : Int32.ofInt x / Int32.ofInt y = Int32.ofInt (x / y) := by
  have e1 : Int32.ofInt x = nI x.toNat := by
    apply Int32.toInt_inj.mp; rw [i32_of hx, nI_toInt (by have := hx.2; omega)]; omega
  have e2 : Int32.ofInt y = nI y.toNat := by
    apply Int32.toInt_inj.mp; rw [i32_of hy, nI_toInt (by have := hy.2; omega)]; omega
  have h2 := hy.2
  have h3 := hx.2
  have hle : x / y ≤ x := Int.ediv_le_self y h0
  have hp : 0 ≤ x / y := Int.ediv_nonneg h0 (by omega)
  rw [e1, e2, pk_div (by omega) (by omega) (by omega)]
  apply Int32.toInt_inj.mp
  have hlt : x.toNat / y.toNat ≤ x.toNat := Nat.div_le_self _ _
  rw [nI_toInt (by omega), i32_of ⟨by omega, by omega⟩, Int.natCast_ediv, Int.toNat_of_nonneg h0, Int.toNat_of_nonneg (by omega)]
theorem J_iadd {x y : Int} (hd : decode cc pc = .ok (.iadd, 1)) (hr : InR (x + y)) (k : J X A own cc nL P (pc + 1) lv (vI (x + y) :: st) ω) : J X A own cc nL P pc lv (vI y :: vI x :: st) ω :=
  fun p e R s m args below meth c cells slots Qm hA hP H locs ls h1 h2 h3 h4 h5 h6 => lv_iadd hA.1 hA.2.1 hd (by
    have q := k p e R s m args below meth c cells slots Qm hA hP H locs ls (st_c (show RV (vI (x + y)) from hr) (st_t (st_t h1))) h2 h3 h4 h5 h6
    simp only [List.map_cons, emb, Int32.ofInt_add] at q
    exact q)
theorem J_isub {x y : Int} (hd : decode cc pc = .ok (.isub, 1)) (hr : InR (x - y)) (k : J X A own cc nL P (pc + 1) lv (vI (x - y) :: st) ω) : J X A own cc nL P pc lv (vI y :: vI x :: st) ω :=
  fun p e R s m args below meth c cells slots Qm hA hP H locs ls h1 h2 h3 h4 h5 h6 => lv_isub hA.1 hA.2.1 hd (by
    have q := k p e R s m args below meth c cells slots Qm hA hP H locs ls (st_c (show RV (vI (x - y)) from hr) (st_t (st_t h1))) h2 h3 h4 h5 h6
    simp only [List.map_cons, emb, Int32.ofInt_sub] at q
    exact q)
theorem J_imul {x y : Int} (hd : decode cc pc = .ok (.imul, 1)) (hr : InR (x * y)) (k : J X A own cc nL P (pc + 1) lv (vI (x * y) :: st) ω) : J X A own cc nL P pc lv (vI y :: vI x :: st) ω :=
  fun p e R s m args below meth c cells slots Qm hA hP H locs ls h1 h2 h3 h4 h5 h6 => lv_imul hA.1 hA.2.1 hd (by
    have q := k p e R s m args below meth c cells slots Qm hA hP H locs ls (st_c (show RV (vI (x * y)) from hr) (st_t (st_t h1))) h2 h3 h4 h5 h6
    simp only [List.map_cons, emb, Int32.ofInt_mul] at q
    exact q)
theorem J_iand {x y : Int} (hd : decode cc pc = .ok (.iand, 1)) (k : J X A own cc nL P (pc + 1) lv (vI (zAnd x y) :: st) ω) : J X A own cc nL P pc lv (vI y :: vI x :: st) ω :=
  fun p e R s m args below meth c cells slots Qm hA hP H locs ls h1 h2 h3 h4 h5 h6 => lv_iand hA.1 hA.2.1 hd (by
    have q := k p e R s m args below meth c cells slots Qm hA hP H locs ls (st_c (show RV (vI (zAnd x y)) from i32_R _) (st_t (st_t h1))) h2 h3 h4 h5 h6
    simp only [List.map_cons, emb, zAnd, Int32.ofInt_toInt] at q
    exact q)
theorem J_ior {x y : Int} (hd : decode cc pc = .ok (.ior, 1)) (k : J X A own cc nL P (pc + 1) lv (vI (zOr x y) :: st) ω) : J X A own cc nL P pc lv (vI y :: vI x :: st) ω :=
  fun p e R s m args below meth c cells slots Qm hA hP H locs ls h1 h2 h3 h4 h5 h6 => lv_ior hA.1 hA.2.1 hd (by
    have q := k p e R s m args below meth c cells slots Qm hA hP H locs ls (st_c (show RV (vI (zOr x y)) from i32_R _) (st_t (st_t h1))) h2 h3 h4 h5 h6
    simp only [List.map_cons, emb, zOr, Int32.ofInt_toInt] at q
    exact q)
theorem J_ixor {x y : Int} (hd : decode cc pc = .ok (.ixor, 1)) (k : J X A own cc nL P (pc + 1) lv (vI (zXor x y) :: st) ω) : J X A own cc nL P pc lv (vI y :: vI x :: st) ω :=
  fun p e R s m args below meth c cells slots Qm hA hP H locs ls h1 h2 h3 h4 h5 h6 => lv_ixor hA.1 hA.2.1 hd (by
    have q := k p e R s m args below meth c cells slots Qm hA hP H locs ls (st_c (show RV (vI (zXor x y)) from i32_R _) (st_t (st_t h1))) h2 h3 h4 h5 h6
    simp only [List.map_cons, emb, zXor, Int32.ofInt_toInt] at q
    exact q)
theorem J_ishl {x y : Int} (hd : decode cc pc = .ok (.ishl, 1)) (k : J X A own cc nL P (pc + 1) lv (vI (zShl x y) :: st) ω) : J X A own cc nL P pc lv (vI y :: vI x :: st) ω :=
  fun p e R s m args below meth c cells slots Qm hA hP H locs ls h1 h2 h3 h4 h5 h6 => lv_ishl hA.1 hA.2.1 hd (by
    have q := k p e R s m args below meth c cells slots Qm hA hP H locs ls (st_c (show RV (vI (zShl x y)) from i32_R _) (st_t (st_t h1))) h2 h3 h4 h5 h6
    simp only [List.map_cons, emb, zShl, Int32.ofInt_toInt] at q
    exact q)
theorem J_ishr {x y : Int} (hd : decode cc pc = .ok (.ishr, 1)) (k : J X A own cc nL P (pc + 1) lv (vI (zShr x y) :: st) ω) : J X A own cc nL P pc lv (vI y :: vI x :: st) ω :=
  fun p e R s m args below meth c cells slots Qm hA hP H locs ls h1 h2 h3 h4 h5 h6 => lv_ishr hA.1 hA.2.1 hd (by
    have q := k p e R s m args below meth c cells slots Qm hA hP H locs ls (st_c (show RV (vI (zShr x y)) from i32_R _) (st_t (st_t h1))) h2 h3 h4 h5 h6
    simp only [List.map_cons, emb, zShr, Int32.ofInt_toInt] at q
    exact q)
theorem J_iaddW {x y : Int} (hd : decode cc pc = .ok (.iadd, 1)) (k : J X A own cc nL P (pc + 1) lv (vI (zAdd x y) :: st) ω) : J X A own cc nL P pc lv (vI y :: vI x :: st) ω :=
  fun p e R s m args below meth c cells slots Qm hA hP H locs ls h1 h2 h3 h4 h5 h6 => lv_iadd hA.1 hA.2.1 hd (by
    have q := k p e R s m args below meth c cells slots Qm hA hP H locs ls (st_c (show RV (vI (zAdd x y)) from i32_R _) (st_t (st_t h1))) h2 h3 h4 h5 h6
    simp only [List.map_cons, emb, zAdd, Int32.ofInt_toInt] at q
    exact q)
theorem J_isubW {x y : Int} (hd : decode cc pc = .ok (.isub, 1)) (k : J X A own cc nL P (pc + 1) lv (vI (zSub x y) :: st) ω) : J X A own cc nL P pc lv (vI y :: vI x :: st) ω :=
  fun p e R s m args below meth c cells slots Qm hA hP H locs ls h1 h2 h3 h4 h5 h6 => lv_isub hA.1 hA.2.1 hd (by
    have q := k p e R s m args below meth c cells slots Qm hA hP H locs ls (st_c (show RV (vI (zSub x y)) from i32_R _) (st_t (st_t h1))) h2 h3 h4 h5 h6
    simp only [List.map_cons, emb, zSub, Int32.ofInt_toInt] at q
    exact q)
theorem J_iushr {x y : Int} (hd : decode cc pc = .ok (.iushr, 1)) (k : J X A own cc nL P (pc + 1) lv (vI (zUshr x y) :: st) ω) : J X A own cc nL P pc lv (vI y :: vI x :: st) ω :=
  fun p e R s m args below meth c cells slots Qm hA hP H locs ls h1 h2 h3 h4 h5 h6 => lv_iushr hA.1 hA.2.1 hd rfl (by
    have q := k p e R s m args below meth c cells slots Qm hA hP H locs ls (st_c (show RV (vI (zUshr x y)) from i32_R _) (st_t (st_t h1))) h2 h3 h4 h5 h6
    simp only [List.map_cons, emb, zUshr, Int32.ofInt_toInt] at q
    exact q)
theorem J_irem {x y : Int} (hd : decode cc pc = .ok (.irem, 1)) (h0 : 0 ≤ x) (hy : 0 < y) (k : J X A own cc nL P (pc + 1) lv (vI (x % y) :: st) ω) : J X A own cc nL P pc lv (vI y :: vI x :: st) ω :=
  fun p e R s m args below meth c cells slots Qm hA hP H locs ls h1 h2 h3 h4 h5 h6 => by
    have rx : InR x := st_h (st_t h1)
    have ry : InR y := st_h h1
    have hm : x % y < y := Int.emod_lt_of_pos x hy
    have hp : 0 ≤ x % y := Int.emod_nonneg x (by omega)
    have r2 := ry.2
    have q := k p e R s m args below meth c cells slots Qm hA hP H locs ls (st_c (show RV (vI (x % y)) from ⟨by omega, by omega⟩) (st_t (st_t h1))) h2 h3 h4 h5 h6
    refine lv_irem hA.1 hA.2.1 hd (fun h => ?_) ?_
    · rw [← i32_0, i32_eq ry InR0] at h; omega
    · rw [rem_of rx ry h0 hy]; exact q
theorem J_idiv {x y : Int} (hd : decode cc pc = .ok (.idiv, 1)) (h0 : 0 ≤ x) (hy : 0 < y) (k : J X A own cc nL P (pc + 1) lv (vI (x / y) :: st) ω) : J X A own cc nL P pc lv (vI y :: vI x :: st) ω :=
  fun p e R s m args below meth c cells slots Qm hA hP H locs ls h1 h2 h3 h4 h5 h6 => by
    have rx : InR x := st_h (st_t h1)
    have ry : InR y := st_h h1
    have hle : x / y ≤ x := Int.ediv_le_self y h0
    have hp : 0 ≤ x / y := Int.ediv_nonneg h0 (by omega)
    have r2 := rx.2
    have q := k p e R s m args below meth c cells slots Qm hA hP H locs ls (st_c (show RV (vI (x / y)) from ⟨by omega, by omega⟩) (st_t (st_t h1))) h2 h3 h4 h5 h6
    refine lv_idiv hA.1 hA.2.1 hd (fun h => ?_) ?_
    · rw [← i32_0, i32_eq ry InR0] at h; omega
    · rw [div_of rx ry h0 hy]; exact q
theorem J_i2l {x : Int} (hd : decode cc pc = .ok (.i2l, 1)) (k : J X A own cc nL P (pc + 1) lv (vL x :: st) ω) : J X A own cc nL P pc lv (vI x :: st) ω :=
  fun p e R s m args below meth c cells slots Qm hA hP H locs ls h1 h2 h3 h4 h5 h6 => lv_i2l hA.1 hA.2.1 hd (v := Int64.ofInt x) (by
    have rx : InR x := st_h h1
    apply Int64.toInt_inj.mp; rw [Int32.toInt_toInt64, i32_of rx, i64_of rx.L]) (k p e R s m args below meth c cells slots Qm hA hP H locs ls (st_c (show RV (vL x) from (show InR x from st_h h1).L) (st_t h1)) h2 h3 h4 h5 h6)
theorem J_l2i {x : Int} (hd : decode cc pc = .ok (.l2i, 1)) (k : J X A own cc nL P (pc + 1) lv (vI (l2i x) :: st) ω) : J X A own cc nL P pc lv (vL x :: st) ω :=
  fun p e R s m args below meth c cells slots Qm hA hP H locs ls h1 h2 h3 h4 h5 h6 => lv_l2i hA.1 hA.2.1 hd rfl (by
    have q := k p e R s m args below meth c cells slots Qm hA hP H locs ls (st_c (show RV (vI (l2i x)) from i32_R _) (st_t h1)) h2 h3 h4 h5 h6
    simp only [List.map_cons, emb, l2i, Int32.ofInt_toInt] at q
    exact q)
theorem J_lcmp {x y : Int} (hd : decode cc pc = .ok (.lcmp, 1)) (k : J X A own cc nL P (pc + 1) lv (vI (lCmp x y) :: st) ω) : J X A own cc nL P pc lv (vL y :: vL x :: st) ω :=
  fun p e R s m args below meth c cells slots Qm hA hP H locs ls h1 h2 h3 h4 h5 h6 => W.lcmp hA.1 hA.2.1 hd (by
    have q := k p e R s m args below meth c cells slots Qm hA hP H locs ls (st_c (show RV (vI (lCmp x y)) from lCmp_R) (st_t (st_t h1))) h2 h3 h4 h5 h6
    simp only [List.map_cons, emb] at q
    rw [lg_cmpZ (show InL x from st_h (st_t h1)) (show InL y from st_h h1)]
    exact q)
theorem J_ladd {x y : Int} (hd : decode cc pc = .ok (.ladd, 1)) (k : J X A own cc nL P (pc + 1) lv (vL (lAdd x y) :: st) ω) : J X A own cc nL P pc lv (vL y :: vL x :: st) ω :=
  fun p e R s m args below meth c cells slots Qm hA hP H locs ls h1 h2 h3 h4 h5 h6 => lv_ladd hA.1 hA.2.1 hd (by
    have q := k p e R s m args below meth c cells slots Qm hA hP H locs ls (st_c (show RV (vL (lAdd x y)) from i64_L _) (st_t (st_t h1))) h2 h3 h4 h5 h6
    simp only [List.map_cons, emb, lAdd, Int64.ofInt_toInt] at q
    exact q)
theorem J_lsub {x y : Int} (hd : decode cc pc = .ok (.lsub, 1)) (k : J X A own cc nL P (pc + 1) lv (vL (lSub x y) :: st) ω) : J X A own cc nL P pc lv (vL y :: vL x :: st) ω :=
  fun p e R s m args below meth c cells slots Qm hA hP H locs ls h1 h2 h3 h4 h5 h6 => lv_lsub hA.1 hA.2.1 hd (by
    have q := k p e R s m args below meth c cells slots Qm hA hP H locs ls (st_c (show RV (vL (lSub x y)) from i64_L _) (st_t (st_t h1))) h2 h3 h4 h5 h6
    simp only [List.map_cons, emb, lSub, Int64.ofInt_toInt] at q
    exact q)
theorem J_lmul {x y : Int} (hd : decode cc pc = .ok (.lmul, 1)) (k : J X A own cc nL P (pc + 1) lv (vL (lMul x y) :: st) ω) : J X A own cc nL P pc lv (vL y :: vL x :: st) ω :=
  fun p e R s m args below meth c cells slots Qm hA hP H locs ls h1 h2 h3 h4 h5 h6 => lv_lmul hA.1 hA.2.1 hd (by
    have q := k p e R s m args below meth c cells slots Qm hA hP H locs ls (st_c (show RV (vL (lMul x y)) from i64_L _) (st_t (st_t h1))) h2 h3 h4 h5 h6
    simp only [List.map_cons, emb, lMul, Int64.ofInt_toInt] at q
    exact q)
theorem J_land {x y : Int} (hd : decode cc pc = .ok (.land, 1)) (k : J X A own cc nL P (pc + 1) lv (vL (lAnd x y) :: st) ω) : J X A own cc nL P pc lv (vL y :: vL x :: st) ω :=
  fun p e R s m args below meth c cells slots Qm hA hP H locs ls h1 h2 h3 h4 h5 h6 => lv_land hA.1 hA.2.1 hd (by
    have q := k p e R s m args below meth c cells slots Qm hA hP H locs ls (st_c (show RV (vL (lAnd x y)) from i64_L _) (st_t (st_t h1))) h2 h3 h4 h5 h6
    simp only [List.map_cons, emb, lAnd, Int64.ofInt_toInt] at q
    exact q)
theorem J_lor {x y : Int} (hd : decode cc pc = .ok (.lor, 1)) (k : J X A own cc nL P (pc + 1) lv (vL (lOr x y) :: st) ω) : J X A own cc nL P pc lv (vL y :: vL x :: st) ω :=
  fun p e R s m args below meth c cells slots Qm hA hP H locs ls h1 h2 h3 h4 h5 h6 => lv_lor hA.1 hA.2.1 hd (by
    have q := k p e R s m args below meth c cells slots Qm hA hP H locs ls (st_c (show RV (vL (lOr x y)) from i64_L _) (st_t (st_t h1))) h2 h3 h4 h5 h6
    simp only [List.map_cons, emb, lOr, Int64.ofInt_toInt] at q
    exact q)
theorem J_lxor {x y : Int} (hd : decode cc pc = .ok (.lxor, 1)) (k : J X A own cc nL P (pc + 1) lv (vL (lXor x y) :: st) ω) : J X A own cc nL P pc lv (vL y :: vL x :: st) ω :=
  fun p e R s m args below meth c cells slots Qm hA hP H locs ls h1 h2 h3 h4 h5 h6 => lv_lxor hA.1 hA.2.1 hd (by
    have q := k p e R s m args below meth c cells slots Qm hA hP H locs ls (st_c (show RV (vL (lXor x y)) from i64_L _) (st_t (st_t h1))) h2 h3 h4 h5 h6
    simp only [List.map_cons, emb, lXor, Int64.ofInt_toInt] at q
    exact q)
theorem J_lshl {x y : Int} (hd : decode cc pc = .ok (.lshl, 1)) (k : J X A own cc nL P (pc + 1) lv (vL (lShl x y) :: st) ω) : J X A own cc nL P pc lv (vI y :: vL x :: st) ω :=
  fun p e R s m args below meth c cells slots Qm hA hP H locs ls h1 h2 h3 h4 h5 h6 => lv_lshl hA.1 hA.2.1 hd rfl (by
    have q := k p e R s m args below meth c cells slots Qm hA hP H locs ls (st_c (show RV (vL (lShl x y)) from i64_L _) (st_t (st_t h1))) h2 h3 h4 h5 h6
    simp only [List.map_cons, emb, lShl, Int64.ofInt_toInt] at q
    exact q)
theorem J_lshr {x y : Int} (hd : decode cc pc = .ok (.lshr, 1)) (k : J X A own cc nL P (pc + 1) lv (vL (lShr x y) :: st) ω) : J X A own cc nL P pc lv (vI y :: vL x :: st) ω :=
  fun p e R s m args below meth c cells slots Qm hA hP H locs ls h1 h2 h3 h4 h5 h6 => lv_lshr hA.1 hA.2.1 hd rfl (by
    have q := k p e R s m args below meth c cells slots Qm hA hP H locs ls (st_c (show RV (vL (lShr x y)) from i64_L _) (st_t (st_t h1))) h2 h3 h4 h5 h6
    simp only [List.map_cons, emb, lShr, Int64.ofInt_toInt] at q
    exact q)
theorem J_lushr {x y : Int} (hd : decode cc pc = .ok (.lushr, 1)) (k : J X A own cc nL P (pc + 1) lv (vL (lUshr x y) :: st) ω) : J X A own cc nL P pc lv (vI y :: vL x :: st) ω :=
  fun p e R s m args below meth c cells slots Qm hA hP H locs ls h1 h2 h3 h4 h5 h6 => lv_lushr hA.1 hA.2.1 hd rfl (by
    have q := k p e R s m args below meth c cells slots Qm hA hP H locs ls (st_c (show RV (vL (lUshr x y)) from i64_L _) (st_t (st_t h1))) h2 h3 h4 h5 h6
    simp only [List.map_cons, emb, lUshr, Int64.ofInt_toInt] at q
    exact q)
theorem J_dupR {a : Nat} (hd : decode cc pc = .ok (.dup, 1)) (k : J X A own cc nL P (pc + 1) lv (vR a :: vR a :: st) ω) : J X A own cc nL P pc lv (vR a :: st) ω :=
  fun p e R s m args below meth c cells slots Qm hA hP H locs ls h1 h2 h3 h4 h5 h6 => lv_dup hA.1 hA.2.1 hd rfl (k p e R s m args below meth c cells slots Qm hA hP H locs ls (st_c (st_h h1) h1) h2 h3 h4 h5 h6)
theorem J_dupI {a : Int} (hd : decode cc pc = .ok (.dup, 1)) (k : J X A own cc nL P (pc + 1) lv (vI a :: vI a :: st) ω) : J X A own cc nL P pc lv (vI a :: st) ω :=
  fun p e R s m args below meth c cells slots Qm hA hP H locs ls h1 h2 h3 h4 h5 h6 => lv_dup hA.1 hA.2.1 hd rfl (k p e R s m args below meth c cells slots Qm hA hP H locs ls (st_c (st_h h1) h1) h2 h3 h4 h5 h6)
theorem J_dup2 {a : Int} {b : Nat} (hd : decode cc pc = .ok (.dup2, 1)) (k : J X A own cc nL P (pc + 1) lv (vI a :: vR b :: vI a :: vR b :: st) ω) : J X A own cc nL P pc lv (vI a :: vR b :: st) ω :=
  fun p e R s m args below meth c cells slots Qm hA hP H locs ls h1 h2 h3 h4 h5 h6 => lv_dup2_11 hA.1 hA.2.1 hd rfl rfl (k p e R s m args below meth c cells slots Qm hA hP H locs ls (st_c (st_h h1) (st_c (st_h (st_t h1)) h1)) h2 h3 h4 h5 h6)
theorem J_pop {a : Int} (hd : decode cc pc = .ok (.pop, 1)) (k : J X A own cc nL P (pc + 1) lv st ω) : J X A own cc nL P pc lv (vI a :: st) ω :=
  fun p e R s m args below meth c cells slots Qm hA hP H locs ls h1 h2 h3 h4 h5 h6 => lv_pop hA.1 hA.2.1 hd rfl (k p e R s m args below meth c cells slots Qm hA hP H locs ls (st_t h1) h2 h3 h4 h5 h6)
theorem J_goto (tgt : Nat) {off : Int} (hd : decode cc pc = .ok (.goto off, 3)) (ht : (pc : Int) + off = (tgt : Int)) (k : J X A own cc nL P tgt lv st ω) : J X A own cc nL P pc lv st ω :=
  fun p e R s m args below meth c cells slots Qm hA hP H locs ls h1 h2 h3 h4 h5 h6 => lv_goto hA.1 hA.2.1 hd ht (k p e R s m args below meth c cells slots Qm hA hP H locs ls h1 h2 h3 h4 h5 h6)
theorem J_if_eq {x : Int} (tgt : Nat) {off : Int} (hd : decode cc pc = .ok (.ifCond .eq off, 3)) (ht : (pc : Int) + off = (tgt : Int)) (kt : x = 0 → J X A own cc nL P tgt lv st ω) (kf : ¬ x = 0 → J X A own cc nL P (pc + 3) lv st ω) : J X A own cc nL P pc lv (vI x :: st) ω :=
  fun p e R s m args below meth c cells slots Qm hA hP H locs ls h1 h2 h3 h4 h5 h6 => by
    have rx : InR x := st_h h1
    have ee := i32_eq rx InR0
    rw [i32_0] at ee
    refine lv_if_eq hA.1 hA.2.1 hd ht (fun h => ?_) (fun h => ?_)
    · rw [ee] at h; exact kt h p e R s m args below meth c cells slots Qm hA hP H locs ls (st_t h1) h2 h3 h4 h5 h6
    · rw [ee] at h; exact kf h p e R s m args below meth c cells slots Qm hA hP H locs ls (st_t h1) h2 h3 h4 h5 h6
theorem J_icmp_eq {x y : Int} (tgt : Nat) {off : Int} (hd : decode cc pc = .ok (.if_icmp .eq off, 3)) (ht : (pc : Int) + off = (tgt : Int)) (kt : x = y → J X A own cc nL P tgt lv st ω) (kf : ¬ x = y → J X A own cc nL P (pc + 3) lv st ω) : J X A own cc nL P pc lv (vI y :: vI x :: st) ω :=
  fun p e R s m args below meth c cells slots Qm hA hP H locs ls h1 h2 h3 h4 h5 h6 => by
    have rx : InR x := st_h (st_t h1)
    have ry : InR y := st_h h1
    have ee := i32_eq rx ry
    refine lv_icmp_eq hA.1 hA.2.1 hd ht (fun h => ?_) (fun h => ?_)
    · rw [ee] at h; exact kt h p e R s m args below meth c cells slots Qm hA hP H locs ls (st_t (st_t h1)) h2 h3 h4 h5 h6
    · rw [ee] at h; exact kf h p e R s m args below meth c cells slots Qm hA hP H locs ls (st_t (st_t h1)) h2 h3 h4 h5 h6
theorem J_if_ne {x : Int} (tgt : Nat) {off : Int} (hd : decode cc pc = .ok (.ifCond .ne off, 3)) (ht : (pc : Int) + off = (tgt : Int)) (kt : ¬ x = 0 → J X A own cc nL P tgt lv st ω) (kf : x = 0 → J X A own cc nL P (pc + 3) lv st ω) : J X A own cc nL P pc lv (vI x :: st) ω :=
  fun p e R s m args below meth c cells slots Qm hA hP H locs ls h1 h2 h3 h4 h5 h6 => by
    have rx : InR x := st_h h1
    have ee := i32_eq rx InR0
    rw [i32_0] at ee
    refine lv_if_ne hA.1 hA.2.1 hd ht (fun h => ?_) (fun h => ?_)
    · rw [ee] at h; exact kt h p e R s m args below meth c cells slots Qm hA hP H locs ls (st_t h1) h2 h3 h4 h5 h6
    · rw [ee] at h; exact kf h p e R s m args below meth c cells slots Qm hA hP H locs ls (st_t h1) h2 h3 h4 h5 h6
theorem J_icmp_ne {x y : Int} (tgt : Nat) {off : Int} (hd : decode cc pc = .ok (.if_icmp .ne off, 3)) (ht : (pc : Int) + off = (tgt : Int)) (kt : ¬ x = y → J X A own cc nL P tgt lv st ω) (kf : x = y → J X A own cc nL P (pc + 3) lv st ω) : J X A own cc nL P pc lv (vI y :: vI x :: st) ω :=
  fun p e R s m args below meth c cells slots Qm hA hP H locs ls h1 h2 h3 h4 h5 h6 => by
    have rx : InR x := st_h (st_t h1)
    have ry : InR y := st_h h1
    have ee := i32_eq rx ry
    refine lv_icmp_ne hA.1 hA.2.1 hd ht (fun h => ?_) (fun h => ?_)
    · rw [ee] at h; exact kt h p e R s m args below meth c cells slots Qm hA hP H locs ls (st_t (st_t h1)) h2 h3 h4 h5 h6
    · rw [ee] at h; exact kf h p e R s m args below meth c cells slots Qm hA hP H locs ls (st_t (st_t h1)) h2 h3 h4 h5 h6
theorem J_if_lt {x : Int} (tgt : Nat) {off : Int} (hd : decode cc pc = .ok (.ifCond .lt off, 3)) (ht : (pc : Int) + off = (tgt : Int)) (kt : x < 0 → J X A own cc nL P tgt lv st ω) (kf : ¬ x < 0 → J X A own cc nL P (pc + 3) lv st ω) : J X A own cc nL P pc lv (vI x :: st) ω :=
  fun p e R s m args below meth c cells slots Qm hA hP H locs ls h1 h2 h3 h4 h5 h6 => by
    have rx : InR x := st_h h1
    have ee := i32_lt rx InR0
    rw [i32_0] at ee
    refine lv_if_lt hA.1 hA.2.1 hd ht (fun h => ?_) (fun h => ?_)
    · rw [ee] at h; exact kt h p e R s m args below meth c cells slots Qm hA hP H locs ls (st_t h1) h2 h3 h4 h5 h6
    · rw [ee] at h; exact kf h p e R s m args below meth c cells slots Qm hA hP H locs ls (st_t h1) h2 h3 h4 h5 h6
theorem J_icmp_lt {x y : Int} (tgt : Nat) {off : Int} (hd : decode cc pc = .ok (.if_icmp .lt off, 3)) (ht : (pc : Int) + off = (tgt : Int)) (kt : x < y → J X A own cc nL P tgt lv st ω) (kf : ¬ x < y → J X A own cc nL P (pc + 3) lv st ω) : J X A own cc nL P pc lv (vI y :: vI x :: st) ω :=
  fun p e R s m args below meth c cells slots Qm hA hP H locs ls h1 h2 h3 h4 h5 h6 => by
    have rx : InR x := st_h (st_t h1)
    have ry : InR y := st_h h1
    have ee := i32_lt rx ry
    refine lv_icmp_lt hA.1 hA.2.1 hd ht (fun h => ?_) (fun h => ?_)
    · rw [ee] at h; exact kt h p e R s m args below meth c cells slots Qm hA hP H locs ls (st_t (st_t h1)) h2 h3 h4 h5 h6
    · rw [ee] at h; exact kf h p e R s m args below meth c cells slots Qm hA hP H locs ls (st_t (st_t h1)) h2 h3 h4 h5 h6
theorem J_if_ge {x : Int} (tgt : Nat) {off : Int} (hd : decode cc pc = .ok (.ifCond .ge off, 3)) (ht : (pc : Int) + off = (tgt : Int)) (kt : 0 ≤ x → J X A own cc nL P tgt lv st ω) (kf : ¬ 0 ≤ x → J X A own cc nL P (pc + 3) lv st ω) : J X A own cc nL P pc lv (vI x :: st) ω :=
  fun p e R s m args below meth c cells slots Qm hA hP H locs ls h1 h2 h3 h4 h5 h6 => by
    have rx : InR x := st_h h1
    have ee := i32_le InR0 rx
    rw [i32_0] at ee
    refine lv_if_ge hA.1 hA.2.1 hd ht (fun h => ?_) (fun h => ?_)
    · rw [ee] at h; exact kt h p e R s m args below meth c cells slots Qm hA hP H locs ls (st_t h1) h2 h3 h4 h5 h6
    · rw [ee] at h; exact kf h p e R s m args below meth c cells slots Qm hA hP H locs ls (st_t h1) h2 h3 h4 h5 h6
theorem J_icmp_ge {x y : Int} (tgt : Nat) {off : Int} (hd : decode cc pc = .ok (.if_icmp .ge off, 3)) (ht : (pc : Int) + off = (tgt : Int)) (kt : y ≤ x → J X A own cc nL P tgt lv st ω) (kf : ¬ y ≤ x → J X A own cc nL P (pc + 3) lv st ω) : J X A own cc nL P pc lv (vI y :: vI x :: st) ω :=
  fun p e R s m args below meth c cells slots Qm hA hP H locs ls h1 h2 h3 h4 h5 h6 => by
    have rx : InR x := st_h (st_t h1)
    have ry : InR y := st_h h1
    have ee := i32_le ry rx
    refine lv_icmp_ge hA.1 hA.2.1 hd ht (fun h => ?_) (fun h => ?_)
    · rw [ee] at h; exact kt h p e R s m args below meth c cells slots Qm hA hP H locs ls (st_t (st_t h1)) h2 h3 h4 h5 h6
    · rw [ee] at h; exact kf h p e R s m args below meth c cells slots Qm hA hP H locs ls (st_t (st_t h1)) h2 h3 h4 h5 h6
theorem J_if_gt {x : Int} (tgt : Nat) {off : Int} (hd : decode cc pc = .ok (.ifCond .gt off, 3)) (ht : (pc : Int) + off = (tgt : Int)) (kt : 0 < x → J X A own cc nL P tgt lv st ω) (kf : ¬ 0 < x → J X A own cc nL P (pc + 3) lv st ω) : J X A own cc nL P pc lv (vI x :: st) ω :=
  fun p e R s m args below meth c cells slots Qm hA hP H locs ls h1 h2 h3 h4 h5 h6 => by
    have rx : InR x := st_h h1
    have ee := i32_lt InR0 rx
    rw [i32_0] at ee
    refine lv_if_gt hA.1 hA.2.1 hd ht (fun h => ?_) (fun h => ?_)
    · rw [ee] at h; exact kt h p e R s m args below meth c cells slots Qm hA hP H locs ls (st_t h1) h2 h3 h4 h5 h6
    · rw [ee] at h; exact kf h p e R s m args below meth c cells slots Qm hA hP H locs ls (st_t h1) h2 h3 h4 h5 h6
theorem J_icmp_gt {x y : Int} (tgt : Nat) {off : Int} (hd : decode cc pc = .ok (.if_icmp .gt off, 3)) (ht : (pc : Int) + off = (tgt : Int)) (kt : y < x → J X A own cc nL P tgt lv st ω) (kf : ¬ y < x → J X A own cc nL P (pc + 3) lv st ω) : J X A own cc nL P pc lv (vI y :: vI x :: st) ω :=
  fun p e R s m args below meth c cells slots Qm hA hP H locs ls h1 h2 h3 h4 h5 h6 => by
    have rx : InR x := st_h (st_t h1)
    have ry : InR y := st_h h1
    have ee := i32_lt ry rx
    refine lv_icmp_gt hA.1 hA.2.1 hd ht (fun h => ?_) (fun h => ?_)
    · rw [ee] at h; exact kt h p e R s m args below meth c cells slots Qm hA hP H locs ls (st_t (st_t h1)) h2 h3 h4 h5 h6
    · rw [ee] at h; exact kf h p e R s m args below meth c cells slots Qm hA hP H locs ls (st_t (st_t h1)) h2 h3 h4 h5 h6
theorem J_if_le {x : Int} (tgt : Nat) {off : Int} (hd : decode cc pc = .ok (.ifCond .le off, 3)) (ht : (pc : Int) + off = (tgt : Int)) (kt : x ≤ 0 → J X A own cc nL P tgt lv st ω) (kf : ¬ x ≤ 0 → J X A own cc nL P (pc + 3) lv st ω) : J X A own cc nL P pc lv (vI x :: st) ω :=
  fun p e R s m args below meth c cells slots Qm hA hP H locs ls h1 h2 h3 h4 h5 h6 => by
    have rx : InR x := st_h h1
    have ee := i32_le rx InR0
    rw [i32_0] at ee
    refine lv_if_le hA.1 hA.2.1 hd ht (fun h => ?_) (fun h => ?_)
    · rw [ee] at h; exact kt h p e R s m args below meth c cells slots Qm hA hP H locs ls (st_t h1) h2 h3 h4 h5 h6
    · rw [ee] at h; exact kf h p e R s m args below meth c cells slots Qm hA hP H locs ls (st_t h1) h2 h3 h4 h5 h6
theorem J_icmp_le {x y : Int} (tgt : Nat) {off : Int} (hd : decode cc pc = .ok (.if_icmp .le off, 3)) (ht : (pc : Int) + off = (tgt : Int)) (kt : x ≤ y → J X A own cc nL P tgt lv st ω) (kf : ¬ x ≤ y → J X A own cc nL P (pc + 3) lv st ω) : J X A own cc nL P pc lv (vI y :: vI x :: st) ω :=
  fun p e R s m args below meth c cells slots Qm hA hP H locs ls h1 h2 h3 h4 h5 h6 => by
    have rx : InR x := st_h (st_t h1)
    have ry : InR y := st_h h1
    have ee := i32_le rx ry
    refine lv_icmp_le hA.1 hA.2.1 hd ht (fun h => ?_) (fun h => ?_)
    · rw [ee] at h; exact kt h p e R s m args below meth c cells slots Qm hA hP H locs ls (st_t (st_t h1)) h2 h3 h4 h5 h6
    · rw [ee] at h; exact kf h p e R s m args below meth c cells slots Qm hA hP H locs ls (st_t (st_t h1)) h2 h3 h4 h5 h6
theorem J_switch {x : Int} {dflt lo hi : Int} {offs : Array Int} {len : Nat} (hd : decode cc pc = .ok (.tableswitch dflt lo hi offs, len)) (tgt : Nat) (ht : (pc : Int) + dflt = (tgt : Int)) (kd : (x < lo ∨ hi < x) → J X A own cc nL P tgt lv st ω)
    (kc : ¬ x < lo → ¬ hi < x → ∃ (off : Int) (t : Nat), offs[(x - lo).toNat]? = some off ∧ (pc : Int) + off = (t : Int) ∧ J X A own cc nL P t lv st ω) : J X A own cc nL P pc lv (vI x :: st) ω :=
  fun p e R s m args below meth c cells slots Qm hA hP H locs ls h1 h2 h3 h4 h5 h6 => by
    have rx : InR x := st_h h1
    have ee := i32_of rx
    by_cases h : x < lo ∨ hi < x
    · exact lv_tableOut hA.1 hA.2.1 hd (by rw [ee]; exact h) ht (kd h p e R s m args below meth c cells slots Qm hA hP H locs ls (st_t h1) h2 h3 h4 h5 h6)
    · obtain ⟨off, t, ho, htt, k⟩ := kc (fun q => h (Or.inl q)) (fun q => h (Or.inr q))
      exact lv_tableIn hA.1 hA.2.1 hd (by rw [ee]; exact fun q => h (Or.inl q)) (by rw [ee]; exact fun q => h (Or.inr q)) (by rw [ee]; exact ho) htt (k p e R s m args below meth c cells slots Qm hA hP H locs ls (st_t h1) h2 h3 h4 h5 h6)
-- fields
theorem J_getfieldV {k idx ci j code : Nat} (v : MV) (lk : FLk own idx ci j) (hf : fcode k ci j = some code) (hv : fv X ω k j code = emb X v) (hr : ROm ω → RV v) (hd : decode cc pc = .ok (.getfield idx, 3)) (kk : J X A own cc nL P (pc + 3) lv (v :: st) ω) : J X A own cc nL P pc lv (vR k :: st) ω :=
  fun p e R s m args below meth c cells slots Qm hA hP H locs ls h1 h2 h3 h4 h5 h6 => by
    obtain ⟨C, T, N, ty, ⟨c1, c2, c3, c4, c5⟩, hj, hl⟩ := lk
    obtain ⟨fl, g1, g2, n, g3⟩ := pic_obj X ω hf
    have q := kk p e R s m args below meth c cells slots Qm hA hP H locs ls (st_c (hr h3) (st_t h1)) h2 h3 h4 h5 h6
    have hvv : (fl.mapIdx (fun j code => fv X ω k j code))[j]? = some (emb X v) := by simp [List.getElem?_mapIdx, g2, hv]
    rcases hl with hl | ⟨host, hl⟩
    · exact va_get hA.1 hA.2.1 hA.2.2.2.2.1 c2 hA.2.2.2.1 hA.2.2.2.2.2.2.1 h4 k g1 c1 j hj (hA.2.2.2.2.1 _ hl) (fun x h => by rw [c5 j hj] at h; exact h) hvv hd q
    · exact va_getN hA.1 hA.2.1 hA.2.2.2.2.1 c2 hA.2.2.2.1 hA.2.2.2.2.2.2.1 h4 k g1 c1 j hj (va_Nw.use rfl (hA.2.2.2.2.2.1 _ hl)) (fun x h => by rw [c5 j hj] at h; exact h) hvv hd q
theorem J_getI {k idx ci j : Nat} (i : Int) (lk : FLk own idx ci j) (hi : (j : Int) = i) (hf : fcode k ci j = some 0) (hn : isL k j = false) (hd : decode cc pc = .ok (.getfield idx, 3)) (kk : J X A own cc nL P (pc + 3) lv (vI (ω k i) :: st) ω) : J X A own cc nL P pc lv (vR k :: st) ω := by
  subst hi; exact J_getfieldV (vI (ω k j)) lk hf rfl (fun h => h.1 k j hn) hd kk
theorem J_getL {k idx ci j : Nat} (i : Int) (lk : FLk own idx ci j) (hi : (j : Int) = i) (hf : fcode k ci j = some 1) (hd : decode cc pc = .ok (.getfield idx, 3)) (kk : J X A own cc nL P (pc + 3) lv (vL (ω k i) :: st) ω) : J X A own cc nL P pc lv (vR k :: st) ω := by
  subst hi; exact J_getfieldV (vL (ω k j)) lk hf rfl (fun h => h.2 k j) hd kk
theorem J_getR {k idx ci j c : Nat} (lk : FLk own idx ci j) (hf : fcode k ci j = some (c + 2)) (hd : decode cc pc = .ok (.getfield idx, 3)) (kk : J X A own cc nL P (pc + 3) lv (vR c :: st) ω) : J X A own cc nL P pc lv (vR k :: st) ω :=
  J_getfieldV (vR c) lk hf rfl (fun _ => trivial) hd kk
/-- field j of class ci can be written: it is an int (0) or a long (1), and isn't final -/
def fput (ci j code : Nat) : Prop := ∃ (C : String) (T : u_T) (N : Nat) (ty : Nat → FieldType), clsOK ci C T N ty ∧ j < N ∧ (T j).2.2.2 = false ∧ ((code = 0 ∧ ty j = .int) ∨ (code = 1 ∧ ty j = .long))
theorem J_putfieldV {k idx ci j code : Nat} (v : MV) (z : Int) (lk : FLk own idx ci j) (fp : fput ci j code) (hf : fcode k ci j = some code) (hv : (code = 0 ∧ v = vI z) ∨ (code = 1 ∧ v = vL z)) (hr : RV v → ROm ω → ROm (up ω k j z)) (hd : decode cc pc = .ok (.putfield idx, 3)) (kk : J X A own cc nL P (pc + 3) lv st (up ω k j z)) : J X A own cc nL P pc lv (v :: vR k :: st) ω :=
  fun p e R s m args below meth c cells slots Qm hA hP H locs ls h1 h2 h3 h4 h5 h6 => by
    obtain ⟨C, T, N, ty, ⟨c1, c2, c3, c4, c5⟩, hj, hl⟩ := lk
    obtain ⟨C', T', N', ty', ⟨d1, d2, d3, d4, d5⟩, hj', hfin, hty⟩ := fp
    obtain ⟨fl, g1, g2, n, g3⟩ := pic_obj X ω hf
    rw [c1] at d1; cases d1
    have hD := pic_D ω hA.2.2.2.2.2.2.2.1 hA.2.2.2.2.2.2.2.2
    have hlt : j < (fl.mapIdx (fun j code => fv X ω k j code)).length := by have := (List.getElem?_eq_some_iff.mp g2).1; simpa using this
    have hnf : narrow (ty' j) (emb X v) = emb X v ∧ fits (ty' j) (emb X v) = true ∧ fv X (up ω k j z) k j code = emb X v := by
      rcases hv with ⟨rfl, rfl⟩ | ⟨rfl, rfl⟩ <;> rcases hty with ⟨e1, e2⟩ | ⟨e1, e2⟩
      · rw [e2]; exact ⟨rfl, rfl, by simp only [fv, up_s, emb]⟩
      · cases e1
      · cases e1
      · rw [e2]; exact ⟨rfl, rfl, by simp only [fv, up_s, emb]⟩
    have he := pic_set (X := X) (ω := ω) (i := j) (z := z) g3 (e := .inr (ci, (fl.mapIdx (fun j code => fv X ω k j code)).set j (emb X v))) (by simp only [cellOf]; rw [fl_set g2 _ hnf.2.2])
    have q : ∀ (H1 : Heap) (locs1 : List Loc), va_P X.2.1 vwCl ((pic X ω).set k (X.2.2.1 k, .inr (ci, (fl.mapIdx (fun j code => fv X ω k j code)).set j (emb X v)))) H1 → va_D A ((pic X ω).set k (X.2.2.1 k, .inr (ci, (fl.mapIdx (fun j code => fv X ω k j code)).set j (emb X v)))) → va_S A s.heap H1 locs1 → W p X.1 e R s m args below meth c H1 locs1 cells slots Qm (F0 m (pc + 3) ls (st.map (emb X))) := by
      intro H1 locs1 q1 _ q3
      rw [he] at q1
      exact kk p e R s m args below meth c cells slots Qm hA hP H1 locs1 ls (st_t (st_t h1)) h2 (hr (st_h h1) h3) q1 q3 h6
    rcases hl with hl | ⟨host, hl⟩
    · exact va_put hA.1 hA.2.1 hA.2.2.2.2.1 c2 ty' d3 c4 hA.2.2.2.1 hA.2.2.2.2.2.2.1 h4 hD h5 k g1 c1 j hj (hA.2.2.2.2.1 _ hl) (fun x h => by rw [c5 j hj] at h; exact h) hfin (d3 j hj) hnf.1 hnf.2.1 hlt hd q
    · exact va_putN hA.1 hA.2.1 hA.2.2.2.2.1 c2 ty' d3 c4 hA.2.2.2.1 hA.2.2.2.2.2.2.1 h4 hD h5 k g1 c1 j hj (va_Nw.use rfl (hA.2.2.2.2.2.1 _ hl)) (fun x h => by rw [c5 j hj] at h; exact h) hfin (d3 j hj) hnf.1 hnf.2.1 hlt hd q
theorem J_putI {k idx ci j : Nat} {z : Int} (i : Int) (lk : FLk own idx ci j) (hi : (j : Int) = i) (fp : fput ci j 0) (hf : fcode k ci j = some 0) (hd : decode cc pc = .ok (.putfield idx, 3)) (kk : J X A own cc nL P (pc + 3) lv st (up ω k i z)) : J X A own cc nL P pc lv (vI z :: vR k :: st) ω := by
  subst hi; exact J_putfieldV (vI z) z lk fp hf (Or.inl ⟨rfl, rfl⟩) (fun h1 h2 => ROm_up h2 h1) hd kk
theorem J_putL {k idx ci j : Nat} {z : Int} (i : Int) (lk : FLk own idx ci j) (hi : (j : Int) = i) (fp : fput ci j 1) (hf : fcode k ci j = some 1) (hl : isL k j = true) (hd : decode cc pc = .ok (.putfield idx, 3)) (kk : J X A own cc nL P (pc + 3) lv st (up ω k i z)) : J X A own cc nL P pc lv (vL z :: vR k :: st) ω := by
  subst hi; exact J_putfieldV (vL z) z lk fp hf (Or.inr ⟨rfl, rfl⟩) (fun h1 h2 => ROm_upL h2 h1 hl) hd kk
-- arrays
theorem pic_arr {X : Cx} (ω : Om) {k n : Nat} (h : acode k = some (0, n)) : (pic X ω)[k]? = some (X.2.2.1 k, .inl (X.2.2.2.1, n, .inl (fun j => Int32.ofInt (ω k j)))) ∧ ∃ fl, lay[k]? = some (0, n, fl) := by
  unfold acode at h
  cases hl : lay[k]? with
  | none => rw [hl] at h; cases h
  | some L =>
    obtain ⟨c, n', fl⟩ := L
    rw [hl] at h
    cases h
    exact ⟨by rw [pic_get, hl]; rfl, fl, rfl⟩
theorem pic_arz {X : Cx} (ω : Om) {k n : Nat} (h : acode k = some (1, n)) : (pic X ω)[k]? = some (X.2.2.1 k, .inl (X.2.2.2.2, n, .inl (fun j => Int32.ofInt (ω k j)))) ∧ ∃ fl, lay[k]? = some (1, n, fl) := by
  unfold acode at h
  cases hl : lay[k]? with
  | none => rw [hl] at h; cases h
  | some L =>
    obtain ⟨c, n', fl⟩ := L
    rw [hl] at h
    cases h
    exact ⟨by rw [pic_get, hl]; rfl, fl, rfl⟩
theorem in_of {i : Int} {n : Nat} (hr : InR i) (h : 0 ≤ i ∧ i < n) : vp_in (Int32.ofInt i) n := by
  rw [vp_in_iff, i32_of hr]; exact h
theorem ar_up {ω : Om} {k : Nat} {i z : Int} (hr : InR i) (h0 : 0 ≤ i) (x : Int32) (hx : x = Int32.ofInt z) : (fun j : Nat => Int32.ofInt (up ω k i z k j)) = upd (fun j : Nat => Int32.ofInt (ω k j)) (Int32.ofInt i).toNatClampNeg x := by
  rw [i32_toNat hr]
  funext j
  unfold upd
  by_cases hj : j = i.toNat
  · rw [if_pos hj, hx]
    have : (j : Int) = i := by omega
    rw [this, up_s]
  · rw [if_neg hj, up_i (by omega)]
theorem J_iaload {k : Nat} {i : Int} (n : Nat) (ha : acode k = some (0, n)) (hn : isL k i = false) (hi : 0 ≤ i ∧ i < n) (hd : decode cc pc = .ok (.iaload, 1)) (kk : J X A own cc nL P (pc + 1) lv (vI (ω k i) :: st) ω) : J X A own cc nL P pc lv (vI i :: vR k :: st) ω :=
  fun p e R s m args below meth c cells slots Qm hA hP H locs ls h1 h2 h3 h4 h5 h6 => by
    have ri : InR i := st_h h1
    have q := kk p e R s m args below meth c cells slots Qm hA hP H locs ls (st_c (show RV (vI (ω k i)) from h3.1 k i hn) (st_t (st_t h1))) h2 h3 h4 h5 h6
    refine va_iald hA.1 hA.2.1 hA.2.2.2.2.2.2.1 h4 k 0 (pic_arr ω ha).1 rfl (in_of ri hi) hd ?_
    rw [i32_toNat ri, show ((i.toNat : Nat) : Int) = i from by omega]
    exact q
theorem J_baload {k : Nat} {i : Int} (n : Nat) (ha : acode k = some (1, n)) (hn : isL k i = false) (hi : 0 ≤ i ∧ i < n) (hd : decode cc pc = .ok (.baload, 1)) (kk : J X A own cc nL P (pc + 1) lv (vI (ω k i) :: st) ω) : J X A own cc nL P pc lv (vI i :: vR k :: st) ω :=
  fun p e R s m args below meth c cells slots Qm hA hP H locs ls h1 h2 h3 h4 h5 h6 => by
    have ri : InR i := st_h h1
    have q := kk p e R s m args below meth c cells slots Qm hA hP H locs ls (st_c (show RV (vI (ω k i)) from h3.1 k i hn) (st_t (st_t h1))) h2 h3 h4 h5 h6
    refine va_zald hA.1 hA.2.1 hA.2.2.2.2.2.2.1 h4 k 1 (pic_arz ω ha).1 rfl (in_of ri hi) hd ?_
    rw [i32_toNat ri, show ((i.toNat : Nat) : Int) = i from by omega]
    exact q
theorem J_iastore {k : Nat} {i z : Int} (n : Nat) (ha : acode k = some (0, n)) (hi : 0 ≤ i ∧ i < n) (hd : decode cc pc = .ok (.iastore, 1)) (kk : J X A own cc nL P (pc + 1) lv st (up ω k i z)) : J X A own cc nL P pc lv (vI z :: vI i :: vR k :: st) ω :=
  fun p e R s m args below meth c cells slots Qm hA hP H locs ls h1 h2 h3 h4 h5 h6 => by
    have ri : InR i := st_h (st_t h1)
    have rz : InR z := st_h h1
    obtain ⟨g1, fl, g2⟩ := pic_arr (X := X) ω ha
    have hD := pic_D ω hA.2.2.2.2.2.2.2.1 hA.2.2.2.2.2.2.2.2
    refine va_iast hA.1 hA.2.1 hA.2.2.2.2.2.2.1 h4 hD h5 k 0 g1 rfl (in_of ri hi) hd (fun H1 locs1 q1 _ q3 => ?_)
    rw [pic_set (X := X) (ω := ω) (i := i) (z := z) g2 (by simp only [cellOf]; rw [ar_up ri hi.1 _ rfl])] at q1
    exact kk p e R s m args below meth c cells slots Qm hA hP H1 locs1 ls (st_t (st_t (st_t h1))) h2 (ROm_up h3 rz) q1 q3 h6
theorem J_bastore {k : Nat} {i z : Int} (n : Nat) (ha : acode k = some (1, n)) (hi : 0 ≤ i ∧ i < n) (hz : z = 0 ∨ z = 1) (hd : decode cc pc = .ok (.bastore, 1)) (kk : J X A own cc nL P (pc + 1) lv st (up ω k i z)) : J X A own cc nL P pc lv (vI z :: vI i :: vR k :: st) ω :=
  fun p e R s m args below meth c cells slots Qm hA hP H locs ls h1 h2 h3 h4 h5 h6 => by
    have ri : InR i := st_h (st_t h1)
    have rz : InR z := st_h h1
    obtain ⟨g1, fl, g2⟩ := pic_arz (X := X) ω ha
    have hD := pic_D ω hA.2.2.2.2.2.2.2.1 hA.2.2.2.2.2.2.2.2
    refine va_zast hA.1 hA.2.1 hA.2.2.2.2.2.2.1 h4 hD h5 k 1 g1 rfl (in_of ri hi) hd (fun H1 locs1 q1 _ q3 => ?_)
    rw [pic_set (X := X) (ω := ω) (i := i) (z := z) g2 (by simp only [cellOf]; rw [ar_up ri hi.1 (vp_nar .boolean (Int32.ofInt z)) (by rcases hz with rfl | rfl <;> decide +kernel)])] at q1
    exact kk p e R s m args below meth c cells slots Qm hA hP H1 locs1 ls (st_t (st_t (st_t h1))) h2 (ROm_up h3 rz) q1 q3 h6
end JR
end
section
section JC
variable {X : Cx} {A : Nat → Prop} {own : String} {cc : ByteArray} {nL : Nat} {P : PT} {pc : Nat} {lv : List (Option MV)} {st : List MV} {ω : Om}
def wt : List MV → Nat
  | [] => 0
  | .inr (.inl _) :: r => 2 + wt r
  | _ :: r => 1 + wt r
theorem wt_emb : ∀ st : List MV, ((st.map (emb X)).map fun v => v.category).sum = wt st := by
  intro st
  induction st with
  | nil => rfl
  | cons v r ih =>
    simp only [List.map_cons, List.sum_cons, ih]
    match v with
    | .inl z => rfl
    | .inr (.inl z) => rfl
    | .inr (.inr k) => rfl
theorem PcX_blind (as : List MV) (ω : Om) : FrameBlind (PcX X as ω) := by
  intro a U g mk h
  obtain ⟨e1, r1, r2, r3, r4, r5, r6⟩ := h
  exact ⟨e1, r1, r2, r3, r4, va_K.moved (u := U) (U := U.calling g mk a) (Vm.Alike.refl U.vm) r5, fun w hw => va_Nw.same (by
    have := (List.mem_filter.mp hw).2
    cases w <;> first | rfl | (simp [isNest] at this)) (by rfl) (r6 w hw)⟩
theorem nTbl_warm {s U : State} (hW : s.WarmedH U.vm) (h : ∀ w ∈ nTbl, va_Nw w s) : ∀ w ∈ nTbl, va_Nw w U := by
  intro w hw
  have h1 := (List.mem_filter.mp hw).2
  have h2 := h w hw
  cases w <;> first | exact va_Nw.warmF hW h2 | exact va_Nw.warmM hW h2 | (simp [isNest] at h1)
theorem good_all (z : MD) (hz : cdw z ∈ gTbl) : GoodIn gTbl (cdw z :: gTbl) := by
  intro w hw
  rcases List.mem_cons.mp hw with rfl | hw
  · exact ⟨hz, gTbl_good _ hz⟩
  · exact ⟨hw, gTbl_good _ hw⟩
/-- the room that a call of a method of depth d wants -/
def rmOk (d : Nat) (z : MD) (R : Room) (cells slots : Nat) : Prop := d + 2 ≤ R.frames ∧ 8 + (z.2.2.1 + 11) + (40 * d + 12) ≤ R.locals ∧ cells ≤ R.cells ∧ slots ≤ R.slots
def rcv (k : Nat) (C : String) : Prop := ∃ (ci n : Nat) (fl : List Nat) (q : vw_C), lay[k]? = some (ci + 2, n, fl) ∧ vwCl[ci]? = some q ∧ q.1 = C
/-- behind a call -/
theorem J_back {z : MD} {d : Nat} {as : List MV} {st0 : List Value} {a : Array Value} {p : Program} {e : Env} {R : Room} {s : State} {m : MethodId} {args : Array Value} {below : List Frame} {meth : Method} {c : Code} {cells slots : Nat} {Qm : State → Prop} {H : Heap} {locs : List Loc} {ls : Array Slot}
    (hA : Act X A own cc nL p s m args c) (hP : P p e R s m args below meth c cells slots Qm) (h1 : ∀ v ∈ st, RV v) (h2 : ∀ v, some v ∈ lv → RV v) (h5 : va_S A s.heap H locs) (h6 : lv_has ls nL (lvl X 0 lv))
    (hr : va_Run p X.1 e R s m args below meth c H locs cells slots 0 0 (F0 m pc ls st0) (st.map (emb X)) (QcX X (fun r ω' => J X A own cc nL P (pc + 3) lv (r.toList ++ st) ω') a) (AX X)) :
    W p X.1 e R s m args below meth c H locs cells slots Qm (F0 m pc ls st0) := by
  have hAA : ∀ q, AX X q → A q := fun q ⟨k, hk, e⟩ => e ▸ hA.2.2.2.2.2.2.2.2 k hk
  intro T hT XS
  obtain ⟨v, st₀, t, T', L, h0, X', hL, e1, e2, ⟨r, ω', q1, q2, q3, q4, q5, q6, q7⟩, sg⟩ := hr T hT XS
  cases q1
  rw [h0] at q6 q7
  have hst : ∀ v ∈ r.toList ++ st, RV v := by
    intro v hv
    rcases List.mem_append.mp hv with hv | hv
    · exact q2 v (by simpa using hv)
    · exact h1 v hv
  have hS : va_S A s.heap T'.heap (locs ++ L) := by
    refine ⟨Nat.le_trans h5.1 (by rw [e1]; exact q6), fun q g1 g2 => ?_, fun q hq => ?_⟩
    · rw [e1, q7 q (Nat.lt_of_lt_of_le g1 h5.1) (fun z => g2 (hAA q z))]; exact h5.2.1 q g1 g2
    · rcases List.mem_append.mp hq with h | h
      · exact h5.2.2 q h
      · exact hAA _ (hL q h)
  have K := q4 p e R s m args below meth c cells slots Qm hA hP T'.heap (locs ++ L) ls hst h2 q3 (by rw [e1]; exact q5) hS h6
  obtain ⟨t2, a1, b1⟩ := K T' rfl X'
  refine ⟨t2, sg t2 ?_, b1⟩
  have ev : (r.toList ++ st).map (emb X) = (r.map (emb X)).toList ++ st.map (emb X) := by cases r <;> rfl
  rw [ev] at a1
  exact a1
theorem J_callV {z : MD} {d idx n k : Nat} {as : List MV} (hP0 : ∀ p e R s m args below meth c cells slots Qm, P p e R s m args below meth c cells slots Qm → rmOk d z R cells slots) (lk : MLkV own idx z n) (hn : as.length = n) (hk : rcv k z.1.cls) (hw : wt st ≤ 8) (hd : decode cc pc = .ok (.invokevirtual idx, 3))
    (hM : Mc X z d (vR k :: as) ω (fun r ω' => J X A own cc nL P (pc + 3) lv (r.toList ++ st) ω')) : J X A own cc nL P pc lv (as.reverse ++ vR k :: st) ω :=
  fun p e R s m args below meth c cells slots Qm hA hP H locs ls h1 h2 h3 h4 h5 h6 => by
    obtain ⟨f1, f2, f3, f4⟩ := hP0 p e R s m args below meth c cells slots Qm hP
    obtain ⟨⟨l1, l2, l3, l4, l5, l6⟩, l7, l8⟩ := lk
    obtain ⟨ci, nn, fl, q, y1, y2, y3⟩ := hk
    have hst : (as.reverse ++ vR k :: st).map (emb X) = (as.map (emb X)).reverse ++ .ref (X.2.2.1 k) :: st.map (emb X) := by simp [emb]
    have hr1 : ∀ v ∈ st, RV v := fun v hv => h1 v (by simp [hv])
    have hra : ∀ v ∈ vR k :: as, RV v := fun v hv => h1 v (by
      rcases List.mem_cons.mp hv with rfl | hv
      · simp
      · simp [hv])
    have hpre : PreV s H z.1.cls (X.2.2.1 k) (PcX X (vR k :: as) ω) (as.map (emb X)) := by
      refine ⟨PcX_blind _ _, ?_, fun U hU hW => ⟨rfl, hra, h3, hA.2.2.2.2.2.2.2.1, by rw [hU]; exact h4, va_K.moved hW.alike hA.2.2.2.2.2.2.1, nTbl_warm hW hA.2.2.2.2.2.1⟩⟩
      rw [← y3]
      exact va_recv hA.2.2.2.2.2.2.1 h4 y2 (q0 := k) (by rw [pic_get, y1]; rfl)
    rw [hst]
    have hroom : 2 * (F0 m pc ls ((as.map (emb X)).reverse ++ .ref (X.2.2.1 k) :: st.map (emb X))).monitorRoom + ((st.map (emb X)).map fun v => v.category).sum ≤ 8 := lv_room (by rw [wt_emb]; exact hw)
    have hlen : (as.map (emb X)).length = n := by simpa using hn
    rcases l3 with l3 | ⟨host, l3⟩
    · exact J_back (z := z) (d := d) (as := as) hA hP hr1 h2 h5 h6 (va_runV (Ts := gTbl) (own := own) (C := z.1.cls) ⟨hA.1, hA.2.1, hA.2.2.1, hA.2.2.2.1, hA.2.2.2.2.1⟩ hM
        ⟨callB_of n hA.2.2.2.2.1 (good_all z l1) rfl rfl rfl (hA.2.2.2.2.1 _ l2) (hA.2.2.2.2.1 _ l3) ⟨l4, l5, l6⟩ ⟨f1, f2⟩, hA.2.2.2.2.1 _ l7, hA.2.2.2.2.1 _ l8⟩
        hpre rfl hlen h6.1 rfl hroom hd ⟨f3, f4⟩)
    · exact J_back (z := z) (d := d) (as := as) hA hP hr1 h2 h5 h6 (va_runVN (Ts := gTbl) (own := own) (C := z.1.cls) ⟨hA.1, hA.2.1, hA.2.2.1, hA.2.2.2.1, hA.2.2.2.2.1⟩ hM
        ⟨va_cnB n hA.2.2.2.2.1 (good_all z l1) rfl rfl rfl (hA.2.2.2.2.2.1 _ l3) (hA.2.2.2.2.1 _ l2) ⟨l4, l5, l6⟩ ⟨f1, f2⟩, hA.2.2.2.2.1 _ l7, hA.2.2.2.2.1 _ l8⟩
        hpre rfl hlen h6.1 rfl hroom hd ⟨f3, f4⟩)
theorem J_callS {z : MD} {d idx n : Nat} {as : List MV} (hP0 : ∀ p e R s m args below meth c cells slots Qm, P p e R s m args below meth c cells slots Qm → rmOk d z R cells slots) (lk : MLkS own idx z n) (hn : as.length = n) (hw : wt st ≤ 8) (hd : decode cc pc = .ok (.invokestatic idx, 3))
    (hM : Mc X z d as ω (fun r ω' => J X A own cc nL P (pc + 3) lv (r.toList ++ st) ω')) : J X A own cc nL P pc lv (as.reverse ++ st) ω :=
  fun p e R s m args below meth c cells slots Qm hA hP H locs ls h1 h2 h3 h4 h5 h6 => by
    obtain ⟨f1, f2, f3, f4⟩ := hP0 p e R s m args below meth c cells slots Qm hP
    obtain ⟨⟨l1, l2, l3, l4, l5, l6⟩, l7⟩ := lk
    have hst : (as.reverse ++ st).map (emb X) = (as.map (emb X)).reverse ++ st.map (emb X) := by simp
    have hr1 : ∀ v ∈ st, RV v := fun v hv => h1 v (by simp [hv])
    have hra : ∀ v ∈ as, RV v := fun v hv => h1 v (by simp [hv])
    have hpre : PreS s H (PcX X as ω) (as.map (emb X)) :=
      ⟨PcX_blind _ _, fun U hU hW => ⟨rfl, hra, h3, hA.2.2.2.2.2.2.2.1, by rw [hU]; exact h4, va_K.moved hW.alike hA.2.2.2.2.2.2.1, nTbl_warm hW hA.2.2.2.2.2.1⟩⟩
    rw [hst]
    have hroom : 2 * (F0 m pc ls ((as.map (emb X)).reverse ++ st.map (emb X))).monitorRoom + ((st.map (emb X)).map fun v => v.category).sum ≤ 8 := lv_room (by rw [wt_emb]; exact hw)
    have hlen : (as.map (emb X)).length = n := by simpa using hn
    rcases l3 with l3 | ⟨host, l3⟩
    · exact J_back (z := z) (d := d) (as := as) hA hP hr1 h2 h5 h6 (va_runS (Ts := gTbl) (own := own) ⟨hA.1, hA.2.1, hA.2.2.1, hA.2.2.2.1, hA.2.2.2.2.1⟩ hM
        ⟨callB_of n hA.2.2.2.2.1 (good_all z l1) rfl rfl rfl (hA.2.2.2.2.1 _ l2) (hA.2.2.2.2.1 _ l3) ⟨l4, l5, l6⟩ ⟨f1, f2⟩, hA.2.2.2.2.1 _ l7⟩
        hpre rfl hlen h6.1 rfl hroom hd ⟨f3, f4⟩)
    · exact J_back (z := z) (d := d) (as := as) hA hP hr1 h2 h5 h6 (va_runSN (Ts := gTbl) (own := own) ⟨hA.1, hA.2.1, hA.2.2.1, hA.2.2.2.1, hA.2.2.2.2.1⟩ hM
        ⟨va_cnB n hA.2.2.2.2.1 (good_all z l1) rfl rfl rfl (hA.2.2.2.2.2.1 _ l3) (hA.2.2.2.2.1 _ l2) ⟨l4, l5, l6⟩ ⟨f1, f2⟩, hA.2.2.2.2.1 _ l7, trivial⟩
        hpre rfl hlen h6.1 rfl hroom hd ⟨f3, f4⟩)
-- a method's end
variable {y : MD} {d : Nat} {Q : Option MV → Om → Prop}
theorem JM_iret {z : Int} (hr : y.2.2.2 = some .int) (hd : decode y.2.1 pc = .ok (.ireturn, 1)) (hQ : Q (some (vI z)) ω) : JM X y d Q pc lv [vI z] ω :=
  fun p e R s m args below meth c cells slots Qm hA hP H locs ls h1 h2 h3 h4 h5 h6 => by
    obtain ⟨b1, b2, rfl, rfl, rfl, rfl⟩ := hP
    exact W.iret hA.1 hA.2.1 (b1.trans hr) (fun t ht _ => ⟨some (vI z), ω, rfl, fun v hv => by cases hv; exact st_h h1, h3, hQ, by rw [ht]; exact h4, h5.F ht⟩) (fun q hq => h5.2.2 q hq) hd b2
theorem JM_zret {z : Int} (hr : y.2.2.2 = some .boolean) (hz : z = 0 ∨ z = 1) (hd : decode y.2.1 pc = .ok (.ireturn, 1)) (hQ : Q (some (vI z)) ω) : JM X y d Q pc lv [vI z] ω :=
  fun p e R s m args below meth c cells slots Qm hA hP H locs ls h1 h2 h3 h4 h5 h6 => by
    obtain ⟨b1, b2, rfl, rfl, rfl, rfl⟩ := hP
    exact W.zret hA.1 hA.2.1 (b1.trans hr) (by rcases hz with rfl | rfl <;> rfl) (fun t ht _ => ⟨some (vI z), ω, rfl, fun v hv => by cases hv; exact st_h h1, h3, hQ, by rw [ht]; exact h4, h5.F ht⟩) (fun q hq => h5.2.2 q hq) hd b2
theorem JM_lret {z : Int} (hr : y.2.2.2 = some .long) (hd : decode y.2.1 pc = .ok (.lreturn, 1)) (hQ : Q (some (vL z)) ω) : JM X y d Q pc lv [vL z] ω :=
  fun p e R s m args below meth c cells slots Qm hA hP H locs ls h1 h2 h3 h4 h5 h6 => by
    obtain ⟨b1, b2, rfl, rfl, rfl, rfl⟩ := hP
    exact W.lret hA.1 hA.2.1 (b1.trans hr) (fun t ht _ => ⟨some (vL z), ω, rfl, fun v hv => by cases hv; exact st_h h1, h3, hQ, by rw [ht]; exact h4, h5.F ht⟩) (fun q hq => h5.2.2 q hq) hd b2
theorem JM_vret (hr : y.2.2.2 = none) (hd : decode y.2.1 pc = .ok (.return_, 1)) (hQ : Q none ω) : JM X y d Q pc lv [] ω :=
  fun p e R s m args below meth c cells slots Qm hA hP H locs ls h1 h2 h3 h4 h5 h6 => by
    obtain ⟨b1, b2, rfl, rfl, rfl, rfl⟩ := hP
    exact W.vret hA.1 hA.2.1 (b1.trans hr) (fun t ht _ => ⟨none, ω, rfl, fun v hv => by (cases hv), h3, hQ, by rw [ht]; exact h4, h5.F ht⟩) (fun q hq => h5.2.2 q hq) hd b2
-- a method's start
def argLv : List MV → List (Option MV)
  | [] => []
  | .inr (.inl z) :: r => some (vL z) :: none :: argLv r
  | v :: r => some v :: argLv r
theorem argLv_args (X : Cx) : ∀ (as : List MV) (n : Nat), lvl X n (argLv as) = lv_args n (as.map (emb X)) := by
  intro as
  induction as with
  | nil => intro n; rfl
  | cons v r ih =>
    intro n
    match v with
    | .inl z => simp only [argLv, lvl, List.map_cons, lv_args, ih]; rfl
    | .inr (.inl z) => simp only [argLv, lvl, List.map_cons, lv_args, ih]; rfl
    | .inr (.inr k) => simp only [argLv, lvl, List.map_cons, lv_args, ih]; rfl
theorem argLv_len (X : Cx) : ∀ as : List MV, (lg_sl (as.map (emb X))).length = (argLv as).length := by
  intro as
  induction as with
  | nil => rfl
  | cons v r ih =>
    have e : ∀ (w : Value) (t : List Value), lg_sl (w :: t) = (if w.category = 2 then [.val w, .second] else [.val w]) ++ lg_sl t := fun w t => by simp [lg_sl]
    match v with
    | .inl z => simp only [List.map_cons, e, argLv, List.length_append, ih, List.length_cons]; simp [emb, Value.category]; omega
    | .inr (.inl z) => simp only [List.map_cons, e, argLv, List.length_append, ih, List.length_cons]; simp [emb, Value.category]; omega
    | .inr (.inr k) => simp only [List.map_cons, e, argLv, List.length_append, ih, List.length_cons]; simp [emb, Value.category]; omega
theorem lvl_app (X : Cx) : ∀ (a : List (Option MV)) (k n : Nat), lvl X n (a ++ List.replicate k none) = lvl X n a := by
  intro a
  induction a with
  | nil =>
    intro k
    induction k with
    | zero => intro n; rfl
    | succ k ih => intro n; simp only [List.replicate_succ, List.nil_append, lvl] at ih ⊢; exact ih (n + 1)
  | cons v r ih =>
    intro k n
    cases v with
    | none => simp only [List.cons_append, lvl, ih]
    | some v => simp only [List.cons_append, lvl, ih]
theorem argLv_RV : ∀ as : List MV, (∀ w ∈ as, RV w) → ∀ v, some v ∈ argLv as → RV v := by
  intro as
  induction as with
  | nil => intro _ v hv; cases hv
  | cons a r ih =>
    intro r1 v hv
    have ih' := ih (fun w hw => r1 w (List.mem_cons_of_mem _ hw))
    have ra := r1 a List.mem_cons_self
    match a, ra, hv with
    | .inl z, ra, hv =>
      simp only [argLv, List.mem_cons] at hv
      rcases hv with hv | hv
      · cases hv; exact ra
      · exact ih' v hv
    | .inr (.inl z), ra, hv =>
      simp only [argLv, List.mem_cons] at hv
      rcases hv with hv | hv | hv
      · cases hv; exact ra
      · cases hv
      · exact ih' v hv
    | .inr (.inr q), ra, hv =>
      simp only [argLv, List.mem_cons] at hv
      rcases hv with hv | hv
      · cases hv; exact ra
      · exact ih' v hv
/-- a contract out of the walk of the body -/
theorem Mc_of {as : List MV} (lv : List (Option MV)) (hy : plainName y.1.cls = true) (hl : argLv as ++ List.replicate (y.2.2.1 - (argLv as).length) none = lv) (hn : (argLv as).length ≤ y.2.2.1) (k : JM X y d Q 0 lv [] ω) : Mc X y d as ω Q := by
  refine Met.ofW (cc := y.2.1) (maxL := y.2.2.1) (ret := y.2.2.2) hy rfl ?_
  intro p e s m args below meth c s₁ B hml hv
  obtain ⟨rfl, r1, r2, r3, r4, r5, r6⟩ := hv
  have hts := atoms_spec (ws := cdw y :: gTbl) B.pre
  have hown : s.vm.findClass y.1.cls = some m.cls := findClass_of_methodNamed B.named
  have h6 := lv_entry (as.map (emb X)) (n := y.2.2.1) (by rw [argLv_len]; exact hn)
  rw [lg_entry_eq]
  refine k p e (rmD d) s m _ below meth c 0 0 _ ⟨B.exec, B.bytes, hml, hown, fun w hw => hts w (List.mem_cons_of_mem _ hw), r6, r5, r3, fun q hq => ⟨q, hq, rfl⟩⟩ ⟨B.returns, B.notSynchronized, rfl, rfl, rfl, rfl⟩ s.heap [] _ (fun v hv => by cases hv) ?_ r2 r4 va_S.rf ?_
  · intro v hv
    subst hl
    rcases List.mem_append.mp hv with hv | hv
    · exact argLv_RV as r1 v hv
    · have := (List.mem_replicate.mp hv).2; cases this
  · rw [← hl, lvl_app, argLv_args]; exact h6
end JC
end
section
section JV
variable {X : Cx} {A : Nat → Prop} {own : String} {cc : ByteArray} {nL : Nat} {P : PT} {pc : Nat} {lv : List (Option MV)} {st : List MV} {ω : Om}
def push (r : Option MV) (st : List MV) : List MV := match r with
  | none => st
  | some v => v :: st
theorem push_app (r : Option MV) (st : List MV) : r.toList ++ st = push r st := by cases r <;> rfl
theorem J_istore_0 { b : Option MV} {r : List (Option MV)} {z : Int} (hd : decode cc pc = .ok (.istore_n 0, 1)) (hn : 0 < nL) (k : J X A own cc nL P (pc + 1) (some (vI z) :: r) st ω) : J X A own cc nL P pc (b :: r) (vI z :: st) ω := J_istore_n 0 hd hn (Or.inl rfl) rfl k
theorem J_lstore_0 { b b2 : Option MV} {r : List (Option MV)} {z : Int} (hd : decode cc pc = .ok (.lstore_n 0, 1)) (hn : 0 + 1 < nL) (k : J X A own cc nL P (pc + 1) (some (vL z) :: none :: r) st ω) : J X A own cc nL P pc (b :: b2 :: r) (vL z :: st) ω := J_lstore_n 0 hd hn (Or.inl rfl) rfl k
theorem J_iinc_0 {r : List (Option MV)} {z n : Int} (hd : decode cc pc = .ok (.iinc 0 n, 3)) (hn : 0 < nL) (hr : InR (z + n)) (k : J X A own cc nL P (pc + 3) (some (vI (z + n)) :: r) st ω) : J X A own cc nL P pc (some (vI z) :: r) st ω := J_iinc 0 n hd hn rfl hr (Or.inl rfl) rfl k
theorem J_istore_1 {a0 b : Option MV} {r : List (Option MV)} {z : Int} (hd : decode cc pc = .ok (.istore_n 1, 1)) (hn : 1 < nL) (hno : noL (some a0) = true) (k : J X A own cc nL P (pc + 1) (a0 :: some (vI z) :: r) st ω) : J X A own cc nL P pc (a0 :: b :: r) (vI z :: st) ω := J_istore_n 1 hd hn (Or.inr hno) rfl k
theorem J_lstore_1 {a0 b b2 : Option MV} {r : List (Option MV)} {z : Int} (hd : decode cc pc = .ok (.lstore_n 1, 1)) (hn : 1 + 1 < nL) (hno : noL (some a0) = true) (k : J X A own cc nL P (pc + 1) (a0 :: some (vL z) :: none :: r) st ω) : J X A own cc nL P pc (a0 :: b :: b2 :: r) (vL z :: st) ω := J_lstore_n 1 hd hn (Or.inr hno) rfl k
theorem J_iinc_1 {a0 : Option MV} {r : List (Option MV)} {z n : Int} (hd : decode cc pc = .ok (.iinc 1 n, 3)) (hn : 1 < nL) (hr : InR (z + n)) (hno : noL (some a0) = true) (k : J X A own cc nL P (pc + 3) (a0 :: some (vI (z + n)) :: r) st ω) : J X A own cc nL P pc (a0 :: some (vI z) :: r) st ω := J_iinc 1 n hd hn rfl hr (Or.inr hno) rfl k
theorem J_istore_2 {a0 a1 b : Option MV} {r : List (Option MV)} {z : Int} (hd : decode cc pc = .ok (.istore_n 2, 1)) (hn : 2 < nL) (hno : noL (some a1) = true) (k : J X A own cc nL P (pc + 1) (a0 :: a1 :: some (vI z) :: r) st ω) : J X A own cc nL P pc (a0 :: a1 :: b :: r) (vI z :: st) ω := J_istore_n 2 hd hn (Or.inr hno) rfl k
theorem J_lstore_2 {a0 a1 b b2 : Option MV} {r : List (Option MV)} {z : Int} (hd : decode cc pc = .ok (.lstore_n 2, 1)) (hn : 2 + 1 < nL) (hno : noL (some a1) = true) (k : J X A own cc nL P (pc + 1) (a0 :: a1 :: some (vL z) :: none :: r) st ω) : J X A own cc nL P pc (a0 :: a1 :: b :: b2 :: r) (vL z :: st) ω := J_lstore_n 2 hd hn (Or.inr hno) rfl k
theorem J_iinc_2 {a0 a1 : Option MV} {r : List (Option MV)} {z n : Int} (hd : decode cc pc = .ok (.iinc 2 n, 3)) (hn : 2 < nL) (hr : InR (z + n)) (hno : noL (some a1) = true) (k : J X A own cc nL P (pc + 3) (a0 :: a1 :: some (vI (z + n)) :: r) st ω) : J X A own cc nL P pc (a0 :: a1 :: some (vI z) :: r) st ω := J_iinc 2 n hd hn rfl hr (Or.inr hno) rfl k
theorem J_istore_3 {a0 a1 a2 b : Option MV} {r : List (Option MV)} {z : Int} (hd : decode cc pc = .ok (.istore_n 3, 1)) (hn : 3 < nL) (hno : noL (some a2) = true) (k : J X A own cc nL P (pc + 1) (a0 :: a1 :: a2 :: some (vI z) :: r) st ω) : J X A own cc nL P pc (a0 :: a1 :: a2 :: b :: r) (vI z :: st) ω := J_istore_n 3 hd hn (Or.inr hno) rfl k
theorem J_lstore_3 {a0 a1 a2 b b2 : Option MV} {r : List (Option MV)} {z : Int} (hd : decode cc pc = .ok (.lstore_n 3, 1)) (hn : 3 + 1 < nL) (hno : noL (some a2) = true) (k : J X A own cc nL P (pc + 1) (a0 :: a1 :: a2 :: some (vL z) :: none :: r) st ω) : J X A own cc nL P pc (a0 :: a1 :: a2 :: b :: b2 :: r) (vL z :: st) ω := J_lstore_n 3 hd hn (Or.inr hno) rfl k
theorem J_iinc_3 {a0 a1 a2 : Option MV} {r : List (Option MV)} {z n : Int} (hd : decode cc pc = .ok (.iinc 3 n, 3)) (hn : 3 < nL) (hr : InR (z + n)) (hno : noL (some a2) = true) (k : J X A own cc nL P (pc + 3) (a0 :: a1 :: a2 :: some (vI (z + n)) :: r) st ω) : J X A own cc nL P pc (a0 :: a1 :: a2 :: some (vI z) :: r) st ω := J_iinc 3 n hd hn rfl hr (Or.inr hno) rfl k
theorem J_istore_4 {a0 a1 a2 a3 b : Option MV} {r : List (Option MV)} {z : Int} (hd : decode cc pc = .ok (.istore 4, 2)) (hn : 4 < nL) (hno : noL (some a3) = true) (k : J X A own cc nL P (pc + 2) (a0 :: a1 :: a2 :: a3 :: some (vI z) :: r) st ω) : J X A own cc nL P pc (a0 :: a1 :: a2 :: a3 :: b :: r) (vI z :: st) ω := J_istore 4 hd hn (Or.inr hno) rfl k
theorem J_lstore_4 {a0 a1 a2 a3 b b2 : Option MV} {r : List (Option MV)} {z : Int} (hd : decode cc pc = .ok (.lstore 4, 2)) (hn : 4 + 1 < nL) (hno : noL (some a3) = true) (k : J X A own cc nL P (pc + 2) (a0 :: a1 :: a2 :: a3 :: some (vL z) :: none :: r) st ω) : J X A own cc nL P pc (a0 :: a1 :: a2 :: a3 :: b :: b2 :: r) (vL z :: st) ω := J_lstore 4 hd hn (Or.inr hno) rfl k
theorem J_iinc_4 {a0 a1 a2 a3 : Option MV} {r : List (Option MV)} {z n : Int} (hd : decode cc pc = .ok (.iinc 4 n, 3)) (hn : 4 < nL) (hr : InR (z + n)) (hno : noL (some a3) = true) (k : J X A own cc nL P (pc + 3) (a0 :: a1 :: a2 :: a3 :: some (vI (z + n)) :: r) st ω) : J X A own cc nL P pc (a0 :: a1 :: a2 :: a3 :: some (vI z) :: r) st ω := J_iinc 4 n hd hn rfl hr (Or.inr hno) rfl k
theorem J_istore_5 {a0 a1 a2 a3 a4 b : Option MV} {r : List (Option MV)} {z : Int} (hd : decode cc pc = .ok (.istore 5, 2)) (hn : 5 < nL) (hno : noL (some a4) = true) (k : J X A own cc nL P (pc + 2) (a0 :: a1 :: a2 :: a3 :: a4 :: some (vI z) :: r) st ω) : J X A own cc nL P pc (a0 :: a1 :: a2 :: a3 :: a4 :: b :: r) (vI z :: st) ω := J_istore 5 hd hn (Or.inr hno) rfl k
theorem J_lstore_5 {a0 a1 a2 a3 a4 b b2 : Option MV} {r : List (Option MV)} {z : Int} (hd : decode cc pc = .ok (.lstore 5, 2)) (hn : 5 + 1 < nL) (hno : noL (some a4) = true) (k : J X A own cc nL P (pc + 2) (a0 :: a1 :: a2 :: a3 :: a4 :: some (vL z) :: none :: r) st ω) : J X A own cc nL P pc (a0 :: a1 :: a2 :: a3 :: a4 :: b :: b2 :: r) (vL z :: st) ω := J_lstore 5 hd hn (Or.inr hno) rfl k
theorem J_iinc_5 {a0 a1 a2 a3 a4 : Option MV} {r : List (Option MV)} {z n : Int} (hd : decode cc pc = .ok (.iinc 5 n, 3)) (hn : 5 < nL) (hr : InR (z + n)) (hno : noL (some a4) = true) (k : J X A own cc nL P (pc + 3) (a0 :: a1 :: a2 :: a3 :: a4 :: some (vI (z + n)) :: r) st ω) : J X A own cc nL P pc (a0 :: a1 :: a2 :: a3 :: a4 :: some (vI z) :: r) st ω := J_iinc 5 n hd hn rfl hr (Or.inr hno) rfl k
theorem J_istore_6 {a0 a1 a2 a3 a4 a5 b : Option MV} {r : List (Option MV)} {z : Int} (hd : decode cc pc = .ok (.istore 6, 2)) (hn : 6 < nL) (hno : noL (some a5) = true) (k : J X A own cc nL P (pc + 2) (a0 :: a1 :: a2 :: a3 :: a4 :: a5 :: some (vI z) :: r) st ω) : J X A own cc nL P pc (a0 :: a1 :: a2 :: a3 :: a4 :: a5 :: b :: r) (vI z :: st) ω := J_istore 6 hd hn (Or.inr hno) rfl k
theorem J_lstore_6 {a0 a1 a2 a3 a4 a5 b b2 : Option MV} {r : List (Option MV)} {z : Int} (hd : decode cc pc = .ok (.lstore 6, 2)) (hn : 6 + 1 < nL) (hno : noL (some a5) = true) (k : J X A own cc nL P (pc + 2) (a0 :: a1 :: a2 :: a3 :: a4 :: a5 :: some (vL z) :: none :: r) st ω) : J X A own cc nL P pc (a0 :: a1 :: a2 :: a3 :: a4 :: a5 :: b :: b2 :: r) (vL z :: st) ω := J_lstore 6 hd hn (Or.inr hno) rfl k
theorem J_iinc_6 {a0 a1 a2 a3 a4 a5 : Option MV} {r : List (Option MV)} {z n : Int} (hd : decode cc pc = .ok (.iinc 6 n, 3)) (hn : 6 < nL) (hr : InR (z + n)) (hno : noL (some a5) = true) (k : J X A own cc nL P (pc + 3) (a0 :: a1 :: a2 :: a3 :: a4 :: a5 :: some (vI (z + n)) :: r) st ω) : J X A own cc nL P pc (a0 :: a1 :: a2 :: a3 :: a4 :: a5 :: some (vI z) :: r) st ω := J_iinc 6 n hd hn rfl hr (Or.inr hno) rfl k
theorem J_istore_7 {a0 a1 a2 a3 a4 a5 a6 b : Option MV} {r : List (Option MV)} {z : Int} (hd : decode cc pc = .ok (.istore 7, 2)) (hn : 7 < nL) (hno : noL (some a6) = true) (k : J X A own cc nL P (pc + 2) (a0 :: a1 :: a2 :: a3 :: a4 :: a5 :: a6 :: some (vI z) :: r) st ω) : J X A own cc nL P pc (a0 :: a1 :: a2 :: a3 :: a4 :: a5 :: a6 :: b :: r) (vI z :: st) ω := J_istore 7 hd hn (Or.inr hno) rfl k
theorem J_lstore_7 {a0 a1 a2 a3 a4 a5 a6 b b2 : Option MV} {r : List (Option MV)} {z : Int} (hd : decode cc pc = .ok (.lstore 7, 2)) (hn : 7 + 1 < nL) (hno : noL (some a6) = true) (k : J X A own cc nL P (pc + 2) (a0 :: a1 :: a2 :: a3 :: a4 :: a5 :: a6 :: some (vL z) :: none :: r) st ω) : J X A own cc nL P pc (a0 :: a1 :: a2 :: a3 :: a4 :: a5 :: a6 :: b :: b2 :: r) (vL z :: st) ω := J_lstore 7 hd hn (Or.inr hno) rfl k
theorem J_iinc_7 {a0 a1 a2 a3 a4 a5 a6 : Option MV} {r : List (Option MV)} {z n : Int} (hd : decode cc pc = .ok (.iinc 7 n, 3)) (hn : 7 < nL) (hr : InR (z + n)) (hno : noL (some a6) = true) (k : J X A own cc nL P (pc + 3) (a0 :: a1 :: a2 :: a3 :: a4 :: a5 :: a6 :: some (vI (z + n)) :: r) st ω) : J X A own cc nL P pc (a0 :: a1 :: a2 :: a3 :: a4 :: a5 :: a6 :: some (vI z) :: r) st ω := J_iinc 7 n hd hn rfl hr (Or.inr hno) rfl k
theorem J_istore_8 {a0 a1 a2 a3 a4 a5 a6 a7 b : Option MV} {r : List (Option MV)} {z : Int} (hd : decode cc pc = .ok (.istore 8, 2)) (hn : 8 < nL) (hno : noL (some a7) = true) (k : J X A own cc nL P (pc + 2) (a0 :: a1 :: a2 :: a3 :: a4 :: a5 :: a6 :: a7 :: some (vI z) :: r) st ω) : J X A own cc nL P pc (a0 :: a1 :: a2 :: a3 :: a4 :: a5 :: a6 :: a7 :: b :: r) (vI z :: st) ω := J_istore 8 hd hn (Or.inr hno) rfl k
theorem J_lstore_8 {a0 a1 a2 a3 a4 a5 a6 a7 b b2 : Option MV} {r : List (Option MV)} {z : Int} (hd : decode cc pc = .ok (.lstore 8, 2)) (hn : 8 + 1 < nL) (hno : noL (some a7) = true) (k : J X A own cc nL P (pc + 2) (a0 :: a1 :: a2 :: a3 :: a4 :: a5 :: a6 :: a7 :: some (vL z) :: none :: r) st ω) : J X A own cc nL P pc (a0 :: a1 :: a2 :: a3 :: a4 :: a5 :: a6 :: a7 :: b :: b2 :: r) (vL z :: st) ω := J_lstore 8 hd hn (Or.inr hno) rfl k
theorem J_iinc_8 {a0 a1 a2 a3 a4 a5 a6 a7 : Option MV} {r : List (Option MV)} {z n : Int} (hd : decode cc pc = .ok (.iinc 8 n, 3)) (hn : 8 < nL) (hr : InR (z + n)) (hno : noL (some a7) = true) (k : J X A own cc nL P (pc + 3) (a0 :: a1 :: a2 :: a3 :: a4 :: a5 :: a6 :: a7 :: some (vI (z + n)) :: r) st ω) : J X A own cc nL P pc (a0 :: a1 :: a2 :: a3 :: a4 :: a5 :: a6 :: a7 :: some (vI z) :: r) st ω := J_iinc 8 n hd hn rfl hr (Or.inr hno) rfl k
theorem J_istore_9 {a0 a1 a2 a3 a4 a5 a6 a7 a8 b : Option MV} {r : List (Option MV)} {z : Int} (hd : decode cc pc = .ok (.istore 9, 2)) (hn : 9 < nL) (hno : noL (some a8) = true) (k : J X A own cc nL P (pc + 2) (a0 :: a1 :: a2 :: a3 :: a4 :: a5 :: a6 :: a7 :: a8 :: some (vI z) :: r) st ω) : J X A own cc nL P pc (a0 :: a1 :: a2 :: a3 :: a4 :: a5 :: a6 :: a7 :: a8 :: b :: r) (vI z :: st) ω := J_istore 9 hd hn (Or.inr hno) rfl k
theorem J_lstore_9 {a0 a1 a2 a3 a4 a5 a6 a7 a8 b b2 : Option MV} {r : List (Option MV)} {z : Int} (hd : decode cc pc = .ok (.lstore 9, 2)) (hn : 9 + 1 < nL) (hno : noL (some a8) = true) (k : J X A own cc nL P (pc + 2) (a0 :: a1 :: a2 :: a3 :: a4 :: a5 :: a6 :: a7 :: a8 :: some (vL z) :: none :: r) st ω) : J X A own cc nL P pc (a0 :: a1 :: a2 :: a3 :: a4 :: a5 :: a6 :: a7 :: a8 :: b :: b2 :: r) (vL z :: st) ω := J_lstore 9 hd hn (Or.inr hno) rfl k
theorem J_iinc_9 {a0 a1 a2 a3 a4 a5 a6 a7 a8 : Option MV} {r : List (Option MV)} {z n : Int} (hd : decode cc pc = .ok (.iinc 9 n, 3)) (hn : 9 < nL) (hr : InR (z + n)) (hno : noL (some a8) = true) (k : J X A own cc nL P (pc + 3) (a0 :: a1 :: a2 :: a3 :: a4 :: a5 :: a6 :: a7 :: a8 :: some (vI (z + n)) :: r) st ω) : J X A own cc nL P pc (a0 :: a1 :: a2 :: a3 :: a4 :: a5 :: a6 :: a7 :: a8 :: some (vI z) :: r) st ω := J_iinc 9 n hd hn rfl hr (Or.inr hno) rfl k
variable {y : MD} {d : Nat} {Q : Option MV → Om → Prop}
theorem Pm_room {z : MD} (hz : z.2.2.1 ≤ 21) : ∀ p e R s m args below meth c cells slots Qm, Pm X y (d + 1) Q p e R s m args below meth c cells slots Qm → rmOk d z R cells slots := by
  intro p e R s m args below meth c cells slots Qm ⟨_, _, h, h1, h2, _⟩
  subst h; subst h1; subst h2
  refine ⟨?_, ?_, Nat.le_refl 0, Nat.le_refl 0⟩
  · show d + 2 ≤ d + 1 + 1; omega
  · show 8 + (z.2.2.1 + 11) + (40 * d + 12) ≤ 40 * (d + 1) + 12; omega
theorem JM_V0 {z : MD} {idx k : Nat} (lk : MLkV y.1.cls idx z 0) (hk : rcv k z.1.cls) (hd : decode y.2.1 pc = .ok (.invokevirtual idx, 3)) (hz : z.2.2.1 ≤ 21) (hw : wt st ≤ 8) (hM : Mc X z d [vR k] ω (fun r ω' => JM X y (d + 1) Q (pc + 3) lv (push r st) ω')) : JM X y (d + 1) Q pc lv (vR k :: st) ω :=
  J_callV (as := []) (Pm_room hz) lk rfl hk hw hd (by simp only [push_app]; exact hM)
theorem JM_V1 {z : MD} {idx k : Nat} {x0 : MV} (lk : MLkV y.1.cls idx z 1) (hk : rcv k z.1.cls) (hd : decode y.2.1 pc = .ok (.invokevirtual idx, 3)) (hz : z.2.2.1 ≤ 21) (hw : wt st ≤ 8) (hM : Mc X z d [vR k, x0] ω (fun r ω' => JM X y (d + 1) Q (pc + 3) lv (push r st) ω')) : JM X y (d + 1) Q pc lv (x0 :: vR k :: st) ω :=
  J_callV (as := [x0]) (Pm_room hz) lk rfl hk hw hd (by simp only [push_app]; exact hM)
theorem JM_S1 {z : MD} {idx : Nat} {x0 : MV} (lk : MLkS y.1.cls idx z 1) (hd : decode y.2.1 pc = .ok (.invokestatic idx, 3)) (hz : z.2.2.1 ≤ 21) (hw : wt st ≤ 8) (hM : Mc X z d [x0] ω (fun r ω' => JM X y (d + 1) Q (pc + 3) lv (push r st) ω')) : JM X y (d + 1) Q pc lv (x0 :: st) ω :=
  J_callS (as := [x0]) (Pm_room hz) lk rfl hw hd (by simp only [push_app]; exact hM)
theorem JM_V2 {z : MD} {idx k : Nat} {x0 x1 : MV} (lk : MLkV y.1.cls idx z 2) (hk : rcv k z.1.cls) (hd : decode y.2.1 pc = .ok (.invokevirtual idx, 3)) (hz : z.2.2.1 ≤ 21) (hw : wt st ≤ 8) (hM : Mc X z d [vR k, x0, x1] ω (fun r ω' => JM X y (d + 1) Q (pc + 3) lv (push r st) ω')) : JM X y (d + 1) Q pc lv (x1 :: x0 :: vR k :: st) ω :=
  J_callV (as := [x0, x1]) (Pm_room hz) lk rfl hk hw hd (by simp only [push_app]; exact hM)
theorem JM_S2 {z : MD} {idx : Nat} {x0 x1 : MV} (lk : MLkS y.1.cls idx z 2) (hd : decode y.2.1 pc = .ok (.invokestatic idx, 3)) (hz : z.2.2.1 ≤ 21) (hw : wt st ≤ 8) (hM : Mc X z d [x0, x1] ω (fun r ω' => JM X y (d + 1) Q (pc + 3) lv (push r st) ω')) : JM X y (d + 1) Q pc lv (x1 :: x0 :: st) ω :=
  J_callS (as := [x0, x1]) (Pm_room hz) lk rfl hw hd (by simp only [push_app]; exact hM)
theorem JM_V3 {z : MD} {idx k : Nat} {x0 x1 x2 : MV} (lk : MLkV y.1.cls idx z 3) (hk : rcv k z.1.cls) (hd : decode y.2.1 pc = .ok (.invokevirtual idx, 3)) (hz : z.2.2.1 ≤ 21) (hw : wt st ≤ 8) (hM : Mc X z d [vR k, x0, x1, x2] ω (fun r ω' => JM X y (d + 1) Q (pc + 3) lv (push r st) ω')) : JM X y (d + 1) Q pc lv (x2 :: x1 :: x0 :: vR k :: st) ω :=
  J_callV (as := [x0, x1, x2]) (Pm_room hz) lk rfl hk hw hd (by simp only [push_app]; exact hM)
theorem JM_S3 {z : MD} {idx : Nat} {x0 x1 x2 : MV} (lk : MLkS y.1.cls idx z 3) (hd : decode y.2.1 pc = .ok (.invokestatic idx, 3)) (hz : z.2.2.1 ≤ 21) (hw : wt st ≤ 8) (hM : Mc X z d [x0, x1, x2] ω (fun r ω' => JM X y (d + 1) Q (pc + 3) lv (push r st) ω')) : JM X y (d + 1) Q pc lv (x2 :: x1 :: x0 :: st) ω :=
  J_callS (as := [x0, x1, x2]) (Pm_room hz) lk rfl hw hd (by simp only [push_app]; exact hM)
theorem JM_V4 {z : MD} {idx k : Nat} {x0 x1 x2 x3 : MV} (lk : MLkV y.1.cls idx z 4) (hk : rcv k z.1.cls) (hd : decode y.2.1 pc = .ok (.invokevirtual idx, 3)) (hz : z.2.2.1 ≤ 21) (hw : wt st ≤ 8) (hM : Mc X z d [vR k, x0, x1, x2, x3] ω (fun r ω' => JM X y (d + 1) Q (pc + 3) lv (push r st) ω')) : JM X y (d + 1) Q pc lv (x3 :: x2 :: x1 :: x0 :: vR k :: st) ω :=
  J_callV (as := [x0, x1, x2, x3]) (Pm_room hz) lk rfl hk hw hd (by simp only [push_app]; exact hM)
theorem JM_S4 {z : MD} {idx : Nat} {x0 x1 x2 x3 : MV} (lk : MLkS y.1.cls idx z 4) (hd : decode y.2.1 pc = .ok (.invokestatic idx, 3)) (hz : z.2.2.1 ≤ 21) (hw : wt st ≤ 8) (hM : Mc X z d [x0, x1, x2, x3] ω (fun r ω' => JM X y (d + 1) Q (pc + 3) lv (push r st) ω')) : JM X y (d + 1) Q pc lv (x3 :: x2 :: x1 :: x0 :: st) ω :=
  J_callS (as := [x0, x1, x2, x3]) (Pm_room hz) lk rfl hw hd (by simp only [push_app]; exact hM)
theorem JM_V5 {z : MD} {idx k : Nat} {x0 x1 x2 x3 x4 : MV} (lk : MLkV y.1.cls idx z 5) (hk : rcv k z.1.cls) (hd : decode y.2.1 pc = .ok (.invokevirtual idx, 3)) (hz : z.2.2.1 ≤ 21) (hw : wt st ≤ 8) (hM : Mc X z d [vR k, x0, x1, x2, x3, x4] ω (fun r ω' => JM X y (d + 1) Q (pc + 3) lv (push r st) ω')) : JM X y (d + 1) Q pc lv (x4 :: x3 :: x2 :: x1 :: x0 :: vR k :: st) ω :=
  J_callV (as := [x0, x1, x2, x3, x4]) (Pm_room hz) lk rfl hk hw hd (by simp only [push_app]; exact hM)
theorem JM_S5 {z : MD} {idx : Nat} {x0 x1 x2 x3 x4 : MV} (lk : MLkS y.1.cls idx z 5) (hd : decode y.2.1 pc = .ok (.invokestatic idx, 3)) (hz : z.2.2.1 ≤ 21) (hw : wt st ≤ 8) (hM : Mc X z d [x0, x1, x2, x3, x4] ω (fun r ω' => JM X y (d + 1) Q (pc + 3) lv (push r st) ω')) : JM X y (d + 1) Q pc lv (x4 :: x3 :: x2 :: x1 :: x0 :: st) ω :=
  J_callS (as := [x0, x1, x2, x3, x4]) (Pm_room hz) lk rfl hw hd (by simp only [push_app]; exact hM)
end JV
theorem rcv_0 : rcv 0 RX6 := ⟨6, _, _, _, rfl, rfl, rfl⟩
theorem rcv_1 : rcv 1 RX1 := ⟨1, _, _, _, rfl, rfl, rfl⟩
theorem rcv_2 : rcv 2 RX2 := ⟨2, _, _, _, rfl, rfl, rfl⟩
theorem rcv_3 : rcv 3 RX5 := ⟨5, _, _, _, rfl, rfl, rfl⟩
theorem rcv_4 : rcv 4 RX4 := ⟨4, _, _, _, rfl, rfl, rfl⟩
theorem rcv_5 : rcv 5 RX3 := ⟨3, _, _, _, rfl, rfl, rfl⟩
theorem rcv_6 : rcv 6 RX0 := ⟨0, _, _, _, rfl, rfl, rfl⟩
theorem rcv_29 : rcv 29 RX7 := ⟨7, _, _, _, rfl, rfl, rfl⟩
theorem fp_0_6 : fput 0 6 0 := ⟨RX0, TX0, 14, tyX0, clsX0, by decide, rfl, Or.inl ⟨rfl, rfl⟩⟩
theorem fp_0_7 : fput 0 7 0 := ⟨RX0, TX0, 14, tyX0, clsX0, by decide, rfl, Or.inl ⟨rfl, rfl⟩⟩
theorem fp_0_8 : fput 0 8 0 := ⟨RX0, TX0, 14, tyX0, clsX0, by decide, rfl, Or.inl ⟨rfl, rfl⟩⟩
theorem fp_0_9 : fput 0 9 0 := ⟨RX0, TX0, 14, tyX0, clsX0, by decide, rfl, Or.inl ⟨rfl, rfl⟩⟩
theorem fp_0_10 : fput 0 10 0 := ⟨RX0, TX0, 14, tyX0, clsX0, by decide, rfl, Or.inl ⟨rfl, rfl⟩⟩
theorem fp_0_11 : fput 0 11 0 := ⟨RX0, TX0, 14, tyX0, clsX0, by decide, rfl, Or.inl ⟨rfl, rfl⟩⟩
theorem fp_0_12 : fput 0 12 0 := ⟨RX0, TX0, 14, tyX0, clsX0, by decide, rfl, Or.inl ⟨rfl, rfl⟩⟩
theorem fp_0_13 : fput 0 13 0 := ⟨RX0, TX0, 14, tyX0, clsX0, by decide, rfl, Or.inl ⟨rfl, rfl⟩⟩
theorem fp_1_1 : fput 1 1 0 := ⟨RX1, TX1, 2, tyX1, clsX1, by decide, rfl, Or.inl ⟨rfl, rfl⟩⟩
theorem fp_2_3 : fput 2 3 0 := ⟨RX2, TX2, 9, tyX2, clsX2, by decide, rfl, Or.inl ⟨rfl, rfl⟩⟩
theorem fp_2_4 : fput 2 4 0 := ⟨RX2, TX2, 9, tyX2, clsX2, by decide, rfl, Or.inl ⟨rfl, rfl⟩⟩
theorem fp_2_5 : fput 2 5 0 := ⟨RX2, TX2, 9, tyX2, clsX2, by decide, rfl, Or.inl ⟨rfl, rfl⟩⟩
theorem fp_2_6 : fput 2 6 0 := ⟨RX2, TX2, 9, tyX2, clsX2, by decide, rfl, Or.inl ⟨rfl, rfl⟩⟩
theorem fp_2_7 : fput 2 7 0 := ⟨RX2, TX2, 9, tyX2, clsX2, by decide, rfl, Or.inl ⟨rfl, rfl⟩⟩
theorem fp_2_8 : fput 2 8 0 := ⟨RX2, TX2, 9, tyX2, clsX2, by decide, rfl, Or.inl ⟨rfl, rfl⟩⟩
theorem fp_3_5 : fput 3 5 1 := ⟨RX3, TX3, 8, tyX3, clsX3, by decide, rfl, Or.inr ⟨rfl, rfl⟩⟩
theorem fp_3_6 : fput 3 6 0 := ⟨RX3, TX3, 8, tyX3, clsX3, by decide, rfl, Or.inl ⟨rfl, rfl⟩⟩
theorem fp_3_7 : fput 3 7 0 := ⟨RX3, TX3, 8, tyX3, clsX3, by decide, rfl, Or.inl ⟨rfl, rfl⟩⟩
theorem fp_4_5 : fput 4 5 1 := ⟨RX4, TX4, 9, tyX4, clsX4, by decide, rfl, Or.inr ⟨rfl, rfl⟩⟩
theorem fp_4_6 : fput 4 6 0 := ⟨RX4, TX4, 9, tyX4, clsX4, by decide, rfl, Or.inl ⟨rfl, rfl⟩⟩
theorem fp_4_7 : fput 4 7 0 := ⟨RX4, TX4, 9, tyX4, clsX4, by decide, rfl, Or.inl ⟨rfl, rfl⟩⟩
theorem fp_4_8 : fput 4 8 0 := ⟨RX4, TX4, 9, tyX4, clsX4, by decide, rfl, Or.inl ⟨rfl, rfl⟩⟩
theorem fp_5_7 : fput 5 7 0 := ⟨RX5, TX5, 10, tyX5, clsX5, by decide, rfl, Or.inl ⟨rfl, rfl⟩⟩
theorem fp_5_8 : fput 5 8 0 := ⟨RX5, TX5, 10, tyX5, clsX5, by decide, rfl, Or.inl ⟨rfl, rfl⟩⟩
theorem fp_5_9 : fput 5 9 0 := ⟨RX5, TX5, 10, tyX5, clsX5, by decide, rfl, Or.inl ⟨rfl, rfl⟩⟩
theorem fp_6_6 : fput 6 6 0 := ⟨RX6, TX6, 7, tyX6, clsX6, by decide, rfl, Or.inl ⟨rfl, rfl⟩⟩
theorem fp_7_0 : fput 7 0 0 := ⟨RX7, TX7, 45, tyX7, clsX7, by decide, rfl, Or.inl ⟨rfl, rfl⟩⟩
theorem fp_7_2 : fput 7 2 0 := ⟨RX7, TX7, 45, tyX7, clsX7, by decide, rfl, Or.inl ⟨rfl, rfl⟩⟩
theorem fp_7_7 : fput 7 7 0 := ⟨RX7, TX7, 45, tyX7, clsX7, by decide, rfl, Or.inl ⟨rfl, rfl⟩⟩
theorem fp_7_8 : fput 7 8 0 := ⟨RX7, TX7, 45, tyX7, clsX7, by decide, rfl, Or.inl ⟨rfl, rfl⟩⟩
theorem fp_7_12 : fput 7 12 0 := ⟨RX7, TX7, 45, tyX7, clsX7, by decide, rfl, Or.inl ⟨rfl, rfl⟩⟩
theorem fp_7_15 : fput 7 15 0 := ⟨RX7, TX7, 45, tyX7, clsX7, by decide, rfl, Or.inl ⟨rfl, rfl⟩⟩
theorem fp_7_17 : fput 7 17 0 := ⟨RX7, TX7, 45, tyX7, clsX7, by decide, rfl, Or.inl ⟨rfl, rfl⟩⟩
theorem fp_7_18 : fput 7 18 0 := ⟨RX7, TX7, 45, tyX7, clsX7, by decide, rfl, Or.inl ⟨rfl, rfl⟩⟩
theorem fp_7_19 : fput 7 19 0 := ⟨RX7, TX7, 45, tyX7, clsX7, by decide, rfl, Or.inl ⟨rfl, rfl⟩⟩
theorem fp_7_20 : fput 7 20 0 := ⟨RX7, TX7, 45, tyX7, clsX7, by decide, rfl, Or.inl ⟨rfl, rfl⟩⟩
theorem fp_7_21 : fput 7 21 0 := ⟨RX7, TX7, 45, tyX7, clsX7, by decide, rfl, Or.inl ⟨rfl, rfl⟩⟩
theorem fp_7_22 : fput 7 22 0 := ⟨RX7, TX7, 45, tyX7, clsX7, by decide, rfl, Or.inl ⟨rfl, rfl⟩⟩
theorem fp_7_23 : fput 7 23 0 := ⟨RX7, TX7, 45, tyX7, clsX7, by decide, rfl, Or.inl ⟨rfl, rfl⟩⟩
theorem fp_7_27 : fput 7 27 0 := ⟨RX7, TX7, 45, tyX7, clsX7, by decide, rfl, Or.inl ⟨rfl, rfl⟩⟩
theorem fp_7_28 : fput 7 28 0 := ⟨RX7, TX7, 45, tyX7, clsX7, by decide, rfl, Or.inl ⟨rfl, rfl⟩⟩
theorem fp_7_31 : fput 7 31 0 := ⟨RX7, TX7, 45, tyX7, clsX7, by decide, rfl, Or.inl ⟨rfl, rfl⟩⟩
theorem fp_7_32 : fput 7 32 0 := ⟨RX7, TX7, 45, tyX7, clsX7, by decide, rfl, Or.inl ⟨rfl, rfl⟩⟩
theorem fp_7_36 : fput 7 36 0 := ⟨RX7, TX7, 45, tyX7, clsX7, by decide, rfl, Or.inl ⟨rfl, rfl⟩⟩
theorem fp_7_39 : fput 7 39 0 := ⟨RX7, TX7, 45, tyX7, clsX7, by decide, rfl, Or.inl ⟨rfl, rfl⟩⟩
theorem fp_7_40 : fput 7 40 0 := ⟨RX7, TX7, 45, tyX7, clsX7, by decide, rfl, Or.inl ⟨rfl, rfl⟩⟩
theorem fp_7_41 : fput 7 41 0 := ⟨RX7, TX7, 45, tyX7, clsX7, by decide, rfl, Or.inl ⟨rfl, rfl⟩⟩
theorem fp_7_43 : fput 7 43 0 := ⟨RX7, TX7, 45, tyX7, clsX7, by decide, rfl, Or.inl ⟨rfl, rfl⟩⟩
theorem fp_7_44 : fput 7 44 1 := ⟨RX7, TX7, 45, tyX7, clsX7, by decide, rfl, Or.inr ⟨rfl, rfl⟩⟩
end
section
theorem dX1_append_0 : decode mX1_append.2.1 0 = .ok (.aload_n 0, 1) := by decide +kernel
theorem dX1_append_1 : decode mX1_append.2.1 1 = .ok (.getfield 15, 3) := by decide +kernel
theorem dX1_append_4 : decode mX1_append.2.1 4 = .ok (.bipush 40, 2) := by decide +kernel
theorem dX1_append_6 : decode mX1_append.2.1 6 = .ok (.if_icmp .lt 5, 3) := by decide +kernel
theorem dX1_append_9 : decode mX1_append.2.1 9 = .ok (.iconst 0, 1) := by decide +kernel
theorem dX1_append_10 : decode mX1_append.2.1 10 = .ok (.ireturn, 1) := by decide +kernel
theorem dX1_append_11 : decode mX1_append.2.1 11 = .ok (.aload_n 0, 1) := by decide +kernel
theorem dX1_append_12 : decode mX1_append.2.1 12 = .ok (.getfield 9, 3) := by decide +kernel
theorem dX1_append_15 : decode mX1_append.2.1 15 = .ok (.aload_n 0, 1) := by decide +kernel
theorem dX1_append_16 : decode mX1_append.2.1 16 = .ok (.getfield 15, 3) := by decide +kernel
theorem dX1_append_19 : decode mX1_append.2.1 19 = .ok (.iload_n 1, 1) := by decide +kernel
theorem dX1_append_20 : decode mX1_append.2.1 20 = .ok (.iastore, 1) := by decide +kernel
theorem dX1_append_21 : decode mX1_append.2.1 21 = .ok (.aload_n 0, 1) := by decide +kernel
theorem dX1_append_22 : decode mX1_append.2.1 22 = .ok (.dup, 1) := by decide +kernel
theorem dX1_append_23 : decode mX1_append.2.1 23 = .ok (.getfield 15, 3) := by decide +kernel
theorem dX1_append_26 : decode mX1_append.2.1 26 = .ok (.iconst 1, 1) := by decide +kernel
theorem dX1_append_27 : decode mX1_append.2.1 27 = .ok (.iadd, 1) := by decide +kernel
theorem dX1_append_28 : decode mX1_append.2.1 28 = .ok (.putfield 15, 3) := by decide +kernel
theorem dX1_append_31 : decode mX1_append.2.1 31 = .ok (.iconst 1, 1) := by decide +kernel
theorem dX1_append_32 : decode mX1_append.2.1 32 = .ok (.ireturn, 1) := by decide +kernel
theorem dX1_wipe_0 : decode mX1_wipe.2.1 0 = .ok (.aload_n 0, 1) := by decide +kernel
theorem dX1_wipe_1 : decode mX1_wipe.2.1 1 = .ok (.iconst 0, 1) := by decide +kernel
theorem dX1_wipe_2 : decode mX1_wipe.2.1 2 = .ok (.putfield 15, 3) := by decide +kernel
theorem dX1_wipe_5 : decode mX1_wipe.2.1 5 = .ok (.return_, 1) := by decide +kernel
theorem dX1_codeAt_0 : decode mX1_codeAt.2.1 0 = .ok (.iload_n 1, 1) := by decide +kernel
theorem dX1_codeAt_1 : decode mX1_codeAt.2.1 1 = .ok (.ifCond .lt 26, 3) := by decide +kernel
theorem dX1_codeAt_4 : decode mX1_codeAt.2.1 4 = .ok (.iload_n 1, 1) := by decide +kernel
theorem dX1_codeAt_5 : decode mX1_codeAt.2.1 5 = .ok (.aload_n 0, 1) := by decide +kernel
theorem dX1_codeAt_6 : decode mX1_codeAt.2.1 6 = .ok (.getfield 15, 3) := by decide +kernel
theorem dX1_codeAt_9 : decode mX1_codeAt.2.1 9 = .ok (.if_icmp .ge 18, 3) := by decide +kernel
theorem dX1_codeAt_12 : decode mX1_codeAt.2.1 12 = .ok (.iload_n 1, 1) := by decide +kernel
theorem dX1_codeAt_13 : decode mX1_codeAt.2.1 13 = .ok (.bipush 40, 2) := by decide +kernel
theorem dX1_codeAt_15 : decode mX1_codeAt.2.1 15 = .ok (.if_icmp .ge 12, 3) := by decide +kernel
theorem dX1_codeAt_18 : decode mX1_codeAt.2.1 18 = .ok (.aload_n 0, 1) := by decide +kernel
theorem dX1_codeAt_19 : decode mX1_codeAt.2.1 19 = .ok (.getfield 9, 3) := by decide +kernel
theorem dX1_codeAt_22 : decode mX1_codeAt.2.1 22 = .ok (.iload_n 1, 1) := by decide +kernel
theorem dX1_codeAt_23 : decode mX1_codeAt.2.1 23 = .ok (.iaload, 1) := by decide +kernel
theorem dX1_codeAt_24 : decode mX1_codeAt.2.1 24 = .ok (.goto 4, 3) := by decide +kernel
theorem dX1_codeAt_27 : decode mX1_codeAt.2.1 27 = .ok (.iconst (-1), 1) := by decide +kernel
theorem dX1_codeAt_28 : decode mX1_codeAt.2.1 28 = .ok (.ireturn, 1) := by decide +kernel
theorem dX2_read_0 : decode mX2_read.2.1 0 = .ok (.aload_n 0, 1) := by decide +kernel
theorem dX2_read_1 : decode mX2_read.2.1 1 = .ok (.iload_n 2, 1) := by decide +kernel
theorem dX2_read_2 : decode mX2_read.2.1 2 = .ok (.invokevirtual 21, 3) := by decide +kernel
theorem dX2_read_5 : decode mX2_read.2.1 5 = .ok (.iconst 0, 1) := by decide +kernel
theorem dX2_read_6 : decode mX2_read.2.1 6 = .ok (.istore_n 3, 1) := by decide +kernel
theorem dX2_read_7 : decode mX2_read.2.1 7 = .ok (.iload_n 3, 1) := by decide +kernel
theorem dX2_read_8 : decode mX2_read.2.1 8 = .ok (.aload_n 1, 1) := by decide +kernel
theorem dX2_read_9 : decode mX2_read.2.1 9 = .ok (.getfield 25, 3) := by decide +kernel
theorem dX2_read_12 : decode mX2_read.2.1 12 = .ok (.if_icmp .ge 23, 3) := by decide +kernel
theorem dX2_read_15 : decode mX2_read.2.1 15 = .ok (.aload_n 0, 1) := by decide +kernel
theorem dX2_read_16 : decode mX2_read.2.1 16 = .ok (.aload_n 1, 1) := by decide +kernel
theorem dX2_read_17 : decode mX2_read.2.1 17 = .ok (.iload_n 3, 1) := by decide +kernel
theorem dX2_read_18 : decode mX2_read.2.1 18 = .ok (.invokevirtual 31, 3) := by decide +kernel
theorem dX2_read_21 : decode mX2_read.2.1 21 = .ok (.invokevirtual 35, 3) := by decide +kernel
theorem dX2_read_24 : decode mX2_read.2.1 24 = .ok (.ifCond .ne 5, 3) := by decide +kernel
theorem dX2_read_27 : decode mX2_read.2.1 27 = .ok (.iload_n 3, 1) := by decide +kernel
theorem dX2_read_28 : decode mX2_read.2.1 28 = .ok (.ireturn, 1) := by decide +kernel
theorem dX2_read_29 : decode mX2_read.2.1 29 = .ok (.iinc 3 1, 3) := by decide +kernel
theorem dX2_read_32 : decode mX2_read.2.1 32 = .ok (.goto (-25), 3) := by decide +kernel
theorem dX2_read_35 : decode mX2_read.2.1 35 = .ok (.aload_n 1, 1) := by decide +kernel
theorem dX2_read_36 : decode mX2_read.2.1 36 = .ok (.getfield 25, 3) := by decide +kernel
theorem dX2_read_39 : decode mX2_read.2.1 39 = .ok (.ireturn, 1) := by decide +kernel
theorem dX2_isWhole_0 : decode mX2_isWhole.2.1 0 = .ok (.aload_n 0, 1) := by decide +kernel
theorem dX2_isWhole_1 : decode mX2_isWhole.2.1 1 = .ok (.getfield 39, 3) := by decide +kernel
theorem dX2_isWhole_4 : decode mX2_isWhole.2.1 4 = .ok (.iconst 4, 1) := by decide +kernel
theorem dX2_isWhole_5 : decode mX2_isWhole.2.1 5 = .ok (.if_icmp .eq 20, 3) := by decide +kernel
theorem dX2_isWhole_8 : decode mX2_isWhole.2.1 8 = .ok (.aload_n 0, 1) := by decide +kernel
theorem dX2_isWhole_9 : decode mX2_isWhole.2.1 9 = .ok (.getfield 39, 3) := by decide +kernel
theorem dX2_isWhole_12 : decode mX2_isWhole.2.1 12 = .ok (.iconst 5, 1) := by decide +kernel
theorem dX2_isWhole_13 : decode mX2_isWhole.2.1 13 = .ok (.if_icmp .eq 12, 3) := by decide +kernel
theorem dX2_isWhole_16 : decode mX2_isWhole.2.1 16 = .ok (.aload_n 0, 1) := by decide +kernel
theorem dX2_isWhole_17 : decode mX2_isWhole.2.1 17 = .ok (.getfield 39, 3) := by decide +kernel
theorem dX2_isWhole_20 : decode mX2_isWhole.2.1 20 = .ok (.bipush 6, 2) := by decide +kernel
theorem dX2_isWhole_22 : decode mX2_isWhole.2.1 22 = .ok (.if_icmp .ne 7, 3) := by decide +kernel
theorem dX2_isWhole_25 : decode mX2_isWhole.2.1 25 = .ok (.iconst 1, 1) := by decide +kernel
theorem dX2_isWhole_26 : decode mX2_isWhole.2.1 26 = .ok (.goto 4, 3) := by decide +kernel
theorem dX2_isWhole_29 : decode mX2_isWhole.2.1 29 = .ok (.iconst 0, 1) := by decide +kernel
theorem dX2_isWhole_30 : decode mX2_isWhole.2.1 30 = .ok (.ireturn, 1) := by decide +kernel
theorem dX2_methodCount_0 : decode mX2_methodCount.2.1 0 = .ok (.aload_n 0, 1) := by decide +kernel
theorem dX2_methodCount_1 : decode mX2_methodCount.2.1 1 = .ok (.getfield 42, 3) := by decide +kernel
theorem dX2_methodCount_4 : decode mX2_methodCount.2.1 4 = .ok (.bipush 63, 2) := by decide +kernel
theorem dX2_methodCount_6 : decode mX2_methodCount.2.1 6 = .ok (.iand, 1) := by decide +kernel
theorem dX2_methodCount_7 : decode mX2_methodCount.2.1 7 = .ok (.invokestatic 45, 3) := by decide +kernel
theorem dX2_methodCount_10 : decode mX2_methodCount.2.1 10 = .ok (.ireturn, 1) := by decide +kernel
theorem dX2_memberAt_0 : decode mX2_memberAt.2.1 0 = .ok (.iload_n 1, 1) := by decide +kernel
theorem dX2_memberAt_1 : decode mX2_memberAt.2.1 1 = .ok (.ifCond .lt 26, 3) := by decide +kernel
theorem dX2_memberAt_4 : decode mX2_memberAt.2.1 4 = .ok (.iload_n 1, 1) := by decide +kernel
theorem dX2_memberAt_5 : decode mX2_memberAt.2.1 5 = .ok (.aload_n 0, 1) := by decide +kernel
theorem dX2_memberAt_6 : decode mX2_memberAt.2.1 6 = .ok (.getfield 50, 3) := by decide +kernel
theorem dX2_memberAt_9 : decode mX2_memberAt.2.1 9 = .ok (.if_icmp .ge 18, 3) := by decide +kernel
theorem dX2_memberAt_12 : decode mX2_memberAt.2.1 12 = .ok (.iload_n 1, 1) := by decide +kernel
theorem dX2_memberAt_13 : decode mX2_memberAt.2.1 13 = .ok (.bipush 12, 2) := by decide +kernel
theorem dX2_memberAt_15 : decode mX2_memberAt.2.1 15 = .ok (.if_icmp .ge 12, 3) := by decide +kernel
theorem dX2_memberAt_18 : decode mX2_memberAt.2.1 18 = .ok (.aload_n 0, 1) := by decide +kernel
theorem dX2_memberAt_19 : decode mX2_memberAt.2.1 19 = .ok (.getfield 9, 3) := by decide +kernel
theorem dX2_memberAt_22 : decode mX2_memberAt.2.1 22 = .ok (.iload_n 1, 1) := by decide +kernel
theorem dX2_memberAt_23 : decode mX2_memberAt.2.1 23 = .ok (.iaload, 1) := by decide +kernel
theorem dX2_memberAt_24 : decode mX2_memberAt.2.1 24 = .ok (.goto 4, 3) := by decide +kernel
theorem dX2_memberAt_27 : decode mX2_memberAt.2.1 27 = .ok (.iconst (-1), 1) := by decide +kernel
theorem dX2_memberAt_28 : decode mX2_memberAt.2.1 28 = .ok (.ireturn, 1) := by decide +kernel
theorem dX2_itemCountOf_0 : decode mX2_itemCountOf.2.1 0 = .ok (.iload_n 1, 1) := by decide +kernel
theorem dX2_itemCountOf_1 : decode mX2_itemCountOf.2.1 1 = .ok (.ifCond .lt 18, 3) := by decide +kernel
theorem dX2_itemCountOf_4 : decode mX2_itemCountOf.2.1 4 = .ok (.iload_n 1, 1) := by decide +kernel
theorem dX2_itemCountOf_5 : decode mX2_itemCountOf.2.1 5 = .ok (.bipush 12, 2) := by decide +kernel
theorem dX2_itemCountOf_7 : decode mX2_itemCountOf.2.1 7 = .ok (.if_icmp .ge 12, 3) := by decide +kernel
theorem dX2_itemCountOf_10 : decode mX2_itemCountOf.2.1 10 = .ok (.aload_n 0, 1) := by decide +kernel
theorem dX2_itemCountOf_11 : decode mX2_itemCountOf.2.1 11 = .ok (.getfield 15, 3) := by decide +kernel
theorem dX2_itemCountOf_14 : decode mX2_itemCountOf.2.1 14 = .ok (.iload_n 1, 1) := by decide +kernel
theorem dX2_itemCountOf_15 : decode mX2_itemCountOf.2.1 15 = .ok (.iaload, 1) := by decide +kernel
theorem dX2_itemCountOf_16 : decode mX2_itemCountOf.2.1 16 = .ok (.goto 4, 3) := by decide +kernel
theorem dX2_itemCountOf_19 : decode mX2_itemCountOf.2.1 19 = .ok (.iconst 0, 1) := by decide +kernel
theorem dX2_itemCountOf_20 : decode mX2_itemCountOf.2.1 20 = .ok (.ireturn, 1) := by decide +kernel
theorem dX2_itemAt_0 : decode mX2_itemAt.2.1 0 = .ok (.iload_n 1, 1) := by decide +kernel
theorem dX2_itemAt_1 : decode mX2_itemAt.2.1 1 = .ok (.invokestatic 53, 3) := by decide +kernel
theorem dX2_itemAt_4 : decode mX2_itemAt.2.1 4 = .ok (.ifCond .eq 27, 3) := by decide +kernel
theorem dX2_itemAt_7 : decode mX2_itemAt.2.1 7 = .ok (.iload_n 2, 1) := by decide +kernel
theorem dX2_itemAt_8 : decode mX2_itemAt.2.1 8 = .ok (.ifCond .lt 23, 3) := by decide +kernel
theorem dX2_itemAt_11 : decode mX2_itemAt.2.1 11 = .ok (.iload_n 2, 1) := by decide +kernel
theorem dX2_itemAt_12 : decode mX2_itemAt.2.1 12 = .ok (.bipush 6, 2) := by decide +kernel
theorem dX2_itemAt_14 : decode mX2_itemAt.2.1 14 = .ok (.if_icmp .ge 17, 3) := by decide +kernel
theorem dX2_itemAt_17 : decode mX2_itemAt.2.1 17 = .ok (.aload_n 0, 1) := by decide +kernel
theorem dX2_itemAt_18 : decode mX2_itemAt.2.1 18 = .ok (.getfield 18, 3) := by decide +kernel
theorem dX2_itemAt_21 : decode mX2_itemAt.2.1 21 = .ok (.iload_n 1, 1) := by decide +kernel
theorem dX2_itemAt_22 : decode mX2_itemAt.2.1 22 = .ok (.bipush 6, 2) := by decide +kernel
theorem dX2_itemAt_24 : decode mX2_itemAt.2.1 24 = .ok (.imul, 1) := by decide +kernel
theorem dX2_itemAt_25 : decode mX2_itemAt.2.1 25 = .ok (.iload_n 2, 1) := by decide +kernel
theorem dX2_itemAt_26 : decode mX2_itemAt.2.1 26 = .ok (.iadd, 1) := by decide +kernel
theorem dX2_itemAt_27 : decode mX2_itemAt.2.1 27 = .ok (.iaload, 1) := by decide +kernel
theorem dX2_itemAt_28 : decode mX2_itemAt.2.1 28 = .ok (.goto 4, 3) := by decide +kernel
theorem dX2_itemAt_31 : decode mX2_itemAt.2.1 31 = .ok (.iconst (-1), 1) := by decide +kernel
theorem dX2_itemAt_32 : decode mX2_itemAt.2.1 32 = .ok (.ireturn, 1) := by decide +kernel
theorem dX2_start_0 : decode mX2_start.2.1 0 = .ok (.aload_n 0, 1) := by decide +kernel
theorem dX2_start_1 : decode mX2_start.2.1 1 = .ok (.iconst 0, 1) := by decide +kernel
theorem dX2_start_2 : decode mX2_start.2.1 2 = .ok (.putfield 39, 3) := by decide +kernel
theorem dX2_start_5 : decode mX2_start.2.1 5 = .ok (.aload_n 0, 1) := by decide +kernel
theorem dX2_start_6 : decode mX2_start.2.1 6 = .ok (.iload_n 1, 1) := by decide +kernel
theorem dX2_start_7 : decode mX2_start.2.1 7 = .ok (.putfield 56, 3) := by decide +kernel
theorem dX2_start_10 : decode mX2_start.2.1 10 = .ok (.aload_n 0, 1) := by decide +kernel
theorem dX2_start_11 : decode mX2_start.2.1 11 = .ok (.iconst (-1), 1) := by decide +kernel
theorem dX2_start_12 : decode mX2_start.2.1 12 = .ok (.putfield 59, 3) := by decide +kernel
theorem dX2_start_15 : decode mX2_start.2.1 15 = .ok (.aload_n 0, 1) := by decide +kernel
theorem dX2_start_16 : decode mX2_start.2.1 16 = .ok (.iconst 0, 1) := by decide +kernel
theorem dX2_start_17 : decode mX2_start.2.1 17 = .ok (.putfield 50, 3) := by decide +kernel
theorem dX2_start_20 : decode mX2_start.2.1 20 = .ok (.aload_n 0, 1) := by decide +kernel
theorem dX2_start_21 : decode mX2_start.2.1 21 = .ok (.iconst 0, 1) := by decide +kernel
theorem dX2_start_22 : decode mX2_start.2.1 22 = .ok (.putfield 42, 3) := by decide +kernel
theorem dX2_start_25 : decode mX2_start.2.1 25 = .ok (.aload_n 0, 1) := by decide +kernel
theorem dX2_start_26 : decode mX2_start.2.1 26 = .ok (.iconst 0, 1) := by decide +kernel
theorem dX2_start_27 : decode mX2_start.2.1 27 = .ok (.putfield 62, 3) := by decide +kernel
theorem dX2_start_30 : decode mX2_start.2.1 30 = .ok (.return_, 1) := by decide +kernel
theorem dX2_take_0 : decode mX2_take.2.1 0 = .ok (.aload_n 0, 1) := by decide +kernel
theorem dX2_take_1 : decode mX2_take.2.1 1 = .ok (.getfield 39, 3) := by decide +kernel
theorem dX2_take_4 : decode mX2_take.2.1 4 = .ok (.tableswitch 200 0 7 #[48, 70, 109, 146, 163, 169, 188, 194], 48) := by decide +kernel
theorem dX2_take_52 : decode mX2_take.2.1 52 = .ok (.aload_n 0, 1) := by decide +kernel
theorem dX2_take_53 : decode mX2_take.2.1 53 = .ok (.iload_n 1, 1) := by decide +kernel
theorem dX2_take_54 : decode mX2_take.2.1 54 = .ok (.bipush 65, 2) := by decide +kernel
theorem dX2_take_56 : decode mX2_take.2.1 56 = .ok (.aload_n 0, 1) := by decide +kernel
theorem dX2_take_57 : decode mX2_take.2.1 57 = .ok (.getfield 56, 3) := by decide +kernel
theorem dX2_take_60 : decode mX2_take.2.1 60 = .ok (.iadd, 1) := by decide +kernel
theorem dX2_take_61 : decode mX2_take.2.1 61 = .ok (.if_icmp .ne 7, 3) := by decide +kernel
theorem dX2_take_64 : decode mX2_take.2.1 64 = .ok (.iconst 1, 1) := by decide +kernel
theorem dX2_take_65 : decode mX2_take.2.1 65 = .ok (.goto 4, 3) := by decide +kernel
theorem dX2_take_68 : decode mX2_take.2.1 68 = .ok (.iconst 0, 1) := by decide +kernel
theorem dX2_take_69 : decode mX2_take.2.1 69 = .ok (.iconst 1, 1) := by decide +kernel
theorem dX2_take_70 : decode mX2_take.2.1 70 = .ok (.invokevirtual 65, 3) := by decide +kernel
theorem dX2_take_73 : decode mX2_take.2.1 73 = .ok (.ireturn, 1) := by decide +kernel
theorem dX2_take_74 : decode mX2_take.2.1 74 = .ok (.iload_n 1, 1) := by decide +kernel
theorem dX2_take_75 : decode mX2_take.2.1 75 = .ok (.bipush 58, 2) := by decide +kernel
theorem dX2_take_77 : decode mX2_take.2.1 77 = .ok (.if_icmp .ne 12, 3) := by decide +kernel
theorem dX2_take_80 : decode mX2_take.2.1 80 = .ok (.aload_n 0, 1) := by decide +kernel
theorem dX2_take_81 : decode mX2_take.2.1 81 = .ok (.iconst 1, 1) := by decide +kernel
theorem dX2_take_82 : decode mX2_take.2.1 82 = .ok (.iconst 4, 1) := by decide +kernel
theorem dX2_take_83 : decode mX2_take.2.1 83 = .ok (.invokevirtual 65, 3) := by decide +kernel
theorem dX2_take_86 : decode mX2_take.2.1 86 = .ok (.goto 26, 3) := by decide +kernel
theorem dX2_take_89 : decode mX2_take.2.1 89 = .ok (.aload_n 0, 1) := by decide +kernel
theorem dX2_take_90 : decode mX2_take.2.1 90 = .ok (.iload_n 1, 1) := by decide +kernel
theorem dX2_take_91 : decode mX2_take.2.1 91 = .ok (.bipush 60, 2) := by decide +kernel
theorem dX2_take_93 : decode mX2_take.2.1 93 = .ok (.if_icmp .ne 14, 3) := by decide +kernel
theorem dX2_take_96 : decode mX2_take.2.1 96 = .ok (.aload_n 0, 1) := by decide +kernel
theorem dX2_take_97 : decode mX2_take.2.1 97 = .ok (.getfield 56, 3) := by decide +kernel
theorem dX2_take_100 : decode mX2_take.2.1 100 = .ok (.ifCond .le 7, 3) := by decide +kernel
theorem dX2_take_103 : decode mX2_take.2.1 103 = .ok (.iconst 1, 1) := by decide +kernel
theorem dX2_take_104 : decode mX2_take.2.1 104 = .ok (.goto 4, 3) := by decide +kernel
theorem dX2_take_107 : decode mX2_take.2.1 107 = .ok (.iconst 0, 1) := by decide +kernel
theorem dX2_take_108 : decode mX2_take.2.1 108 = .ok (.iconst 2, 1) := by decide +kernel
theorem dX2_take_109 : decode mX2_take.2.1 109 = .ok (.invokevirtual 65, 3) := by decide +kernel
theorem dX2_take_112 : decode mX2_take.2.1 112 = .ok (.ireturn, 1) := by decide +kernel
theorem dX2_take_113 : decode mX2_take.2.1 113 = .ok (.aload_n 0, 1) := by decide +kernel
theorem dX2_take_114 : decode mX2_take.2.1 114 = .ok (.iload_n 1, 1) := by decide +kernel
theorem dX2_take_115 : decode mX2_take.2.1 115 = .ok (.bipush 65, 2) := by decide +kernel
theorem dX2_take_117 : decode mX2_take.2.1 117 = .ok (.isub, 1) := by decide +kernel
theorem dX2_take_118 : decode mX2_take.2.1 118 = .ok (.putfield 59, 3) := by decide +kernel
theorem dX2_take_121 : decode mX2_take.2.1 121 = .ok (.aload_n 0, 1) := by decide +kernel
theorem dX2_take_122 : decode mX2_take.2.1 122 = .ok (.aload_n 0, 1) := by decide +kernel
theorem dX2_take_123 : decode mX2_take.2.1 123 = .ok (.getfield 59, 3) := by decide +kernel
theorem dX2_take_126 : decode mX2_take.2.1 126 = .ok (.ifCond .lt 18, 3) := by decide +kernel
theorem dX2_take_129 : decode mX2_take.2.1 129 = .ok (.aload_n 0, 1) := by decide +kernel
theorem dX2_take_130 : decode mX2_take.2.1 130 = .ok (.getfield 59, 3) := by decide +kernel
theorem dX2_take_133 : decode mX2_take.2.1 133 = .ok (.aload_n 0, 1) := by decide +kernel
theorem dX2_take_134 : decode mX2_take.2.1 134 = .ok (.getfield 56, 3) := by decide +kernel
theorem dX2_take_137 : decode mX2_take.2.1 137 = .ok (.if_icmp .ge 7, 3) := by decide +kernel
theorem dX2_take_140 : decode mX2_take.2.1 140 = .ok (.iconst 1, 1) := by decide +kernel
theorem dX2_take_141 : decode mX2_take.2.1 141 = .ok (.goto 4, 3) := by decide +kernel
theorem dX2_take_144 : decode mX2_take.2.1 144 = .ok (.iconst 0, 1) := by decide +kernel
theorem dX2_take_145 : decode mX2_take.2.1 145 = .ok (.iconst 3, 1) := by decide +kernel
theorem dX2_take_146 : decode mX2_take.2.1 146 = .ok (.invokevirtual 65, 3) := by decide +kernel
theorem dX2_take_149 : decode mX2_take.2.1 149 = .ok (.ireturn, 1) := by decide +kernel
theorem dX2_take_150 : decode mX2_take.2.1 150 = .ok (.aload_n 0, 1) := by decide +kernel
theorem dX2_take_151 : decode mX2_take.2.1 151 = .ok (.iload_n 1, 1) := by decide +kernel
theorem dX2_take_152 : decode mX2_take.2.1 152 = .ok (.bipush 58, 2) := by decide +kernel
theorem dX2_take_154 : decode mX2_take.2.1 154 = .ok (.if_icmp .ne 7, 3) := by decide +kernel
theorem dX2_take_157 : decode mX2_take.2.1 157 = .ok (.iconst 1, 1) := by decide +kernel
theorem dX2_take_158 : decode mX2_take.2.1 158 = .ok (.goto 4, 3) := by decide +kernel
theorem dX2_take_161 : decode mX2_take.2.1 161 = .ok (.iconst 0, 1) := by decide +kernel
theorem dX2_take_162 : decode mX2_take.2.1 162 = .ok (.iconst 4, 1) := by decide +kernel
theorem dX2_take_163 : decode mX2_take.2.1 163 = .ok (.invokevirtual 65, 3) := by decide +kernel
theorem dX2_take_166 : decode mX2_take.2.1 166 = .ok (.ireturn, 1) := by decide +kernel
theorem dX2_take_167 : decode mX2_take.2.1 167 = .ok (.aload_n 0, 1) := by decide +kernel
theorem dX2_take_168 : decode mX2_take.2.1 168 = .ok (.iload_n 1, 1) := by decide +kernel
theorem dX2_take_169 : decode mX2_take.2.1 169 = .ok (.invokevirtual 69, 3) := by decide +kernel
theorem dX2_take_172 : decode mX2_take.2.1 172 = .ok (.ireturn, 1) := by decide +kernel
theorem dX2_take_173 : decode mX2_take.2.1 173 = .ok (.iload_n 1, 1) := by decide +kernel
theorem dX2_take_174 : decode mX2_take.2.1 174 = .ok (.bipush 45, 2) := by decide +kernel
theorem dX2_take_176 : decode mX2_take.2.1 176 = .ok (.if_icmp .ne 10, 3) := by decide +kernel
theorem dX2_take_179 : decode mX2_take.2.1 179 = .ok (.aload_n 0, 1) := by decide +kernel
theorem dX2_take_180 : decode mX2_take.2.1 180 = .ok (.invokevirtual 72, 3) := by decide +kernel
theorem dX2_take_183 : decode mX2_take.2.1 183 = .ok (.goto 8, 3) := by decide +kernel
theorem dX2_take_186 : decode mX2_take.2.1 186 = .ok (.aload_n 0, 1) := by decide +kernel
theorem dX2_take_187 : decode mX2_take.2.1 187 = .ok (.iload_n 1, 1) := by decide +kernel
theorem dX2_take_188 : decode mX2_take.2.1 188 = .ok (.invokevirtual 76, 3) := by decide +kernel
theorem dX2_take_191 : decode mX2_take.2.1 191 = .ok (.ireturn, 1) := by decide +kernel
theorem dX2_take_192 : decode mX2_take.2.1 192 = .ok (.aload_n 0, 1) := by decide +kernel
theorem dX2_take_193 : decode mX2_take.2.1 193 = .ok (.iload_n 1, 1) := by decide +kernel
theorem dX2_take_194 : decode mX2_take.2.1 194 = .ok (.invokevirtual 76, 3) := by decide +kernel
theorem dX2_take_197 : decode mX2_take.2.1 197 = .ok (.ireturn, 1) := by decide +kernel
theorem dX2_take_198 : decode mX2_take.2.1 198 = .ok (.aload_n 0, 1) := by decide +kernel
theorem dX2_take_199 : decode mX2_take.2.1 199 = .ok (.iload_n 1, 1) := by decide +kernel
theorem dX2_take_200 : decode mX2_take.2.1 200 = .ok (.invokevirtual 79, 3) := by decide +kernel
theorem dX2_take_203 : decode mX2_take.2.1 203 = .ok (.ireturn, 1) := by decide +kernel
theorem dX2_take_204 : decode mX2_take.2.1 204 = .ok (.aload_n 0, 1) := by decide +kernel
theorem dX2_take_205 : decode mX2_take.2.1 205 = .ok (.iload_n 1, 1) := by decide +kernel
theorem dX2_take_206 : decode mX2_take.2.1 206 = .ok (.invokevirtual 82, 3) := by decide +kernel
theorem dX2_take_209 : decode mX2_take.2.1 209 = .ok (.ireturn, 1) := by decide +kernel
theorem dX2_goOn_0 : decode mX2_goOn.2.1 0 = .ok (.iload_n 1, 1) := by decide +kernel
theorem dX2_goOn_1 : decode mX2_goOn.2.1 1 = .ok (.ifCond .eq 8, 3) := by decide +kernel
theorem dX2_goOn_4 : decode mX2_goOn.2.1 4 = .ok (.aload_n 0, 1) := by decide +kernel
theorem dX2_goOn_5 : decode mX2_goOn.2.1 5 = .ok (.iload_n 2, 1) := by decide +kernel
theorem dX2_goOn_6 : decode mX2_goOn.2.1 6 = .ok (.putfield 39, 3) := by decide +kernel
theorem dX2_goOn_9 : decode mX2_goOn.2.1 9 = .ok (.iload_n 1, 1) := by decide +kernel
theorem dX2_goOn_10 : decode mX2_goOn.2.1 10 = .ok (.ireturn, 1) := by decide +kernel
theorem dX2_takeMember_0 : decode mX2_takeMember.2.1 0 = .ok (.iload_n 1, 1) := by decide +kernel
theorem dX2_takeMember_1 : decode mX2_takeMember.2.1 1 = .ok (.invokestatic 85, 3) := by decide +kernel
theorem dX2_takeMember_4 : decode mX2_takeMember.2.1 4 = .ok (.istore_n 2, 1) := by decide +kernel
theorem dX2_takeMember_5 : decode mX2_takeMember.2.1 5 = .ok (.iload_n 2, 1) := by decide +kernel
theorem dX2_takeMember_6 : decode mX2_takeMember.2.1 6 = .ok (.invokestatic 53, 3) := by decide +kernel
theorem dX2_takeMember_9 : decode mX2_takeMember.2.1 9 = .ok (.ifCond .eq 23, 3) := by decide +kernel
theorem dX2_takeMember_12 : decode mX2_takeMember.2.1 12 = .ok (.aload_n 0, 1) := by decide +kernel
theorem dX2_takeMember_13 : decode mX2_takeMember.2.1 13 = .ok (.getfield 42, 3) := by decide +kernel
theorem dX2_takeMember_16 : decode mX2_takeMember.2.1 16 = .ok (.iload_n 2, 1) := by decide +kernel
theorem dX2_takeMember_17 : decode mX2_takeMember.2.1 17 = .ok (.ishr, 1) := by decide +kernel
theorem dX2_takeMember_18 : decode mX2_takeMember.2.1 18 = .ok (.iconst 1, 1) := by decide +kernel
theorem dX2_takeMember_19 : decode mX2_takeMember.2.1 19 = .ok (.iand, 1) := by decide +kernel
theorem dX2_takeMember_20 : decode mX2_takeMember.2.1 20 = .ok (.ifCond .ne 12, 3) := by decide +kernel
theorem dX2_takeMember_23 : decode mX2_takeMember.2.1 23 = .ok (.aload_n 0, 1) := by decide +kernel
theorem dX2_takeMember_24 : decode mX2_takeMember.2.1 24 = .ok (.getfield 50, 3) := by decide +kernel
theorem dX2_takeMember_27 : decode mX2_takeMember.2.1 27 = .ok (.bipush 12, 2) := by decide +kernel
theorem dX2_takeMember_29 : decode mX2_takeMember.2.1 29 = .ok (.if_icmp .lt 5, 3) := by decide +kernel
theorem dX2_takeMember_32 : decode mX2_takeMember.2.1 32 = .ok (.iconst 0, 1) := by decide +kernel
theorem dX2_takeMember_33 : decode mX2_takeMember.2.1 33 = .ok (.ireturn, 1) := by decide +kernel
theorem dX2_takeMember_34 : decode mX2_takeMember.2.1 34 = .ok (.aload_n 0, 1) := by decide +kernel
theorem dX2_takeMember_35 : decode mX2_takeMember.2.1 35 = .ok (.getfield 9, 3) := by decide +kernel
theorem dX2_takeMember_38 : decode mX2_takeMember.2.1 38 = .ok (.aload_n 0, 1) := by decide +kernel
theorem dX2_takeMember_39 : decode mX2_takeMember.2.1 39 = .ok (.getfield 50, 3) := by decide +kernel
theorem dX2_takeMember_42 : decode mX2_takeMember.2.1 42 = .ok (.iload_n 2, 1) := by decide +kernel
theorem dX2_takeMember_43 : decode mX2_takeMember.2.1 43 = .ok (.iastore, 1) := by decide +kernel
theorem dX2_takeMember_44 : decode mX2_takeMember.2.1 44 = .ok (.aload_n 0, 1) := by decide +kernel
theorem dX2_takeMember_45 : decode mX2_takeMember.2.1 45 = .ok (.dup, 1) := by decide +kernel
theorem dX2_takeMember_46 : decode mX2_takeMember.2.1 46 = .ok (.getfield 50, 3) := by decide +kernel
theorem dX2_takeMember_49 : decode mX2_takeMember.2.1 49 = .ok (.iconst 1, 1) := by decide +kernel
theorem dX2_takeMember_50 : decode mX2_takeMember.2.1 50 = .ok (.iadd, 1) := by decide +kernel
theorem dX2_takeMember_51 : decode mX2_takeMember.2.1 51 = .ok (.putfield 50, 3) := by decide +kernel
theorem dX2_takeMember_54 : decode mX2_takeMember.2.1 54 = .ok (.aload_n 0, 1) := by decide +kernel
theorem dX2_takeMember_55 : decode mX2_takeMember.2.1 55 = .ok (.dup, 1) := by decide +kernel
theorem dX2_takeMember_56 : decode mX2_takeMember.2.1 56 = .ok (.getfield 42, 3) := by decide +kernel
theorem dX2_takeMember_59 : decode mX2_takeMember.2.1 59 = .ok (.iconst 1, 1) := by decide +kernel
theorem dX2_takeMember_60 : decode mX2_takeMember.2.1 60 = .ok (.iload_n 2, 1) := by decide +kernel
theorem dX2_takeMember_61 : decode mX2_takeMember.2.1 61 = .ok (.ishl, 1) := by decide +kernel
theorem dX2_takeMember_62 : decode mX2_takeMember.2.1 62 = .ok (.ior, 1) := by decide +kernel
theorem dX2_takeMember_63 : decode mX2_takeMember.2.1 63 = .ok (.putfield 42, 3) := by decide +kernel
theorem dX2_takeMember_66 : decode mX2_takeMember.2.1 66 = .ok (.aload_n 0, 1) := by decide +kernel
theorem dX2_takeMember_67 : decode mX2_takeMember.2.1 67 = .ok (.getfield 15, 3) := by decide +kernel
theorem dX2_takeMember_70 : decode mX2_takeMember.2.1 70 = .ok (.iload_n 2, 1) := by decide +kernel
theorem dX2_takeMember_71 : decode mX2_takeMember.2.1 71 = .ok (.iconst 0, 1) := by decide +kernel
theorem dX2_takeMember_72 : decode mX2_takeMember.2.1 72 = .ok (.iastore, 1) := by decide +kernel
theorem dX2_takeMember_73 : decode mX2_takeMember.2.1 73 = .ok (.aload_n 0, 1) := by decide +kernel
theorem dX2_takeMember_74 : decode mX2_takeMember.2.1 74 = .ok (.iconst 1, 1) := by decide +kernel
theorem dX2_takeMember_75 : decode mX2_takeMember.2.1 75 = .ok (.iload_n 2, 1) := by decide +kernel
theorem dX2_takeMember_76 : decode mX2_takeMember.2.1 76 = .ok (.invokestatic 88, 3) := by decide +kernel
theorem dX2_takeMember_79 : decode mX2_takeMember.2.1 79 = .ok (.ifCond .eq 7, 3) := by decide +kernel
theorem dX2_takeMember_82 : decode mX2_takeMember.2.1 82 = .ok (.iconst 5, 1) := by decide +kernel
theorem dX2_takeMember_83 : decode mX2_takeMember.2.1 83 = .ok (.goto 4, 3) := by decide +kernel
theorem dX2_takeMember_86 : decode mX2_takeMember.2.1 86 = .ok (.iconst 4, 1) := by decide +kernel
theorem dX2_takeMember_87 : decode mX2_takeMember.2.1 87 = .ok (.invokevirtual 65, 3) := by decide +kernel
theorem dX2_takeMember_90 : decode mX2_takeMember.2.1 90 = .ok (.ireturn, 1) := by decide +kernel
theorem dX2_takeDash_0 : decode mX2_takeDash.2.1 0 = .ok (.aload_n 0, 1) := by decide +kernel
theorem dX2_takeDash_1 : decode mX2_takeDash.2.1 1 = .ok (.dup, 1) := by decide +kernel
theorem dX2_takeDash_2 : decode mX2_takeDash.2.1 2 = .ok (.getfield 62, 3) := by decide +kernel
theorem dX2_takeDash_5 : decode mX2_takeDash.2.1 5 = .ok (.iconst 1, 1) := by decide +kernel
theorem dX2_takeDash_6 : decode mX2_takeDash.2.1 6 = .ok (.aload_n 0, 1) := by decide +kernel
theorem dX2_takeDash_7 : decode mX2_takeDash.2.1 7 = .ok (.aload_n 0, 1) := by decide +kernel
theorem dX2_takeDash_8 : decode mX2_takeDash.2.1 8 = .ok (.getfield 50, 3) := by decide +kernel
theorem dX2_takeDash_11 : decode mX2_takeDash.2.1 11 = .ok (.iconst 1, 1) := by decide +kernel
theorem dX2_takeDash_12 : decode mX2_takeDash.2.1 12 = .ok (.isub, 1) := by decide +kernel
theorem dX2_takeDash_13 : decode mX2_takeDash.2.1 13 = .ok (.invokevirtual 91, 3) := by decide +kernel
theorem dX2_takeDash_16 : decode mX2_takeDash.2.1 16 = .ok (.ishl, 1) := by decide +kernel
theorem dX2_takeDash_17 : decode mX2_takeDash.2.1 17 = .ok (.ior, 1) := by decide +kernel
theorem dX2_takeDash_18 : decode mX2_takeDash.2.1 18 = .ok (.putfield 62, 3) := by decide +kernel
theorem dX2_takeDash_21 : decode mX2_takeDash.2.1 21 = .ok (.aload_n 0, 1) := by decide +kernel
theorem dX2_takeDash_22 : decode mX2_takeDash.2.1 22 = .ok (.iconst 1, 1) := by decide +kernel
theorem dX2_takeDash_23 : decode mX2_takeDash.2.1 23 = .ok (.bipush 6, 2) := by decide +kernel
theorem dX2_takeDash_25 : decode mX2_takeDash.2.1 25 = .ok (.invokevirtual 65, 3) := by decide +kernel
theorem dX2_takeDash_28 : decode mX2_takeDash.2.1 28 = .ok (.ireturn, 1) := by decide +kernel
theorem dX2_takeBehindDash_0 : decode mX2_takeBehindDash.2.1 0 = .ok (.iload_n 1, 1) := by decide +kernel
theorem dX2_takeBehindDash_1 : decode mX2_takeBehindDash.2.1 1 = .ok (.bipush 40, 2) := by decide +kernel
theorem dX2_takeBehindDash_3 : decode mX2_takeBehindDash.2.1 3 = .ok (.if_icmp .ne 13, 3) := by decide +kernel
theorem dX2_takeBehindDash_6 : decode mX2_takeBehindDash.2.1 6 = .ok (.aload_n 0, 1) := by decide +kernel
theorem dX2_takeBehindDash_7 : decode mX2_takeBehindDash.2.1 7 = .ok (.iconst 1, 1) := by decide +kernel
theorem dX2_takeBehindDash_8 : decode mX2_takeBehindDash.2.1 8 = .ok (.bipush 7, 2) := by decide +kernel
theorem dX2_takeBehindDash_10 : decode mX2_takeBehindDash.2.1 10 = .ok (.invokevirtual 65, 3) := by decide +kernel
theorem dX2_takeBehindDash_13 : decode mX2_takeBehindDash.2.1 13 = .ok (.goto 8, 3) := by decide +kernel
theorem dX2_takeBehindDash_16 : decode mX2_takeBehindDash.2.1 16 = .ok (.aload_n 0, 1) := by decide +kernel
theorem dX2_takeBehindDash_17 : decode mX2_takeBehindDash.2.1 17 = .ok (.iload_n 1, 1) := by decide +kernel
theorem dX2_takeBehindDash_18 : decode mX2_takeBehindDash.2.1 18 = .ok (.invokevirtual 69, 3) := by decide +kernel
theorem dX2_takeBehindDash_21 : decode mX2_takeBehindDash.2.1 21 = .ok (.ireturn, 1) := by decide +kernel
theorem dX2_takeItem_0 : decode mX2_takeItem.2.1 0 = .ok (.aload_n 0, 1) := by decide +kernel
theorem dX2_takeItem_1 : decode mX2_takeItem.2.1 1 = .ok (.aload_n 0, 1) := by decide +kernel
theorem dX2_takeItem_2 : decode mX2_takeItem.2.1 2 = .ok (.aload_n 0, 1) := by decide +kernel
theorem dX2_takeItem_3 : decode mX2_takeItem.2.1 3 = .ok (.getfield 50, 3) := by decide +kernel
theorem dX2_takeItem_6 : decode mX2_takeItem.2.1 6 = .ok (.iconst 1, 1) := by decide +kernel
theorem dX2_takeItem_7 : decode mX2_takeItem.2.1 7 = .ok (.isub, 1) := by decide +kernel
theorem dX2_takeItem_8 : decode mX2_takeItem.2.1 8 = .ok (.invokevirtual 91, 3) := by decide +kernel
theorem dX2_takeItem_11 : decode mX2_takeItem.2.1 11 = .ok (.invokevirtual 94, 3) := by decide +kernel
theorem dX2_takeItem_14 : decode mX2_takeItem.2.1 14 = .ok (.istore_n 2, 1) := by decide +kernel
theorem dX2_takeItem_15 : decode mX2_takeItem.2.1 15 = .ok (.iload_n 1, 1) := by decide +kernel
theorem dX2_takeItem_16 : decode mX2_takeItem.2.1 16 = .ok (.bipush 41, 2) := by decide +kernel
theorem dX2_takeItem_18 : decode mX2_takeItem.2.1 18 = .ok (.if_icmp .ne 18, 3) := by decide +kernel
theorem dX2_takeItem_21 : decode mX2_takeItem.2.1 21 = .ok (.aload_n 0, 1) := by decide +kernel
theorem dX2_takeItem_22 : decode mX2_takeItem.2.1 22 = .ok (.iload_n 2, 1) := by decide +kernel
theorem dX2_takeItem_23 : decode mX2_takeItem.2.1 23 = .ok (.ifCond .le 7, 3) := by decide +kernel
theorem dX2_takeItem_26 : decode mX2_takeItem.2.1 26 = .ok (.iconst 1, 1) := by decide +kernel
theorem dX2_takeItem_27 : decode mX2_takeItem.2.1 27 = .ok (.goto 4, 3) := by decide +kernel
theorem dX2_takeItem_30 : decode mX2_takeItem.2.1 30 = .ok (.iconst 0, 1) := by decide +kernel
theorem dX2_takeItem_31 : decode mX2_takeItem.2.1 31 = .ok (.iconst 4, 1) := by decide +kernel
theorem dX2_takeItem_32 : decode mX2_takeItem.2.1 32 = .ok (.invokevirtual 65, 3) := by decide +kernel
theorem dX2_takeItem_35 : decode mX2_takeItem.2.1 35 = .ok (.ireturn, 1) := by decide +kernel
theorem dX2_takeItem_36 : decode mX2_takeItem.2.1 36 = .ok (.iload_n 2, 1) := by decide +kernel
theorem dX2_takeItem_37 : decode mX2_takeItem.2.1 37 = .ok (.bipush 6, 2) := by decide +kernel
theorem dX2_takeItem_39 : decode mX2_takeItem.2.1 39 = .ok (.if_icmp .lt 5, 3) := by decide +kernel
theorem dX2_takeItem_42 : decode mX2_takeItem.2.1 42 = .ok (.iconst 0, 1) := by decide +kernel
theorem dX2_takeItem_43 : decode mX2_takeItem.2.1 43 = .ok (.ireturn, 1) := by decide +kernel
theorem dX2_takeItem_44 : decode mX2_takeItem.2.1 44 = .ok (.iload_n 1, 1) := by decide +kernel
theorem dX2_takeItem_45 : decode mX2_takeItem.2.1 45 = .ok (.bipush 94, 2) := by decide +kernel
theorem dX2_takeItem_47 : decode mX2_takeItem.2.1 47 = .ok (.if_icmp .ne 11, 3) := by decide +kernel
theorem dX2_takeItem_50 : decode mX2_takeItem.2.1 50 = .ok (.aload_n 0, 1) := by decide +kernel
theorem dX2_takeItem_51 : decode mX2_takeItem.2.1 51 = .ok (.iconst 1, 1) := by decide +kernel
theorem dX2_takeItem_52 : decode mX2_takeItem.2.1 52 = .ok (.bipush 8, 2) := by decide +kernel
theorem dX2_takeItem_54 : decode mX2_takeItem.2.1 54 = .ok (.invokevirtual 65, 3) := by decide +kernel
theorem dX2_takeItem_57 : decode mX2_takeItem.2.1 57 = .ok (.ireturn, 1) := by decide +kernel
theorem dX2_takeItem_58 : decode mX2_takeItem.2.1 58 = .ok (.iload_n 1, 1) := by decide +kernel
theorem dX2_takeItem_59 : decode mX2_takeItem.2.1 59 = .ok (.invokestatic 85, 3) := by decide +kernel
theorem dX2_takeItem_62 : decode mX2_takeItem.2.1 62 = .ok (.istore_n 3, 1) := by decide +kernel
theorem dX2_takeItem_63 : decode mX2_takeItem.2.1 63 = .ok (.iload_n 3, 1) := by decide +kernel
theorem dX2_takeItem_64 : decode mX2_takeItem.2.1 64 = .ok (.invokestatic 53, 3) := by decide +kernel
theorem dX2_takeItem_67 : decode mX2_takeItem.2.1 67 = .ok (.ifCond .eq 15, 3) := by decide +kernel
theorem dX2_takeItem_70 : decode mX2_takeItem.2.1 70 = .ok (.aload_n 0, 1) := by decide +kernel
theorem dX2_takeItem_71 : decode mX2_takeItem.2.1 71 = .ok (.iload_n 3, 1) := by decide +kernel
theorem dX2_takeItem_72 : decode mX2_takeItem.2.1 72 = .ok (.invokevirtual 97, 3) := by decide +kernel
theorem dX2_takeItem_75 : decode mX2_takeItem.2.1 75 = .ok (.ifCond .eq 7, 3) := by decide +kernel
theorem dX2_takeItem_78 : decode mX2_takeItem.2.1 78 = .ok (.iconst 1, 1) := by decide +kernel
theorem dX2_takeItem_79 : decode mX2_takeItem.2.1 79 = .ok (.goto 4, 3) := by decide +kernel
theorem dX2_takeItem_82 : decode mX2_takeItem.2.1 82 = .ok (.iconst 0, 1) := by decide +kernel
theorem dX2_takeItem_83 : decode mX2_takeItem.2.1 83 = .ok (.ireturn, 1) := by decide +kernel
theorem dX2_takeAsked_0 : decode mX2_takeAsked.2.1 0 = .ok (.iload_n 1, 1) := by decide +kernel
theorem dX2_takeAsked_1 : decode mX2_takeAsked.2.1 1 = .ok (.invokestatic 85, 3) := by decide +kernel
theorem dX2_takeAsked_4 : decode mX2_takeAsked.2.1 4 = .ok (.istore_n 2, 1) := by decide +kernel
theorem dX2_takeAsked_5 : decode mX2_takeAsked.2.1 5 = .ok (.iload_n 2, 1) := by decide +kernel
theorem dX2_takeAsked_6 : decode mX2_takeAsked.2.1 6 = .ok (.invokestatic 88, 3) := by decide +kernel
theorem dX2_takeAsked_9 : decode mX2_takeAsked.2.1 9 = .ok (.ifCond .eq 18, 3) := by decide +kernel
theorem dX2_takeAsked_12 : decode mX2_takeAsked.2.1 12 = .ok (.aload_n 0, 1) := by decide +kernel
theorem dX2_takeAsked_13 : decode mX2_takeAsked.2.1 13 = .ok (.bipush 20, 2) := by decide +kernel
theorem dX2_takeAsked_15 : decode mX2_takeAsked.2.1 15 = .ok (.iload_n 2, 1) := by decide +kernel
theorem dX2_takeAsked_16 : decode mX2_takeAsked.2.1 16 = .ok (.iadd, 1) := by decide +kernel
theorem dX2_takeAsked_17 : decode mX2_takeAsked.2.1 17 = .ok (.invokevirtual 97, 3) := by decide +kernel
theorem dX2_takeAsked_20 : decode mX2_takeAsked.2.1 20 = .ok (.ifCond .eq 7, 3) := by decide +kernel
theorem dX2_takeAsked_23 : decode mX2_takeAsked.2.1 23 = .ok (.iconst 1, 1) := by decide +kernel
theorem dX2_takeAsked_24 : decode mX2_takeAsked.2.1 24 = .ok (.goto 4, 3) := by decide +kernel
theorem dX2_takeAsked_27 : decode mX2_takeAsked.2.1 27 = .ok (.iconst 0, 1) := by decide +kernel
theorem dX2_takeAsked_28 : decode mX2_takeAsked.2.1 28 = .ok (.ireturn, 1) := by decide +kernel
theorem dX2_addItem_0 : decode mX2_addItem.2.1 0 = .ok (.aload_n 0, 1) := by decide +kernel
theorem dX2_addItem_1 : decode mX2_addItem.2.1 1 = .ok (.aload_n 0, 1) := by decide +kernel
theorem dX2_addItem_2 : decode mX2_addItem.2.1 2 = .ok (.getfield 50, 3) := by decide +kernel
theorem dX2_addItem_5 : decode mX2_addItem.2.1 5 = .ok (.iconst 1, 1) := by decide +kernel
theorem dX2_addItem_6 : decode mX2_addItem.2.1 6 = .ok (.isub, 1) := by decide +kernel
theorem dX2_addItem_7 : decode mX2_addItem.2.1 7 = .ok (.invokevirtual 91, 3) := by decide +kernel
theorem dX2_addItem_10 : decode mX2_addItem.2.1 10 = .ok (.istore_n 2, 1) := by decide +kernel
theorem dX2_addItem_11 : decode mX2_addItem.2.1 11 = .ok (.iload_n 2, 1) := by decide +kernel
theorem dX2_addItem_12 : decode mX2_addItem.2.1 12 = .ok (.invokestatic 53, 3) := by decide +kernel
theorem dX2_addItem_15 : decode mX2_addItem.2.1 15 = .ok (.ifCond .eq 14, 3) := by decide +kernel
theorem dX2_addItem_18 : decode mX2_addItem.2.1 18 = .ok (.aload_n 0, 1) := by decide +kernel
theorem dX2_addItem_19 : decode mX2_addItem.2.1 19 = .ok (.getfield 15, 3) := by decide +kernel
theorem dX2_addItem_22 : decode mX2_addItem.2.1 22 = .ok (.iload_n 2, 1) := by decide +kernel
theorem dX2_addItem_23 : decode mX2_addItem.2.1 23 = .ok (.iaload, 1) := by decide +kernel
theorem dX2_addItem_24 : decode mX2_addItem.2.1 24 = .ok (.bipush 6, 2) := by decide +kernel
theorem dX2_addItem_26 : decode mX2_addItem.2.1 26 = .ok (.if_icmp .lt 5, 3) := by decide +kernel
theorem dX2_addItem_29 : decode mX2_addItem.2.1 29 = .ok (.iconst 0, 1) := by decide +kernel
theorem dX2_addItem_30 : decode mX2_addItem.2.1 30 = .ok (.ireturn, 1) := by decide +kernel
theorem dX2_addItem_31 : decode mX2_addItem.2.1 31 = .ok (.aload_n 0, 1) := by decide +kernel
theorem dX2_addItem_32 : decode mX2_addItem.2.1 32 = .ok (.getfield 18, 3) := by decide +kernel
theorem dX2_addItem_35 : decode mX2_addItem.2.1 35 = .ok (.iload_n 2, 1) := by decide +kernel
theorem dX2_addItem_36 : decode mX2_addItem.2.1 36 = .ok (.bipush 6, 2) := by decide +kernel
theorem dX2_addItem_38 : decode mX2_addItem.2.1 38 = .ok (.imul, 1) := by decide +kernel
theorem dX2_addItem_39 : decode mX2_addItem.2.1 39 = .ok (.aload_n 0, 1) := by decide +kernel
theorem dX2_addItem_40 : decode mX2_addItem.2.1 40 = .ok (.getfield 15, 3) := by decide +kernel
theorem dX2_addItem_43 : decode mX2_addItem.2.1 43 = .ok (.iload_n 2, 1) := by decide +kernel
theorem dX2_addItem_44 : decode mX2_addItem.2.1 44 = .ok (.iaload, 1) := by decide +kernel
theorem dX2_addItem_45 : decode mX2_addItem.2.1 45 = .ok (.iadd, 1) := by decide +kernel
theorem dX2_addItem_46 : decode mX2_addItem.2.1 46 = .ok (.iload_n 1, 1) := by decide +kernel
theorem dX2_addItem_47 : decode mX2_addItem.2.1 47 = .ok (.iastore, 1) := by decide +kernel
theorem dX2_addItem_48 : decode mX2_addItem.2.1 48 = .ok (.aload_n 0, 1) := by decide +kernel
theorem dX2_addItem_49 : decode mX2_addItem.2.1 49 = .ok (.getfield 15, 3) := by decide +kernel
theorem dX2_addItem_52 : decode mX2_addItem.2.1 52 = .ok (.iload_n 2, 1) := by decide +kernel
theorem dX2_addItem_53 : decode mX2_addItem.2.1 53 = .ok (.dup2, 1) := by decide +kernel
theorem dX2_addItem_54 : decode mX2_addItem.2.1 54 = .ok (.iaload, 1) := by decide +kernel
theorem dX2_addItem_55 : decode mX2_addItem.2.1 55 = .ok (.iconst 1, 1) := by decide +kernel
theorem dX2_addItem_56 : decode mX2_addItem.2.1 56 = .ok (.iadd, 1) := by decide +kernel
theorem dX2_addItem_57 : decode mX2_addItem.2.1 57 = .ok (.iastore, 1) := by decide +kernel
theorem dX2_addItem_58 : decode mX2_addItem.2.1 58 = .ok (.aload_n 0, 1) := by decide +kernel
theorem dX2_addItem_59 : decode mX2_addItem.2.1 59 = .ok (.iconst 1, 1) := by decide +kernel
theorem dX2_addItem_60 : decode mX2_addItem.2.1 60 = .ok (.bipush 7, 2) := by decide +kernel
theorem dX2_addItem_62 : decode mX2_addItem.2.1 62 = .ok (.invokevirtual 65, 3) := by decide +kernel
theorem dX2_addItem_65 : decode mX2_addItem.2.1 65 = .ok (.ireturn, 1) := by decide +kernel
theorem dX2_memberOf_0 : decode mX2_memberOf.2.1 0 = .ok (.iload_n 0, 1) := by decide +kernel
theorem dX2_memberOf_1 : decode mX2_memberOf.2.1 1 = .ok (.bipush 97, 2) := by decide +kernel
theorem dX2_memberOf_3 : decode mX2_memberOf.2.1 3 = .ok (.if_icmp .lt 14, 3) := by decide +kernel
theorem dX2_memberOf_6 : decode mX2_memberOf.2.1 6 = .ok (.iload_n 0, 1) := by decide +kernel
theorem dX2_memberOf_7 : decode mX2_memberOf.2.1 7 = .ok (.bipush 102, 2) := by decide +kernel
theorem dX2_memberOf_9 : decode mX2_memberOf.2.1 9 = .ok (.if_icmp .gt 8, 3) := by decide +kernel
theorem dX2_memberOf_12 : decode mX2_memberOf.2.1 12 = .ok (.iload_n 0, 1) := by decide +kernel
theorem dX2_memberOf_13 : decode mX2_memberOf.2.1 13 = .ok (.bipush 97, 2) := by decide +kernel
theorem dX2_memberOf_15 : decode mX2_memberOf.2.1 15 = .ok (.isub, 1) := by decide +kernel
theorem dX2_memberOf_16 : decode mX2_memberOf.2.1 16 = .ok (.ireturn, 1) := by decide +kernel
theorem dX2_memberOf_17 : decode mX2_memberOf.2.1 17 = .ok (.iload_n 0, 1) := by decide +kernel
theorem dX2_memberOf_18 : decode mX2_memberOf.2.1 18 = .ok (.bipush 117, 2) := by decide +kernel
theorem dX2_memberOf_20 : decode mX2_memberOf.2.1 20 = .ok (.if_icmp .lt 19, 3) := by decide +kernel
theorem dX2_memberOf_23 : decode mX2_memberOf.2.1 23 = .ok (.iload_n 0, 1) := by decide +kernel
theorem dX2_memberOf_24 : decode mX2_memberOf.2.1 24 = .ok (.bipush 122, 2) := by decide +kernel
theorem dX2_memberOf_26 : decode mX2_memberOf.2.1 26 = .ok (.if_icmp .gt 13, 3) := by decide +kernel
theorem dX2_memberOf_29 : decode mX2_memberOf.2.1 29 = .ok (.bipush 6, 2) := by decide +kernel
theorem dX2_memberOf_31 : decode mX2_memberOf.2.1 31 = .ok (.iload_n 0, 1) := by decide +kernel
theorem dX2_memberOf_32 : decode mX2_memberOf.2.1 32 = .ok (.iadd, 1) := by decide +kernel
theorem dX2_memberOf_33 : decode mX2_memberOf.2.1 33 = .ok (.bipush 117, 2) := by decide +kernel
theorem dX2_memberOf_35 : decode mX2_memberOf.2.1 35 = .ok (.isub, 1) := by decide +kernel
theorem dX2_memberOf_36 : decode mX2_memberOf.2.1 36 = .ok (.goto 4, 3) := by decide +kernel
theorem dX2_memberOf_39 : decode mX2_memberOf.2.1 39 = .ok (.iconst (-1), 1) := by decide +kernel
theorem dX2_memberOf_40 : decode mX2_memberOf.2.1 40 = .ok (.ireturn, 1) := by decide +kernel
theorem dX5_hasType_0 : decode mX5_hasType.2.1 0 = .ok (.iload_n 1, 1) := by decide +kernel
theorem dX5_hasType_1 : decode mX5_hasType.2.1 1 = .ok (.ifCond .lt 21, 3) := by decide +kernel
theorem dX5_hasType_4 : decode mX5_hasType.2.1 4 = .ok (.iload_n 1, 1) := by decide +kernel
theorem dX5_hasType_5 : decode mX5_hasType.2.1 5 = .ok (.aload_n 0, 1) := by decide +kernel
theorem dX5_hasType_6 : decode mX5_hasType.2.1 6 = .ok (.getfield 34, 3) := by decide +kernel
theorem dX5_hasType_9 : decode mX5_hasType.2.1 9 = .ok (.if_icmp .ge 13, 3) := by decide +kernel
theorem dX5_hasType_12 : decode mX5_hasType.2.1 12 = .ok (.iload_n 1, 1) := by decide +kernel
theorem dX5_hasType_13 : decode mX5_hasType.2.1 13 = .ok (.bipush 8, 2) := by decide +kernel
theorem dX5_hasType_15 : decode mX5_hasType.2.1 15 = .ok (.if_icmp .ge 7, 3) := by decide +kernel
theorem dX5_hasType_18 : decode mX5_hasType.2.1 18 = .ok (.iconst 1, 1) := by decide +kernel
theorem dX5_hasType_19 : decode mX5_hasType.2.1 19 = .ok (.goto 4, 3) := by decide +kernel
theorem dX5_hasType_22 : decode mX5_hasType.2.1 22 = .ok (.iconst 0, 1) := by decide +kernel
theorem dX5_hasType_23 : decode mX5_hasType.2.1 23 = .ok (.ireturn, 1) := by decide +kernel
theorem dX5_hasBody_0 : decode mX5_hasBody.2.1 0 = .ok (.iload_n 1, 1) := by decide +kernel
theorem dX5_hasBody_1 : decode mX5_hasBody.2.1 1 = .ok (.ifCond .lt 21, 3) := by decide +kernel
theorem dX5_hasBody_4 : decode mX5_hasBody.2.1 4 = .ok (.iload_n 1, 1) := by decide +kernel
theorem dX5_hasBody_5 : decode mX5_hasBody.2.1 5 = .ok (.aload_n 0, 1) := by decide +kernel
theorem dX5_hasBody_6 : decode mX5_hasBody.2.1 6 = .ok (.getfield 38, 3) := by decide +kernel
theorem dX5_hasBody_9 : decode mX5_hasBody.2.1 9 = .ok (.if_icmp .ge 13, 3) := by decide +kernel
theorem dX5_hasBody_12 : decode mX5_hasBody.2.1 12 = .ok (.iload_n 1, 1) := by decide +kernel
theorem dX5_hasBody_13 : decode mX5_hasBody.2.1 13 = .ok (.bipush 40, 2) := by decide +kernel
theorem dX5_hasBody_15 : decode mX5_hasBody.2.1 15 = .ok (.if_icmp .ge 7, 3) := by decide +kernel
theorem dX5_hasBody_18 : decode mX5_hasBody.2.1 18 = .ok (.iconst 1, 1) := by decide +kernel
theorem dX5_hasBody_19 : decode mX5_hasBody.2.1 19 = .ok (.goto 4, 3) := by decide +kernel
theorem dX5_hasBody_22 : decode mX5_hasBody.2.1 22 = .ok (.iconst 0, 1) := by decide +kernel
theorem dX5_hasBody_23 : decode mX5_hasBody.2.1 23 = .ok (.ireturn, 1) := by decide +kernel
theorem dX5_parentOf_0 : decode mX5_parentOf.2.1 0 = .ok (.iload_n 1, 1) := by decide +kernel
theorem dX5_parentOf_1 : decode mX5_parentOf.2.1 1 = .ok (.ifCond .lt 26, 3) := by decide +kernel
theorem dX5_parentOf_4 : decode mX5_parentOf.2.1 4 = .ok (.iload_n 1, 1) := by decide +kernel
theorem dX5_parentOf_5 : decode mX5_parentOf.2.1 5 = .ok (.aload_n 0, 1) := by decide +kernel
theorem dX5_parentOf_6 : decode mX5_parentOf.2.1 6 = .ok (.getfield 34, 3) := by decide +kernel
theorem dX5_parentOf_9 : decode mX5_parentOf.2.1 9 = .ok (.if_icmp .ge 18, 3) := by decide +kernel
theorem dX5_parentOf_12 : decode mX5_parentOf.2.1 12 = .ok (.iload_n 1, 1) := by decide +kernel
theorem dX5_parentOf_13 : decode mX5_parentOf.2.1 13 = .ok (.bipush 8, 2) := by decide +kernel
theorem dX5_parentOf_15 : decode mX5_parentOf.2.1 15 = .ok (.if_icmp .ge 12, 3) := by decide +kernel
theorem dX5_parentOf_18 : decode mX5_parentOf.2.1 18 = .ok (.aload_n 0, 1) := by decide +kernel
theorem dX5_parentOf_19 : decode mX5_parentOf.2.1 19 = .ok (.getfield 9, 3) := by decide +kernel
theorem dX5_parentOf_22 : decode mX5_parentOf.2.1 22 = .ok (.iload_n 1, 1) := by decide +kernel
theorem dX5_parentOf_23 : decode mX5_parentOf.2.1 23 = .ok (.iaload, 1) := by decide +kernel
theorem dX5_parentOf_24 : decode mX5_parentOf.2.1 24 = .ok (.goto 4, 3) := by decide +kernel
theorem dX5_parentOf_27 : decode mX5_parentOf.2.1 27 = .ok (.iconst (-1), 1) := by decide +kernel
theorem dX5_parentOf_28 : decode mX5_parentOf.2.1 28 = .ok (.ireturn, 1) := by decide +kernel
theorem dX5_hides_0 : decode mX5_hides.2.1 0 = .ok (.iload_n 1, 1) := by decide +kernel
theorem dX5_hides_1 : decode mX5_hides.2.1 1 = .ok (.ifCond .lt 34, 3) := by decide +kernel
theorem dX5_hides_4 : decode mX5_hides.2.1 4 = .ok (.iload_n 1, 1) := by decide +kernel
theorem dX5_hides_5 : decode mX5_hides.2.1 5 = .ok (.aload_n 0, 1) := by decide +kernel
theorem dX5_hides_6 : decode mX5_hides.2.1 6 = .ok (.getfield 34, 3) := by decide +kernel
theorem dX5_hides_9 : decode mX5_hides.2.1 9 = .ok (.if_icmp .ge 26, 3) := by decide +kernel
theorem dX5_hides_12 : decode mX5_hides.2.1 12 = .ok (.iload_n 1, 1) := by decide +kernel
theorem dX5_hides_13 : decode mX5_hides.2.1 13 = .ok (.bipush 8, 2) := by decide +kernel
theorem dX5_hides_15 : decode mX5_hides.2.1 15 = .ok (.if_icmp .ge 20, 3) := by decide +kernel
theorem dX5_hides_18 : decode mX5_hides.2.1 18 = .ok (.aload_n 0, 1) := by decide +kernel
theorem dX5_hides_19 : decode mX5_hides.2.1 19 = .ok (.getfield 22, 3) := by decide +kernel
theorem dX5_hides_22 : decode mX5_hides.2.1 22 = .ok (.iload_n 1, 1) := by decide +kernel
theorem dX5_hides_23 : decode mX5_hides.2.1 23 = .ok (.iaload, 1) := by decide +kernel
theorem dX5_hides_24 : decode mX5_hides.2.1 24 = .ok (.iload_n 2, 1) := by decide +kernel
theorem dX5_hides_25 : decode mX5_hides.2.1 25 = .ok (.ishr, 1) := by decide +kernel
theorem dX5_hides_26 : decode mX5_hides.2.1 26 = .ok (.iconst 1, 1) := by decide +kernel
theorem dX5_hides_27 : decode mX5_hides.2.1 27 = .ok (.iand, 1) := by decide +kernel
theorem dX5_hides_28 : decode mX5_hides.2.1 28 = .ok (.ifCond .eq 7, 3) := by decide +kernel
theorem dX5_hides_31 : decode mX5_hides.2.1 31 = .ok (.iconst 1, 1) := by decide +kernel
theorem dX5_hides_32 : decode mX5_hides.2.1 32 = .ok (.goto 4, 3) := by decide +kernel
theorem dX5_hides_35 : decode mX5_hides.2.1 35 = .ok (.iconst 0, 1) := by decide +kernel
theorem dX5_hides_36 : decode mX5_hides.2.1 36 = .ok (.ireturn, 1) := by decide +kernel
theorem dX5_heldBy_0 : decode mX5_heldBy.2.1 0 = .ok (.iload_n 1, 1) := by decide +kernel
theorem dX5_heldBy_1 : decode mX5_heldBy.2.1 1 = .ok (.ifCond .lt 41, 3) := by decide +kernel
theorem dX5_heldBy_4 : decode mX5_heldBy.2.1 4 = .ok (.iload_n 1, 1) := by decide +kernel
theorem dX5_heldBy_5 : decode mX5_heldBy.2.1 5 = .ok (.aload_n 0, 1) := by decide +kernel
theorem dX5_heldBy_6 : decode mX5_heldBy.2.1 6 = .ok (.getfield 34, 3) := by decide +kernel
theorem dX5_heldBy_9 : decode mX5_heldBy.2.1 9 = .ok (.if_icmp .ge 33, 3) := by decide +kernel
theorem dX5_heldBy_12 : decode mX5_heldBy.2.1 12 = .ok (.iload_n 1, 1) := by decide +kernel
theorem dX5_heldBy_13 : decode mX5_heldBy.2.1 13 = .ok (.bipush 8, 2) := by decide +kernel
theorem dX5_heldBy_15 : decode mX5_heldBy.2.1 15 = .ok (.if_icmp .ge 27, 3) := by decide +kernel
theorem dX5_heldBy_18 : decode mX5_heldBy.2.1 18 = .ok (.iload_n 2, 1) := by decide +kernel
theorem dX5_heldBy_19 : decode mX5_heldBy.2.1 19 = .ok (.ifCond .lt 23, 3) := by decide +kernel
theorem dX5_heldBy_22 : decode mX5_heldBy.2.1 22 = .ok (.iload_n 2, 1) := by decide +kernel
theorem dX5_heldBy_23 : decode mX5_heldBy.2.1 23 = .ok (.bipush 12, 2) := by decide +kernel
theorem dX5_heldBy_25 : decode mX5_heldBy.2.1 25 = .ok (.if_icmp .ge 17, 3) := by decide +kernel
theorem dX5_heldBy_28 : decode mX5_heldBy.2.1 28 = .ok (.aload_n 0, 1) := by decide +kernel
theorem dX5_heldBy_29 : decode mX5_heldBy.2.1 29 = .ok (.getfield 19, 3) := by decide +kernel
theorem dX5_heldBy_32 : decode mX5_heldBy.2.1 32 = .ok (.iload_n 1, 1) := by decide +kernel
theorem dX5_heldBy_33 : decode mX5_heldBy.2.1 33 = .ok (.bipush 12, 2) := by decide +kernel
theorem dX5_heldBy_35 : decode mX5_heldBy.2.1 35 = .ok (.imul, 1) := by decide +kernel
theorem dX5_heldBy_36 : decode mX5_heldBy.2.1 36 = .ok (.iload_n 2, 1) := by decide +kernel
theorem dX5_heldBy_37 : decode mX5_heldBy.2.1 37 = .ok (.iadd, 1) := by decide +kernel
theorem dX5_heldBy_38 : decode mX5_heldBy.2.1 38 = .ok (.iaload, 1) := by decide +kernel
theorem dX5_heldBy_39 : decode mX5_heldBy.2.1 39 = .ok (.goto 4, 3) := by decide +kernel
theorem dX5_heldBy_42 : decode mX5_heldBy.2.1 42 = .ok (.iconst (-1), 1) := by decide +kernel
theorem dX5_heldBy_43 : decode mX5_heldBy.2.1 43 = .ok (.ireturn, 1) := by decide +kernel
theorem dX5_itemAt_0 : decode mX5_itemAt.2.1 0 = .ok (.iload_n 1, 1) := by decide +kernel
theorem dX5_itemAt_1 : decode mX5_itemAt.2.1 1 = .ok (.ifCond .lt 51, 3) := by decide +kernel
theorem dX5_itemAt_4 : decode mX5_itemAt.2.1 4 = .ok (.iload_n 1, 1) := by decide +kernel
theorem dX5_itemAt_5 : decode mX5_itemAt.2.1 5 = .ok (.aload_n 0, 1) := by decide +kernel
theorem dX5_itemAt_6 : decode mX5_itemAt.2.1 6 = .ok (.getfield 38, 3) := by decide +kernel
theorem dX5_itemAt_9 : decode mX5_itemAt.2.1 9 = .ok (.if_icmp .ge 43, 3) := by decide +kernel
theorem dX5_itemAt_12 : decode mX5_itemAt.2.1 12 = .ok (.iload_n 1, 1) := by decide +kernel
theorem dX5_itemAt_13 : decode mX5_itemAt.2.1 13 = .ok (.bipush 40, 2) := by decide +kernel
theorem dX5_itemAt_15 : decode mX5_itemAt.2.1 15 = .ok (.if_icmp .ge 37, 3) := by decide +kernel
theorem dX5_itemAt_18 : decode mX5_itemAt.2.1 18 = .ok (.iload_n 2, 1) := by decide +kernel
theorem dX5_itemAt_19 : decode mX5_itemAt.2.1 19 = .ok (.ifCond .lt 33, 3) := by decide +kernel
theorem dX5_itemAt_22 : decode mX5_itemAt.2.1 22 = .ok (.iload_n 2, 1) := by decide +kernel
theorem dX5_itemAt_23 : decode mX5_itemAt.2.1 23 = .ok (.aload_n 0, 1) := by decide +kernel
theorem dX5_itemAt_24 : decode mX5_itemAt.2.1 24 = .ok (.getfield 28, 3) := by decide +kernel
theorem dX5_itemAt_27 : decode mX5_itemAt.2.1 27 = .ok (.iload_n 1, 1) := by decide +kernel
theorem dX5_itemAt_28 : decode mX5_itemAt.2.1 28 = .ok (.iaload, 1) := by decide +kernel
theorem dX5_itemAt_29 : decode mX5_itemAt.2.1 29 = .ok (.if_icmp .ge 23, 3) := by decide +kernel
theorem dX5_itemAt_32 : decode mX5_itemAt.2.1 32 = .ok (.iload_n 2, 1) := by decide +kernel
theorem dX5_itemAt_33 : decode mX5_itemAt.2.1 33 = .ok (.bipush 6, 2) := by decide +kernel
theorem dX5_itemAt_35 : decode mX5_itemAt.2.1 35 = .ok (.if_icmp .ge 17, 3) := by decide +kernel
theorem dX5_itemAt_38 : decode mX5_itemAt.2.1 38 = .ok (.aload_n 0, 1) := by decide +kernel
theorem dX5_itemAt_39 : decode mX5_itemAt.2.1 39 = .ok (.getfield 31, 3) := by decide +kernel
theorem dX5_itemAt_42 : decode mX5_itemAt.2.1 42 = .ok (.iload_n 1, 1) := by decide +kernel
theorem dX5_itemAt_43 : decode mX5_itemAt.2.1 43 = .ok (.bipush 6, 2) := by decide +kernel
theorem dX5_itemAt_45 : decode mX5_itemAt.2.1 45 = .ok (.imul, 1) := by decide +kernel
theorem dX5_itemAt_46 : decode mX5_itemAt.2.1 46 = .ok (.iload_n 2, 1) := by decide +kernel
theorem dX5_itemAt_47 : decode mX5_itemAt.2.1 47 = .ok (.iadd, 1) := by decide +kernel
theorem dX5_itemAt_48 : decode mX5_itemAt.2.1 48 = .ok (.iaload, 1) := by decide +kernel
theorem dX5_itemAt_49 : decode mX5_itemAt.2.1 49 = .ok (.goto 4, 3) := by decide +kernel
theorem dX5_itemAt_52 : decode mX5_itemAt.2.1 52 = .ok (.iconst (-1), 1) := by decide +kernel
theorem dX5_itemAt_53 : decode mX5_itemAt.2.1 53 = .ok (.ireturn, 1) := by decide +kernel
theorem dX5_isHollow_0 : decode mX5_isHollow.2.1 0 = .ok (.aload_n 0, 1) := by decide +kernel
theorem dX5_isHollow_1 : decode mX5_isHollow.2.1 1 = .ok (.iload_n 1, 1) := by decide +kernel
theorem dX5_isHollow_2 : decode mX5_isHollow.2.1 2 = .ok (.invokevirtual 44, 3) := by decide +kernel
theorem dX5_isHollow_5 : decode mX5_isHollow.2.1 5 = .ok (.ifCond .eq 16, 3) := by decide +kernel
theorem dX5_isHollow_8 : decode mX5_isHollow.2.1 8 = .ok (.aload_n 0, 1) := by decide +kernel
theorem dX5_isHollow_9 : decode mX5_isHollow.2.1 9 = .ok (.getfield 15, 3) := by decide +kernel
theorem dX5_isHollow_12 : decode mX5_isHollow.2.1 12 = .ok (.iload_n 1, 1) := by decide +kernel
theorem dX5_isHollow_13 : decode mX5_isHollow.2.1 13 = .ok (.baload, 1) := by decide +kernel
theorem dX5_isHollow_14 : decode mX5_isHollow.2.1 14 = .ok (.ifCond .eq 7, 3) := by decide +kernel
theorem dX5_isHollow_17 : decode mX5_isHollow.2.1 17 = .ok (.iconst 1, 1) := by decide +kernel
theorem dX5_isHollow_18 : decode mX5_isHollow.2.1 18 = .ok (.goto 4, 3) := by decide +kernel
theorem dX5_isHollow_21 : decode mX5_isHollow.2.1 21 = .ok (.iconst 0, 1) := by decide +kernel
theorem dX5_isHollow_22 : decode mX5_isHollow.2.1 22 = .ok (.ireturn, 1) := by decide +kernel
theorem dX5_makeHollow_0 : decode mX5_makeHollow.2.1 0 = .ok (.aload_n 0, 1) := by decide +kernel
theorem dX5_makeHollow_1 : decode mX5_makeHollow.2.1 1 = .ok (.iload_n 1, 1) := by decide +kernel
theorem dX5_makeHollow_2 : decode mX5_makeHollow.2.1 2 = .ok (.invokevirtual 44, 3) := by decide +kernel
theorem dX5_makeHollow_5 : decode mX5_makeHollow.2.1 5 = .ok (.ifCond .eq 20, 3) := by decide +kernel
theorem dX5_makeHollow_8 : decode mX5_makeHollow.2.1 8 = .ok (.aload_n 0, 1) := by decide +kernel
theorem dX5_makeHollow_9 : decode mX5_makeHollow.2.1 9 = .ok (.getfield 15, 3) := by decide +kernel
theorem dX5_makeHollow_12 : decode mX5_makeHollow.2.1 12 = .ok (.iload_n 1, 1) := by decide +kernel
theorem dX5_makeHollow_13 : decode mX5_makeHollow.2.1 13 = .ok (.iload_n 2, 1) := by decide +kernel
theorem dX5_makeHollow_14 : decode mX5_makeHollow.2.1 14 = .ok (.bastore, 1) := by decide +kernel
theorem dX5_makeHollow_15 : decode mX5_makeHollow.2.1 15 = .ok (.aload_n 0, 1) := by decide +kernel
theorem dX5_makeHollow_16 : decode mX5_makeHollow.2.1 16 = .ok (.dup, 1) := by decide +kernel
theorem dX5_makeHollow_17 : decode mX5_makeHollow.2.1 17 = .ok (.getfield 41, 3) := by decide +kernel
theorem dX5_makeHollow_20 : decode mX5_makeHollow.2.1 20 = .ok (.iconst 1, 1) := by decide +kernel
theorem dX5_makeHollow_21 : decode mX5_makeHollow.2.1 21 = .ok (.iadd, 1) := by decide +kernel
theorem dX5_makeHollow_22 : decode mX5_makeHollow.2.1 22 = .ok (.putfield 41, 3) := by decide +kernel
theorem dX5_makeHollow_25 : decode mX5_makeHollow.2.1 25 = .ok (.return_, 1) := by decide +kernel
theorem dX5_hiddenOf_0 : decode mX5_hiddenOf.2.1 0 = .ok (.aload_n 0, 1) := by decide +kernel
theorem dX5_hiddenOf_1 : decode mX5_hiddenOf.2.1 1 = .ok (.iload_n 1, 1) := by decide +kernel
theorem dX5_hiddenOf_2 : decode mX5_hiddenOf.2.1 2 = .ok (.invokevirtual 44, 3) := by decide +kernel
theorem dX5_hiddenOf_5 : decode mX5_hiddenOf.2.1 5 = .ok (.ifCond .eq 12, 3) := by decide +kernel
theorem dX5_hiddenOf_8 : decode mX5_hiddenOf.2.1 8 = .ok (.aload_n 0, 1) := by decide +kernel
theorem dX5_hiddenOf_9 : decode mX5_hiddenOf.2.1 9 = .ok (.getfield 22, 3) := by decide +kernel
theorem dX5_hiddenOf_12 : decode mX5_hiddenOf.2.1 12 = .ok (.iload_n 1, 1) := by decide +kernel
theorem dX5_hiddenOf_13 : decode mX5_hiddenOf.2.1 13 = .ok (.iaload, 1) := by decide +kernel
theorem dX5_hiddenOf_14 : decode mX5_hiddenOf.2.1 14 = .ok (.goto 4, 3) := by decide +kernel
theorem dX5_hiddenOf_17 : decode mX5_hiddenOf.2.1 17 = .ok (.iconst 0, 1) := by decide +kernel
theorem dX5_hiddenOf_18 : decode mX5_hiddenOf.2.1 18 = .ok (.ireturn, 1) := by decide +kernel
theorem dX5_put_0 : decode mX5_put.2.1 0 = .ok (.iload_n 1, 1) := by decide +kernel
theorem dX5_put_1 : decode mX5_put.2.1 1 = .ok (.ifCond .lt 16, 3) := by decide +kernel
theorem dX5_put_4 : decode mX5_put.2.1 4 = .ok (.iload_n 1, 1) := by decide +kernel
theorem dX5_put_5 : decode mX5_put.2.1 5 = .ok (.bipush 8, 2) := by decide +kernel
theorem dX5_put_7 : decode mX5_put.2.1 7 = .ok (.if_icmp .ge 10, 3) := by decide +kernel
theorem dX5_put_10 : decode mX5_put.2.1 10 = .ok (.iload_n 2, 1) := by decide +kernel
theorem dX5_put_11 : decode mX5_put.2.1 11 = .ok (.invokestatic 48, 3) := by decide +kernel
theorem dX5_put_14 : decode mX5_put.2.1 14 = .ok (.ifCond .ne 4, 3) := by decide +kernel
theorem dX5_put_17 : decode mX5_put.2.1 17 = .ok (.return_, 1) := by decide +kernel
theorem dX5_put_18 : decode mX5_put.2.1 18 = .ok (.aload_n 0, 1) := by decide +kernel
theorem dX5_put_19 : decode mX5_put.2.1 19 = .ok (.getfield 19, 3) := by decide +kernel
theorem dX5_put_22 : decode mX5_put.2.1 22 = .ok (.iload_n 1, 1) := by decide +kernel
theorem dX5_put_23 : decode mX5_put.2.1 23 = .ok (.bipush 12, 2) := by decide +kernel
theorem dX5_put_25 : decode mX5_put.2.1 25 = .ok (.imul, 1) := by decide +kernel
theorem dX5_put_26 : decode mX5_put.2.1 26 = .ok (.iload_n 2, 1) := by decide +kernel
theorem dX5_put_27 : decode mX5_put.2.1 27 = .ok (.iadd, 1) := by decide +kernel
theorem dX5_put_28 : decode mX5_put.2.1 28 = .ok (.iload_n 3, 1) := by decide +kernel
theorem dX5_put_29 : decode mX5_put.2.1 29 = .ok (.iastore, 1) := by decide +kernel
theorem dX5_put_30 : decode mX5_put.2.1 30 = .ok (.iconst 1, 1) := by decide +kernel
theorem dX5_put_31 : decode mX5_put.2.1 31 = .ok (.iload_n 2, 1) := by decide +kernel
theorem dX5_put_32 : decode mX5_put.2.1 32 = .ok (.ishl, 1) := by decide +kernel
theorem dX5_put_33 : decode mX5_put.2.1 33 = .ok (.istore 5, 2) := by decide +kernel
theorem dX5_put_35 : decode mX5_put.2.1 35 = .ok (.aload_n 0, 1) := by decide +kernel
theorem dX5_put_36 : decode mX5_put.2.1 36 = .ok (.getfield 22, 3) := by decide +kernel
theorem dX5_put_39 : decode mX5_put.2.1 39 = .ok (.iload_n 1, 1) := by decide +kernel
theorem dX5_put_40 : decode mX5_put.2.1 40 = .ok (.iload 4, 2) := by decide +kernel
theorem dX5_put_42 : decode mX5_put.2.1 42 = .ok (.ifCond .eq 15, 3) := by decide +kernel
theorem dX5_put_45 : decode mX5_put.2.1 45 = .ok (.aload_n 0, 1) := by decide +kernel
theorem dX5_put_46 : decode mX5_put.2.1 46 = .ok (.getfield 22, 3) := by decide +kernel
theorem dX5_put_49 : decode mX5_put.2.1 49 = .ok (.iload_n 1, 1) := by decide +kernel
theorem dX5_put_50 : decode mX5_put.2.1 50 = .ok (.iaload, 1) := by decide +kernel
theorem dX5_put_51 : decode mX5_put.2.1 51 = .ok (.iload 5, 2) := by decide +kernel
theorem dX5_put_53 : decode mX5_put.2.1 53 = .ok (.ior, 1) := by decide +kernel
theorem dX5_put_54 : decode mX5_put.2.1 54 = .ok (.goto 14, 3) := by decide +kernel
theorem dX5_put_57 : decode mX5_put.2.1 57 = .ok (.aload_n 0, 1) := by decide +kernel
theorem dX5_put_58 : decode mX5_put.2.1 58 = .ok (.getfield 22, 3) := by decide +kernel
theorem dX5_put_61 : decode mX5_put.2.1 61 = .ok (.iload_n 1, 1) := by decide +kernel
theorem dX5_put_62 : decode mX5_put.2.1 62 = .ok (.iaload, 1) := by decide +kernel
theorem dX5_put_63 : decode mX5_put.2.1 63 = .ok (.iload 5, 2) := by decide +kernel
theorem dX5_put_65 : decode mX5_put.2.1 65 = .ok (.iconst (-1), 1) := by decide +kernel
theorem dX5_put_66 : decode mX5_put.2.1 66 = .ok (.ixor, 1) := by decide +kernel
theorem dX5_put_67 : decode mX5_put.2.1 67 = .ok (.iand, 1) := by decide +kernel
theorem dX5_put_68 : decode mX5_put.2.1 68 = .ok (.iastore, 1) := by decide +kernel
theorem dX5_put_69 : decode mX5_put.2.1 69 = .ok (.return_, 1) := by decide +kernel
theorem dX5_heldBits_0 : decode mX5_heldBits.2.1 0 = .ok (.iconst 0, 1) := by decide +kernel
theorem dX5_heldBits_1 : decode mX5_heldBits.2.1 1 = .ok (.istore 4, 2) := by decide +kernel
theorem dX5_heldBits_3 : decode mX5_heldBits.2.1 3 = .ok (.iload_n 2, 1) := by decide +kernel
theorem dX5_heldBits_4 : decode mX5_heldBits.2.1 4 = .ok (.istore 5, 2) := by decide +kernel
theorem dX5_heldBits_6 : decode mX5_heldBits.2.1 6 = .ok (.iload 5, 2) := by decide +kernel
theorem dX5_heldBits_8 : decode mX5_heldBits.2.1 8 = .ok (.iload_n 3, 1) := by decide +kernel
theorem dX5_heldBits_9 : decode mX5_heldBits.2.1 9 = .ok (.if_icmp .ge 31, 3) := by decide +kernel
theorem dX5_heldBits_12 : decode mX5_heldBits.2.1 12 = .ok (.aload_n 0, 1) := by decide +kernel
theorem dX5_heldBits_13 : decode mX5_heldBits.2.1 13 = .ok (.iload_n 1, 1) := by decide +kernel
theorem dX5_heldBits_14 : decode mX5_heldBits.2.1 14 = .ok (.iload 5, 2) := by decide +kernel
theorem dX5_heldBits_16 : decode mX5_heldBits.2.1 16 = .ok (.invokevirtual 51, 3) := by decide +kernel
theorem dX5_heldBits_19 : decode mX5_heldBits.2.1 19 = .ok (.iconst (-1), 1) := by decide +kernel
theorem dX5_heldBits_20 : decode mX5_heldBits.2.1 20 = .ok (.if_icmp .eq 14, 3) := by decide +kernel
theorem dX5_heldBits_23 : decode mX5_heldBits.2.1 23 = .ok (.iload 4, 2) := by decide +kernel
theorem dX5_heldBits_25 : decode mX5_heldBits.2.1 25 = .ok (.iconst 1, 1) := by decide +kernel
theorem dX5_heldBits_26 : decode mX5_heldBits.2.1 26 = .ok (.iload 5, 2) := by decide +kernel
theorem dX5_heldBits_28 : decode mX5_heldBits.2.1 28 = .ok (.iload_n 2, 1) := by decide +kernel
theorem dX5_heldBits_29 : decode mX5_heldBits.2.1 29 = .ok (.isub, 1) := by decide +kernel
theorem dX5_heldBits_30 : decode mX5_heldBits.2.1 30 = .ok (.ishl, 1) := by decide +kernel
theorem dX5_heldBits_31 : decode mX5_heldBits.2.1 31 = .ok (.ior, 1) := by decide +kernel
theorem dX5_heldBits_32 : decode mX5_heldBits.2.1 32 = .ok (.istore 4, 2) := by decide +kernel
theorem dX5_heldBits_34 : decode mX5_heldBits.2.1 34 = .ok (.iinc 5 1, 3) := by decide +kernel
theorem dX5_heldBits_37 : decode mX5_heldBits.2.1 37 = .ok (.goto (-31), 3) := by decide +kernel
theorem dX5_heldBits_40 : decode mX5_heldBits.2.1 40 = .ok (.iload 4, 2) := by decide +kernel
theorem dX5_heldBits_42 : decode mX5_heldBits.2.1 42 = .ok (.ireturn, 1) := by decide +kernel
theorem dX5_childBits_0 : decode mX5_childBits.2.1 0 = .ok (.iconst 0, 1) := by decide +kernel
theorem dX5_childBits_1 : decode mX5_childBits.2.1 1 = .ok (.istore_n 2, 1) := by decide +kernel
theorem dX5_childBits_2 : decode mX5_childBits.2.1 2 = .ok (.iload_n 1, 1) := by decide +kernel
theorem dX5_childBits_3 : decode mX5_childBits.2.1 3 = .ok (.iconst 1, 1) := by decide +kernel
theorem dX5_childBits_4 : decode mX5_childBits.2.1 4 = .ok (.iadd, 1) := by decide +kernel
theorem dX5_childBits_5 : decode mX5_childBits.2.1 5 = .ok (.istore_n 3, 1) := by decide +kernel
theorem dX5_childBits_6 : decode mX5_childBits.2.1 6 = .ok (.iload_n 3, 1) := by decide +kernel
theorem dX5_childBits_7 : decode mX5_childBits.2.1 7 = .ok (.aload_n 0, 1) := by decide +kernel
theorem dX5_childBits_8 : decode mX5_childBits.2.1 8 = .ok (.getfield 34, 3) := by decide +kernel
theorem dX5_childBits_11 : decode mX5_childBits.2.1 11 = .ok (.if_icmp .ge 24, 3) := by decide +kernel
theorem dX5_childBits_14 : decode mX5_childBits.2.1 14 = .ok (.aload_n 0, 1) := by decide +kernel
theorem dX5_childBits_15 : decode mX5_childBits.2.1 15 = .ok (.iload_n 3, 1) := by decide +kernel
theorem dX5_childBits_16 : decode mX5_childBits.2.1 16 = .ok (.invokevirtual 55, 3) := by decide +kernel
theorem dX5_childBits_19 : decode mX5_childBits.2.1 19 = .ok (.iload_n 1, 1) := by decide +kernel
theorem dX5_childBits_20 : decode mX5_childBits.2.1 20 = .ok (.if_icmp .ne 9, 3) := by decide +kernel
theorem dX5_childBits_23 : decode mX5_childBits.2.1 23 = .ok (.iload_n 2, 1) := by decide +kernel
theorem dX5_childBits_24 : decode mX5_childBits.2.1 24 = .ok (.iconst 1, 1) := by decide +kernel
theorem dX5_childBits_25 : decode mX5_childBits.2.1 25 = .ok (.iload_n 3, 1) := by decide +kernel
theorem dX5_childBits_26 : decode mX5_childBits.2.1 26 = .ok (.ishl, 1) := by decide +kernel
theorem dX5_childBits_27 : decode mX5_childBits.2.1 27 = .ok (.ior, 1) := by decide +kernel
theorem dX5_childBits_28 : decode mX5_childBits.2.1 28 = .ok (.istore_n 2, 1) := by decide +kernel
theorem dX5_childBits_29 : decode mX5_childBits.2.1 29 = .ok (.iinc 3 1, 3) := by decide +kernel
theorem dX5_childBits_32 : decode mX5_childBits.2.1 32 = .ok (.goto (-26), 3) := by decide +kernel
theorem dX5_childBits_35 : decode mX5_childBits.2.1 35 = .ok (.iload_n 2, 1) := by decide +kernel
theorem dX5_childBits_36 : decode mX5_childBits.2.1 36 = .ok (.ireturn, 1) := by decide +kernel
theorem dX5_nearest_0 : decode mX5_nearest.2.1 0 = .ok (.iload_n 2, 1) := by decide +kernel
theorem dX5_nearest_1 : decode mX5_nearest.2.1 1 = .ok (.ifCond .lt 9, 3) := by decide +kernel
theorem dX5_nearest_4 : decode mX5_nearest.2.1 4 = .ok (.iload_n 2, 1) := by decide +kernel
theorem dX5_nearest_5 : decode mX5_nearest.2.1 5 = .ok (.bipush 12, 2) := by decide +kernel
theorem dX5_nearest_7 : decode mX5_nearest.2.1 7 = .ok (.if_icmp .lt 5, 3) := by decide +kernel
theorem dX5_nearest_10 : decode mX5_nearest.2.1 10 = .ok (.iconst (-1), 1) := by decide +kernel
theorem dX5_nearest_11 : decode mX5_nearest.2.1 11 = .ok (.ireturn, 1) := by decide +kernel
theorem dX5_nearest_12 : decode mX5_nearest.2.1 12 = .ok (.iload_n 1, 1) := by decide +kernel
theorem dX5_nearest_13 : decode mX5_nearest.2.1 13 = .ok (.istore_n 3, 1) := by decide +kernel
theorem dX5_nearest_14 : decode mX5_nearest.2.1 14 = .ok (.iconst 0, 1) := by decide +kernel
theorem dX5_nearest_15 : decode mX5_nearest.2.1 15 = .ok (.istore 4, 2) := by decide +kernel
theorem dX5_nearest_17 : decode mX5_nearest.2.1 17 = .ok (.iload 4, 2) := by decide +kernel
theorem dX5_nearest_19 : decode mX5_nearest.2.1 19 = .ok (.bipush 8, 2) := by decide +kernel
theorem dX5_nearest_21 : decode mX5_nearest.2.1 21 = .ok (.if_icmp .ge 64, 3) := by decide +kernel
theorem dX5_nearest_24 : decode mX5_nearest.2.1 24 = .ok (.iload_n 3, 1) := by decide +kernel
theorem dX5_nearest_25 : decode mX5_nearest.2.1 25 = .ok (.ifCond .lt 60, 3) := by decide +kernel
theorem dX5_nearest_28 : decode mX5_nearest.2.1 28 = .ok (.iload_n 3, 1) := by decide +kernel
theorem dX5_nearest_29 : decode mX5_nearest.2.1 29 = .ok (.aload_n 0, 1) := by decide +kernel
theorem dX5_nearest_30 : decode mX5_nearest.2.1 30 = .ok (.getfield 34, 3) := by decide +kernel
theorem dX5_nearest_33 : decode mX5_nearest.2.1 33 = .ok (.if_icmp .ge 52, 3) := by decide +kernel
theorem dX5_nearest_36 : decode mX5_nearest.2.1 36 = .ok (.iload_n 3, 1) := by decide +kernel
theorem dX5_nearest_37 : decode mX5_nearest.2.1 37 = .ok (.bipush 8, 2) := by decide +kernel
theorem dX5_nearest_39 : decode mX5_nearest.2.1 39 = .ok (.if_icmp .ge 46, 3) := by decide +kernel
theorem dX5_nearest_42 : decode mX5_nearest.2.1 42 = .ok (.aload_n 0, 1) := by decide +kernel
theorem dX5_nearest_43 : decode mX5_nearest.2.1 43 = .ok (.getfield 19, 3) := by decide +kernel
theorem dX5_nearest_46 : decode mX5_nearest.2.1 46 = .ok (.iload_n 3, 1) := by decide +kernel
theorem dX5_nearest_47 : decode mX5_nearest.2.1 47 = .ok (.bipush 12, 2) := by decide +kernel
theorem dX5_nearest_49 : decode mX5_nearest.2.1 49 = .ok (.imul, 1) := by decide +kernel
theorem dX5_nearest_50 : decode mX5_nearest.2.1 50 = .ok (.iload_n 2, 1) := by decide +kernel
theorem dX5_nearest_51 : decode mX5_nearest.2.1 51 = .ok (.iadd, 1) := by decide +kernel
theorem dX5_nearest_52 : decode mX5_nearest.2.1 52 = .ok (.iaload, 1) := by decide +kernel
theorem dX5_nearest_53 : decode mX5_nearest.2.1 53 = .ok (.iconst (-1), 1) := by decide +kernel
theorem dX5_nearest_54 : decode mX5_nearest.2.1 54 = .ok (.if_icmp .eq 18, 3) := by decide +kernel
theorem dX5_nearest_57 : decode mX5_nearest.2.1 57 = .ok (.aload_n 0, 1) := by decide +kernel
theorem dX5_nearest_58 : decode mX5_nearest.2.1 58 = .ok (.getfield 22, 3) := by decide +kernel
theorem dX5_nearest_61 : decode mX5_nearest.2.1 61 = .ok (.iload_n 3, 1) := by decide +kernel
theorem dX5_nearest_62 : decode mX5_nearest.2.1 62 = .ok (.iaload, 1) := by decide +kernel
theorem dX5_nearest_63 : decode mX5_nearest.2.1 63 = .ok (.iload_n 2, 1) := by decide +kernel
theorem dX5_nearest_64 : decode mX5_nearest.2.1 64 = .ok (.ishr, 1) := by decide +kernel
theorem dX5_nearest_65 : decode mX5_nearest.2.1 65 = .ok (.iconst 1, 1) := by decide +kernel
theorem dX5_nearest_66 : decode mX5_nearest.2.1 66 = .ok (.iand, 1) := by decide +kernel
theorem dX5_nearest_67 : decode mX5_nearest.2.1 67 = .ok (.ifCond .ne 5, 3) := by decide +kernel
theorem dX5_nearest_70 : decode mX5_nearest.2.1 70 = .ok (.iload_n 3, 1) := by decide +kernel
theorem dX5_nearest_71 : decode mX5_nearest.2.1 71 = .ok (.ireturn, 1) := by decide +kernel
theorem dX5_nearest_72 : decode mX5_nearest.2.1 72 = .ok (.aload_n 0, 1) := by decide +kernel
theorem dX5_nearest_73 : decode mX5_nearest.2.1 73 = .ok (.getfield 9, 3) := by decide +kernel
theorem dX5_nearest_76 : decode mX5_nearest.2.1 76 = .ok (.iload_n 3, 1) := by decide +kernel
theorem dX5_nearest_77 : decode mX5_nearest.2.1 77 = .ok (.iaload, 1) := by decide +kernel
theorem dX5_nearest_78 : decode mX5_nearest.2.1 78 = .ok (.istore_n 3, 1) := by decide +kernel
theorem dX5_nearest_79 : decode mX5_nearest.2.1 79 = .ok (.iinc 4 1, 3) := by decide +kernel
theorem dX5_nearest_82 : decode mX5_nearest.2.1 82 = .ok (.goto (-65), 3) := by decide +kernel
theorem dX5_nearest_85 : decode mX5_nearest.2.1 85 = .ok (.iconst (-1), 1) := by decide +kernel
theorem dX5_nearest_86 : decode mX5_nearest.2.1 86 = .ok (.ireturn, 1) := by decide +kernel
theorem dX5_answerBits_0 : decode mX5_answerBits.2.1 0 = .ok (.iconst 0, 1) := by decide +kernel
theorem dX5_answerBits_1 : decode mX5_answerBits.2.1 1 = .ok (.istore_n 2, 1) := by decide +kernel
theorem dX5_answerBits_2 : decode mX5_answerBits.2.1 2 = .ok (.iconst 0, 1) := by decide +kernel
theorem dX5_answerBits_3 : decode mX5_answerBits.2.1 3 = .ok (.istore_n 3, 1) := by decide +kernel
theorem dX5_answerBits_4 : decode mX5_answerBits.2.1 4 = .ok (.iload_n 3, 1) := by decide +kernel
theorem dX5_answerBits_5 : decode mX5_answerBits.2.1 5 = .ok (.bipush 6, 2) := by decide +kernel
theorem dX5_answerBits_7 : decode mX5_answerBits.2.1 7 = .ok (.if_icmp .ge 25, 3) := by decide +kernel
theorem dX5_answerBits_10 : decode mX5_answerBits.2.1 10 = .ok (.aload_n 0, 1) := by decide +kernel
theorem dX5_answerBits_11 : decode mX5_answerBits.2.1 11 = .ok (.iload_n 1, 1) := by decide +kernel
theorem dX5_answerBits_12 : decode mX5_answerBits.2.1 12 = .ok (.iload_n 3, 1) := by decide +kernel
theorem dX5_answerBits_13 : decode mX5_answerBits.2.1 13 = .ok (.invokevirtual 59, 3) := by decide +kernel
theorem dX5_answerBits_16 : decode mX5_answerBits.2.1 16 = .ok (.iconst (-1), 1) := by decide +kernel
theorem dX5_answerBits_17 : decode mX5_answerBits.2.1 17 = .ok (.if_icmp .eq 9, 3) := by decide +kernel
theorem dX5_answerBits_20 : decode mX5_answerBits.2.1 20 = .ok (.iload_n 2, 1) := by decide +kernel
theorem dX5_answerBits_21 : decode mX5_answerBits.2.1 21 = .ok (.iconst 1, 1) := by decide +kernel
theorem dX5_answerBits_22 : decode mX5_answerBits.2.1 22 = .ok (.iload_n 3, 1) := by decide +kernel
theorem dX5_answerBits_23 : decode mX5_answerBits.2.1 23 = .ok (.ishl, 1) := by decide +kernel
theorem dX5_answerBits_24 : decode mX5_answerBits.2.1 24 = .ok (.ior, 1) := by decide +kernel
theorem dX5_answerBits_25 : decode mX5_answerBits.2.1 25 = .ok (.istore_n 2, 1) := by decide +kernel
theorem dX5_answerBits_26 : decode mX5_answerBits.2.1 26 = .ok (.iinc 3 1, 3) := by decide +kernel
theorem dX5_answerBits_29 : decode mX5_answerBits.2.1 29 = .ok (.goto (-25), 3) := by decide +kernel
theorem dX5_answerBits_32 : decode mX5_answerBits.2.1 32 = .ok (.iload_n 2, 1) := by decide +kernel
theorem dX5_answerBits_33 : decode mX5_answerBits.2.1 33 = .ok (.ireturn, 1) := by decide +kernel
theorem dX5_itemCountOf_0 : decode mX5_itemCountOf.2.1 0 = .ok (.aload_n 0, 1) := by decide +kernel
theorem dX5_itemCountOf_1 : decode mX5_itemCountOf.2.1 1 = .ok (.iload_n 1, 1) := by decide +kernel
theorem dX5_itemCountOf_2 : decode mX5_itemCountOf.2.1 2 = .ok (.invokevirtual 62, 3) := by decide +kernel
theorem dX5_itemCountOf_5 : decode mX5_itemCountOf.2.1 5 = .ok (.ifCond .eq 12, 3) := by decide +kernel
theorem dX5_itemCountOf_8 : decode mX5_itemCountOf.2.1 8 = .ok (.aload_n 0, 1) := by decide +kernel
theorem dX5_itemCountOf_9 : decode mX5_itemCountOf.2.1 9 = .ok (.getfield 28, 3) := by decide +kernel
theorem dX5_itemCountOf_12 : decode mX5_itemCountOf.2.1 12 = .ok (.iload_n 1, 1) := by decide +kernel
theorem dX5_itemCountOf_13 : decode mX5_itemCountOf.2.1 13 = .ok (.iaload, 1) := by decide +kernel
theorem dX5_itemCountOf_14 : decode mX5_itemCountOf.2.1 14 = .ok (.goto 4, 3) := by decide +kernel
theorem dX5_itemCountOf_17 : decode mX5_itemCountOf.2.1 17 = .ok (.iconst 0, 1) := by decide +kernel
theorem dX5_itemCountOf_18 : decode mX5_itemCountOf.2.1 18 = .ok (.ireturn, 1) := by decide +kernel
theorem dX5_hasRoomFor_0 : decode mX5_hasRoomFor.2.1 0 = .ok (.aload_n 0, 1) := by decide +kernel
theorem dX5_hasRoomFor_1 : decode mX5_hasRoomFor.2.1 1 = .ok (.getfield 34, 3) := by decide +kernel
theorem dX5_hasRoomFor_4 : decode mX5_hasRoomFor.2.1 4 = .ok (.bipush 8, 2) := by decide +kernel
theorem dX5_hasRoomFor_6 : decode mX5_hasRoomFor.2.1 6 = .ok (.if_icmp .ge 21, 3) := by decide +kernel
theorem dX5_hasRoomFor_9 : decode mX5_hasRoomFor.2.1 9 = .ok (.aload_n 0, 1) := by decide +kernel
theorem dX5_hasRoomFor_10 : decode mX5_hasRoomFor.2.1 10 = .ok (.getfield 38, 3) := by decide +kernel
theorem dX5_hasRoomFor_13 : decode mX5_hasRoomFor.2.1 13 = .ok (.aload_n 1, 1) := by decide +kernel
theorem dX5_hasRoomFor_14 : decode mX5_hasRoomFor.2.1 14 = .ok (.invokevirtual 65, 3) := by decide +kernel
theorem dX5_hasRoomFor_17 : decode mX5_hasRoomFor.2.1 17 = .ok (.iadd, 1) := by decide +kernel
theorem dX5_hasRoomFor_18 : decode mX5_hasRoomFor.2.1 18 = .ok (.bipush 40, 2) := by decide +kernel
theorem dX5_hasRoomFor_20 : decode mX5_hasRoomFor.2.1 20 = .ok (.if_icmp .gt 7, 3) := by decide +kernel
theorem dX5_hasRoomFor_23 : decode mX5_hasRoomFor.2.1 23 = .ok (.iconst 1, 1) := by decide +kernel
theorem dX5_hasRoomFor_24 : decode mX5_hasRoomFor.2.1 24 = .ok (.goto 4, 3) := by decide +kernel
theorem dX5_hasRoomFor_27 : decode mX5_hasRoomFor.2.1 27 = .ok (.iconst 0, 1) := by decide +kernel
theorem dX5_hasRoomFor_28 : decode mX5_hasRoomFor.2.1 28 = .ok (.ireturn, 1) := by decide +kernel
theorem dX5_accept_0 : decode mX5_accept.2.1 0 = .ok (.aload_n 0, 1) := by decide +kernel
theorem dX5_accept_1 : decode mX5_accept.2.1 1 = .ok (.getfield 34, 3) := by decide +kernel
theorem dX5_accept_4 : decode mX5_accept.2.1 4 = .ok (.istore_n 2, 1) := by decide +kernel
theorem dX5_accept_5 : decode mX5_accept.2.1 5 = .ok (.iload_n 2, 1) := by decide +kernel
theorem dX5_accept_6 : decode mX5_accept.2.1 6 = .ok (.ifCond .lt 9, 3) := by decide +kernel
theorem dX5_accept_9 : decode mX5_accept.2.1 9 = .ok (.iload_n 2, 1) := by decide +kernel
theorem dX5_accept_10 : decode mX5_accept.2.1 10 = .ok (.bipush 8, 2) := by decide +kernel
theorem dX5_accept_12 : decode mX5_accept.2.1 12 = .ok (.if_icmp .lt 7, 3) := by decide +kernel
theorem dX5_accept_15 : decode mX5_accept.2.1 15 = .ok (.sipush (-1004), 3) := by decide +kernel
theorem dX5_accept_18 : decode mX5_accept.2.1 18 = .ok (.ireturn, 1) := by decide +kernel
theorem dX5_accept_19 : decode mX5_accept.2.1 19 = .ok (.aload_n 0, 1) := by decide +kernel
theorem dX5_accept_20 : decode mX5_accept.2.1 20 = .ok (.dup, 1) := by decide +kernel
theorem dX5_accept_21 : decode mX5_accept.2.1 21 = .ok (.getfield 34, 3) := by decide +kernel
theorem dX5_accept_24 : decode mX5_accept.2.1 24 = .ok (.iconst 1, 1) := by decide +kernel
theorem dX5_accept_25 : decode mX5_accept.2.1 25 = .ok (.iadd, 1) := by decide +kernel
theorem dX5_accept_26 : decode mX5_accept.2.1 26 = .ok (.putfield 34, 3) := by decide +kernel
theorem dX5_accept_29 : decode mX5_accept.2.1 29 = .ok (.aload_n 0, 1) := by decide +kernel
theorem dX5_accept_30 : decode mX5_accept.2.1 30 = .ok (.getfield 9, 3) := by decide +kernel
theorem dX5_accept_33 : decode mX5_accept.2.1 33 = .ok (.iload_n 2, 1) := by decide +kernel
theorem dX5_accept_34 : decode mX5_accept.2.1 34 = .ok (.aload_n 1, 1) := by decide +kernel
theorem dX5_accept_35 : decode mX5_accept.2.1 35 = .ok (.getfield 71, 3) := by decide +kernel
theorem dX5_accept_38 : decode mX5_accept.2.1 38 = .ok (.iastore, 1) := by decide +kernel
theorem dX5_accept_39 : decode mX5_accept.2.1 39 = .ok (.aload_n 0, 1) := by decide +kernel
theorem dX5_accept_40 : decode mX5_accept.2.1 40 = .ok (.getfield 15, 3) := by decide +kernel
theorem dX5_accept_43 : decode mX5_accept.2.1 43 = .ok (.iload_n 2, 1) := by decide +kernel
theorem dX5_accept_44 : decode mX5_accept.2.1 44 = .ok (.iconst 0, 1) := by decide +kernel
theorem dX5_accept_45 : decode mX5_accept.2.1 45 = .ok (.bastore, 1) := by decide +kernel
theorem dX5_accept_46 : decode mX5_accept.2.1 46 = .ok (.aload_n 0, 1) := by decide +kernel
theorem dX5_accept_47 : decode mX5_accept.2.1 47 = .ok (.getfield 25, 3) := by decide +kernel
theorem dX5_accept_50 : decode mX5_accept.2.1 50 = .ok (.iload_n 2, 1) := by decide +kernel
theorem dX5_accept_51 : decode mX5_accept.2.1 51 = .ok (.aload_n 0, 1) := by decide +kernel
theorem dX5_accept_52 : decode mX5_accept.2.1 52 = .ok (.getfield 38, 3) := by decide +kernel
theorem dX5_accept_55 : decode mX5_accept.2.1 55 = .ok (.iastore, 1) := by decide +kernel
theorem dX5_accept_56 : decode mX5_accept.2.1 56 = .ok (.iconst 0, 1) := by decide +kernel
theorem dX5_accept_57 : decode mX5_accept.2.1 57 = .ok (.istore_n 3, 1) := by decide +kernel
theorem dX5_accept_58 : decode mX5_accept.2.1 58 = .ok (.iload_n 3, 1) := by decide +kernel
theorem dX5_accept_59 : decode mX5_accept.2.1 59 = .ok (.bipush 12, 2) := by decide +kernel
theorem dX5_accept_61 : decode mX5_accept.2.1 61 = .ok (.if_icmp .ge 17, 3) := by decide +kernel
theorem dX5_accept_64 : decode mX5_accept.2.1 64 = .ok (.aload_n 0, 1) := by decide +kernel
theorem dX5_accept_65 : decode mX5_accept.2.1 65 = .ok (.iload_n 2, 1) := by decide +kernel
theorem dX5_accept_66 : decode mX5_accept.2.1 66 = .ok (.iload_n 3, 1) := by decide +kernel
theorem dX5_accept_67 : decode mX5_accept.2.1 67 = .ok (.iconst (-1), 1) := by decide +kernel
theorem dX5_accept_68 : decode mX5_accept.2.1 68 = .ok (.iconst 0, 1) := by decide +kernel
theorem dX5_accept_69 : decode mX5_accept.2.1 69 = .ok (.invokevirtual 74, 3) := by decide +kernel
theorem dX5_accept_72 : decode mX5_accept.2.1 72 = .ok (.iinc 3 1, 3) := by decide +kernel
theorem dX5_accept_75 : decode mX5_accept.2.1 75 = .ok (.goto (-17), 3) := by decide +kernel
theorem dX5_accept_78 : decode mX5_accept.2.1 78 = .ok (.iconst 0, 1) := by decide +kernel
theorem dX5_accept_79 : decode mX5_accept.2.1 79 = .ok (.istore_n 3, 1) := by decide +kernel
theorem dX5_accept_80 : decode mX5_accept.2.1 80 = .ok (.iload_n 3, 1) := by decide +kernel
theorem dX5_accept_81 : decode mX5_accept.2.1 81 = .ok (.aload_n 1, 1) := by decide +kernel
theorem dX5_accept_82 : decode mX5_accept.2.1 82 = .ok (.getfield 78, 3) := by decide +kernel
theorem dX5_accept_85 : decode mX5_accept.2.1 85 = .ok (.if_icmp .ge 69, 3) := by decide +kernel
theorem dX5_accept_88 : decode mX5_accept.2.1 88 = .ok (.aload_n 1, 1) := by decide +kernel
theorem dX5_accept_89 : decode mX5_accept.2.1 89 = .ok (.iload_n 3, 1) := by decide +kernel
theorem dX5_accept_90 : decode mX5_accept.2.1 90 = .ok (.invokevirtual 81, 3) := by decide +kernel
theorem dX5_accept_93 : decode mX5_accept.2.1 93 = .ok (.istore 4, 2) := by decide +kernel
theorem dX5_accept_95 : decode mX5_accept.2.1 95 = .ok (.aload_n 1, 1) := by decide +kernel
theorem dX5_accept_96 : decode mX5_accept.2.1 96 = .ok (.getfield 84, 3) := by decide +kernel
theorem dX5_accept_99 : decode mX5_accept.2.1 99 = .ok (.iload 4, 2) := by decide +kernel
theorem dX5_accept_101 : decode mX5_accept.2.1 101 = .ok (.ishr, 1) := by decide +kernel
theorem dX5_accept_102 : decode mX5_accept.2.1 102 = .ok (.iconst 1, 1) := by decide +kernel
theorem dX5_accept_103 : decode mX5_accept.2.1 103 = .ok (.iand, 1) := by decide +kernel
theorem dX5_accept_104 : decode mX5_accept.2.1 104 = .ok (.ifCond .eq 7, 3) := by decide +kernel
theorem dX5_accept_107 : decode mX5_accept.2.1 107 = .ok (.iconst 1, 1) := by decide +kernel
theorem dX5_accept_108 : decode mX5_accept.2.1 108 = .ok (.goto 4, 3) := by decide +kernel
theorem dX5_accept_111 : decode mX5_accept.2.1 111 = .ok (.iconst 0, 1) := by decide +kernel
theorem dX5_accept_112 : decode mX5_accept.2.1 112 = .ok (.istore 5, 2) := by decide +kernel
theorem dX5_accept_114 : decode mX5_accept.2.1 114 = .ok (.aload_n 0, 1) := by decide +kernel
theorem dX5_accept_115 : decode mX5_accept.2.1 115 = .ok (.iload_n 2, 1) := by decide +kernel
theorem dX5_accept_116 : decode mX5_accept.2.1 116 = .ok (.iload 4, 2) := by decide +kernel
theorem dX5_accept_118 : decode mX5_accept.2.1 118 = .ok (.iload 4, 2) := by decide +kernel
theorem dX5_accept_120 : decode mX5_accept.2.1 120 = .ok (.invokestatic 86, 3) := by decide +kernel
theorem dX5_accept_123 : decode mX5_accept.2.1 123 = .ok (.ifCond .eq 13, 3) := by decide +kernel
theorem dX5_accept_126 : decode mX5_accept.2.1 126 = .ok (.aload_n 0, 1) := by decide +kernel
theorem dX5_accept_127 : decode mX5_accept.2.1 127 = .ok (.aload_n 1, 1) := by decide +kernel
theorem dX5_accept_128 : decode mX5_accept.2.1 128 = .ok (.iload 4, 2) := by decide +kernel
theorem dX5_accept_130 : decode mX5_accept.2.1 130 = .ok (.invokevirtual 89, 3) := by decide +kernel
theorem dX5_accept_133 : decode mX5_accept.2.1 133 = .ok (.goto 10, 3) := by decide +kernel
theorem dX5_accept_136 : decode mX5_accept.2.1 136 = .ok (.bipush 12, 2) := by decide +kernel
theorem dX5_accept_138 : decode mX5_accept.2.1 138 = .ok (.iload_n 2, 1) := by decide +kernel
theorem dX5_accept_139 : decode mX5_accept.2.1 139 = .ok (.imul, 1) := by decide +kernel
theorem dX5_accept_140 : decode mX5_accept.2.1 140 = .ok (.iload 4, 2) := by decide +kernel
theorem dX5_accept_142 : decode mX5_accept.2.1 142 = .ok (.iadd, 1) := by decide +kernel
theorem dX5_accept_143 : decode mX5_accept.2.1 143 = .ok (.iload 5, 2) := by decide +kernel
theorem dX5_accept_145 : decode mX5_accept.2.1 145 = .ok (.invokevirtual 74, 3) := by decide +kernel
theorem dX5_accept_148 : decode mX5_accept.2.1 148 = .ok (.iinc 3 1, 3) := by decide +kernel
theorem dX5_accept_151 : decode mX5_accept.2.1 151 = .ok (.goto (-71), 3) := by decide +kernel
theorem dX5_accept_154 : decode mX5_accept.2.1 154 = .ok (.aload_n 0, 1) := by decide +kernel
theorem dX5_accept_155 : decode mX5_accept.2.1 155 = .ok (.dup, 1) := by decide +kernel
theorem dX5_accept_156 : decode mX5_accept.2.1 156 = .ok (.getfield 41, 3) := by decide +kernel
theorem dX5_accept_159 : decode mX5_accept.2.1 159 = .ok (.iconst 1, 1) := by decide +kernel
theorem dX5_accept_160 : decode mX5_accept.2.1 160 = .ok (.iadd, 1) := by decide +kernel
theorem dX5_accept_161 : decode mX5_accept.2.1 161 = .ok (.putfield 41, 3) := by decide +kernel
theorem dX5_accept_164 : decode mX5_accept.2.1 164 = .ok (.iload_n 2, 1) := by decide +kernel
theorem dX5_accept_165 : decode mX5_accept.2.1 165 = .ok (.ireturn, 1) := by decide +kernel
theorem dX5_newBody_0 : decode mX5_newBody.2.1 0 = .ok (.aload_n 0, 1) := by decide +kernel
theorem dX5_newBody_1 : decode mX5_newBody.2.1 1 = .ok (.getfield 38, 3) := by decide +kernel
theorem dX5_newBody_4 : decode mX5_newBody.2.1 4 = .ok (.istore_n 3, 1) := by decide +kernel
theorem dX5_newBody_5 : decode mX5_newBody.2.1 5 = .ok (.iload_n 3, 1) := by decide +kernel
theorem dX5_newBody_6 : decode mX5_newBody.2.1 6 = .ok (.ifCond .lt 9, 3) := by decide +kernel
theorem dX5_newBody_9 : decode mX5_newBody.2.1 9 = .ok (.iload_n 3, 1) := by decide +kernel
theorem dX5_newBody_10 : decode mX5_newBody.2.1 10 = .ok (.bipush 40, 2) := by decide +kernel
theorem dX5_newBody_12 : decode mX5_newBody.2.1 12 = .ok (.if_icmp .lt 5, 3) := by decide +kernel
theorem dX5_newBody_15 : decode mX5_newBody.2.1 15 = .ok (.iconst (-1), 1) := by decide +kernel
theorem dX5_newBody_16 : decode mX5_newBody.2.1 16 = .ok (.ireturn, 1) := by decide +kernel
theorem dX5_newBody_17 : decode mX5_newBody.2.1 17 = .ok (.aload_n 0, 1) := by decide +kernel
theorem dX5_newBody_18 : decode mX5_newBody.2.1 18 = .ok (.dup, 1) := by decide +kernel
theorem dX5_newBody_19 : decode mX5_newBody.2.1 19 = .ok (.getfield 38, 3) := by decide +kernel
theorem dX5_newBody_22 : decode mX5_newBody.2.1 22 = .ok (.iconst 1, 1) := by decide +kernel
theorem dX5_newBody_23 : decode mX5_newBody.2.1 23 = .ok (.iadd, 1) := by decide +kernel
theorem dX5_newBody_24 : decode mX5_newBody.2.1 24 = .ok (.putfield 38, 3) := by decide +kernel
theorem dX5_newBody_27 : decode mX5_newBody.2.1 27 = .ok (.aload_n 0, 1) := by decide +kernel
theorem dX5_newBody_28 : decode mX5_newBody.2.1 28 = .ok (.getfield 28, 3) := by decide +kernel
theorem dX5_newBody_31 : decode mX5_newBody.2.1 31 = .ok (.iload_n 3, 1) := by decide +kernel
theorem dX5_newBody_32 : decode mX5_newBody.2.1 32 = .ok (.aload_n 1, 1) := by decide +kernel
theorem dX5_newBody_33 : decode mX5_newBody.2.1 33 = .ok (.iload_n 2, 1) := by decide +kernel
theorem dX5_newBody_34 : decode mX5_newBody.2.1 34 = .ok (.invokevirtual 93, 3) := by decide +kernel
theorem dX5_newBody_37 : decode mX5_newBody.2.1 37 = .ok (.iastore, 1) := by decide +kernel
theorem dX5_newBody_38 : decode mX5_newBody.2.1 38 = .ok (.iconst 0, 1) := by decide +kernel
theorem dX5_newBody_39 : decode mX5_newBody.2.1 39 = .ok (.istore 4, 2) := by decide +kernel
theorem dX5_newBody_41 : decode mX5_newBody.2.1 41 = .ok (.iload 4, 2) := by decide +kernel
theorem dX5_newBody_43 : decode mX5_newBody.2.1 43 = .ok (.bipush 6, 2) := by decide +kernel
theorem dX5_newBody_45 : decode mX5_newBody.2.1 45 = .ok (.if_icmp .ge 28, 3) := by decide +kernel
theorem dX5_newBody_48 : decode mX5_newBody.2.1 48 = .ok (.aload_n 0, 1) := by decide +kernel
theorem dX5_newBody_49 : decode mX5_newBody.2.1 49 = .ok (.getfield 31, 3) := by decide +kernel
theorem dX5_newBody_52 : decode mX5_newBody.2.1 52 = .ok (.iload_n 3, 1) := by decide +kernel
theorem dX5_newBody_53 : decode mX5_newBody.2.1 53 = .ok (.bipush 6, 2) := by decide +kernel
theorem dX5_newBody_55 : decode mX5_newBody.2.1 55 = .ok (.imul, 1) := by decide +kernel
theorem dX5_newBody_56 : decode mX5_newBody.2.1 56 = .ok (.iload 4, 2) := by decide +kernel
theorem dX5_newBody_58 : decode mX5_newBody.2.1 58 = .ok (.iadd, 1) := by decide +kernel
theorem dX5_newBody_59 : decode mX5_newBody.2.1 59 = .ok (.aload_n 1, 1) := by decide +kernel
theorem dX5_newBody_60 : decode mX5_newBody.2.1 60 = .ok (.iload_n 2, 1) := by decide +kernel
theorem dX5_newBody_61 : decode mX5_newBody.2.1 61 = .ok (.iload 4, 2) := by decide +kernel
theorem dX5_newBody_63 : decode mX5_newBody.2.1 63 = .ok (.invokevirtual 96, 3) := by decide +kernel
theorem dX5_newBody_66 : decode mX5_newBody.2.1 66 = .ok (.iastore, 1) := by decide +kernel
theorem dX5_newBody_67 : decode mX5_newBody.2.1 67 = .ok (.iinc 4 1, 3) := by decide +kernel
theorem dX5_newBody_70 : decode mX5_newBody.2.1 70 = .ok (.goto (-29), 3) := by decide +kernel
theorem dX5_newBody_73 : decode mX5_newBody.2.1 73 = .ok (.iload_n 3, 1) := by decide +kernel
theorem dX5_newBody_74 : decode mX5_newBody.2.1 74 = .ok (.ireturn, 1) := by decide +kernel
theorem dX5_lastLiesElsewhere_0 : decode mX5_lastLiesElsewhere.2.1 0 = .ok (.aload_n 0, 1) := by decide +kernel
theorem dX5_lastLiesElsewhere_1 : decode mX5_lastLiesElsewhere.2.1 1 = .ok (.getfield 34, 3) := by decide +kernel
theorem dX5_lastLiesElsewhere_4 : decode mX5_lastLiesElsewhere.2.1 4 = .ok (.iconst 1, 1) := by decide +kernel
theorem dX5_lastLiesElsewhere_5 : decode mX5_lastLiesElsewhere.2.1 5 = .ok (.isub, 1) := by decide +kernel
theorem dX5_lastLiesElsewhere_6 : decode mX5_lastLiesElsewhere.2.1 6 = .ok (.istore_n 1, 1) := by decide +kernel
theorem dX5_lastLiesElsewhere_7 : decode mX5_lastLiesElsewhere.2.1 7 = .ok (.aload_n 0, 1) := by decide +kernel
theorem dX5_lastLiesElsewhere_8 : decode mX5_lastLiesElsewhere.2.1 8 = .ok (.iload_n 1, 1) := by decide +kernel
theorem dX5_lastLiesElsewhere_9 : decode mX5_lastLiesElsewhere.2.1 9 = .ok (.invokevirtual 44, 3) := by decide +kernel
theorem dX5_lastLiesElsewhere_12 : decode mX5_lastLiesElsewhere.2.1 12 = .ok (.ifCond .ne 5, 3) := by decide +kernel
theorem dX5_lastLiesElsewhere_15 : decode mX5_lastLiesElsewhere.2.1 15 = .ok (.iconst 0, 1) := by decide +kernel
theorem dX5_lastLiesElsewhere_16 : decode mX5_lastLiesElsewhere.2.1 16 = .ok (.ireturn, 1) := by decide +kernel
theorem dX5_lastLiesElsewhere_17 : decode mX5_lastLiesElsewhere.2.1 17 = .ok (.iconst 0, 1) := by decide +kernel
theorem dX5_lastLiesElsewhere_18 : decode mX5_lastLiesElsewhere.2.1 18 = .ok (.istore_n 2, 1) := by decide +kernel
theorem dX5_lastLiesElsewhere_19 : decode mX5_lastLiesElsewhere.2.1 19 = .ok (.iload_n 2, 1) := by decide +kernel
theorem dX5_lastLiesElsewhere_20 : decode mX5_lastLiesElsewhere.2.1 20 = .ok (.iload_n 1, 1) := by decide +kernel
theorem dX5_lastLiesElsewhere_21 : decode mX5_lastLiesElsewhere.2.1 21 = .ok (.if_icmp .ge 58, 3) := by decide +kernel
theorem dX5_lastLiesElsewhere_24 : decode mX5_lastLiesElsewhere.2.1 24 = .ok (.iconst 0, 1) := by decide +kernel
theorem dX5_lastLiesElsewhere_25 : decode mX5_lastLiesElsewhere.2.1 25 = .ok (.istore_n 3, 1) := by decide +kernel
theorem dX5_lastLiesElsewhere_26 : decode mX5_lastLiesElsewhere.2.1 26 = .ok (.iload_n 3, 1) := by decide +kernel
theorem dX5_lastLiesElsewhere_27 : decode mX5_lastLiesElsewhere.2.1 27 = .ok (.bipush 12, 2) := by decide +kernel
theorem dX5_lastLiesElsewhere_29 : decode mX5_lastLiesElsewhere.2.1 29 = .ok (.if_icmp .ge 44, 3) := by decide +kernel
theorem dX5_lastLiesElsewhere_32 : decode mX5_lastLiesElsewhere.2.1 32 = .ok (.iload_n 3, 1) := by decide +kernel
theorem dX5_lastLiesElsewhere_33 : decode mX5_lastLiesElsewhere.2.1 33 = .ok (.invokestatic 86, 3) := by decide +kernel
theorem dX5_lastLiesElsewhere_36 : decode mX5_lastLiesElsewhere.2.1 36 = .ok (.ifCond .eq 12, 3) := by decide +kernel
theorem dX5_lastLiesElsewhere_39 : decode mX5_lastLiesElsewhere.2.1 39 = .ok (.aload_n 0, 1) := by decide +kernel
theorem dX5_lastLiesElsewhere_40 : decode mX5_lastLiesElsewhere.2.1 40 = .ok (.getfield 25, 3) := by decide +kernel
theorem dX5_lastLiesElsewhere_43 : decode mX5_lastLiesElsewhere.2.1 43 = .ok (.iload_n 1, 1) := by decide +kernel
theorem dX5_lastLiesElsewhere_44 : decode mX5_lastLiesElsewhere.2.1 44 = .ok (.iaload, 1) := by decide +kernel
theorem dX5_lastLiesElsewhere_45 : decode mX5_lastLiesElsewhere.2.1 45 = .ok (.goto 7, 3) := by decide +kernel
theorem dX5_lastLiesElsewhere_48 : decode mX5_lastLiesElsewhere.2.1 48 = .ok (.bipush 12, 2) := by decide +kernel
theorem dX5_lastLiesElsewhere_50 : decode mX5_lastLiesElsewhere.2.1 50 = .ok (.iload_n 1, 1) := by decide +kernel
theorem dX5_lastLiesElsewhere_51 : decode mX5_lastLiesElsewhere.2.1 51 = .ok (.imul, 1) := by decide +kernel
theorem dX5_lastLiesElsewhere_52 : decode mX5_lastLiesElsewhere.2.1 52 = .ok (.istore 4, 2) := by decide +kernel
theorem dX5_lastLiesElsewhere_54 : decode mX5_lastLiesElsewhere.2.1 54 = .ok (.aload_n 0, 1) := by decide +kernel
theorem dX5_lastLiesElsewhere_55 : decode mX5_lastLiesElsewhere.2.1 55 = .ok (.iload_n 2, 1) := by decide +kernel
theorem dX5_lastLiesElsewhere_56 : decode mX5_lastLiesElsewhere.2.1 56 = .ok (.iload_n 3, 1) := by decide +kernel
theorem dX5_lastLiesElsewhere_57 : decode mX5_lastLiesElsewhere.2.1 57 = .ok (.invokevirtual 51, 3) := by decide +kernel
theorem dX5_lastLiesElsewhere_60 : decode mX5_lastLiesElsewhere.2.1 60 = .ok (.iload 4, 2) := by decide +kernel
theorem dX5_lastLiesElsewhere_62 : decode mX5_lastLiesElsewhere.2.1 62 = .ok (.if_icmp .lt 5, 3) := by decide +kernel
theorem dX5_lastLiesElsewhere_65 : decode mX5_lastLiesElsewhere.2.1 65 = .ok (.iconst 1, 1) := by decide +kernel
theorem dX5_lastLiesElsewhere_66 : decode mX5_lastLiesElsewhere.2.1 66 = .ok (.ireturn, 1) := by decide +kernel
theorem dX5_lastLiesElsewhere_67 : decode mX5_lastLiesElsewhere.2.1 67 = .ok (.iinc 3 1, 3) := by decide +kernel
theorem dX5_lastLiesElsewhere_70 : decode mX5_lastLiesElsewhere.2.1 70 = .ok (.goto (-44), 3) := by decide +kernel
theorem dX5_lastLiesElsewhere_73 : decode mX5_lastLiesElsewhere.2.1 73 = .ok (.iinc 2 1, 3) := by decide +kernel
theorem dX5_lastLiesElsewhere_76 : decode mX5_lastLiesElsewhere.2.1 76 = .ok (.goto (-57), 3) := by decide +kernel
theorem dX5_lastLiesElsewhere_79 : decode mX5_lastLiesElsewhere.2.1 79 = .ok (.iconst 0, 1) := by decide +kernel
theorem dX5_lastLiesElsewhere_80 : decode mX5_lastLiesElsewhere.2.1 80 = .ok (.ireturn, 1) := by decide +kernel
theorem dX5_removeLast_0 : decode mX5_removeLast.2.1 0 = .ok (.aload_n 0, 1) := by decide +kernel
theorem dX5_removeLast_1 : decode mX5_removeLast.2.1 1 = .ok (.getfield 34, 3) := by decide +kernel
theorem dX5_removeLast_4 : decode mX5_removeLast.2.1 4 = .ok (.iconst 1, 1) := by decide +kernel
theorem dX5_removeLast_5 : decode mX5_removeLast.2.1 5 = .ok (.isub, 1) := by decide +kernel
theorem dX5_removeLast_6 : decode mX5_removeLast.2.1 6 = .ok (.istore_n 1, 1) := by decide +kernel
theorem dX5_removeLast_7 : decode mX5_removeLast.2.1 7 = .ok (.aload_n 0, 1) := by decide +kernel
theorem dX5_removeLast_8 : decode mX5_removeLast.2.1 8 = .ok (.iload_n 1, 1) := by decide +kernel
theorem dX5_removeLast_9 : decode mX5_removeLast.2.1 9 = .ok (.invokevirtual 44, 3) := by decide +kernel
theorem dX5_removeLast_12 : decode mX5_removeLast.2.1 12 = .ok (.ifCond .eq 28, 3) := by decide +kernel
theorem dX5_removeLast_15 : decode mX5_removeLast.2.1 15 = .ok (.aload_n 0, 1) := by decide +kernel
theorem dX5_removeLast_16 : decode mX5_removeLast.2.1 16 = .ok (.aload_n 0, 1) := by decide +kernel
theorem dX5_removeLast_17 : decode mX5_removeLast.2.1 17 = .ok (.getfield 25, 3) := by decide +kernel
theorem dX5_removeLast_20 : decode mX5_removeLast.2.1 20 = .ok (.iload_n 1, 1) := by decide +kernel
theorem dX5_removeLast_21 : decode mX5_removeLast.2.1 21 = .ok (.iaload, 1) := by decide +kernel
theorem dX5_removeLast_22 : decode mX5_removeLast.2.1 22 = .ok (.putfield 38, 3) := by decide +kernel
theorem dX5_removeLast_25 : decode mX5_removeLast.2.1 25 = .ok (.aload_n 0, 1) := by decide +kernel
theorem dX5_removeLast_26 : decode mX5_removeLast.2.1 26 = .ok (.iload_n 1, 1) := by decide +kernel
theorem dX5_removeLast_27 : decode mX5_removeLast.2.1 27 = .ok (.putfield 34, 3) := by decide +kernel
theorem dX5_removeLast_30 : decode mX5_removeLast.2.1 30 = .ok (.aload_n 0, 1) := by decide +kernel
theorem dX5_removeLast_31 : decode mX5_removeLast.2.1 31 = .ok (.dup, 1) := by decide +kernel
theorem dX5_removeLast_32 : decode mX5_removeLast.2.1 32 = .ok (.getfield 41, 3) := by decide +kernel
theorem dX5_removeLast_35 : decode mX5_removeLast.2.1 35 = .ok (.iconst 1, 1) := by decide +kernel
theorem dX5_removeLast_36 : decode mX5_removeLast.2.1 36 = .ok (.iadd, 1) := by decide +kernel
theorem dX5_removeLast_37 : decode mX5_removeLast.2.1 37 = .ok (.putfield 41, 3) := by decide +kernel
theorem dX5_removeLast_40 : decode mX5_removeLast.2.1 40 = .ok (.return_, 1) := by decide +kernel
end
section
theorem dX0_forgetKept_0 : decode mX0_forgetKept.2.1 0 = .ok (.aload_n 0, 1) := by decide +kernel
theorem dX0_forgetKept_1 : decode mX0_forgetKept.2.1 1 = .ok (.iconst 0, 1) := by decide +kernel
theorem dX0_forgetKept_2 : decode mX0_forgetKept.2.1 2 = .ok (.putfield 21, 3) := by decide +kernel
theorem dX0_forgetKept_5 : decode mX0_forgetKept.2.1 5 = .ok (.return_, 1) := by decide +kernel
theorem dX0_reason_0 : decode mX0_reason.2.1 0 = .ok (.aload_n 0, 1) := by decide +kernel
theorem dX0_reason_1 : decode mX0_reason.2.1 1 = .ok (.iconst (-1), 1) := by decide +kernel
theorem dX0_reason_2 : decode mX0_reason.2.1 2 = .ok (.putfield 31, 3) := by decide +kernel
theorem dX0_reason_5 : decode mX0_reason.2.1 5 = .ok (.aload_n 0, 1) := by decide +kernel
theorem dX0_reason_6 : decode mX0_reason.2.1 6 = .ok (.getfield 37, 3) := by decide +kernel
theorem dX0_reason_9 : decode mX0_reason.2.1 9 = .ok (.iload_n 1, 1) := by decide +kernel
theorem dX0_reason_10 : decode mX0_reason.2.1 10 = .ok (.iload_n 2, 1) := by decide +kernel
theorem dX0_reason_11 : decode mX0_reason.2.1 11 = .ok (.invokevirtual 49, 3) := by decide +kernel
theorem dX0_reason_14 : decode mX0_reason.2.1 14 = .ok (.iconst (-1), 1) := by decide +kernel
theorem dX0_reason_15 : decode mX0_reason.2.1 15 = .ok (.if_icmp .ne 5, 3) := by decide +kernel
theorem dX0_reason_18 : decode mX0_reason.2.1 18 = .ok (.iconst 1, 1) := by decide +kernel
theorem dX0_reason_19 : decode mX0_reason.2.1 19 = .ok (.ireturn, 1) := by decide +kernel
theorem dX0_reason_20 : decode mX0_reason.2.1 20 = .ok (.aload_n 0, 1) := by decide +kernel
theorem dX0_reason_21 : decode mX0_reason.2.1 21 = .ok (.getfield 37, 3) := by decide +kernel
theorem dX0_reason_24 : decode mX0_reason.2.1 24 = .ok (.iload_n 1, 1) := by decide +kernel
theorem dX0_reason_25 : decode mX0_reason.2.1 25 = .ok (.invokevirtual 55, 3) := by decide +kernel
theorem dX0_reason_28 : decode mX0_reason.2.1 28 = .ok (.istore 4, 2) := by decide +kernel
theorem dX0_reason_30 : decode mX0_reason.2.1 30 = .ok (.iload_n 3, 1) := by decide +kernel
theorem dX0_reason_31 : decode mX0_reason.2.1 31 = .ok (.ifCond .eq 18, 3) := by decide +kernel
theorem dX0_reason_34 : decode mX0_reason.2.1 34 = .ok (.aload_n 0, 1) := by decide +kernel
theorem dX0_reason_35 : decode mX0_reason.2.1 35 = .ok (.getfield 37, 3) := by decide +kernel
theorem dX0_reason_38 : decode mX0_reason.2.1 38 = .ok (.iload_n 1, 1) := by decide +kernel
theorem dX0_reason_39 : decode mX0_reason.2.1 39 = .ok (.invokevirtual 59, 3) := by decide +kernel
theorem dX0_reason_42 : decode mX0_reason.2.1 42 = .ok (.iconst (-1), 1) := by decide +kernel
theorem dX0_reason_43 : decode mX0_reason.2.1 43 = .ok (.if_icmp .ne 13, 3) := by decide +kernel
theorem dX0_reason_46 : decode mX0_reason.2.1 46 = .ok (.goto 8, 3) := by decide +kernel
theorem dX0_reason_49 : decode mX0_reason.2.1 49 = .ok (.iload 4, 2) := by decide +kernel
theorem dX0_reason_51 : decode mX0_reason.2.1 51 = .ok (.ifCond .ne 5, 3) := by decide +kernel
theorem dX0_reason_54 : decode mX0_reason.2.1 54 = .ok (.iconst 2, 1) := by decide +kernel
theorem dX0_reason_55 : decode mX0_reason.2.1 55 = .ok (.ireturn, 1) := by decide +kernel
theorem dX0_reason_56 : decode mX0_reason.2.1 56 = .ok (.iload_n 3, 1) := by decide +kernel
theorem dX0_reason_57 : decode mX0_reason.2.1 57 = .ok (.ifCond .eq 26, 3) := by decide +kernel
theorem dX0_reason_60 : decode mX0_reason.2.1 60 = .ok (.aload_n 0, 1) := by decide +kernel
theorem dX0_reason_61 : decode mX0_reason.2.1 61 = .ok (.getfield 37, 3) := by decide +kernel
theorem dX0_reason_64 : decode mX0_reason.2.1 64 = .ok (.aload_n 0, 1) := by decide +kernel
theorem dX0_reason_65 : decode mX0_reason.2.1 65 = .ok (.getfield 37, 3) := by decide +kernel
theorem dX0_reason_68 : decode mX0_reason.2.1 68 = .ok (.iload_n 1, 1) := by decide +kernel
theorem dX0_reason_69 : decode mX0_reason.2.1 69 = .ok (.invokevirtual 59, 3) := by decide +kernel
theorem dX0_reason_72 : decode mX0_reason.2.1 72 = .ok (.iload_n 2, 1) := by decide +kernel
theorem dX0_reason_73 : decode mX0_reason.2.1 73 = .ok (.invokevirtual 49, 3) := by decide +kernel
theorem dX0_reason_76 : decode mX0_reason.2.1 76 = .ok (.iconst (-1), 1) := by decide +kernel
theorem dX0_reason_77 : decode mX0_reason.2.1 77 = .ok (.if_icmp .eq 18, 3) := by decide +kernel
theorem dX0_reason_80 : decode mX0_reason.2.1 80 = .ok (.goto 13, 3) := by decide +kernel
theorem dX0_reason_83 : decode mX0_reason.2.1 83 = .ok (.aload_n 0, 1) := by decide +kernel
theorem dX0_reason_84 : decode mX0_reason.2.1 84 = .ok (.iload 4, 2) := by decide +kernel
theorem dX0_reason_86 : decode mX0_reason.2.1 86 = .ok (.iload_n 2, 1) := by decide +kernel
theorem dX0_reason_87 : decode mX0_reason.2.1 87 = .ok (.invokevirtual 62, 3) := by decide +kernel
theorem dX0_reason_90 : decode mX0_reason.2.1 90 = .ok (.ifCond .ne 5, 3) := by decide +kernel
theorem dX0_reason_93 : decode mX0_reason.2.1 93 = .ok (.iconst 3, 1) := by decide +kernel
theorem dX0_reason_94 : decode mX0_reason.2.1 94 = .ok (.ireturn, 1) := by decide +kernel
theorem dX0_reason_95 : decode mX0_reason.2.1 95 = .ok (.aload_n 0, 1) := by decide +kernel
theorem dX0_reason_96 : decode mX0_reason.2.1 96 = .ok (.getfield 45, 3) := by decide +kernel
theorem dX0_reason_99 : decode mX0_reason.2.1 99 = .ok (.invokevirtual 66, 3) := by decide +kernel
theorem dX0_reason_102 : decode mX0_reason.2.1 102 = .ok (.aload_n 0, 1) := by decide +kernel
theorem dX0_reason_103 : decode mX0_reason.2.1 103 = .ok (.bipush 20, 2) := by decide +kernel
theorem dX0_reason_105 : decode mX0_reason.2.1 105 = .ok (.iload_n 2, 1) := by decide +kernel
theorem dX0_reason_106 : decode mX0_reason.2.1 106 = .ok (.invokevirtual 71, 3) := by decide +kernel
theorem dX0_reason_109 : decode mX0_reason.2.1 109 = .ok (.aload_n 0, 1) := by decide +kernel
theorem dX0_reason_110 : decode mX0_reason.2.1 110 = .ok (.iload_n 1, 1) := by decide +kernel
theorem dX0_reason_111 : decode mX0_reason.2.1 111 = .ok (.iload_n 2, 1) := by decide +kernel
theorem dX0_reason_112 : decode mX0_reason.2.1 112 = .ok (.iload_n 3, 1) := by decide +kernel
theorem dX0_reason_113 : decode mX0_reason.2.1 113 = .ok (.invokevirtual 75, 3) := by decide +kernel
theorem dX0_reason_116 : decode mX0_reason.2.1 116 = .ok (.aload_n 0, 1) := by decide +kernel
theorem dX0_reason_117 : decode mX0_reason.2.1 117 = .ok (.aload_n 0, 1) := by decide +kernel
theorem dX0_reason_118 : decode mX0_reason.2.1 118 = .ok (.invokevirtual 79, 3) := by decide +kernel
theorem dX0_reason_121 : decode mX0_reason.2.1 121 = .ok (.putfield 31, 3) := by decide +kernel
theorem dX0_reason_124 : decode mX0_reason.2.1 124 = .ok (.aload_n 0, 1) := by decide +kernel
theorem dX0_reason_125 : decode mX0_reason.2.1 125 = .ok (.bipush 20, 2) := by decide +kernel
theorem dX0_reason_127 : decode mX0_reason.2.1 127 = .ok (.invokevirtual 83, 3) := by decide +kernel
theorem dX0_reason_130 : decode mX0_reason.2.1 130 = .ok (.aload_n 0, 1) := by decide +kernel
theorem dX0_reason_131 : decode mX0_reason.2.1 131 = .ok (.getfield 31, 3) := by decide +kernel
theorem dX0_reason_134 : decode mX0_reason.2.1 134 = .ok (.iconst (-1), 1) := by decide +kernel
theorem dX0_reason_135 : decode mX0_reason.2.1 135 = .ok (.if_icmp .ne 7, 3) := by decide +kernel
theorem dX0_reason_138 : decode mX0_reason.2.1 138 = .ok (.iconst 0, 1) := by decide +kernel
theorem dX0_reason_139 : decode mX0_reason.2.1 139 = .ok (.goto 4, 3) := by decide +kernel
theorem dX0_reason_142 : decode mX0_reason.2.1 142 = .ok (.iconst 4, 1) := by decide +kernel
theorem dX0_reason_143 : decode mX0_reason.2.1 143 = .ok (.ireturn, 1) := by decide +kernel
theorem dX0_keep_0 : decode mX0_keep.2.1 0 = .ok (.aload_n 0, 1) := by decide +kernel
theorem dX0_keep_1 : decode mX0_keep.2.1 1 = .ok (.getfield 21, 3) := by decide +kernel
theorem dX0_keep_4 : decode mX0_keep.2.1 4 = .ok (.bipush 20, 2) := by decide +kernel
theorem dX0_keep_6 : decode mX0_keep.2.1 6 = .ok (.if_icmp .lt 5, 3) := by decide +kernel
theorem dX0_keep_9 : decode mX0_keep.2.1 9 = .ok (.iconst 0, 1) := by decide +kernel
theorem dX0_keep_10 : decode mX0_keep.2.1 10 = .ok (.ireturn, 1) := by decide +kernel
theorem dX0_keep_11 : decode mX0_keep.2.1 11 = .ok (.aload_n 0, 1) := by decide +kernel
theorem dX0_keep_12 : decode mX0_keep.2.1 12 = .ok (.aload_n 0, 1) := by decide +kernel
theorem dX0_keep_13 : decode mX0_keep.2.1 13 = .ok (.getfield 21, 3) := by decide +kernel
theorem dX0_keep_16 : decode mX0_keep.2.1 16 = .ok (.iload_n 2, 1) := by decide +kernel
theorem dX0_keep_17 : decode mX0_keep.2.1 17 = .ok (.invokevirtual 71, 3) := by decide +kernel
theorem dX0_keep_20 : decode mX0_keep.2.1 20 = .ok (.aload_n 0, 1) := by decide +kernel
theorem dX0_keep_21 : decode mX0_keep.2.1 21 = .ok (.iload_n 1, 1) := by decide +kernel
theorem dX0_keep_22 : decode mX0_keep.2.1 22 = .ok (.iload_n 2, 1) := by decide +kernel
theorem dX0_keep_23 : decode mX0_keep.2.1 23 = .ok (.iload_n 3, 1) := by decide +kernel
theorem dX0_keep_24 : decode mX0_keep.2.1 24 = .ok (.invokevirtual 75, 3) := by decide +kernel
theorem dX0_keep_27 : decode mX0_keep.2.1 27 = .ok (.aload_n 0, 1) := by decide +kernel
theorem dX0_keep_28 : decode mX0_keep.2.1 28 = .ok (.getfield 37, 3) := by decide +kernel
theorem dX0_keep_31 : decode mX0_keep.2.1 31 = .ok (.dup, 1) := by decide +kernel
theorem dX0_keep_32 : decode mX0_keep.2.1 32 = .ok (.getfield 87, 3) := by decide +kernel
theorem dX0_keep_35 : decode mX0_keep.2.1 35 = .ok (.iconst 1, 1) := by decide +kernel
theorem dX0_keep_36 : decode mX0_keep.2.1 36 = .ok (.iadd, 1) := by decide +kernel
theorem dX0_keep_37 : decode mX0_keep.2.1 37 = .ok (.putfield 87, 3) := by decide +kernel
theorem dX0_keep_40 : decode mX0_keep.2.1 40 = .ok (.aload_n 0, 1) := by decide +kernel
theorem dX0_keep_41 : decode mX0_keep.2.1 41 = .ok (.dup, 1) := by decide +kernel
theorem dX0_keep_42 : decode mX0_keep.2.1 42 = .ok (.getfield 21, 3) := by decide +kernel
theorem dX0_keep_45 : decode mX0_keep.2.1 45 = .ok (.iconst 1, 1) := by decide +kernel
theorem dX0_keep_46 : decode mX0_keep.2.1 46 = .ok (.iadd, 1) := by decide +kernel
theorem dX0_keep_47 : decode mX0_keep.2.1 47 = .ok (.putfield 21, 3) := by decide +kernel
theorem dX0_keep_50 : decode mX0_keep.2.1 50 = .ok (.aload_n 0, 1) := by decide +kernel
theorem dX0_keep_51 : decode mX0_keep.2.1 51 = .ok (.dup, 1) := by decide +kernel
theorem dX0_keep_52 : decode mX0_keep.2.1 52 = .ok (.getfield 25, 3) := by decide +kernel
theorem dX0_keep_55 : decode mX0_keep.2.1 55 = .ok (.iconst 1, 1) := by decide +kernel
theorem dX0_keep_56 : decode mX0_keep.2.1 56 = .ok (.iadd, 1) := by decide +kernel
theorem dX0_keep_57 : decode mX0_keep.2.1 57 = .ok (.putfield 25, 3) := by decide +kernel
theorem dX0_keep_60 : decode mX0_keep.2.1 60 = .ok (.iconst 1, 1) := by decide +kernel
theorem dX0_keep_61 : decode mX0_keep.2.1 61 = .ok (.ireturn, 1) := by decide +kernel
theorem dX0_takeBack_0 : decode mX0_takeBack.2.1 0 = .ok (.aload_n 0, 1) := by decide +kernel
theorem dX0_takeBack_1 : decode mX0_takeBack.2.1 1 = .ok (.getfield 21, 3) := by decide +kernel
theorem dX0_takeBack_4 : decode mX0_takeBack.2.1 4 = .ok (.ifCond .gt 5, 3) := by decide +kernel
theorem dX0_takeBack_7 : decode mX0_takeBack.2.1 7 = .ok (.iconst 0, 1) := by decide +kernel
theorem dX0_takeBack_8 : decode mX0_takeBack.2.1 8 = .ok (.ireturn, 1) := by decide +kernel
theorem dX0_takeBack_9 : decode mX0_takeBack.2.1 9 = .ok (.aload_n 0, 1) := by decide +kernel
theorem dX0_takeBack_10 : decode mX0_takeBack.2.1 10 = .ok (.dup, 1) := by decide +kernel
theorem dX0_takeBack_11 : decode mX0_takeBack.2.1 11 = .ok (.getfield 21, 3) := by decide +kernel
theorem dX0_takeBack_14 : decode mX0_takeBack.2.1 14 = .ok (.iconst 1, 1) := by decide +kernel
theorem dX0_takeBack_15 : decode mX0_takeBack.2.1 15 = .ok (.isub, 1) := by decide +kernel
theorem dX0_takeBack_16 : decode mX0_takeBack.2.1 16 = .ok (.putfield 21, 3) := by decide +kernel
theorem dX0_takeBack_19 : decode mX0_takeBack.2.1 19 = .ok (.aload_n 0, 1) := by decide +kernel
theorem dX0_takeBack_20 : decode mX0_takeBack.2.1 20 = .ok (.aload_n 0, 1) := by decide +kernel
theorem dX0_takeBack_21 : decode mX0_takeBack.2.1 21 = .ok (.getfield 21, 3) := by decide +kernel
theorem dX0_takeBack_24 : decode mX0_takeBack.2.1 24 = .ok (.invokevirtual 83, 3) := by decide +kernel
theorem dX0_takeBack_27 : decode mX0_takeBack.2.1 27 = .ok (.aload_n 0, 1) := by decide +kernel
theorem dX0_takeBack_28 : decode mX0_takeBack.2.1 28 = .ok (.getfield 37, 3) := by decide +kernel
theorem dX0_takeBack_31 : decode mX0_takeBack.2.1 31 = .ok (.dup, 1) := by decide +kernel
theorem dX0_takeBack_32 : decode mX0_takeBack.2.1 32 = .ok (.getfield 87, 3) := by decide +kernel
theorem dX0_takeBack_35 : decode mX0_takeBack.2.1 35 = .ok (.iconst 1, 1) := by decide +kernel
theorem dX0_takeBack_36 : decode mX0_takeBack.2.1 36 = .ok (.iadd, 1) := by decide +kernel
theorem dX0_takeBack_37 : decode mX0_takeBack.2.1 37 = .ok (.putfield 87, 3) := by decide +kernel
theorem dX0_takeBack_40 : decode mX0_takeBack.2.1 40 = .ok (.aload_n 0, 1) := by decide +kernel
theorem dX0_takeBack_41 : decode mX0_takeBack.2.1 41 = .ok (.dup, 1) := by decide +kernel
theorem dX0_takeBack_42 : decode mX0_takeBack.2.1 42 = .ok (.getfield 28, 3) := by decide +kernel
theorem dX0_takeBack_45 : decode mX0_takeBack.2.1 45 = .ok (.iconst 1, 1) := by decide +kernel
theorem dX0_takeBack_46 : decode mX0_takeBack.2.1 46 = .ok (.iadd, 1) := by decide +kernel
theorem dX0_takeBack_47 : decode mX0_takeBack.2.1 47 = .ok (.putfield 28, 3) := by decide +kernel
theorem dX0_takeBack_50 : decode mX0_takeBack.2.1 50 = .ok (.iconst 1, 1) := by decide +kernel
theorem dX0_takeBack_51 : decode mX0_takeBack.2.1 51 = .ok (.ireturn, 1) := by decide +kernel
theorem dX0_refresh_0 : decode mX0_refresh.2.1 0 = .ok (.aload_n 0, 1) := by decide +kernel
theorem dX0_refresh_1 : decode mX0_refresh.2.1 1 = .ok (.getfield 34, 3) := by decide +kernel
theorem dX0_refresh_4 : decode mX0_refresh.2.1 4 = .ok (.aload_n 0, 1) := by decide +kernel
theorem dX0_refresh_5 : decode mX0_refresh.2.1 5 = .ok (.getfield 37, 3) := by decide +kernel
theorem dX0_refresh_8 : decode mX0_refresh.2.1 8 = .ok (.getfield 87, 3) := by decide +kernel
theorem dX0_refresh_11 : decode mX0_refresh.2.1 11 = .ok (.if_icmp .ne 4, 3) := by decide +kernel
theorem dX0_refresh_14 : decode mX0_refresh.2.1 14 = .ok (.return_, 1) := by decide +kernel
theorem dX0_refresh_15 : decode mX0_refresh.2.1 15 = .ok (.aload_n 0, 1) := by decide +kernel
theorem dX0_refresh_16 : decode mX0_refresh.2.1 16 = .ok (.aload_n 0, 1) := by decide +kernel
theorem dX0_refresh_17 : decode mX0_refresh.2.1 17 = .ok (.getfield 37, 3) := by decide +kernel
theorem dX0_refresh_20 : decode mX0_refresh.2.1 20 = .ok (.getfield 87, 3) := by decide +kernel
theorem dX0_refresh_23 : decode mX0_refresh.2.1 23 = .ok (.putfield 34, 3) := by decide +kernel
theorem dX0_refresh_26 : decode mX0_refresh.2.1 26 = .ok (.aload_n 0, 1) := by decide +kernel
theorem dX0_refresh_27 : decode mX0_refresh.2.1 27 = .ok (.iconst 0, 1) := by decide +kernel
theorem dX0_refresh_28 : decode mX0_refresh.2.1 28 = .ok (.putfield 88, 3) := by decide +kernel
theorem dX0_refresh_31 : decode mX0_refresh.2.1 31 = .ok (.aload_n 0, 1) := by decide +kernel
theorem dX0_refresh_32 : decode mX0_refresh.2.1 32 = .ok (.iconst 0, 1) := by decide +kernel
theorem dX0_refresh_33 : decode mX0_refresh.2.1 33 = .ok (.putfield 91, 3) := by decide +kernel
theorem dX0_refresh_36 : decode mX0_refresh.2.1 36 = .ok (.aload_n 0, 1) := by decide +kernel
theorem dX0_refresh_37 : decode mX0_refresh.2.1 37 = .ok (.iconst 0, 1) := by decide +kernel
theorem dX0_refresh_38 : decode mX0_refresh.2.1 38 = .ok (.putfield 94, 3) := by decide +kernel
theorem dX0_refresh_41 : decode mX0_refresh.2.1 41 = .ok (.iconst 0, 1) := by decide +kernel
theorem dX0_refresh_42 : decode mX0_refresh.2.1 42 = .ok (.istore_n 1, 1) := by decide +kernel
theorem dX0_refresh_43 : decode mX0_refresh.2.1 43 = .ok (.iload_n 1, 1) := by decide +kernel
theorem dX0_refresh_44 : decode mX0_refresh.2.1 44 = .ok (.aload_n 0, 1) := by decide +kernel
theorem dX0_refresh_45 : decode mX0_refresh.2.1 45 = .ok (.getfield 37, 3) := by decide +kernel
theorem dX0_refresh_48 : decode mX0_refresh.2.1 48 = .ok (.getfield 97, 3) := by decide +kernel
theorem dX0_refresh_51 : decode mX0_refresh.2.1 51 = .ok (.if_icmp .ge 108, 3) := by decide +kernel
theorem dX0_refresh_54 : decode mX0_refresh.2.1 54 = .ok (.iconst 0, 1) := by decide +kernel
theorem dX0_refresh_55 : decode mX0_refresh.2.1 55 = .ok (.istore_n 2, 1) := by decide +kernel
theorem dX0_refresh_56 : decode mX0_refresh.2.1 56 = .ok (.iload_n 2, 1) := by decide +kernel
theorem dX0_refresh_57 : decode mX0_refresh.2.1 57 = .ok (.bipush 12, 2) := by decide +kernel
theorem dX0_refresh_59 : decode mX0_refresh.2.1 59 = .ok (.if_icmp .ge 94, 3) := by decide +kernel
theorem dX0_refresh_62 : decode mX0_refresh.2.1 62 = .ok (.aload_n 0, 1) := by decide +kernel
theorem dX0_refresh_63 : decode mX0_refresh.2.1 63 = .ok (.iload_n 1, 1) := by decide +kernel
theorem dX0_refresh_64 : decode mX0_refresh.2.1 64 = .ok (.iload_n 2, 1) := by decide +kernel
theorem dX0_refresh_65 : decode mX0_refresh.2.1 65 = .ok (.iconst 1, 1) := by decide +kernel
theorem dX0_refresh_66 : decode mX0_refresh.2.1 66 = .ok (.invokevirtual 100, 3) := by decide +kernel
theorem dX0_refresh_69 : decode mX0_refresh.2.1 69 = .ok (.istore_n 3, 1) := by decide +kernel
theorem dX0_refresh_70 : decode mX0_refresh.2.1 70 = .ok (.aload_n 0, 1) := by decide +kernel
theorem dX0_refresh_71 : decode mX0_refresh.2.1 71 = .ok (.iload_n 1, 1) := by decide +kernel
theorem dX0_refresh_72 : decode mX0_refresh.2.1 72 = .ok (.iload_n 2, 1) := by decide +kernel
theorem dX0_refresh_73 : decode mX0_refresh.2.1 73 = .ok (.iconst 0, 1) := by decide +kernel
theorem dX0_refresh_74 : decode mX0_refresh.2.1 74 = .ok (.invokevirtual 100, 3) := by decide +kernel
theorem dX0_refresh_77 : decode mX0_refresh.2.1 77 = .ok (.istore 4, 2) := by decide +kernel
theorem dX0_refresh_79 : decode mX0_refresh.2.1 79 = .ok (.aload_n 0, 1) := by decide +kernel
theorem dX0_refresh_80 : decode mX0_refresh.2.1 80 = .ok (.dup, 1) := by decide +kernel
theorem dX0_refresh_81 : decode mX0_refresh.2.1 81 = .ok (.getfield 88, 3) := by decide +kernel
theorem dX0_refresh_84 : decode mX0_refresh.2.1 84 = .ok (.iload_n 3, 1) := by decide +kernel
theorem dX0_refresh_85 : decode mX0_refresh.2.1 85 = .ok (.ifCond .ne 7, 3) := by decide +kernel
theorem dX0_refresh_88 : decode mX0_refresh.2.1 88 = .ok (.iconst 1, 1) := by decide +kernel
theorem dX0_refresh_89 : decode mX0_refresh.2.1 89 = .ok (.goto 4, 3) := by decide +kernel
theorem dX0_refresh_92 : decode mX0_refresh.2.1 92 = .ok (.iconst 0, 1) := by decide +kernel
theorem dX0_refresh_93 : decode mX0_refresh.2.1 93 = .ok (.iadd, 1) := by decide +kernel
theorem dX0_refresh_94 : decode mX0_refresh.2.1 94 = .ok (.putfield 88, 3) := by decide +kernel
theorem dX0_refresh_97 : decode mX0_refresh.2.1 97 = .ok (.aload_n 0, 1) := by decide +kernel
theorem dX0_refresh_98 : decode mX0_refresh.2.1 98 = .ok (.dup, 1) := by decide +kernel
theorem dX0_refresh_99 : decode mX0_refresh.2.1 99 = .ok (.getfield 91, 3) := by decide +kernel
theorem dX0_refresh_102 : decode mX0_refresh.2.1 102 = .ok (.iload 4, 2) := by decide +kernel
theorem dX0_refresh_104 : decode mX0_refresh.2.1 104 = .ok (.ifCond .ne 7, 3) := by decide +kernel
theorem dX0_refresh_107 : decode mX0_refresh.2.1 107 = .ok (.iconst 1, 1) := by decide +kernel
theorem dX0_refresh_108 : decode mX0_refresh.2.1 108 = .ok (.goto 4, 3) := by decide +kernel
theorem dX0_refresh_111 : decode mX0_refresh.2.1 111 = .ok (.iconst 0, 1) := by decide +kernel
theorem dX0_refresh_112 : decode mX0_refresh.2.1 112 = .ok (.iadd, 1) := by decide +kernel
theorem dX0_refresh_113 : decode mX0_refresh.2.1 113 = .ok (.putfield 91, 3) := by decide +kernel
theorem dX0_refresh_116 : decode mX0_refresh.2.1 116 = .ok (.aload_n 0, 1) := by decide +kernel
theorem dX0_refresh_117 : decode mX0_refresh.2.1 117 = .ok (.dup, 1) := by decide +kernel
theorem dX0_refresh_118 : decode mX0_refresh.2.1 118 = .ok (.getfield 94, 3) := by decide +kernel
theorem dX0_refresh_121 : decode mX0_refresh.2.1 121 = .ok (.iload_n 3, 1) := by decide +kernel
theorem dX0_refresh_122 : decode mX0_refresh.2.1 122 = .ok (.iconst 4, 1) := by decide +kernel
theorem dX0_refresh_123 : decode mX0_refresh.2.1 123 = .ok (.if_icmp .ne 7, 3) := by decide +kernel
theorem dX0_refresh_126 : decode mX0_refresh.2.1 126 = .ok (.iconst 1, 1) := by decide +kernel
theorem dX0_refresh_127 : decode mX0_refresh.2.1 127 = .ok (.goto 4, 3) := by decide +kernel
theorem dX0_refresh_130 : decode mX0_refresh.2.1 130 = .ok (.iconst 0, 1) := by decide +kernel
theorem dX0_refresh_131 : decode mX0_refresh.2.1 131 = .ok (.iload 4, 2) := by decide +kernel
theorem dX0_refresh_133 : decode mX0_refresh.2.1 133 = .ok (.iconst 4, 1) := by decide +kernel
theorem dX0_refresh_134 : decode mX0_refresh.2.1 134 = .ok (.if_icmp .ne 7, 3) := by decide +kernel
theorem dX0_refresh_137 : decode mX0_refresh.2.1 137 = .ok (.iconst 1, 1) := by decide +kernel
theorem dX0_refresh_138 : decode mX0_refresh.2.1 138 = .ok (.goto 4, 3) := by decide +kernel
theorem dX0_refresh_141 : decode mX0_refresh.2.1 141 = .ok (.iconst 0, 1) := by decide +kernel
theorem dX0_refresh_142 : decode mX0_refresh.2.1 142 = .ok (.iadd, 1) := by decide +kernel
theorem dX0_refresh_143 : decode mX0_refresh.2.1 143 = .ok (.iadd, 1) := by decide +kernel
theorem dX0_refresh_144 : decode mX0_refresh.2.1 144 = .ok (.putfield 94, 3) := by decide +kernel
theorem dX0_refresh_147 : decode mX0_refresh.2.1 147 = .ok (.iinc 2 1, 3) := by decide +kernel
theorem dX0_refresh_150 : decode mX0_refresh.2.1 150 = .ok (.goto (-94), 3) := by decide +kernel
theorem dX0_refresh_153 : decode mX0_refresh.2.1 153 = .ok (.iinc 1 1, 3) := by decide +kernel
theorem dX0_refresh_156 : decode mX0_refresh.2.1 156 = .ok (.goto (-113), 3) := by decide +kernel
theorem dX0_refresh_159 : decode mX0_refresh.2.1 159 = .ok (.return_, 1) := by decide +kernel
theorem dX0_someLack_0 : decode mX0_someLack.2.1 0 = .ok (.iconst 0, 1) := by decide +kernel
theorem dX0_someLack_1 : decode mX0_someLack.2.1 1 = .ok (.istore_n 3, 1) := by decide +kernel
theorem dX0_someLack_2 : decode mX0_someLack.2.1 2 = .ok (.iload_n 3, 1) := by decide +kernel
theorem dX0_someLack_3 : decode mX0_someLack.2.1 3 = .ok (.aload_n 0, 1) := by decide +kernel
theorem dX0_someLack_4 : decode mX0_someLack.2.1 4 = .ok (.getfield 37, 3) := by decide +kernel
theorem dX0_someLack_7 : decode mX0_someLack.2.1 7 = .ok (.getfield 97, 3) := by decide +kernel
theorem dX0_someLack_10 : decode mX0_someLack.2.1 10 = .ok (.if_icmp .ge 32, 3) := by decide +kernel
theorem dX0_someLack_13 : decode mX0_someLack.2.1 13 = .ok (.iload_n 1, 1) := by decide +kernel
theorem dX0_someLack_14 : decode mX0_someLack.2.1 14 = .ok (.iload_n 3, 1) := by decide +kernel
theorem dX0_someLack_15 : decode mX0_someLack.2.1 15 = .ok (.ishr, 1) := by decide +kernel
theorem dX0_someLack_16 : decode mX0_someLack.2.1 16 = .ok (.iconst 1, 1) := by decide +kernel
theorem dX0_someLack_17 : decode mX0_someLack.2.1 17 = .ok (.iand, 1) := by decide +kernel
theorem dX0_someLack_18 : decode mX0_someLack.2.1 18 = .ok (.ifCond .eq 18, 3) := by decide +kernel
theorem dX0_someLack_21 : decode mX0_someLack.2.1 21 = .ok (.aload_n 0, 1) := by decide +kernel
theorem dX0_someLack_22 : decode mX0_someLack.2.1 22 = .ok (.getfield 37, 3) := by decide +kernel
theorem dX0_someLack_25 : decode mX0_someLack.2.1 25 = .ok (.iload_n 3, 1) := by decide +kernel
theorem dX0_someLack_26 : decode mX0_someLack.2.1 26 = .ok (.iload_n 2, 1) := by decide +kernel
theorem dX0_someLack_27 : decode mX0_someLack.2.1 27 = .ok (.invokevirtual 49, 3) := by decide +kernel
theorem dX0_someLack_30 : decode mX0_someLack.2.1 30 = .ok (.iconst (-1), 1) := by decide +kernel
theorem dX0_someLack_31 : decode mX0_someLack.2.1 31 = .ok (.if_icmp .ne 5, 3) := by decide +kernel
theorem dX0_someLack_34 : decode mX0_someLack.2.1 34 = .ok (.iconst 1, 1) := by decide +kernel
theorem dX0_someLack_35 : decode mX0_someLack.2.1 35 = .ok (.ireturn, 1) := by decide +kernel
theorem dX0_someLack_36 : decode mX0_someLack.2.1 36 = .ok (.iinc 3 1, 3) := by decide +kernel
theorem dX0_someLack_39 : decode mX0_someLack.2.1 39 = .ok (.goto (-37), 3) := by decide +kernel
theorem dX0_someLack_42 : decode mX0_someLack.2.1 42 = .ok (.iconst 0, 1) := by decide +kernel
theorem dX0_someLack_43 : decode mX0_someLack.2.1 43 = .ok (.ireturn, 1) := by decide +kernel
theorem dX0_shift_0 : decode mX0_shift.2.1 0 = .ok (.aload_n 0, 1) := by decide +kernel
theorem dX0_shift_1 : decode mX0_shift.2.1 1 = .ok (.getfield 37, 3) := by decide +kernel
theorem dX0_shift_4 : decode mX0_shift.2.1 4 = .ok (.iload_n 1, 1) := by decide +kernel
theorem dX0_shift_5 : decode mX0_shift.2.1 5 = .ok (.iload_n 2, 1) := by decide +kernel
theorem dX0_shift_6 : decode mX0_shift.2.1 6 = .ok (.invokevirtual 49, 3) := by decide +kernel
theorem dX0_shift_9 : decode mX0_shift.2.1 9 = .ok (.istore 4, 2) := by decide +kernel
theorem dX0_shift_11 : decode mX0_shift.2.1 11 = .ok (.aload_n 0, 1) := by decide +kernel
theorem dX0_shift_12 : decode mX0_shift.2.1 12 = .ok (.getfield 37, 3) := by decide +kernel
theorem dX0_shift_15 : decode mX0_shift.2.1 15 = .ok (.iload_n 1, 1) := by decide +kernel
theorem dX0_shift_16 : decode mX0_shift.2.1 16 = .ok (.iload_n 2, 1) := by decide +kernel
theorem dX0_shift_17 : decode mX0_shift.2.1 17 = .ok (.invokevirtual 104, 3) := by decide +kernel
theorem dX0_shift_20 : decode mX0_shift.2.1 20 = .ok (.istore 5, 2) := by decide +kernel
theorem dX0_shift_22 : decode mX0_shift.2.1 22 = .ok (.iload_n 3, 1) := by decide +kernel
theorem dX0_shift_23 : decode mX0_shift.2.1 23 = .ok (.ifCond .eq 23, 3) := by decide +kernel
theorem dX0_shift_26 : decode mX0_shift.2.1 26 = .ok (.aload_n 0, 1) := by decide +kernel
theorem dX0_shift_27 : decode mX0_shift.2.1 27 = .ok (.aload_n 0, 1) := by decide +kernel
theorem dX0_shift_28 : decode mX0_shift.2.1 28 = .ok (.getfield 37, 3) := by decide +kernel
theorem dX0_shift_31 : decode mX0_shift.2.1 31 = .ok (.iload_n 1, 1) := by decide +kernel
theorem dX0_shift_32 : decode mX0_shift.2.1 32 = .ok (.invokevirtual 59, 3) := by decide +kernel
theorem dX0_shift_35 : decode mX0_shift.2.1 35 = .ok (.iload_n 2, 1) := by decide +kernel
theorem dX0_shift_36 : decode mX0_shift.2.1 36 = .ok (.iload 4, 2) := by decide +kernel
theorem dX0_shift_38 : decode mX0_shift.2.1 38 = .ok (.iload 5, 2) := by decide +kernel
theorem dX0_shift_40 : decode mX0_shift.2.1 40 = .ok (.invokevirtual 107, 3) := by decide +kernel
theorem dX0_shift_43 : decode mX0_shift.2.1 43 = .ok (.goto 13, 3) := by decide +kernel
theorem dX0_shift_46 : decode mX0_shift.2.1 46 = .ok (.aload_n 0, 1) := by decide +kernel
theorem dX0_shift_47 : decode mX0_shift.2.1 47 = .ok (.iload_n 1, 1) := by decide +kernel
theorem dX0_shift_48 : decode mX0_shift.2.1 48 = .ok (.iload_n 2, 1) := by decide +kernel
theorem dX0_shift_49 : decode mX0_shift.2.1 49 = .ok (.iload 4, 2) := by decide +kernel
theorem dX0_shift_51 : decode mX0_shift.2.1 51 = .ok (.iload 5, 2) := by decide +kernel
theorem dX0_shift_53 : decode mX0_shift.2.1 53 = .ok (.invokevirtual 111, 3) := by decide +kernel
theorem dX0_shift_56 : decode mX0_shift.2.1 56 = .ok (.return_, 1) := by decide +kernel
theorem dX0_shiftUp_0 : decode mX0_shiftUp.2.1 0 = .ok (.iconst 0, 1) := by decide +kernel
theorem dX0_shiftUp_1 : decode mX0_shiftUp.2.1 1 = .ok (.istore 5, 2) := by decide +kernel
theorem dX0_shiftUp_3 : decode mX0_shiftUp.2.1 3 = .ok (.iload 5, 2) := by decide +kernel
theorem dX0_shiftUp_5 : decode mX0_shiftUp.2.1 5 = .ok (.aload_n 0, 1) := by decide +kernel
theorem dX0_shiftUp_6 : decode mX0_shiftUp.2.1 6 = .ok (.getfield 37, 3) := by decide +kernel
theorem dX0_shiftUp_9 : decode mX0_shiftUp.2.1 9 = .ok (.getfield 97, 3) := by decide +kernel
theorem dX0_shiftUp_12 : decode mX0_shiftUp.2.1 12 = .ok (.if_icmp .ge 63, 3) := by decide +kernel
theorem dX0_shiftUp_15 : decode mX0_shiftUp.2.1 15 = .ok (.aload_n 0, 1) := by decide +kernel
theorem dX0_shiftUp_16 : decode mX0_shiftUp.2.1 16 = .ok (.getfield 37, 3) := by decide +kernel
theorem dX0_shiftUp_19 : decode mX0_shiftUp.2.1 19 = .ok (.iload 5, 2) := by decide +kernel
theorem dX0_shiftUp_21 : decode mX0_shiftUp.2.1 21 = .ok (.invokevirtual 59, 3) := by decide +kernel
theorem dX0_shiftUp_24 : decode mX0_shiftUp.2.1 24 = .ok (.iload_n 1, 1) := by decide +kernel
theorem dX0_shiftUp_25 : decode mX0_shiftUp.2.1 25 = .ok (.if_icmp .ne 44, 3) := by decide +kernel
theorem dX0_shiftUp_28 : decode mX0_shiftUp.2.1 28 = .ok (.aload_n 0, 1) := by decide +kernel
theorem dX0_shiftUp_29 : decode mX0_shiftUp.2.1 29 = .ok (.getfield 37, 3) := by decide +kernel
theorem dX0_shiftUp_32 : decode mX0_shiftUp.2.1 32 = .ok (.iload 5, 2) := by decide +kernel
theorem dX0_shiftUp_34 : decode mX0_shiftUp.2.1 34 = .ok (.iload_n 2, 1) := by decide +kernel
theorem dX0_shiftUp_35 : decode mX0_shiftUp.2.1 35 = .ok (.invokevirtual 49, 3) := by decide +kernel
theorem dX0_shiftUp_38 : decode mX0_shiftUp.2.1 38 = .ok (.iload_n 3, 1) := by decide +kernel
theorem dX0_shiftUp_39 : decode mX0_shiftUp.2.1 39 = .ok (.if_icmp .ne 30, 3) := by decide +kernel
theorem dX0_shiftUp_42 : decode mX0_shiftUp.2.1 42 = .ok (.aload_n 0, 1) := by decide +kernel
theorem dX0_shiftUp_43 : decode mX0_shiftUp.2.1 43 = .ok (.getfield 37, 3) := by decide +kernel
theorem dX0_shiftUp_46 : decode mX0_shiftUp.2.1 46 = .ok (.iload 5, 2) := by decide +kernel
theorem dX0_shiftUp_48 : decode mX0_shiftUp.2.1 48 = .ok (.iload_n 2, 1) := by decide +kernel
theorem dX0_shiftUp_49 : decode mX0_shiftUp.2.1 49 = .ok (.invokevirtual 104, 3) := by decide +kernel
theorem dX0_shiftUp_52 : decode mX0_shiftUp.2.1 52 = .ok (.iload 4, 2) := by decide +kernel
theorem dX0_shiftUp_54 : decode mX0_shiftUp.2.1 54 = .ok (.if_icmp .ne 15, 3) := by decide +kernel
theorem dX0_shiftUp_57 : decode mX0_shiftUp.2.1 57 = .ok (.aload_n 0, 1) := by decide +kernel
theorem dX0_shiftUp_58 : decode mX0_shiftUp.2.1 58 = .ok (.getfield 37, 3) := by decide +kernel
theorem dX0_shiftUp_61 : decode mX0_shiftUp.2.1 61 = .ok (.iload 5, 2) := by decide +kernel
theorem dX0_shiftUp_63 : decode mX0_shiftUp.2.1 63 = .ok (.iload_n 2, 1) := by decide +kernel
theorem dX0_shiftUp_64 : decode mX0_shiftUp.2.1 64 = .ok (.iconst (-1), 1) := by decide +kernel
theorem dX0_shiftUp_65 : decode mX0_shiftUp.2.1 65 = .ok (.iconst 0, 1) := by decide +kernel
theorem dX0_shiftUp_66 : decode mX0_shiftUp.2.1 66 = .ok (.invokevirtual 114, 3) := by decide +kernel
theorem dX0_shiftUp_69 : decode mX0_shiftUp.2.1 69 = .ok (.iinc 5 1, 3) := by decide +kernel
theorem dX0_shiftUp_72 : decode mX0_shiftUp.2.1 72 = .ok (.goto (-69), 3) := by decide +kernel
theorem dX0_shiftUp_75 : decode mX0_shiftUp.2.1 75 = .ok (.aload_n 0, 1) := by decide +kernel
theorem dX0_shiftUp_76 : decode mX0_shiftUp.2.1 76 = .ok (.getfield 37, 3) := by decide +kernel
theorem dX0_shiftUp_79 : decode mX0_shiftUp.2.1 79 = .ok (.iload_n 1, 1) := by decide +kernel
theorem dX0_shiftUp_80 : decode mX0_shiftUp.2.1 80 = .ok (.iload_n 2, 1) := by decide +kernel
theorem dX0_shiftUp_81 : decode mX0_shiftUp.2.1 81 = .ok (.iload_n 3, 1) := by decide +kernel
theorem dX0_shiftUp_82 : decode mX0_shiftUp.2.1 82 = .ok (.iload 4, 2) := by decide +kernel
theorem dX0_shiftUp_84 : decode mX0_shiftUp.2.1 84 = .ok (.invokevirtual 114, 3) := by decide +kernel
theorem dX0_shiftUp_87 : decode mX0_shiftUp.2.1 87 = .ok (.return_, 1) := by decide +kernel
theorem dX0_shiftDown_0 : decode mX0_shiftDown.2.1 0 = .ok (.iconst 0, 1) := by decide +kernel
theorem dX0_shiftDown_1 : decode mX0_shiftDown.2.1 1 = .ok (.istore 5, 2) := by decide +kernel
theorem dX0_shiftDown_3 : decode mX0_shiftDown.2.1 3 = .ok (.iload 5, 2) := by decide +kernel
theorem dX0_shiftDown_5 : decode mX0_shiftDown.2.1 5 = .ok (.aload_n 0, 1) := by decide +kernel
theorem dX0_shiftDown_6 : decode mX0_shiftDown.2.1 6 = .ok (.getfield 37, 3) := by decide +kernel
theorem dX0_shiftDown_9 : decode mX0_shiftDown.2.1 9 = .ok (.getfield 97, 3) := by decide +kernel
theorem dX0_shiftDown_12 : decode mX0_shiftDown.2.1 12 = .ok (.if_icmp .ge 49, 3) := by decide +kernel
theorem dX0_shiftDown_15 : decode mX0_shiftDown.2.1 15 = .ok (.aload_n 0, 1) := by decide +kernel
theorem dX0_shiftDown_16 : decode mX0_shiftDown.2.1 16 = .ok (.getfield 37, 3) := by decide +kernel
theorem dX0_shiftDown_19 : decode mX0_shiftDown.2.1 19 = .ok (.iload 5, 2) := by decide +kernel
theorem dX0_shiftDown_21 : decode mX0_shiftDown.2.1 21 = .ok (.invokevirtual 59, 3) := by decide +kernel
theorem dX0_shiftDown_24 : decode mX0_shiftDown.2.1 24 = .ok (.iload_n 1, 1) := by decide +kernel
theorem dX0_shiftDown_25 : decode mX0_shiftDown.2.1 25 = .ok (.if_icmp .ne 30, 3) := by decide +kernel
theorem dX0_shiftDown_28 : decode mX0_shiftDown.2.1 28 = .ok (.aload_n 0, 1) := by decide +kernel
theorem dX0_shiftDown_29 : decode mX0_shiftDown.2.1 29 = .ok (.getfield 37, 3) := by decide +kernel
theorem dX0_shiftDown_32 : decode mX0_shiftDown.2.1 32 = .ok (.iload 5, 2) := by decide +kernel
theorem dX0_shiftDown_34 : decode mX0_shiftDown.2.1 34 = .ok (.iload_n 2, 1) := by decide +kernel
theorem dX0_shiftDown_35 : decode mX0_shiftDown.2.1 35 = .ok (.invokevirtual 49, 3) := by decide +kernel
theorem dX0_shiftDown_38 : decode mX0_shiftDown.2.1 38 = .ok (.iconst (-1), 1) := by decide +kernel
theorem dX0_shiftDown_39 : decode mX0_shiftDown.2.1 39 = .ok (.if_icmp .ne 16, 3) := by decide +kernel
theorem dX0_shiftDown_42 : decode mX0_shiftDown.2.1 42 = .ok (.aload_n 0, 1) := by decide +kernel
theorem dX0_shiftDown_43 : decode mX0_shiftDown.2.1 43 = .ok (.getfield 37, 3) := by decide +kernel
theorem dX0_shiftDown_46 : decode mX0_shiftDown.2.1 46 = .ok (.iload 5, 2) := by decide +kernel
theorem dX0_shiftDown_48 : decode mX0_shiftDown.2.1 48 = .ok (.iload_n 2, 1) := by decide +kernel
theorem dX0_shiftDown_49 : decode mX0_shiftDown.2.1 49 = .ok (.iload_n 3, 1) := by decide +kernel
theorem dX0_shiftDown_50 : decode mX0_shiftDown.2.1 50 = .ok (.iload 4, 2) := by decide +kernel
theorem dX0_shiftDown_52 : decode mX0_shiftDown.2.1 52 = .ok (.invokevirtual 114, 3) := by decide +kernel
theorem dX0_shiftDown_55 : decode mX0_shiftDown.2.1 55 = .ok (.iinc 5 1, 3) := by decide +kernel
theorem dX0_shiftDown_58 : decode mX0_shiftDown.2.1 58 = .ok (.goto (-55), 3) := by decide +kernel
theorem dX0_shiftDown_61 : decode mX0_shiftDown.2.1 61 = .ok (.aload_n 0, 1) := by decide +kernel
theorem dX0_shiftDown_62 : decode mX0_shiftDown.2.1 62 = .ok (.getfield 37, 3) := by decide +kernel
theorem dX0_shiftDown_65 : decode mX0_shiftDown.2.1 65 = .ok (.iload_n 1, 1) := by decide +kernel
theorem dX0_shiftDown_66 : decode mX0_shiftDown.2.1 66 = .ok (.iload_n 2, 1) := by decide +kernel
theorem dX0_shiftDown_67 : decode mX0_shiftDown.2.1 67 = .ok (.iconst (-1), 1) := by decide +kernel
theorem dX0_shiftDown_68 : decode mX0_shiftDown.2.1 68 = .ok (.iconst 0, 1) := by decide +kernel
theorem dX0_shiftDown_69 : decode mX0_shiftDown.2.1 69 = .ok (.invokevirtual 114, 3) := by decide +kernel
theorem dX0_shiftDown_72 : decode mX0_shiftDown.2.1 72 = .ok (.return_, 1) := by decide +kernel
theorem dX0_firstChange_0 : decode mX0_firstChange.2.1 0 = .ok (.iconst 0, 1) := by decide +kernel
theorem dX0_firstChange_1 : decode mX0_firstChange.2.1 1 = .ok (.istore_n 1, 1) := by decide +kernel
theorem dX0_firstChange_2 : decode mX0_firstChange.2.1 2 = .ok (.iload_n 1, 1) := by decide +kernel
theorem dX0_firstChange_3 : decode mX0_firstChange.2.1 3 = .ok (.aload_n 0, 1) := by decide +kernel
theorem dX0_firstChange_4 : decode mX0_firstChange.2.1 4 = .ok (.getfield 37, 3) := by decide +kernel
theorem dX0_firstChange_7 : decode mX0_firstChange.2.1 7 = .ok (.getfield 97, 3) := by decide +kernel
theorem dX0_firstChange_10 : decode mX0_firstChange.2.1 10 = .ok (.if_icmp .ge 78, 3) := by decide +kernel
theorem dX0_firstChange_13 : decode mX0_firstChange.2.1 13 = .ok (.iconst 0, 1) := by decide +kernel
theorem dX0_firstChange_14 : decode mX0_firstChange.2.1 14 = .ok (.istore_n 2, 1) := by decide +kernel
theorem dX0_firstChange_15 : decode mX0_firstChange.2.1 15 = .ok (.iload_n 2, 1) := by decide +kernel
theorem dX0_firstChange_16 : decode mX0_firstChange.2.1 16 = .ok (.bipush 6, 2) := by decide +kernel
theorem dX0_firstChange_18 : decode mX0_firstChange.2.1 18 = .ok (.if_icmp .ge 64, 3) := by decide +kernel
theorem dX0_firstChange_21 : decode mX0_firstChange.2.1 21 = .ok (.aload_n 0, 1) := by decide +kernel
theorem dX0_firstChange_22 : decode mX0_firstChange.2.1 22 = .ok (.getfield 37, 3) := by decide +kernel
theorem dX0_firstChange_25 : decode mX0_firstChange.2.1 25 = .ok (.iload_n 1, 1) := by decide +kernel
theorem dX0_firstChange_26 : decode mX0_firstChange.2.1 26 = .ok (.invokevirtual 117, 3) := by decide +kernel
theorem dX0_firstChange_29 : decode mX0_firstChange.2.1 29 = .ok (.ifCond .ne 53, 3) := by decide +kernel
theorem dX0_firstChange_32 : decode mX0_firstChange.2.1 32 = .ok (.aload_n 0, 1) := by decide +kernel
theorem dX0_firstChange_33 : decode mX0_firstChange.2.1 33 = .ok (.getfield 45, 3) := by decide +kernel
theorem dX0_firstChange_36 : decode mX0_firstChange.2.1 36 = .ok (.iload_n 1, 1) := by decide +kernel
theorem dX0_firstChange_37 : decode mX0_firstChange.2.1 37 = .ok (.iload_n 2, 1) := by decide +kernel
theorem dX0_firstChange_38 : decode mX0_firstChange.2.1 38 = .ok (.invokevirtual 121, 3) := by decide +kernel
theorem dX0_firstChange_41 : decode mX0_firstChange.2.1 41 = .ok (.iconst (-1), 1) := by decide +kernel
theorem dX0_firstChange_42 : decode mX0_firstChange.2.1 42 = .ok (.if_icmp .ne 6, 3) := by decide +kernel
theorem dX0_firstChange_45 : decode mX0_firstChange.2.1 45 = .ok (.goto 31, 3) := by decide +kernel
theorem dX0_firstChange_48 : decode mX0_firstChange.2.1 48 = .ok (.aload_n 0, 1) := by decide +kernel
theorem dX0_firstChange_49 : decode mX0_firstChange.2.1 49 = .ok (.getfield 41, 3) := by decide +kernel
theorem dX0_firstChange_52 : decode mX0_firstChange.2.1 52 = .ok (.iload_n 1, 1) := by decide +kernel
theorem dX0_firstChange_53 : decode mX0_firstChange.2.1 53 = .ok (.iload_n 2, 1) := by decide +kernel
theorem dX0_firstChange_54 : decode mX0_firstChange.2.1 54 = .ok (.invokevirtual 124, 3) := by decide +kernel
theorem dX0_firstChange_57 : decode mX0_firstChange.2.1 57 = .ok (.aload_n 0, 1) := by decide +kernel
theorem dX0_firstChange_58 : decode mX0_firstChange.2.1 58 = .ok (.getfield 45, 3) := by decide +kernel
theorem dX0_firstChange_61 : decode mX0_firstChange.2.1 61 = .ok (.iload_n 1, 1) := by decide +kernel
theorem dX0_firstChange_62 : decode mX0_firstChange.2.1 62 = .ok (.iload_n 2, 1) := by decide +kernel
theorem dX0_firstChange_63 : decode mX0_firstChange.2.1 63 = .ok (.invokevirtual 129, 3) := by decide +kernel
theorem dX0_firstChange_66 : decode mX0_firstChange.2.1 66 = .ok (.ifCond .ne 10, 3) := by decide +kernel
theorem dX0_firstChange_69 : decode mX0_firstChange.2.1 69 = .ok (.bipush 6, 2) := by decide +kernel
theorem dX0_firstChange_71 : decode mX0_firstChange.2.1 71 = .ok (.iload_n 1, 1) := by decide +kernel
theorem dX0_firstChange_72 : decode mX0_firstChange.2.1 72 = .ok (.imul, 1) := by decide +kernel
theorem dX0_firstChange_73 : decode mX0_firstChange.2.1 73 = .ok (.iload_n 2, 1) := by decide +kernel
theorem dX0_firstChange_74 : decode mX0_firstChange.2.1 74 = .ok (.iadd, 1) := by decide +kernel
theorem dX0_firstChange_75 : decode mX0_firstChange.2.1 75 = .ok (.ireturn, 1) := by decide +kernel
theorem dX0_firstChange_76 : decode mX0_firstChange.2.1 76 = .ok (.iinc 2 1, 3) := by decide +kernel
theorem dX0_firstChange_79 : decode mX0_firstChange.2.1 79 = .ok (.goto (-64), 3) := by decide +kernel
theorem dX0_firstChange_82 : decode mX0_firstChange.2.1 82 = .ok (.iinc 1 1, 3) := by decide +kernel
theorem dX0_firstChange_85 : decode mX0_firstChange.2.1 85 = .ok (.goto (-83), 3) := by decide +kernel
theorem dX0_firstChange_88 : decode mX0_firstChange.2.1 88 = .ok (.iconst (-1), 1) := by decide +kernel
theorem dX0_firstChange_89 : decode mX0_firstChange.2.1 89 = .ok (.ireturn, 1) := by decide +kernel
theorem dX0_save_0 : decode mX0_save.2.1 0 = .ok (.iload_n 1, 1) := by decide +kernel
theorem dX0_save_1 : decode mX0_save.2.1 1 = .ok (.ifCond .lt 9, 3) := by decide +kernel
theorem dX0_save_4 : decode mX0_save.2.1 4 = .ok (.iload_n 1, 1) := by decide +kernel
theorem dX0_save_5 : decode mX0_save.2.1 5 = .ok (.bipush 21, 2) := by decide +kernel
theorem dX0_save_7 : decode mX0_save.2.1 7 = .ok (.if_icmp .lt 4, 3) := by decide +kernel
theorem dX0_save_10 : decode mX0_save.2.1 10 = .ok (.return_, 1) := by decide +kernel
theorem dX0_save_11 : decode mX0_save.2.1 11 = .ok (.aload_n 0, 1) := by decide +kernel
theorem dX0_save_12 : decode mX0_save.2.1 12 = .ok (.getfield 18, 3) := by decide +kernel
theorem dX0_save_15 : decode mX0_save.2.1 15 = .ok (.iload_n 1, 1) := by decide +kernel
theorem dX0_save_16 : decode mX0_save.2.1 16 = .ok (.iload_n 2, 1) := by decide +kernel
theorem dX0_save_17 : decode mX0_save.2.1 17 = .ok (.iastore, 1) := by decide +kernel
theorem dX0_save_18 : decode mX0_save.2.1 18 = .ok (.aload_n 0, 1) := by decide +kernel
theorem dX0_save_19 : decode mX0_save.2.1 19 = .ok (.getfield 15, 3) := by decide +kernel
theorem dX0_save_22 : decode mX0_save.2.1 22 = .ok (.iload_n 1, 1) := by decide +kernel
theorem dX0_save_23 : decode mX0_save.2.1 23 = .ok (.iconst 0, 1) := by decide +kernel
theorem dX0_save_24 : decode mX0_save.2.1 24 = .ok (.iastore, 1) := by decide +kernel
theorem dX0_save_25 : decode mX0_save.2.1 25 = .ok (.iconst 0, 1) := by decide +kernel
theorem dX0_save_26 : decode mX0_save.2.1 26 = .ok (.istore_n 3, 1) := by decide +kernel
theorem dX0_save_27 : decode mX0_save.2.1 27 = .ok (.iload_n 3, 1) := by decide +kernel
theorem dX0_save_28 : decode mX0_save.2.1 28 = .ok (.bipush 8, 2) := by decide +kernel
theorem dX0_save_30 : decode mX0_save.2.1 30 = .ok (.if_icmp .ge 53, 3) := by decide +kernel
theorem dX0_save_33 : decode mX0_save.2.1 33 = .ok (.aload_n 0, 1) := by decide +kernel
theorem dX0_save_34 : decode mX0_save.2.1 34 = .ok (.getfield 11, 3) := by decide +kernel
theorem dX0_save_37 : decode mX0_save.2.1 37 = .ok (.iload_n 1, 1) := by decide +kernel
theorem dX0_save_38 : decode mX0_save.2.1 38 = .ok (.bipush 8, 2) := by decide +kernel
theorem dX0_save_40 : decode mX0_save.2.1 40 = .ok (.imul, 1) := by decide +kernel
theorem dX0_save_41 : decode mX0_save.2.1 41 = .ok (.iload_n 3, 1) := by decide +kernel
theorem dX0_save_42 : decode mX0_save.2.1 42 = .ok (.iadd, 1) := by decide +kernel
theorem dX0_save_43 : decode mX0_save.2.1 43 = .ok (.aload_n 0, 1) := by decide +kernel
theorem dX0_save_44 : decode mX0_save.2.1 44 = .ok (.getfield 37, 3) := by decide +kernel
theorem dX0_save_47 : decode mX0_save.2.1 47 = .ok (.iload_n 3, 1) := by decide +kernel
theorem dX0_save_48 : decode mX0_save.2.1 48 = .ok (.iload_n 2, 1) := by decide +kernel
theorem dX0_save_49 : decode mX0_save.2.1 49 = .ok (.invokevirtual 49, 3) := by decide +kernel
theorem dX0_save_52 : decode mX0_save.2.1 52 = .ok (.iastore, 1) := by decide +kernel
theorem dX0_save_53 : decode mX0_save.2.1 53 = .ok (.aload_n 0, 1) := by decide +kernel
theorem dX0_save_54 : decode mX0_save.2.1 54 = .ok (.getfield 37, 3) := by decide +kernel
theorem dX0_save_57 : decode mX0_save.2.1 57 = .ok (.iload_n 3, 1) := by decide +kernel
theorem dX0_save_58 : decode mX0_save.2.1 58 = .ok (.iload_n 2, 1) := by decide +kernel
theorem dX0_save_59 : decode mX0_save.2.1 59 = .ok (.invokevirtual 104, 3) := by decide +kernel
theorem dX0_save_62 : decode mX0_save.2.1 62 = .ok (.ifCond .eq 15, 3) := by decide +kernel
theorem dX0_save_65 : decode mX0_save.2.1 65 = .ok (.aload_n 0, 1) := by decide +kernel
theorem dX0_save_66 : decode mX0_save.2.1 66 = .ok (.getfield 15, 3) := by decide +kernel
theorem dX0_save_69 : decode mX0_save.2.1 69 = .ok (.iload_n 1, 1) := by decide +kernel
theorem dX0_save_70 : decode mX0_save.2.1 70 = .ok (.dup2, 1) := by decide +kernel
theorem dX0_save_71 : decode mX0_save.2.1 71 = .ok (.iaload, 1) := by decide +kernel
theorem dX0_save_72 : decode mX0_save.2.1 72 = .ok (.iconst 1, 1) := by decide +kernel
theorem dX0_save_73 : decode mX0_save.2.1 73 = .ok (.iload_n 3, 1) := by decide +kernel
theorem dX0_save_74 : decode mX0_save.2.1 74 = .ok (.ishl, 1) := by decide +kernel
theorem dX0_save_75 : decode mX0_save.2.1 75 = .ok (.ior, 1) := by decide +kernel
theorem dX0_save_76 : decode mX0_save.2.1 76 = .ok (.iastore, 1) := by decide +kernel
theorem dX0_save_77 : decode mX0_save.2.1 77 = .ok (.iinc 3 1, 3) := by decide +kernel
theorem dX0_save_80 : decode mX0_save.2.1 80 = .ok (.goto (-53), 3) := by decide +kernel
theorem dX0_save_83 : decode mX0_save.2.1 83 = .ok (.return_, 1) := by decide +kernel
theorem dX0_restore_0 : decode mX0_restore.2.1 0 = .ok (.iload_n 1, 1) := by decide +kernel
theorem dX0_restore_1 : decode mX0_restore.2.1 1 = .ok (.ifCond .lt 9, 3) := by decide +kernel
theorem dX0_restore_4 : decode mX0_restore.2.1 4 = .ok (.iload_n 1, 1) := by decide +kernel
theorem dX0_restore_5 : decode mX0_restore.2.1 5 = .ok (.bipush 21, 2) := by decide +kernel
theorem dX0_restore_7 : decode mX0_restore.2.1 7 = .ok (.if_icmp .lt 4, 3) := by decide +kernel
theorem dX0_restore_10 : decode mX0_restore.2.1 10 = .ok (.return_, 1) := by decide +kernel
theorem dX0_restore_11 : decode mX0_restore.2.1 11 = .ok (.iconst 0, 1) := by decide +kernel
theorem dX0_restore_12 : decode mX0_restore.2.1 12 = .ok (.istore_n 2, 1) := by decide +kernel
theorem dX0_restore_13 : decode mX0_restore.2.1 13 = .ok (.iload_n 2, 1) := by decide +kernel
theorem dX0_restore_14 : decode mX0_restore.2.1 14 = .ok (.bipush 8, 2) := by decide +kernel
theorem dX0_restore_16 : decode mX0_restore.2.1 16 = .ok (.if_icmp .ge 54, 3) := by decide +kernel
theorem dX0_restore_19 : decode mX0_restore.2.1 19 = .ok (.aload_n 0, 1) := by decide +kernel
theorem dX0_restore_20 : decode mX0_restore.2.1 20 = .ok (.getfield 15, 3) := by decide +kernel
theorem dX0_restore_23 : decode mX0_restore.2.1 23 = .ok (.iload_n 1, 1) := by decide +kernel
theorem dX0_restore_24 : decode mX0_restore.2.1 24 = .ok (.iaload, 1) := by decide +kernel
theorem dX0_restore_25 : decode mX0_restore.2.1 25 = .ok (.iload_n 2, 1) := by decide +kernel
theorem dX0_restore_26 : decode mX0_restore.2.1 26 = .ok (.ishr, 1) := by decide +kernel
theorem dX0_restore_27 : decode mX0_restore.2.1 27 = .ok (.iconst 1, 1) := by decide +kernel
theorem dX0_restore_28 : decode mX0_restore.2.1 28 = .ok (.iand, 1) := by decide +kernel
theorem dX0_restore_29 : decode mX0_restore.2.1 29 = .ok (.ifCond .eq 7, 3) := by decide +kernel
theorem dX0_restore_32 : decode mX0_restore.2.1 32 = .ok (.iconst 1, 1) := by decide +kernel
theorem dX0_restore_33 : decode mX0_restore.2.1 33 = .ok (.goto 4, 3) := by decide +kernel
theorem dX0_restore_36 : decode mX0_restore.2.1 36 = .ok (.iconst 0, 1) := by decide +kernel
theorem dX0_restore_37 : decode mX0_restore.2.1 37 = .ok (.istore_n 3, 1) := by decide +kernel
theorem dX0_restore_38 : decode mX0_restore.2.1 38 = .ok (.aload_n 0, 1) := by decide +kernel
theorem dX0_restore_39 : decode mX0_restore.2.1 39 = .ok (.getfield 37, 3) := by decide +kernel
theorem dX0_restore_42 : decode mX0_restore.2.1 42 = .ok (.iload_n 2, 1) := by decide +kernel
theorem dX0_restore_43 : decode mX0_restore.2.1 43 = .ok (.aload_n 0, 1) := by decide +kernel
theorem dX0_restore_44 : decode mX0_restore.2.1 44 = .ok (.getfield 18, 3) := by decide +kernel
theorem dX0_restore_47 : decode mX0_restore.2.1 47 = .ok (.iload_n 1, 1) := by decide +kernel
theorem dX0_restore_48 : decode mX0_restore.2.1 48 = .ok (.iaload, 1) := by decide +kernel
theorem dX0_restore_49 : decode mX0_restore.2.1 49 = .ok (.aload_n 0, 1) := by decide +kernel
theorem dX0_restore_50 : decode mX0_restore.2.1 50 = .ok (.getfield 11, 3) := by decide +kernel
theorem dX0_restore_53 : decode mX0_restore.2.1 53 = .ok (.iload_n 1, 1) := by decide +kernel
theorem dX0_restore_54 : decode mX0_restore.2.1 54 = .ok (.bipush 8, 2) := by decide +kernel
theorem dX0_restore_56 : decode mX0_restore.2.1 56 = .ok (.imul, 1) := by decide +kernel
theorem dX0_restore_57 : decode mX0_restore.2.1 57 = .ok (.iload_n 2, 1) := by decide +kernel
theorem dX0_restore_58 : decode mX0_restore.2.1 58 = .ok (.iadd, 1) := by decide +kernel
theorem dX0_restore_59 : decode mX0_restore.2.1 59 = .ok (.iaload, 1) := by decide +kernel
theorem dX0_restore_60 : decode mX0_restore.2.1 60 = .ok (.iload_n 3, 1) := by decide +kernel
theorem dX0_restore_61 : decode mX0_restore.2.1 61 = .ok (.invokevirtual 114, 3) := by decide +kernel
theorem dX0_restore_64 : decode mX0_restore.2.1 64 = .ok (.iinc 2 1, 3) := by decide +kernel
theorem dX0_restore_67 : decode mX0_restore.2.1 67 = .ok (.goto (-54), 3) := by decide +kernel
theorem dX0_restore_70 : decode mX0_restore.2.1 70 = .ok (.return_, 1) := by decide +kernel
theorem dX3_refresh_0 : decode mX3_refresh.2.1 0 = .ok (.aload_n 0, 1) := by decide +kernel
theorem dX3_refresh_1 : decode mX3_refresh.2.1 1 = .ok (.getfield 21, 3) := by decide +kernel
theorem dX3_refresh_4 : decode mX3_refresh.2.1 4 = .ok (.aload_n 0, 1) := by decide +kernel
theorem dX3_refresh_5 : decode mX3_refresh.2.1 5 = .ok (.getfield 25, 3) := by decide +kernel
theorem dX3_refresh_8 : decode mX3_refresh.2.1 8 = .ok (.getfield 33, 3) := by decide +kernel
theorem dX3_refresh_11 : decode mX3_refresh.2.1 11 = .ok (.if_icmp .ne 4, 3) := by decide +kernel
theorem dX3_refresh_14 : decode mX3_refresh.2.1 14 = .ok (.return_, 1) := by decide +kernel
theorem dX3_refresh_15 : decode mX3_refresh.2.1 15 = .ok (.aload_n 0, 1) := by decide +kernel
theorem dX3_refresh_16 : decode mX3_refresh.2.1 16 = .ok (.aload_n 0, 1) := by decide +kernel
theorem dX3_refresh_17 : decode mX3_refresh.2.1 17 = .ok (.getfield 25, 3) := by decide +kernel
theorem dX3_refresh_20 : decode mX3_refresh.2.1 20 = .ok (.getfield 33, 3) := by decide +kernel
theorem dX3_refresh_23 : decode mX3_refresh.2.1 23 = .ok (.putfield 21, 3) := by decide +kernel
theorem dX3_refresh_26 : decode mX3_refresh.2.1 26 = .ok (.aload_n 0, 1) := by decide +kernel
theorem dX3_refresh_27 : decode mX3_refresh.2.1 27 = .ok (.lconst 0, 1) := by decide +kernel
theorem dX3_refresh_28 : decode mX3_refresh.2.1 28 = .ok (.putfield 36, 3) := by decide +kernel
theorem dX3_refresh_31 : decode mX3_refresh.2.1 31 = .ok (.aload_n 0, 1) := by decide +kernel
theorem dX3_refresh_32 : decode mX3_refresh.2.1 32 = .ok (.iconst 0, 1) := by decide +kernel
theorem dX3_refresh_33 : decode mX3_refresh.2.1 33 = .ok (.putfield 40, 3) := by decide +kernel
theorem dX3_refresh_36 : decode mX3_refresh.2.1 36 = .ok (.iconst 0, 1) := by decide +kernel
theorem dX3_refresh_37 : decode mX3_refresh.2.1 37 = .ok (.istore_n 1, 1) := by decide +kernel
theorem dX3_refresh_38 : decode mX3_refresh.2.1 38 = .ok (.iload_n 1, 1) := by decide +kernel
theorem dX3_refresh_39 : decode mX3_refresh.2.1 39 = .ok (.aload_n 0, 1) := by decide +kernel
theorem dX3_refresh_40 : decode mX3_refresh.2.1 40 = .ok (.getfield 25, 3) := by decide +kernel
theorem dX3_refresh_43 : decode mX3_refresh.2.1 43 = .ok (.getfield 43, 3) := by decide +kernel
theorem dX3_refresh_46 : decode mX3_refresh.2.1 46 = .ok (.if_icmp .ge 53, 3) := by decide +kernel
theorem dX3_refresh_49 : decode mX3_refresh.2.1 49 = .ok (.iconst 0, 1) := by decide +kernel
theorem dX3_refresh_50 : decode mX3_refresh.2.1 50 = .ok (.istore_n 2, 1) := by decide +kernel
theorem dX3_refresh_51 : decode mX3_refresh.2.1 51 = .ok (.iload_n 2, 1) := by decide +kernel
theorem dX3_refresh_52 : decode mX3_refresh.2.1 52 = .ok (.bipush 6, 2) := by decide +kernel
theorem dX3_refresh_54 : decode mX3_refresh.2.1 54 = .ok (.if_icmp .ge 39, 3) := by decide +kernel
theorem dX3_refresh_57 : decode mX3_refresh.2.1 57 = .ok (.aload_n 0, 1) := by decide +kernel
theorem dX3_refresh_58 : decode mX3_refresh.2.1 58 = .ok (.getfield 29, 3) := by decide +kernel
theorem dX3_refresh_61 : decode mX3_refresh.2.1 61 = .ok (.iload_n 1, 1) := by decide +kernel
theorem dX3_refresh_62 : decode mX3_refresh.2.1 62 = .ok (.iload_n 2, 1) := by decide +kernel
theorem dX3_refresh_63 : decode mX3_refresh.2.1 63 = .ok (.invokevirtual 46, 3) := by decide +kernel
theorem dX3_refresh_66 : decode mX3_refresh.2.1 66 = .ok (.aload_n 0, 1) := by decide +kernel
theorem dX3_refresh_67 : decode mX3_refresh.2.1 67 = .ok (.iload_n 1, 1) := by decide +kernel
theorem dX3_refresh_68 : decode mX3_refresh.2.1 68 = .ok (.iload_n 2, 1) := by decide +kernel
theorem dX3_refresh_69 : decode mX3_refresh.2.1 69 = .ok (.invokevirtual 52, 3) := by decide +kernel
theorem dX3_refresh_72 : decode mX3_refresh.2.1 72 = .ok (.aload_n 0, 1) := by decide +kernel
theorem dX3_refresh_73 : decode mX3_refresh.2.1 73 = .ok (.getfield 25, 3) := by decide +kernel
theorem dX3_refresh_76 : decode mX3_refresh.2.1 76 = .ok (.iload_n 1, 1) := by decide +kernel
theorem dX3_refresh_77 : decode mX3_refresh.2.1 77 = .ok (.invokevirtual 55, 3) := by decide +kernel
theorem dX3_refresh_80 : decode mX3_refresh.2.1 80 = .ok (.ifCond .ne 7, 3) := by decide +kernel
theorem dX3_refresh_83 : decode mX3_refresh.2.1 83 = .ok (.aload_n 0, 1) := by decide +kernel
theorem dX3_refresh_84 : decode mX3_refresh.2.1 84 = .ok (.invokevirtual 59, 3) := by decide +kernel
theorem dX3_refresh_87 : decode mX3_refresh.2.1 87 = .ok (.iinc 2 1, 3) := by decide +kernel
theorem dX3_refresh_90 : decode mX3_refresh.2.1 90 = .ok (.goto (-39), 3) := by decide +kernel
theorem dX3_refresh_93 : decode mX3_refresh.2.1 93 = .ok (.iinc 1 1, 3) := by decide +kernel
theorem dX3_refresh_96 : decode mX3_refresh.2.1 96 = .ok (.goto (-58), 3) := by decide +kernel
theorem dX3_refresh_99 : decode mX3_refresh.2.1 99 = .ok (.return_, 1) := by decide +kernel
theorem dX3_store_0 : decode mX3_store.2.1 0 = .ok (.iload_n 1, 1) := by decide +kernel
theorem dX3_store_1 : decode mX3_store.2.1 1 = .ok (.iload_n 2, 1) := by decide +kernel
theorem dX3_store_2 : decode mX3_store.2.1 2 = .ok (.invokestatic 62, 3) := by decide +kernel
theorem dX3_store_5 : decode mX3_store.2.1 5 = .ok (.istore_n 3, 1) := by decide +kernel
theorem dX3_store_6 : decode mX3_store.2.1 6 = .ok (.iload_n 3, 1) := by decide +kernel
theorem dX3_store_7 : decode mX3_store.2.1 7 = .ok (.iconst (-1), 1) := by decide +kernel
theorem dX3_store_8 : decode mX3_store.2.1 8 = .ok (.if_icmp .ne 4, 3) := by decide +kernel
theorem dX3_store_11 : decode mX3_store.2.1 11 = .ok (.return_, 1) := by decide +kernel
theorem dX3_store_12 : decode mX3_store.2.1 12 = .ok (.aload_n 0, 1) := by decide +kernel
theorem dX3_store_13 : decode mX3_store.2.1 13 = .ok (.getfield 15, 3) := by decide +kernel
theorem dX3_store_16 : decode mX3_store.2.1 16 = .ok (.iload_n 3, 1) := by decide +kernel
theorem dX3_store_17 : decode mX3_store.2.1 17 = .ok (.aload_n 0, 1) := by decide +kernel
theorem dX3_store_18 : decode mX3_store.2.1 18 = .ok (.getfield 29, 3) := by decide +kernel
theorem dX3_store_21 : decode mX3_store.2.1 21 = .ok (.getfield 66, 3) := by decide +kernel
theorem dX3_store_24 : decode mX3_store.2.1 24 = .ok (.iastore, 1) := by decide +kernel
theorem dX3_store_25 : decode mX3_store.2.1 25 = .ok (.aload_n 0, 1) := by decide +kernel
theorem dX3_store_26 : decode mX3_store.2.1 26 = .ok (.getfield 18, 3) := by decide +kernel
theorem dX3_store_29 : decode mX3_store.2.1 29 = .ok (.iload_n 3, 1) := by decide +kernel
theorem dX3_store_30 : decode mX3_store.2.1 30 = .ok (.aload_n 0, 1) := by decide +kernel
theorem dX3_store_31 : decode mX3_store.2.1 31 = .ok (.getfield 29, 3) := by decide +kernel
theorem dX3_store_34 : decode mX3_store.2.1 34 = .ok (.getfield 69, 3) := by decide +kernel
theorem dX3_store_37 : decode mX3_store.2.1 37 = .ok (.iastore, 1) := by decide +kernel
theorem dX3_store_38 : decode mX3_store.2.1 38 = .ok (.iconst 0, 1) := by decide +kernel
theorem dX3_store_39 : decode mX3_store.2.1 39 = .ok (.istore 4, 2) := by decide +kernel
theorem dX3_store_41 : decode mX3_store.2.1 41 = .ok (.iload 4, 2) := by decide +kernel
theorem dX3_store_43 : decode mX3_store.2.1 43 = .ok (.aload_n 0, 1) := by decide +kernel
theorem dX3_store_44 : decode mX3_store.2.1 44 = .ok (.getfield 29, 3) := by decide +kernel
theorem dX3_store_47 : decode mX3_store.2.1 47 = .ok (.getfield 66, 3) := by decide +kernel
theorem dX3_store_50 : decode mX3_store.2.1 50 = .ok (.if_icmp .ge 37, 3) := by decide +kernel
theorem dX3_store_53 : decode mX3_store.2.1 53 = .ok (.iload 4, 2) := by decide +kernel
theorem dX3_store_55 : decode mX3_store.2.1 55 = .ok (.bipush 60, 2) := by decide +kernel
theorem dX3_store_57 : decode mX3_store.2.1 57 = .ok (.if_icmp .ge 30, 3) := by decide +kernel
theorem dX3_store_60 : decode mX3_store.2.1 60 = .ok (.aload_n 0, 1) := by decide +kernel
theorem dX3_store_61 : decode mX3_store.2.1 61 = .ok (.getfield 9, 3) := by decide +kernel
theorem dX3_store_64 : decode mX3_store.2.1 64 = .ok (.iload_n 3, 1) := by decide +kernel
theorem dX3_store_65 : decode mX3_store.2.1 65 = .ok (.bipush 60, 2) := by decide +kernel
theorem dX3_store_67 : decode mX3_store.2.1 67 = .ok (.imul, 1) := by decide +kernel
theorem dX3_store_68 : decode mX3_store.2.1 68 = .ok (.iload 4, 2) := by decide +kernel
theorem dX3_store_70 : decode mX3_store.2.1 70 = .ok (.iadd, 1) := by decide +kernel
theorem dX3_store_71 : decode mX3_store.2.1 71 = .ok (.aload_n 0, 1) := by decide +kernel
theorem dX3_store_72 : decode mX3_store.2.1 72 = .ok (.getfield 29, 3) := by decide +kernel
theorem dX3_store_75 : decode mX3_store.2.1 75 = .ok (.iload 4, 2) := by decide +kernel
theorem dX3_store_77 : decode mX3_store.2.1 77 = .ok (.invokevirtual 72, 3) := by decide +kernel
theorem dX3_store_80 : decode mX3_store.2.1 80 = .ok (.iastore, 1) := by decide +kernel
theorem dX3_store_81 : decode mX3_store.2.1 81 = .ok (.iinc 4 1, 3) := by decide +kernel
theorem dX3_store_84 : decode mX3_store.2.1 84 = .ok (.goto (-43), 3) := by decide +kernel
theorem dX3_store_87 : decode mX3_store.2.1 87 = .ok (.return_, 1) := by decide +kernel
theorem dX3_addUp_0 : decode mX3_addUp.2.1 0 = .ok (.iconst 0, 1) := by decide +kernel
theorem dX3_addUp_1 : decode mX3_addUp.2.1 1 = .ok (.istore_n 1, 1) := by decide +kernel
theorem dX3_addUp_2 : decode mX3_addUp.2.1 2 = .ok (.iload_n 1, 1) := by decide +kernel
theorem dX3_addUp_3 : decode mX3_addUp.2.1 3 = .ok (.aload_n 0, 1) := by decide +kernel
theorem dX3_addUp_4 : decode mX3_addUp.2.1 4 = .ok (.getfield 29, 3) := by decide +kernel
theorem dX3_addUp_7 : decode mX3_addUp.2.1 7 = .ok (.getfield 66, 3) := by decide +kernel
theorem dX3_addUp_10 : decode mX3_addUp.2.1 10 = .ok (.if_icmp .ge 58, 3) := by decide +kernel
theorem dX3_addUp_13 : decode mX3_addUp.2.1 13 = .ok (.aload_n 0, 1) := by decide +kernel
theorem dX3_addUp_14 : decode mX3_addUp.2.1 14 = .ok (.getfield 29, 3) := by decide +kernel
theorem dX3_addUp_17 : decode mX3_addUp.2.1 17 = .ok (.iload_n 1, 1) := by decide +kernel
theorem dX3_addUp_18 : decode mX3_addUp.2.1 18 = .ok (.invokevirtual 72, 3) := by decide +kernel
theorem dX3_addUp_21 : decode mX3_addUp.2.1 21 = .ok (.istore_n 2, 1) := by decide +kernel
theorem dX3_addUp_22 : decode mX3_addUp.2.1 22 = .ok (.iload_n 2, 1) := by decide +kernel
theorem dX3_addUp_23 : decode mX3_addUp.2.1 23 = .ok (.iconst 4, 1) := by decide +kernel
theorem dX3_addUp_24 : decode mX3_addUp.2.1 24 = .ok (.irem, 1) := by decide +kernel
theorem dX3_addUp_25 : decode mX3_addUp.2.1 25 = .ok (.ifCond .ne 20, 3) := by decide +kernel
theorem dX3_addUp_28 : decode mX3_addUp.2.1 28 = .ok (.aload_n 0, 1) := by decide +kernel
theorem dX3_addUp_29 : decode mX3_addUp.2.1 29 = .ok (.dup, 1) := by decide +kernel
theorem dX3_addUp_30 : decode mX3_addUp.2.1 30 = .ok (.getfield 36, 3) := by decide +kernel
theorem dX3_addUp_33 : decode mX3_addUp.2.1 33 = .ok (.lconst 1, 1) := by decide +kernel
theorem dX3_addUp_34 : decode mX3_addUp.2.1 34 = .ok (.iload_n 2, 1) := by decide +kernel
theorem dX3_addUp_35 : decode mX3_addUp.2.1 35 = .ok (.iconst 4, 1) := by decide +kernel
theorem dX3_addUp_36 : decode mX3_addUp.2.1 36 = .ok (.idiv, 1) := by decide +kernel
theorem dX3_addUp_37 : decode mX3_addUp.2.1 37 = .ok (.lshl, 1) := by decide +kernel
theorem dX3_addUp_38 : decode mX3_addUp.2.1 38 = .ok (.lor, 1) := by decide +kernel
theorem dX3_addUp_39 : decode mX3_addUp.2.1 39 = .ok (.putfield 36, 3) := by decide +kernel
theorem dX3_addUp_42 : decode mX3_addUp.2.1 42 = .ok (.goto 20, 3) := by decide +kernel
theorem dX3_addUp_45 : decode mX3_addUp.2.1 45 = .ok (.iload_n 2, 1) := by decide +kernel
theorem dX3_addUp_46 : decode mX3_addUp.2.1 46 = .ok (.iconst 4, 1) := by decide +kernel
theorem dX3_addUp_47 : decode mX3_addUp.2.1 47 = .ok (.irem, 1) := by decide +kernel
theorem dX3_addUp_48 : decode mX3_addUp.2.1 48 = .ok (.iconst 3, 1) := by decide +kernel
theorem dX3_addUp_49 : decode mX3_addUp.2.1 49 = .ok (.if_icmp .ne 13, 3) := by decide +kernel
theorem dX3_addUp_52 : decode mX3_addUp.2.1 52 = .ok (.aload_n 0, 1) := by decide +kernel
theorem dX3_addUp_53 : decode mX3_addUp.2.1 53 = .ok (.dup, 1) := by decide +kernel
theorem dX3_addUp_54 : decode mX3_addUp.2.1 54 = .ok (.getfield 40, 3) := by decide +kernel
theorem dX3_addUp_57 : decode mX3_addUp.2.1 57 = .ok (.iconst 1, 1) := by decide +kernel
theorem dX3_addUp_58 : decode mX3_addUp.2.1 58 = .ok (.iadd, 1) := by decide +kernel
theorem dX3_addUp_59 : decode mX3_addUp.2.1 59 = .ok (.putfield 40, 3) := by decide +kernel
theorem dX3_addUp_62 : decode mX3_addUp.2.1 62 = .ok (.iinc 1 1, 3) := by decide +kernel
theorem dX3_addUp_65 : decode mX3_addUp.2.1 65 = .ok (.goto (-63), 3) := by decide +kernel
theorem dX3_addUp_68 : decode mX3_addUp.2.1 68 = .ok (.return_, 1) := by decide +kernel
theorem dX3_rowOf_0 : decode mX3_rowOf.2.1 0 = .ok (.iload_n 0, 1) := by decide +kernel
theorem dX3_rowOf_1 : decode mX3_rowOf.2.1 1 = .ok (.ifCond .lt 28, 3) := by decide +kernel
theorem dX3_rowOf_4 : decode mX3_rowOf.2.1 4 = .ok (.iload_n 0, 1) := by decide +kernel
theorem dX3_rowOf_5 : decode mX3_rowOf.2.1 5 = .ok (.bipush 8, 2) := by decide +kernel
theorem dX3_rowOf_7 : decode mX3_rowOf.2.1 7 = .ok (.if_icmp .ge 22, 3) := by decide +kernel
theorem dX3_rowOf_10 : decode mX3_rowOf.2.1 10 = .ok (.iload_n 1, 1) := by decide +kernel
theorem dX3_rowOf_11 : decode mX3_rowOf.2.1 11 = .ok (.ifCond .lt 18, 3) := by decide +kernel
theorem dX3_rowOf_14 : decode mX3_rowOf.2.1 14 = .ok (.iload_n 1, 1) := by decide +kernel
theorem dX3_rowOf_15 : decode mX3_rowOf.2.1 15 = .ok (.bipush 6, 2) := by decide +kernel
theorem dX3_rowOf_17 : decode mX3_rowOf.2.1 17 = .ok (.if_icmp .ge 12, 3) := by decide +kernel
theorem dX3_rowOf_20 : decode mX3_rowOf.2.1 20 = .ok (.iload_n 0, 1) := by decide +kernel
theorem dX3_rowOf_21 : decode mX3_rowOf.2.1 21 = .ok (.bipush 6, 2) := by decide +kernel
theorem dX3_rowOf_23 : decode mX3_rowOf.2.1 23 = .ok (.imul, 1) := by decide +kernel
theorem dX3_rowOf_24 : decode mX3_rowOf.2.1 24 = .ok (.iload_n 1, 1) := by decide +kernel
theorem dX3_rowOf_25 : decode mX3_rowOf.2.1 25 = .ok (.iadd, 1) := by decide +kernel
theorem dX3_rowOf_26 : decode mX3_rowOf.2.1 26 = .ok (.goto 4, 3) := by decide +kernel
theorem dX3_rowOf_29 : decode mX3_rowOf.2.1 29 = .ok (.iconst (-1), 1) := by decide +kernel
theorem dX3_rowOf_30 : decode mX3_rowOf.2.1 30 = .ok (.ireturn, 1) := by decide +kernel
theorem dX3_sizeOf_0 : decode mX3_sizeOf.2.1 0 = .ok (.iload_n 1, 1) := by decide +kernel
theorem dX3_sizeOf_1 : decode mX3_sizeOf.2.1 1 = .ok (.iload_n 2, 1) := by decide +kernel
theorem dX3_sizeOf_2 : decode mX3_sizeOf.2.1 2 = .ok (.invokestatic 62, 3) := by decide +kernel
theorem dX3_sizeOf_5 : decode mX3_sizeOf.2.1 5 = .ok (.istore_n 3, 1) := by decide +kernel
theorem dX3_sizeOf_6 : decode mX3_sizeOf.2.1 6 = .ok (.iload_n 3, 1) := by decide +kernel
theorem dX3_sizeOf_7 : decode mX3_sizeOf.2.1 7 = .ok (.iconst (-1), 1) := by decide +kernel
theorem dX3_sizeOf_8 : decode mX3_sizeOf.2.1 8 = .ok (.if_icmp .ne 7, 3) := by decide +kernel
theorem dX3_sizeOf_11 : decode mX3_sizeOf.2.1 11 = .ok (.iconst (-1), 1) := by decide +kernel
theorem dX3_sizeOf_12 : decode mX3_sizeOf.2.1 12 = .ok (.goto 9, 3) := by decide +kernel
theorem dX3_sizeOf_15 : decode mX3_sizeOf.2.1 15 = .ok (.aload_n 0, 1) := by decide +kernel
theorem dX3_sizeOf_16 : decode mX3_sizeOf.2.1 16 = .ok (.getfield 15, 3) := by decide +kernel
theorem dX3_sizeOf_19 : decode mX3_sizeOf.2.1 19 = .ok (.iload_n 3, 1) := by decide +kernel
theorem dX3_sizeOf_20 : decode mX3_sizeOf.2.1 20 = .ok (.iaload, 1) := by decide +kernel
theorem dX3_sizeOf_21 : decode mX3_sizeOf.2.1 21 = .ok (.ireturn, 1) := by decide +kernel
theorem dX3_depthOf_0 : decode mX3_depthOf.2.1 0 = .ok (.iload_n 1, 1) := by decide +kernel
theorem dX3_depthOf_1 : decode mX3_depthOf.2.1 1 = .ok (.iload_n 2, 1) := by decide +kernel
theorem dX3_depthOf_2 : decode mX3_depthOf.2.1 2 = .ok (.invokestatic 62, 3) := by decide +kernel
theorem dX3_depthOf_5 : decode mX3_depthOf.2.1 5 = .ok (.istore_n 3, 1) := by decide +kernel
theorem dX3_depthOf_6 : decode mX3_depthOf.2.1 6 = .ok (.iload_n 3, 1) := by decide +kernel
theorem dX3_depthOf_7 : decode mX3_depthOf.2.1 7 = .ok (.iconst (-1), 1) := by decide +kernel
theorem dX3_depthOf_8 : decode mX3_depthOf.2.1 8 = .ok (.if_icmp .ne 7, 3) := by decide +kernel
theorem dX3_depthOf_11 : decode mX3_depthOf.2.1 11 = .ok (.iconst (-1), 1) := by decide +kernel
theorem dX3_depthOf_12 : decode mX3_depthOf.2.1 12 = .ok (.goto 9, 3) := by decide +kernel
theorem dX3_depthOf_15 : decode mX3_depthOf.2.1 15 = .ok (.aload_n 0, 1) := by decide +kernel
theorem dX3_depthOf_16 : decode mX3_depthOf.2.1 16 = .ok (.getfield 18, 3) := by decide +kernel
theorem dX3_depthOf_19 : decode mX3_depthOf.2.1 19 = .ok (.iload_n 3, 1) := by decide +kernel
theorem dX3_depthOf_20 : decode mX3_depthOf.2.1 20 = .ok (.iaload, 1) := by decide +kernel
theorem dX3_depthOf_21 : decode mX3_depthOf.2.1 21 = .ok (.ireturn, 1) := by decide +kernel
theorem dX3_eventAt_0 : decode mX3_eventAt.2.1 0 = .ok (.iload_n 1, 1) := by decide +kernel
theorem dX3_eventAt_1 : decode mX3_eventAt.2.1 1 = .ok (.iload_n 2, 1) := by decide +kernel
theorem dX3_eventAt_2 : decode mX3_eventAt.2.1 2 = .ok (.invokestatic 62, 3) := by decide +kernel
theorem dX3_eventAt_5 : decode mX3_eventAt.2.1 5 = .ok (.istore 4, 2) := by decide +kernel
theorem dX3_eventAt_7 : decode mX3_eventAt.2.1 7 = .ok (.iload 4, 2) := by decide +kernel
theorem dX3_eventAt_9 : decode mX3_eventAt.2.1 9 = .ok (.iconst (-1), 1) := by decide +kernel
theorem dX3_eventAt_10 : decode mX3_eventAt.2.1 10 = .ok (.if_icmp .eq 13, 3) := by decide +kernel
theorem dX3_eventAt_13 : decode mX3_eventAt.2.1 13 = .ok (.iload_n 3, 1) := by decide +kernel
theorem dX3_eventAt_14 : decode mX3_eventAt.2.1 14 = .ok (.ifCond .lt 9, 3) := by decide +kernel
theorem dX3_eventAt_17 : decode mX3_eventAt.2.1 17 = .ok (.iload_n 3, 1) := by decide +kernel
theorem dX3_eventAt_18 : decode mX3_eventAt.2.1 18 = .ok (.bipush 60, 2) := by decide +kernel
theorem dX3_eventAt_20 : decode mX3_eventAt.2.1 20 = .ok (.if_icmp .lt 7, 3) := by decide +kernel
theorem dX3_eventAt_23 : decode mX3_eventAt.2.1 23 = .ok (.iconst (-1), 1) := by decide +kernel
theorem dX3_eventAt_24 : decode mX3_eventAt.2.1 24 = .ok (.goto 15, 3) := by decide +kernel
theorem dX3_eventAt_27 : decode mX3_eventAt.2.1 27 = .ok (.aload_n 0, 1) := by decide +kernel
theorem dX3_eventAt_28 : decode mX3_eventAt.2.1 28 = .ok (.getfield 9, 3) := by decide +kernel
theorem dX3_eventAt_31 : decode mX3_eventAt.2.1 31 = .ok (.iload 4, 2) := by decide +kernel
theorem dX3_eventAt_33 : decode mX3_eventAt.2.1 33 = .ok (.bipush 60, 2) := by decide +kernel
theorem dX3_eventAt_35 : decode mX3_eventAt.2.1 35 = .ok (.imul, 1) := by decide +kernel
theorem dX3_eventAt_36 : decode mX3_eventAt.2.1 36 = .ok (.iload_n 3, 1) := by decide +kernel
theorem dX3_eventAt_37 : decode mX3_eventAt.2.1 37 = .ok (.iadd, 1) := by decide +kernel
theorem dX3_eventAt_38 : decode mX3_eventAt.2.1 38 = .ok (.iaload, 1) := by decide +kernel
theorem dX3_eventAt_39 : decode mX3_eventAt.2.1 39 = .ok (.ireturn, 1) := by decide +kernel
theorem dX3_isReached_0 : decode mX3_isReached.2.1 0 = .ok (.iload_n 1, 1) := by decide +kernel
theorem dX3_isReached_1 : decode mX3_isReached.2.1 1 = .ok (.ifCond .lt 26, 3) := by decide +kernel
theorem dX3_isReached_4 : decode mX3_isReached.2.1 4 = .ok (.iload_n 1, 1) := by decide +kernel
theorem dX3_isReached_5 : decode mX3_isReached.2.1 5 = .ok (.bipush 40, 2) := by decide +kernel
theorem dX3_isReached_7 : decode mX3_isReached.2.1 7 = .ok (.if_icmp .ge 20, 3) := by decide +kernel
theorem dX3_isReached_10 : decode mX3_isReached.2.1 10 = .ok (.aload_n 0, 1) := by decide +kernel
theorem dX3_isReached_11 : decode mX3_isReached.2.1 11 = .ok (.getfield 36, 3) := by decide +kernel
theorem dX3_isReached_14 : decode mX3_isReached.2.1 14 = .ok (.iload_n 1, 1) := by decide +kernel
theorem dX3_isReached_15 : decode mX3_isReached.2.1 15 = .ok (.lshr, 1) := by decide +kernel
theorem dX3_isReached_16 : decode mX3_isReached.2.1 16 = .ok (.lconst 1, 1) := by decide +kernel
theorem dX3_isReached_17 : decode mX3_isReached.2.1 17 = .ok (.land, 1) := by decide +kernel
theorem dX3_isReached_18 : decode mX3_isReached.2.1 18 = .ok (.lconst 0, 1) := by decide +kernel
theorem dX3_isReached_19 : decode mX3_isReached.2.1 19 = .ok (.lcmp, 1) := by decide +kernel
theorem dX3_isReached_20 : decode mX3_isReached.2.1 20 = .ok (.ifCond .eq 7, 3) := by decide +kernel
theorem dX3_isReached_23 : decode mX3_isReached.2.1 23 = .ok (.iconst 1, 1) := by decide +kernel
theorem dX3_isReached_24 : decode mX3_isReached.2.1 24 = .ok (.goto 4, 3) := by decide +kernel
theorem dX3_isReached_27 : decode mX3_isReached.2.1 27 = .ok (.iconst 0, 1) := by decide +kernel
theorem dX3_isReached_28 : decode mX3_isReached.2.1 28 = .ok (.ireturn, 1) := by decide +kernel
theorem dX3_reachedCount_0 : decode mX3_reachedCount.2.1 0 = .ok (.aload_n 0, 1) := by decide +kernel
theorem dX3_reachedCount_1 : decode mX3_reachedCount.2.1 1 = .ok (.getfield 36, 3) := by decide +kernel
theorem dX3_reachedCount_4 : decode mX3_reachedCount.2.1 4 = .ok (.invokestatic 76, 3) := by decide +kernel
theorem dX3_reachedCount_7 : decode mX3_reachedCount.2.1 7 = .ok (.ireturn, 1) := by decide +kernel
theorem dX3_isAsTraced_0 : decode mX3_isAsTraced.2.1 0 = .ok (.aload_n 0, 1) := by decide +kernel
theorem dX3_isAsTraced_1 : decode mX3_isAsTraced.2.1 1 = .ok (.getfield 29, 3) := by decide +kernel
theorem dX3_isAsTraced_4 : decode mX3_isAsTraced.2.1 4 = .ok (.getfield 66, 3) := by decide +kernel
theorem dX3_isAsTraced_7 : decode mX3_isAsTraced.2.1 7 = .ok (.aload_n 0, 1) := by decide +kernel
theorem dX3_isAsTraced_8 : decode mX3_isAsTraced.2.1 8 = .ok (.iload_n 1, 1) := by decide +kernel
theorem dX3_isAsTraced_9 : decode mX3_isAsTraced.2.1 9 = .ok (.iload_n 2, 1) := by decide +kernel
theorem dX3_isAsTraced_10 : decode mX3_isAsTraced.2.1 10 = .ok (.invokevirtual 82, 3) := by decide +kernel
theorem dX3_isAsTraced_13 : decode mX3_isAsTraced.2.1 13 = .ok (.if_icmp .eq 5, 3) := by decide +kernel
theorem dX3_isAsTraced_16 : decode mX3_isAsTraced.2.1 16 = .ok (.iconst 0, 1) := by decide +kernel
theorem dX3_isAsTraced_17 : decode mX3_isAsTraced.2.1 17 = .ok (.ireturn, 1) := by decide +kernel
theorem dX3_isAsTraced_18 : decode mX3_isAsTraced.2.1 18 = .ok (.iconst 0, 1) := by decide +kernel
theorem dX3_isAsTraced_19 : decode mX3_isAsTraced.2.1 19 = .ok (.istore_n 3, 1) := by decide +kernel
theorem dX3_isAsTraced_20 : decode mX3_isAsTraced.2.1 20 = .ok (.iload_n 3, 1) := by decide +kernel
theorem dX3_isAsTraced_21 : decode mX3_isAsTraced.2.1 21 = .ok (.aload_n 0, 1) := by decide +kernel
theorem dX3_isAsTraced_22 : decode mX3_isAsTraced.2.1 22 = .ok (.getfield 29, 3) := by decide +kernel
theorem dX3_isAsTraced_25 : decode mX3_isAsTraced.2.1 25 = .ok (.getfield 66, 3) := by decide +kernel
theorem dX3_isAsTraced_28 : decode mX3_isAsTraced.2.1 28 = .ok (.if_icmp .ge 29, 3) := by decide +kernel
theorem dX3_isAsTraced_31 : decode mX3_isAsTraced.2.1 31 = .ok (.aload_n 0, 1) := by decide +kernel
theorem dX3_isAsTraced_32 : decode mX3_isAsTraced.2.1 32 = .ok (.getfield 29, 3) := by decide +kernel
theorem dX3_isAsTraced_35 : decode mX3_isAsTraced.2.1 35 = .ok (.iload_n 3, 1) := by decide +kernel
theorem dX3_isAsTraced_36 : decode mX3_isAsTraced.2.1 36 = .ok (.invokevirtual 72, 3) := by decide +kernel
theorem dX3_isAsTraced_39 : decode mX3_isAsTraced.2.1 39 = .ok (.aload_n 0, 1) := by decide +kernel
theorem dX3_isAsTraced_40 : decode mX3_isAsTraced.2.1 40 = .ok (.iload_n 1, 1) := by decide +kernel
theorem dX3_isAsTraced_41 : decode mX3_isAsTraced.2.1 41 = .ok (.iload_n 2, 1) := by decide +kernel
theorem dX3_isAsTraced_42 : decode mX3_isAsTraced.2.1 42 = .ok (.iload_n 3, 1) := by decide +kernel
theorem dX3_isAsTraced_43 : decode mX3_isAsTraced.2.1 43 = .ok (.invokevirtual 85, 3) := by decide +kernel
theorem dX3_isAsTraced_46 : decode mX3_isAsTraced.2.1 46 = .ok (.if_icmp .eq 5, 3) := by decide +kernel
theorem dX3_isAsTraced_49 : decode mX3_isAsTraced.2.1 49 = .ok (.iconst 0, 1) := by decide +kernel
theorem dX3_isAsTraced_50 : decode mX3_isAsTraced.2.1 50 = .ok (.ireturn, 1) := by decide +kernel
theorem dX3_isAsTraced_51 : decode mX3_isAsTraced.2.1 51 = .ok (.iinc 3 1, 3) := by decide +kernel
theorem dX3_isAsTraced_54 : decode mX3_isAsTraced.2.1 54 = .ok (.goto (-34), 3) := by decide +kernel
theorem dX3_isAsTraced_57 : decode mX3_isAsTraced.2.1 57 = .ok (.iconst 1, 1) := by decide +kernel
theorem dX3_isAsTraced_58 : decode mX3_isAsTraced.2.1 58 = .ok (.ireturn, 1) := by decide +kernel
theorem dX4_run_0 : decode mX4_run.2.1 0 = .ok (.aload_n 0, 1) := by decide +kernel
theorem dX4_run_1 : decode mX4_run.2.1 1 = .ok (.iconst 0, 1) := by decide +kernel
theorem dX4_run_2 : decode mX4_run.2.1 2 = .ok (.putfield 28, 3) := by decide +kernel
theorem dX4_run_5 : decode mX4_run.2.1 5 = .ok (.aload_n 0, 1) := by decide +kernel
theorem dX4_run_6 : decode mX4_run.2.1 6 = .ok (.lconst 0, 1) := by decide +kernel
theorem dX4_run_7 : decode mX4_run.2.1 7 = .ok (.putfield 32, 3) := by decide +kernel
theorem dX4_run_10 : decode mX4_run.2.1 10 = .ok (.aload_n 0, 1) := by decide +kernel
theorem dX4_run_11 : decode mX4_run.2.1 11 = .ok (.iconst (-1), 1) := by decide +kernel
theorem dX4_run_12 : decode mX4_run.2.1 12 = .ok (.putfield 36, 3) := by decide +kernel
theorem dX4_run_15 : decode mX4_run.2.1 15 = .ok (.aload_n 0, 1) := by decide +kernel
theorem dX4_run_16 : decode mX4_run.2.1 16 = .ok (.iconst (-1), 1) := by decide +kernel
theorem dX4_run_17 : decode mX4_run.2.1 17 = .ok (.putfield 39, 3) := by decide +kernel
theorem dX4_run_20 : decode mX4_run.2.1 20 = .ok (.aload_n 0, 1) := by decide +kernel
theorem dX4_run_21 : decode mX4_run.2.1 21 = .ok (.getfield 24, 3) := by decide +kernel
theorem dX4_run_24 : decode mX4_run.2.1 24 = .ok (.iload_n 1, 1) := by decide +kernel
theorem dX4_run_25 : decode mX4_run.2.1 25 = .ok (.iload_n 2, 1) := by decide +kernel
theorem dX4_run_26 : decode mX4_run.2.1 26 = .ok (.invokevirtual 42, 3) := by decide +kernel
theorem dX4_run_29 : decode mX4_run.2.1 29 = .ok (.istore_n 3, 1) := by decide +kernel
theorem dX4_run_30 : decode mX4_run.2.1 30 = .ok (.iload_n 3, 1) := by decide +kernel
theorem dX4_run_31 : decode mX4_run.2.1 31 = .ok (.iconst (-1), 1) := by decide +kernel
theorem dX4_run_32 : decode mX4_run.2.1 32 = .ok (.if_icmp .ne 4, 3) := by decide +kernel
theorem dX4_run_35 : decode mX4_run.2.1 35 = .ok (.return_, 1) := by decide +kernel
theorem dX4_run_36 : decode mX4_run.2.1 36 = .ok (.aload_n 0, 1) := by decide +kernel
theorem dX4_run_37 : decode mX4_run.2.1 37 = .ok (.iconst 0, 1) := by decide +kernel
theorem dX4_run_38 : decode mX4_run.2.1 38 = .ok (.putfield 36, 3) := by decide +kernel
theorem dX4_run_41 : decode mX4_run.2.1 41 = .ok (.aload_n 0, 1) := by decide +kernel
theorem dX4_run_42 : decode mX4_run.2.1 42 = .ok (.iload_n 3, 1) := by decide +kernel
theorem dX4_run_43 : decode mX4_run.2.1 43 = .ok (.iload_n 2, 1) := by decide +kernel
theorem dX4_run_44 : decode mX4_run.2.1 44 = .ok (.invokevirtual 48, 3) := by decide +kernel
theorem dX4_run_47 : decode mX4_run.2.1 47 = .ok (.iconst 0, 1) := by decide +kernel
theorem dX4_run_48 : decode mX4_run.2.1 48 = .ok (.istore 4, 2) := by decide +kernel
theorem dX4_run_50 : decode mX4_run.2.1 50 = .ok (.iload 4, 2) := by decide +kernel
theorem dX4_run_52 : decode mX4_run.2.1 52 = .ok (.bipush 120, 2) := by decide +kernel
theorem dX4_run_54 : decode mX4_run.2.1 54 = .ok (.if_icmp .ge 83, 3) := by decide +kernel
theorem dX4_run_57 : decode mX4_run.2.1 57 = .ok (.aload_n 0, 1) := by decide +kernel
theorem dX4_run_58 : decode mX4_run.2.1 58 = .ok (.getfield 28, 3) := by decide +kernel
theorem dX4_run_61 : decode mX4_run.2.1 61 = .ok (.ifCond .le 76, 3) := by decide +kernel
theorem dX4_run_64 : decode mX4_run.2.1 64 = .ok (.aload_n 0, 1) := by decide +kernel
theorem dX4_run_65 : decode mX4_run.2.1 65 = .ok (.getfield 36, 3) := by decide +kernel
theorem dX4_run_68 : decode mX4_run.2.1 68 = .ok (.bipush 60, 2) := by decide +kernel
theorem dX4_run_70 : decode mX4_run.2.1 70 = .ok (.if_icmp .ge 67, 3) := by decide +kernel
theorem dX4_run_73 : decode mX4_run.2.1 73 = .ok (.aload_n 0, 1) := by decide +kernel
theorem dX4_run_74 : decode mX4_run.2.1 74 = .ok (.invokevirtual 52, 3) := by decide +kernel
theorem dX4_run_77 : decode mX4_run.2.1 77 = .ok (.istore 5, 2) := by decide +kernel
theorem dX4_run_79 : decode mX4_run.2.1 79 = .ok (.iload 5, 2) := by decide +kernel
theorem dX4_run_81 : decode mX4_run.2.1 81 = .ok (.iconst (-1), 1) := by decide +kernel
theorem dX4_run_82 : decode mX4_run.2.1 82 = .ok (.if_icmp .ne 10, 3) := by decide +kernel
theorem dX4_run_85 : decode mX4_run.2.1 85 = .ok (.aload_n 0, 1) := by decide +kernel
theorem dX4_run_86 : decode mX4_run.2.1 86 = .ok (.invokevirtual 56, 3) := by decide +kernel
theorem dX4_run_89 : decode mX4_run.2.1 89 = .ok (.goto 42, 3) := by decide +kernel
theorem dX4_run_92 : decode mX4_run.2.1 92 = .ok (.iload 5, 2) := by decide +kernel
theorem dX4_run_94 : decode mX4_run.2.1 94 = .ok (.bipush 6, 2) := by decide +kernel
theorem dX4_run_96 : decode mX4_run.2.1 96 = .ok (.if_icmp .lt 19, 3) := by decide +kernel
theorem dX4_run_99 : decode mX4_run.2.1 99 = .ok (.iload 5, 2) := by decide +kernel
theorem dX4_run_101 : decode mX4_run.2.1 101 = .ok (.bipush 12, 2) := by decide +kernel
theorem dX4_run_103 : decode mX4_run.2.1 103 = .ok (.if_icmp .ge 12, 3) := by decide +kernel
theorem dX4_run_106 : decode mX4_run.2.1 106 = .ok (.aload_n 0, 1) := by decide +kernel
theorem dX4_run_107 : decode mX4_run.2.1 107 = .ok (.iload 5, 2) := by decide +kernel
theorem dX4_run_109 : decode mX4_run.2.1 109 = .ok (.invokevirtual 59, 3) := by decide +kernel
theorem dX4_run_112 : decode mX4_run.2.1 112 = .ok (.goto 19, 3) := by decide +kernel
theorem dX4_run_115 : decode mX4_run.2.1 115 = .ok (.aload_n 0, 1) := by decide +kernel
theorem dX4_run_116 : decode mX4_run.2.1 116 = .ok (.aload_n 0, 1) := by decide +kernel
theorem dX4_run_117 : decode mX4_run.2.1 117 = .ok (.iload_n 1, 1) := by decide +kernel
theorem dX4_run_118 : decode mX4_run.2.1 118 = .ok (.iload 5, 2) := by decide +kernel
theorem dX4_run_120 : decode mX4_run.2.1 120 = .ok (.invokevirtual 63, 3) := by decide +kernel
theorem dX4_run_123 : decode mX4_run.2.1 123 = .ok (.iload 5, 2) := by decide +kernel
theorem dX4_run_125 : decode mX4_run.2.1 125 = .ok (.bipush 20, 2) := by decide +kernel
theorem dX4_run_127 : decode mX4_run.2.1 127 = .ok (.irem, 1) := by decide +kernel
theorem dX4_run_128 : decode mX4_run.2.1 128 = .ok (.invokevirtual 48, 3) := by decide +kernel
theorem dX4_run_131 : decode mX4_run.2.1 131 = .ok (.iinc 4 1, 3) := by decide +kernel
theorem dX4_run_134 : decode mX4_run.2.1 134 = .ok (.goto (-84), 3) := by decide +kernel
theorem dX4_run_137 : decode mX4_run.2.1 137 = .ok (.return_, 1) := by decide +kernel
theorem dX4_nextItem_0 : decode mX4_nextItem.2.1 0 = .ok (.aload_n 0, 1) := by decide +kernel
theorem dX4_nextItem_1 : decode mX4_nextItem.2.1 1 = .ok (.getfield 28, 3) := by decide +kernel
theorem dX4_nextItem_4 : decode mX4_nextItem.2.1 4 = .ok (.iconst 1, 1) := by decide +kernel
theorem dX4_nextItem_5 : decode mX4_nextItem.2.1 5 = .ok (.isub, 1) := by decide +kernel
theorem dX4_nextItem_6 : decode mX4_nextItem.2.1 6 = .ok (.istore_n 1, 1) := by decide +kernel
theorem dX4_nextItem_7 : decode mX4_nextItem.2.1 7 = .ok (.iload_n 1, 1) := by decide +kernel
theorem dX4_nextItem_8 : decode mX4_nextItem.2.1 8 = .ok (.ifCond .lt 9, 3) := by decide +kernel
theorem dX4_nextItem_11 : decode mX4_nextItem.2.1 11 = .ok (.iload_n 1, 1) := by decide +kernel
theorem dX4_nextItem_12 : decode mX4_nextItem.2.1 12 = .ok (.bipush 40, 2) := by decide +kernel
theorem dX4_nextItem_14 : decode mX4_nextItem.2.1 14 = .ok (.if_icmp .lt 5, 3) := by decide +kernel
theorem dX4_nextItem_17 : decode mX4_nextItem.2.1 17 = .ok (.iconst (-1), 1) := by decide +kernel
theorem dX4_nextItem_18 : decode mX4_nextItem.2.1 18 = .ok (.ireturn, 1) := by decide +kernel
theorem dX4_nextItem_19 : decode mX4_nextItem.2.1 19 = .ok (.aload_n 0, 1) := by decide +kernel
theorem dX4_nextItem_20 : decode mX4_nextItem.2.1 20 = .ok (.getfield 24, 3) := by decide +kernel
theorem dX4_nextItem_23 : decode mX4_nextItem.2.1 23 = .ok (.aload_n 0, 1) := by decide +kernel
theorem dX4_nextItem_24 : decode mX4_nextItem.2.1 24 = .ok (.getfield 15, 3) := by decide +kernel
theorem dX4_nextItem_27 : decode mX4_nextItem.2.1 27 = .ok (.iload_n 1, 1) := by decide +kernel
theorem dX4_nextItem_28 : decode mX4_nextItem.2.1 28 = .ok (.iaload, 1) := by decide +kernel
theorem dX4_nextItem_29 : decode mX4_nextItem.2.1 29 = .ok (.aload_n 0, 1) := by decide +kernel
theorem dX4_nextItem_30 : decode mX4_nextItem.2.1 30 = .ok (.getfield 21, 3) := by decide +kernel
theorem dX4_nextItem_33 : decode mX4_nextItem.2.1 33 = .ok (.iload_n 1, 1) := by decide +kernel
theorem dX4_nextItem_34 : decode mX4_nextItem.2.1 34 = .ok (.iaload, 1) := by decide +kernel
theorem dX4_nextItem_35 : decode mX4_nextItem.2.1 35 = .ok (.invokevirtual 66, 3) := by decide +kernel
theorem dX4_nextItem_38 : decode mX4_nextItem.2.1 38 = .ok (.istore_n 2, 1) := by decide +kernel
theorem dX4_nextItem_39 : decode mX4_nextItem.2.1 39 = .ok (.aload_n 0, 1) := by decide +kernel
theorem dX4_nextItem_40 : decode mX4_nextItem.2.1 40 = .ok (.getfield 21, 3) := by decide +kernel
theorem dX4_nextItem_43 : decode mX4_nextItem.2.1 43 = .ok (.iload_n 1, 1) := by decide +kernel
theorem dX4_nextItem_44 : decode mX4_nextItem.2.1 44 = .ok (.dup2, 1) := by decide +kernel
theorem dX4_nextItem_45 : decode mX4_nextItem.2.1 45 = .ok (.iaload, 1) := by decide +kernel
theorem dX4_nextItem_46 : decode mX4_nextItem.2.1 46 = .ok (.iconst 1, 1) := by decide +kernel
theorem dX4_nextItem_47 : decode mX4_nextItem.2.1 47 = .ok (.iadd, 1) := by decide +kernel
theorem dX4_nextItem_48 : decode mX4_nextItem.2.1 48 = .ok (.iastore, 1) := by decide +kernel
theorem dX4_nextItem_49 : decode mX4_nextItem.2.1 49 = .ok (.iload_n 2, 1) := by decide +kernel
theorem dX4_nextItem_50 : decode mX4_nextItem.2.1 50 = .ok (.ireturn, 1) := by decide +kernel
theorem dX4_openHome_0 : decode mX4_openHome.2.1 0 = .ok (.aload_n 0, 1) := by decide +kernel
theorem dX4_openHome_1 : decode mX4_openHome.2.1 1 = .ok (.getfield 28, 3) := by decide +kernel
theorem dX4_openHome_4 : decode mX4_openHome.2.1 4 = .ok (.ifCond .le 26, 3) := by decide +kernel
theorem dX4_openHome_7 : decode mX4_openHome.2.1 7 = .ok (.aload_n 0, 1) := by decide +kernel
theorem dX4_openHome_8 : decode mX4_openHome.2.1 8 = .ok (.getfield 28, 3) := by decide +kernel
theorem dX4_openHome_11 : decode mX4_openHome.2.1 11 = .ok (.bipush 40, 2) := by decide +kernel
theorem dX4_openHome_13 : decode mX4_openHome.2.1 13 = .ok (.if_icmp .gt 17, 3) := by decide +kernel
theorem dX4_openHome_16 : decode mX4_openHome.2.1 16 = .ok (.aload_n 0, 1) := by decide +kernel
theorem dX4_openHome_17 : decode mX4_openHome.2.1 17 = .ok (.getfield 18, 3) := by decide +kernel
theorem dX4_openHome_20 : decode mX4_openHome.2.1 20 = .ok (.aload_n 0, 1) := by decide +kernel
theorem dX4_openHome_21 : decode mX4_openHome.2.1 21 = .ok (.getfield 28, 3) := by decide +kernel
theorem dX4_openHome_24 : decode mX4_openHome.2.1 24 = .ok (.iconst 1, 1) := by decide +kernel
theorem dX4_openHome_25 : decode mX4_openHome.2.1 25 = .ok (.isub, 1) := by decide +kernel
theorem dX4_openHome_26 : decode mX4_openHome.2.1 26 = .ok (.iaload, 1) := by decide +kernel
theorem dX4_openHome_27 : decode mX4_openHome.2.1 27 = .ok (.goto 4, 3) := by decide +kernel
theorem dX4_openHome_30 : decode mX4_openHome.2.1 30 = .ok (.iconst (-1), 1) := by decide +kernel
theorem dX4_openHome_31 : decode mX4_openHome.2.1 31 = .ok (.ireturn, 1) := by decide +kernel
theorem dX4_homeFor_0 : decode mX4_homeFor.2.1 0 = .ok (.aload_n 0, 1) := by decide +kernel
theorem dX4_homeFor_1 : decode mX4_homeFor.2.1 1 = .ok (.invokevirtual 69, 3) := by decide +kernel
theorem dX4_homeFor_4 : decode mX4_homeFor.2.1 4 = .ok (.istore_n 3, 1) := by decide +kernel
theorem dX4_homeFor_5 : decode mX4_homeFor.2.1 5 = .ok (.iload_n 2, 1) := by decide +kernel
theorem dX4_homeFor_6 : decode mX4_homeFor.2.1 6 = .ok (.bipush 20, 2) := by decide +kernel
theorem dX4_homeFor_8 : decode mX4_homeFor.2.1 8 = .ok (.if_icmp .lt 23, 3) := by decide +kernel
theorem dX4_homeFor_11 : decode mX4_homeFor.2.1 11 = .ok (.aload_n 0, 1) := by decide +kernel
theorem dX4_homeFor_12 : decode mX4_homeFor.2.1 12 = .ok (.getfield 24, 3) := by decide +kernel
theorem dX4_homeFor_15 : decode mX4_homeFor.2.1 15 = .ok (.aload_n 0, 1) := by decide +kernel
theorem dX4_homeFor_16 : decode mX4_homeFor.2.1 16 = .ok (.getfield 24, 3) := by decide +kernel
theorem dX4_homeFor_19 : decode mX4_homeFor.2.1 19 = .ok (.iload_n 3, 1) := by decide +kernel
theorem dX4_homeFor_20 : decode mX4_homeFor.2.1 20 = .ok (.invokevirtual 72, 3) := by decide +kernel
theorem dX4_homeFor_23 : decode mX4_homeFor.2.1 23 = .ok (.iload_n 2, 1) := by decide +kernel
theorem dX4_homeFor_24 : decode mX4_homeFor.2.1 24 = .ok (.bipush 20, 2) := by decide +kernel
theorem dX4_homeFor_26 : decode mX4_homeFor.2.1 26 = .ok (.isub, 1) := by decide +kernel
theorem dX4_homeFor_27 : decode mX4_homeFor.2.1 27 = .ok (.invokevirtual 42, 3) := by decide +kernel
theorem dX4_homeFor_30 : decode mX4_homeFor.2.1 30 = .ok (.ireturn, 1) := by decide +kernel
theorem dX4_homeFor_31 : decode mX4_homeFor.2.1 31 = .ok (.aload_n 0, 1) := by decide +kernel
theorem dX4_homeFor_32 : decode mX4_homeFor.2.1 32 = .ok (.getfield 24, 3) := by decide +kernel
theorem dX4_homeFor_35 : decode mX4_homeFor.2.1 35 = .ok (.iload_n 3, 1) := by decide +kernel
theorem dX4_homeFor_36 : decode mX4_homeFor.2.1 36 = .ok (.iload_n 2, 1) := by decide +kernel
theorem dX4_homeFor_37 : decode mX4_homeFor.2.1 37 = .ok (.invokevirtual 76, 3) := by decide +kernel
theorem dX4_homeFor_40 : decode mX4_homeFor.2.1 40 = .ok (.ifCond .eq 7, 3) := by decide +kernel
theorem dX4_homeFor_43 : decode mX4_homeFor.2.1 43 = .ok (.iload_n 3, 1) := by decide +kernel
theorem dX4_homeFor_44 : decode mX4_homeFor.2.1 44 = .ok (.goto 12, 3) := by decide +kernel
theorem dX4_homeFor_47 : decode mX4_homeFor.2.1 47 = .ok (.aload_n 0, 1) := by decide +kernel
theorem dX4_homeFor_48 : decode mX4_homeFor.2.1 48 = .ok (.getfield 24, 3) := by decide +kernel
theorem dX4_homeFor_51 : decode mX4_homeFor.2.1 51 = .ok (.iload_n 1, 1) := by decide +kernel
theorem dX4_homeFor_52 : decode mX4_homeFor.2.1 52 = .ok (.iload_n 2, 1) := by decide +kernel
theorem dX4_homeFor_53 : decode mX4_homeFor.2.1 53 = .ok (.invokevirtual 42, 3) := by decide +kernel
theorem dX4_homeFor_56 : decode mX4_homeFor.2.1 56 = .ok (.ireturn, 1) := by decide +kernel
theorem dX4_use_0 : decode mX4_use.2.1 0 = .ok (.aload_n 0, 1) := by decide +kernel
theorem dX4_use_1 : decode mX4_use.2.1 1 = .ok (.getfield 24, 3) := by decide +kernel
theorem dX4_use_4 : decode mX4_use.2.1 4 = .ok (.aload_n 0, 1) := by decide +kernel
theorem dX4_use_5 : decode mX4_use.2.1 5 = .ok (.getfield 24, 3) := by decide +kernel
theorem dX4_use_8 : decode mX4_use.2.1 8 = .ok (.aload_n 0, 1) := by decide +kernel
theorem dX4_use_9 : decode mX4_use.2.1 9 = .ok (.invokevirtual 69, 3) := by decide +kernel
theorem dX4_use_12 : decode mX4_use.2.1 12 = .ok (.iload_n 1, 1) := by decide +kernel
theorem dX4_use_13 : decode mX4_use.2.1 13 = .ok (.invokevirtual 42, 3) := by decide +kernel
theorem dX4_use_16 : decode mX4_use.2.1 16 = .ok (.iload_n 1, 1) := by decide +kernel
theorem dX4_use_17 : decode mX4_use.2.1 17 = .ok (.invokevirtual 80, 3) := by decide +kernel
theorem dX4_use_20 : decode mX4_use.2.1 20 = .ok (.istore_n 2, 1) := by decide +kernel
theorem dX4_use_21 : decode mX4_use.2.1 21 = .ok (.aload_n 0, 1) := by decide +kernel
theorem dX4_use_22 : decode mX4_use.2.1 22 = .ok (.iload_n 2, 1) := by decide +kernel
theorem dX4_use_23 : decode mX4_use.2.1 23 = .ok (.iconst (-1), 1) := by decide +kernel
theorem dX4_use_24 : decode mX4_use.2.1 24 = .ok (.if_icmp .ne 7, 3) := by decide +kernel
theorem dX4_use_27 : decode mX4_use.2.1 27 = .ok (.iconst 3, 1) := by decide +kernel
theorem dX4_use_28 : decode mX4_use.2.1 28 = .ok (.goto 4, 3) := by decide +kernel
theorem dX4_use_31 : decode mX4_use.2.1 31 = .ok (.iconst 2, 1) := by decide +kernel
theorem dX4_use_32 : decode mX4_use.2.1 32 = .ok (.iload_n 2, 1) := by decide +kernel
theorem dX4_use_33 : decode mX4_use.2.1 33 = .ok (.iconst (-1), 1) := by decide +kernel
theorem dX4_use_34 : decode mX4_use.2.1 34 = .ok (.if_icmp .ne 7, 3) := by decide +kernel
theorem dX4_use_37 : decode mX4_use.2.1 37 = .ok (.iload_n 1, 1) := by decide +kernel
theorem dX4_use_38 : decode mX4_use.2.1 38 = .ok (.goto 4, 3) := by decide +kernel
theorem dX4_use_41 : decode mX4_use.2.1 41 = .ok (.iload_n 2, 1) := by decide +kernel
theorem dX4_use_42 : decode mX4_use.2.1 42 = .ok (.invokevirtual 83, 3) := by decide +kernel
theorem dX4_use_45 : decode mX4_use.2.1 45 = .ok (.return_, 1) := by decide +kernel
theorem dX4_meet_0 : decode mX4_meet.2.1 0 = .ok (.aload_n 0, 1) := by decide +kernel
theorem dX4_meet_1 : decode mX4_meet.2.1 1 = .ok (.getfield 24, 3) := by decide +kernel
theorem dX4_meet_4 : decode mX4_meet.2.1 4 = .ok (.iload_n 1, 1) := by decide +kernel
theorem dX4_meet_5 : decode mX4_meet.2.1 5 = .ok (.iload_n 2, 1) := by decide +kernel
theorem dX4_meet_6 : decode mX4_meet.2.1 6 = .ok (.invokevirtual 80, 3) := by decide +kernel
theorem dX4_meet_9 : decode mX4_meet.2.1 9 = .ok (.istore_n 3, 1) := by decide +kernel
theorem dX4_meet_10 : decode mX4_meet.2.1 10 = .ok (.iload_n 3, 1) := by decide +kernel
theorem dX4_meet_11 : decode mX4_meet.2.1 11 = .ok (.iconst (-1), 1) := by decide +kernel
theorem dX4_meet_12 : decode mX4_meet.2.1 12 = .ok (.if_icmp .ne 12, 3) := by decide +kernel
theorem dX4_meet_15 : decode mX4_meet.2.1 15 = .ok (.aload_n 0, 1) := by decide +kernel
theorem dX4_meet_16 : decode mX4_meet.2.1 16 = .ok (.iconst 3, 1) := by decide +kernel
theorem dX4_meet_17 : decode mX4_meet.2.1 17 = .ok (.iload_n 2, 1) := by decide +kernel
theorem dX4_meet_18 : decode mX4_meet.2.1 18 = .ok (.invokevirtual 83, 3) := by decide +kernel
theorem dX4_meet_21 : decode mX4_meet.2.1 21 = .ok (.goto 37, 3) := by decide +kernel
theorem dX4_meet_24 : decode mX4_meet.2.1 24 = .ok (.aload_n 0, 1) := by decide +kernel
theorem dX4_meet_25 : decode mX4_meet.2.1 25 = .ok (.getfield 32, 3) := by decide +kernel
theorem dX4_meet_28 : decode mX4_meet.2.1 28 = .ok (.iload_n 3, 1) := by decide +kernel
theorem dX4_meet_29 : decode mX4_meet.2.1 29 = .ok (.lshr, 1) := by decide +kernel
theorem dX4_meet_30 : decode mX4_meet.2.1 30 = .ok (.lconst 1, 1) := by decide +kernel
theorem dX4_meet_31 : decode mX4_meet.2.1 31 = .ok (.land, 1) := by decide +kernel
theorem dX4_meet_32 : decode mX4_meet.2.1 32 = .ok (.lconst 0, 1) := by decide +kernel
theorem dX4_meet_33 : decode mX4_meet.2.1 33 = .ok (.lcmp, 1) := by decide +kernel
theorem dX4_meet_34 : decode mX4_meet.2.1 34 = .ok (.ifCond .eq 12, 3) := by decide +kernel
theorem dX4_meet_37 : decode mX4_meet.2.1 37 = .ok (.aload_n 0, 1) := by decide +kernel
theorem dX4_meet_38 : decode mX4_meet.2.1 38 = .ok (.iconst 1, 1) := by decide +kernel
theorem dX4_meet_39 : decode mX4_meet.2.1 39 = .ok (.iload_n 3, 1) := by decide +kernel
theorem dX4_meet_40 : decode mX4_meet.2.1 40 = .ok (.invokevirtual 83, 3) := by decide +kernel
theorem dX4_meet_43 : decode mX4_meet.2.1 43 = .ok (.goto 15, 3) := by decide +kernel
theorem dX4_meet_46 : decode mX4_meet.2.1 46 = .ok (.aload_n 0, 1) := by decide +kernel
theorem dX4_meet_47 : decode mX4_meet.2.1 47 = .ok (.iconst 0, 1) := by decide +kernel
theorem dX4_meet_48 : decode mX4_meet.2.1 48 = .ok (.iload_n 3, 1) := by decide +kernel
theorem dX4_meet_49 : decode mX4_meet.2.1 49 = .ok (.invokevirtual 83, 3) := by decide +kernel
theorem dX4_meet_52 : decode mX4_meet.2.1 52 = .ok (.aload_n 0, 1) := by decide +kernel
theorem dX4_meet_53 : decode mX4_meet.2.1 53 = .ok (.iload_n 3, 1) := by decide +kernel
theorem dX4_meet_54 : decode mX4_meet.2.1 54 = .ok (.iload_n 1, 1) := by decide +kernel
theorem dX4_meet_55 : decode mX4_meet.2.1 55 = .ok (.invokevirtual 86, 3) := by decide +kernel
theorem dX4_meet_58 : decode mX4_meet.2.1 58 = .ok (.return_, 1) := by decide +kernel
theorem dX4_enter_0 : decode mX4_enter.2.1 0 = .ok (.aload_n 0, 1) := by decide +kernel
theorem dX4_enter_1 : decode mX4_enter.2.1 1 = .ok (.getfield 28, 3) := by decide +kernel
theorem dX4_enter_4 : decode mX4_enter.2.1 4 = .ok (.ifCond .lt 12, 3) := by decide +kernel
theorem dX4_enter_7 : decode mX4_enter.2.1 7 = .ok (.aload_n 0, 1) := by decide +kernel
theorem dX4_enter_8 : decode mX4_enter.2.1 8 = .ok (.getfield 28, 3) := by decide +kernel
theorem dX4_enter_11 : decode mX4_enter.2.1 11 = .ok (.bipush 40, 2) := by decide +kernel
theorem dX4_enter_13 : decode mX4_enter.2.1 13 = .ok (.if_icmp .lt 4, 3) := by decide +kernel
theorem dX4_enter_16 : decode mX4_enter.2.1 16 = .ok (.return_, 1) := by decide +kernel
theorem dX4_enter_17 : decode mX4_enter.2.1 17 = .ok (.aload_n 0, 1) := by decide +kernel
theorem dX4_enter_18 : decode mX4_enter.2.1 18 = .ok (.getfield 15, 3) := by decide +kernel
theorem dX4_enter_21 : decode mX4_enter.2.1 21 = .ok (.aload_n 0, 1) := by decide +kernel
theorem dX4_enter_22 : decode mX4_enter.2.1 22 = .ok (.getfield 28, 3) := by decide +kernel
theorem dX4_enter_25 : decode mX4_enter.2.1 25 = .ok (.iload_n 1, 1) := by decide +kernel
theorem dX4_enter_26 : decode mX4_enter.2.1 26 = .ok (.iastore, 1) := by decide +kernel
theorem dX4_enter_27 : decode mX4_enter.2.1 27 = .ok (.aload_n 0, 1) := by decide +kernel
theorem dX4_enter_28 : decode mX4_enter.2.1 28 = .ok (.getfield 18, 3) := by decide +kernel
theorem dX4_enter_31 : decode mX4_enter.2.1 31 = .ok (.aload_n 0, 1) := by decide +kernel
theorem dX4_enter_32 : decode mX4_enter.2.1 32 = .ok (.getfield 28, 3) := by decide +kernel
theorem dX4_enter_35 : decode mX4_enter.2.1 35 = .ok (.iload_n 2, 1) := by decide +kernel
theorem dX4_enter_36 : decode mX4_enter.2.1 36 = .ok (.iastore, 1) := by decide +kernel
theorem dX4_enter_37 : decode mX4_enter.2.1 37 = .ok (.aload_n 0, 1) := by decide +kernel
theorem dX4_enter_38 : decode mX4_enter.2.1 38 = .ok (.getfield 21, 3) := by decide +kernel
theorem dX4_enter_41 : decode mX4_enter.2.1 41 = .ok (.aload_n 0, 1) := by decide +kernel
theorem dX4_enter_42 : decode mX4_enter.2.1 42 = .ok (.getfield 28, 3) := by decide +kernel
theorem dX4_enter_45 : decode mX4_enter.2.1 45 = .ok (.iconst 0, 1) := by decide +kernel
theorem dX4_enter_46 : decode mX4_enter.2.1 46 = .ok (.iastore, 1) := by decide +kernel
theorem dX4_enter_47 : decode mX4_enter.2.1 47 = .ok (.aload_n 0, 1) := by decide +kernel
theorem dX4_enter_48 : decode mX4_enter.2.1 48 = .ok (.dup, 1) := by decide +kernel
theorem dX4_enter_49 : decode mX4_enter.2.1 49 = .ok (.getfield 32, 3) := by decide +kernel
theorem dX4_enter_52 : decode mX4_enter.2.1 52 = .ok (.lconst 1, 1) := by decide +kernel
theorem dX4_enter_53 : decode mX4_enter.2.1 53 = .ok (.iload_n 1, 1) := by decide +kernel
theorem dX4_enter_54 : decode mX4_enter.2.1 54 = .ok (.lshl, 1) := by decide +kernel
theorem dX4_enter_55 : decode mX4_enter.2.1 55 = .ok (.lor, 1) := by decide +kernel
theorem dX4_enter_56 : decode mX4_enter.2.1 56 = .ok (.putfield 32, 3) := by decide +kernel
theorem dX4_enter_59 : decode mX4_enter.2.1 59 = .ok (.aload_n 0, 1) := by decide +kernel
theorem dX4_enter_60 : decode mX4_enter.2.1 60 = .ok (.dup, 1) := by decide +kernel
theorem dX4_enter_61 : decode mX4_enter.2.1 61 = .ok (.getfield 28, 3) := by decide +kernel
theorem dX4_enter_64 : decode mX4_enter.2.1 64 = .ok (.iconst 1, 1) := by decide +kernel
theorem dX4_enter_65 : decode mX4_enter.2.1 65 = .ok (.iadd, 1) := by decide +kernel
theorem dX4_enter_66 : decode mX4_enter.2.1 66 = .ok (.putfield 28, 3) := by decide +kernel
theorem dX4_enter_69 : decode mX4_enter.2.1 69 = .ok (.aload_n 0, 1) := by decide +kernel
theorem dX4_enter_70 : decode mX4_enter.2.1 70 = .ok (.getfield 28, 3) := by decide +kernel
theorem dX4_enter_73 : decode mX4_enter.2.1 73 = .ok (.aload_n 0, 1) := by decide +kernel
theorem dX4_enter_74 : decode mX4_enter.2.1 74 = .ok (.getfield 39, 3) := by decide +kernel
theorem dX4_enter_77 : decode mX4_enter.2.1 77 = .ok (.if_icmp .le 11, 3) := by decide +kernel
theorem dX4_enter_80 : decode mX4_enter.2.1 80 = .ok (.aload_n 0, 1) := by decide +kernel
theorem dX4_enter_81 : decode mX4_enter.2.1 81 = .ok (.aload_n 0, 1) := by decide +kernel
theorem dX4_enter_82 : decode mX4_enter.2.1 82 = .ok (.getfield 28, 3) := by decide +kernel
theorem dX4_enter_85 : decode mX4_enter.2.1 85 = .ok (.putfield 39, 3) := by decide +kernel
theorem dX4_enter_88 : decode mX4_enter.2.1 88 = .ok (.return_, 1) := by decide +kernel
theorem dX4_leave_0 : decode mX4_leave.2.1 0 = .ok (.aload_n 0, 1) := by decide +kernel
theorem dX4_leave_1 : decode mX4_leave.2.1 1 = .ok (.getfield 28, 3) := by decide +kernel
theorem dX4_leave_4 : decode mX4_leave.2.1 4 = .ok (.ifCond .le 46, 3) := by decide +kernel
theorem dX4_leave_7 : decode mX4_leave.2.1 7 = .ok (.aload_n 0, 1) := by decide +kernel
theorem dX4_leave_8 : decode mX4_leave.2.1 8 = .ok (.getfield 28, 3) := by decide +kernel
theorem dX4_leave_11 : decode mX4_leave.2.1 11 = .ok (.bipush 40, 2) := by decide +kernel
theorem dX4_leave_13 : decode mX4_leave.2.1 13 = .ok (.if_icmp .gt 37, 3) := by decide +kernel
theorem dX4_leave_16 : decode mX4_leave.2.1 16 = .ok (.aload_n 0, 1) := by decide +kernel
theorem dX4_leave_17 : decode mX4_leave.2.1 17 = .ok (.dup, 1) := by decide +kernel
theorem dX4_leave_18 : decode mX4_leave.2.1 18 = .ok (.getfield 28, 3) := by decide +kernel
theorem dX4_leave_21 : decode mX4_leave.2.1 21 = .ok (.iconst 1, 1) := by decide +kernel
theorem dX4_leave_22 : decode mX4_leave.2.1 22 = .ok (.isub, 1) := by decide +kernel
theorem dX4_leave_23 : decode mX4_leave.2.1 23 = .ok (.putfield 28, 3) := by decide +kernel
theorem dX4_leave_26 : decode mX4_leave.2.1 26 = .ok (.aload_n 0, 1) := by decide +kernel
theorem dX4_leave_27 : decode mX4_leave.2.1 27 = .ok (.dup, 1) := by decide +kernel
theorem dX4_leave_28 : decode mX4_leave.2.1 28 = .ok (.getfield 32, 3) := by decide +kernel
theorem dX4_leave_31 : decode mX4_leave.2.1 31 = .ok (.lconst 1, 1) := by decide +kernel
theorem dX4_leave_32 : decode mX4_leave.2.1 32 = .ok (.aload_n 0, 1) := by decide +kernel
theorem dX4_leave_33 : decode mX4_leave.2.1 33 = .ok (.getfield 15, 3) := by decide +kernel
theorem dX4_leave_36 : decode mX4_leave.2.1 36 = .ok (.aload_n 0, 1) := by decide +kernel
theorem dX4_leave_37 : decode mX4_leave.2.1 37 = .ok (.getfield 28, 3) := by decide +kernel
theorem dX4_leave_40 : decode mX4_leave.2.1 40 = .ok (.iaload, 1) := by decide +kernel
theorem dX4_leave_41 : decode mX4_leave.2.1 41 = .ok (.lshl, 1) := by decide +kernel
theorem dX4_leave_42 : decode mX4_leave.2.1 42 = .ok (.ldc2_w 89, 3) := by decide +kernel
theorem dX4_leave_45 : decode mX4_leave.2.1 45 = .ok (.lxor, 1) := by decide +kernel
theorem dX4_leave_46 : decode mX4_leave.2.1 46 = .ok (.land, 1) := by decide +kernel
theorem dX4_leave_47 : decode mX4_leave.2.1 47 = .ok (.putfield 32, 3) := by decide +kernel
theorem dX4_leave_50 : decode mX4_leave.2.1 50 = .ok (.return_, 1) := by decide +kernel
theorem dX4_note_0 : decode mX4_note.2.1 0 = .ok (.aload_n 0, 1) := by decide +kernel
theorem dX4_note_1 : decode mX4_note.2.1 1 = .ok (.getfield 36, 3) := by decide +kernel
theorem dX4_note_4 : decode mX4_note.2.1 4 = .ok (.ifCond .lt 36, 3) := by decide +kernel
theorem dX4_note_7 : decode mX4_note.2.1 7 = .ok (.aload_n 0, 1) := by decide +kernel
theorem dX4_note_8 : decode mX4_note.2.1 8 = .ok (.getfield 36, 3) := by decide +kernel
theorem dX4_note_11 : decode mX4_note.2.1 11 = .ok (.bipush 60, 2) := by decide +kernel
theorem dX4_note_13 : decode mX4_note.2.1 13 = .ok (.if_icmp .ge 27, 3) := by decide +kernel
theorem dX4_note_16 : decode mX4_note.2.1 16 = .ok (.aload_n 0, 1) := by decide +kernel
theorem dX4_note_17 : decode mX4_note.2.1 17 = .ok (.getfield 9, 3) := by decide +kernel
theorem dX4_note_20 : decode mX4_note.2.1 20 = .ok (.aload_n 0, 1) := by decide +kernel
theorem dX4_note_21 : decode mX4_note.2.1 21 = .ok (.getfield 36, 3) := by decide +kernel
theorem dX4_note_24 : decode mX4_note.2.1 24 = .ok (.iconst 4, 1) := by decide +kernel
theorem dX4_note_25 : decode mX4_note.2.1 25 = .ok (.iload_n 2, 1) := by decide +kernel
theorem dX4_note_26 : decode mX4_note.2.1 26 = .ok (.imul, 1) := by decide +kernel
theorem dX4_note_27 : decode mX4_note.2.1 27 = .ok (.iload_n 1, 1) := by decide +kernel
theorem dX4_note_28 : decode mX4_note.2.1 28 = .ok (.iadd, 1) := by decide +kernel
theorem dX4_note_29 : decode mX4_note.2.1 29 = .ok (.iastore, 1) := by decide +kernel
theorem dX4_note_30 : decode mX4_note.2.1 30 = .ok (.aload_n 0, 1) := by decide +kernel
theorem dX4_note_31 : decode mX4_note.2.1 31 = .ok (.dup, 1) := by decide +kernel
theorem dX4_note_32 : decode mX4_note.2.1 32 = .ok (.getfield 36, 3) := by decide +kernel
theorem dX4_note_35 : decode mX4_note.2.1 35 = .ok (.iconst 1, 1) := by decide +kernel
theorem dX4_note_36 : decode mX4_note.2.1 36 = .ok (.iadd, 1) := by decide +kernel
theorem dX4_note_37 : decode mX4_note.2.1 37 = .ok (.putfield 36, 3) := by decide +kernel
theorem dX4_note_40 : decode mX4_note.2.1 40 = .ok (.return_, 1) := by decide +kernel
theorem dX4_eventAt_0 : decode mX4_eventAt.2.1 0 = .ok (.iload_n 1, 1) := by decide +kernel
theorem dX4_eventAt_1 : decode mX4_eventAt.2.1 1 = .ok (.ifCond .lt 26, 3) := by decide +kernel
theorem dX4_eventAt_4 : decode mX4_eventAt.2.1 4 = .ok (.iload_n 1, 1) := by decide +kernel
theorem dX4_eventAt_5 : decode mX4_eventAt.2.1 5 = .ok (.aload_n 0, 1) := by decide +kernel
theorem dX4_eventAt_6 : decode mX4_eventAt.2.1 6 = .ok (.getfield 36, 3) := by decide +kernel
theorem dX4_eventAt_9 : decode mX4_eventAt.2.1 9 = .ok (.if_icmp .ge 18, 3) := by decide +kernel
theorem dX4_eventAt_12 : decode mX4_eventAt.2.1 12 = .ok (.iload_n 1, 1) := by decide +kernel
theorem dX4_eventAt_13 : decode mX4_eventAt.2.1 13 = .ok (.bipush 60, 2) := by decide +kernel
theorem dX4_eventAt_15 : decode mX4_eventAt.2.1 15 = .ok (.if_icmp .ge 12, 3) := by decide +kernel
theorem dX4_eventAt_18 : decode mX4_eventAt.2.1 18 = .ok (.aload_n 0, 1) := by decide +kernel
theorem dX4_eventAt_19 : decode mX4_eventAt.2.1 19 = .ok (.getfield 9, 3) := by decide +kernel
theorem dX4_eventAt_22 : decode mX4_eventAt.2.1 22 = .ok (.iload_n 1, 1) := by decide +kernel
theorem dX4_eventAt_23 : decode mX4_eventAt.2.1 23 = .ok (.iaload, 1) := by decide +kernel
theorem dX4_eventAt_24 : decode mX4_eventAt.2.1 24 = .ok (.goto 4, 3) := by decide +kernel
theorem dX4_eventAt_27 : decode mX4_eventAt.2.1 27 = .ok (.iconst (-1), 1) := by decide +kernel
theorem dX4_eventAt_28 : decode mX4_eventAt.2.1 28 = .ok (.ireturn, 1) := by decide +kernel
end
section
theorem dX6_letter_0 : decode mX6_letter.2.1 0 = .ok (.iload_n 1, 1) := by decide +kernel
theorem dX6_letter_1 : decode mX6_letter.2.1 1 = .ok (.bipush 32, 2) := by decide +kernel
theorem dX6_letter_3 : decode mX6_letter.2.1 3 = .ok (.if_icmp .lt 9, 3) := by decide +kernel
theorem dX6_letter_6 : decode mX6_letter.2.1 6 = .ok (.iload_n 1, 1) := by decide +kernel
theorem dX6_letter_7 : decode mX6_letter.2.1 7 = .ok (.bipush 126, 2) := by decide +kernel
theorem dX6_letter_9 : decode mX6_letter.2.1 9 = .ok (.if_icmp .le 7, 3) := by decide +kernel
theorem dX6_letter_12 : decode mX6_letter.2.1 12 = .ok (.sipush (-1002), 3) := by decide +kernel
theorem dX6_letter_15 : decode mX6_letter.2.1 15 = .ok (.ireturn, 1) := by decide +kernel
theorem dX6_letter_16 : decode mX6_letter.2.1 16 = .ok (.aload_n 0, 1) := by decide +kernel
theorem dX6_letter_17 : decode mX6_letter.2.1 17 = .ok (.getfield 10, 3) := by decide +kernel
theorem dX6_letter_20 : decode mX6_letter.2.1 20 = .ok (.iload_n 1, 1) := by decide +kernel
theorem dX6_letter_21 : decode mX6_letter.2.1 21 = .ok (.invokevirtual 61, 3) := by decide +kernel
theorem dX6_letter_24 : decode mX6_letter.2.1 24 = .ok (.ifCond .eq 13, 3) := by decide +kernel
theorem dX6_letter_27 : decode mX6_letter.2.1 27 = .ok (.aload_n 0, 1) := by decide +kernel
theorem dX6_letter_28 : decode mX6_letter.2.1 28 = .ok (.getfield 10, 3) := by decide +kernel
theorem dX6_letter_31 : decode mX6_letter.2.1 31 = .ok (.getfield 65, 3) := by decide +kernel
theorem dX6_letter_34 : decode mX6_letter.2.1 34 = .ok (.goto 6, 3) := by decide +kernel
theorem dX6_letter_37 : decode mX6_letter.2.1 37 = .ok (.sipush (-1004), 3) := by decide +kernel
theorem dX6_letter_40 : decode mX6_letter.2.1 40 = .ok (.ireturn, 1) := by decide +kernel
theorem dX6_blank_0 : decode mX6_blank.2.1 0 = .ok (.aload_n 0, 1) := by decide +kernel
theorem dX6_blank_1 : decode mX6_blank.2.1 1 = .ok (.getfield 10, 3) := by decide +kernel
theorem dX6_blank_4 : decode mX6_blank.2.1 4 = .ok (.getfield 65, 3) := by decide +kernel
theorem dX6_blank_7 : decode mX6_blank.2.1 7 = .ok (.istore_n 1, 1) := by decide +kernel
theorem dX6_blank_8 : decode mX6_blank.2.1 8 = .ok (.aload_n 0, 1) := by decide +kernel
theorem dX6_blank_9 : decode mX6_blank.2.1 9 = .ok (.getfield 10, 3) := by decide +kernel
theorem dX6_blank_12 : decode mX6_blank.2.1 12 = .ok (.invokevirtual 68, 3) := by decide +kernel
theorem dX6_blank_15 : decode mX6_blank.2.1 15 = .ok (.iload_n 1, 1) := by decide +kernel
theorem dX6_blank_16 : decode mX6_blank.2.1 16 = .ok (.ireturn, 1) := by decide +kernel
theorem dX6_fault_0 : decode mX6_fault.2.1 0 = .ok (.aload_n 0, 1) := by decide +kernel
theorem dX6_fault_1 : decode mX6_fault.2.1 1 = .ok (.getfield 19, 3) := by decide +kernel
theorem dX6_fault_4 : decode mX6_fault.2.1 4 = .ok (.aload_n 0, 1) := by decide +kernel
theorem dX6_fault_5 : decode mX6_fault.2.1 5 = .ok (.getfield 10, 3) := by decide +kernel
theorem dX6_fault_8 : decode mX6_fault.2.1 8 = .ok (.aload_n 0, 1) := by decide +kernel
theorem dX6_fault_9 : decode mX6_fault.2.1 9 = .ok (.getfield 26, 3) := by decide +kernel
theorem dX6_fault_12 : decode mX6_fault.2.1 12 = .ok (.getfield 71, 3) := by decide +kernel
theorem dX6_fault_15 : decode mX6_fault.2.1 15 = .ok (.invokevirtual 74, 3) := by decide +kernel
theorem dX6_fault_18 : decode mX6_fault.2.1 18 = .ok (.ireturn, 1) := by decide +kernel
theorem dX6_type_0 : decode mX6_type.2.1 0 = .ok (.aload_n 0, 1) := by decide +kernel
theorem dX6_type_1 : decode mX6_type.2.1 1 = .ok (.getfield 19, 3) := by decide +kernel
theorem dX6_type_4 : decode mX6_type.2.1 4 = .ok (.aload_n 0, 1) := by decide +kernel
theorem dX6_type_5 : decode mX6_type.2.1 5 = .ok (.getfield 10, 3) := by decide +kernel
theorem dX6_type_8 : decode mX6_type.2.1 8 = .ok (.aload_n 0, 1) := by decide +kernel
theorem dX6_type_9 : decode mX6_type.2.1 9 = .ok (.getfield 26, 3) := by decide +kernel
theorem dX6_type_12 : decode mX6_type.2.1 12 = .ok (.getfield 71, 3) := by decide +kernel
theorem dX6_type_15 : decode mX6_type.2.1 15 = .ok (.invokevirtual 74, 3) := by decide +kernel
theorem dX6_type_18 : decode mX6_type.2.1 18 = .ok (.aload_n 0, 1) := by decide +kernel
theorem dX6_type_19 : decode mX6_type.2.1 19 = .ok (.getfield 10, 3) := by decide +kernel
theorem dX6_type_22 : decode mX6_type.2.1 22 = .ok (.getfield 65, 3) := by decide +kernel
theorem dX6_type_25 : decode mX6_type.2.1 25 = .ok (.if_icmp .lt 13, 3) := by decide +kernel
theorem dX6_type_28 : decode mX6_type.2.1 28 = .ok (.aload_n 0, 1) := by decide +kernel
theorem dX6_type_29 : decode mX6_type.2.1 29 = .ok (.getfield 19, 3) := by decide +kernel
theorem dX6_type_32 : decode mX6_type.2.1 32 = .ok (.invokevirtual 78, 3) := by decide +kernel
theorem dX6_type_35 : decode mX6_type.2.1 35 = .ok (.ifCond .ne 7, 3) := by decide +kernel
theorem dX6_type_38 : decode mX6_type.2.1 38 = .ok (.sipush (-1003), 3) := by decide +kernel
theorem dX6_type_41 : decode mX6_type.2.1 41 = .ok (.ireturn, 1) := by decide +kernel
theorem dX6_type_42 : decode mX6_type.2.1 42 = .ok (.aload_n 0, 1) := by decide +kernel
theorem dX6_type_43 : decode mX6_type.2.1 43 = .ok (.getfield 26, 3) := by decide +kernel
theorem dX6_type_46 : decode mX6_type.2.1 46 = .ok (.aload_n 0, 1) := by decide +kernel
theorem dX6_type_47 : decode mX6_type.2.1 47 = .ok (.getfield 19, 3) := by decide +kernel
theorem dX6_type_50 : decode mX6_type.2.1 50 = .ok (.invokevirtual 82, 3) := by decide +kernel
theorem dX6_type_53 : decode mX6_type.2.1 53 = .ok (.ifCond .ne 7, 3) := by decide +kernel
theorem dX6_type_56 : decode mX6_type.2.1 56 = .ok (.sipush (-1004), 3) := by decide +kernel
theorem dX6_type_59 : decode mX6_type.2.1 59 = .ok (.ireturn, 1) := by decide +kernel
theorem dX6_type_60 : decode mX6_type.2.1 60 = .ok (.aload_n 0, 1) := by decide +kernel
theorem dX6_type_61 : decode mX6_type.2.1 61 = .ok (.getfield 26, 3) := by decide +kernel
theorem dX6_type_64 : decode mX6_type.2.1 64 = .ok (.aload_n 0, 1) := by decide +kernel
theorem dX6_type_65 : decode mX6_type.2.1 65 = .ok (.getfield 19, 3) := by decide +kernel
theorem dX6_type_68 : decode mX6_type.2.1 68 = .ok (.invokevirtual 86, 3) := by decide +kernel
theorem dX6_type_71 : decode mX6_type.2.1 71 = .ok (.istore_n 1, 1) := by decide +kernel
theorem dX6_type_72 : decode mX6_type.2.1 72 = .ok (.aload_n 0, 1) := by decide +kernel
theorem dX6_type_73 : decode mX6_type.2.1 73 = .ok (.getfield 10, 3) := by decide +kernel
theorem dX6_type_76 : decode mX6_type.2.1 76 = .ok (.invokevirtual 68, 3) := by decide +kernel
theorem dX6_type_79 : decode mX6_type.2.1 79 = .ok (.aload_n 0, 1) := by decide +kernel
theorem dX6_type_80 : decode mX6_type.2.1 80 = .ok (.getfield 49, 3) := by decide +kernel
theorem dX6_type_83 : decode mX6_type.2.1 83 = .ok (.invokevirtual 90, 3) := by decide +kernel
theorem dX6_type_86 : decode mX6_type.2.1 86 = .ok (.iload_n 1, 1) := by decide +kernel
theorem dX6_type_87 : decode mX6_type.2.1 87 = .ok (.ireturn, 1) := by decide +kernel
theorem dX6_drop_0 : decode mX6_drop.2.1 0 = .ok (.aload_n 0, 1) := by decide +kernel
theorem dX6_drop_1 : decode mX6_drop.2.1 1 = .ok (.getfield 26, 3) := by decide +kernel
theorem dX6_drop_4 : decode mX6_drop.2.1 4 = .ok (.getfield 71, 3) := by decide +kernel
theorem dX6_drop_7 : decode mX6_drop.2.1 7 = .ok (.ifCond .eq 13, 3) := by decide +kernel
theorem dX6_drop_10 : decode mX6_drop.2.1 10 = .ok (.aload_n 0, 1) := by decide +kernel
theorem dX6_drop_11 : decode mX6_drop.2.1 11 = .ok (.getfield 26, 3) := by decide +kernel
theorem dX6_drop_14 : decode mX6_drop.2.1 14 = .ok (.invokevirtual 93, 3) := by decide +kernel
theorem dX6_drop_17 : decode mX6_drop.2.1 17 = .ok (.ifCond .eq 7, 3) := by decide +kernel
theorem dX6_drop_20 : decode mX6_drop.2.1 20 = .ok (.sipush (-1003), 3) := by decide +kernel
theorem dX6_drop_23 : decode mX6_drop.2.1 23 = .ok (.ireturn, 1) := by decide +kernel
theorem dX6_drop_24 : decode mX6_drop.2.1 24 = .ok (.aload_n 0, 1) := by decide +kernel
theorem dX6_drop_25 : decode mX6_drop.2.1 25 = .ok (.getfield 26, 3) := by decide +kernel
theorem dX6_drop_28 : decode mX6_drop.2.1 28 = .ok (.invokevirtual 96, 3) := by decide +kernel
theorem dX6_drop_31 : decode mX6_drop.2.1 31 = .ok (.aload_n 0, 1) := by decide +kernel
theorem dX6_drop_32 : decode mX6_drop.2.1 32 = .ok (.getfield 49, 3) := by decide +kernel
theorem dX6_drop_35 : decode mX6_drop.2.1 35 = .ok (.invokevirtual 90, 3) := by decide +kernel
theorem dX6_drop_38 : decode mX6_drop.2.1 38 = .ok (.aload_n 0, 1) := by decide +kernel
theorem dX6_drop_39 : decode mX6_drop.2.1 39 = .ok (.getfield 26, 3) := by decide +kernel
theorem dX6_drop_42 : decode mX6_drop.2.1 42 = .ok (.getfield 71, 3) := by decide +kernel
theorem dX6_drop_45 : decode mX6_drop.2.1 45 = .ok (.ireturn, 1) := by decide +kernel
theorem dX6_hollow_0 : decode mX6_hollow.2.1 0 = .ok (.aload_n 0, 1) := by decide +kernel
theorem dX6_hollow_1 : decode mX6_hollow.2.1 1 = .ok (.getfield 26, 3) := by decide +kernel
theorem dX6_hollow_4 : decode mX6_hollow.2.1 4 = .ok (.iload_n 1, 1) := by decide +kernel
theorem dX6_hollow_5 : decode mX6_hollow.2.1 5 = .ok (.invokevirtual 99, 3) := by decide +kernel
theorem dX6_hollow_8 : decode mX6_hollow.2.1 8 = .ok (.ifCond .ne 7, 3) := by decide +kernel
theorem dX6_hollow_11 : decode mX6_hollow.2.1 11 = .ok (.sipush (-1001), 3) := by decide +kernel
theorem dX6_hollow_14 : decode mX6_hollow.2.1 14 = .ok (.ireturn, 1) := by decide +kernel
theorem dX6_hollow_15 : decode mX6_hollow.2.1 15 = .ok (.aload_n 0, 1) := by decide +kernel
theorem dX6_hollow_16 : decode mX6_hollow.2.1 16 = .ok (.getfield 26, 3) := by decide +kernel
theorem dX6_hollow_19 : decode mX6_hollow.2.1 19 = .ok (.iload_n 1, 1) := by decide +kernel
theorem dX6_hollow_20 : decode mX6_hollow.2.1 20 = .ok (.invokevirtual 102, 3) := by decide +kernel
theorem dX6_hollow_23 : decode mX6_hollow.2.1 23 = .ok (.istore_n 3, 1) := by decide +kernel
theorem dX6_hollow_24 : decode mX6_hollow.2.1 24 = .ok (.aload_n 0, 1) := by decide +kernel
theorem dX6_hollow_25 : decode mX6_hollow.2.1 25 = .ok (.getfield 26, 3) := by decide +kernel
theorem dX6_hollow_28 : decode mX6_hollow.2.1 28 = .ok (.iload_n 1, 1) := by decide +kernel
theorem dX6_hollow_29 : decode mX6_hollow.2.1 29 = .ok (.iload_n 2, 1) := by decide +kernel
theorem dX6_hollow_30 : decode mX6_hollow.2.1 30 = .ok (.invokevirtual 105, 3) := by decide +kernel
theorem dX6_hollow_33 : decode mX6_hollow.2.1 33 = .ok (.aload_n 0, 1) := by decide +kernel
theorem dX6_hollow_34 : decode mX6_hollow.2.1 34 = .ok (.getfield 49, 3) := by decide +kernel
theorem dX6_hollow_37 : decode mX6_hollow.2.1 37 = .ok (.invokevirtual 90, 3) := by decide +kernel
theorem dX6_hollow_40 : decode mX6_hollow.2.1 40 = .ok (.iload_n 3, 1) := by decide +kernel
theorem dX6_hollow_41 : decode mX6_hollow.2.1 41 = .ok (.ifCond .eq 7, 3) := by decide +kernel
theorem dX6_hollow_44 : decode mX6_hollow.2.1 44 = .ok (.iconst 1, 1) := by decide +kernel
theorem dX6_hollow_45 : decode mX6_hollow.2.1 45 = .ok (.goto 4, 3) := by decide +kernel
theorem dX6_hollow_48 : decode mX6_hollow.2.1 48 = .ok (.iconst 0, 1) := by decide +kernel
theorem dX6_hollow_49 : decode mX6_hollow.2.1 49 = .ok (.ireturn, 1) := by decide +kernel
theorem dX6_of_0 : decode mX6_of.2.1 0 = .ok (.aload_n 0, 1) := by decide +kernel
theorem dX6_of_1 : decode mX6_of.2.1 1 = .ok (.getfield 26, 3) := by decide +kernel
theorem dX6_of_4 : decode mX6_of.2.1 4 = .ok (.iload_n 1, 1) := by decide +kernel
theorem dX6_of_5 : decode mX6_of.2.1 5 = .ok (.invokevirtual 99, 3) := by decide +kernel
theorem dX6_of_8 : decode mX6_of.2.1 8 = .ok (.ifCond .ne 7, 3) := by decide +kernel
theorem dX6_of_11 : decode mX6_of.2.1 11 = .ok (.sipush (-1001), 3) := by decide +kernel
theorem dX6_of_14 : decode mX6_of.2.1 14 = .ok (.ireturn, 1) := by decide +kernel
theorem dX6_of_15 : decode mX6_of.2.1 15 = .ok (.iload_n 2, 1) := by decide +kernel
theorem dX6_of_16 : decode mX6_of.2.1 16 = .ok (.tableswitch 122 0 6 #[44, 53, 70, 82, 91, 104, 113], 44) := by decide +kernel
theorem dX6_of_60 : decode mX6_of.2.1 60 = .ok (.aload_n 0, 1) := by decide +kernel
theorem dX6_of_61 : decode mX6_of.2.1 61 = .ok (.getfield 26, 3) := by decide +kernel
theorem dX6_of_64 : decode mX6_of.2.1 64 = .ok (.iload_n 1, 1) := by decide +kernel
theorem dX6_of_65 : decode mX6_of.2.1 65 = .ok (.invokevirtual 109, 3) := by decide +kernel
theorem dX6_of_68 : decode mX6_of.2.1 68 = .ok (.ireturn, 1) := by decide +kernel
theorem dX6_of_69 : decode mX6_of.2.1 69 = .ok (.aload_n 0, 1) := by decide +kernel
theorem dX6_of_70 : decode mX6_of.2.1 70 = .ok (.getfield 26, 3) := by decide +kernel
theorem dX6_of_73 : decode mX6_of.2.1 73 = .ok (.iload_n 1, 1) := by decide +kernel
theorem dX6_of_74 : decode mX6_of.2.1 74 = .ok (.invokevirtual 102, 3) := by decide +kernel
theorem dX6_of_77 : decode mX6_of.2.1 77 = .ok (.ifCond .eq 7, 3) := by decide +kernel
theorem dX6_of_80 : decode mX6_of.2.1 80 = .ok (.iconst 1, 1) := by decide +kernel
theorem dX6_of_81 : decode mX6_of.2.1 81 = .ok (.goto 4, 3) := by decide +kernel
theorem dX6_of_84 : decode mX6_of.2.1 84 = .ok (.iconst 0, 1) := by decide +kernel
theorem dX6_of_85 : decode mX6_of.2.1 85 = .ok (.ireturn, 1) := by decide +kernel
theorem dX6_of_86 : decode mX6_of.2.1 86 = .ok (.aload_n 0, 1) := by decide +kernel
theorem dX6_of_87 : decode mX6_of.2.1 87 = .ok (.getfield 26, 3) := by decide +kernel
theorem dX6_of_90 : decode mX6_of.2.1 90 = .ok (.iload_n 1, 1) := by decide +kernel
theorem dX6_of_91 : decode mX6_of.2.1 91 = .ok (.iconst 0, 1) := by decide +kernel
theorem dX6_of_92 : decode mX6_of.2.1 92 = .ok (.bipush 6, 2) := by decide +kernel
theorem dX6_of_94 : decode mX6_of.2.1 94 = .ok (.invokevirtual 113, 3) := by decide +kernel
theorem dX6_of_97 : decode mX6_of.2.1 97 = .ok (.ireturn, 1) := by decide +kernel
theorem dX6_of_98 : decode mX6_of.2.1 98 = .ok (.aload_n 0, 1) := by decide +kernel
theorem dX6_of_99 : decode mX6_of.2.1 99 = .ok (.getfield 26, 3) := by decide +kernel
theorem dX6_of_102 : decode mX6_of.2.1 102 = .ok (.iload_n 1, 1) := by decide +kernel
theorem dX6_of_103 : decode mX6_of.2.1 103 = .ok (.invokevirtual 117, 3) := by decide +kernel
theorem dX6_of_106 : decode mX6_of.2.1 106 = .ok (.ireturn, 1) := by decide +kernel
theorem dX6_of_107 : decode mX6_of.2.1 107 = .ok (.aload_n 0, 1) := by decide +kernel
theorem dX6_of_108 : decode mX6_of.2.1 108 = .ok (.getfield 26, 3) := by decide +kernel
theorem dX6_of_111 : decode mX6_of.2.1 111 = .ok (.iload_n 1, 1) := by decide +kernel
theorem dX6_of_112 : decode mX6_of.2.1 112 = .ok (.bipush 6, 2) := by decide +kernel
theorem dX6_of_114 : decode mX6_of.2.1 114 = .ok (.bipush 12, 2) := by decide +kernel
theorem dX6_of_116 : decode mX6_of.2.1 116 = .ok (.invokevirtual 113, 3) := by decide +kernel
theorem dX6_of_119 : decode mX6_of.2.1 119 = .ok (.ireturn, 1) := by decide +kernel
theorem dX6_of_120 : decode mX6_of.2.1 120 = .ok (.aload_n 0, 1) := by decide +kernel
theorem dX6_of_121 : decode mX6_of.2.1 121 = .ok (.getfield 26, 3) := by decide +kernel
theorem dX6_of_124 : decode mX6_of.2.1 124 = .ok (.iload_n 1, 1) := by decide +kernel
theorem dX6_of_125 : decode mX6_of.2.1 125 = .ok (.invokevirtual 120, 3) := by decide +kernel
theorem dX6_of_128 : decode mX6_of.2.1 128 = .ok (.ireturn, 1) := by decide +kernel
theorem dX6_of_129 : decode mX6_of.2.1 129 = .ok (.aload_n 0, 1) := by decide +kernel
theorem dX6_of_130 : decode mX6_of.2.1 130 = .ok (.getfield 26, 3) := by decide +kernel
theorem dX6_of_133 : decode mX6_of.2.1 133 = .ok (.iload_n 1, 1) := by decide +kernel
theorem dX6_of_134 : decode mX6_of.2.1 134 = .ok (.invokevirtual 123, 3) := by decide +kernel
theorem dX6_of_137 : decode mX6_of.2.1 137 = .ok (.ireturn, 1) := by decide +kernel
theorem dX6_of_138 : decode mX6_of.2.1 138 = .ok (.sipush (-1002), 3) := by decide +kernel
theorem dX6_of_141 : decode mX6_of.2.1 141 = .ok (.ireturn, 1) := by decide +kernel
theorem dX6_has_0 : decode mX6_has.2.1 0 = .ok (.aload_n 0, 1) := by decide +kernel
theorem dX6_has_1 : decode mX6_has.2.1 1 = .ok (.getfield 26, 3) := by decide +kernel
theorem dX6_has_4 : decode mX6_has.2.1 4 = .ok (.iload_n 1, 1) := by decide +kernel
theorem dX6_has_5 : decode mX6_has.2.1 5 = .ok (.invokevirtual 99, 3) := by decide +kernel
theorem dX6_has_8 : decode mX6_has.2.1 8 = .ok (.ifCond .eq 10, 3) := by decide +kernel
theorem dX6_has_11 : decode mX6_has.2.1 11 = .ok (.iload_n 2, 1) := by decide +kernel
theorem dX6_has_12 : decode mX6_has.2.1 12 = .ok (.invokestatic 126, 3) := by decide +kernel
theorem dX6_has_15 : decode mX6_has.2.1 15 = .ok (.ifCond .ne 7, 3) := by decide +kernel
theorem dX6_has_18 : decode mX6_has.2.1 18 = .ok (.sipush (-1001), 3) := by decide +kernel
theorem dX6_has_21 : decode mX6_has.2.1 21 = .ok (.ireturn, 1) := by decide +kernel
theorem dX6_has_22 : decode mX6_has.2.1 22 = .ok (.aload_n 0, 1) := by decide +kernel
theorem dX6_has_23 : decode mX6_has.2.1 23 = .ok (.getfield 26, 3) := by decide +kernel
theorem dX6_has_26 : decode mX6_has.2.1 26 = .ok (.iload_n 1, 1) := by decide +kernel
theorem dX6_has_27 : decode mX6_has.2.1 27 = .ok (.iload_n 2, 1) := by decide +kernel
theorem dX6_has_28 : decode mX6_has.2.1 28 = .ok (.invokevirtual 129, 3) := by decide +kernel
theorem dX6_has_31 : decode mX6_has.2.1 31 = .ok (.ireturn, 1) := by decide +kernel
theorem dX6_answer_0 : decode mX6_answer.2.1 0 = .ok (.aload_n 0, 1) := by decide +kernel
theorem dX6_answer_1 : decode mX6_answer.2.1 1 = .ok (.getfield 26, 3) := by decide +kernel
theorem dX6_answer_4 : decode mX6_answer.2.1 4 = .ok (.iload_n 1, 1) := by decide +kernel
theorem dX6_answer_5 : decode mX6_answer.2.1 5 = .ok (.invokevirtual 99, 3) := by decide +kernel
theorem dX6_answer_8 : decode mX6_answer.2.1 8 = .ok (.ifCond .eq 10, 3) := by decide +kernel
theorem dX6_answer_11 : decode mX6_answer.2.1 11 = .ok (.iload_n 2, 1) := by decide +kernel
theorem dX6_answer_12 : decode mX6_answer.2.1 12 = .ok (.invokestatic 133, 3) := by decide +kernel
theorem dX6_answer_15 : decode mX6_answer.2.1 15 = .ok (.ifCond .ne 7, 3) := by decide +kernel
theorem dX6_answer_18 : decode mX6_answer.2.1 18 = .ok (.sipush (-1001), 3) := by decide +kernel
theorem dX6_answer_21 : decode mX6_answer.2.1 21 = .ok (.ireturn, 1) := by decide +kernel
theorem dX6_answer_22 : decode mX6_answer.2.1 22 = .ok (.iload_n 3, 1) := by decide +kernel
theorem dX6_answer_23 : decode mX6_answer.2.1 23 = .ok (.ifCond .lt 8, 3) := by decide +kernel
theorem dX6_answer_26 : decode mX6_answer.2.1 26 = .ok (.iload_n 3, 1) := by decide +kernel
theorem dX6_answer_27 : decode mX6_answer.2.1 27 = .ok (.iconst 1, 1) := by decide +kernel
theorem dX6_answer_28 : decode mX6_answer.2.1 28 = .ok (.if_icmp .le 7, 3) := by decide +kernel
theorem dX6_answer_31 : decode mX6_answer.2.1 31 = .ok (.sipush (-1002), 3) := by decide +kernel
theorem dX6_answer_34 : decode mX6_answer.2.1 34 = .ok (.ireturn, 1) := by decide +kernel
theorem dX6_answer_35 : decode mX6_answer.2.1 35 = .ok (.aload_n 0, 1) := by decide +kernel
theorem dX6_answer_36 : decode mX6_answer.2.1 36 = .ok (.getfield 26, 3) := by decide +kernel
theorem dX6_answer_39 : decode mX6_answer.2.1 39 = .ok (.iload_n 1, 1) := by decide +kernel
theorem dX6_answer_40 : decode mX6_answer.2.1 40 = .ok (.iload_n 2, 1) := by decide +kernel
theorem dX6_answer_41 : decode mX6_answer.2.1 41 = .ok (.invokevirtual 136, 3) := by decide +kernel
theorem dX6_answer_44 : decode mX6_answer.2.1 44 = .ok (.istore 4, 2) := by decide +kernel
theorem dX6_answer_46 : decode mX6_answer.2.1 46 = .ok (.iload_n 3, 1) := by decide +kernel
theorem dX6_answer_47 : decode mX6_answer.2.1 47 = .ok (.iconst 1, 1) := by decide +kernel
theorem dX6_answer_48 : decode mX6_answer.2.1 48 = .ok (.if_icmp .eq 9, 3) := by decide +kernel
theorem dX6_answer_51 : decode mX6_answer.2.1 51 = .ok (.iload 4, 2) := by decide +kernel
theorem dX6_answer_53 : decode mX6_answer.2.1 53 = .ok (.iconst (-1), 1) := by decide +kernel
theorem dX6_answer_54 : decode mX6_answer.2.1 54 = .ok (.if_icmp .ne 8, 3) := by decide +kernel
theorem dX6_answer_57 : decode mX6_answer.2.1 57 = .ok (.iload 4, 2) := by decide +kernel
theorem dX6_answer_59 : decode mX6_answer.2.1 59 = .ok (.goto 13, 3) := by decide +kernel
theorem dX6_answer_62 : decode mX6_answer.2.1 62 = .ok (.aload_n 0, 1) := by decide +kernel
theorem dX6_answer_63 : decode mX6_answer.2.1 63 = .ok (.getfield 26, 3) := by decide +kernel
theorem dX6_answer_66 : decode mX6_answer.2.1 66 = .ok (.iload 4, 2) := by decide +kernel
theorem dX6_answer_68 : decode mX6_answer.2.1 68 = .ok (.iload_n 2, 1) := by decide +kernel
theorem dX6_answer_69 : decode mX6_answer.2.1 69 = .ok (.invokevirtual 129, 3) := by decide +kernel
theorem dX6_answer_72 : decode mX6_answer.2.1 72 = .ok (.ireturn, 1) := by decide +kernel
theorem dX6_body_0 : decode mX6_body.2.1 0 = .ok (.aload_n 0, 1) := by decide +kernel
theorem dX6_body_1 : decode mX6_body.2.1 1 = .ok (.getfield 26, 3) := by decide +kernel
theorem dX6_body_4 : decode mX6_body.2.1 4 = .ok (.iload_n 1, 1) := by decide +kernel
theorem dX6_body_5 : decode mX6_body.2.1 5 = .ok (.invokevirtual 139, 3) := by decide +kernel
theorem dX6_body_8 : decode mX6_body.2.1 8 = .ok (.ifCond .ne 7, 3) := by decide +kernel
theorem dX6_body_11 : decode mX6_body.2.1 11 = .ok (.sipush (-1001), 3) := by decide +kernel
theorem dX6_body_14 : decode mX6_body.2.1 14 = .ok (.ireturn, 1) := by decide +kernel
theorem dX6_body_15 : decode mX6_body.2.1 15 = .ok (.iload_n 2, 1) := by decide +kernel
theorem dX6_body_16 : decode mX6_body.2.1 16 = .ok (.ifCond .ne 12, 3) := by decide +kernel
theorem dX6_body_19 : decode mX6_body.2.1 19 = .ok (.aload_n 0, 1) := by decide +kernel
theorem dX6_body_20 : decode mX6_body.2.1 20 = .ok (.getfield 26, 3) := by decide +kernel
theorem dX6_body_23 : decode mX6_body.2.1 23 = .ok (.iload_n 1, 1) := by decide +kernel
theorem dX6_body_24 : decode mX6_body.2.1 24 = .ok (.invokevirtual 142, 3) := by decide +kernel
theorem dX6_body_27 : decode mX6_body.2.1 27 = .ok (.ireturn, 1) := by decide +kernel
theorem dX6_body_28 : decode mX6_body.2.1 28 = .ok (.iload_n 2, 1) := by decide +kernel
theorem dX6_body_29 : decode mX6_body.2.1 29 = .ok (.bipush 10, 2) := by decide +kernel
theorem dX6_body_31 : decode mX6_body.2.1 31 = .ok (.if_icmp .lt 9, 3) := by decide +kernel
theorem dX6_body_34 : decode mX6_body.2.1 34 = .ok (.iload_n 2, 1) := by decide +kernel
theorem dX6_body_35 : decode mX6_body.2.1 35 = .ok (.bipush 16, 2) := by decide +kernel
theorem dX6_body_37 : decode mX6_body.2.1 37 = .ok (.if_icmp .lt 7, 3) := by decide +kernel
theorem dX6_body_40 : decode mX6_body.2.1 40 = .ok (.sipush (-1002), 3) := by decide +kernel
theorem dX6_body_43 : decode mX6_body.2.1 43 = .ok (.ireturn, 1) := by decide +kernel
theorem dX6_body_44 : decode mX6_body.2.1 44 = .ok (.aload_n 0, 1) := by decide +kernel
theorem dX6_body_45 : decode mX6_body.2.1 45 = .ok (.getfield 26, 3) := by decide +kernel
theorem dX6_body_48 : decode mX6_body.2.1 48 = .ok (.iload_n 1, 1) := by decide +kernel
theorem dX6_body_49 : decode mX6_body.2.1 49 = .ok (.iload_n 2, 1) := by decide +kernel
theorem dX6_body_50 : decode mX6_body.2.1 50 = .ok (.bipush 10, 2) := by decide +kernel
theorem dX6_body_52 : decode mX6_body.2.1 52 = .ok (.isub, 1) := by decide +kernel
theorem dX6_body_53 : decode mX6_body.2.1 53 = .ok (.invokevirtual 145, 3) := by decide +kernel
theorem dX6_body_56 : decode mX6_body.2.1 56 = .ok (.ireturn, 1) := by decide +kernel
theorem dX6_trace_0 : decode mX6_trace.2.1 0 = .ok (.aload_n 0, 1) := by decide +kernel
theorem dX6_trace_1 : decode mX6_trace.2.1 1 = .ok (.getfield 26, 3) := by decide +kernel
theorem dX6_trace_4 : decode mX6_trace.2.1 4 = .ok (.iload_n 1, 1) := by decide +kernel
theorem dX6_trace_5 : decode mX6_trace.2.1 5 = .ok (.invokevirtual 99, 3) := by decide +kernel
theorem dX6_trace_8 : decode mX6_trace.2.1 8 = .ok (.ifCond .eq 10, 3) := by decide +kernel
theorem dX6_trace_11 : decode mX6_trace.2.1 11 = .ok (.iload_n 2, 1) := by decide +kernel
theorem dX6_trace_12 : decode mX6_trace.2.1 12 = .ok (.invokestatic 133, 3) := by decide +kernel
theorem dX6_trace_15 : decode mX6_trace.2.1 15 = .ok (.ifCond .ne 7, 3) := by decide +kernel
theorem dX6_trace_18 : decode mX6_trace.2.1 18 = .ok (.sipush (-1001), 3) := by decide +kernel
theorem dX6_trace_21 : decode mX6_trace.2.1 21 = .ok (.ireturn, 1) := by decide +kernel
theorem dX6_trace_22 : decode mX6_trace.2.1 22 = .ok (.iload_n 3, 1) := by decide +kernel
theorem dX6_trace_23 : decode mX6_trace.2.1 23 = .ok (.ifCond .lt 8, 3) := by decide +kernel
theorem dX6_trace_26 : decode mX6_trace.2.1 26 = .ok (.iload_n 3, 1) := by decide +kernel
theorem dX6_trace_27 : decode mX6_trace.2.1 27 = .ok (.iconst 1, 1) := by decide +kernel
theorem dX6_trace_28 : decode mX6_trace.2.1 28 = .ok (.if_icmp .le 7, 3) := by decide +kernel
theorem dX6_trace_31 : decode mX6_trace.2.1 31 = .ok (.sipush (-1002), 3) := by decide +kernel
theorem dX6_trace_34 : decode mX6_trace.2.1 34 = .ok (.ireturn, 1) := by decide +kernel
theorem dX6_trace_35 : decode mX6_trace.2.1 35 = .ok (.aload_n 0, 1) := by decide +kernel
theorem dX6_trace_36 : decode mX6_trace.2.1 36 = .ok (.getfield 40, 3) := by decide +kernel
theorem dX6_trace_39 : decode mX6_trace.2.1 39 = .ok (.invokevirtual 148, 3) := by decide +kernel
theorem dX6_trace_42 : decode mX6_trace.2.1 42 = .ok (.iload_n 3, 1) := by decide +kernel
theorem dX6_trace_43 : decode mX6_trace.2.1 43 = .ok (.ifCond .ne 15, 3) := by decide +kernel
theorem dX6_trace_46 : decode mX6_trace.2.1 46 = .ok (.aload_n 0, 1) := by decide +kernel
theorem dX6_trace_47 : decode mX6_trace.2.1 47 = .ok (.getfield 40, 3) := by decide +kernel
theorem dX6_trace_50 : decode mX6_trace.2.1 50 = .ok (.iload_n 1, 1) := by decide +kernel
theorem dX6_trace_51 : decode mX6_trace.2.1 51 = .ok (.iload_n 2, 1) := by decide +kernel
theorem dX6_trace_52 : decode mX6_trace.2.1 52 = .ok (.invokevirtual 151, 3) := by decide +kernel
theorem dX6_trace_55 : decode mX6_trace.2.1 55 = .ok (.goto 12, 3) := by decide +kernel
theorem dX6_trace_58 : decode mX6_trace.2.1 58 = .ok (.aload_n 0, 1) := by decide +kernel
theorem dX6_trace_59 : decode mX6_trace.2.1 59 = .ok (.getfield 40, 3) := by decide +kernel
theorem dX6_trace_62 : decode mX6_trace.2.1 62 = .ok (.iload_n 1, 1) := by decide +kernel
theorem dX6_trace_63 : decode mX6_trace.2.1 63 = .ok (.iload_n 2, 1) := by decide +kernel
theorem dX6_trace_64 : decode mX6_trace.2.1 64 = .ok (.invokevirtual 154, 3) := by decide +kernel
theorem dX6_trace_67 : decode mX6_trace.2.1 67 = .ok (.ireturn, 1) := by decide +kernel
theorem dX6_event_0 : decode mX6_event.2.1 0 = .ok (.aload_n 0, 1) := by decide +kernel
theorem dX6_event_1 : decode mX6_event.2.1 1 = .ok (.getfield 26, 3) := by decide +kernel
theorem dX6_event_4 : decode mX6_event.2.1 4 = .ok (.iload_n 1, 1) := by decide +kernel
theorem dX6_event_5 : decode mX6_event.2.1 5 = .ok (.invokevirtual 99, 3) := by decide +kernel
theorem dX6_event_8 : decode mX6_event.2.1 8 = .ok (.ifCond .eq 10, 3) := by decide +kernel
theorem dX6_event_11 : decode mX6_event.2.1 11 = .ok (.iload_n 2, 1) := by decide +kernel
theorem dX6_event_12 : decode mX6_event.2.1 12 = .ok (.invokestatic 133, 3) := by decide +kernel
theorem dX6_event_15 : decode mX6_event.2.1 15 = .ok (.ifCond .ne 7, 3) := by decide +kernel
theorem dX6_event_18 : decode mX6_event.2.1 18 = .ok (.sipush (-1001), 3) := by decide +kernel
theorem dX6_event_21 : decode mX6_event.2.1 21 = .ok (.ireturn, 1) := by decide +kernel
theorem dX6_event_22 : decode mX6_event.2.1 22 = .ok (.aload_n 0, 1) := by decide +kernel
theorem dX6_event_23 : decode mX6_event.2.1 23 = .ok (.getfield 40, 3) := by decide +kernel
theorem dX6_event_26 : decode mX6_event.2.1 26 = .ok (.invokevirtual 148, 3) := by decide +kernel
theorem dX6_event_29 : decode mX6_event.2.1 29 = .ok (.iload_n 3, 1) := by decide +kernel
theorem dX6_event_30 : decode mX6_event.2.1 30 = .ok (.ifCond .lt 16, 3) := by decide +kernel
theorem dX6_event_33 : decode mX6_event.2.1 33 = .ok (.iload_n 3, 1) := by decide +kernel
theorem dX6_event_34 : decode mX6_event.2.1 34 = .ok (.aload_n 0, 1) := by decide +kernel
theorem dX6_event_35 : decode mX6_event.2.1 35 = .ok (.getfield 40, 3) := by decide +kernel
theorem dX6_event_38 : decode mX6_event.2.1 38 = .ok (.iload_n 1, 1) := by decide +kernel
theorem dX6_event_39 : decode mX6_event.2.1 39 = .ok (.iload_n 2, 1) := by decide +kernel
theorem dX6_event_40 : decode mX6_event.2.1 40 = .ok (.invokevirtual 151, 3) := by decide +kernel
theorem dX6_event_43 : decode mX6_event.2.1 43 = .ok (.if_icmp .lt 7, 3) := by decide +kernel
theorem dX6_event_46 : decode mX6_event.2.1 46 = .ok (.sipush (-1001), 3) := by decide +kernel
theorem dX6_event_49 : decode mX6_event.2.1 49 = .ok (.ireturn, 1) := by decide +kernel
theorem dX6_event_50 : decode mX6_event.2.1 50 = .ok (.iload 4, 2) := by decide +kernel
theorem dX6_event_52 : decode mX6_event.2.1 52 = .ok (.ifCond .lt 9, 3) := by decide +kernel
theorem dX6_event_55 : decode mX6_event.2.1 55 = .ok (.iload 4, 2) := by decide +kernel
theorem dX6_event_57 : decode mX6_event.2.1 57 = .ok (.iconst 1, 1) := by decide +kernel
theorem dX6_event_58 : decode mX6_event.2.1 58 = .ok (.if_icmp .le 7, 3) := by decide +kernel
theorem dX6_event_61 : decode mX6_event.2.1 61 = .ok (.sipush (-1002), 3) := by decide +kernel
theorem dX6_event_64 : decode mX6_event.2.1 64 = .ok (.ireturn, 1) := by decide +kernel
theorem dX6_event_65 : decode mX6_event.2.1 65 = .ok (.aload_n 0, 1) := by decide +kernel
theorem dX6_event_66 : decode mX6_event.2.1 66 = .ok (.getfield 40, 3) := by decide +kernel
theorem dX6_event_69 : decode mX6_event.2.1 69 = .ok (.iload_n 1, 1) := by decide +kernel
theorem dX6_event_70 : decode mX6_event.2.1 70 = .ok (.iload_n 2, 1) := by decide +kernel
theorem dX6_event_71 : decode mX6_event.2.1 71 = .ok (.iload_n 3, 1) := by decide +kernel
theorem dX6_event_72 : decode mX6_event.2.1 72 = .ok (.invokevirtual 157, 3) := by decide +kernel
theorem dX6_event_75 : decode mX6_event.2.1 75 = .ok (.istore 5, 2) := by decide +kernel
theorem dX6_event_77 : decode mX6_event.2.1 77 = .ok (.iload 4, 2) := by decide +kernel
theorem dX6_event_79 : decode mX6_event.2.1 79 = .ok (.ifCond .ne 10, 3) := by decide +kernel
theorem dX6_event_82 : decode mX6_event.2.1 82 = .ok (.iload 5, 2) := by decide +kernel
theorem dX6_event_84 : decode mX6_event.2.1 84 = .ok (.iconst 4, 1) := by decide +kernel
theorem dX6_event_85 : decode mX6_event.2.1 85 = .ok (.irem, 1) := by decide +kernel
theorem dX6_event_86 : decode mX6_event.2.1 86 = .ok (.goto 7, 3) := by decide +kernel
theorem dX6_event_89 : decode mX6_event.2.1 89 = .ok (.iload 5, 2) := by decide +kernel
theorem dX6_event_91 : decode mX6_event.2.1 91 = .ok (.iconst 4, 1) := by decide +kernel
theorem dX6_event_92 : decode mX6_event.2.1 92 = .ok (.idiv, 1) := by decide +kernel
theorem dX6_event_93 : decode mX6_event.2.1 93 = .ok (.ireturn, 1) := by decide +kernel
theorem dX6_why_0 : decode mX6_why.2.1 0 = .ok (.aload_n 0, 1) := by decide +kernel
theorem dX6_why_1 : decode mX6_why.2.1 1 = .ok (.getfield 26, 3) := by decide +kernel
theorem dX6_why_4 : decode mX6_why.2.1 4 = .ok (.iload_n 1, 1) := by decide +kernel
theorem dX6_why_5 : decode mX6_why.2.1 5 = .ok (.invokevirtual 99, 3) := by decide +kernel
theorem dX6_why_8 : decode mX6_why.2.1 8 = .ok (.ifCond .eq 10, 3) := by decide +kernel
theorem dX6_why_11 : decode mX6_why.2.1 11 = .ok (.iload_n 2, 1) := by decide +kernel
theorem dX6_why_12 : decode mX6_why.2.1 12 = .ok (.invokestatic 126, 3) := by decide +kernel
theorem dX6_why_15 : decode mX6_why.2.1 15 = .ok (.ifCond .ne 7, 3) := by decide +kernel
theorem dX6_why_18 : decode mX6_why.2.1 18 = .ok (.sipush (-1001), 3) := by decide +kernel
theorem dX6_why_21 : decode mX6_why.2.1 21 = .ok (.ireturn, 1) := by decide +kernel
theorem dX6_why_22 : decode mX6_why.2.1 22 = .ok (.aload_n 0, 1) := by decide +kernel
theorem dX6_why_23 : decode mX6_why.2.1 23 = .ok (.getfield 49, 3) := by decide +kernel
theorem dX6_why_26 : decode mX6_why.2.1 26 = .ok (.iload_n 1, 1) := by decide +kernel
theorem dX6_why_27 : decode mX6_why.2.1 27 = .ok (.iload_n 2, 1) := by decide +kernel
theorem dX6_why_28 : decode mX6_why.2.1 28 = .ok (.iload_n 3, 1) := by decide +kernel
theorem dX6_why_29 : decode mX6_why.2.1 29 = .ok (.invokevirtual 160, 3) := by decide +kernel
theorem dX6_why_32 : decode mX6_why.2.1 32 = .ok (.ireturn, 1) := by decide +kernel
theorem dX6_where_0 : decode mX6_where.2.1 0 = .ok (.aload_n 0, 1) := by decide +kernel
theorem dX6_where_1 : decode mX6_where.2.1 1 = .ok (.getfield 26, 3) := by decide +kernel
theorem dX6_where_4 : decode mX6_where.2.1 4 = .ok (.iload_n 1, 1) := by decide +kernel
theorem dX6_where_5 : decode mX6_where.2.1 5 = .ok (.invokevirtual 99, 3) := by decide +kernel
theorem dX6_where_8 : decode mX6_where.2.1 8 = .ok (.ifCond .eq 10, 3) := by decide +kernel
theorem dX6_where_11 : decode mX6_where.2.1 11 = .ok (.iload_n 2, 1) := by decide +kernel
theorem dX6_where_12 : decode mX6_where.2.1 12 = .ok (.invokestatic 126, 3) := by decide +kernel
theorem dX6_where_15 : decode mX6_where.2.1 15 = .ok (.ifCond .ne 7, 3) := by decide +kernel
theorem dX6_where_18 : decode mX6_where.2.1 18 = .ok (.sipush (-1001), 3) := by decide +kernel
theorem dX6_where_21 : decode mX6_where.2.1 21 = .ok (.ireturn, 1) := by decide +kernel
theorem dX6_where_22 : decode mX6_where.2.1 22 = .ok (.aload_n 0, 1) := by decide +kernel
theorem dX6_where_23 : decode mX6_where.2.1 23 = .ok (.getfield 49, 3) := by decide +kernel
theorem dX6_where_26 : decode mX6_where.2.1 26 = .ok (.iload_n 1, 1) := by decide +kernel
theorem dX6_where_27 : decode mX6_where.2.1 27 = .ok (.iload_n 2, 1) := by decide +kernel
theorem dX6_where_28 : decode mX6_where.2.1 28 = .ok (.iload_n 3, 1) := by decide +kernel
theorem dX6_where_29 : decode mX6_where.2.1 29 = .ok (.invokevirtual 160, 3) := by decide +kernel
theorem dX6_where_32 : decode mX6_where.2.1 32 = .ok (.pop, 1) := by decide +kernel
theorem dX6_where_33 : decode mX6_where.2.1 33 = .ok (.aload_n 0, 1) := by decide +kernel
theorem dX6_where_34 : decode mX6_where.2.1 34 = .ok (.getfield 49, 3) := by decide +kernel
theorem dX6_where_37 : decode mX6_where.2.1 37 = .ok (.getfield 164, 3) := by decide +kernel
theorem dX6_where_40 : decode mX6_where.2.1 40 = .ok (.ireturn, 1) := by decide +kernel
theorem dX6_move_0 : decode mX6_move.2.1 0 = .ok (.aload_n 0, 1) := by decide +kernel
theorem dX6_move_1 : decode mX6_move.2.1 1 = .ok (.getfield 26, 3) := by decide +kernel
theorem dX6_move_4 : decode mX6_move.2.1 4 = .ok (.iload_n 1, 1) := by decide +kernel
theorem dX6_move_5 : decode mX6_move.2.1 5 = .ok (.invokevirtual 99, 3) := by decide +kernel
theorem dX6_move_8 : decode mX6_move.2.1 8 = .ok (.ifCond .eq 10, 3) := by decide +kernel
theorem dX6_move_11 : decode mX6_move.2.1 11 = .ok (.iload_n 2, 1) := by decide +kernel
theorem dX6_move_12 : decode mX6_move.2.1 12 = .ok (.invokestatic 126, 3) := by decide +kernel
theorem dX6_move_15 : decode mX6_move.2.1 15 = .ok (.ifCond .ne 7, 3) := by decide +kernel
theorem dX6_move_18 : decode mX6_move.2.1 18 = .ok (.sipush (-1001), 3) := by decide +kernel
theorem dX6_move_21 : decode mX6_move.2.1 21 = .ok (.ireturn, 1) := by decide +kernel
theorem dX6_move_22 : decode mX6_move.2.1 22 = .ok (.aload_n 0, 1) := by decide +kernel
theorem dX6_move_23 : decode mX6_move.2.1 23 = .ok (.getfield 49, 3) := by decide +kernel
theorem dX6_move_26 : decode mX6_move.2.1 26 = .ok (.iload_n 1, 1) := by decide +kernel
theorem dX6_move_27 : decode mX6_move.2.1 27 = .ok (.iload_n 2, 1) := by decide +kernel
theorem dX6_move_28 : decode mX6_move.2.1 28 = .ok (.iload_n 3, 1) := by decide +kernel
theorem dX6_move_29 : decode mX6_move.2.1 29 = .ok (.invokevirtual 160, 3) := by decide +kernel
theorem dX6_move_32 : decode mX6_move.2.1 32 = .ok (.ifCond .eq 7, 3) := by decide +kernel
theorem dX6_move_35 : decode mX6_move.2.1 35 = .ok (.sipush (-1003), 3) := by decide +kernel
theorem dX6_move_38 : decode mX6_move.2.1 38 = .ok (.ireturn, 1) := by decide +kernel
theorem dX6_move_39 : decode mX6_move.2.1 39 = .ok (.aload_n 0, 1) := by decide +kernel
theorem dX6_move_40 : decode mX6_move.2.1 40 = .ok (.getfield 49, 3) := by decide +kernel
theorem dX6_move_43 : decode mX6_move.2.1 43 = .ok (.iload_n 1, 1) := by decide +kernel
theorem dX6_move_44 : decode mX6_move.2.1 44 = .ok (.iload_n 2, 1) := by decide +kernel
theorem dX6_move_45 : decode mX6_move.2.1 45 = .ok (.iload_n 3, 1) := by decide +kernel
theorem dX6_move_46 : decode mX6_move.2.1 46 = .ok (.invokevirtual 167, 3) := by decide +kernel
theorem dX6_move_49 : decode mX6_move.2.1 49 = .ok (.ifCond .eq 13, 3) := by decide +kernel
theorem dX6_move_52 : decode mX6_move.2.1 52 = .ok (.aload_n 0, 1) := by decide +kernel
theorem dX6_move_53 : decode mX6_move.2.1 53 = .ok (.getfield 49, 3) := by decide +kernel
theorem dX6_move_56 : decode mX6_move.2.1 56 = .ok (.getfield 171, 3) := by decide +kernel
theorem dX6_move_59 : decode mX6_move.2.1 59 = .ok (.goto 6, 3) := by decide +kernel
theorem dX6_move_62 : decode mX6_move.2.1 62 = .ok (.sipush (-1004), 3) := by decide +kernel
theorem dX6_move_65 : decode mX6_move.2.1 65 = .ok (.ireturn, 1) := by decide +kernel
theorem dX6_undo_0 : decode mX6_undo.2.1 0 = .ok (.aload_n 0, 1) := by decide +kernel
theorem dX6_undo_1 : decode mX6_undo.2.1 1 = .ok (.getfield 49, 3) := by decide +kernel
theorem dX6_undo_4 : decode mX6_undo.2.1 4 = .ok (.invokevirtual 174, 3) := by decide +kernel
theorem dX6_undo_7 : decode mX6_undo.2.1 7 = .ok (.ifCond .eq 13, 3) := by decide +kernel
theorem dX6_undo_10 : decode mX6_undo.2.1 10 = .ok (.aload_n 0, 1) := by decide +kernel
theorem dX6_undo_11 : decode mX6_undo.2.1 11 = .ok (.getfield 49, 3) := by decide +kernel
theorem dX6_undo_14 : decode mX6_undo.2.1 14 = .ok (.getfield 171, 3) := by decide +kernel
theorem dX6_undo_17 : decode mX6_undo.2.1 17 = .ok (.goto 6, 3) := by decide +kernel
theorem dX6_undo_20 : decode mX6_undo.2.1 20 = .ok (.sipush (-1003), 3) := by decide +kernel
theorem dX6_undo_23 : decode mX6_undo.2.1 23 = .ok (.ireturn, 1) := by decide +kernel
theorem dX6_moves_0 : decode mX6_moves.2.1 0 = .ok (.iload_n 1, 1) := by decide +kernel
theorem dX6_moves_1 : decode mX6_moves.2.1 1 = .ok (.ifCond .lt 8, 3) := by decide +kernel
theorem dX6_moves_4 : decode mX6_moves.2.1 4 = .ok (.iload_n 1, 1) := by decide +kernel
theorem dX6_moves_5 : decode mX6_moves.2.1 5 = .ok (.iconst 2, 1) := by decide +kernel
theorem dX6_moves_6 : decode mX6_moves.2.1 6 = .ok (.if_icmp .le 7, 3) := by decide +kernel
theorem dX6_moves_9 : decode mX6_moves.2.1 9 = .ok (.sipush (-1002), 3) := by decide +kernel
theorem dX6_moves_12 : decode mX6_moves.2.1 12 = .ok (.ireturn, 1) := by decide +kernel
theorem dX6_moves_13 : decode mX6_moves.2.1 13 = .ok (.aload_n 0, 1) := by decide +kernel
theorem dX6_moves_14 : decode mX6_moves.2.1 14 = .ok (.getfield 49, 3) := by decide +kernel
theorem dX6_moves_17 : decode mX6_moves.2.1 17 = .ok (.invokevirtual 177, 3) := by decide +kernel
theorem dX6_moves_20 : decode mX6_moves.2.1 20 = .ok (.iload_n 1, 1) := by decide +kernel
theorem dX6_moves_21 : decode mX6_moves.2.1 21 = .ok (.ifCond .ne 13, 3) := by decide +kernel
theorem dX6_moves_24 : decode mX6_moves.2.1 24 = .ok (.aload_n 0, 1) := by decide +kernel
theorem dX6_moves_25 : decode mX6_moves.2.1 25 = .ok (.getfield 49, 3) := by decide +kernel
theorem dX6_moves_28 : decode mX6_moves.2.1 28 = .ok (.getfield 178, 3) := by decide +kernel
theorem dX6_moves_31 : decode mX6_moves.2.1 31 = .ok (.goto 25, 3) := by decide +kernel
theorem dX6_moves_34 : decode mX6_moves.2.1 34 = .ok (.iload_n 1, 1) := by decide +kernel
theorem dX6_moves_35 : decode mX6_moves.2.1 35 = .ok (.iconst 1, 1) := by decide +kernel
theorem dX6_moves_36 : decode mX6_moves.2.1 36 = .ok (.if_icmp .ne 13, 3) := by decide +kernel
theorem dX6_moves_39 : decode mX6_moves.2.1 39 = .ok (.aload_n 0, 1) := by decide +kernel
theorem dX6_moves_40 : decode mX6_moves.2.1 40 = .ok (.getfield 49, 3) := by decide +kernel
theorem dX6_moves_43 : decode mX6_moves.2.1 43 = .ok (.getfield 181, 3) := by decide +kernel
theorem dX6_moves_46 : decode mX6_moves.2.1 46 = .ok (.goto 10, 3) := by decide +kernel
theorem dX6_moves_49 : decode mX6_moves.2.1 49 = .ok (.aload_n 0, 1) := by decide +kernel
theorem dX6_moves_50 : decode mX6_moves.2.1 50 = .ok (.getfield 49, 3) := by decide +kernel
theorem dX6_moves_53 : decode mX6_moves.2.1 53 = .ok (.getfield 184, 3) := by decide +kernel
theorem dX6_moves_56 : decode mX6_moves.2.1 56 = .ok (.ireturn, 1) := by decide +kernel
theorem dX6_contract_0 : decode mX6_contract.2.1 0 = .ok (.iload_n 1, 1) := by decide +kernel
theorem dX6_contract_1 : decode mX6_contract.2.1 1 = .ok (.iconst 1, 1) := by decide +kernel
theorem dX6_contract_2 : decode mX6_contract.2.1 2 = .ok (.if_icmp .lt 9, 3) := by decide +kernel
theorem dX6_contract_5 : decode mX6_contract.2.1 5 = .ok (.iload_n 1, 1) := by decide +kernel
theorem dX6_contract_6 : decode mX6_contract.2.1 6 = .ok (.bipush 64, 2) := by decide +kernel
theorem dX6_contract_8 : decode mX6_contract.2.1 8 = .ok (.if_icmp .lt 7, 3) := by decide +kernel
theorem dX6_contract_11 : decode mX6_contract.2.1 11 = .ok (.sipush (-1002), 3) := by decide +kernel
theorem dX6_contract_14 : decode mX6_contract.2.1 14 = .ok (.ireturn, 1) := by decide +kernel
theorem dX6_contract_15 : decode mX6_contract.2.1 15 = .ok (.aload_n 0, 1) := by decide +kernel
theorem dX6_contract_16 : decode mX6_contract.2.1 16 = .ok (.getfield 57, 3) := by decide +kernel
theorem dX6_contract_19 : decode mX6_contract.2.1 19 = .ok (.bipush 6, 2) := by decide +kernel
theorem dX6_contract_21 : decode mX6_contract.2.1 21 = .ok (.if_icmp .lt 7, 3) := by decide +kernel
theorem dX6_contract_24 : decode mX6_contract.2.1 24 = .ok (.sipush (-1004), 3) := by decide +kernel
theorem dX6_contract_27 : decode mX6_contract.2.1 27 = .ok (.ireturn, 1) := by decide +kernel
theorem dX6_contract_28 : decode mX6_contract.2.1 28 = .ok (.aload_n 0, 1) := by decide +kernel
theorem dX6_contract_29 : decode mX6_contract.2.1 29 = .ok (.getfield 53, 3) := by decide +kernel
theorem dX6_contract_32 : decode mX6_contract.2.1 32 = .ok (.aload_n 0, 1) := by decide +kernel
theorem dX6_contract_33 : decode mX6_contract.2.1 33 = .ok (.getfield 57, 3) := by decide +kernel
theorem dX6_contract_36 : decode mX6_contract.2.1 36 = .ok (.iload_n 1, 1) := by decide +kernel
theorem dX6_contract_37 : decode mX6_contract.2.1 37 = .ok (.iastore, 1) := by decide +kernel
theorem dX6_contract_38 : decode mX6_contract.2.1 38 = .ok (.aload_n 0, 1) := by decide +kernel
theorem dX6_contract_39 : decode mX6_contract.2.1 39 = .ok (.dup, 1) := by decide +kernel
theorem dX6_contract_40 : decode mX6_contract.2.1 40 = .ok (.getfield 57, 3) := by decide +kernel
theorem dX6_contract_43 : decode mX6_contract.2.1 43 = .ok (.iconst 1, 1) := by decide +kernel
theorem dX6_contract_44 : decode mX6_contract.2.1 44 = .ok (.iadd, 1) := by decide +kernel
theorem dX6_contract_45 : decode mX6_contract.2.1 45 = .ok (.putfield 57, 3) := by decide +kernel
theorem dX6_contract_48 : decode mX6_contract.2.1 48 = .ok (.aload_n 0, 1) := by decide +kernel
theorem dX6_contract_49 : decode mX6_contract.2.1 49 = .ok (.getfield 57, 3) := by decide +kernel
theorem dX6_contract_52 : decode mX6_contract.2.1 52 = .ok (.iconst 1, 1) := by decide +kernel
theorem dX6_contract_53 : decode mX6_contract.2.1 53 = .ok (.isub, 1) := by decide +kernel
theorem dX6_contract_54 : decode mX6_contract.2.1 54 = .ok (.ireturn, 1) := by decide +kernel
theorem dX6_fit_0 : decode mX6_fit.2.1 0 = .ok (.iload_n 1, 1) := by decide +kernel
theorem dX6_fit_1 : decode mX6_fit.2.1 1 = .ok (.ifCond .lt 17, 3) := by decide +kernel
theorem dX6_fit_4 : decode mX6_fit.2.1 4 = .ok (.iload_n 1, 1) := by decide +kernel
theorem dX6_fit_5 : decode mX6_fit.2.1 5 = .ok (.aload_n 0, 1) := by decide +kernel
theorem dX6_fit_6 : decode mX6_fit.2.1 6 = .ok (.getfield 57, 3) := by decide +kernel
theorem dX6_fit_9 : decode mX6_fit.2.1 9 = .ok (.if_icmp .ge 9, 3) := by decide +kernel
theorem dX6_fit_12 : decode mX6_fit.2.1 12 = .ok (.iload_n 1, 1) := by decide +kernel
theorem dX6_fit_13 : decode mX6_fit.2.1 13 = .ok (.bipush 6, 2) := by decide +kernel
theorem dX6_fit_15 : decode mX6_fit.2.1 15 = .ok (.if_icmp .lt 7, 3) := by decide +kernel
theorem dX6_fit_18 : decode mX6_fit.2.1 18 = .ok (.sipush (-1001), 3) := by decide +kernel
theorem dX6_fit_21 : decode mX6_fit.2.1 21 = .ok (.ireturn, 1) := by decide +kernel
theorem dX6_fit_22 : decode mX6_fit.2.1 22 = .ok (.aload_n 0, 1) := by decide +kernel
theorem dX6_fit_23 : decode mX6_fit.2.1 23 = .ok (.getfield 53, 3) := by decide +kernel
theorem dX6_fit_26 : decode mX6_fit.2.1 26 = .ok (.iload_n 1, 1) := by decide +kernel
theorem dX6_fit_27 : decode mX6_fit.2.1 27 = .ok (.iaload, 1) := by decide +kernel
theorem dX6_fit_28 : decode mX6_fit.2.1 28 = .ok (.istore_n 3, 1) := by decide +kernel
theorem dX6_fit_29 : decode mX6_fit.2.1 29 = .ok (.iload_n 2, 1) := by decide +kernel
theorem dX6_fit_30 : decode mX6_fit.2.1 30 = .ok (.tableswitch 40 0 2 #[26, 28, 34], 26) := by decide +kernel
theorem dX6_fit_56 : decode mX6_fit.2.1 56 = .ok (.iload_n 3, 1) := by decide +kernel
theorem dX6_fit_57 : decode mX6_fit.2.1 57 = .ok (.ireturn, 1) := by decide +kernel
theorem dX6_fit_58 : decode mX6_fit.2.1 58 = .ok (.aload_n 0, 1) := by decide +kernel
theorem dX6_fit_59 : decode mX6_fit.2.1 59 = .ok (.iload_n 3, 1) := by decide +kernel
theorem dX6_fit_60 : decode mX6_fit.2.1 60 = .ok (.invokevirtual 187, 3) := by decide +kernel
theorem dX6_fit_63 : decode mX6_fit.2.1 63 = .ok (.ireturn, 1) := by decide +kernel
theorem dX6_fit_64 : decode mX6_fit.2.1 64 = .ok (.aload_n 0, 1) := by decide +kernel
theorem dX6_fit_65 : decode mX6_fit.2.1 65 = .ok (.iload_n 3, 1) := by decide +kernel
theorem dX6_fit_66 : decode mX6_fit.2.1 66 = .ok (.invokevirtual 190, 3) := by decide +kernel
theorem dX6_fit_69 : decode mX6_fit.2.1 69 = .ok (.ireturn, 1) := by decide +kernel
theorem dX6_fit_70 : decode mX6_fit.2.1 70 = .ok (.sipush (-1002), 3) := by decide +kernel
theorem dX6_fit_73 : decode mX6_fit.2.1 73 = .ok (.ireturn, 1) := by decide +kernel
theorem dX6_common_0 : decode mX6_common.2.1 0 = .ok (.iload_n 1, 1) := by decide +kernel
theorem dX6_common_1 : decode mX6_common.2.1 1 = .ok (.iconst 1, 1) := by decide +kernel
theorem dX6_common_2 : decode mX6_common.2.1 2 = .ok (.if_icmp .lt 16, 3) := by decide +kernel
theorem dX6_common_5 : decode mX6_common.2.1 5 = .ok (.iload_n 1, 1) := by decide +kernel
theorem dX6_common_6 : decode mX6_common.2.1 6 = .ok (.iconst 1, 1) := by decide +kernel
theorem dX6_common_7 : decode mX6_common.2.1 7 = .ok (.aload_n 0, 1) := by decide +kernel
theorem dX6_common_8 : decode mX6_common.2.1 8 = .ok (.getfield 26, 3) := by decide +kernel
theorem dX6_common_11 : decode mX6_common.2.1 11 = .ok (.getfield 71, 3) := by decide +kernel
theorem dX6_common_14 : decode mX6_common.2.1 14 = .ok (.ishl, 1) := by decide +kernel
theorem dX6_common_15 : decode mX6_common.2.1 15 = .ok (.if_icmp .lt 7, 3) := by decide +kernel
theorem dX6_common_18 : decode mX6_common.2.1 18 = .ok (.sipush (-1002), 3) := by decide +kernel
theorem dX6_common_21 : decode mX6_common.2.1 21 = .ok (.ireturn, 1) := by decide +kernel
theorem dX6_common_22 : decode mX6_common.2.1 22 = .ok (.bipush 63, 2) := by decide +kernel
theorem dX6_common_24 : decode mX6_common.2.1 24 = .ok (.istore_n 2, 1) := by decide +kernel
theorem dX6_common_25 : decode mX6_common.2.1 25 = .ok (.iconst 0, 1) := by decide +kernel
theorem dX6_common_26 : decode mX6_common.2.1 26 = .ok (.istore_n 3, 1) := by decide +kernel
theorem dX6_common_27 : decode mX6_common.2.1 27 = .ok (.iload_n 3, 1) := by decide +kernel
theorem dX6_common_28 : decode mX6_common.2.1 28 = .ok (.aload_n 0, 1) := by decide +kernel
theorem dX6_common_29 : decode mX6_common.2.1 29 = .ok (.getfield 26, 3) := by decide +kernel
theorem dX6_common_32 : decode mX6_common.2.1 32 = .ok (.getfield 71, 3) := by decide +kernel
theorem dX6_common_35 : decode mX6_common.2.1 35 = .ok (.if_icmp .ge 28, 3) := by decide +kernel
theorem dX6_common_38 : decode mX6_common.2.1 38 = .ok (.iload_n 1, 1) := by decide +kernel
theorem dX6_common_39 : decode mX6_common.2.1 39 = .ok (.iload_n 3, 1) := by decide +kernel
theorem dX6_common_40 : decode mX6_common.2.1 40 = .ok (.ishr, 1) := by decide +kernel
theorem dX6_common_41 : decode mX6_common.2.1 41 = .ok (.iconst 1, 1) := by decide +kernel
theorem dX6_common_42 : decode mX6_common.2.1 42 = .ok (.iand, 1) := by decide +kernel
theorem dX6_common_43 : decode mX6_common.2.1 43 = .ok (.ifCond .eq 14, 3) := by decide +kernel
theorem dX6_common_46 : decode mX6_common.2.1 46 = .ok (.iload_n 2, 1) := by decide +kernel
theorem dX6_common_47 : decode mX6_common.2.1 47 = .ok (.aload_n 0, 1) := by decide +kernel
theorem dX6_common_48 : decode mX6_common.2.1 48 = .ok (.getfield 26, 3) := by decide +kernel
theorem dX6_common_51 : decode mX6_common.2.1 51 = .ok (.iload_n 3, 1) := by decide +kernel
theorem dX6_common_52 : decode mX6_common.2.1 52 = .ok (.invokevirtual 120, 3) := by decide +kernel
theorem dX6_common_55 : decode mX6_common.2.1 55 = .ok (.iand, 1) := by decide +kernel
theorem dX6_common_56 : decode mX6_common.2.1 56 = .ok (.istore_n 2, 1) := by decide +kernel
theorem dX6_common_57 : decode mX6_common.2.1 57 = .ok (.iinc 3 1, 3) := by decide +kernel
theorem dX6_common_60 : decode mX6_common.2.1 60 = .ok (.goto (-33), 3) := by decide +kernel
theorem dX6_common_63 : decode mX6_common.2.1 63 = .ok (.iload_n 2, 1) := by decide +kernel
theorem dX6_common_64 : decode mX6_common.2.1 64 = .ok (.ireturn, 1) := by decide +kernel
theorem dX6_dead_0 : decode mX6_dead.2.1 0 = .ok (.aload_n 0, 1) := by decide +kernel
theorem dX6_dead_1 : decode mX6_dead.2.1 1 = .ok (.getfield 26, 3) := by decide +kernel
theorem dX6_dead_4 : decode mX6_dead.2.1 4 = .ok (.iload_n 1, 1) := by decide +kernel
theorem dX6_dead_5 : decode mX6_dead.2.1 5 = .ok (.invokevirtual 139, 3) := by decide +kernel
theorem dX6_dead_8 : decode mX6_dead.2.1 8 = .ok (.ifCond .ne 7, 3) := by decide +kernel
theorem dX6_dead_11 : decode mX6_dead.2.1 11 = .ok (.sipush (-1001), 3) := by decide +kernel
theorem dX6_dead_14 : decode mX6_dead.2.1 14 = .ok (.ireturn, 1) := by decide +kernel
theorem dX6_dead_15 : decode mX6_dead.2.1 15 = .ok (.aload_n 0, 1) := by decide +kernel
theorem dX6_dead_16 : decode mX6_dead.2.1 16 = .ok (.getfield 40, 3) := by decide +kernel
theorem dX6_dead_19 : decode mX6_dead.2.1 19 = .ok (.invokevirtual 148, 3) := by decide +kernel
theorem dX6_dead_22 : decode mX6_dead.2.1 22 = .ok (.aload_n 0, 1) := by decide +kernel
theorem dX6_dead_23 : decode mX6_dead.2.1 23 = .ok (.getfield 40, 3) := by decide +kernel
theorem dX6_dead_26 : decode mX6_dead.2.1 26 = .ok (.iload_n 1, 1) := by decide +kernel
theorem dX6_dead_27 : decode mX6_dead.2.1 27 = .ok (.invokevirtual 193, 3) := by decide +kernel
theorem dX6_dead_30 : decode mX6_dead.2.1 30 = .ok (.ifCond .eq 7, 3) := by decide +kernel
theorem dX6_dead_33 : decode mX6_dead.2.1 33 = .ok (.iconst 0, 1) := by decide +kernel
theorem dX6_dead_34 : decode mX6_dead.2.1 34 = .ok (.goto 4, 3) := by decide +kernel
theorem dX6_dead_37 : decode mX6_dead.2.1 37 = .ok (.iconst 1, 1) := by decide +kernel
theorem dX6_dead_38 : decode mX6_dead.2.1 38 = .ok (.ireturn, 1) := by decide +kernel
theorem dX6_count_0 : decode mX6_count.2.1 0 = .ok (.iload_n 1, 1) := by decide +kernel
theorem dX6_count_1 : decode mX6_count.2.1 1 = .ok (.tableswitch 142 0 8 #[51, 59, 67, 75, 83, 88, 96, 104, 127], 51) := by decide +kernel
theorem dX6_count_52 : decode mX6_count.2.1 52 = .ok (.aload_n 0, 1) := by decide +kernel
theorem dX6_count_53 : decode mX6_count.2.1 53 = .ok (.getfield 10, 3) := by decide +kernel
theorem dX6_count_56 : decode mX6_count.2.1 56 = .ok (.getfield 65, 3) := by decide +kernel
theorem dX6_count_59 : decode mX6_count.2.1 59 = .ok (.ireturn, 1) := by decide +kernel
theorem dX6_count_60 : decode mX6_count.2.1 60 = .ok (.aload_n 0, 1) := by decide +kernel
theorem dX6_count_61 : decode mX6_count.2.1 61 = .ok (.getfield 26, 3) := by decide +kernel
theorem dX6_count_64 : decode mX6_count.2.1 64 = .ok (.getfield 71, 3) := by decide +kernel
theorem dX6_count_67 : decode mX6_count.2.1 67 = .ok (.ireturn, 1) := by decide +kernel
theorem dX6_count_68 : decode mX6_count.2.1 68 = .ok (.aload_n 0, 1) := by decide +kernel
theorem dX6_count_69 : decode mX6_count.2.1 69 = .ok (.getfield 26, 3) := by decide +kernel
theorem dX6_count_72 : decode mX6_count.2.1 72 = .ok (.getfield 196, 3) := by decide +kernel
theorem dX6_count_75 : decode mX6_count.2.1 75 = .ok (.ireturn, 1) := by decide +kernel
theorem dX6_count_76 : decode mX6_count.2.1 76 = .ok (.aload_n 0, 1) := by decide +kernel
theorem dX6_count_77 : decode mX6_count.2.1 77 = .ok (.getfield 49, 3) := by decide +kernel
theorem dX6_count_80 : decode mX6_count.2.1 80 = .ok (.getfield 171, 3) := by decide +kernel
theorem dX6_count_83 : decode mX6_count.2.1 83 = .ok (.ireturn, 1) := by decide +kernel
theorem dX6_count_84 : decode mX6_count.2.1 84 = .ok (.aload_n 0, 1) := by decide +kernel
theorem dX6_count_85 : decode mX6_count.2.1 85 = .ok (.getfield 57, 3) := by decide +kernel
theorem dX6_count_88 : decode mX6_count.2.1 88 = .ok (.ireturn, 1) := by decide +kernel
theorem dX6_count_89 : decode mX6_count.2.1 89 = .ok (.aload_n 0, 1) := by decide +kernel
theorem dX6_count_90 : decode mX6_count.2.1 90 = .ok (.getfield 49, 3) := by decide +kernel
theorem dX6_count_93 : decode mX6_count.2.1 93 = .ok (.getfield 199, 3) := by decide +kernel
theorem dX6_count_96 : decode mX6_count.2.1 96 = .ok (.ireturn, 1) := by decide +kernel
theorem dX6_count_97 : decode mX6_count.2.1 97 = .ok (.aload_n 0, 1) := by decide +kernel
theorem dX6_count_98 : decode mX6_count.2.1 98 = .ok (.getfield 49, 3) := by decide +kernel
theorem dX6_count_101 : decode mX6_count.2.1 101 = .ok (.getfield 202, 3) := by decide +kernel
theorem dX6_count_104 : decode mX6_count.2.1 104 = .ok (.ireturn, 1) := by decide +kernel
theorem dX6_count_105 : decode mX6_count.2.1 105 = .ok (.aload_n 0, 1) := by decide +kernel
theorem dX6_count_106 : decode mX6_count.2.1 106 = .ok (.getfield 40, 3) := by decide +kernel
theorem dX6_count_109 : decode mX6_count.2.1 109 = .ok (.invokevirtual 148, 3) := by decide +kernel
theorem dX6_count_112 : decode mX6_count.2.1 112 = .ok (.aload_n 0, 1) := by decide +kernel
theorem dX6_count_113 : decode mX6_count.2.1 113 = .ok (.getfield 26, 3) := by decide +kernel
theorem dX6_count_116 : decode mX6_count.2.1 116 = .ok (.getfield 196, 3) := by decide +kernel
theorem dX6_count_119 : decode mX6_count.2.1 119 = .ok (.aload_n 0, 1) := by decide +kernel
theorem dX6_count_120 : decode mX6_count.2.1 120 = .ok (.getfield 40, 3) := by decide +kernel
theorem dX6_count_123 : decode mX6_count.2.1 123 = .ok (.invokevirtual 205, 3) := by decide +kernel
theorem dX6_count_126 : decode mX6_count.2.1 126 = .ok (.isub, 1) := by decide +kernel
theorem dX6_count_127 : decode mX6_count.2.1 127 = .ok (.ireturn, 1) := by decide +kernel
theorem dX6_count_128 : decode mX6_count.2.1 128 = .ok (.aload_n 0, 1) := by decide +kernel
theorem dX6_count_129 : decode mX6_count.2.1 129 = .ok (.getfield 40, 3) := by decide +kernel
theorem dX6_count_132 : decode mX6_count.2.1 132 = .ok (.invokevirtual 148, 3) := by decide +kernel
theorem dX6_count_135 : decode mX6_count.2.1 135 = .ok (.aload_n 0, 1) := by decide +kernel
theorem dX6_count_136 : decode mX6_count.2.1 136 = .ok (.getfield 40, 3) := by decide +kernel
theorem dX6_count_139 : decode mX6_count.2.1 139 = .ok (.getfield 209, 3) := by decide +kernel
theorem dX6_count_142 : decode mX6_count.2.1 142 = .ok (.ireturn, 1) := by decide +kernel
theorem dX6_count_143 : decode mX6_count.2.1 143 = .ok (.sipush (-1002), 3) := by decide +kernel
theorem dX6_count_146 : decode mX6_count.2.1 146 = .ok (.ireturn, 1) := by decide +kernel
theorem dX6_digest_0 : decode mX6_digest.2.1 0 = .ok (.aload_n 0, 1) := by decide +kernel
theorem dX6_digest_1 : decode mX6_digest.2.1 1 = .ok (.getfield 40, 3) := by decide +kernel
theorem dX6_digest_4 : decode mX6_digest.2.1 4 = .ok (.invokevirtual 148, 3) := by decide +kernel
theorem dX6_digest_7 : decode mX6_digest.2.1 7 = .ok (.aload_n 0, 1) := by decide +kernel
theorem dX6_digest_8 : decode mX6_digest.2.1 8 = .ok (.getfield 49, 3) := by decide +kernel
theorem dX6_digest_11 : decode mX6_digest.2.1 11 = .ok (.invokevirtual 177, 3) := by decide +kernel
theorem dX6_digest_14 : decode mX6_digest.2.1 14 = .ok (.ldc2_w 212, 3) := by decide +kernel
theorem dX6_digest_17 : decode mX6_digest.2.1 17 = .ok (.lstore_n 1, 1) := by decide +kernel
theorem dX6_digest_18 : decode mX6_digest.2.1 18 = .ok (.iconst 0, 1) := by decide +kernel
theorem dX6_digest_19 : decode mX6_digest.2.1 19 = .ok (.istore_n 3, 1) := by decide +kernel
theorem dX6_digest_20 : decode mX6_digest.2.1 20 = .ok (.iload_n 3, 1) := by decide +kernel
theorem dX6_digest_21 : decode mX6_digest.2.1 21 = .ok (.aload_n 0, 1) := by decide +kernel
theorem dX6_digest_22 : decode mX6_digest.2.1 22 = .ok (.getfield 26, 3) := by decide +kernel
theorem dX6_digest_25 : decode mX6_digest.2.1 25 = .ok (.getfield 71, 3) := by decide +kernel
theorem dX6_digest_28 : decode mX6_digest.2.1 28 = .ok (.if_icmp .ge 16, 3) := by decide +kernel
theorem dX6_digest_31 : decode mX6_digest.2.1 31 = .ok (.aload_n 0, 1) := by decide +kernel
theorem dX6_digest_32 : decode mX6_digest.2.1 32 = .ok (.lload_n 1, 1) := by decide +kernel
theorem dX6_digest_33 : decode mX6_digest.2.1 33 = .ok (.iload_n 3, 1) := by decide +kernel
theorem dX6_digest_34 : decode mX6_digest.2.1 34 = .ok (.invokevirtual 214, 3) := by decide +kernel
theorem dX6_digest_37 : decode mX6_digest.2.1 37 = .ok (.lstore_n 1, 1) := by decide +kernel
theorem dX6_digest_38 : decode mX6_digest.2.1 38 = .ok (.iinc 3 1, 3) := by decide +kernel
theorem dX6_digest_41 : decode mX6_digest.2.1 41 = .ok (.goto (-21), 3) := by decide +kernel
theorem dX6_digest_44 : decode mX6_digest.2.1 44 = .ok (.iconst 0, 1) := by decide +kernel
theorem dX6_digest_45 : decode mX6_digest.2.1 45 = .ok (.istore_n 3, 1) := by decide +kernel
theorem dX6_digest_46 : decode mX6_digest.2.1 46 = .ok (.iload_n 3, 1) := by decide +kernel
theorem dX6_digest_47 : decode mX6_digest.2.1 47 = .ok (.aload_n 0, 1) := by decide +kernel
theorem dX6_digest_48 : decode mX6_digest.2.1 48 = .ok (.getfield 26, 3) := by decide +kernel
theorem dX6_digest_51 : decode mX6_digest.2.1 51 = .ok (.getfield 196, 3) := by decide +kernel
theorem dX6_digest_54 : decode mX6_digest.2.1 54 = .ok (.if_icmp .ge 16, 3) := by decide +kernel
theorem dX6_digest_57 : decode mX6_digest.2.1 57 = .ok (.aload_n 0, 1) := by decide +kernel
theorem dX6_digest_58 : decode mX6_digest.2.1 58 = .ok (.lload_n 1, 1) := by decide +kernel
theorem dX6_digest_59 : decode mX6_digest.2.1 59 = .ok (.iload_n 3, 1) := by decide +kernel
theorem dX6_digest_60 : decode mX6_digest.2.1 60 = .ok (.invokevirtual 218, 3) := by decide +kernel
theorem dX6_digest_63 : decode mX6_digest.2.1 63 = .ok (.lstore_n 1, 1) := by decide +kernel
theorem dX6_digest_64 : decode mX6_digest.2.1 64 = .ok (.iinc 3 1, 3) := by decide +kernel
theorem dX6_digest_67 : decode mX6_digest.2.1 67 = .ok (.goto (-21), 3) := by decide +kernel
theorem dX6_digest_70 : decode mX6_digest.2.1 70 = .ok (.lload_n 1, 1) := by decide +kernel
theorem dX6_digest_71 : decode mX6_digest.2.1 71 = .ok (.aload_n 0, 1) := by decide +kernel
theorem dX6_digest_72 : decode mX6_digest.2.1 72 = .ok (.getfield 49, 3) := by decide +kernel
theorem dX6_digest_75 : decode mX6_digest.2.1 75 = .ok (.getfield 178, 3) := by decide +kernel
theorem dX6_digest_78 : decode mX6_digest.2.1 78 = .ok (.i2l, 1) := by decide +kernel
theorem dX6_digest_79 : decode mX6_digest.2.1 79 = .ok (.invokestatic 221, 3) := by decide +kernel
theorem dX6_digest_82 : decode mX6_digest.2.1 82 = .ok (.aload_n 0, 1) := by decide +kernel
theorem dX6_digest_83 : decode mX6_digest.2.1 83 = .ok (.getfield 49, 3) := by decide +kernel
theorem dX6_digest_86 : decode mX6_digest.2.1 86 = .ok (.getfield 181, 3) := by decide +kernel
theorem dX6_digest_89 : decode mX6_digest.2.1 89 = .ok (.i2l, 1) := by decide +kernel
theorem dX6_digest_90 : decode mX6_digest.2.1 90 = .ok (.invokestatic 221, 3) := by decide +kernel
theorem dX6_digest_93 : decode mX6_digest.2.1 93 = .ok (.aload_n 0, 1) := by decide +kernel
theorem dX6_digest_94 : decode mX6_digest.2.1 94 = .ok (.getfield 49, 3) := by decide +kernel
theorem dX6_digest_97 : decode mX6_digest.2.1 97 = .ok (.getfield 184, 3) := by decide +kernel
theorem dX6_digest_100 : decode mX6_digest.2.1 100 = .ok (.i2l, 1) := by decide +kernel
theorem dX6_digest_101 : decode mX6_digest.2.1 101 = .ok (.invokestatic 221, 3) := by decide +kernel
theorem dX6_digest_104 : decode mX6_digest.2.1 104 = .ok (.lstore_n 1, 1) := by decide +kernel
theorem dX6_digest_105 : decode mX6_digest.2.1 105 = .ok (.iconst 0, 1) := by decide +kernel
theorem dX6_digest_106 : decode mX6_digest.2.1 106 = .ok (.istore_n 3, 1) := by decide +kernel
theorem dX6_digest_107 : decode mX6_digest.2.1 107 = .ok (.iload_n 3, 1) := by decide +kernel
theorem dX6_digest_108 : decode mX6_digest.2.1 108 = .ok (.aload_n 0, 1) := by decide +kernel
theorem dX6_digest_109 : decode mX6_digest.2.1 109 = .ok (.getfield 57, 3) := by decide +kernel
theorem dX6_digest_112 : decode mX6_digest.2.1 112 = .ok (.if_icmp .ge 37, 3) := by decide +kernel
theorem dX6_digest_115 : decode mX6_digest.2.1 115 = .ok (.iconst 0, 1) := by decide +kernel
theorem dX6_digest_116 : decode mX6_digest.2.1 116 = .ok (.istore 4, 2) := by decide +kernel
theorem dX6_digest_118 : decode mX6_digest.2.1 118 = .ok (.iload 4, 2) := by decide +kernel
theorem dX6_digest_120 : decode mX6_digest.2.1 120 = .ok (.iconst 2, 1) := by decide +kernel
theorem dX6_digest_121 : decode mX6_digest.2.1 121 = .ok (.if_icmp .gt 22, 3) := by decide +kernel
theorem dX6_digest_124 : decode mX6_digest.2.1 124 = .ok (.lload_n 1, 1) := by decide +kernel
theorem dX6_digest_125 : decode mX6_digest.2.1 125 = .ok (.aload_n 0, 1) := by decide +kernel
theorem dX6_digest_126 : decode mX6_digest.2.1 126 = .ok (.iload_n 3, 1) := by decide +kernel
theorem dX6_digest_127 : decode mX6_digest.2.1 127 = .ok (.iload 4, 2) := by decide +kernel
theorem dX6_digest_129 : decode mX6_digest.2.1 129 = .ok (.invokevirtual 225, 3) := by decide +kernel
theorem dX6_digest_132 : decode mX6_digest.2.1 132 = .ok (.i2l, 1) := by decide +kernel
theorem dX6_digest_133 : decode mX6_digest.2.1 133 = .ok (.invokestatic 221, 3) := by decide +kernel
theorem dX6_digest_136 : decode mX6_digest.2.1 136 = .ok (.lstore_n 1, 1) := by decide +kernel
theorem dX6_digest_137 : decode mX6_digest.2.1 137 = .ok (.iinc 4 1, 3) := by decide +kernel
theorem dX6_digest_140 : decode mX6_digest.2.1 140 = .ok (.goto (-22), 3) := by decide +kernel
theorem dX6_digest_143 : decode mX6_digest.2.1 143 = .ok (.iinc 3 1, 3) := by decide +kernel
theorem dX6_digest_146 : decode mX6_digest.2.1 146 = .ok (.goto (-39), 3) := by decide +kernel
theorem dX6_digest_149 : decode mX6_digest.2.1 149 = .ok (.iconst 0, 1) := by decide +kernel
theorem dX6_digest_150 : decode mX6_digest.2.1 150 = .ok (.istore_n 3, 1) := by decide +kernel
theorem dX6_digest_151 : decode mX6_digest.2.1 151 = .ok (.iload_n 3, 1) := by decide +kernel
theorem dX6_digest_152 : decode mX6_digest.2.1 152 = .ok (.aload_n 0, 1) := by decide +kernel
theorem dX6_digest_153 : decode mX6_digest.2.1 153 = .ok (.getfield 10, 3) := by decide +kernel
theorem dX6_digest_156 : decode mX6_digest.2.1 156 = .ok (.getfield 65, 3) := by decide +kernel
theorem dX6_digest_159 : decode mX6_digest.2.1 159 = .ok (.if_icmp .ge 23, 3) := by decide +kernel
theorem dX6_digest_162 : decode mX6_digest.2.1 162 = .ok (.lload_n 1, 1) := by decide +kernel
theorem dX6_digest_163 : decode mX6_digest.2.1 163 = .ok (.aload_n 0, 1) := by decide +kernel
theorem dX6_digest_164 : decode mX6_digest.2.1 164 = .ok (.getfield 10, 3) := by decide +kernel
theorem dX6_digest_167 : decode mX6_digest.2.1 167 = .ok (.iload_n 3, 1) := by decide +kernel
theorem dX6_digest_168 : decode mX6_digest.2.1 168 = .ok (.invokevirtual 228, 3) := by decide +kernel
theorem dX6_digest_171 : decode mX6_digest.2.1 171 = .ok (.i2l, 1) := by decide +kernel
theorem dX6_digest_172 : decode mX6_digest.2.1 172 = .ok (.invokestatic 221, 3) := by decide +kernel
theorem dX6_digest_175 : decode mX6_digest.2.1 175 = .ok (.lstore_n 1, 1) := by decide +kernel
theorem dX6_digest_176 : decode mX6_digest.2.1 176 = .ok (.iinc 3 1, 3) := by decide +kernel
theorem dX6_digest_179 : decode mX6_digest.2.1 179 = .ok (.goto (-28), 3) := by decide +kernel
theorem dX6_digest_182 : decode mX6_digest.2.1 182 = .ok (.iconst 0, 1) := by decide +kernel
theorem dX6_digest_183 : decode mX6_digest.2.1 183 = .ok (.istore_n 3, 1) := by decide +kernel
theorem dX6_digest_184 : decode mX6_digest.2.1 184 = .ok (.iload_n 3, 1) := by decide +kernel
theorem dX6_digest_185 : decode mX6_digest.2.1 185 = .ok (.bipush 8, 2) := by decide +kernel
theorem dX6_digest_187 : decode mX6_digest.2.1 187 = .ok (.if_icmp .gt 20, 3) := by decide +kernel
theorem dX6_digest_190 : decode mX6_digest.2.1 190 = .ok (.lload_n 1, 1) := by decide +kernel
theorem dX6_digest_191 : decode mX6_digest.2.1 191 = .ok (.aload_n 0, 1) := by decide +kernel
theorem dX6_digest_192 : decode mX6_digest.2.1 192 = .ok (.iload_n 3, 1) := by decide +kernel
theorem dX6_digest_193 : decode mX6_digest.2.1 193 = .ok (.invokevirtual 231, 3) := by decide +kernel
theorem dX6_digest_196 : decode mX6_digest.2.1 196 = .ok (.i2l, 1) := by decide +kernel
theorem dX6_digest_197 : decode mX6_digest.2.1 197 = .ok (.invokestatic 221, 3) := by decide +kernel
theorem dX6_digest_200 : decode mX6_digest.2.1 200 = .ok (.lstore_n 1, 1) := by decide +kernel
theorem dX6_digest_201 : decode mX6_digest.2.1 201 = .ok (.iinc 3 1, 3) := by decide +kernel
theorem dX6_digest_204 : decode mX6_digest.2.1 204 = .ok (.goto (-20), 3) := by decide +kernel
theorem dX6_digest_207 : decode mX6_digest.2.1 207 = .ok (.lload_n 1, 1) := by decide +kernel
theorem dX6_digest_208 : decode mX6_digest.2.1 208 = .ok (.lreturn, 1) := by decide +kernel
theorem dX6_withType_0 : decode mX6_withType.2.1 0 = .ok (.lload_n 1, 1) := by decide +kernel
theorem dX6_withType_1 : decode mX6_withType.2.1 1 = .ok (.lstore 4, 2) := by decide +kernel
theorem dX6_withType_3 : decode mX6_withType.2.1 3 = .ok (.iconst 0, 1) := by decide +kernel
theorem dX6_withType_4 : decode mX6_withType.2.1 4 = .ok (.istore 6, 2) := by decide +kernel
theorem dX6_withType_6 : decode mX6_withType.2.1 6 = .ok (.iload 6, 2) := by decide +kernel
theorem dX6_withType_8 : decode mX6_withType.2.1 8 = .ok (.bipush 6, 2) := by decide +kernel
theorem dX6_withType_10 : decode mX6_withType.2.1 10 = .ok (.if_icmp .gt 24, 3) := by decide +kernel
theorem dX6_withType_13 : decode mX6_withType.2.1 13 = .ok (.lload 4, 2) := by decide +kernel
theorem dX6_withType_15 : decode mX6_withType.2.1 15 = .ok (.aload_n 0, 1) := by decide +kernel
theorem dX6_withType_16 : decode mX6_withType.2.1 16 = .ok (.iload_n 3, 1) := by decide +kernel
theorem dX6_withType_17 : decode mX6_withType.2.1 17 = .ok (.iload 6, 2) := by decide +kernel
theorem dX6_withType_19 : decode mX6_withType.2.1 19 = .ok (.invokevirtual 234, 3) := by decide +kernel
theorem dX6_withType_22 : decode mX6_withType.2.1 22 = .ok (.i2l, 1) := by decide +kernel
theorem dX6_withType_23 : decode mX6_withType.2.1 23 = .ok (.invokestatic 221, 3) := by decide +kernel
theorem dX6_withType_26 : decode mX6_withType.2.1 26 = .ok (.lstore 4, 2) := by decide +kernel
theorem dX6_withType_28 : decode mX6_withType.2.1 28 = .ok (.iinc 6 1, 3) := by decide +kernel
theorem dX6_withType_31 : decode mX6_withType.2.1 31 = .ok (.goto (-25), 3) := by decide +kernel
theorem dX6_withType_34 : decode mX6_withType.2.1 34 = .ok (.iconst 0, 1) := by decide +kernel
theorem dX6_withType_35 : decode mX6_withType.2.1 35 = .ok (.istore 6, 2) := by decide +kernel
theorem dX6_withType_37 : decode mX6_withType.2.1 37 = .ok (.iload 6, 2) := by decide +kernel
theorem dX6_withType_39 : decode mX6_withType.2.1 39 = .ok (.bipush 12, 2) := by decide +kernel
theorem dX6_withType_41 : decode mX6_withType.2.1 41 = .ok (.if_icmp .ge 24, 3) := by decide +kernel
theorem dX6_withType_44 : decode mX6_withType.2.1 44 = .ok (.lload 4, 2) := by decide +kernel
theorem dX6_withType_46 : decode mX6_withType.2.1 46 = .ok (.aload_n 0, 1) := by decide +kernel
theorem dX6_withType_47 : decode mX6_withType.2.1 47 = .ok (.iload_n 3, 1) := by decide +kernel
theorem dX6_withType_48 : decode mX6_withType.2.1 48 = .ok (.iload 6, 2) := by decide +kernel
theorem dX6_withType_50 : decode mX6_withType.2.1 50 = .ok (.invokevirtual 237, 3) := by decide +kernel
theorem dX6_withType_53 : decode mX6_withType.2.1 53 = .ok (.i2l, 1) := by decide +kernel
theorem dX6_withType_54 : decode mX6_withType.2.1 54 = .ok (.invokestatic 221, 3) := by decide +kernel
theorem dX6_withType_57 : decode mX6_withType.2.1 57 = .ok (.lstore 4, 2) := by decide +kernel
theorem dX6_withType_59 : decode mX6_withType.2.1 59 = .ok (.iinc 6 1, 3) := by decide +kernel
theorem dX6_withType_62 : decode mX6_withType.2.1 62 = .ok (.goto (-25), 3) := by decide +kernel
theorem dX6_withType_65 : decode mX6_withType.2.1 65 = .ok (.iconst 0, 1) := by decide +kernel
theorem dX6_withType_66 : decode mX6_withType.2.1 66 = .ok (.istore 6, 2) := by decide +kernel
theorem dX6_withType_68 : decode mX6_withType.2.1 68 = .ok (.iload 6, 2) := by decide +kernel
theorem dX6_withType_70 : decode mX6_withType.2.1 70 = .ok (.bipush 6, 2) := by decide +kernel
theorem dX6_withType_72 : decode mX6_withType.2.1 72 = .ok (.if_icmp .ge 20, 3) := by decide +kernel
theorem dX6_withType_75 : decode mX6_withType.2.1 75 = .ok (.aload_n 0, 1) := by decide +kernel
theorem dX6_withType_76 : decode mX6_withType.2.1 76 = .ok (.lload 4, 2) := by decide +kernel
theorem dX6_withType_78 : decode mX6_withType.2.1 78 = .ok (.iload_n 3, 1) := by decide +kernel
theorem dX6_withType_79 : decode mX6_withType.2.1 79 = .ok (.iload 6, 2) := by decide +kernel
theorem dX6_withType_81 : decode mX6_withType.2.1 81 = .ok (.invokevirtual 240, 3) := by decide +kernel
theorem dX6_withType_84 : decode mX6_withType.2.1 84 = .ok (.lstore 4, 2) := by decide +kernel
theorem dX6_withType_86 : decode mX6_withType.2.1 86 = .ok (.iinc 6 1, 3) := by decide +kernel
theorem dX6_withType_89 : decode mX6_withType.2.1 89 = .ok (.goto (-21), 3) := by decide +kernel
theorem dX6_withType_92 : decode mX6_withType.2.1 92 = .ok (.lload 4, 2) := by decide +kernel
theorem dX6_withType_94 : decode mX6_withType.2.1 94 = .ok (.lreturn, 1) := by decide +kernel
theorem dX6_withMethod_0 : decode mX6_withMethod.2.1 0 = .ok (.lload_n 1, 1) := by decide +kernel
theorem dX6_withMethod_1 : decode mX6_withMethod.2.1 1 = .ok (.aload_n 0, 1) := by decide +kernel
theorem dX6_withMethod_2 : decode mX6_withMethod.2.1 2 = .ok (.iload_n 3, 1) := by decide +kernel
theorem dX6_withMethod_3 : decode mX6_withMethod.2.1 3 = .ok (.iload 4, 2) := by decide +kernel
theorem dX6_withMethod_5 : decode mX6_withMethod.2.1 5 = .ok (.iconst 0, 1) := by decide +kernel
theorem dX6_withMethod_6 : decode mX6_withMethod.2.1 6 = .ok (.invokevirtual 244, 3) := by decide +kernel
theorem dX6_withMethod_9 : decode mX6_withMethod.2.1 9 = .ok (.i2l, 1) := by decide +kernel
theorem dX6_withMethod_10 : decode mX6_withMethod.2.1 10 = .ok (.invokestatic 221, 3) := by decide +kernel
theorem dX6_withMethod_13 : decode mX6_withMethod.2.1 13 = .ok (.lstore 5, 2) := by decide +kernel
theorem dX6_withMethod_15 : decode mX6_withMethod.2.1 15 = .ok (.lload 5, 2) := by decide +kernel
theorem dX6_withMethod_17 : decode mX6_withMethod.2.1 17 = .ok (.aload_n 0, 1) := by decide +kernel
theorem dX6_withMethod_18 : decode mX6_withMethod.2.1 18 = .ok (.iload_n 3, 1) := by decide +kernel
theorem dX6_withMethod_19 : decode mX6_withMethod.2.1 19 = .ok (.iload 4, 2) := by decide +kernel
theorem dX6_withMethod_21 : decode mX6_withMethod.2.1 21 = .ok (.iconst 1, 1) := by decide +kernel
theorem dX6_withMethod_22 : decode mX6_withMethod.2.1 22 = .ok (.invokevirtual 244, 3) := by decide +kernel
theorem dX6_withMethod_25 : decode mX6_withMethod.2.1 25 = .ok (.i2l, 1) := by decide +kernel
theorem dX6_withMethod_26 : decode mX6_withMethod.2.1 26 = .ok (.invokestatic 221, 3) := by decide +kernel
theorem dX6_withMethod_29 : decode mX6_withMethod.2.1 29 = .ok (.lstore 5, 2) := by decide +kernel
theorem dX6_withMethod_31 : decode mX6_withMethod.2.1 31 = .ok (.aload_n 0, 1) := by decide +kernel
theorem dX6_withMethod_32 : decode mX6_withMethod.2.1 32 = .ok (.getfield 40, 3) := by decide +kernel
theorem dX6_withMethod_35 : decode mX6_withMethod.2.1 35 = .ok (.iload_n 3, 1) := by decide +kernel
theorem dX6_withMethod_36 : decode mX6_withMethod.2.1 36 = .ok (.iload 4, 2) := by decide +kernel
theorem dX6_withMethod_38 : decode mX6_withMethod.2.1 38 = .ok (.invokevirtual 151, 3) := by decide +kernel
theorem dX6_withMethod_41 : decode mX6_withMethod.2.1 41 = .ok (.istore 7, 2) := by decide +kernel
theorem dX6_withMethod_43 : decode mX6_withMethod.2.1 43 = .ok (.lload 5, 2) := by decide +kernel
theorem dX6_withMethod_45 : decode mX6_withMethod.2.1 45 = .ok (.iload 7, 2) := by decide +kernel
theorem dX6_withMethod_47 : decode mX6_withMethod.2.1 47 = .ok (.i2l, 1) := by decide +kernel
theorem dX6_withMethod_48 : decode mX6_withMethod.2.1 48 = .ok (.invokestatic 221, 3) := by decide +kernel
theorem dX6_withMethod_51 : decode mX6_withMethod.2.1 51 = .ok (.aload_n 0, 1) := by decide +kernel
theorem dX6_withMethod_52 : decode mX6_withMethod.2.1 52 = .ok (.getfield 40, 3) := by decide +kernel
theorem dX6_withMethod_55 : decode mX6_withMethod.2.1 55 = .ok (.iload_n 3, 1) := by decide +kernel
theorem dX6_withMethod_56 : decode mX6_withMethod.2.1 56 = .ok (.iload 4, 2) := by decide +kernel
theorem dX6_withMethod_58 : decode mX6_withMethod.2.1 58 = .ok (.invokevirtual 154, 3) := by decide +kernel
theorem dX6_withMethod_61 : decode mX6_withMethod.2.1 61 = .ok (.i2l, 1) := by decide +kernel
theorem dX6_withMethod_62 : decode mX6_withMethod.2.1 62 = .ok (.invokestatic 221, 3) := by decide +kernel
theorem dX6_withMethod_65 : decode mX6_withMethod.2.1 65 = .ok (.lstore 5, 2) := by decide +kernel
theorem dX6_withMethod_67 : decode mX6_withMethod.2.1 67 = .ok (.iconst 0, 1) := by decide +kernel
theorem dX6_withMethod_68 : decode mX6_withMethod.2.1 68 = .ok (.istore 8, 2) := by decide +kernel
theorem dX6_withMethod_70 : decode mX6_withMethod.2.1 70 = .ok (.iload 8, 2) := by decide +kernel
theorem dX6_withMethod_72 : decode mX6_withMethod.2.1 72 = .ok (.iload 7, 2) := by decide +kernel
theorem dX6_withMethod_74 : decode mX6_withMethod.2.1 74 = .ok (.if_icmp .ge 50, 3) := by decide +kernel
theorem dX6_withMethod_77 : decode mX6_withMethod.2.1 77 = .ok (.iload 8, 2) := by decide +kernel
theorem dX6_withMethod_79 : decode mX6_withMethod.2.1 79 = .ok (.bipush 60, 2) := by decide +kernel
theorem dX6_withMethod_81 : decode mX6_withMethod.2.1 81 = .ok (.if_icmp .ge 43, 3) := by decide +kernel
theorem dX6_withMethod_84 : decode mX6_withMethod.2.1 84 = .ok (.aload_n 0, 1) := by decide +kernel
theorem dX6_withMethod_85 : decode mX6_withMethod.2.1 85 = .ok (.getfield 40, 3) := by decide +kernel
theorem dX6_withMethod_88 : decode mX6_withMethod.2.1 88 = .ok (.iload_n 3, 1) := by decide +kernel
theorem dX6_withMethod_89 : decode mX6_withMethod.2.1 89 = .ok (.iload 4, 2) := by decide +kernel
theorem dX6_withMethod_91 : decode mX6_withMethod.2.1 91 = .ok (.iload 8, 2) := by decide +kernel
theorem dX6_withMethod_93 : decode mX6_withMethod.2.1 93 = .ok (.invokevirtual 157, 3) := by decide +kernel
theorem dX6_withMethod_96 : decode mX6_withMethod.2.1 96 = .ok (.istore 9, 2) := by decide +kernel
theorem dX6_withMethod_98 : decode mX6_withMethod.2.1 98 = .ok (.lload 5, 2) := by decide +kernel
theorem dX6_withMethod_100 : decode mX6_withMethod.2.1 100 = .ok (.iload 9, 2) := by decide +kernel
theorem dX6_withMethod_102 : decode mX6_withMethod.2.1 102 = .ok (.iconst 4, 1) := by decide +kernel
theorem dX6_withMethod_103 : decode mX6_withMethod.2.1 103 = .ok (.irem, 1) := by decide +kernel
theorem dX6_withMethod_104 : decode mX6_withMethod.2.1 104 = .ok (.i2l, 1) := by decide +kernel
theorem dX6_withMethod_105 : decode mX6_withMethod.2.1 105 = .ok (.invokestatic 221, 3) := by decide +kernel
theorem dX6_withMethod_108 : decode mX6_withMethod.2.1 108 = .ok (.iload 9, 2) := by decide +kernel
theorem dX6_withMethod_110 : decode mX6_withMethod.2.1 110 = .ok (.iconst 4, 1) := by decide +kernel
theorem dX6_withMethod_111 : decode mX6_withMethod.2.1 111 = .ok (.idiv, 1) := by decide +kernel
theorem dX6_withMethod_112 : decode mX6_withMethod.2.1 112 = .ok (.i2l, 1) := by decide +kernel
theorem dX6_withMethod_113 : decode mX6_withMethod.2.1 113 = .ok (.invokestatic 221, 3) := by decide +kernel
theorem dX6_withMethod_116 : decode mX6_withMethod.2.1 116 = .ok (.lstore 5, 2) := by decide +kernel
theorem dX6_withMethod_118 : decode mX6_withMethod.2.1 118 = .ok (.iinc 8 1, 3) := by decide +kernel
theorem dX6_withMethod_121 : decode mX6_withMethod.2.1 121 = .ok (.goto (-51), 3) := by decide +kernel
theorem dX6_withMethod_124 : decode mX6_withMethod.2.1 124 = .ok (.lload 5, 2) := by decide +kernel
theorem dX6_withMethod_126 : decode mX6_withMethod.2.1 126 = .ok (.lreturn, 1) := by decide +kernel
theorem dX6_withBody_0 : decode mX6_withBody.2.1 0 = .ok (.lload_n 1, 1) := by decide +kernel
theorem dX6_withBody_1 : decode mX6_withBody.2.1 1 = .ok (.aload_n 0, 1) := by decide +kernel
theorem dX6_withBody_2 : decode mX6_withBody.2.1 2 = .ok (.iload_n 3, 1) := by decide +kernel
theorem dX6_withBody_3 : decode mX6_withBody.2.1 3 = .ok (.iconst 0, 1) := by decide +kernel
theorem dX6_withBody_4 : decode mX6_withBody.2.1 4 = .ok (.invokevirtual 247, 3) := by decide +kernel
theorem dX6_withBody_7 : decode mX6_withBody.2.1 7 = .ok (.i2l, 1) := by decide +kernel
theorem dX6_withBody_8 : decode mX6_withBody.2.1 8 = .ok (.invokestatic 221, 3) := by decide +kernel
theorem dX6_withBody_11 : decode mX6_withBody.2.1 11 = .ok (.lstore 4, 2) := by decide +kernel
theorem dX6_withBody_13 : decode mX6_withBody.2.1 13 = .ok (.iconst 0, 1) := by decide +kernel
theorem dX6_withBody_14 : decode mX6_withBody.2.1 14 = .ok (.istore 6, 2) := by decide +kernel
theorem dX6_withBody_16 : decode mX6_withBody.2.1 16 = .ok (.iload 6, 2) := by decide +kernel
theorem dX6_withBody_18 : decode mX6_withBody.2.1 18 = .ok (.bipush 6, 2) := by decide +kernel
theorem dX6_withBody_20 : decode mX6_withBody.2.1 20 = .ok (.if_icmp .ge 27, 3) := by decide +kernel
theorem dX6_withBody_23 : decode mX6_withBody.2.1 23 = .ok (.lload 4, 2) := by decide +kernel
theorem dX6_withBody_25 : decode mX6_withBody.2.1 25 = .ok (.aload_n 0, 1) := by decide +kernel
theorem dX6_withBody_26 : decode mX6_withBody.2.1 26 = .ok (.iload_n 3, 1) := by decide +kernel
theorem dX6_withBody_27 : decode mX6_withBody.2.1 27 = .ok (.bipush 10, 2) := by decide +kernel
theorem dX6_withBody_29 : decode mX6_withBody.2.1 29 = .ok (.iload 6, 2) := by decide +kernel
theorem dX6_withBody_31 : decode mX6_withBody.2.1 31 = .ok (.iadd, 1) := by decide +kernel
theorem dX6_withBody_32 : decode mX6_withBody.2.1 32 = .ok (.invokevirtual 247, 3) := by decide +kernel
theorem dX6_withBody_35 : decode mX6_withBody.2.1 35 = .ok (.i2l, 1) := by decide +kernel
theorem dX6_withBody_36 : decode mX6_withBody.2.1 36 = .ok (.invokestatic 221, 3) := by decide +kernel
theorem dX6_withBody_39 : decode mX6_withBody.2.1 39 = .ok (.lstore 4, 2) := by decide +kernel
theorem dX6_withBody_41 : decode mX6_withBody.2.1 41 = .ok (.iinc 6 1, 3) := by decide +kernel
theorem dX6_withBody_44 : decode mX6_withBody.2.1 44 = .ok (.goto (-28), 3) := by decide +kernel
theorem dX6_withBody_47 : decode mX6_withBody.2.1 47 = .ok (.lload 4, 2) := by decide +kernel
theorem dX6_withBody_49 : decode mX6_withBody.2.1 49 = .ok (.aload_n 0, 1) := by decide +kernel
theorem dX6_withBody_50 : decode mX6_withBody.2.1 50 = .ok (.getfield 40, 3) := by decide +kernel
theorem dX6_withBody_53 : decode mX6_withBody.2.1 53 = .ok (.iload_n 3, 1) := by decide +kernel
theorem dX6_withBody_54 : decode mX6_withBody.2.1 54 = .ok (.invokevirtual 193, 3) := by decide +kernel
theorem dX6_withBody_57 : decode mX6_withBody.2.1 57 = .ok (.ifCond .eq 7, 3) := by decide +kernel
theorem dX6_withBody_60 : decode mX6_withBody.2.1 60 = .ok (.lconst 0, 1) := by decide +kernel
theorem dX6_withBody_61 : decode mX6_withBody.2.1 61 = .ok (.goto 4, 3) := by decide +kernel
theorem dX6_withBody_64 : decode mX6_withBody.2.1 64 = .ok (.lconst 1, 1) := by decide +kernel
theorem dX6_withBody_65 : decode mX6_withBody.2.1 65 = .ok (.invokestatic 221, 3) := by decide +kernel
theorem dX6_withBody_68 : decode mX6_withBody.2.1 68 = .ok (.lreturn, 1) := by decide +kernel
theorem dX6_with_0 : decode mX6_with.2.1 0 = .ok (.ldc2_w 250, 3) := by decide +kernel
theorem dX6_with_3 : decode mX6_with.2.1 3 = .ok (.lload_n 0, 1) := by decide +kernel
theorem dX6_with_4 : decode mX6_with.2.1 4 = .ok (.lmul, 1) := by decide +kernel
theorem dX6_with_5 : decode mX6_with.2.1 5 = .ok (.lload_n 2, 1) := by decide +kernel
theorem dX6_with_6 : decode mX6_with.2.1 6 = .ok (.ladd, 1) := by decide +kernel
theorem dX6_with_7 : decode mX6_with.2.1 7 = .ok (.lreturn, 1) := by decide +kernel
theorem dX6_typesThatFit_0 : decode mX6_typesThatFit.2.1 0 = .ok (.iconst 0, 1) := by decide +kernel
theorem dX6_typesThatFit_1 : decode mX6_typesThatFit.2.1 1 = .ok (.istore_n 2, 1) := by decide +kernel
theorem dX6_typesThatFit_2 : decode mX6_typesThatFit.2.1 2 = .ok (.iconst 0, 1) := by decide +kernel
theorem dX6_typesThatFit_3 : decode mX6_typesThatFit.2.1 3 = .ok (.istore_n 3, 1) := by decide +kernel
theorem dX6_typesThatFit_4 : decode mX6_typesThatFit.2.1 4 = .ok (.iload_n 3, 1) := by decide +kernel
theorem dX6_typesThatFit_5 : decode mX6_typesThatFit.2.1 5 = .ok (.aload_n 0, 1) := by decide +kernel
theorem dX6_typesThatFit_6 : decode mX6_typesThatFit.2.1 6 = .ok (.getfield 26, 3) := by decide +kernel
theorem dX6_typesThatFit_9 : decode mX6_typesThatFit.2.1 9 = .ok (.getfield 71, 3) := by decide +kernel
theorem dX6_typesThatFit_12 : decode mX6_typesThatFit.2.1 12 = .ok (.if_icmp .ge 30, 3) := by decide +kernel
theorem dX6_typesThatFit_15 : decode mX6_typesThatFit.2.1 15 = .ok (.iload_n 1, 1) := by decide +kernel
theorem dX6_typesThatFit_16 : decode mX6_typesThatFit.2.1 16 = .ok (.aload_n 0, 1) := by decide +kernel
theorem dX6_typesThatFit_17 : decode mX6_typesThatFit.2.1 17 = .ok (.getfield 26, 3) := by decide +kernel
theorem dX6_typesThatFit_20 : decode mX6_typesThatFit.2.1 20 = .ok (.iload_n 3, 1) := by decide +kernel
theorem dX6_typesThatFit_21 : decode mX6_typesThatFit.2.1 21 = .ok (.invokevirtual 120, 3) := by decide +kernel
theorem dX6_typesThatFit_24 : decode mX6_typesThatFit.2.1 24 = .ok (.iconst (-1), 1) := by decide +kernel
theorem dX6_typesThatFit_25 : decode mX6_typesThatFit.2.1 25 = .ok (.ixor, 1) := by decide +kernel
theorem dX6_typesThatFit_26 : decode mX6_typesThatFit.2.1 26 = .ok (.iand, 1) := by decide +kernel
theorem dX6_typesThatFit_27 : decode mX6_typesThatFit.2.1 27 = .ok (.ifCond .ne 9, 3) := by decide +kernel
theorem dX6_typesThatFit_30 : decode mX6_typesThatFit.2.1 30 = .ok (.iload_n 2, 1) := by decide +kernel
theorem dX6_typesThatFit_31 : decode mX6_typesThatFit.2.1 31 = .ok (.iconst 1, 1) := by decide +kernel
theorem dX6_typesThatFit_32 : decode mX6_typesThatFit.2.1 32 = .ok (.iload_n 3, 1) := by decide +kernel
theorem dX6_typesThatFit_33 : decode mX6_typesThatFit.2.1 33 = .ok (.ishl, 1) := by decide +kernel
theorem dX6_typesThatFit_34 : decode mX6_typesThatFit.2.1 34 = .ok (.ior, 1) := by decide +kernel
theorem dX6_typesThatFit_35 : decode mX6_typesThatFit.2.1 35 = .ok (.istore_n 2, 1) := by decide +kernel
theorem dX6_typesThatFit_36 : decode mX6_typesThatFit.2.1 36 = .ok (.iinc 3 1, 3) := by decide +kernel
theorem dX6_typesThatFit_39 : decode mX6_typesThatFit.2.1 39 = .ok (.goto (-35), 3) := by decide +kernel
theorem dX6_typesThatFit_42 : decode mX6_typesThatFit.2.1 42 = .ok (.iload_n 2, 1) := by decide +kernel
theorem dX6_typesThatFit_43 : decode mX6_typesThatFit.2.1 43 = .ok (.ireturn, 1) := by decide +kernel
theorem dX6_nearestMisfit_0 : decode mX6_nearestMisfit.2.1 0 = .ok (.iconst (-1), 1) := by decide +kernel
theorem dX6_nearestMisfit_1 : decode mX6_nearestMisfit.2.1 1 = .ok (.istore_n 2, 1) := by decide +kernel
theorem dX6_nearestMisfit_2 : decode mX6_nearestMisfit.2.1 2 = .ok (.bipush 7, 2) := by decide +kernel
theorem dX6_nearestMisfit_4 : decode mX6_nearestMisfit.2.1 4 = .ok (.istore_n 3, 1) := by decide +kernel
theorem dX6_nearestMisfit_5 : decode mX6_nearestMisfit.2.1 5 = .ok (.iconst 0, 1) := by decide +kernel
theorem dX6_nearestMisfit_6 : decode mX6_nearestMisfit.2.1 6 = .ok (.istore 4, 2) := by decide +kernel
theorem dX6_nearestMisfit_8 : decode mX6_nearestMisfit.2.1 8 = .ok (.iload 4, 2) := by decide +kernel
theorem dX6_nearestMisfit_10 : decode mX6_nearestMisfit.2.1 10 = .ok (.aload_n 0, 1) := by decide +kernel
theorem dX6_nearestMisfit_11 : decode mX6_nearestMisfit.2.1 11 = .ok (.getfield 26, 3) := by decide +kernel
theorem dX6_nearestMisfit_14 : decode mX6_nearestMisfit.2.1 14 = .ok (.getfield 71, 3) := by decide +kernel
theorem dX6_nearestMisfit_17 : decode mX6_nearestMisfit.2.1 17 = .ok (.if_icmp .ge 44, 3) := by decide +kernel
theorem dX6_nearestMisfit_20 : decode mX6_nearestMisfit.2.1 20 = .ok (.iload_n 1, 1) := by decide +kernel
theorem dX6_nearestMisfit_21 : decode mX6_nearestMisfit.2.1 21 = .ok (.aload_n 0, 1) := by decide +kernel
theorem dX6_nearestMisfit_22 : decode mX6_nearestMisfit.2.1 22 = .ok (.getfield 26, 3) := by decide +kernel
theorem dX6_nearestMisfit_25 : decode mX6_nearestMisfit.2.1 25 = .ok (.iload 4, 2) := by decide +kernel
theorem dX6_nearestMisfit_27 : decode mX6_nearestMisfit.2.1 27 = .ok (.invokevirtual 120, 3) := by decide +kernel
theorem dX6_nearestMisfit_30 : decode mX6_nearestMisfit.2.1 30 = .ok (.iconst (-1), 1) := by decide +kernel
theorem dX6_nearestMisfit_31 : decode mX6_nearestMisfit.2.1 31 = .ok (.ixor, 1) := by decide +kernel
theorem dX6_nearestMisfit_32 : decode mX6_nearestMisfit.2.1 32 = .ok (.iand, 1) := by decide +kernel
theorem dX6_nearestMisfit_33 : decode mX6_nearestMisfit.2.1 33 = .ok (.invokestatic 252, 3) := by decide +kernel
theorem dX6_nearestMisfit_36 : decode mX6_nearestMisfit.2.1 36 = .ok (.istore 5, 2) := by decide +kernel
theorem dX6_nearestMisfit_38 : decode mX6_nearestMisfit.2.1 38 = .ok (.iload 5, 2) := by decide +kernel
theorem dX6_nearestMisfit_40 : decode mX6_nearestMisfit.2.1 40 = .ok (.ifCond .le 15, 3) := by decide +kernel
theorem dX6_nearestMisfit_43 : decode mX6_nearestMisfit.2.1 43 = .ok (.iload 5, 2) := by decide +kernel
theorem dX6_nearestMisfit_45 : decode mX6_nearestMisfit.2.1 45 = .ok (.iload_n 3, 1) := by decide +kernel
theorem dX6_nearestMisfit_46 : decode mX6_nearestMisfit.2.1 46 = .ok (.if_icmp .ge 9, 3) := by decide +kernel
theorem dX6_nearestMisfit_49 : decode mX6_nearestMisfit.2.1 49 = .ok (.iload 4, 2) := by decide +kernel
theorem dX6_nearestMisfit_51 : decode mX6_nearestMisfit.2.1 51 = .ok (.istore_n 2, 1) := by decide +kernel
theorem dX6_nearestMisfit_52 : decode mX6_nearestMisfit.2.1 52 = .ok (.iload 5, 2) := by decide +kernel
theorem dX6_nearestMisfit_54 : decode mX6_nearestMisfit.2.1 54 = .ok (.istore_n 3, 1) := by decide +kernel
theorem dX6_nearestMisfit_55 : decode mX6_nearestMisfit.2.1 55 = .ok (.iinc 4 1, 3) := by decide +kernel
theorem dX6_nearestMisfit_58 : decode mX6_nearestMisfit.2.1 58 = .ok (.goto (-50), 3) := by decide +kernel
theorem dX6_nearestMisfit_61 : decode mX6_nearestMisfit.2.1 61 = .ok (.iload_n 2, 1) := by decide +kernel
theorem dX6_nearestMisfit_62 : decode mX6_nearestMisfit.2.1 62 = .ok (.ireturn, 1) := by decide +kernel
theorem dX6_isMember_0 : decode mX6_isMember.2.1 0 = .ok (.iload_n 0, 1) := by decide +kernel
theorem dX6_isMember_1 : decode mX6_isMember.2.1 1 = .ok (.ifCond .lt 13, 3) := by decide +kernel
theorem dX6_isMember_4 : decode mX6_isMember.2.1 4 = .ok (.iload_n 0, 1) := by decide +kernel
theorem dX6_isMember_5 : decode mX6_isMember.2.1 5 = .ok (.bipush 12, 2) := by decide +kernel
theorem dX6_isMember_7 : decode mX6_isMember.2.1 7 = .ok (.if_icmp .ge 7, 3) := by decide +kernel
theorem dX6_isMember_10 : decode mX6_isMember.2.1 10 = .ok (.iconst 1, 1) := by decide +kernel
theorem dX6_isMember_11 : decode mX6_isMember.2.1 11 = .ok (.goto 4, 3) := by decide +kernel
theorem dX6_isMember_14 : decode mX6_isMember.2.1 14 = .ok (.iconst 0, 1) := by decide +kernel
theorem dX6_isMember_15 : decode mX6_isMember.2.1 15 = .ok (.ireturn, 1) := by decide +kernel
theorem dX6_isMethod_0 : decode mX6_isMethod.2.1 0 = .ok (.iload_n 0, 1) := by decide +kernel
theorem dX6_isMethod_1 : decode mX6_isMethod.2.1 1 = .ok (.ifCond .lt 13, 3) := by decide +kernel
theorem dX6_isMethod_4 : decode mX6_isMethod.2.1 4 = .ok (.iload_n 0, 1) := by decide +kernel
theorem dX6_isMethod_5 : decode mX6_isMethod.2.1 5 = .ok (.bipush 6, 2) := by decide +kernel
theorem dX6_isMethod_7 : decode mX6_isMethod.2.1 7 = .ok (.if_icmp .ge 7, 3) := by decide +kernel
theorem dX6_isMethod_10 : decode mX6_isMethod.2.1 10 = .ok (.iconst 1, 1) := by decide +kernel
theorem dX6_isMethod_11 : decode mX6_isMethod.2.1 11 = .ok (.goto 4, 3) := by decide +kernel
theorem dX6_isMethod_14 : decode mX6_isMethod.2.1 14 = .ok (.iconst 0, 1) := by decide +kernel
theorem dX6_isMethod_15 : decode mX6_isMethod.2.1 15 = .ok (.ireturn, 1) := by decide +kernel
theorem dJ6_bitCount_0f7a4_0 : decode mJ6_bitCount_0f7a4.2.1 0 = .ok (.iload_n 0, 1) := by decide +kernel
theorem dJ6_bitCount_0f7a4_1 : decode mJ6_bitCount_0f7a4.2.1 1 = .ok (.iload_n 0, 1) := by decide +kernel
theorem dJ6_bitCount_0f7a4_2 : decode mJ6_bitCount_0f7a4.2.1 2 = .ok (.iconst 1, 1) := by decide +kernel
theorem dJ6_bitCount_0f7a4_3 : decode mJ6_bitCount_0f7a4.2.1 3 = .ok (.iushr, 1) := by decide +kernel
theorem dJ6_bitCount_0f7a4_4 : decode mJ6_bitCount_0f7a4.2.1 4 = .ok (.ldc_w 265, 3) := by decide +kernel
theorem dJ6_bitCount_0f7a4_7 : decode mJ6_bitCount_0f7a4.2.1 7 = .ok (.iand, 1) := by decide +kernel
theorem dJ6_bitCount_0f7a4_8 : decode mJ6_bitCount_0f7a4.2.1 8 = .ok (.isub, 1) := by decide +kernel
theorem dJ6_bitCount_0f7a4_9 : decode mJ6_bitCount_0f7a4.2.1 9 = .ok (.istore_n 0, 1) := by decide +kernel
theorem dJ6_bitCount_0f7a4_10 : decode mJ6_bitCount_0f7a4.2.1 10 = .ok (.iload_n 0, 1) := by decide +kernel
theorem dJ6_bitCount_0f7a4_11 : decode mJ6_bitCount_0f7a4.2.1 11 = .ok (.ldc_w 266, 3) := by decide +kernel
theorem dJ6_bitCount_0f7a4_14 : decode mJ6_bitCount_0f7a4.2.1 14 = .ok (.iand, 1) := by decide +kernel
theorem dJ6_bitCount_0f7a4_15 : decode mJ6_bitCount_0f7a4.2.1 15 = .ok (.iload_n 0, 1) := by decide +kernel
theorem dJ6_bitCount_0f7a4_16 : decode mJ6_bitCount_0f7a4.2.1 16 = .ok (.iconst 2, 1) := by decide +kernel
theorem dJ6_bitCount_0f7a4_17 : decode mJ6_bitCount_0f7a4.2.1 17 = .ok (.iushr, 1) := by decide +kernel
theorem dJ6_bitCount_0f7a4_18 : decode mJ6_bitCount_0f7a4.2.1 18 = .ok (.ldc_w 266, 3) := by decide +kernel
theorem dJ6_bitCount_0f7a4_21 : decode mJ6_bitCount_0f7a4.2.1 21 = .ok (.iand, 1) := by decide +kernel
theorem dJ6_bitCount_0f7a4_22 : decode mJ6_bitCount_0f7a4.2.1 22 = .ok (.iadd, 1) := by decide +kernel
theorem dJ6_bitCount_0f7a4_23 : decode mJ6_bitCount_0f7a4.2.1 23 = .ok (.istore_n 0, 1) := by decide +kernel
theorem dJ6_bitCount_0f7a4_24 : decode mJ6_bitCount_0f7a4.2.1 24 = .ok (.iload_n 0, 1) := by decide +kernel
theorem dJ6_bitCount_0f7a4_25 : decode mJ6_bitCount_0f7a4.2.1 25 = .ok (.iload_n 0, 1) := by decide +kernel
theorem dJ6_bitCount_0f7a4_26 : decode mJ6_bitCount_0f7a4.2.1 26 = .ok (.iconst 4, 1) := by decide +kernel
theorem dJ6_bitCount_0f7a4_27 : decode mJ6_bitCount_0f7a4.2.1 27 = .ok (.iushr, 1) := by decide +kernel
theorem dJ6_bitCount_0f7a4_28 : decode mJ6_bitCount_0f7a4.2.1 28 = .ok (.iadd, 1) := by decide +kernel
theorem dJ6_bitCount_0f7a4_29 : decode mJ6_bitCount_0f7a4.2.1 29 = .ok (.ldc_w 267, 3) := by decide +kernel
theorem dJ6_bitCount_0f7a4_32 : decode mJ6_bitCount_0f7a4.2.1 32 = .ok (.iand, 1) := by decide +kernel
theorem dJ6_bitCount_0f7a4_33 : decode mJ6_bitCount_0f7a4.2.1 33 = .ok (.istore_n 0, 1) := by decide +kernel
theorem dJ6_bitCount_0f7a4_34 : decode mJ6_bitCount_0f7a4.2.1 34 = .ok (.iload_n 0, 1) := by decide +kernel
theorem dJ6_bitCount_0f7a4_35 : decode mJ6_bitCount_0f7a4.2.1 35 = .ok (.iload_n 0, 1) := by decide +kernel
theorem dJ6_bitCount_0f7a4_36 : decode mJ6_bitCount_0f7a4.2.1 36 = .ok (.bipush 8, 2) := by decide +kernel
theorem dJ6_bitCount_0f7a4_38 : decode mJ6_bitCount_0f7a4.2.1 38 = .ok (.iushr, 1) := by decide +kernel
theorem dJ6_bitCount_0f7a4_39 : decode mJ6_bitCount_0f7a4.2.1 39 = .ok (.iadd, 1) := by decide +kernel
theorem dJ6_bitCount_0f7a4_40 : decode mJ6_bitCount_0f7a4.2.1 40 = .ok (.istore_n 0, 1) := by decide +kernel
theorem dJ6_bitCount_0f7a4_41 : decode mJ6_bitCount_0f7a4.2.1 41 = .ok (.iload_n 0, 1) := by decide +kernel
theorem dJ6_bitCount_0f7a4_42 : decode mJ6_bitCount_0f7a4.2.1 42 = .ok (.iload_n 0, 1) := by decide +kernel
theorem dJ6_bitCount_0f7a4_43 : decode mJ6_bitCount_0f7a4.2.1 43 = .ok (.bipush 16, 2) := by decide +kernel
theorem dJ6_bitCount_0f7a4_45 : decode mJ6_bitCount_0f7a4.2.1 45 = .ok (.iushr, 1) := by decide +kernel
theorem dJ6_bitCount_0f7a4_46 : decode mJ6_bitCount_0f7a4.2.1 46 = .ok (.iadd, 1) := by decide +kernel
theorem dJ6_bitCount_0f7a4_47 : decode mJ6_bitCount_0f7a4.2.1 47 = .ok (.istore_n 0, 1) := by decide +kernel
theorem dJ6_bitCount_0f7a4_48 : decode mJ6_bitCount_0f7a4.2.1 48 = .ok (.iload_n 0, 1) := by decide +kernel
theorem dJ6_bitCount_0f7a4_49 : decode mJ6_bitCount_0f7a4.2.1 49 = .ok (.bipush 63, 2) := by decide +kernel
theorem dJ6_bitCount_0f7a4_51 : decode mJ6_bitCount_0f7a4.2.1 51 = .ok (.iand, 1) := by decide +kernel
theorem dJ6_bitCount_0f7a4_52 : decode mJ6_bitCount_0f7a4.2.1 52 = .ok (.ireturn, 1) := by decide +kernel
theorem dJ13_bitCount_95d88_0 : decode mJ13_bitCount_95d88.2.1 0 = .ok (.lload_n 0, 1) := by decide +kernel
theorem dJ13_bitCount_95d88_1 : decode mJ13_bitCount_95d88.2.1 1 = .ok (.lload_n 0, 1) := by decide +kernel
theorem dJ13_bitCount_95d88_2 : decode mJ13_bitCount_95d88.2.1 2 = .ok (.iconst 1, 1) := by decide +kernel
theorem dJ13_bitCount_95d88_3 : decode mJ13_bitCount_95d88.2.1 3 = .ok (.lushr, 1) := by decide +kernel
theorem dJ13_bitCount_95d88_4 : decode mJ13_bitCount_95d88.2.1 4 = .ok (.ldc2_w 314, 3) := by decide +kernel
theorem dJ13_bitCount_95d88_7 : decode mJ13_bitCount_95d88.2.1 7 = .ok (.land, 1) := by decide +kernel
theorem dJ13_bitCount_95d88_8 : decode mJ13_bitCount_95d88.2.1 8 = .ok (.lsub, 1) := by decide +kernel
theorem dJ13_bitCount_95d88_9 : decode mJ13_bitCount_95d88.2.1 9 = .ok (.lstore_n 0, 1) := by decide +kernel
theorem dJ13_bitCount_95d88_10 : decode mJ13_bitCount_95d88.2.1 10 = .ok (.lload_n 0, 1) := by decide +kernel
theorem dJ13_bitCount_95d88_11 : decode mJ13_bitCount_95d88.2.1 11 = .ok (.ldc2_w 316, 3) := by decide +kernel
theorem dJ13_bitCount_95d88_14 : decode mJ13_bitCount_95d88.2.1 14 = .ok (.land, 1) := by decide +kernel
theorem dJ13_bitCount_95d88_15 : decode mJ13_bitCount_95d88.2.1 15 = .ok (.lload_n 0, 1) := by decide +kernel
theorem dJ13_bitCount_95d88_16 : decode mJ13_bitCount_95d88.2.1 16 = .ok (.iconst 2, 1) := by decide +kernel
theorem dJ13_bitCount_95d88_17 : decode mJ13_bitCount_95d88.2.1 17 = .ok (.lushr, 1) := by decide +kernel
theorem dJ13_bitCount_95d88_18 : decode mJ13_bitCount_95d88.2.1 18 = .ok (.ldc2_w 316, 3) := by decide +kernel
theorem dJ13_bitCount_95d88_21 : decode mJ13_bitCount_95d88.2.1 21 = .ok (.land, 1) := by decide +kernel
theorem dJ13_bitCount_95d88_22 : decode mJ13_bitCount_95d88.2.1 22 = .ok (.ladd, 1) := by decide +kernel
theorem dJ13_bitCount_95d88_23 : decode mJ13_bitCount_95d88.2.1 23 = .ok (.lstore_n 0, 1) := by decide +kernel
theorem dJ13_bitCount_95d88_24 : decode mJ13_bitCount_95d88.2.1 24 = .ok (.lload_n 0, 1) := by decide +kernel
theorem dJ13_bitCount_95d88_25 : decode mJ13_bitCount_95d88.2.1 25 = .ok (.lload_n 0, 1) := by decide +kernel
theorem dJ13_bitCount_95d88_26 : decode mJ13_bitCount_95d88.2.1 26 = .ok (.iconst 4, 1) := by decide +kernel
theorem dJ13_bitCount_95d88_27 : decode mJ13_bitCount_95d88.2.1 27 = .ok (.lushr, 1) := by decide +kernel
theorem dJ13_bitCount_95d88_28 : decode mJ13_bitCount_95d88.2.1 28 = .ok (.ladd, 1) := by decide +kernel
theorem dJ13_bitCount_95d88_29 : decode mJ13_bitCount_95d88.2.1 29 = .ok (.ldc2_w 318, 3) := by decide +kernel
theorem dJ13_bitCount_95d88_32 : decode mJ13_bitCount_95d88.2.1 32 = .ok (.land, 1) := by decide +kernel
theorem dJ13_bitCount_95d88_33 : decode mJ13_bitCount_95d88.2.1 33 = .ok (.lstore_n 0, 1) := by decide +kernel
theorem dJ13_bitCount_95d88_34 : decode mJ13_bitCount_95d88.2.1 34 = .ok (.lload_n 0, 1) := by decide +kernel
theorem dJ13_bitCount_95d88_35 : decode mJ13_bitCount_95d88.2.1 35 = .ok (.lload_n 0, 1) := by decide +kernel
theorem dJ13_bitCount_95d88_36 : decode mJ13_bitCount_95d88.2.1 36 = .ok (.bipush 8, 2) := by decide +kernel
theorem dJ13_bitCount_95d88_38 : decode mJ13_bitCount_95d88.2.1 38 = .ok (.lushr, 1) := by decide +kernel
theorem dJ13_bitCount_95d88_39 : decode mJ13_bitCount_95d88.2.1 39 = .ok (.ladd, 1) := by decide +kernel
theorem dJ13_bitCount_95d88_40 : decode mJ13_bitCount_95d88.2.1 40 = .ok (.lstore_n 0, 1) := by decide +kernel
theorem dJ13_bitCount_95d88_41 : decode mJ13_bitCount_95d88.2.1 41 = .ok (.lload_n 0, 1) := by decide +kernel
theorem dJ13_bitCount_95d88_42 : decode mJ13_bitCount_95d88.2.1 42 = .ok (.lload_n 0, 1) := by decide +kernel
theorem dJ13_bitCount_95d88_43 : decode mJ13_bitCount_95d88.2.1 43 = .ok (.bipush 16, 2) := by decide +kernel
theorem dJ13_bitCount_95d88_45 : decode mJ13_bitCount_95d88.2.1 45 = .ok (.lushr, 1) := by decide +kernel
theorem dJ13_bitCount_95d88_46 : decode mJ13_bitCount_95d88.2.1 46 = .ok (.ladd, 1) := by decide +kernel
theorem dJ13_bitCount_95d88_47 : decode mJ13_bitCount_95d88.2.1 47 = .ok (.lstore_n 0, 1) := by decide +kernel
theorem dJ13_bitCount_95d88_48 : decode mJ13_bitCount_95d88.2.1 48 = .ok (.lload_n 0, 1) := by decide +kernel
theorem dJ13_bitCount_95d88_49 : decode mJ13_bitCount_95d88.2.1 49 = .ok (.lload_n 0, 1) := by decide +kernel
theorem dJ13_bitCount_95d88_50 : decode mJ13_bitCount_95d88.2.1 50 = .ok (.bipush 32, 2) := by decide +kernel
theorem dJ13_bitCount_95d88_52 : decode mJ13_bitCount_95d88.2.1 52 = .ok (.lushr, 1) := by decide +kernel
theorem dJ13_bitCount_95d88_53 : decode mJ13_bitCount_95d88.2.1 53 = .ok (.ladd, 1) := by decide +kernel
theorem dJ13_bitCount_95d88_54 : decode mJ13_bitCount_95d88.2.1 54 = .ok (.lstore_n 0, 1) := by decide +kernel
theorem dJ13_bitCount_95d88_55 : decode mJ13_bitCount_95d88.2.1 55 = .ok (.lload_n 0, 1) := by decide +kernel
theorem dJ13_bitCount_95d88_56 : decode mJ13_bitCount_95d88.2.1 56 = .ok (.l2i, 1) := by decide +kernel
theorem dJ13_bitCount_95d88_57 : decode mJ13_bitCount_95d88.2.1 57 = .ok (.bipush 127, 2) := by decide +kernel
theorem dJ13_bitCount_95d88_59 : decode mJ13_bitCount_95d88.2.1 59 = .ok (.iand, 1) := by decide +kernel
theorem dJ13_bitCount_95d88_60 : decode mJ13_bitCount_95d88.2.1 60 = .ok (.ireturn, 1) := by decide +kernel
end
section
theorem dX7_within_0 : decode mX7_within.2.1 0 = .ok (.iload_n 0, 1) := by decide +kernel
theorem dX7_within_1 : decode mX7_within.2.1 1 = .ok (.iload_n 1, 1) := by decide +kernel
theorem dX7_within_2 : decode mX7_within.2.1 2 = .ok (.if_icmp .lt 12, 3) := by decide +kernel
theorem dX7_within_5 : decode mX7_within.2.1 5 = .ok (.iload_n 0, 1) := by decide +kernel
theorem dX7_within_6 : decode mX7_within.2.1 6 = .ok (.iload_n 2, 1) := by decide +kernel
theorem dX7_within_7 : decode mX7_within.2.1 7 = .ok (.if_icmp .gt 7, 3) := by decide +kernel
theorem dX7_within_10 : decode mX7_within.2.1 10 = .ok (.iconst 1, 1) := by decide +kernel
theorem dX7_within_11 : decode mX7_within.2.1 11 = .ok (.goto 4, 3) := by decide +kernel
theorem dX7_within_14 : decode mX7_within.2.1 14 = .ok (.iconst 0, 1) := by decide +kernel
theorem dX7_within_15 : decode mX7_within.2.1 15 = .ok (.ireturn, 1) := by decide +kernel
theorem dX7_hasBit_0 : decode mX7_hasBit.2.1 0 = .ok (.iload_n 0, 1) := by decide +kernel
theorem dX7_hasBit_1 : decode mX7_hasBit.2.1 1 = .ok (.iload_n 1, 1) := by decide +kernel
theorem dX7_hasBit_2 : decode mX7_hasBit.2.1 2 = .ok (.ishr, 1) := by decide +kernel
theorem dX7_hasBit_3 : decode mX7_hasBit.2.1 3 = .ok (.iconst 1, 1) := by decide +kernel
theorem dX7_hasBit_4 : decode mX7_hasBit.2.1 4 = .ok (.iand, 1) := by decide +kernel
theorem dX7_hasBit_5 : decode mX7_hasBit.2.1 5 = .ok (.iconst 1, 1) := by decide +kernel
theorem dX7_hasBit_6 : decode mX7_hasBit.2.1 6 = .ok (.if_icmp .ne 7, 3) := by decide +kernel
theorem dX7_hasBit_9 : decode mX7_hasBit.2.1 9 = .ok (.iconst 1, 1) := by decide +kernel
theorem dX7_hasBit_10 : decode mX7_hasBit.2.1 10 = .ok (.goto 4, 3) := by decide +kernel
theorem dX7_hasBit_13 : decode mX7_hasBit.2.1 13 = .ok (.iconst 0, 1) := by decide +kernel
theorem dX7_hasBit_14 : decode mX7_hasBit.2.1 14 = .ok (.ireturn, 1) := by decide +kernel
theorem dX7_ones_0 : decode mX7_ones.2.1 0 = .ok (.iconst 0, 1) := by decide +kernel
theorem dX7_ones_1 : decode mX7_ones.2.1 1 = .ok (.istore_n 1, 1) := by decide +kernel
theorem dX7_ones_2 : decode mX7_ones.2.1 2 = .ok (.iconst 0, 1) := by decide +kernel
theorem dX7_ones_3 : decode mX7_ones.2.1 3 = .ok (.istore_n 2, 1) := by decide +kernel
theorem dX7_ones_4 : decode mX7_ones.2.1 4 = .ok (.iload_n 2, 1) := by decide +kernel
theorem dX7_ones_5 : decode mX7_ones.2.1 5 = .ok (.bipush 12, 2) := by decide +kernel
theorem dX7_ones_7 : decode mX7_ones.2.1 7 = .ok (.if_icmp .ge 17, 3) := by decide +kernel
theorem dX7_ones_10 : decode mX7_ones.2.1 10 = .ok (.iload_n 1, 1) := by decide +kernel
theorem dX7_ones_11 : decode mX7_ones.2.1 11 = .ok (.iload_n 0, 1) := by decide +kernel
theorem dX7_ones_12 : decode mX7_ones.2.1 12 = .ok (.iload_n 2, 1) := by decide +kernel
theorem dX7_ones_13 : decode mX7_ones.2.1 13 = .ok (.ishr, 1) := by decide +kernel
theorem dX7_ones_14 : decode mX7_ones.2.1 14 = .ok (.iconst 1, 1) := by decide +kernel
theorem dX7_ones_15 : decode mX7_ones.2.1 15 = .ok (.iand, 1) := by decide +kernel
theorem dX7_ones_16 : decode mX7_ones.2.1 16 = .ok (.iadd, 1) := by decide +kernel
theorem dX7_ones_17 : decode mX7_ones.2.1 17 = .ok (.istore_n 1, 1) := by decide +kernel
theorem dX7_ones_18 : decode mX7_ones.2.1 18 = .ok (.iinc 2 1, 3) := by decide +kernel
theorem dX7_ones_21 : decode mX7_ones.2.1 21 = .ok (.goto (-17), 3) := by decide +kernel
theorem dX7_ones_24 : decode mX7_ones.2.1 24 = .ok (.iload_n 1, 1) := by decide +kernel
theorem dX7_ones_25 : decode mX7_ones.2.1 25 = .ok (.ireturn, 1) := by decide +kernel
theorem dX7_letter_0 : decode mX7_letter.2.1 0 = .ok (.iload_n 1, 1) := by decide +kernel
theorem dX7_letter_1 : decode mX7_letter.2.1 1 = .ok (.bipush 32, 2) := by decide +kernel
theorem dX7_letter_3 : decode mX7_letter.2.1 3 = .ok (.bipush 126, 2) := by decide +kernel
theorem dX7_letter_5 : decode mX7_letter.2.1 5 = .ok (.invokestatic 77, 3) := by decide +kernel
theorem dX7_letter_8 : decode mX7_letter.2.1 8 = .ok (.ifCond .ne 7, 3) := by decide +kernel
theorem dX7_letter_11 : decode mX7_letter.2.1 11 = .ok (.sipush (-1002), 3) := by decide +kernel
theorem dX7_letter_14 : decode mX7_letter.2.1 14 = .ok (.ireturn, 1) := by decide +kernel
theorem dX7_letter_15 : decode mX7_letter.2.1 15 = .ok (.aload_n 0, 1) := by decide +kernel
theorem dX7_letter_16 : decode mX7_letter.2.1 16 = .ok (.getfield 81, 3) := by decide +kernel
theorem dX7_letter_19 : decode mX7_letter.2.1 19 = .ok (.bipush 40, 2) := by decide +kernel
theorem dX7_letter_21 : decode mX7_letter.2.1 21 = .ok (.if_icmp .ne 7, 3) := by decide +kernel
theorem dX7_letter_24 : decode mX7_letter.2.1 24 = .ok (.sipush (-1004), 3) := by decide +kernel
theorem dX7_letter_27 : decode mX7_letter.2.1 27 = .ok (.ireturn, 1) := by decide +kernel
theorem dX7_letter_28 : decode mX7_letter.2.1 28 = .ok (.aload_n 0, 1) := by decide +kernel
theorem dX7_letter_29 : decode mX7_letter.2.1 29 = .ok (.getfield 7, 3) := by decide +kernel
theorem dX7_letter_32 : decode mX7_letter.2.1 32 = .ok (.aload_n 0, 1) := by decide +kernel
theorem dX7_letter_33 : decode mX7_letter.2.1 33 = .ok (.getfield 81, 3) := by decide +kernel
theorem dX7_letter_36 : decode mX7_letter.2.1 36 = .ok (.iload_n 1, 1) := by decide +kernel
theorem dX7_letter_37 : decode mX7_letter.2.1 37 = .ok (.iastore, 1) := by decide +kernel
theorem dX7_letter_38 : decode mX7_letter.2.1 38 = .ok (.aload_n 0, 1) := by decide +kernel
theorem dX7_letter_39 : decode mX7_letter.2.1 39 = .ok (.dup, 1) := by decide +kernel
theorem dX7_letter_40 : decode mX7_letter.2.1 40 = .ok (.getfield 81, 3) := by decide +kernel
theorem dX7_letter_43 : decode mX7_letter.2.1 43 = .ok (.iconst 1, 1) := by decide +kernel
theorem dX7_letter_44 : decode mX7_letter.2.1 44 = .ok (.iadd, 1) := by decide +kernel
theorem dX7_letter_45 : decode mX7_letter.2.1 45 = .ok (.putfield 81, 3) := by decide +kernel
theorem dX7_letter_48 : decode mX7_letter.2.1 48 = .ok (.aload_n 0, 1) := by decide +kernel
theorem dX7_letter_49 : decode mX7_letter.2.1 49 = .ok (.getfield 81, 3) := by decide +kernel
theorem dX7_letter_52 : decode mX7_letter.2.1 52 = .ok (.ireturn, 1) := by decide +kernel
theorem dX7_blank_0 : decode mX7_blank.2.1 0 = .ok (.aload_n 0, 1) := by decide +kernel
theorem dX7_blank_1 : decode mX7_blank.2.1 1 = .ok (.getfield 81, 3) := by decide +kernel
theorem dX7_blank_4 : decode mX7_blank.2.1 4 = .ok (.istore_n 1, 1) := by decide +kernel
theorem dX7_blank_5 : decode mX7_blank.2.1 5 = .ok (.aload_n 0, 1) := by decide +kernel
theorem dX7_blank_6 : decode mX7_blank.2.1 6 = .ok (.iconst 0, 1) := by decide +kernel
theorem dX7_blank_7 : decode mX7_blank.2.1 7 = .ok (.putfield 81, 3) := by decide +kernel
theorem dX7_blank_10 : decode mX7_blank.2.1 10 = .ok (.iload_n 1, 1) := by decide +kernel
theorem dX7_blank_11 : decode mX7_blank.2.1 11 = .ok (.ireturn, 1) := by decide +kernel
theorem dX7_memberAt_0 : decode mX7_memberAt.2.1 0 = .ok (.iload_n 0, 1) := by decide +kernel
theorem dX7_memberAt_1 : decode mX7_memberAt.2.1 1 = .ok (.bipush 97, 2) := by decide +kernel
theorem dX7_memberAt_3 : decode mX7_memberAt.2.1 3 = .ok (.bipush 102, 2) := by decide +kernel
theorem dX7_memberAt_5 : decode mX7_memberAt.2.1 5 = .ok (.invokestatic 77, 3) := by decide +kernel
theorem dX7_memberAt_8 : decode mX7_memberAt.2.1 8 = .ok (.ifCond .eq 10, 3) := by decide +kernel
theorem dX7_memberAt_11 : decode mX7_memberAt.2.1 11 = .ok (.iload_n 0, 1) := by decide +kernel
theorem dX7_memberAt_12 : decode mX7_memberAt.2.1 12 = .ok (.bipush 97, 2) := by decide +kernel
theorem dX7_memberAt_14 : decode mX7_memberAt.2.1 14 = .ok (.isub, 1) := by decide +kernel
theorem dX7_memberAt_15 : decode mX7_memberAt.2.1 15 = .ok (.goto 25, 3) := by decide +kernel
theorem dX7_memberAt_18 : decode mX7_memberAt.2.1 18 = .ok (.iload_n 0, 1) := by decide +kernel
theorem dX7_memberAt_19 : decode mX7_memberAt.2.1 19 = .ok (.bipush 117, 2) := by decide +kernel
theorem dX7_memberAt_21 : decode mX7_memberAt.2.1 21 = .ok (.bipush 122, 2) := by decide +kernel
theorem dX7_memberAt_23 : decode mX7_memberAt.2.1 23 = .ok (.invokestatic 77, 3) := by decide +kernel
theorem dX7_memberAt_26 : decode mX7_memberAt.2.1 26 = .ok (.ifCond .eq 13, 3) := by decide +kernel
theorem dX7_memberAt_29 : decode mX7_memberAt.2.1 29 = .ok (.iload_n 0, 1) := by decide +kernel
theorem dX7_memberAt_30 : decode mX7_memberAt.2.1 30 = .ok (.bipush 117, 2) := by decide +kernel
theorem dX7_memberAt_32 : decode mX7_memberAt.2.1 32 = .ok (.isub, 1) := by decide +kernel
theorem dX7_memberAt_33 : decode mX7_memberAt.2.1 33 = .ok (.bipush 6, 2) := by decide +kernel
theorem dX7_memberAt_35 : decode mX7_memberAt.2.1 35 = .ok (.iadd, 1) := by decide +kernel
theorem dX7_memberAt_36 : decode mX7_memberAt.2.1 36 = .ok (.goto 4, 3) := by decide +kernel
theorem dX7_memberAt_39 : decode mX7_memberAt.2.1 39 = .ok (.iconst (-1), 1) := by decide +kernel
theorem dX7_memberAt_40 : decode mX7_memberAt.2.1 40 = .ok (.ireturn, 1) := by decide +kernel
theorem dX7_takesMember_0 : decode mX7_takesMember.2.1 0 = .ok (.iload_n 1, 1) := by decide +kernel
theorem dX7_takesMember_1 : decode mX7_takesMember.2.1 1 = .ok (.invokestatic 85, 3) := by decide +kernel
theorem dX7_takesMember_4 : decode mX7_takesMember.2.1 4 = .ok (.istore_n 2, 1) := by decide +kernel
theorem dX7_takesMember_5 : decode mX7_takesMember.2.1 5 = .ok (.iload_n 2, 1) := by decide +kernel
theorem dX7_takesMember_6 : decode mX7_takesMember.2.1 6 = .ok (.iconst (-1), 1) := by decide +kernel
theorem dX7_takesMember_7 : decode mX7_takesMember.2.1 7 = .ok (.if_icmp .eq 14, 3) := by decide +kernel
theorem dX7_takesMember_10 : decode mX7_takesMember.2.1 10 = .ok (.aload_n 0, 1) := by decide +kernel
theorem dX7_takesMember_11 : decode mX7_takesMember.2.1 11 = .ok (.getfield 89, 3) := by decide +kernel
theorem dX7_takesMember_14 : decode mX7_takesMember.2.1 14 = .ok (.iload_n 2, 1) := by decide +kernel
theorem dX7_takesMember_15 : decode mX7_takesMember.2.1 15 = .ok (.invokestatic 92, 3) := by decide +kernel
theorem dX7_takesMember_18 : decode mX7_takesMember.2.1 18 = .ok (.ifCond .eq 5, 3) := by decide +kernel
theorem dX7_takesMember_21 : decode mX7_takesMember.2.1 21 = .ok (.iconst 0, 1) := by decide +kernel
theorem dX7_takesMember_22 : decode mX7_takesMember.2.1 22 = .ok (.ireturn, 1) := by decide +kernel
theorem dX7_takesMember_23 : decode mX7_takesMember.2.1 23 = .ok (.aload_n 0, 1) := by decide +kernel
theorem dX7_takesMember_24 : decode mX7_takesMember.2.1 24 = .ok (.dup, 1) := by decide +kernel
theorem dX7_takesMember_25 : decode mX7_takesMember.2.1 25 = .ok (.getfield 89, 3) := by decide +kernel
theorem dX7_takesMember_28 : decode mX7_takesMember.2.1 28 = .ok (.iconst 1, 1) := by decide +kernel
theorem dX7_takesMember_29 : decode mX7_takesMember.2.1 29 = .ok (.iload_n 2, 1) := by decide +kernel
theorem dX7_takesMember_30 : decode mX7_takesMember.2.1 30 = .ok (.ishl, 1) := by decide +kernel
theorem dX7_takesMember_31 : decode mX7_takesMember.2.1 31 = .ok (.ior, 1) := by decide +kernel
theorem dX7_takesMember_32 : decode mX7_takesMember.2.1 32 = .ok (.putfield 89, 3) := by decide +kernel
theorem dX7_takesMember_35 : decode mX7_takesMember.2.1 35 = .ok (.aload_n 0, 1) := by decide +kernel
theorem dX7_takesMember_36 : decode mX7_takesMember.2.1 36 = .ok (.iconst 4, 1) := by decide +kernel
theorem dX7_takesMember_37 : decode mX7_takesMember.2.1 37 = .ok (.putfield 96, 3) := by decide +kernel
theorem dX7_takesMember_40 : decode mX7_takesMember.2.1 40 = .ok (.iload_n 2, 1) := by decide +kernel
theorem dX7_takesMember_41 : decode mX7_takesMember.2.1 41 = .ok (.bipush 6, 2) := by decide +kernel
theorem dX7_takesMember_43 : decode mX7_takesMember.2.1 43 = .ok (.if_icmp .ge 38, 3) := by decide +kernel
theorem dX7_takesMember_46 : decode mX7_takesMember.2.1 46 = .ok (.aload_n 0, 1) := by decide +kernel
theorem dX7_takesMember_47 : decode mX7_takesMember.2.1 47 = .ok (.getfield 44, 3) := by decide +kernel
theorem dX7_takesMember_50 : decode mX7_takesMember.2.1 50 = .ok (.iload_n 2, 1) := by decide +kernel
theorem dX7_takesMember_51 : decode mX7_takesMember.2.1 51 = .ok (.aload_n 0, 1) := by decide +kernel
theorem dX7_takesMember_52 : decode mX7_takesMember.2.1 52 = .ok (.getfield 99, 3) := by decide +kernel
theorem dX7_takesMember_55 : decode mX7_takesMember.2.1 55 = .ok (.iastore, 1) := by decide +kernel
theorem dX7_takesMember_56 : decode mX7_takesMember.2.1 56 = .ok (.aload_n 0, 1) := by decide +kernel
theorem dX7_takesMember_57 : decode mX7_takesMember.2.1 57 = .ok (.getfield 47, 3) := by decide +kernel
theorem dX7_takesMember_60 : decode mX7_takesMember.2.1 60 = .ok (.aload_n 0, 1) := by decide +kernel
theorem dX7_takesMember_61 : decode mX7_takesMember.2.1 61 = .ok (.getfield 99, 3) := by decide +kernel
theorem dX7_takesMember_64 : decode mX7_takesMember.2.1 64 = .ok (.iconst 0, 1) := by decide +kernel
theorem dX7_takesMember_65 : decode mX7_takesMember.2.1 65 = .ok (.iastore, 1) := by decide +kernel
theorem dX7_takesMember_66 : decode mX7_takesMember.2.1 66 = .ok (.aload_n 0, 1) := by decide +kernel
theorem dX7_takesMember_67 : decode mX7_takesMember.2.1 67 = .ok (.dup, 1) := by decide +kernel
theorem dX7_takesMember_68 : decode mX7_takesMember.2.1 68 = .ok (.getfield 99, 3) := by decide +kernel
theorem dX7_takesMember_71 : decode mX7_takesMember.2.1 71 = .ok (.iconst 1, 1) := by decide +kernel
theorem dX7_takesMember_72 : decode mX7_takesMember.2.1 72 = .ok (.iadd, 1) := by decide +kernel
theorem dX7_takesMember_73 : decode mX7_takesMember.2.1 73 = .ok (.putfield 99, 3) := by decide +kernel
theorem dX7_takesMember_76 : decode mX7_takesMember.2.1 76 = .ok (.aload_n 0, 1) := by decide +kernel
theorem dX7_takesMember_77 : decode mX7_takesMember.2.1 77 = .ok (.iconst 5, 1) := by decide +kernel
theorem dX7_takesMember_78 : decode mX7_takesMember.2.1 78 = .ok (.putfield 96, 3) := by decide +kernel
theorem dX7_takesMember_81 : decode mX7_takesMember.2.1 81 = .ok (.aload_n 0, 1) := by decide +kernel
theorem dX7_takesMember_82 : decode mX7_takesMember.2.1 82 = .ok (.iload_n 2, 1) := by decide +kernel
theorem dX7_takesMember_83 : decode mX7_takesMember.2.1 83 = .ok (.putfield 102, 3) := by decide +kernel
theorem dX7_takesMember_86 : decode mX7_takesMember.2.1 86 = .ok (.iconst 1, 1) := by decide +kernel
theorem dX7_takesMember_87 : decode mX7_takesMember.2.1 87 = .ok (.ireturn, 1) := by decide +kernel
theorem dX7_takesBehindMethod_0 : decode mX7_takesBehindMethod.2.1 0 = .ok (.iload_n 1, 1) := by decide +kernel
theorem dX7_takesBehindMethod_1 : decode mX7_takesBehindMethod.2.1 1 = .ok (.bipush 45, 2) := by decide +kernel
theorem dX7_takesBehindMethod_3 : decode mX7_takesBehindMethod.2.1 3 = .ok (.if_icmp .ne 34, 3) := by decide +kernel
theorem dX7_takesBehindMethod_6 : decode mX7_takesBehindMethod.2.1 6 = .ok (.aload_n 0, 1) := by decide +kernel
theorem dX7_takesBehindMethod_7 : decode mX7_takesBehindMethod.2.1 7 = .ok (.getfield 96, 3) := by decide +kernel
theorem dX7_takesBehindMethod_10 : decode mX7_takesBehindMethod.2.1 10 = .ok (.iconst 5, 1) := by decide +kernel
theorem dX7_takesBehindMethod_11 : decode mX7_takesBehindMethod.2.1 11 = .ok (.if_icmp .ne 26, 3) := by decide +kernel
theorem dX7_takesBehindMethod_14 : decode mX7_takesBehindMethod.2.1 14 = .ok (.aload_n 0, 1) := by decide +kernel
theorem dX7_takesBehindMethod_15 : decode mX7_takesBehindMethod.2.1 15 = .ok (.dup, 1) := by decide +kernel
theorem dX7_takesBehindMethod_16 : decode mX7_takesBehindMethod.2.1 16 = .ok (.getfield 105, 3) := by decide +kernel
theorem dX7_takesBehindMethod_19 : decode mX7_takesBehindMethod.2.1 19 = .ok (.iconst 1, 1) := by decide +kernel
theorem dX7_takesBehindMethod_20 : decode mX7_takesBehindMethod.2.1 20 = .ok (.aload_n 0, 1) := by decide +kernel
theorem dX7_takesBehindMethod_21 : decode mX7_takesBehindMethod.2.1 21 = .ok (.getfield 102, 3) := by decide +kernel
theorem dX7_takesBehindMethod_24 : decode mX7_takesBehindMethod.2.1 24 = .ok (.ishl, 1) := by decide +kernel
theorem dX7_takesBehindMethod_25 : decode mX7_takesBehindMethod.2.1 25 = .ok (.ior, 1) := by decide +kernel
theorem dX7_takesBehindMethod_26 : decode mX7_takesBehindMethod.2.1 26 = .ok (.putfield 105, 3) := by decide +kernel
theorem dX7_takesBehindMethod_29 : decode mX7_takesBehindMethod.2.1 29 = .ok (.aload_n 0, 1) := by decide +kernel
theorem dX7_takesBehindMethod_30 : decode mX7_takesBehindMethod.2.1 30 = .ok (.bipush 6, 2) := by decide +kernel
theorem dX7_takesBehindMethod_32 : decode mX7_takesBehindMethod.2.1 32 = .ok (.putfield 96, 3) := by decide +kernel
theorem dX7_takesBehindMethod_35 : decode mX7_takesBehindMethod.2.1 35 = .ok (.iconst 1, 1) := by decide +kernel
theorem dX7_takesBehindMethod_36 : decode mX7_takesBehindMethod.2.1 36 = .ok (.ireturn, 1) := by decide +kernel
theorem dX7_takesBehindMethod_37 : decode mX7_takesBehindMethod.2.1 37 = .ok (.iload_n 1, 1) := by decide +kernel
theorem dX7_takesBehindMethod_38 : decode mX7_takesBehindMethod.2.1 38 = .ok (.bipush 40, 2) := by decide +kernel
theorem dX7_takesBehindMethod_40 : decode mX7_takesBehindMethod.2.1 40 = .ok (.if_icmp .ne 11, 3) := by decide +kernel
theorem dX7_takesBehindMethod_43 : decode mX7_takesBehindMethod.2.1 43 = .ok (.aload_n 0, 1) := by decide +kernel
theorem dX7_takesBehindMethod_44 : decode mX7_takesBehindMethod.2.1 44 = .ok (.bipush 7, 2) := by decide +kernel
theorem dX7_takesBehindMethod_46 : decode mX7_takesBehindMethod.2.1 46 = .ok (.putfield 96, 3) := by decide +kernel
theorem dX7_takesBehindMethod_49 : decode mX7_takesBehindMethod.2.1 49 = .ok (.iconst 1, 1) := by decide +kernel
theorem dX7_takesBehindMethod_50 : decode mX7_takesBehindMethod.2.1 50 = .ok (.ireturn, 1) := by decide +kernel
theorem dX7_takesBehindMethod_51 : decode mX7_takesBehindMethod.2.1 51 = .ok (.aload_n 0, 1) := by decide +kernel
theorem dX7_takesBehindMethod_52 : decode mX7_takesBehindMethod.2.1 52 = .ok (.iload_n 1, 1) := by decide +kernel
theorem dX7_takesBehindMethod_53 : decode mX7_takesBehindMethod.2.1 53 = .ok (.invokevirtual 108, 3) := by decide +kernel
theorem dX7_takesBehindMethod_56 : decode mX7_takesBehindMethod.2.1 56 = .ok (.ireturn, 1) := by decide +kernel
theorem dX7_takesItem_0 : decode mX7_takesItem.2.1 0 = .ok (.aload_n 0, 1) := by decide +kernel
theorem dX7_takesItem_1 : decode mX7_takesItem.2.1 1 = .ok (.getfield 99, 3) := by decide +kernel
theorem dX7_takesItem_4 : decode mX7_takesItem.2.1 4 = .ok (.iconst 1, 1) := by decide +kernel
theorem dX7_takesItem_5 : decode mX7_takesItem.2.1 5 = .ok (.isub, 1) := by decide +kernel
theorem dX7_takesItem_6 : decode mX7_takesItem.2.1 6 = .ok (.istore_n 2, 1) := by decide +kernel
theorem dX7_takesItem_7 : decode mX7_takesItem.2.1 7 = .ok (.iload_n 1, 1) := by decide +kernel
theorem dX7_takesItem_8 : decode mX7_takesItem.2.1 8 = .ok (.invokestatic 85, 3) := by decide +kernel
theorem dX7_takesItem_11 : decode mX7_takesItem.2.1 11 = .ok (.istore_n 3, 1) := by decide +kernel
theorem dX7_takesItem_12 : decode mX7_takesItem.2.1 12 = .ok (.iload_n 1, 1) := by decide +kernel
theorem dX7_takesItem_13 : decode mX7_takesItem.2.1 13 = .ok (.bipush 41, 2) := by decide +kernel
theorem dX7_takesItem_15 : decode mX7_takesItem.2.1 15 = .ok (.if_icmp .ne 28, 3) := by decide +kernel
theorem dX7_takesItem_18 : decode mX7_takesItem.2.1 18 = .ok (.aload_n 0, 1) := by decide +kernel
theorem dX7_takesItem_19 : decode mX7_takesItem.2.1 19 = .ok (.getfield 96, 3) := by decide +kernel
theorem dX7_takesItem_22 : decode mX7_takesItem.2.1 22 = .ok (.bipush 7, 2) := by decide +kernel
theorem dX7_takesItem_24 : decode mX7_takesItem.2.1 24 = .ok (.if_icmp .ne 19, 3) := by decide +kernel
theorem dX7_takesItem_27 : decode mX7_takesItem.2.1 27 = .ok (.aload_n 0, 1) := by decide +kernel
theorem dX7_takesItem_28 : decode mX7_takesItem.2.1 28 = .ok (.getfield 47, 3) := by decide +kernel
theorem dX7_takesItem_31 : decode mX7_takesItem.2.1 31 = .ok (.iload_n 2, 1) := by decide +kernel
theorem dX7_takesItem_32 : decode mX7_takesItem.2.1 32 = .ok (.iaload, 1) := by decide +kernel
theorem dX7_takesItem_33 : decode mX7_takesItem.2.1 33 = .ok (.ifCond .le 10, 3) := by decide +kernel
theorem dX7_takesItem_36 : decode mX7_takesItem.2.1 36 = .ok (.aload_n 0, 1) := by decide +kernel
theorem dX7_takesItem_37 : decode mX7_takesItem.2.1 37 = .ok (.iconst 4, 1) := by decide +kernel
theorem dX7_takesItem_38 : decode mX7_takesItem.2.1 38 = .ok (.putfield 96, 3) := by decide +kernel
theorem dX7_takesItem_41 : decode mX7_takesItem.2.1 41 = .ok (.iconst 1, 1) := by decide +kernel
theorem dX7_takesItem_42 : decode mX7_takesItem.2.1 42 = .ok (.ireturn, 1) := by decide +kernel
theorem dX7_takesItem_43 : decode mX7_takesItem.2.1 43 = .ok (.aload_n 0, 1) := by decide +kernel
theorem dX7_takesItem_44 : decode mX7_takesItem.2.1 44 = .ok (.getfield 47, 3) := by decide +kernel
theorem dX7_takesItem_47 : decode mX7_takesItem.2.1 47 = .ok (.iload_n 2, 1) := by decide +kernel
theorem dX7_takesItem_48 : decode mX7_takesItem.2.1 48 = .ok (.iaload, 1) := by decide +kernel
theorem dX7_takesItem_49 : decode mX7_takesItem.2.1 49 = .ok (.bipush 6, 2) := by decide +kernel
theorem dX7_takesItem_51 : decode mX7_takesItem.2.1 51 = .ok (.if_icmp .ne 5, 3) := by decide +kernel
theorem dX7_takesItem_54 : decode mX7_takesItem.2.1 54 = .ok (.iconst 0, 1) := by decide +kernel
theorem dX7_takesItem_55 : decode mX7_takesItem.2.1 55 = .ok (.ireturn, 1) := by decide +kernel
theorem dX7_takesItem_56 : decode mX7_takesItem.2.1 56 = .ok (.iload_n 1, 1) := by decide +kernel
theorem dX7_takesItem_57 : decode mX7_takesItem.2.1 57 = .ok (.bipush 94, 2) := by decide +kernel
theorem dX7_takesItem_59 : decode mX7_takesItem.2.1 59 = .ok (.if_icmp .ne 20, 3) := by decide +kernel
theorem dX7_takesItem_62 : decode mX7_takesItem.2.1 62 = .ok (.aload_n 0, 1) := by decide +kernel
theorem dX7_takesItem_63 : decode mX7_takesItem.2.1 63 = .ok (.getfield 96, 3) := by decide +kernel
theorem dX7_takesItem_66 : decode mX7_takesItem.2.1 66 = .ok (.bipush 7, 2) := by decide +kernel
theorem dX7_takesItem_68 : decode mX7_takesItem.2.1 68 = .ok (.if_icmp .ne 11, 3) := by decide +kernel
theorem dX7_takesItem_71 : decode mX7_takesItem.2.1 71 = .ok (.aload_n 0, 1) := by decide +kernel
theorem dX7_takesItem_72 : decode mX7_takesItem.2.1 72 = .ok (.bipush 8, 2) := by decide +kernel
theorem dX7_takesItem_74 : decode mX7_takesItem.2.1 74 = .ok (.putfield 96, 3) := by decide +kernel
theorem dX7_takesItem_77 : decode mX7_takesItem.2.1 77 = .ok (.iconst 1, 1) := by decide +kernel
theorem dX7_takesItem_78 : decode mX7_takesItem.2.1 78 = .ok (.ireturn, 1) := by decide +kernel
theorem dX7_takesItem_79 : decode mX7_takesItem.2.1 79 = .ok (.iload_n 3, 1) := by decide +kernel
theorem dX7_takesItem_80 : decode mX7_takesItem.2.1 80 = .ok (.iconst (-1), 1) := by decide +kernel
theorem dX7_takesItem_81 : decode mX7_takesItem.2.1 81 = .ok (.if_icmp .eq 18, 3) := by decide +kernel
theorem dX7_takesItem_84 : decode mX7_takesItem.2.1 84 = .ok (.aload_n 0, 1) := by decide +kernel
theorem dX7_takesItem_85 : decode mX7_takesItem.2.1 85 = .ok (.getfield 96, 3) := by decide +kernel
theorem dX7_takesItem_88 : decode mX7_takesItem.2.1 88 = .ok (.bipush 8, 2) := by decide +kernel
theorem dX7_takesItem_90 : decode mX7_takesItem.2.1 90 = .ok (.if_icmp .ne 11, 3) := by decide +kernel
theorem dX7_takesItem_93 : decode mX7_takesItem.2.1 93 = .ok (.iload_n 3, 1) := by decide +kernel
theorem dX7_takesItem_94 : decode mX7_takesItem.2.1 94 = .ok (.bipush 6, 2) := by decide +kernel
theorem dX7_takesItem_96 : decode mX7_takesItem.2.1 96 = .ok (.if_icmp .lt 5, 3) := by decide +kernel
theorem dX7_takesItem_99 : decode mX7_takesItem.2.1 99 = .ok (.iconst 0, 1) := by decide +kernel
theorem dX7_takesItem_100 : decode mX7_takesItem.2.1 100 = .ok (.ireturn, 1) := by decide +kernel
theorem dX7_takesItem_101 : decode mX7_takesItem.2.1 101 = .ok (.aload_n 0, 1) := by decide +kernel
theorem dX7_takesItem_102 : decode mX7_takesItem.2.1 102 = .ok (.getfield 50, 3) := by decide +kernel
theorem dX7_takesItem_105 : decode mX7_takesItem.2.1 105 = .ok (.bipush 6, 2) := by decide +kernel
theorem dX7_takesItem_107 : decode mX7_takesItem.2.1 107 = .ok (.iload_n 2, 1) := by decide +kernel
theorem dX7_takesItem_108 : decode mX7_takesItem.2.1 108 = .ok (.imul, 1) := by decide +kernel
theorem dX7_takesItem_109 : decode mX7_takesItem.2.1 109 = .ok (.aload_n 0, 1) := by decide +kernel
theorem dX7_takesItem_110 : decode mX7_takesItem.2.1 110 = .ok (.getfield 47, 3) := by decide +kernel
theorem dX7_takesItem_113 : decode mX7_takesItem.2.1 113 = .ok (.iload_n 2, 1) := by decide +kernel
theorem dX7_takesItem_114 : decode mX7_takesItem.2.1 114 = .ok (.iaload, 1) := by decide +kernel
theorem dX7_takesItem_115 : decode mX7_takesItem.2.1 115 = .ok (.iadd, 1) := by decide +kernel
theorem dX7_takesItem_116 : decode mX7_takesItem.2.1 116 = .ok (.aload_n 0, 1) := by decide +kernel
theorem dX7_takesItem_117 : decode mX7_takesItem.2.1 117 = .ok (.getfield 96, 3) := by decide +kernel
theorem dX7_takesItem_120 : decode mX7_takesItem.2.1 120 = .ok (.bipush 8, 2) := by decide +kernel
theorem dX7_takesItem_122 : decode mX7_takesItem.2.1 122 = .ok (.if_icmp .ne 10, 3) := by decide +kernel
theorem dX7_takesItem_125 : decode mX7_takesItem.2.1 125 = .ok (.bipush 20, 2) := by decide +kernel
theorem dX7_takesItem_127 : decode mX7_takesItem.2.1 127 = .ok (.iload_n 3, 1) := by decide +kernel
theorem dX7_takesItem_128 : decode mX7_takesItem.2.1 128 = .ok (.iadd, 1) := by decide +kernel
theorem dX7_takesItem_129 : decode mX7_takesItem.2.1 129 = .ok (.goto 4, 3) := by decide +kernel
theorem dX7_takesItem_132 : decode mX7_takesItem.2.1 132 = .ok (.iload_n 3, 1) := by decide +kernel
theorem dX7_takesItem_133 : decode mX7_takesItem.2.1 133 = .ok (.iastore, 1) := by decide +kernel
theorem dX7_takesItem_134 : decode mX7_takesItem.2.1 134 = .ok (.aload_n 0, 1) := by decide +kernel
theorem dX7_takesItem_135 : decode mX7_takesItem.2.1 135 = .ok (.getfield 47, 3) := by decide +kernel
theorem dX7_takesItem_138 : decode mX7_takesItem.2.1 138 = .ok (.iload_n 2, 1) := by decide +kernel
theorem dX7_takesItem_139 : decode mX7_takesItem.2.1 139 = .ok (.dup2, 1) := by decide +kernel
theorem dX7_takesItem_140 : decode mX7_takesItem.2.1 140 = .ok (.iaload, 1) := by decide +kernel
theorem dX7_takesItem_141 : decode mX7_takesItem.2.1 141 = .ok (.iconst 1, 1) := by decide +kernel
theorem dX7_takesItem_142 : decode mX7_takesItem.2.1 142 = .ok (.iadd, 1) := by decide +kernel
theorem dX7_takesItem_143 : decode mX7_takesItem.2.1 143 = .ok (.iastore, 1) := by decide +kernel
theorem dX7_takesItem_144 : decode mX7_takesItem.2.1 144 = .ok (.aload_n 0, 1) := by decide +kernel
theorem dX7_takesItem_145 : decode mX7_takesItem.2.1 145 = .ok (.bipush 7, 2) := by decide +kernel
theorem dX7_takesItem_147 : decode mX7_takesItem.2.1 147 = .ok (.putfield 96, 3) := by decide +kernel
theorem dX7_takesItem_150 : decode mX7_takesItem.2.1 150 = .ok (.iconst 1, 1) := by decide +kernel
theorem dX7_takesItem_151 : decode mX7_takesItem.2.1 151 = .ok (.ireturn, 1) := by decide +kernel
theorem dX7_takesHead_0 : decode mX7_takesHead.2.1 0 = .ok (.aload_n 0, 1) := by decide +kernel
theorem dX7_takesHead_1 : decode mX7_takesHead.2.1 1 = .ok (.getfield 96, 3) := by decide +kernel
theorem dX7_takesHead_4 : decode mX7_takesHead.2.1 4 = .ok (.ifCond .ne 25, 3) := by decide +kernel
theorem dX7_takesHead_7 : decode mX7_takesHead.2.1 7 = .ok (.aload_n 0, 1) := by decide +kernel
theorem dX7_takesHead_8 : decode mX7_takesHead.2.1 8 = .ok (.iconst 1, 1) := by decide +kernel
theorem dX7_takesHead_9 : decode mX7_takesHead.2.1 9 = .ok (.putfield 96, 3) := by decide +kernel
theorem dX7_takesHead_12 : decode mX7_takesHead.2.1 12 = .ok (.iload_n 1, 1) := by decide +kernel
theorem dX7_takesHead_13 : decode mX7_takesHead.2.1 13 = .ok (.bipush 65, 2) := by decide +kernel
theorem dX7_takesHead_15 : decode mX7_takesHead.2.1 15 = .ok (.aload_n 0, 1) := by decide +kernel
theorem dX7_takesHead_16 : decode mX7_takesHead.2.1 16 = .ok (.getfield 112, 3) := by decide +kernel
theorem dX7_takesHead_19 : decode mX7_takesHead.2.1 19 = .ok (.iadd, 1) := by decide +kernel
theorem dX7_takesHead_20 : decode mX7_takesHead.2.1 20 = .ok (.if_icmp .ne 7, 3) := by decide +kernel
theorem dX7_takesHead_23 : decode mX7_takesHead.2.1 23 = .ok (.iconst 1, 1) := by decide +kernel
theorem dX7_takesHead_24 : decode mX7_takesHead.2.1 24 = .ok (.goto 4, 3) := by decide +kernel
theorem dX7_takesHead_27 : decode mX7_takesHead.2.1 27 = .ok (.iconst 0, 1) := by decide +kernel
theorem dX7_takesHead_28 : decode mX7_takesHead.2.1 28 = .ok (.ireturn, 1) := by decide +kernel
theorem dX7_takesHead_29 : decode mX7_takesHead.2.1 29 = .ok (.aload_n 0, 1) := by decide +kernel
theorem dX7_takesHead_30 : decode mX7_takesHead.2.1 30 = .ok (.getfield 96, 3) := by decide +kernel
theorem dX7_takesHead_33 : decode mX7_takesHead.2.1 33 = .ok (.iconst 2, 1) := by decide +kernel
theorem dX7_takesHead_34 : decode mX7_takesHead.2.1 34 = .ok (.if_icmp .ne 31, 3) := by decide +kernel
theorem dX7_takesHead_37 : decode mX7_takesHead.2.1 37 = .ok (.aload_n 0, 1) := by decide +kernel
theorem dX7_takesHead_38 : decode mX7_takesHead.2.1 38 = .ok (.iload_n 1, 1) := by decide +kernel
theorem dX7_takesHead_39 : decode mX7_takesHead.2.1 39 = .ok (.bipush 65, 2) := by decide +kernel
theorem dX7_takesHead_41 : decode mX7_takesHead.2.1 41 = .ok (.isub, 1) := by decide +kernel
theorem dX7_takesHead_42 : decode mX7_takesHead.2.1 42 = .ok (.putfield 115, 3) := by decide +kernel
theorem dX7_takesHead_45 : decode mX7_takesHead.2.1 45 = .ok (.aload_n 0, 1) := by decide +kernel
theorem dX7_takesHead_46 : decode mX7_takesHead.2.1 46 = .ok (.iconst 3, 1) := by decide +kernel
theorem dX7_takesHead_47 : decode mX7_takesHead.2.1 47 = .ok (.putfield 96, 3) := by decide +kernel
theorem dX7_takesHead_50 : decode mX7_takesHead.2.1 50 = .ok (.aload_n 0, 1) := by decide +kernel
theorem dX7_takesHead_51 : decode mX7_takesHead.2.1 51 = .ok (.getfield 115, 3) := by decide +kernel
theorem dX7_takesHead_54 : decode mX7_takesHead.2.1 54 = .ok (.iconst 0, 1) := by decide +kernel
theorem dX7_takesHead_55 : decode mX7_takesHead.2.1 55 = .ok (.aload_n 0, 1) := by decide +kernel
theorem dX7_takesHead_56 : decode mX7_takesHead.2.1 56 = .ok (.getfield 112, 3) := by decide +kernel
theorem dX7_takesHead_59 : decode mX7_takesHead.2.1 59 = .ok (.iconst 1, 1) := by decide +kernel
theorem dX7_takesHead_60 : decode mX7_takesHead.2.1 60 = .ok (.isub, 1) := by decide +kernel
theorem dX7_takesHead_61 : decode mX7_takesHead.2.1 61 = .ok (.invokestatic 77, 3) := by decide +kernel
theorem dX7_takesHead_64 : decode mX7_takesHead.2.1 64 = .ok (.ireturn, 1) := by decide +kernel
theorem dX7_takesHead_65 : decode mX7_takesHead.2.1 65 = .ok (.iload_n 1, 1) := by decide +kernel
theorem dX7_takesHead_66 : decode mX7_takesHead.2.1 66 = .ok (.bipush 60, 2) := by decide +kernel
theorem dX7_takesHead_68 : decode mX7_takesHead.2.1 68 = .ok (.if_icmp .ne 25, 3) := by decide +kernel
theorem dX7_takesHead_71 : decode mX7_takesHead.2.1 71 = .ok (.aload_n 0, 1) := by decide +kernel
theorem dX7_takesHead_72 : decode mX7_takesHead.2.1 72 = .ok (.getfield 96, 3) := by decide +kernel
theorem dX7_takesHead_75 : decode mX7_takesHead.2.1 75 = .ok (.iconst 1, 1) := by decide +kernel
theorem dX7_takesHead_76 : decode mX7_takesHead.2.1 76 = .ok (.if_icmp .ne 17, 3) := by decide +kernel
theorem dX7_takesHead_79 : decode mX7_takesHead.2.1 79 = .ok (.aload_n 0, 1) := by decide +kernel
theorem dX7_takesHead_80 : decode mX7_takesHead.2.1 80 = .ok (.getfield 112, 3) := by decide +kernel
theorem dX7_takesHead_83 : decode mX7_takesHead.2.1 83 = .ok (.ifCond .le 10, 3) := by decide +kernel
theorem dX7_takesHead_86 : decode mX7_takesHead.2.1 86 = .ok (.aload_n 0, 1) := by decide +kernel
theorem dX7_takesHead_87 : decode mX7_takesHead.2.1 87 = .ok (.iconst 2, 1) := by decide +kernel
theorem dX7_takesHead_88 : decode mX7_takesHead.2.1 88 = .ok (.putfield 96, 3) := by decide +kernel
theorem dX7_takesHead_91 : decode mX7_takesHead.2.1 91 = .ok (.iconst 1, 1) := by decide +kernel
theorem dX7_takesHead_92 : decode mX7_takesHead.2.1 92 = .ok (.ireturn, 1) := by decide +kernel
theorem dX7_takesHead_93 : decode mX7_takesHead.2.1 93 = .ok (.aload_n 0, 1) := by decide +kernel
theorem dX7_takesHead_94 : decode mX7_takesHead.2.1 94 = .ok (.iconst 4, 1) := by decide +kernel
theorem dX7_takesHead_95 : decode mX7_takesHead.2.1 95 = .ok (.putfield 96, 3) := by decide +kernel
theorem dX7_takesHead_98 : decode mX7_takesHead.2.1 98 = .ok (.iload_n 1, 1) := by decide +kernel
theorem dX7_takesHead_99 : decode mX7_takesHead.2.1 99 = .ok (.bipush 58, 2) := by decide +kernel
theorem dX7_takesHead_101 : decode mX7_takesHead.2.1 101 = .ok (.if_icmp .ne 7, 3) := by decide +kernel
theorem dX7_takesHead_104 : decode mX7_takesHead.2.1 104 = .ok (.iconst 1, 1) := by decide +kernel
theorem dX7_takesHead_105 : decode mX7_takesHead.2.1 105 = .ok (.goto 4, 3) := by decide +kernel
theorem dX7_takesHead_108 : decode mX7_takesHead.2.1 108 = .ok (.iconst 0, 1) := by decide +kernel
theorem dX7_takesHead_109 : decode mX7_takesHead.2.1 109 = .ok (.ireturn, 1) := by decide +kernel
theorem dX7_takes_0 : decode mX7_takes.2.1 0 = .ok (.aload_n 0, 1) := by decide +kernel
theorem dX7_takes_1 : decode mX7_takes.2.1 1 = .ok (.getfield 96, 3) := by decide +kernel
theorem dX7_takes_4 : decode mX7_takes.2.1 4 = .ok (.iconst 4, 1) := by decide +kernel
theorem dX7_takes_5 : decode mX7_takes.2.1 5 = .ok (.if_icmp .ge 9, 3) := by decide +kernel
theorem dX7_takes_8 : decode mX7_takes.2.1 8 = .ok (.aload_n 0, 1) := by decide +kernel
theorem dX7_takes_9 : decode mX7_takes.2.1 9 = .ok (.iload_n 1, 1) := by decide +kernel
theorem dX7_takes_10 : decode mX7_takes.2.1 10 = .ok (.invokevirtual 118, 3) := by decide +kernel
theorem dX7_takes_13 : decode mX7_takes.2.1 13 = .ok (.ireturn, 1) := by decide +kernel
theorem dX7_takes_14 : decode mX7_takes.2.1 14 = .ok (.aload_n 0, 1) := by decide +kernel
theorem dX7_takes_15 : decode mX7_takes.2.1 15 = .ok (.getfield 96, 3) := by decide +kernel
theorem dX7_takes_18 : decode mX7_takes.2.1 18 = .ok (.iconst 4, 1) := by decide +kernel
theorem dX7_takes_19 : decode mX7_takes.2.1 19 = .ok (.if_icmp .ne 9, 3) := by decide +kernel
theorem dX7_takes_22 : decode mX7_takes.2.1 22 = .ok (.aload_n 0, 1) := by decide +kernel
theorem dX7_takes_23 : decode mX7_takes.2.1 23 = .ok (.iload_n 1, 1) := by decide +kernel
theorem dX7_takes_24 : decode mX7_takes.2.1 24 = .ok (.invokevirtual 108, 3) := by decide +kernel
theorem dX7_takes_27 : decode mX7_takes.2.1 27 = .ok (.ireturn, 1) := by decide +kernel
theorem dX7_takes_28 : decode mX7_takes.2.1 28 = .ok (.aload_n 0, 1) := by decide +kernel
theorem dX7_takes_29 : decode mX7_takes.2.1 29 = .ok (.getfield 96, 3) := by decide +kernel
theorem dX7_takes_32 : decode mX7_takes.2.1 32 = .ok (.bipush 7, 2) := by decide +kernel
theorem dX7_takes_34 : decode mX7_takes.2.1 34 = .ok (.if_icmp .ge 11, 3) := by decide +kernel
theorem dX7_takes_37 : decode mX7_takes.2.1 37 = .ok (.aload_n 0, 1) := by decide +kernel
theorem dX7_takes_38 : decode mX7_takes.2.1 38 = .ok (.iload_n 1, 1) := by decide +kernel
theorem dX7_takes_39 : decode mX7_takes.2.1 39 = .ok (.invokevirtual 121, 3) := by decide +kernel
theorem dX7_takes_42 : decode mX7_takes.2.1 42 = .ok (.goto 8, 3) := by decide +kernel
theorem dX7_takes_45 : decode mX7_takes.2.1 45 = .ok (.aload_n 0, 1) := by decide +kernel
theorem dX7_takes_46 : decode mX7_takes.2.1 46 = .ok (.iload_n 1, 1) := by decide +kernel
theorem dX7_takes_47 : decode mX7_takes.2.1 47 = .ok (.invokevirtual 124, 3) := by decide +kernel
theorem dX7_takes_50 : decode mX7_takes.2.1 50 = .ok (.ireturn, 1) := by decide +kernel
theorem dX7_read_0 : decode mX7_read.2.1 0 = .ok (.aload_n 0, 1) := by decide +kernel
theorem dX7_read_1 : decode mX7_read.2.1 1 = .ok (.iconst 0, 1) := by decide +kernel
theorem dX7_read_2 : decode mX7_read.2.1 2 = .ok (.putfield 96, 3) := by decide +kernel
theorem dX7_read_5 : decode mX7_read.2.1 5 = .ok (.aload_n 0, 1) := by decide +kernel
theorem dX7_read_6 : decode mX7_read.2.1 6 = .ok (.iconst (-1), 1) := by decide +kernel
theorem dX7_read_7 : decode mX7_read.2.1 7 = .ok (.putfield 115, 3) := by decide +kernel
theorem dX7_read_10 : decode mX7_read.2.1 10 = .ok (.aload_n 0, 1) := by decide +kernel
theorem dX7_read_11 : decode mX7_read.2.1 11 = .ok (.iconst 0, 1) := by decide +kernel
theorem dX7_read_12 : decode mX7_read.2.1 12 = .ok (.putfield 89, 3) := by decide +kernel
theorem dX7_read_15 : decode mX7_read.2.1 15 = .ok (.aload_n 0, 1) := by decide +kernel
theorem dX7_read_16 : decode mX7_read.2.1 16 = .ok (.iconst 0, 1) := by decide +kernel
theorem dX7_read_17 : decode mX7_read.2.1 17 = .ok (.putfield 105, 3) := by decide +kernel
theorem dX7_read_20 : decode mX7_read.2.1 20 = .ok (.aload_n 0, 1) := by decide +kernel
theorem dX7_read_21 : decode mX7_read.2.1 21 = .ok (.iconst 0, 1) := by decide +kernel
theorem dX7_read_22 : decode mX7_read.2.1 22 = .ok (.putfield 99, 3) := by decide +kernel
theorem dX7_read_25 : decode mX7_read.2.1 25 = .ok (.iconst 0, 1) := by decide +kernel
theorem dX7_read_26 : decode mX7_read.2.1 26 = .ok (.istore_n 1, 1) := by decide +kernel
theorem dX7_read_27 : decode mX7_read.2.1 27 = .ok (.iload_n 1, 1) := by decide +kernel
theorem dX7_read_28 : decode mX7_read.2.1 28 = .ok (.aload_n 0, 1) := by decide +kernel
theorem dX7_read_29 : decode mX7_read.2.1 29 = .ok (.getfield 81, 3) := by decide +kernel
theorem dX7_read_32 : decode mX7_read.2.1 32 = .ok (.if_icmp .ge 22, 3) := by decide +kernel
theorem dX7_read_35 : decode mX7_read.2.1 35 = .ok (.aload_n 0, 1) := by decide +kernel
theorem dX7_read_36 : decode mX7_read.2.1 36 = .ok (.aload_n 0, 1) := by decide +kernel
theorem dX7_read_37 : decode mX7_read.2.1 37 = .ok (.getfield 7, 3) := by decide +kernel
theorem dX7_read_40 : decode mX7_read.2.1 40 = .ok (.iload_n 1, 1) := by decide +kernel
theorem dX7_read_41 : decode mX7_read.2.1 41 = .ok (.iaload, 1) := by decide +kernel
theorem dX7_read_42 : decode mX7_read.2.1 42 = .ok (.invokevirtual 127, 3) := by decide +kernel
theorem dX7_read_45 : decode mX7_read.2.1 45 = .ok (.ifCond .eq 9, 3) := by decide +kernel
theorem dX7_read_48 : decode mX7_read.2.1 48 = .ok (.iinc 1 1, 3) := by decide +kernel
theorem dX7_read_51 : decode mX7_read.2.1 51 = .ok (.goto (-24), 3) := by decide +kernel
theorem dX7_read_54 : decode mX7_read.2.1 54 = .ok (.iload_n 1, 1) := by decide +kernel
theorem dX7_read_55 : decode mX7_read.2.1 55 = .ok (.ireturn, 1) := by decide +kernel
theorem dX7_fault_0 : decode mX7_fault.2.1 0 = .ok (.aload_n 0, 1) := by decide +kernel
theorem dX7_fault_1 : decode mX7_fault.2.1 1 = .ok (.invokevirtual 130, 3) := by decide +kernel
theorem dX7_fault_4 : decode mX7_fault.2.1 4 = .ok (.ireturn, 1) := by decide +kernel
theorem dX7_type_0 : decode mX7_type.2.1 0 = .ok (.aload_n 0, 1) := by decide +kernel
theorem dX7_type_1 : decode mX7_type.2.1 1 = .ok (.invokevirtual 130, 3) := by decide +kernel
theorem dX7_type_4 : decode mX7_type.2.1 4 = .ok (.aload_n 0, 1) := by decide +kernel
theorem dX7_type_5 : decode mX7_type.2.1 5 = .ok (.getfield 81, 3) := by decide +kernel
theorem dX7_type_8 : decode mX7_type.2.1 8 = .ok (.if_icmp .lt 16, 3) := by decide +kernel
theorem dX7_type_11 : decode mX7_type.2.1 11 = .ok (.aload_n 0, 1) := by decide +kernel
theorem dX7_type_12 : decode mX7_type.2.1 12 = .ok (.getfield 96, 3) := by decide +kernel
theorem dX7_type_15 : decode mX7_type.2.1 15 = .ok (.iconst 4, 1) := by decide +kernel
theorem dX7_type_16 : decode mX7_type.2.1 16 = .ok (.bipush 6, 2) := by decide +kernel
theorem dX7_type_18 : decode mX7_type.2.1 18 = .ok (.invokestatic 77, 3) := by decide +kernel
theorem dX7_type_21 : decode mX7_type.2.1 21 = .ok (.ifCond .ne 7, 3) := by decide +kernel
theorem dX7_type_24 : decode mX7_type.2.1 24 = .ok (.sipush (-1003), 3) := by decide +kernel
theorem dX7_type_27 : decode mX7_type.2.1 27 = .ok (.ireturn, 1) := by decide +kernel
theorem dX7_type_28 : decode mX7_type.2.1 28 = .ok (.aload_n 0, 1) := by decide +kernel
theorem dX7_type_29 : decode mX7_type.2.1 29 = .ok (.getfield 112, 3) := by decide +kernel
theorem dX7_type_32 : decode mX7_type.2.1 32 = .ok (.bipush 8, 2) := by decide +kernel
theorem dX7_type_34 : decode mX7_type.2.1 34 = .ok (.if_icmp .eq 17, 3) := by decide +kernel
theorem dX7_type_37 : decode mX7_type.2.1 37 = .ok (.aload_n 0, 1) := by decide +kernel
theorem dX7_type_38 : decode mX7_type.2.1 38 = .ok (.getfield 134, 3) := by decide +kernel
theorem dX7_type_41 : decode mX7_type.2.1 41 = .ok (.aload_n 0, 1) := by decide +kernel
theorem dX7_type_42 : decode mX7_type.2.1 42 = .ok (.getfield 99, 3) := by decide +kernel
theorem dX7_type_45 : decode mX7_type.2.1 45 = .ok (.iadd, 1) := by decide +kernel
theorem dX7_type_46 : decode mX7_type.2.1 46 = .ok (.bipush 40, 2) := by decide +kernel
theorem dX7_type_48 : decode mX7_type.2.1 48 = .ok (.if_icmp .le 7, 3) := by decide +kernel
theorem dX7_type_51 : decode mX7_type.2.1 51 = .ok (.sipush (-1004), 3) := by decide +kernel
theorem dX7_type_54 : decode mX7_type.2.1 54 = .ok (.ireturn, 1) := by decide +kernel
theorem dX7_type_55 : decode mX7_type.2.1 55 = .ok (.aload_n 0, 1) := by decide +kernel
theorem dX7_type_56 : decode mX7_type.2.1 56 = .ok (.getfield 13, 3) := by decide +kernel
theorem dX7_type_59 : decode mX7_type.2.1 59 = .ok (.aload_n 0, 1) := by decide +kernel
theorem dX7_type_60 : decode mX7_type.2.1 60 = .ok (.getfield 112, 3) := by decide +kernel
theorem dX7_type_63 : decode mX7_type.2.1 63 = .ok (.aload_n 0, 1) := by decide +kernel
theorem dX7_type_64 : decode mX7_type.2.1 64 = .ok (.getfield 115, 3) := by decide +kernel
theorem dX7_type_67 : decode mX7_type.2.1 67 = .ok (.iastore, 1) := by decide +kernel
theorem dX7_type_68 : decode mX7_type.2.1 68 = .ok (.aload_n 0, 1) := by decide +kernel
theorem dX7_type_69 : decode mX7_type.2.1 69 = .ok (.getfield 16, 3) := by decide +kernel
theorem dX7_type_72 : decode mX7_type.2.1 72 = .ok (.aload_n 0, 1) := by decide +kernel
theorem dX7_type_73 : decode mX7_type.2.1 73 = .ok (.getfield 112, 3) := by decide +kernel
theorem dX7_type_76 : decode mX7_type.2.1 76 = .ok (.iconst 0, 1) := by decide +kernel
theorem dX7_type_77 : decode mX7_type.2.1 77 = .ok (.bastore, 1) := by decide +kernel
theorem dX7_type_78 : decode mX7_type.2.1 78 = .ok (.aload_n 0, 1) := by decide +kernel
theorem dX7_type_79 : decode mX7_type.2.1 79 = .ok (.getfield 23, 3) := by decide +kernel
theorem dX7_type_82 : decode mX7_type.2.1 82 = .ok (.aload_n 0, 1) := by decide +kernel
theorem dX7_type_83 : decode mX7_type.2.1 83 = .ok (.getfield 112, 3) := by decide +kernel
theorem dX7_type_86 : decode mX7_type.2.1 86 = .ok (.aload_n 0, 1) := by decide +kernel
theorem dX7_type_87 : decode mX7_type.2.1 87 = .ok (.getfield 105, 3) := by decide +kernel
theorem dX7_type_90 : decode mX7_type.2.1 90 = .ok (.iastore, 1) := by decide +kernel
theorem dX7_type_91 : decode mX7_type.2.1 91 = .ok (.iconst 0, 1) := by decide +kernel
theorem dX7_type_92 : decode mX7_type.2.1 92 = .ok (.istore_n 1, 1) := by decide +kernel
theorem dX7_type_93 : decode mX7_type.2.1 93 = .ok (.iload_n 1, 1) := by decide +kernel
theorem dX7_type_94 : decode mX7_type.2.1 94 = .ok (.bipush 12, 2) := by decide +kernel
theorem dX7_type_96 : decode mX7_type.2.1 96 = .ok (.if_icmp .ge 79, 3) := by decide +kernel
theorem dX7_type_99 : decode mX7_type.2.1 99 = .ok (.iload_n 1, 1) := by decide +kernel
theorem dX7_type_100 : decode mX7_type.2.1 100 = .ok (.bipush 6, 2) := by decide +kernel
theorem dX7_type_102 : decode mX7_type.2.1 102 = .ok (.if_icmp .ge 27, 3) := by decide +kernel
theorem dX7_type_105 : decode mX7_type.2.1 105 = .ok (.aload_n 0, 1) := by decide +kernel
theorem dX7_type_106 : decode mX7_type.2.1 106 = .ok (.getfield 134, 3) := by decide +kernel
theorem dX7_type_109 : decode mX7_type.2.1 109 = .ok (.aload_n 0, 1) := by decide +kernel
theorem dX7_type_110 : decode mX7_type.2.1 110 = .ok (.getfield 44, 3) := by decide +kernel
theorem dX7_type_113 : decode mX7_type.2.1 113 = .ok (.iload_n 1, 1) := by decide +kernel
theorem dX7_type_114 : decode mX7_type.2.1 114 = .ok (.bipush 6, 2) := by decide +kernel
theorem dX7_type_116 : decode mX7_type.2.1 116 = .ok (.if_icmp .ge 7, 3) := by decide +kernel
theorem dX7_type_119 : decode mX7_type.2.1 119 = .ok (.iload_n 1, 1) := by decide +kernel
theorem dX7_type_120 : decode mX7_type.2.1 120 = .ok (.goto 4, 3) := by decide +kernel
theorem dX7_type_123 : decode mX7_type.2.1 123 = .ok (.iconst 0, 1) := by decide +kernel
theorem dX7_type_124 : decode mX7_type.2.1 124 = .ok (.iaload, 1) := by decide +kernel
theorem dX7_type_125 : decode mX7_type.2.1 125 = .ok (.iadd, 1) := by decide +kernel
theorem dX7_type_126 : decode mX7_type.2.1 126 = .ok (.goto 12, 3) := by decide +kernel
theorem dX7_type_129 : decode mX7_type.2.1 129 = .ok (.bipush 12, 2) := by decide +kernel
theorem dX7_type_131 : decode mX7_type.2.1 131 = .ok (.aload_n 0, 1) := by decide +kernel
theorem dX7_type_132 : decode mX7_type.2.1 132 = .ok (.getfield 112, 3) := by decide +kernel
theorem dX7_type_135 : decode mX7_type.2.1 135 = .ok (.imul, 1) := by decide +kernel
theorem dX7_type_136 : decode mX7_type.2.1 136 = .ok (.iload_n 1, 1) := by decide +kernel
theorem dX7_type_137 : decode mX7_type.2.1 137 = .ok (.iadd, 1) := by decide +kernel
theorem dX7_type_138 : decode mX7_type.2.1 138 = .ok (.istore_n 2, 1) := by decide +kernel
theorem dX7_type_139 : decode mX7_type.2.1 139 = .ok (.aload_n 0, 1) := by decide +kernel
theorem dX7_type_140 : decode mX7_type.2.1 140 = .ok (.getfield 20, 3) := by decide +kernel
theorem dX7_type_143 : decode mX7_type.2.1 143 = .ok (.bipush 12, 2) := by decide +kernel
theorem dX7_type_145 : decode mX7_type.2.1 145 = .ok (.aload_n 0, 1) := by decide +kernel
theorem dX7_type_146 : decode mX7_type.2.1 146 = .ok (.getfield 112, 3) := by decide +kernel
theorem dX7_type_149 : decode mX7_type.2.1 149 = .ok (.imul, 1) := by decide +kernel
theorem dX7_type_150 : decode mX7_type.2.1 150 = .ok (.iload_n 1, 1) := by decide +kernel
theorem dX7_type_151 : decode mX7_type.2.1 151 = .ok (.iadd, 1) := by decide +kernel
theorem dX7_type_152 : decode mX7_type.2.1 152 = .ok (.aload_n 0, 1) := by decide +kernel
theorem dX7_type_153 : decode mX7_type.2.1 153 = .ok (.getfield 89, 3) := by decide +kernel
theorem dX7_type_156 : decode mX7_type.2.1 156 = .ok (.iload_n 1, 1) := by decide +kernel
theorem dX7_type_157 : decode mX7_type.2.1 157 = .ok (.invokestatic 92, 3) := by decide +kernel
theorem dX7_type_160 : decode mX7_type.2.1 160 = .ok (.ifCond .eq 7, 3) := by decide +kernel
theorem dX7_type_163 : decode mX7_type.2.1 163 = .ok (.iload_n 2, 1) := by decide +kernel
theorem dX7_type_164 : decode mX7_type.2.1 164 = .ok (.goto 4, 3) := by decide +kernel
theorem dX7_type_167 : decode mX7_type.2.1 167 = .ok (.iconst (-1), 1) := by decide +kernel
theorem dX7_type_168 : decode mX7_type.2.1 168 = .ok (.iastore, 1) := by decide +kernel
theorem dX7_type_169 : decode mX7_type.2.1 169 = .ok (.iinc 1 1, 3) := by decide +kernel
theorem dX7_type_172 : decode mX7_type.2.1 172 = .ok (.goto (-79), 3) := by decide +kernel
theorem dX7_type_175 : decode mX7_type.2.1 175 = .ok (.iconst 0, 1) := by decide +kernel
theorem dX7_type_176 : decode mX7_type.2.1 176 = .ok (.istore_n 1, 1) := by decide +kernel
theorem dX7_type_177 : decode mX7_type.2.1 177 = .ok (.iload_n 1, 1) := by decide +kernel
theorem dX7_type_178 : decode mX7_type.2.1 178 = .ok (.aload_n 0, 1) := by decide +kernel
theorem dX7_type_179 : decode mX7_type.2.1 179 = .ok (.getfield 99, 3) := by decide +kernel
theorem dX7_type_182 : decode mX7_type.2.1 182 = .ok (.if_icmp .ge 86, 3) := by decide +kernel
theorem dX7_type_185 : decode mX7_type.2.1 185 = .ok (.aload_n 0, 1) := by decide +kernel
theorem dX7_type_186 : decode mX7_type.2.1 186 = .ok (.getfield 26, 3) := by decide +kernel
theorem dX7_type_189 : decode mX7_type.2.1 189 = .ok (.aload_n 0, 1) := by decide +kernel
theorem dX7_type_190 : decode mX7_type.2.1 190 = .ok (.getfield 134, 3) := by decide +kernel
theorem dX7_type_193 : decode mX7_type.2.1 193 = .ok (.iload_n 1, 1) := by decide +kernel
theorem dX7_type_194 : decode mX7_type.2.1 194 = .ok (.iadd, 1) := by decide +kernel
theorem dX7_type_195 : decode mX7_type.2.1 195 = .ok (.aload_n 0, 1) := by decide +kernel
theorem dX7_type_196 : decode mX7_type.2.1 196 = .ok (.getfield 112, 3) := by decide +kernel
theorem dX7_type_199 : decode mX7_type.2.1 199 = .ok (.iastore, 1) := by decide +kernel
theorem dX7_type_200 : decode mX7_type.2.1 200 = .ok (.aload_n 0, 1) := by decide +kernel
theorem dX7_type_201 : decode mX7_type.2.1 201 = .ok (.getfield 29, 3) := by decide +kernel
theorem dX7_type_204 : decode mX7_type.2.1 204 = .ok (.aload_n 0, 1) := by decide +kernel
theorem dX7_type_205 : decode mX7_type.2.1 205 = .ok (.getfield 134, 3) := by decide +kernel
theorem dX7_type_208 : decode mX7_type.2.1 208 = .ok (.iload_n 1, 1) := by decide +kernel
theorem dX7_type_209 : decode mX7_type.2.1 209 = .ok (.iadd, 1) := by decide +kernel
theorem dX7_type_210 : decode mX7_type.2.1 210 = .ok (.aload_n 0, 1) := by decide +kernel
theorem dX7_type_211 : decode mX7_type.2.1 211 = .ok (.getfield 47, 3) := by decide +kernel
theorem dX7_type_214 : decode mX7_type.2.1 214 = .ok (.iload_n 1, 1) := by decide +kernel
theorem dX7_type_215 : decode mX7_type.2.1 215 = .ok (.iaload, 1) := by decide +kernel
theorem dX7_type_216 : decode mX7_type.2.1 216 = .ok (.iastore, 1) := by decide +kernel
theorem dX7_type_217 : decode mX7_type.2.1 217 = .ok (.iconst 0, 1) := by decide +kernel
theorem dX7_type_218 : decode mX7_type.2.1 218 = .ok (.istore_n 2, 1) := by decide +kernel
theorem dX7_type_219 : decode mX7_type.2.1 219 = .ok (.iload_n 2, 1) := by decide +kernel
theorem dX7_type_220 : decode mX7_type.2.1 220 = .ok (.aload_n 0, 1) := by decide +kernel
theorem dX7_type_221 : decode mX7_type.2.1 221 = .ok (.getfield 47, 3) := by decide +kernel
theorem dX7_type_224 : decode mX7_type.2.1 224 = .ok (.iload_n 1, 1) := by decide +kernel
theorem dX7_type_225 : decode mX7_type.2.1 225 = .ok (.iaload, 1) := by decide +kernel
theorem dX7_type_226 : decode mX7_type.2.1 226 = .ok (.if_icmp .ge 36, 3) := by decide +kernel
theorem dX7_type_229 : decode mX7_type.2.1 229 = .ok (.aload_n 0, 1) := by decide +kernel
theorem dX7_type_230 : decode mX7_type.2.1 230 = .ok (.getfield 32, 3) := by decide +kernel
theorem dX7_type_233 : decode mX7_type.2.1 233 = .ok (.bipush 6, 2) := by decide +kernel
theorem dX7_type_235 : decode mX7_type.2.1 235 = .ok (.aload_n 0, 1) := by decide +kernel
theorem dX7_type_236 : decode mX7_type.2.1 236 = .ok (.getfield 134, 3) := by decide +kernel
theorem dX7_type_239 : decode mX7_type.2.1 239 = .ok (.iload_n 1, 1) := by decide +kernel
theorem dX7_type_240 : decode mX7_type.2.1 240 = .ok (.iadd, 1) := by decide +kernel
theorem dX7_type_241 : decode mX7_type.2.1 241 = .ok (.imul, 1) := by decide +kernel
theorem dX7_type_242 : decode mX7_type.2.1 242 = .ok (.iload_n 2, 1) := by decide +kernel
theorem dX7_type_243 : decode mX7_type.2.1 243 = .ok (.iadd, 1) := by decide +kernel
theorem dX7_type_244 : decode mX7_type.2.1 244 = .ok (.aload_n 0, 1) := by decide +kernel
theorem dX7_type_245 : decode mX7_type.2.1 245 = .ok (.getfield 50, 3) := by decide +kernel
theorem dX7_type_248 : decode mX7_type.2.1 248 = .ok (.bipush 6, 2) := by decide +kernel
theorem dX7_type_250 : decode mX7_type.2.1 250 = .ok (.iload_n 1, 1) := by decide +kernel
theorem dX7_type_251 : decode mX7_type.2.1 251 = .ok (.imul, 1) := by decide +kernel
theorem dX7_type_252 : decode mX7_type.2.1 252 = .ok (.iload_n 2, 1) := by decide +kernel
theorem dX7_type_253 : decode mX7_type.2.1 253 = .ok (.iadd, 1) := by decide +kernel
theorem dX7_type_254 : decode mX7_type.2.1 254 = .ok (.iaload, 1) := by decide +kernel
theorem dX7_type_255 : decode mX7_type.2.1 255 = .ok (.iastore, 1) := by decide +kernel
theorem dX7_type_256 : decode mX7_type.2.1 256 = .ok (.iinc 2 1, 3) := by decide +kernel
theorem dX7_type_259 : decode mX7_type.2.1 259 = .ok (.goto (-40), 3) := by decide +kernel
theorem dX7_type_262 : decode mX7_type.2.1 262 = .ok (.iinc 1 1, 3) := by decide +kernel
theorem dX7_type_265 : decode mX7_type.2.1 265 = .ok (.goto (-88), 3) := by decide +kernel
theorem dX7_type_268 : decode mX7_type.2.1 268 = .ok (.aload_n 0, 1) := by decide +kernel
theorem dX7_type_269 : decode mX7_type.2.1 269 = .ok (.dup, 1) := by decide +kernel
theorem dX7_type_270 : decode mX7_type.2.1 270 = .ok (.getfield 134, 3) := by decide +kernel
theorem dX7_type_273 : decode mX7_type.2.1 273 = .ok (.aload_n 0, 1) := by decide +kernel
theorem dX7_type_274 : decode mX7_type.2.1 274 = .ok (.getfield 99, 3) := by decide +kernel
theorem dX7_type_277 : decode mX7_type.2.1 277 = .ok (.iadd, 1) := by decide +kernel
theorem dX7_type_278 : decode mX7_type.2.1 278 = .ok (.putfield 134, 3) := by decide +kernel
theorem dX7_type_281 : decode mX7_type.2.1 281 = .ok (.aload_n 0, 1) := by decide +kernel
theorem dX7_type_282 : decode mX7_type.2.1 282 = .ok (.dup, 1) := by decide +kernel
theorem dX7_type_283 : decode mX7_type.2.1 283 = .ok (.getfield 112, 3) := by decide +kernel
theorem dX7_type_286 : decode mX7_type.2.1 286 = .ok (.iconst 1, 1) := by decide +kernel
theorem dX7_type_287 : decode mX7_type.2.1 287 = .ok (.iadd, 1) := by decide +kernel
theorem dX7_type_288 : decode mX7_type.2.1 288 = .ok (.putfield 112, 3) := by decide +kernel
theorem dX7_type_291 : decode mX7_type.2.1 291 = .ok (.aload_n 0, 1) := by decide +kernel
theorem dX7_type_292 : decode mX7_type.2.1 292 = .ok (.iconst 0, 1) := by decide +kernel
theorem dX7_type_293 : decode mX7_type.2.1 293 = .ok (.putfield 137, 3) := by decide +kernel
theorem dX7_type_296 : decode mX7_type.2.1 296 = .ok (.aload_n 0, 1) := by decide +kernel
theorem dX7_type_297 : decode mX7_type.2.1 297 = .ok (.iconst 0, 1) := by decide +kernel
theorem dX7_type_298 : decode mX7_type.2.1 298 = .ok (.putfield 81, 3) := by decide +kernel
theorem dX7_type_301 : decode mX7_type.2.1 301 = .ok (.aload_n 0, 1) := by decide +kernel
theorem dX7_type_302 : decode mX7_type.2.1 302 = .ok (.getfield 112, 3) := by decide +kernel
theorem dX7_type_305 : decode mX7_type.2.1 305 = .ok (.iconst 1, 1) := by decide +kernel
theorem dX7_type_306 : decode mX7_type.2.1 306 = .ok (.isub, 1) := by decide +kernel
theorem dX7_type_307 : decode mX7_type.2.1 307 = .ok (.ireturn, 1) := by decide +kernel
theorem dX7_memberOf_0 : decode mX7_memberOf.2.1 0 = .ok (.aload_n 0, 1) := by decide +kernel
theorem dX7_memberOf_1 : decode mX7_memberOf.2.1 1 = .ok (.getfield 20, 3) := by decide +kernel
theorem dX7_memberOf_4 : decode mX7_memberOf.2.1 4 = .ok (.bipush 96, 2) := by decide +kernel
theorem dX7_memberOf_6 : decode mX7_memberOf.2.1 6 = .ok (.aload_n 0, 1) := by decide +kernel
theorem dX7_memberOf_7 : decode mX7_memberOf.2.1 7 = .ok (.getfield 140, 3) := by decide +kernel
theorem dX7_memberOf_10 : decode mX7_memberOf.2.1 10 = .ok (.imul, 1) := by decide +kernel
theorem dX7_memberOf_11 : decode mX7_memberOf.2.1 11 = .ok (.bipush 12, 2) := by decide +kernel
theorem dX7_memberOf_13 : decode mX7_memberOf.2.1 13 = .ok (.iload_n 1, 1) := by decide +kernel
theorem dX7_memberOf_14 : decode mX7_memberOf.2.1 14 = .ok (.imul, 1) := by decide +kernel
theorem dX7_memberOf_15 : decode mX7_memberOf.2.1 15 = .ok (.iadd, 1) := by decide +kernel
theorem dX7_memberOf_16 : decode mX7_memberOf.2.1 16 = .ok (.iload_n 2, 1) := by decide +kernel
theorem dX7_memberOf_17 : decode mX7_memberOf.2.1 17 = .ok (.iadd, 1) := by decide +kernel
theorem dX7_memberOf_18 : decode mX7_memberOf.2.1 18 = .ok (.iaload, 1) := by decide +kernel
theorem dX7_memberOf_19 : decode mX7_memberOf.2.1 19 = .ok (.ireturn, 1) := by decide +kernel
theorem dX7_isHidden_0 : decode mX7_isHidden.2.1 0 = .ok (.aload_n 0, 1) := by decide +kernel
theorem dX7_isHidden_1 : decode mX7_isHidden.2.1 1 = .ok (.getfield 23, 3) := by decide +kernel
theorem dX7_isHidden_4 : decode mX7_isHidden.2.1 4 = .ok (.bipush 8, 2) := by decide +kernel
theorem dX7_isHidden_6 : decode mX7_isHidden.2.1 6 = .ok (.aload_n 0, 1) := by decide +kernel
theorem dX7_isHidden_7 : decode mX7_isHidden.2.1 7 = .ok (.getfield 140, 3) := by decide +kernel
theorem dX7_isHidden_10 : decode mX7_isHidden.2.1 10 = .ok (.imul, 1) := by decide +kernel
theorem dX7_isHidden_11 : decode mX7_isHidden.2.1 11 = .ok (.iload_n 1, 1) := by decide +kernel
theorem dX7_isHidden_12 : decode mX7_isHidden.2.1 12 = .ok (.iadd, 1) := by decide +kernel
theorem dX7_isHidden_13 : decode mX7_isHidden.2.1 13 = .ok (.iaload, 1) := by decide +kernel
theorem dX7_isHidden_14 : decode mX7_isHidden.2.1 14 = .ok (.iload_n 2, 1) := by decide +kernel
theorem dX7_isHidden_15 : decode mX7_isHidden.2.1 15 = .ok (.invokestatic 92, 3) := by decide +kernel
theorem dX7_isHidden_18 : decode mX7_isHidden.2.1 18 = .ok (.ireturn, 1) := by decide +kernel
theorem dX7_isElsewhere_0 : decode mX7_isElsewhere.2.1 0 = .ok (.aload_n 0, 1) := by decide +kernel
theorem dX7_isElsewhere_1 : decode mX7_isElsewhere.2.1 1 = .ok (.getfield 112, 3) := by decide +kernel
theorem dX7_isElsewhere_4 : decode mX7_isElsewhere.2.1 4 = .ok (.iconst 1, 1) := by decide +kernel
theorem dX7_isElsewhere_5 : decode mX7_isElsewhere.2.1 5 = .ok (.isub, 1) := by decide +kernel
theorem dX7_isElsewhere_6 : decode mX7_isElsewhere.2.1 6 = .ok (.istore_n 1, 1) := by decide +kernel
theorem dX7_isElsewhere_7 : decode mX7_isElsewhere.2.1 7 = .ok (.iconst 0, 1) := by decide +kernel
theorem dX7_isElsewhere_8 : decode mX7_isElsewhere.2.1 8 = .ok (.istore_n 2, 1) := by decide +kernel
theorem dX7_isElsewhere_9 : decode mX7_isElsewhere.2.1 9 = .ok (.iconst 0, 1) := by decide +kernel
theorem dX7_isElsewhere_10 : decode mX7_isElsewhere.2.1 10 = .ok (.istore_n 3, 1) := by decide +kernel
theorem dX7_isElsewhere_11 : decode mX7_isElsewhere.2.1 11 = .ok (.iload_n 3, 1) := by decide +kernel
theorem dX7_isElsewhere_12 : decode mX7_isElsewhere.2.1 12 = .ok (.bipush 12, 2) := by decide +kernel
theorem dX7_isElsewhere_14 : decode mX7_isElsewhere.2.1 14 = .ok (.iload_n 1, 1) := by decide +kernel
theorem dX7_isElsewhere_15 : decode mX7_isElsewhere.2.1 15 = .ok (.imul, 1) := by decide +kernel
theorem dX7_isElsewhere_16 : decode mX7_isElsewhere.2.1 16 = .ok (.if_icmp .ge 69, 3) := by decide +kernel
theorem dX7_isElsewhere_19 : decode mX7_isElsewhere.2.1 19 = .ok (.aload_n 0, 1) := by decide +kernel
theorem dX7_isElsewhere_20 : decode mX7_isElsewhere.2.1 20 = .ok (.getfield 20, 3) := by decide +kernel
theorem dX7_isElsewhere_23 : decode mX7_isElsewhere.2.1 23 = .ok (.iload_n 3, 1) := by decide +kernel
theorem dX7_isElsewhere_24 : decode mX7_isElsewhere.2.1 24 = .ok (.iaload, 1) := by decide +kernel
theorem dX7_isElsewhere_25 : decode mX7_isElsewhere.2.1 25 = .ok (.istore 4, 2) := by decide +kernel
theorem dX7_isElsewhere_27 : decode mX7_isElsewhere.2.1 27 = .ok (.iload 4, 2) := by decide +kernel
theorem dX7_isElsewhere_29 : decode mX7_isElsewhere.2.1 29 = .ok (.iconst (-1), 1) := by decide +kernel
theorem dX7_isElsewhere_30 : decode mX7_isElsewhere.2.1 30 = .ok (.if_icmp .ne 7, 3) := by decide +kernel
theorem dX7_isElsewhere_33 : decode mX7_isElsewhere.2.1 33 = .ok (.iconst (-1), 1) := by decide +kernel
theorem dX7_isElsewhere_34 : decode mX7_isElsewhere.2.1 34 = .ok (.goto 27, 3) := by decide +kernel
theorem dX7_isElsewhere_37 : decode mX7_isElsewhere.2.1 37 = .ok (.iload_n 3, 1) := by decide +kernel
theorem dX7_isElsewhere_38 : decode mX7_isElsewhere.2.1 38 = .ok (.bipush 12, 2) := by decide +kernel
theorem dX7_isElsewhere_40 : decode mX7_isElsewhere.2.1 40 = .ok (.irem, 1) := by decide +kernel
theorem dX7_isElsewhere_41 : decode mX7_isElsewhere.2.1 41 = .ok (.bipush 6, 2) := by decide +kernel
theorem dX7_isElsewhere_43 : decode mX7_isElsewhere.2.1 43 = .ok (.if_icmp .ge 13, 3) := by decide +kernel
theorem dX7_isElsewhere_46 : decode mX7_isElsewhere.2.1 46 = .ok (.aload_n 0, 1) := by decide +kernel
theorem dX7_isElsewhere_47 : decode mX7_isElsewhere.2.1 47 = .ok (.getfield 26, 3) := by decide +kernel
theorem dX7_isElsewhere_50 : decode mX7_isElsewhere.2.1 50 = .ok (.iload 4, 2) := by decide +kernel
theorem dX7_isElsewhere_52 : decode mX7_isElsewhere.2.1 52 = .ok (.iaload, 1) := by decide +kernel
theorem dX7_isElsewhere_53 : decode mX7_isElsewhere.2.1 53 = .ok (.goto 8, 3) := by decide +kernel
theorem dX7_isElsewhere_56 : decode mX7_isElsewhere.2.1 56 = .ok (.iload 4, 2) := by decide +kernel
theorem dX7_isElsewhere_58 : decode mX7_isElsewhere.2.1 58 = .ok (.bipush 12, 2) := by decide +kernel
theorem dX7_isElsewhere_60 : decode mX7_isElsewhere.2.1 60 = .ok (.idiv, 1) := by decide +kernel
theorem dX7_isElsewhere_61 : decode mX7_isElsewhere.2.1 61 = .ok (.istore 5, 2) := by decide +kernel
theorem dX7_isElsewhere_63 : decode mX7_isElsewhere.2.1 63 = .ok (.iload_n 2, 1) := by decide +kernel
theorem dX7_isElsewhere_64 : decode mX7_isElsewhere.2.1 64 = .ok (.ifCond .ne 9, 3) := by decide +kernel
theorem dX7_isElsewhere_67 : decode mX7_isElsewhere.2.1 67 = .ok (.iload 5, 2) := by decide +kernel
theorem dX7_isElsewhere_69 : decode mX7_isElsewhere.2.1 69 = .ok (.iload_n 1, 1) := by decide +kernel
theorem dX7_isElsewhere_70 : decode mX7_isElsewhere.2.1 70 = .ok (.if_icmp .ne 7, 3) := by decide +kernel
theorem dX7_isElsewhere_73 : decode mX7_isElsewhere.2.1 73 = .ok (.iconst 1, 1) := by decide +kernel
theorem dX7_isElsewhere_74 : decode mX7_isElsewhere.2.1 74 = .ok (.goto 4, 3) := by decide +kernel
theorem dX7_isElsewhere_77 : decode mX7_isElsewhere.2.1 77 = .ok (.iconst 0, 1) := by decide +kernel
theorem dX7_isElsewhere_78 : decode mX7_isElsewhere.2.1 78 = .ok (.istore_n 2, 1) := by decide +kernel
theorem dX7_isElsewhere_79 : decode mX7_isElsewhere.2.1 79 = .ok (.iinc 3 1, 3) := by decide +kernel
theorem dX7_isElsewhere_82 : decode mX7_isElsewhere.2.1 82 = .ok (.goto (-71), 3) := by decide +kernel
theorem dX7_isElsewhere_85 : decode mX7_isElsewhere.2.1 85 = .ok (.iload_n 2, 1) := by decide +kernel
theorem dX7_isElsewhere_86 : decode mX7_isElsewhere.2.1 86 = .ok (.ireturn, 1) := by decide +kernel
theorem dX7_drop_0 : decode mX7_drop.2.1 0 = .ok (.aload_n 0, 1) := by decide +kernel
theorem dX7_drop_1 : decode mX7_drop.2.1 1 = .ok (.getfield 112, 3) := by decide +kernel
theorem dX7_drop_4 : decode mX7_drop.2.1 4 = .ok (.ifCond .eq 10, 3) := by decide +kernel
theorem dX7_drop_7 : decode mX7_drop.2.1 7 = .ok (.aload_n 0, 1) := by decide +kernel
theorem dX7_drop_8 : decode mX7_drop.2.1 8 = .ok (.invokevirtual 143, 3) := by decide +kernel
theorem dX7_drop_11 : decode mX7_drop.2.1 11 = .ok (.ifCond .eq 7, 3) := by decide +kernel
theorem dX7_drop_14 : decode mX7_drop.2.1 14 = .ok (.sipush (-1003), 3) := by decide +kernel
theorem dX7_drop_17 : decode mX7_drop.2.1 17 = .ok (.ireturn, 1) := by decide +kernel
theorem dX7_drop_18 : decode mX7_drop.2.1 18 = .ok (.aload_n 0, 1) := by decide +kernel
theorem dX7_drop_19 : decode mX7_drop.2.1 19 = .ok (.dup, 1) := by decide +kernel
theorem dX7_drop_20 : decode mX7_drop.2.1 20 = .ok (.getfield 112, 3) := by decide +kernel
theorem dX7_drop_23 : decode mX7_drop.2.1 23 = .ok (.iconst 1, 1) := by decide +kernel
theorem dX7_drop_24 : decode mX7_drop.2.1 24 = .ok (.isub, 1) := by decide +kernel
theorem dX7_drop_25 : decode mX7_drop.2.1 25 = .ok (.putfield 112, 3) := by decide +kernel
theorem dX7_drop_28 : decode mX7_drop.2.1 28 = .ok (.aload_n 0, 1) := by decide +kernel
theorem dX7_drop_29 : decode mX7_drop.2.1 29 = .ok (.getfield 134, 3) := by decide +kernel
theorem dX7_drop_32 : decode mX7_drop.2.1 32 = .ok (.ifCond .le 34, 3) := by decide +kernel
theorem dX7_drop_35 : decode mX7_drop.2.1 35 = .ok (.aload_n 0, 1) := by decide +kernel
theorem dX7_drop_36 : decode mX7_drop.2.1 36 = .ok (.getfield 26, 3) := by decide +kernel
theorem dX7_drop_39 : decode mX7_drop.2.1 39 = .ok (.aload_n 0, 1) := by decide +kernel
theorem dX7_drop_40 : decode mX7_drop.2.1 40 = .ok (.getfield 134, 3) := by decide +kernel
theorem dX7_drop_43 : decode mX7_drop.2.1 43 = .ok (.iconst 1, 1) := by decide +kernel
theorem dX7_drop_44 : decode mX7_drop.2.1 44 = .ok (.isub, 1) := by decide +kernel
theorem dX7_drop_45 : decode mX7_drop.2.1 45 = .ok (.iaload, 1) := by decide +kernel
theorem dX7_drop_46 : decode mX7_drop.2.1 46 = .ok (.aload_n 0, 1) := by decide +kernel
theorem dX7_drop_47 : decode mX7_drop.2.1 47 = .ok (.getfield 112, 3) := by decide +kernel
theorem dX7_drop_50 : decode mX7_drop.2.1 50 = .ok (.if_icmp .ne 16, 3) := by decide +kernel
theorem dX7_drop_53 : decode mX7_drop.2.1 53 = .ok (.aload_n 0, 1) := by decide +kernel
theorem dX7_drop_54 : decode mX7_drop.2.1 54 = .ok (.dup, 1) := by decide +kernel
theorem dX7_drop_55 : decode mX7_drop.2.1 55 = .ok (.getfield 134, 3) := by decide +kernel
theorem dX7_drop_58 : decode mX7_drop.2.1 58 = .ok (.iconst 1, 1) := by decide +kernel
theorem dX7_drop_59 : decode mX7_drop.2.1 59 = .ok (.isub, 1) := by decide +kernel
theorem dX7_drop_60 : decode mX7_drop.2.1 60 = .ok (.putfield 134, 3) := by decide +kernel
theorem dX7_drop_63 : decode mX7_drop.2.1 63 = .ok (.goto (-35), 3) := by decide +kernel
theorem dX7_drop_66 : decode mX7_drop.2.1 66 = .ok (.aload_n 0, 1) := by decide +kernel
theorem dX7_drop_67 : decode mX7_drop.2.1 67 = .ok (.iconst 0, 1) := by decide +kernel
theorem dX7_drop_68 : decode mX7_drop.2.1 68 = .ok (.putfield 137, 3) := by decide +kernel
theorem dX7_drop_71 : decode mX7_drop.2.1 71 = .ok (.aload_n 0, 1) := by decide +kernel
theorem dX7_drop_72 : decode mX7_drop.2.1 72 = .ok (.getfield 112, 3) := by decide +kernel
theorem dX7_drop_75 : decode mX7_drop.2.1 75 = .ok (.ireturn, 1) := by decide +kernel
theorem dX7_isType_0 : decode mX7_isType.2.1 0 = .ok (.iload_n 1, 1) := by decide +kernel
theorem dX7_isType_1 : decode mX7_isType.2.1 1 = .ok (.iconst 0, 1) := by decide +kernel
theorem dX7_isType_2 : decode mX7_isType.2.1 2 = .ok (.aload_n 0, 1) := by decide +kernel
theorem dX7_isType_3 : decode mX7_isType.2.1 3 = .ok (.getfield 112, 3) := by decide +kernel
theorem dX7_isType_6 : decode mX7_isType.2.1 6 = .ok (.iconst 1, 1) := by decide +kernel
theorem dX7_isType_7 : decode mX7_isType.2.1 7 = .ok (.isub, 1) := by decide +kernel
theorem dX7_isType_8 : decode mX7_isType.2.1 8 = .ok (.invokestatic 77, 3) := by decide +kernel
theorem dX7_isType_11 : decode mX7_isType.2.1 11 = .ok (.ireturn, 1) := by decide +kernel
theorem dX7_hollow_0 : decode mX7_hollow.2.1 0 = .ok (.aload_n 0, 1) := by decide +kernel
theorem dX7_hollow_1 : decode mX7_hollow.2.1 1 = .ok (.iload_n 1, 1) := by decide +kernel
theorem dX7_hollow_2 : decode mX7_hollow.2.1 2 = .ok (.invokevirtual 147, 3) := by decide +kernel
theorem dX7_hollow_5 : decode mX7_hollow.2.1 5 = .ok (.ifCond .ne 7, 3) := by decide +kernel
theorem dX7_hollow_8 : decode mX7_hollow.2.1 8 = .ok (.sipush (-1001), 3) := by decide +kernel
theorem dX7_hollow_11 : decode mX7_hollow.2.1 11 = .ok (.ireturn, 1) := by decide +kernel
theorem dX7_hollow_12 : decode mX7_hollow.2.1 12 = .ok (.aload_n 0, 1) := by decide +kernel
theorem dX7_hollow_13 : decode mX7_hollow.2.1 13 = .ok (.getfield 16, 3) := by decide +kernel
theorem dX7_hollow_16 : decode mX7_hollow.2.1 16 = .ok (.iload_n 1, 1) := by decide +kernel
theorem dX7_hollow_17 : decode mX7_hollow.2.1 17 = .ok (.baload, 1) := by decide +kernel
theorem dX7_hollow_18 : decode mX7_hollow.2.1 18 = .ok (.ifCond .eq 7, 3) := by decide +kernel
theorem dX7_hollow_21 : decode mX7_hollow.2.1 21 = .ok (.iconst 1, 1) := by decide +kernel
theorem dX7_hollow_22 : decode mX7_hollow.2.1 22 = .ok (.goto 4, 3) := by decide +kernel
theorem dX7_hollow_25 : decode mX7_hollow.2.1 25 = .ok (.iconst 0, 1) := by decide +kernel
theorem dX7_hollow_26 : decode mX7_hollow.2.1 26 = .ok (.istore_n 3, 1) := by decide +kernel
theorem dX7_hollow_27 : decode mX7_hollow.2.1 27 = .ok (.aload_n 0, 1) := by decide +kernel
theorem dX7_hollow_28 : decode mX7_hollow.2.1 28 = .ok (.getfield 16, 3) := by decide +kernel
theorem dX7_hollow_31 : decode mX7_hollow.2.1 31 = .ok (.iload_n 1, 1) := by decide +kernel
theorem dX7_hollow_32 : decode mX7_hollow.2.1 32 = .ok (.iload_n 2, 1) := by decide +kernel
theorem dX7_hollow_33 : decode mX7_hollow.2.1 33 = .ok (.bastore, 1) := by decide +kernel
theorem dX7_hollow_34 : decode mX7_hollow.2.1 34 = .ok (.aload_n 0, 1) := by decide +kernel
theorem dX7_hollow_35 : decode mX7_hollow.2.1 35 = .ok (.iconst 0, 1) := by decide +kernel
theorem dX7_hollow_36 : decode mX7_hollow.2.1 36 = .ok (.putfield 137, 3) := by decide +kernel
theorem dX7_hollow_39 : decode mX7_hollow.2.1 39 = .ok (.iload_n 3, 1) := by decide +kernel
theorem dX7_hollow_40 : decode mX7_hollow.2.1 40 = .ok (.ireturn, 1) := by decide +kernel
theorem dX7_answersIn_0 : decode mX7_answersIn.2.1 0 = .ok (.iload_n 1, 1) := by decide +kernel
theorem dX7_answersIn_1 : decode mX7_answersIn.2.1 1 = .ok (.istore_n 3, 1) := by decide +kernel
theorem dX7_answersIn_2 : decode mX7_answersIn.2.1 2 = .ok (.iload_n 3, 1) := by decide +kernel
theorem dX7_answersIn_3 : decode mX7_answersIn.2.1 3 = .ok (.iconst (-1), 1) := by decide +kernel
theorem dX7_answersIn_4 : decode mX7_answersIn.2.1 4 = .ok (.if_icmp .eq 32, 3) := by decide +kernel
theorem dX7_answersIn_7 : decode mX7_answersIn.2.1 7 = .ok (.aload_n 0, 1) := by decide +kernel
theorem dX7_answersIn_8 : decode mX7_answersIn.2.1 8 = .ok (.iload_n 3, 1) := by decide +kernel
theorem dX7_answersIn_9 : decode mX7_answersIn.2.1 9 = .ok (.iload_n 2, 1) := by decide +kernel
theorem dX7_answersIn_10 : decode mX7_answersIn.2.1 10 = .ok (.invokevirtual 150, 3) := by decide +kernel
theorem dX7_answersIn_13 : decode mX7_answersIn.2.1 13 = .ok (.iconst (-1), 1) := by decide +kernel
theorem dX7_answersIn_14 : decode mX7_answersIn.2.1 14 = .ok (.if_icmp .eq 12, 3) := by decide +kernel
theorem dX7_answersIn_17 : decode mX7_answersIn.2.1 17 = .ok (.aload_n 0, 1) := by decide +kernel
theorem dX7_answersIn_18 : decode mX7_answersIn.2.1 18 = .ok (.iload_n 3, 1) := by decide +kernel
theorem dX7_answersIn_19 : decode mX7_answersIn.2.1 19 = .ok (.iload_n 2, 1) := by decide +kernel
theorem dX7_answersIn_20 : decode mX7_answersIn.2.1 20 = .ok (.invokevirtual 154, 3) := by decide +kernel
theorem dX7_answersIn_23 : decode mX7_answersIn.2.1 23 = .ok (.ifCond .eq 13, 3) := by decide +kernel
theorem dX7_answersIn_26 : decode mX7_answersIn.2.1 26 = .ok (.aload_n 0, 1) := by decide +kernel
theorem dX7_answersIn_27 : decode mX7_answersIn.2.1 27 = .ok (.getfield 13, 3) := by decide +kernel
theorem dX7_answersIn_30 : decode mX7_answersIn.2.1 30 = .ok (.iload_n 3, 1) := by decide +kernel
theorem dX7_answersIn_31 : decode mX7_answersIn.2.1 31 = .ok (.iaload, 1) := by decide +kernel
theorem dX7_answersIn_32 : decode mX7_answersIn.2.1 32 = .ok (.istore_n 3, 1) := by decide +kernel
theorem dX7_answersIn_33 : decode mX7_answersIn.2.1 33 = .ok (.goto (-31), 3) := by decide +kernel
theorem dX7_answersIn_36 : decode mX7_answersIn.2.1 36 = .ok (.iload_n 3, 1) := by decide +kernel
theorem dX7_answersIn_37 : decode mX7_answersIn.2.1 37 = .ok (.ireturn, 1) := by decide +kernel
theorem dX7_slotFrom_0 : decode mX7_slotFrom.2.1 0 = .ok (.iload_n 1, 1) := by decide +kernel
theorem dX7_slotFrom_1 : decode mX7_slotFrom.2.1 1 = .ok (.istore_n 3, 1) := by decide +kernel
theorem dX7_slotFrom_2 : decode mX7_slotFrom.2.1 2 = .ok (.iload_n 3, 1) := by decide +kernel
theorem dX7_slotFrom_3 : decode mX7_slotFrom.2.1 3 = .ok (.iconst (-1), 1) := by decide +kernel
theorem dX7_slotFrom_4 : decode mX7_slotFrom.2.1 4 = .ok (.if_icmp .eq 23, 3) := by decide +kernel
theorem dX7_slotFrom_7 : decode mX7_slotFrom.2.1 7 = .ok (.aload_n 0, 1) := by decide +kernel
theorem dX7_slotFrom_8 : decode mX7_slotFrom.2.1 8 = .ok (.iload_n 3, 1) := by decide +kernel
theorem dX7_slotFrom_9 : decode mX7_slotFrom.2.1 9 = .ok (.iload_n 2, 1) := by decide +kernel
theorem dX7_slotFrom_10 : decode mX7_slotFrom.2.1 10 = .ok (.invokevirtual 150, 3) := by decide +kernel
theorem dX7_slotFrom_13 : decode mX7_slotFrom.2.1 13 = .ok (.iconst (-1), 1) := by decide +kernel
theorem dX7_slotFrom_14 : decode mX7_slotFrom.2.1 14 = .ok (.if_icmp .ne 13, 3) := by decide +kernel
theorem dX7_slotFrom_17 : decode mX7_slotFrom.2.1 17 = .ok (.aload_n 0, 1) := by decide +kernel
theorem dX7_slotFrom_18 : decode mX7_slotFrom.2.1 18 = .ok (.getfield 13, 3) := by decide +kernel
theorem dX7_slotFrom_21 : decode mX7_slotFrom.2.1 21 = .ok (.iload_n 3, 1) := by decide +kernel
theorem dX7_slotFrom_22 : decode mX7_slotFrom.2.1 22 = .ok (.iaload, 1) := by decide +kernel
theorem dX7_slotFrom_23 : decode mX7_slotFrom.2.1 23 = .ok (.istore_n 3, 1) := by decide +kernel
theorem dX7_slotFrom_24 : decode mX7_slotFrom.2.1 24 = .ok (.goto (-22), 3) := by decide +kernel
theorem dX7_slotFrom_27 : decode mX7_slotFrom.2.1 27 = .ok (.iload_n 3, 1) := by decide +kernel
theorem dX7_slotFrom_28 : decode mX7_slotFrom.2.1 28 = .ok (.iconst (-1), 1) := by decide +kernel
theorem dX7_slotFrom_29 : decode mX7_slotFrom.2.1 29 = .ok (.if_icmp .ne 7, 3) := by decide +kernel
theorem dX7_slotFrom_32 : decode mX7_slotFrom.2.1 32 = .ok (.iconst (-1), 1) := by decide +kernel
theorem dX7_slotFrom_33 : decode mX7_slotFrom.2.1 33 = .ok (.goto 9, 3) := by decide +kernel
theorem dX7_slotFrom_36 : decode mX7_slotFrom.2.1 36 = .ok (.aload_n 0, 1) := by decide +kernel
theorem dX7_slotFrom_37 : decode mX7_slotFrom.2.1 37 = .ok (.iload_n 3, 1) := by decide +kernel
theorem dX7_slotFrom_38 : decode mX7_slotFrom.2.1 38 = .ok (.iload_n 2, 1) := by decide +kernel
theorem dX7_slotFrom_39 : decode mX7_slotFrom.2.1 39 = .ok (.invokevirtual 150, 3) := by decide +kernel
theorem dX7_slotFrom_42 : decode mX7_slotFrom.2.1 42 = .ok (.ireturn, 1) := by decide +kernel
theorem dX7_answered_0 : decode mX7_answered.2.1 0 = .ok (.iconst 0, 1) := by decide +kernel
theorem dX7_answered_1 : decode mX7_answered.2.1 1 = .ok (.istore_n 2, 1) := by decide +kernel
theorem dX7_answered_2 : decode mX7_answered.2.1 2 = .ok (.iconst 0, 1) := by decide +kernel
theorem dX7_answered_3 : decode mX7_answered.2.1 3 = .ok (.istore_n 3, 1) := by decide +kernel
theorem dX7_answered_4 : decode mX7_answered.2.1 4 = .ok (.iload_n 3, 1) := by decide +kernel
theorem dX7_answered_5 : decode mX7_answered.2.1 5 = .ok (.bipush 6, 2) := by decide +kernel
theorem dX7_answered_7 : decode mX7_answered.2.1 7 = .ok (.if_icmp .ge 29, 3) := by decide +kernel
theorem dX7_answered_10 : decode mX7_answered.2.1 10 = .ok (.iload_n 2, 1) := by decide +kernel
theorem dX7_answered_11 : decode mX7_answered.2.1 11 = .ok (.aload_n 0, 1) := by decide +kernel
theorem dX7_answered_12 : decode mX7_answered.2.1 12 = .ok (.iload_n 1, 1) := by decide +kernel
theorem dX7_answered_13 : decode mX7_answered.2.1 13 = .ok (.iload_n 3, 1) := by decide +kernel
theorem dX7_answered_14 : decode mX7_answered.2.1 14 = .ok (.invokevirtual 157, 3) := by decide +kernel
theorem dX7_answered_17 : decode mX7_answered.2.1 17 = .ok (.iconst (-1), 1) := by decide +kernel
theorem dX7_answered_18 : decode mX7_answered.2.1 18 = .ok (.if_icmp .ne 7, 3) := by decide +kernel
theorem dX7_answered_21 : decode mX7_answered.2.1 21 = .ok (.iconst 0, 1) := by decide +kernel
theorem dX7_answered_22 : decode mX7_answered.2.1 22 = .ok (.goto 6, 3) := by decide +kernel
theorem dX7_answered_25 : decode mX7_answered.2.1 25 = .ok (.iconst 1, 1) := by decide +kernel
theorem dX7_answered_26 : decode mX7_answered.2.1 26 = .ok (.iload_n 3, 1) := by decide +kernel
theorem dX7_answered_27 : decode mX7_answered.2.1 27 = .ok (.ishl, 1) := by decide +kernel
theorem dX7_answered_28 : decode mX7_answered.2.1 28 = .ok (.ior, 1) := by decide +kernel
theorem dX7_answered_29 : decode mX7_answered.2.1 29 = .ok (.istore_n 2, 1) := by decide +kernel
theorem dX7_answered_30 : decode mX7_answered.2.1 30 = .ok (.iinc 3 1, 3) := by decide +kernel
theorem dX7_answered_33 : decode mX7_answered.2.1 33 = .ok (.goto (-29), 3) := by decide +kernel
theorem dX7_answered_36 : decode mX7_answered.2.1 36 = .ok (.iload_n 2, 1) := by decide +kernel
theorem dX7_answered_37 : decode mX7_answered.2.1 37 = .ok (.ireturn, 1) := by decide +kernel
theorem dX7_hasOf_0 : decode mX7_hasOf.2.1 0 = .ok (.iconst 0, 1) := by decide +kernel
theorem dX7_hasOf_1 : decode mX7_hasOf.2.1 1 = .ok (.istore 4, 2) := by decide +kernel
theorem dX7_hasOf_3 : decode mX7_hasOf.2.1 3 = .ok (.iconst 0, 1) := by decide +kernel
theorem dX7_hasOf_4 : decode mX7_hasOf.2.1 4 = .ok (.istore 5, 2) := by decide +kernel
theorem dX7_hasOf_6 : decode mX7_hasOf.2.1 6 = .ok (.iload 5, 2) := by decide +kernel
theorem dX7_hasOf_8 : decode mX7_hasOf.2.1 8 = .ok (.iload_n 3, 1) := by decide +kernel
theorem dX7_hasOf_9 : decode mX7_hasOf.2.1 9 = .ok (.if_icmp .ge 35, 3) := by decide +kernel
theorem dX7_hasOf_12 : decode mX7_hasOf.2.1 12 = .ok (.iload 4, 2) := by decide +kernel
theorem dX7_hasOf_14 : decode mX7_hasOf.2.1 14 = .ok (.aload_n 0, 1) := by decide +kernel
theorem dX7_hasOf_15 : decode mX7_hasOf.2.1 15 = .ok (.iload_n 1, 1) := by decide +kernel
theorem dX7_hasOf_16 : decode mX7_hasOf.2.1 16 = .ok (.iload_n 2, 1) := by decide +kernel
theorem dX7_hasOf_17 : decode mX7_hasOf.2.1 17 = .ok (.iload 5, 2) := by decide +kernel
theorem dX7_hasOf_19 : decode mX7_hasOf.2.1 19 = .ok (.iadd, 1) := by decide +kernel
theorem dX7_hasOf_20 : decode mX7_hasOf.2.1 20 = .ok (.invokevirtual 150, 3) := by decide +kernel
theorem dX7_hasOf_23 : decode mX7_hasOf.2.1 23 = .ok (.iconst (-1), 1) := by decide +kernel
theorem dX7_hasOf_24 : decode mX7_hasOf.2.1 24 = .ok (.if_icmp .ne 7, 3) := by decide +kernel
theorem dX7_hasOf_27 : decode mX7_hasOf.2.1 27 = .ok (.iconst 0, 1) := by decide +kernel
theorem dX7_hasOf_28 : decode mX7_hasOf.2.1 28 = .ok (.goto 7, 3) := by decide +kernel
theorem dX7_hasOf_31 : decode mX7_hasOf.2.1 31 = .ok (.iconst 1, 1) := by decide +kernel
theorem dX7_hasOf_32 : decode mX7_hasOf.2.1 32 = .ok (.iload 5, 2) := by decide +kernel
theorem dX7_hasOf_34 : decode mX7_hasOf.2.1 34 = .ok (.ishl, 1) := by decide +kernel
theorem dX7_hasOf_35 : decode mX7_hasOf.2.1 35 = .ok (.ior, 1) := by decide +kernel
theorem dX7_hasOf_36 : decode mX7_hasOf.2.1 36 = .ok (.istore 4, 2) := by decide +kernel
theorem dX7_hasOf_38 : decode mX7_hasOf.2.1 38 = .ok (.iinc 5 1, 3) := by decide +kernel
theorem dX7_hasOf_41 : decode mX7_hasOf.2.1 41 = .ok (.goto (-35), 3) := by decide +kernel
theorem dX7_hasOf_44 : decode mX7_hasOf.2.1 44 = .ok (.iload 4, 2) := by decide +kernel
theorem dX7_hasOf_46 : decode mX7_hasOf.2.1 46 = .ok (.ireturn, 1) := by decide +kernel
theorem dX7_below_0 : decode mX7_below.2.1 0 = .ok (.iconst 0, 1) := by decide +kernel
theorem dX7_below_1 : decode mX7_below.2.1 1 = .ok (.istore_n 2, 1) := by decide +kernel
theorem dX7_below_2 : decode mX7_below.2.1 2 = .ok (.iconst 0, 1) := by decide +kernel
theorem dX7_below_3 : decode mX7_below.2.1 3 = .ok (.istore_n 3, 1) := by decide +kernel
theorem dX7_below_4 : decode mX7_below.2.1 4 = .ok (.iload_n 3, 1) := by decide +kernel
theorem dX7_below_5 : decode mX7_below.2.1 5 = .ok (.aload_n 0, 1) := by decide +kernel
theorem dX7_below_6 : decode mX7_below.2.1 6 = .ok (.getfield 112, 3) := by decide +kernel
theorem dX7_below_9 : decode mX7_below.2.1 9 = .ok (.if_icmp .ge 29, 3) := by decide +kernel
theorem dX7_below_12 : decode mX7_below.2.1 12 = .ok (.iload_n 2, 1) := by decide +kernel
theorem dX7_below_13 : decode mX7_below.2.1 13 = .ok (.aload_n 0, 1) := by decide +kernel
theorem dX7_below_14 : decode mX7_below.2.1 14 = .ok (.getfield 13, 3) := by decide +kernel
theorem dX7_below_17 : decode mX7_below.2.1 17 = .ok (.iload_n 3, 1) := by decide +kernel
theorem dX7_below_18 : decode mX7_below.2.1 18 = .ok (.iaload, 1) := by decide +kernel
theorem dX7_below_19 : decode mX7_below.2.1 19 = .ok (.iload_n 1, 1) := by decide +kernel
theorem dX7_below_20 : decode mX7_below.2.1 20 = .ok (.if_icmp .ne 9, 3) := by decide +kernel
theorem dX7_below_23 : decode mX7_below.2.1 23 = .ok (.iconst 1, 1) := by decide +kernel
theorem dX7_below_24 : decode mX7_below.2.1 24 = .ok (.iload_n 3, 1) := by decide +kernel
theorem dX7_below_25 : decode mX7_below.2.1 25 = .ok (.ishl, 1) := by decide +kernel
theorem dX7_below_26 : decode mX7_below.2.1 26 = .ok (.goto 4, 3) := by decide +kernel
theorem dX7_below_29 : decode mX7_below.2.1 29 = .ok (.iconst 0, 1) := by decide +kernel
theorem dX7_below_30 : decode mX7_below.2.1 30 = .ok (.ior, 1) := by decide +kernel
theorem dX7_below_31 : decode mX7_below.2.1 31 = .ok (.istore_n 2, 1) := by decide +kernel
theorem dX7_below_32 : decode mX7_below.2.1 32 = .ok (.iinc 3 1, 3) := by decide +kernel
theorem dX7_below_35 : decode mX7_below.2.1 35 = .ok (.goto (-31), 3) := by decide +kernel
theorem dX7_below_38 : decode mX7_below.2.1 38 = .ok (.iload_n 2, 1) := by decide +kernel
theorem dX7_below_39 : decode mX7_below.2.1 39 = .ok (.ireturn, 1) := by decide +kernel
theorem dX7_typeNow_0 : decode mX7_typeNow.2.1 0 = .ok (.iload_n 2, 1) := by decide +kernel
theorem dX7_typeNow_1 : decode mX7_typeNow.2.1 1 = .ok (.tableswitch 93 0 5 #[39, 46, 61, 70, 77, 87], 39) := by decide +kernel
theorem dX7_typeNow_40 : decode mX7_typeNow.2.1 40 = .ok (.aload_n 0, 1) := by decide +kernel
theorem dX7_typeNow_41 : decode mX7_typeNow.2.1 41 = .ok (.getfield 13, 3) := by decide +kernel
theorem dX7_typeNow_44 : decode mX7_typeNow.2.1 44 = .ok (.iload_n 1, 1) := by decide +kernel
theorem dX7_typeNow_45 : decode mX7_typeNow.2.1 45 = .ok (.iaload, 1) := by decide +kernel
theorem dX7_typeNow_46 : decode mX7_typeNow.2.1 46 = .ok (.ireturn, 1) := by decide +kernel
theorem dX7_typeNow_47 : decode mX7_typeNow.2.1 47 = .ok (.aload_n 0, 1) := by decide +kernel
theorem dX7_typeNow_48 : decode mX7_typeNow.2.1 48 = .ok (.getfield 16, 3) := by decide +kernel
theorem dX7_typeNow_51 : decode mX7_typeNow.2.1 51 = .ok (.iload_n 1, 1) := by decide +kernel
theorem dX7_typeNow_52 : decode mX7_typeNow.2.1 52 = .ok (.baload, 1) := by decide +kernel
theorem dX7_typeNow_53 : decode mX7_typeNow.2.1 53 = .ok (.ifCond .eq 7, 3) := by decide +kernel
theorem dX7_typeNow_56 : decode mX7_typeNow.2.1 56 = .ok (.iconst 1, 1) := by decide +kernel
theorem dX7_typeNow_57 : decode mX7_typeNow.2.1 57 = .ok (.goto 4, 3) := by decide +kernel
theorem dX7_typeNow_60 : decode mX7_typeNow.2.1 60 = .ok (.iconst 0, 1) := by decide +kernel
theorem dX7_typeNow_61 : decode mX7_typeNow.2.1 61 = .ok (.ireturn, 1) := by decide +kernel
theorem dX7_typeNow_62 : decode mX7_typeNow.2.1 62 = .ok (.aload_n 0, 1) := by decide +kernel
theorem dX7_typeNow_63 : decode mX7_typeNow.2.1 63 = .ok (.iload_n 1, 1) := by decide +kernel
theorem dX7_typeNow_64 : decode mX7_typeNow.2.1 64 = .ok (.iconst 0, 1) := by decide +kernel
theorem dX7_typeNow_65 : decode mX7_typeNow.2.1 65 = .ok (.bipush 6, 2) := by decide +kernel
theorem dX7_typeNow_67 : decode mX7_typeNow.2.1 67 = .ok (.invokevirtual 160, 3) := by decide +kernel
theorem dX7_typeNow_70 : decode mX7_typeNow.2.1 70 = .ok (.ireturn, 1) := by decide +kernel
theorem dX7_typeNow_71 : decode mX7_typeNow.2.1 71 = .ok (.aload_n 0, 1) := by decide +kernel
theorem dX7_typeNow_72 : decode mX7_typeNow.2.1 72 = .ok (.getfield 23, 3) := by decide +kernel
theorem dX7_typeNow_75 : decode mX7_typeNow.2.1 75 = .ok (.iload_n 1, 1) := by decide +kernel
theorem dX7_typeNow_76 : decode mX7_typeNow.2.1 76 = .ok (.iaload, 1) := by decide +kernel
theorem dX7_typeNow_77 : decode mX7_typeNow.2.1 77 = .ok (.ireturn, 1) := by decide +kernel
theorem dX7_typeNow_78 : decode mX7_typeNow.2.1 78 = .ok (.aload_n 0, 1) := by decide +kernel
theorem dX7_typeNow_79 : decode mX7_typeNow.2.1 79 = .ok (.iload_n 1, 1) := by decide +kernel
theorem dX7_typeNow_80 : decode mX7_typeNow.2.1 80 = .ok (.bipush 6, 2) := by decide +kernel
theorem dX7_typeNow_82 : decode mX7_typeNow.2.1 82 = .ok (.bipush 6, 2) := by decide +kernel
theorem dX7_typeNow_84 : decode mX7_typeNow.2.1 84 = .ok (.invokevirtual 160, 3) := by decide +kernel
theorem dX7_typeNow_87 : decode mX7_typeNow.2.1 87 = .ok (.ireturn, 1) := by decide +kernel
theorem dX7_typeNow_88 : decode mX7_typeNow.2.1 88 = .ok (.aload_n 0, 1) := by decide +kernel
theorem dX7_typeNow_89 : decode mX7_typeNow.2.1 89 = .ok (.iload_n 1, 1) := by decide +kernel
theorem dX7_typeNow_90 : decode mX7_typeNow.2.1 90 = .ok (.invokevirtual 164, 3) := by decide +kernel
theorem dX7_typeNow_93 : decode mX7_typeNow.2.1 93 = .ok (.ireturn, 1) := by decide +kernel
theorem dX7_typeNow_94 : decode mX7_typeNow.2.1 94 = .ok (.aload_n 0, 1) := by decide +kernel
theorem dX7_typeNow_95 : decode mX7_typeNow.2.1 95 = .ok (.iload_n 1, 1) := by decide +kernel
theorem dX7_typeNow_96 : decode mX7_typeNow.2.1 96 = .ok (.invokevirtual 167, 3) := by decide +kernel
theorem dX7_typeNow_99 : decode mX7_typeNow.2.1 99 = .ok (.ireturn, 1) := by decide +kernel
theorem dX7_of_0 : decode mX7_of.2.1 0 = .ok (.aload_n 0, 1) := by decide +kernel
theorem dX7_of_1 : decode mX7_of.2.1 1 = .ok (.iload_n 1, 1) := by decide +kernel
theorem dX7_of_2 : decode mX7_of.2.1 2 = .ok (.invokevirtual 147, 3) := by decide +kernel
theorem dX7_of_5 : decode mX7_of.2.1 5 = .ok (.ifCond .ne 7, 3) := by decide +kernel
theorem dX7_of_8 : decode mX7_of.2.1 8 = .ok (.sipush (-1001), 3) := by decide +kernel
theorem dX7_of_11 : decode mX7_of.2.1 11 = .ok (.ireturn, 1) := by decide +kernel
theorem dX7_of_12 : decode mX7_of.2.1 12 = .ok (.iload_n 2, 1) := by decide +kernel
theorem dX7_of_13 : decode mX7_of.2.1 13 = .ok (.iconst 0, 1) := by decide +kernel
theorem dX7_of_14 : decode mX7_of.2.1 14 = .ok (.bipush 6, 2) := by decide +kernel
theorem dX7_of_16 : decode mX7_of.2.1 16 = .ok (.invokestatic 77, 3) := by decide +kernel
theorem dX7_of_19 : decode mX7_of.2.1 19 = .ok (.ifCond .eq 12, 3) := by decide +kernel
theorem dX7_of_22 : decode mX7_of.2.1 22 = .ok (.aload_n 0, 1) := by decide +kernel
theorem dX7_of_23 : decode mX7_of.2.1 23 = .ok (.iload_n 1, 1) := by decide +kernel
theorem dX7_of_24 : decode mX7_of.2.1 24 = .ok (.iload_n 2, 1) := by decide +kernel
theorem dX7_of_25 : decode mX7_of.2.1 25 = .ok (.invokevirtual 170, 3) := by decide +kernel
theorem dX7_of_28 : decode mX7_of.2.1 28 = .ok (.goto 6, 3) := by decide +kernel
theorem dX7_of_31 : decode mX7_of.2.1 31 = .ok (.sipush (-1002), 3) := by decide +kernel
theorem dX7_of_34 : decode mX7_of.2.1 34 = .ok (.ireturn, 1) := by decide +kernel
theorem dX7_isMember_0 : decode mX7_isMember.2.1 0 = .ok (.aload_n 0, 1) := by decide +kernel
theorem dX7_isMember_1 : decode mX7_isMember.2.1 1 = .ok (.iload_n 1, 1) := by decide +kernel
theorem dX7_isMember_2 : decode mX7_isMember.2.1 2 = .ok (.invokevirtual 147, 3) := by decide +kernel
theorem dX7_isMember_5 : decode mX7_isMember.2.1 5 = .ok (.ifCond .eq 17, 3) := by decide +kernel
theorem dX7_isMember_8 : decode mX7_isMember.2.1 8 = .ok (.iload_n 2, 1) := by decide +kernel
theorem dX7_isMember_9 : decode mX7_isMember.2.1 9 = .ok (.iconst 0, 1) := by decide +kernel
theorem dX7_isMember_10 : decode mX7_isMember.2.1 10 = .ok (.bipush 11, 2) := by decide +kernel
theorem dX7_isMember_12 : decode mX7_isMember.2.1 12 = .ok (.invokestatic 77, 3) := by decide +kernel
theorem dX7_isMember_15 : decode mX7_isMember.2.1 15 = .ok (.ifCond .eq 7, 3) := by decide +kernel
theorem dX7_isMember_18 : decode mX7_isMember.2.1 18 = .ok (.iconst 1, 1) := by decide +kernel
theorem dX7_isMember_19 : decode mX7_isMember.2.1 19 = .ok (.goto 4, 3) := by decide +kernel
theorem dX7_isMember_22 : decode mX7_isMember.2.1 22 = .ok (.iconst 0, 1) := by decide +kernel
theorem dX7_isMember_23 : decode mX7_isMember.2.1 23 = .ok (.ireturn, 1) := by decide +kernel
theorem dX7_isMethod_0 : decode mX7_isMethod.2.1 0 = .ok (.aload_n 0, 1) := by decide +kernel
theorem dX7_isMethod_1 : decode mX7_isMethod.2.1 1 = .ok (.iload_n 1, 1) := by decide +kernel
theorem dX7_isMethod_2 : decode mX7_isMethod.2.1 2 = .ok (.invokevirtual 147, 3) := by decide +kernel
theorem dX7_isMethod_5 : decode mX7_isMethod.2.1 5 = .ok (.ifCond .eq 16, 3) := by decide +kernel
theorem dX7_isMethod_8 : decode mX7_isMethod.2.1 8 = .ok (.iload_n 2, 1) := by decide +kernel
theorem dX7_isMethod_9 : decode mX7_isMethod.2.1 9 = .ok (.iconst 0, 1) := by decide +kernel
theorem dX7_isMethod_10 : decode mX7_isMethod.2.1 10 = .ok (.iconst 5, 1) := by decide +kernel
theorem dX7_isMethod_11 : decode mX7_isMethod.2.1 11 = .ok (.invokestatic 77, 3) := by decide +kernel
theorem dX7_isMethod_14 : decode mX7_isMethod.2.1 14 = .ok (.ifCond .eq 7, 3) := by decide +kernel
theorem dX7_isMethod_17 : decode mX7_isMethod.2.1 17 = .ok (.iconst 1, 1) := by decide +kernel
theorem dX7_isMethod_18 : decode mX7_isMethod.2.1 18 = .ok (.goto 4, 3) := by decide +kernel
theorem dX7_isMethod_21 : decode mX7_isMethod.2.1 21 = .ok (.iconst 0, 1) := by decide +kernel
theorem dX7_isMethod_22 : decode mX7_isMethod.2.1 22 = .ok (.ireturn, 1) := by decide +kernel
theorem dX7_has_0 : decode mX7_has.2.1 0 = .ok (.aload_n 0, 1) := by decide +kernel
theorem dX7_has_1 : decode mX7_has.2.1 1 = .ok (.iload_n 1, 1) := by decide +kernel
theorem dX7_has_2 : decode mX7_has.2.1 2 = .ok (.iload_n 2, 1) := by decide +kernel
theorem dX7_has_3 : decode mX7_has.2.1 3 = .ok (.invokevirtual 173, 3) := by decide +kernel
theorem dX7_has_6 : decode mX7_has.2.1 6 = .ok (.ifCond .eq 12, 3) := by decide +kernel
theorem dX7_has_9 : decode mX7_has.2.1 9 = .ok (.aload_n 0, 1) := by decide +kernel
theorem dX7_has_10 : decode mX7_has.2.1 10 = .ok (.iload_n 1, 1) := by decide +kernel
theorem dX7_has_11 : decode mX7_has.2.1 11 = .ok (.iload_n 2, 1) := by decide +kernel
theorem dX7_has_12 : decode mX7_has.2.1 12 = .ok (.invokevirtual 150, 3) := by decide +kernel
theorem dX7_has_15 : decode mX7_has.2.1 15 = .ok (.goto 6, 3) := by decide +kernel
theorem dX7_has_18 : decode mX7_has.2.1 18 = .ok (.sipush (-1001), 3) := by decide +kernel
theorem dX7_has_21 : decode mX7_has.2.1 21 = .ok (.ireturn, 1) := by decide +kernel
theorem dX7_answerNow_0 : decode mX7_answerNow.2.1 0 = .ok (.aload_n 0, 1) := by decide +kernel
theorem dX7_answerNow_1 : decode mX7_answerNow.2.1 1 = .ok (.iload_n 1, 1) := by decide +kernel
theorem dX7_answerNow_2 : decode mX7_answerNow.2.1 2 = .ok (.iload_n 2, 1) := by decide +kernel
theorem dX7_answerNow_3 : decode mX7_answerNow.2.1 3 = .ok (.invokevirtual 157, 3) := by decide +kernel
theorem dX7_answerNow_6 : decode mX7_answerNow.2.1 6 = .ok (.istore 4, 2) := by decide +kernel
theorem dX7_answerNow_8 : decode mX7_answerNow.2.1 8 = .ok (.iload 4, 2) := by decide +kernel
theorem dX7_answerNow_10 : decode mX7_answerNow.2.1 10 = .ok (.iconst (-1), 1) := by decide +kernel
theorem dX7_answerNow_11 : decode mX7_answerNow.2.1 11 = .ok (.if_icmp .ne 7, 3) := by decide +kernel
theorem dX7_answerNow_14 : decode mX7_answerNow.2.1 14 = .ok (.iconst (-1), 1) := by decide +kernel
theorem dX7_answerNow_15 : decode mX7_answerNow.2.1 15 = .ok (.goto 19, 3) := by decide +kernel
theorem dX7_answerNow_18 : decode mX7_answerNow.2.1 18 = .ok (.iload_n 3, 1) := by decide +kernel
theorem dX7_answerNow_19 : decode mX7_answerNow.2.1 19 = .ok (.ifCond .ne 13, 3) := by decide +kernel
theorem dX7_answerNow_22 : decode mX7_answerNow.2.1 22 = .ok (.aload_n 0, 1) := by decide +kernel
theorem dX7_answerNow_23 : decode mX7_answerNow.2.1 23 = .ok (.iload 4, 2) := by decide +kernel
theorem dX7_answerNow_25 : decode mX7_answerNow.2.1 25 = .ok (.iload_n 2, 1) := by decide +kernel
theorem dX7_answerNow_26 : decode mX7_answerNow.2.1 26 = .ok (.invokevirtual 150, 3) := by decide +kernel
theorem dX7_answerNow_29 : decode mX7_answerNow.2.1 29 = .ok (.goto 5, 3) := by decide +kernel
theorem dX7_answerNow_32 : decode mX7_answerNow.2.1 32 = .ok (.iload 4, 2) := by decide +kernel
theorem dX7_answerNow_34 : decode mX7_answerNow.2.1 34 = .ok (.ireturn, 1) := by decide +kernel
theorem dX7_answer_0 : decode mX7_answer.2.1 0 = .ok (.aload_n 0, 1) := by decide +kernel
theorem dX7_answer_1 : decode mX7_answer.2.1 1 = .ok (.iload_n 1, 1) := by decide +kernel
theorem dX7_answer_2 : decode mX7_answer.2.1 2 = .ok (.iload_n 2, 1) := by decide +kernel
theorem dX7_answer_3 : decode mX7_answer.2.1 3 = .ok (.invokevirtual 176, 3) := by decide +kernel
theorem dX7_answer_6 : decode mX7_answer.2.1 6 = .ok (.ifCond .ne 7, 3) := by decide +kernel
theorem dX7_answer_9 : decode mX7_answer.2.1 9 = .ok (.sipush (-1001), 3) := by decide +kernel
theorem dX7_answer_12 : decode mX7_answer.2.1 12 = .ok (.ireturn, 1) := by decide +kernel
theorem dX7_answer_13 : decode mX7_answer.2.1 13 = .ok (.iload_n 3, 1) := by decide +kernel
theorem dX7_answer_14 : decode mX7_answer.2.1 14 = .ok (.iconst 0, 1) := by decide +kernel
theorem dX7_answer_15 : decode mX7_answer.2.1 15 = .ok (.iconst 1, 1) := by decide +kernel
theorem dX7_answer_16 : decode mX7_answer.2.1 16 = .ok (.invokestatic 77, 3) := by decide +kernel
theorem dX7_answer_19 : decode mX7_answer.2.1 19 = .ok (.ifCond .eq 13, 3) := by decide +kernel
theorem dX7_answer_22 : decode mX7_answer.2.1 22 = .ok (.aload_n 0, 1) := by decide +kernel
theorem dX7_answer_23 : decode mX7_answer.2.1 23 = .ok (.iload_n 1, 1) := by decide +kernel
theorem dX7_answer_24 : decode mX7_answer.2.1 24 = .ok (.iload_n 2, 1) := by decide +kernel
theorem dX7_answer_25 : decode mX7_answer.2.1 25 = .ok (.iload_n 3, 1) := by decide +kernel
theorem dX7_answer_26 : decode mX7_answer.2.1 26 = .ok (.invokevirtual 179, 3) := by decide +kernel
theorem dX7_answer_29 : decode mX7_answer.2.1 29 = .ok (.goto 6, 3) := by decide +kernel
theorem dX7_answer_32 : decode mX7_answer.2.1 32 = .ok (.sipush (-1002), 3) := by decide +kernel
theorem dX7_answer_35 : decode mX7_answer.2.1 35 = .ok (.ireturn, 1) := by decide +kernel
theorem dX7_bodyNow_0 : decode mX7_bodyNow.2.1 0 = .ok (.iload_n 2, 1) := by decide +kernel
theorem dX7_bodyNow_1 : decode mX7_bodyNow.2.1 1 = .ok (.ifCond .ne 12, 3) := by decide +kernel
theorem dX7_bodyNow_4 : decode mX7_bodyNow.2.1 4 = .ok (.aload_n 0, 1) := by decide +kernel
theorem dX7_bodyNow_5 : decode mX7_bodyNow.2.1 5 = .ok (.getfield 29, 3) := by decide +kernel
theorem dX7_bodyNow_8 : decode mX7_bodyNow.2.1 8 = .ok (.iload_n 1, 1) := by decide +kernel
theorem dX7_bodyNow_9 : decode mX7_bodyNow.2.1 9 = .ok (.iaload, 1) := by decide +kernel
theorem dX7_bodyNow_10 : decode mX7_bodyNow.2.1 10 = .ok (.goto 34, 3) := by decide +kernel
theorem dX7_bodyNow_13 : decode mX7_bodyNow.2.1 13 = .ok (.iload_n 2, 1) := by decide +kernel
theorem dX7_bodyNow_14 : decode mX7_bodyNow.2.1 14 = .ok (.bipush 10, 2) := by decide +kernel
theorem dX7_bodyNow_16 : decode mX7_bodyNow.2.1 16 = .ok (.isub, 1) := by decide +kernel
theorem dX7_bodyNow_17 : decode mX7_bodyNow.2.1 17 = .ok (.aload_n 0, 1) := by decide +kernel
theorem dX7_bodyNow_18 : decode mX7_bodyNow.2.1 18 = .ok (.getfield 29, 3) := by decide +kernel
theorem dX7_bodyNow_21 : decode mX7_bodyNow.2.1 21 = .ok (.iload_n 1, 1) := by decide +kernel
theorem dX7_bodyNow_22 : decode mX7_bodyNow.2.1 22 = .ok (.iaload, 1) := by decide +kernel
theorem dX7_bodyNow_23 : decode mX7_bodyNow.2.1 23 = .ok (.if_icmp .ge 20, 3) := by decide +kernel
theorem dX7_bodyNow_26 : decode mX7_bodyNow.2.1 26 = .ok (.aload_n 0, 1) := by decide +kernel
theorem dX7_bodyNow_27 : decode mX7_bodyNow.2.1 27 = .ok (.getfield 32, 3) := by decide +kernel
theorem dX7_bodyNow_30 : decode mX7_bodyNow.2.1 30 = .ok (.bipush 6, 2) := by decide +kernel
theorem dX7_bodyNow_32 : decode mX7_bodyNow.2.1 32 = .ok (.iload_n 1, 1) := by decide +kernel
theorem dX7_bodyNow_33 : decode mX7_bodyNow.2.1 33 = .ok (.imul, 1) := by decide +kernel
theorem dX7_bodyNow_34 : decode mX7_bodyNow.2.1 34 = .ok (.iload_n 2, 1) := by decide +kernel
theorem dX7_bodyNow_35 : decode mX7_bodyNow.2.1 35 = .ok (.iadd, 1) := by decide +kernel
theorem dX7_bodyNow_36 : decode mX7_bodyNow.2.1 36 = .ok (.bipush 10, 2) := by decide +kernel
theorem dX7_bodyNow_38 : decode mX7_bodyNow.2.1 38 = .ok (.isub, 1) := by decide +kernel
theorem dX7_bodyNow_39 : decode mX7_bodyNow.2.1 39 = .ok (.iaload, 1) := by decide +kernel
theorem dX7_bodyNow_40 : decode mX7_bodyNow.2.1 40 = .ok (.goto 4, 3) := by decide +kernel
theorem dX7_bodyNow_43 : decode mX7_bodyNow.2.1 43 = .ok (.iconst (-1), 1) := by decide +kernel
theorem dX7_bodyNow_44 : decode mX7_bodyNow.2.1 44 = .ok (.ireturn, 1) := by decide +kernel
theorem dX7_body_0 : decode mX7_body.2.1 0 = .ok (.iload_n 1, 1) := by decide +kernel
theorem dX7_body_1 : decode mX7_body.2.1 1 = .ok (.iconst 0, 1) := by decide +kernel
theorem dX7_body_2 : decode mX7_body.2.1 2 = .ok (.aload_n 0, 1) := by decide +kernel
theorem dX7_body_3 : decode mX7_body.2.1 3 = .ok (.getfield 134, 3) := by decide +kernel
theorem dX7_body_6 : decode mX7_body.2.1 6 = .ok (.iconst 1, 1) := by decide +kernel
theorem dX7_body_7 : decode mX7_body.2.1 7 = .ok (.isub, 1) := by decide +kernel
theorem dX7_body_8 : decode mX7_body.2.1 8 = .ok (.invokestatic 77, 3) := by decide +kernel
theorem dX7_body_11 : decode mX7_body.2.1 11 = .ok (.ifCond .ne 7, 3) := by decide +kernel
theorem dX7_body_14 : decode mX7_body.2.1 14 = .ok (.sipush (-1001), 3) := by decide +kernel
theorem dX7_body_17 : decode mX7_body.2.1 17 = .ok (.ireturn, 1) := by decide +kernel
theorem dX7_body_18 : decode mX7_body.2.1 18 = .ok (.iload_n 2, 1) := by decide +kernel
theorem dX7_body_19 : decode mX7_body.2.1 19 = .ok (.ifCond .eq 14, 3) := by decide +kernel
theorem dX7_body_22 : decode mX7_body.2.1 22 = .ok (.iload_n 2, 1) := by decide +kernel
theorem dX7_body_23 : decode mX7_body.2.1 23 = .ok (.bipush 10, 2) := by decide +kernel
theorem dX7_body_25 : decode mX7_body.2.1 25 = .ok (.bipush 15, 2) := by decide +kernel
theorem dX7_body_27 : decode mX7_body.2.1 27 = .ok (.invokestatic 77, 3) := by decide +kernel
theorem dX7_body_30 : decode mX7_body.2.1 30 = .ok (.ifCond .eq 12, 3) := by decide +kernel
theorem dX7_body_33 : decode mX7_body.2.1 33 = .ok (.aload_n 0, 1) := by decide +kernel
theorem dX7_body_34 : decode mX7_body.2.1 34 = .ok (.iload_n 1, 1) := by decide +kernel
theorem dX7_body_35 : decode mX7_body.2.1 35 = .ok (.iload_n 2, 1) := by decide +kernel
theorem dX7_body_36 : decode mX7_body.2.1 36 = .ok (.invokevirtual 182, 3) := by decide +kernel
theorem dX7_body_39 : decode mX7_body.2.1 39 = .ok (.goto 6, 3) := by decide +kernel
theorem dX7_body_42 : decode mX7_body.2.1 42 = .ok (.sipush (-1002), 3) := by decide +kernel
theorem dX7_body_45 : decode mX7_body.2.1 45 = .ok (.ireturn, 1) := by decide +kernel
theorem dX7_put_0 : decode mX7_put.2.1 0 = .ok (.aload_n 0, 1) := by decide +kernel
theorem dX7_put_1 : decode mX7_put.2.1 1 = .ok (.getfield 185, 3) := by decide +kernel
theorem dX7_put_4 : decode mX7_put.2.1 4 = .ok (.bipush 60, 2) := by decide +kernel
theorem dX7_put_6 : decode mX7_put.2.1 6 = .ok (.if_icmp .ge 33, 3) := by decide +kernel
theorem dX7_put_9 : decode mX7_put.2.1 9 = .ok (.aload_n 0, 1) := by decide +kernel
theorem dX7_put_10 : decode mX7_put.2.1 10 = .ok (.getfield 53, 3) := by decide +kernel
theorem dX7_put_13 : decode mX7_put.2.1 13 = .ok (.aload_n 0, 1) := by decide +kernel
theorem dX7_put_14 : decode mX7_put.2.1 14 = .ok (.getfield 185, 3) := by decide +kernel
theorem dX7_put_17 : decode mX7_put.2.1 17 = .ok (.iload_n 1, 1) := by decide +kernel
theorem dX7_put_18 : decode mX7_put.2.1 18 = .ok (.iastore, 1) := by decide +kernel
theorem dX7_put_19 : decode mX7_put.2.1 19 = .ok (.aload_n 0, 1) := by decide +kernel
theorem dX7_put_20 : decode mX7_put.2.1 20 = .ok (.getfield 56, 3) := by decide +kernel
theorem dX7_put_23 : decode mX7_put.2.1 23 = .ok (.aload_n 0, 1) := by decide +kernel
theorem dX7_put_24 : decode mX7_put.2.1 24 = .ok (.getfield 185, 3) := by decide +kernel
theorem dX7_put_27 : decode mX7_put.2.1 27 = .ok (.iload_n 2, 1) := by decide +kernel
theorem dX7_put_28 : decode mX7_put.2.1 28 = .ok (.iastore, 1) := by decide +kernel
theorem dX7_put_29 : decode mX7_put.2.1 29 = .ok (.aload_n 0, 1) := by decide +kernel
theorem dX7_put_30 : decode mX7_put.2.1 30 = .ok (.dup, 1) := by decide +kernel
theorem dX7_put_31 : decode mX7_put.2.1 31 = .ok (.getfield 185, 3) := by decide +kernel
theorem dX7_put_34 : decode mX7_put.2.1 34 = .ok (.iconst 1, 1) := by decide +kernel
theorem dX7_put_35 : decode mX7_put.2.1 35 = .ok (.iadd, 1) := by decide +kernel
theorem dX7_put_36 : decode mX7_put.2.1 36 = .ok (.putfield 185, 3) := by decide +kernel
theorem dX7_put_39 : decode mX7_put.2.1 39 = .ok (.return_, 1) := by decide +kernel
theorem dX7_isRunning_0 : decode mX7_isRunning.2.1 0 = .ok (.iconst 0, 1) := by decide +kernel
theorem dX7_isRunning_1 : decode mX7_isRunning.2.1 1 = .ok (.istore_n 2, 1) := by decide +kernel
theorem dX7_isRunning_2 : decode mX7_isRunning.2.1 2 = .ok (.iconst 0, 1) := by decide +kernel
theorem dX7_isRunning_3 : decode mX7_isRunning.2.1 3 = .ok (.istore_n 3, 1) := by decide +kernel
theorem dX7_isRunning_4 : decode mX7_isRunning.2.1 4 = .ok (.iload_n 3, 1) := by decide +kernel
theorem dX7_isRunning_5 : decode mX7_isRunning.2.1 5 = .ok (.aload_n 0, 1) := by decide +kernel
theorem dX7_isRunning_6 : decode mX7_isRunning.2.1 6 = .ok (.getfield 188, 3) := by decide +kernel
theorem dX7_isRunning_9 : decode mX7_isRunning.2.1 9 = .ok (.if_icmp .ge 29, 3) := by decide +kernel
theorem dX7_isRunning_12 : decode mX7_isRunning.2.1 12 = .ok (.iload_n 2, 1) := by decide +kernel
theorem dX7_isRunning_13 : decode mX7_isRunning.2.1 13 = .ok (.ifCond .ne 13, 3) := by decide +kernel
theorem dX7_isRunning_16 : decode mX7_isRunning.2.1 16 = .ok (.aload_n 0, 1) := by decide +kernel
theorem dX7_isRunning_17 : decode mX7_isRunning.2.1 17 = .ok (.getfield 59, 3) := by decide +kernel
theorem dX7_isRunning_20 : decode mX7_isRunning.2.1 20 = .ok (.iload_n 3, 1) := by decide +kernel
theorem dX7_isRunning_21 : decode mX7_isRunning.2.1 21 = .ok (.iaload, 1) := by decide +kernel
theorem dX7_isRunning_22 : decode mX7_isRunning.2.1 22 = .ok (.iload_n 1, 1) := by decide +kernel
theorem dX7_isRunning_23 : decode mX7_isRunning.2.1 23 = .ok (.if_icmp .ne 7, 3) := by decide +kernel
theorem dX7_isRunning_26 : decode mX7_isRunning.2.1 26 = .ok (.iconst 1, 1) := by decide +kernel
theorem dX7_isRunning_27 : decode mX7_isRunning.2.1 27 = .ok (.goto 4, 3) := by decide +kernel
theorem dX7_isRunning_30 : decode mX7_isRunning.2.1 30 = .ok (.iconst 0, 1) := by decide +kernel
theorem dX7_isRunning_31 : decode mX7_isRunning.2.1 31 = .ok (.istore_n 2, 1) := by decide +kernel
theorem dX7_isRunning_32 : decode mX7_isRunning.2.1 32 = .ok (.iinc 3 1, 3) := by decide +kernel
theorem dX7_isRunning_35 : decode mX7_isRunning.2.1 35 = .ok (.goto (-31), 3) := by decide +kernel
theorem dX7_isRunning_38 : decode mX7_isRunning.2.1 38 = .ok (.iload_n 2, 1) := by decide +kernel
theorem dX7_isRunning_39 : decode mX7_isRunning.2.1 39 = .ok (.ireturn, 1) := by decide +kernel
theorem dX7_run_0 : decode mX7_run.2.1 0 = .ok (.aload_n 0, 1) := by decide +kernel
theorem dX7_run_1 : decode mX7_run.2.1 1 = .ok (.iload_n 1, 1) := by decide +kernel
theorem dX7_run_2 : decode mX7_run.2.1 2 = .ok (.invokevirtual 191, 3) := by decide +kernel
theorem dX7_run_5 : decode mX7_run.2.1 5 = .ok (.ifCond .eq 10, 3) := by decide +kernel
theorem dX7_run_8 : decode mX7_run.2.1 8 = .ok (.aload_n 0, 1) := by decide +kernel
theorem dX7_run_9 : decode mX7_run.2.1 9 = .ok (.iconst 1, 1) := by decide +kernel
theorem dX7_run_10 : decode mX7_run.2.1 10 = .ok (.iload_n 1, 1) := by decide +kernel
theorem dX7_run_11 : decode mX7_run.2.1 11 = .ok (.invokevirtual 194, 3) := by decide +kernel
theorem dX7_run_14 : decode mX7_run.2.1 14 = .ok (.return_, 1) := by decide +kernel
theorem dX7_run_15 : decode mX7_run.2.1 15 = .ok (.aload_n 0, 1) := by decide +kernel
theorem dX7_run_16 : decode mX7_run.2.1 16 = .ok (.getfield 185, 3) := by decide +kernel
theorem dX7_run_19 : decode mX7_run.2.1 19 = .ok (.bipush 60, 2) := by decide +kernel
theorem dX7_run_21 : decode mX7_run.2.1 21 = .ok (.if_icmp .ne 4, 3) := by decide +kernel
theorem dX7_run_24 : decode mX7_run.2.1 24 = .ok (.return_, 1) := by decide +kernel
theorem dX7_run_25 : decode mX7_run.2.1 25 = .ok (.aload_n 0, 1) := by decide +kernel
theorem dX7_run_26 : decode mX7_run.2.1 26 = .ok (.iconst 0, 1) := by decide +kernel
theorem dX7_run_27 : decode mX7_run.2.1 27 = .ok (.iload_n 1, 1) := by decide +kernel
theorem dX7_run_28 : decode mX7_run.2.1 28 = .ok (.invokevirtual 194, 3) := by decide +kernel
theorem dX7_run_31 : decode mX7_run.2.1 31 = .ok (.aload_n 0, 1) := by decide +kernel
theorem dX7_run_32 : decode mX7_run.2.1 32 = .ok (.getfield 59, 3) := by decide +kernel
theorem dX7_run_35 : decode mX7_run.2.1 35 = .ok (.aload_n 0, 1) := by decide +kernel
theorem dX7_run_36 : decode mX7_run.2.1 36 = .ok (.getfield 188, 3) := by decide +kernel
theorem dX7_run_39 : decode mX7_run.2.1 39 = .ok (.iload_n 1, 1) := by decide +kernel
theorem dX7_run_40 : decode mX7_run.2.1 40 = .ok (.iastore, 1) := by decide +kernel
theorem dX7_run_41 : decode mX7_run.2.1 41 = .ok (.aload_n 0, 1) := by decide +kernel
theorem dX7_run_42 : decode mX7_run.2.1 42 = .ok (.getfield 62, 3) := by decide +kernel
theorem dX7_run_45 : decode mX7_run.2.1 45 = .ok (.aload_n 0, 1) := by decide +kernel
theorem dX7_run_46 : decode mX7_run.2.1 46 = .ok (.getfield 188, 3) := by decide +kernel
theorem dX7_run_49 : decode mX7_run.2.1 49 = .ok (.iload_n 2, 1) := by decide +kernel
theorem dX7_run_50 : decode mX7_run.2.1 50 = .ok (.iastore, 1) := by decide +kernel
theorem dX7_run_51 : decode mX7_run.2.1 51 = .ok (.aload_n 0, 1) := by decide +kernel
theorem dX7_run_52 : decode mX7_run.2.1 52 = .ok (.getfield 65, 3) := by decide +kernel
theorem dX7_run_55 : decode mX7_run.2.1 55 = .ok (.aload_n 0, 1) := by decide +kernel
theorem dX7_run_56 : decode mX7_run.2.1 56 = .ok (.getfield 188, 3) := by decide +kernel
theorem dX7_run_59 : decode mX7_run.2.1 59 = .ok (.iconst 0, 1) := by decide +kernel
theorem dX7_run_60 : decode mX7_run.2.1 60 = .ok (.iastore, 1) := by decide +kernel
theorem dX7_run_61 : decode mX7_run.2.1 61 = .ok (.aload_n 0, 1) := by decide +kernel
theorem dX7_run_62 : decode mX7_run.2.1 62 = .ok (.dup, 1) := by decide +kernel
theorem dX7_run_63 : decode mX7_run.2.1 63 = .ok (.getfield 188, 3) := by decide +kernel
theorem dX7_run_66 : decode mX7_run.2.1 66 = .ok (.iconst 1, 1) := by decide +kernel
theorem dX7_run_67 : decode mX7_run.2.1 67 = .ok (.iadd, 1) := by decide +kernel
theorem dX7_run_68 : decode mX7_run.2.1 68 = .ok (.putfield 188, 3) := by decide +kernel
theorem dX7_run_71 : decode mX7_run.2.1 71 = .ok (.aload_n 0, 1) := by decide +kernel
theorem dX7_run_72 : decode mX7_run.2.1 72 = .ok (.aload_n 0, 1) := by decide +kernel
theorem dX7_run_73 : decode mX7_run.2.1 73 = .ok (.getfield 188, 3) := by decide +kernel
theorem dX7_run_76 : decode mX7_run.2.1 76 = .ok (.aload_n 0, 1) := by decide +kernel
theorem dX7_run_77 : decode mX7_run.2.1 77 = .ok (.getfield 198, 3) := by decide +kernel
theorem dX7_run_80 : decode mX7_run.2.1 80 = .ok (.if_icmp .le 10, 3) := by decide +kernel
theorem dX7_run_83 : decode mX7_run.2.1 83 = .ok (.aload_n 0, 1) := by decide +kernel
theorem dX7_run_84 : decode mX7_run.2.1 84 = .ok (.getfield 188, 3) := by decide +kernel
theorem dX7_run_87 : decode mX7_run.2.1 87 = .ok (.goto 7, 3) := by decide +kernel
theorem dX7_run_90 : decode mX7_run.2.1 90 = .ok (.aload_n 0, 1) := by decide +kernel
theorem dX7_run_91 : decode mX7_run.2.1 91 = .ok (.getfield 198, 3) := by decide +kernel
theorem dX7_run_94 : decode mX7_run.2.1 94 = .ok (.putfield 198, 3) := by decide +kernel
theorem dX7_run_97 : decode mX7_run.2.1 97 = .ok (.return_, 1) := by decide +kernel
theorem dX7_comesTo_0 : decode mX7_comesTo.2.1 0 = .ok (.iload_n 1, 1) := by decide +kernel
theorem dX7_comesTo_1 : decode mX7_comesTo.2.1 1 = .ok (.bipush 20, 2) := by decide +kernel
theorem dX7_comesTo_3 : decode mX7_comesTo.2.1 3 = .ok (.irem, 1) := by decide +kernel
theorem dX7_comesTo_4 : decode mX7_comesTo.2.1 4 = .ok (.istore 4, 2) := by decide +kernel
theorem dX7_comesTo_6 : decode mX7_comesTo.2.1 6 = .ok (.iload 4, 2) := by decide +kernel
theorem dX7_comesTo_8 : decode mX7_comesTo.2.1 8 = .ok (.bipush 6, 2) := by decide +kernel
theorem dX7_comesTo_10 : decode mX7_comesTo.2.1 10 = .ok (.if_icmp .lt 41, 3) := by decide +kernel
theorem dX7_comesTo_13 : decode mX7_comesTo.2.1 13 = .ok (.aload_n 0, 1) := by decide +kernel
theorem dX7_comesTo_14 : decode mX7_comesTo.2.1 14 = .ok (.iload_n 2, 1) := by decide +kernel
theorem dX7_comesTo_15 : decode mX7_comesTo.2.1 15 = .ok (.iload 4, 2) := by decide +kernel
theorem dX7_comesTo_17 : decode mX7_comesTo.2.1 17 = .ok (.invokevirtual 201, 3) := by decide +kernel
theorem dX7_comesTo_20 : decode mX7_comesTo.2.1 20 = .ok (.istore 5, 2) := by decide +kernel
theorem dX7_comesTo_22 : decode mX7_comesTo.2.1 22 = .ok (.aload_n 0, 1) := by decide +kernel
theorem dX7_comesTo_23 : decode mX7_comesTo.2.1 23 = .ok (.iload 5, 2) := by decide +kernel
theorem dX7_comesTo_25 : decode mX7_comesTo.2.1 25 = .ok (.iconst (-1), 1) := by decide +kernel
theorem dX7_comesTo_26 : decode mX7_comesTo.2.1 26 = .ok (.if_icmp .ne 7, 3) := by decide +kernel
theorem dX7_comesTo_29 : decode mX7_comesTo.2.1 29 = .ok (.iconst 3, 1) := by decide +kernel
theorem dX7_comesTo_30 : decode mX7_comesTo.2.1 30 = .ok (.goto 4, 3) := by decide +kernel
theorem dX7_comesTo_33 : decode mX7_comesTo.2.1 33 = .ok (.iconst 2, 1) := by decide +kernel
theorem dX7_comesTo_34 : decode mX7_comesTo.2.1 34 = .ok (.iload 5, 2) := by decide +kernel
theorem dX7_comesTo_36 : decode mX7_comesTo.2.1 36 = .ok (.iconst (-1), 1) := by decide +kernel
theorem dX7_comesTo_37 : decode mX7_comesTo.2.1 37 = .ok (.if_icmp .ne 8, 3) := by decide +kernel
theorem dX7_comesTo_40 : decode mX7_comesTo.2.1 40 = .ok (.iload 4, 2) := by decide +kernel
theorem dX7_comesTo_42 : decode mX7_comesTo.2.1 42 = .ok (.goto 5, 3) := by decide +kernel
theorem dX7_comesTo_45 : decode mX7_comesTo.2.1 45 = .ok (.iload 5, 2) := by decide +kernel
theorem dX7_comesTo_47 : decode mX7_comesTo.2.1 47 = .ok (.invokevirtual 194, 3) := by decide +kernel
theorem dX7_comesTo_50 : decode mX7_comesTo.2.1 50 = .ok (.return_, 1) := by decide +kernel
theorem dX7_comesTo_51 : decode mX7_comesTo.2.1 51 = .ok (.iload_n 1, 1) := by decide +kernel
theorem dX7_comesTo_52 : decode mX7_comesTo.2.1 52 = .ok (.bipush 20, 2) := by decide +kernel
theorem dX7_comesTo_54 : decode mX7_comesTo.2.1 54 = .ok (.if_icmp .ge 28, 3) := by decide +kernel
theorem dX7_comesTo_57 : decode mX7_comesTo.2.1 57 = .ok (.aload_n 0, 1) := by decide +kernel
theorem dX7_comesTo_58 : decode mX7_comesTo.2.1 58 = .ok (.iload_n 2, 1) := by decide +kernel
theorem dX7_comesTo_59 : decode mX7_comesTo.2.1 59 = .ok (.iload 4, 2) := by decide +kernel
theorem dX7_comesTo_61 : decode mX7_comesTo.2.1 61 = .ok (.invokevirtual 150, 3) := by decide +kernel
theorem dX7_comesTo_64 : decode mX7_comesTo.2.1 64 = .ok (.iconst (-1), 1) := by decide +kernel
theorem dX7_comesTo_65 : decode mX7_comesTo.2.1 65 = .ok (.if_icmp .eq 17, 3) := by decide +kernel
theorem dX7_comesTo_68 : decode mX7_comesTo.2.1 68 = .ok (.aload_n 0, 1) := by decide +kernel
theorem dX7_comesTo_69 : decode mX7_comesTo.2.1 69 = .ok (.iload_n 2, 1) := by decide +kernel
theorem dX7_comesTo_70 : decode mX7_comesTo.2.1 70 = .ok (.iload 4, 2) := by decide +kernel
theorem dX7_comesTo_72 : decode mX7_comesTo.2.1 72 = .ok (.invokevirtual 154, 3) := by decide +kernel
theorem dX7_comesTo_75 : decode mX7_comesTo.2.1 75 = .ok (.ifCond .eq 7, 3) := by decide +kernel
theorem dX7_comesTo_78 : decode mX7_comesTo.2.1 78 = .ok (.iconst 1, 1) := by decide +kernel
theorem dX7_comesTo_79 : decode mX7_comesTo.2.1 79 = .ok (.goto 4, 3) := by decide +kernel
theorem dX7_comesTo_82 : decode mX7_comesTo.2.1 82 = .ok (.iconst 0, 1) := by decide +kernel
theorem dX7_comesTo_83 : decode mX7_comesTo.2.1 83 = .ok (.istore 5, 2) := by decide +kernel
theorem dX7_comesTo_85 : decode mX7_comesTo.2.1 85 = .ok (.iload_n 1, 1) := by decide +kernel
theorem dX7_comesTo_86 : decode mX7_comesTo.2.1 86 = .ok (.bipush 20, 2) := by decide +kernel
theorem dX7_comesTo_88 : decode mX7_comesTo.2.1 88 = .ok (.if_icmp .lt 12, 3) := by decide +kernel
theorem dX7_comesTo_91 : decode mX7_comesTo.2.1 91 = .ok (.aload_n 0, 1) := by decide +kernel
theorem dX7_comesTo_92 : decode mX7_comesTo.2.1 92 = .ok (.getfield 13, 3) := by decide +kernel
theorem dX7_comesTo_95 : decode mX7_comesTo.2.1 95 = .ok (.iload_n 2, 1) := by decide +kernel
theorem dX7_comesTo_96 : decode mX7_comesTo.2.1 96 = .ok (.iaload, 1) := by decide +kernel
theorem dX7_comesTo_97 : decode mX7_comesTo.2.1 97 = .ok (.goto 4, 3) := by decide +kernel
theorem dX7_comesTo_100 : decode mX7_comesTo.2.1 100 = .ok (.iload_n 3, 1) := by decide +kernel
theorem dX7_comesTo_101 : decode mX7_comesTo.2.1 101 = .ok (.istore 6, 2) := by decide +kernel
theorem dX7_comesTo_103 : decode mX7_comesTo.2.1 103 = .ok (.iload 5, 2) := by decide +kernel
theorem dX7_comesTo_105 : decode mX7_comesTo.2.1 105 = .ok (.ifCond .eq 7, 3) := by decide +kernel
theorem dX7_comesTo_108 : decode mX7_comesTo.2.1 108 = .ok (.iload_n 2, 1) := by decide +kernel
theorem dX7_comesTo_109 : decode mX7_comesTo.2.1 109 = .ok (.goto 21, 3) := by decide +kernel
theorem dX7_comesTo_112 : decode mX7_comesTo.2.1 112 = .ok (.iload 6, 2) := by decide +kernel
theorem dX7_comesTo_114 : decode mX7_comesTo.2.1 114 = .ok (.iconst (-1), 1) := by decide +kernel
theorem dX7_comesTo_115 : decode mX7_comesTo.2.1 115 = .ok (.if_icmp .ne 7, 3) := by decide +kernel
theorem dX7_comesTo_118 : decode mX7_comesTo.2.1 118 = .ok (.iconst (-1), 1) := by decide +kernel
theorem dX7_comesTo_119 : decode mX7_comesTo.2.1 119 = .ok (.goto 11, 3) := by decide +kernel
theorem dX7_comesTo_122 : decode mX7_comesTo.2.1 122 = .ok (.aload_n 0, 1) := by decide +kernel
theorem dX7_comesTo_123 : decode mX7_comesTo.2.1 123 = .ok (.iload 6, 2) := by decide +kernel
theorem dX7_comesTo_125 : decode mX7_comesTo.2.1 125 = .ok (.iload 4, 2) := by decide +kernel
theorem dX7_comesTo_127 : decode mX7_comesTo.2.1 127 = .ok (.invokevirtual 157, 3) := by decide +kernel
theorem dX7_comesTo_130 : decode mX7_comesTo.2.1 130 = .ok (.istore 7, 2) := by decide +kernel
theorem dX7_comesTo_132 : decode mX7_comesTo.2.1 132 = .ok (.iload 7, 2) := by decide +kernel
theorem dX7_comesTo_134 : decode mX7_comesTo.2.1 134 = .ok (.iconst (-1), 1) := by decide +kernel
theorem dX7_comesTo_135 : decode mX7_comesTo.2.1 135 = .ok (.if_icmp .ne 13, 3) := by decide +kernel
theorem dX7_comesTo_138 : decode mX7_comesTo.2.1 138 = .ok (.aload_n 0, 1) := by decide +kernel
theorem dX7_comesTo_139 : decode mX7_comesTo.2.1 139 = .ok (.iconst 3, 1) := by decide +kernel
theorem dX7_comesTo_140 : decode mX7_comesTo.2.1 140 = .ok (.iload 4, 2) := by decide +kernel
theorem dX7_comesTo_142 : decode mX7_comesTo.2.1 142 = .ok (.invokevirtual 194, 3) := by decide +kernel
theorem dX7_comesTo_145 : decode mX7_comesTo.2.1 145 = .ok (.goto 17, 3) := by decide +kernel
theorem dX7_comesTo_148 : decode mX7_comesTo.2.1 148 = .ok (.aload_n 0, 1) := by decide +kernel
theorem dX7_comesTo_149 : decode mX7_comesTo.2.1 149 = .ok (.aload_n 0, 1) := by decide +kernel
theorem dX7_comesTo_150 : decode mX7_comesTo.2.1 150 = .ok (.iload 7, 2) := by decide +kernel
theorem dX7_comesTo_152 : decode mX7_comesTo.2.1 152 = .ok (.iload 4, 2) := by decide +kernel
theorem dX7_comesTo_154 : decode mX7_comesTo.2.1 154 = .ok (.invokevirtual 150, 3) := by decide +kernel
theorem dX7_comesTo_157 : decode mX7_comesTo.2.1 157 = .ok (.iload 7, 2) := by decide +kernel
theorem dX7_comesTo_159 : decode mX7_comesTo.2.1 159 = .ok (.invokevirtual 204, 3) := by decide +kernel
theorem dX7_comesTo_162 : decode mX7_comesTo.2.1 162 = .ok (.return_, 1) := by decide +kernel
theorem dX7_layTrace_0 : decode mX7_layTrace.2.1 0 = .ok (.aload_n 0, 1) := by decide +kernel
theorem dX7_layTrace_1 : decode mX7_layTrace.2.1 1 = .ok (.iconst 0, 1) := by decide +kernel
theorem dX7_layTrace_2 : decode mX7_layTrace.2.1 2 = .ok (.putfield 185, 3) := by decide +kernel
theorem dX7_layTrace_5 : decode mX7_layTrace.2.1 5 = .ok (.aload_n 0, 1) := by decide +kernel
theorem dX7_layTrace_6 : decode mX7_layTrace.2.1 6 = .ok (.iconst 0, 1) := by decide +kernel
theorem dX7_layTrace_7 : decode mX7_layTrace.2.1 7 = .ok (.putfield 198, 3) := by decide +kernel
theorem dX7_layTrace_10 : decode mX7_layTrace.2.1 10 = .ok (.aload_n 0, 1) := by decide +kernel
theorem dX7_layTrace_11 : decode mX7_layTrace.2.1 11 = .ok (.iconst 0, 1) := by decide +kernel
theorem dX7_layTrace_12 : decode mX7_layTrace.2.1 12 = .ok (.putfield 188, 3) := by decide +kernel
theorem dX7_layTrace_15 : decode mX7_layTrace.2.1 15 = .ok (.aload_n 0, 1) := by decide +kernel
theorem dX7_layTrace_16 : decode mX7_layTrace.2.1 16 = .ok (.iload_n 1, 1) := by decide +kernel
theorem dX7_layTrace_17 : decode mX7_layTrace.2.1 17 = .ok (.iload_n 2, 1) := by decide +kernel
theorem dX7_layTrace_18 : decode mX7_layTrace.2.1 18 = .ok (.invokevirtual 157, 3) := by decide +kernel
theorem dX7_layTrace_21 : decode mX7_layTrace.2.1 21 = .ok (.istore_n 3, 1) := by decide +kernel
theorem dX7_layTrace_22 : decode mX7_layTrace.2.1 22 = .ok (.iload_n 3, 1) := by decide +kernel
theorem dX7_layTrace_23 : decode mX7_layTrace.2.1 23 = .ok (.iconst (-1), 1) := by decide +kernel
theorem dX7_layTrace_24 : decode mX7_layTrace.2.1 24 = .ok (.if_icmp .ne 5, 3) := by decide +kernel
theorem dX7_layTrace_27 : decode mX7_layTrace.2.1 27 = .ok (.iconst 0, 1) := by decide +kernel
theorem dX7_layTrace_28 : decode mX7_layTrace.2.1 28 = .ok (.ireturn, 1) := by decide +kernel
theorem dX7_layTrace_29 : decode mX7_layTrace.2.1 29 = .ok (.aload_n 0, 1) := by decide +kernel
theorem dX7_layTrace_30 : decode mX7_layTrace.2.1 30 = .ok (.aload_n 0, 1) := by decide +kernel
theorem dX7_layTrace_31 : decode mX7_layTrace.2.1 31 = .ok (.iload_n 3, 1) := by decide +kernel
theorem dX7_layTrace_32 : decode mX7_layTrace.2.1 32 = .ok (.iload_n 2, 1) := by decide +kernel
theorem dX7_layTrace_33 : decode mX7_layTrace.2.1 33 = .ok (.invokevirtual 150, 3) := by decide +kernel
theorem dX7_layTrace_36 : decode mX7_layTrace.2.1 36 = .ok (.iload_n 3, 1) := by decide +kernel
theorem dX7_layTrace_37 : decode mX7_layTrace.2.1 37 = .ok (.invokevirtual 204, 3) := by decide +kernel
theorem dX7_layTrace_40 : decode mX7_layTrace.2.1 40 = .ok (.aload_n 0, 1) := by decide +kernel
theorem dX7_layTrace_41 : decode mX7_layTrace.2.1 41 = .ok (.getfield 188, 3) := by decide +kernel
theorem dX7_layTrace_44 : decode mX7_layTrace.2.1 44 = .ok (.ifCond .le 108, 3) := by decide +kernel
theorem dX7_layTrace_47 : decode mX7_layTrace.2.1 47 = .ok (.aload_n 0, 1) := by decide +kernel
theorem dX7_layTrace_48 : decode mX7_layTrace.2.1 48 = .ok (.getfield 185, 3) := by decide +kernel
theorem dX7_layTrace_51 : decode mX7_layTrace.2.1 51 = .ok (.bipush 60, 2) := by decide +kernel
theorem dX7_layTrace_53 : decode mX7_layTrace.2.1 53 = .ok (.if_icmp .ge 99, 3) := by decide +kernel
theorem dX7_layTrace_56 : decode mX7_layTrace.2.1 56 = .ok (.aload_n 0, 1) := by decide +kernel
theorem dX7_layTrace_57 : decode mX7_layTrace.2.1 57 = .ok (.getfield 188, 3) := by decide +kernel
theorem dX7_layTrace_60 : decode mX7_layTrace.2.1 60 = .ok (.iconst 1, 1) := by decide +kernel
theorem dX7_layTrace_61 : decode mX7_layTrace.2.1 61 = .ok (.isub, 1) := by decide +kernel
theorem dX7_layTrace_62 : decode mX7_layTrace.2.1 62 = .ok (.istore 4, 2) := by decide +kernel
theorem dX7_layTrace_64 : decode mX7_layTrace.2.1 64 = .ok (.aload_n 0, 1) := by decide +kernel
theorem dX7_layTrace_65 : decode mX7_layTrace.2.1 65 = .ok (.getfield 65, 3) := by decide +kernel
theorem dX7_layTrace_68 : decode mX7_layTrace.2.1 68 = .ok (.iload 4, 2) := by decide +kernel
theorem dX7_layTrace_70 : decode mX7_layTrace.2.1 70 = .ok (.iaload, 1) := by decide +kernel
theorem dX7_layTrace_71 : decode mX7_layTrace.2.1 71 = .ok (.aload_n 0, 1) := by decide +kernel
theorem dX7_layTrace_72 : decode mX7_layTrace.2.1 72 = .ok (.getfield 29, 3) := by decide +kernel
theorem dX7_layTrace_75 : decode mX7_layTrace.2.1 75 = .ok (.aload_n 0, 1) := by decide +kernel
theorem dX7_layTrace_76 : decode mX7_layTrace.2.1 76 = .ok (.getfield 59, 3) := by decide +kernel
theorem dX7_layTrace_79 : decode mX7_layTrace.2.1 79 = .ok (.iload 4, 2) := by decide +kernel
theorem dX7_layTrace_81 : decode mX7_layTrace.2.1 81 = .ok (.iaload, 1) := by decide +kernel
theorem dX7_layTrace_82 : decode mX7_layTrace.2.1 82 = .ok (.iaload, 1) := by decide +kernel
theorem dX7_layTrace_83 : decode mX7_layTrace.2.1 83 = .ok (.if_icmp .ne 16, 3) := by decide +kernel
theorem dX7_layTrace_86 : decode mX7_layTrace.2.1 86 = .ok (.aload_n 0, 1) := by decide +kernel
theorem dX7_layTrace_87 : decode mX7_layTrace.2.1 87 = .ok (.dup, 1) := by decide +kernel
theorem dX7_layTrace_88 : decode mX7_layTrace.2.1 88 = .ok (.getfield 188, 3) := by decide +kernel
theorem dX7_layTrace_91 : decode mX7_layTrace.2.1 91 = .ok (.iconst 1, 1) := by decide +kernel
theorem dX7_layTrace_92 : decode mX7_layTrace.2.1 92 = .ok (.isub, 1) := by decide +kernel
theorem dX7_layTrace_93 : decode mX7_layTrace.2.1 93 = .ok (.putfield 188, 3) := by decide +kernel
theorem dX7_layTrace_96 : decode mX7_layTrace.2.1 96 = .ok (.goto 53, 3) := by decide +kernel
theorem dX7_layTrace_99 : decode mX7_layTrace.2.1 99 = .ok (.aload_n 0, 1) := by decide +kernel
theorem dX7_layTrace_100 : decode mX7_layTrace.2.1 100 = .ok (.getfield 32, 3) := by decide +kernel
theorem dX7_layTrace_103 : decode mX7_layTrace.2.1 103 = .ok (.bipush 6, 2) := by decide +kernel
theorem dX7_layTrace_105 : decode mX7_layTrace.2.1 105 = .ok (.aload_n 0, 1) := by decide +kernel
theorem dX7_layTrace_106 : decode mX7_layTrace.2.1 106 = .ok (.getfield 59, 3) := by decide +kernel
theorem dX7_layTrace_109 : decode mX7_layTrace.2.1 109 = .ok (.iload 4, 2) := by decide +kernel
theorem dX7_layTrace_111 : decode mX7_layTrace.2.1 111 = .ok (.iaload, 1) := by decide +kernel
theorem dX7_layTrace_112 : decode mX7_layTrace.2.1 112 = .ok (.imul, 1) := by decide +kernel
theorem dX7_layTrace_113 : decode mX7_layTrace.2.1 113 = .ok (.aload_n 0, 1) := by decide +kernel
theorem dX7_layTrace_114 : decode mX7_layTrace.2.1 114 = .ok (.getfield 65, 3) := by decide +kernel
theorem dX7_layTrace_117 : decode mX7_layTrace.2.1 117 = .ok (.iload 4, 2) := by decide +kernel
theorem dX7_layTrace_119 : decode mX7_layTrace.2.1 119 = .ok (.iaload, 1) := by decide +kernel
theorem dX7_layTrace_120 : decode mX7_layTrace.2.1 120 = .ok (.iadd, 1) := by decide +kernel
theorem dX7_layTrace_121 : decode mX7_layTrace.2.1 121 = .ok (.iaload, 1) := by decide +kernel
theorem dX7_layTrace_122 : decode mX7_layTrace.2.1 122 = .ok (.istore 5, 2) := by decide +kernel
theorem dX7_layTrace_124 : decode mX7_layTrace.2.1 124 = .ok (.aload_n 0, 1) := by decide +kernel
theorem dX7_layTrace_125 : decode mX7_layTrace.2.1 125 = .ok (.getfield 65, 3) := by decide +kernel
theorem dX7_layTrace_128 : decode mX7_layTrace.2.1 128 = .ok (.iload 4, 2) := by decide +kernel
theorem dX7_layTrace_130 : decode mX7_layTrace.2.1 130 = .ok (.dup2, 1) := by decide +kernel
theorem dX7_layTrace_131 : decode mX7_layTrace.2.1 131 = .ok (.iaload, 1) := by decide +kernel
theorem dX7_layTrace_132 : decode mX7_layTrace.2.1 132 = .ok (.iconst 1, 1) := by decide +kernel
theorem dX7_layTrace_133 : decode mX7_layTrace.2.1 133 = .ok (.iadd, 1) := by decide +kernel
theorem dX7_layTrace_134 : decode mX7_layTrace.2.1 134 = .ok (.iastore, 1) := by decide +kernel
theorem dX7_layTrace_135 : decode mX7_layTrace.2.1 135 = .ok (.aload_n 0, 1) := by decide +kernel
theorem dX7_layTrace_136 : decode mX7_layTrace.2.1 136 = .ok (.iload 5, 2) := by decide +kernel
theorem dX7_layTrace_138 : decode mX7_layTrace.2.1 138 = .ok (.aload_n 0, 1) := by decide +kernel
theorem dX7_layTrace_139 : decode mX7_layTrace.2.1 139 = .ok (.getfield 62, 3) := by decide +kernel
theorem dX7_layTrace_142 : decode mX7_layTrace.2.1 142 = .ok (.iload 4, 2) := by decide +kernel
theorem dX7_layTrace_144 : decode mX7_layTrace.2.1 144 = .ok (.iaload, 1) := by decide +kernel
theorem dX7_layTrace_145 : decode mX7_layTrace.2.1 145 = .ok (.iload_n 1, 1) := by decide +kernel
theorem dX7_layTrace_146 : decode mX7_layTrace.2.1 146 = .ok (.invokevirtual 207, 3) := by decide +kernel
theorem dX7_layTrace_149 : decode mX7_layTrace.2.1 149 = .ok (.goto (-109), 3) := by decide +kernel
theorem dX7_layTrace_152 : decode mX7_layTrace.2.1 152 = .ok (.iconst 1, 1) := by decide +kernel
theorem dX7_layTrace_153 : decode mX7_layTrace.2.1 153 = .ok (.ireturn, 1) := by decide +kernel
end
section
theorem dX7_traceNow_0 : decode mX7_traceNow.2.1 0 = .ok (.aload_n 0, 1) := by decide +kernel
theorem dX7_traceNow_1 : decode mX7_traceNow.2.1 1 = .ok (.iload_n 1, 1) := by decide +kernel
theorem dX7_traceNow_2 : decode mX7_traceNow.2.1 2 = .ok (.iload_n 2, 1) := by decide +kernel
theorem dX7_traceNow_3 : decode mX7_traceNow.2.1 3 = .ok (.invokevirtual 211, 3) := by decide +kernel
theorem dX7_traceNow_6 : decode mX7_traceNow.2.1 6 = .ok (.ifCond .ne 7, 3) := by decide +kernel
theorem dX7_traceNow_9 : decode mX7_traceNow.2.1 9 = .ok (.iconst (-1), 1) := by decide +kernel
theorem dX7_traceNow_10 : decode mX7_traceNow.2.1 10 = .ok (.goto 18, 3) := by decide +kernel
theorem dX7_traceNow_13 : decode mX7_traceNow.2.1 13 = .ok (.iload_n 3, 1) := by decide +kernel
theorem dX7_traceNow_14 : decode mX7_traceNow.2.1 14 = .ok (.ifCond .ne 10, 3) := by decide +kernel
theorem dX7_traceNow_17 : decode mX7_traceNow.2.1 17 = .ok (.aload_n 0, 1) := by decide +kernel
theorem dX7_traceNow_18 : decode mX7_traceNow.2.1 18 = .ok (.getfield 185, 3) := by decide +kernel
theorem dX7_traceNow_21 : decode mX7_traceNow.2.1 21 = .ok (.goto 7, 3) := by decide +kernel
theorem dX7_traceNow_24 : decode mX7_traceNow.2.1 24 = .ok (.aload_n 0, 1) := by decide +kernel
theorem dX7_traceNow_25 : decode mX7_traceNow.2.1 25 = .ok (.getfield 198, 3) := by decide +kernel
theorem dX7_traceNow_28 : decode mX7_traceNow.2.1 28 = .ok (.ireturn, 1) := by decide +kernel
theorem dX7_trace_0 : decode mX7_trace.2.1 0 = .ok (.aload_n 0, 1) := by decide +kernel
theorem dX7_trace_1 : decode mX7_trace.2.1 1 = .ok (.iload_n 1, 1) := by decide +kernel
theorem dX7_trace_2 : decode mX7_trace.2.1 2 = .ok (.iload_n 2, 1) := by decide +kernel
theorem dX7_trace_3 : decode mX7_trace.2.1 3 = .ok (.invokevirtual 176, 3) := by decide +kernel
theorem dX7_trace_6 : decode mX7_trace.2.1 6 = .ok (.ifCond .ne 7, 3) := by decide +kernel
theorem dX7_trace_9 : decode mX7_trace.2.1 9 = .ok (.sipush (-1001), 3) := by decide +kernel
theorem dX7_trace_12 : decode mX7_trace.2.1 12 = .ok (.ireturn, 1) := by decide +kernel
theorem dX7_trace_13 : decode mX7_trace.2.1 13 = .ok (.iload_n 3, 1) := by decide +kernel
theorem dX7_trace_14 : decode mX7_trace.2.1 14 = .ok (.iconst 0, 1) := by decide +kernel
theorem dX7_trace_15 : decode mX7_trace.2.1 15 = .ok (.iconst 1, 1) := by decide +kernel
theorem dX7_trace_16 : decode mX7_trace.2.1 16 = .ok (.invokestatic 77, 3) := by decide +kernel
theorem dX7_trace_19 : decode mX7_trace.2.1 19 = .ok (.ifCond .eq 13, 3) := by decide +kernel
theorem dX7_trace_22 : decode mX7_trace.2.1 22 = .ok (.aload_n 0, 1) := by decide +kernel
theorem dX7_trace_23 : decode mX7_trace.2.1 23 = .ok (.iload_n 1, 1) := by decide +kernel
theorem dX7_trace_24 : decode mX7_trace.2.1 24 = .ok (.iload_n 2, 1) := by decide +kernel
theorem dX7_trace_25 : decode mX7_trace.2.1 25 = .ok (.iload_n 3, 1) := by decide +kernel
theorem dX7_trace_26 : decode mX7_trace.2.1 26 = .ok (.invokevirtual 214, 3) := by decide +kernel
theorem dX7_trace_29 : decode mX7_trace.2.1 29 = .ok (.goto 6, 3) := by decide +kernel
theorem dX7_trace_32 : decode mX7_trace.2.1 32 = .ok (.sipush (-1002), 3) := by decide +kernel
theorem dX7_trace_35 : decode mX7_trace.2.1 35 = .ok (.ireturn, 1) := by decide +kernel
theorem dX7_event_0 : decode mX7_event.2.1 0 = .ok (.aload_n 0, 1) := by decide +kernel
theorem dX7_event_1 : decode mX7_event.2.1 1 = .ok (.iload_n 1, 1) := by decide +kernel
theorem dX7_event_2 : decode mX7_event.2.1 2 = .ok (.iload_n 2, 1) := by decide +kernel
theorem dX7_event_3 : decode mX7_event.2.1 3 = .ok (.invokevirtual 176, 3) := by decide +kernel
theorem dX7_event_6 : decode mX7_event.2.1 6 = .ok (.ifCond .eq 26, 3) := by decide +kernel
theorem dX7_event_9 : decode mX7_event.2.1 9 = .ok (.aload_n 0, 1) := by decide +kernel
theorem dX7_event_10 : decode mX7_event.2.1 10 = .ok (.iload_n 1, 1) := by decide +kernel
theorem dX7_event_11 : decode mX7_event.2.1 11 = .ok (.iload_n 2, 1) := by decide +kernel
theorem dX7_event_12 : decode mX7_event.2.1 12 = .ok (.invokevirtual 211, 3) := by decide +kernel
theorem dX7_event_15 : decode mX7_event.2.1 15 = .ok (.ifCond .eq 17, 3) := by decide +kernel
theorem dX7_event_18 : decode mX7_event.2.1 18 = .ok (.iload_n 3, 1) := by decide +kernel
theorem dX7_event_19 : decode mX7_event.2.1 19 = .ok (.iconst 0, 1) := by decide +kernel
theorem dX7_event_20 : decode mX7_event.2.1 20 = .ok (.aload_n 0, 1) := by decide +kernel
theorem dX7_event_21 : decode mX7_event.2.1 21 = .ok (.getfield 185, 3) := by decide +kernel
theorem dX7_event_24 : decode mX7_event.2.1 24 = .ok (.iconst 1, 1) := by decide +kernel
theorem dX7_event_25 : decode mX7_event.2.1 25 = .ok (.isub, 1) := by decide +kernel
theorem dX7_event_26 : decode mX7_event.2.1 26 = .ok (.invokestatic 77, 3) := by decide +kernel
theorem dX7_event_29 : decode mX7_event.2.1 29 = .ok (.ifCond .ne 7, 3) := by decide +kernel
theorem dX7_event_32 : decode mX7_event.2.1 32 = .ok (.sipush (-1001), 3) := by decide +kernel
theorem dX7_event_35 : decode mX7_event.2.1 35 = .ok (.ireturn, 1) := by decide +kernel
theorem dX7_event_36 : decode mX7_event.2.1 36 = .ok (.iload 4, 2) := by decide +kernel
theorem dX7_event_38 : decode mX7_event.2.1 38 = .ok (.ifCond .ne 12, 3) := by decide +kernel
theorem dX7_event_41 : decode mX7_event.2.1 41 = .ok (.aload_n 0, 1) := by decide +kernel
theorem dX7_event_42 : decode mX7_event.2.1 42 = .ok (.getfield 53, 3) := by decide +kernel
theorem dX7_event_45 : decode mX7_event.2.1 45 = .ok (.iload_n 3, 1) := by decide +kernel
theorem dX7_event_46 : decode mX7_event.2.1 46 = .ok (.iaload, 1) := by decide +kernel
theorem dX7_event_47 : decode mX7_event.2.1 47 = .ok (.goto 21, 3) := by decide +kernel
theorem dX7_event_50 : decode mX7_event.2.1 50 = .ok (.iload 4, 2) := by decide +kernel
theorem dX7_event_52 : decode mX7_event.2.1 52 = .ok (.iconst 1, 1) := by decide +kernel
theorem dX7_event_53 : decode mX7_event.2.1 53 = .ok (.if_icmp .ne 12, 3) := by decide +kernel
theorem dX7_event_56 : decode mX7_event.2.1 56 = .ok (.aload_n 0, 1) := by decide +kernel
theorem dX7_event_57 : decode mX7_event.2.1 57 = .ok (.getfield 56, 3) := by decide +kernel
theorem dX7_event_60 : decode mX7_event.2.1 60 = .ok (.iload_n 3, 1) := by decide +kernel
theorem dX7_event_61 : decode mX7_event.2.1 61 = .ok (.iaload, 1) := by decide +kernel
theorem dX7_event_62 : decode mX7_event.2.1 62 = .ok (.goto 6, 3) := by decide +kernel
theorem dX7_event_65 : decode mX7_event.2.1 65 = .ok (.sipush (-1002), 3) := by decide +kernel
theorem dX7_event_68 : decode mX7_event.2.1 68 = .ok (.ireturn, 1) := by decide +kernel
theorem dX7_layTried_0 : decode mX7_layTried.2.1 0 = .ok (.iconst 0, 1) := by decide +kernel
theorem dX7_layTried_1 : decode mX7_layTried.2.1 1 = .ok (.istore_n 1, 1) := by decide +kernel
theorem dX7_layTried_2 : decode mX7_layTried.2.1 2 = .ok (.iload_n 1, 1) := by decide +kernel
theorem dX7_layTried_3 : decode mX7_layTried.2.1 3 = .ok (.bipush 96, 2) := by decide +kernel
theorem dX7_layTried_5 : decode mX7_layTried.2.1 5 = .ok (.if_icmp .ge 24, 3) := by decide +kernel
theorem dX7_layTried_8 : decode mX7_layTried.2.1 8 = .ok (.aload_n 0, 1) := by decide +kernel
theorem dX7_layTried_9 : decode mX7_layTried.2.1 9 = .ok (.getfield 20, 3) := by decide +kernel
theorem dX7_layTried_12 : decode mX7_layTried.2.1 12 = .ok (.bipush 96, 2) := by decide +kernel
theorem dX7_layTried_14 : decode mX7_layTried.2.1 14 = .ok (.iload_n 1, 1) := by decide +kernel
theorem dX7_layTried_15 : decode mX7_layTried.2.1 15 = .ok (.iadd, 1) := by decide +kernel
theorem dX7_layTried_16 : decode mX7_layTried.2.1 16 = .ok (.aload_n 0, 1) := by decide +kernel
theorem dX7_layTried_17 : decode mX7_layTried.2.1 17 = .ok (.getfield 20, 3) := by decide +kernel
theorem dX7_layTried_20 : decode mX7_layTried.2.1 20 = .ok (.iload_n 1, 1) := by decide +kernel
theorem dX7_layTried_21 : decode mX7_layTried.2.1 21 = .ok (.iaload, 1) := by decide +kernel
theorem dX7_layTried_22 : decode mX7_layTried.2.1 22 = .ok (.iastore, 1) := by decide +kernel
theorem dX7_layTried_23 : decode mX7_layTried.2.1 23 = .ok (.iinc 1 1, 3) := by decide +kernel
theorem dX7_layTried_26 : decode mX7_layTried.2.1 26 = .ok (.goto (-24), 3) := by decide +kernel
theorem dX7_layTried_29 : decode mX7_layTried.2.1 29 = .ok (.iconst 0, 1) := by decide +kernel
theorem dX7_layTried_30 : decode mX7_layTried.2.1 30 = .ok (.istore_n 1, 1) := by decide +kernel
theorem dX7_layTried_31 : decode mX7_layTried.2.1 31 = .ok (.iload_n 1, 1) := by decide +kernel
theorem dX7_layTried_32 : decode mX7_layTried.2.1 32 = .ok (.bipush 8, 2) := by decide +kernel
theorem dX7_layTried_34 : decode mX7_layTried.2.1 34 = .ok (.if_icmp .ge 24, 3) := by decide +kernel
theorem dX7_layTried_37 : decode mX7_layTried.2.1 37 = .ok (.aload_n 0, 1) := by decide +kernel
theorem dX7_layTried_38 : decode mX7_layTried.2.1 38 = .ok (.getfield 23, 3) := by decide +kernel
theorem dX7_layTried_41 : decode mX7_layTried.2.1 41 = .ok (.bipush 8, 2) := by decide +kernel
theorem dX7_layTried_43 : decode mX7_layTried.2.1 43 = .ok (.iload_n 1, 1) := by decide +kernel
theorem dX7_layTried_44 : decode mX7_layTried.2.1 44 = .ok (.iadd, 1) := by decide +kernel
theorem dX7_layTried_45 : decode mX7_layTried.2.1 45 = .ok (.aload_n 0, 1) := by decide +kernel
theorem dX7_layTried_46 : decode mX7_layTried.2.1 46 = .ok (.getfield 23, 3) := by decide +kernel
theorem dX7_layTried_49 : decode mX7_layTried.2.1 49 = .ok (.iload_n 1, 1) := by decide +kernel
theorem dX7_layTried_50 : decode mX7_layTried.2.1 50 = .ok (.iaload, 1) := by decide +kernel
theorem dX7_layTried_51 : decode mX7_layTried.2.1 51 = .ok (.iastore, 1) := by decide +kernel
theorem dX7_layTried_52 : decode mX7_layTried.2.1 52 = .ok (.iinc 1 1, 3) := by decide +kernel
theorem dX7_layTried_55 : decode mX7_layTried.2.1 55 = .ok (.goto (-24), 3) := by decide +kernel
theorem dX7_layTried_58 : decode mX7_layTried.2.1 58 = .ok (.return_, 1) := by decide +kernel
theorem dX7_lay_0 : decode mX7_lay.2.1 0 = .ok (.aload_n 0, 1) := by decide +kernel
theorem dX7_lay_1 : decode mX7_lay.2.1 1 = .ok (.getfield 20, 3) := by decide +kernel
theorem dX7_lay_4 : decode mX7_lay.2.1 4 = .ok (.bipush 96, 2) := by decide +kernel
theorem dX7_lay_6 : decode mX7_lay.2.1 6 = .ok (.iload_n 1, 1) := by decide +kernel
theorem dX7_lay_7 : decode mX7_lay.2.1 7 = .ok (.imul, 1) := by decide +kernel
theorem dX7_lay_8 : decode mX7_lay.2.1 8 = .ok (.bipush 12, 2) := by decide +kernel
theorem dX7_lay_10 : decode mX7_lay.2.1 10 = .ok (.iload_n 2, 1) := by decide +kernel
theorem dX7_lay_11 : decode mX7_lay.2.1 11 = .ok (.imul, 1) := by decide +kernel
theorem dX7_lay_12 : decode mX7_lay.2.1 12 = .ok (.iadd, 1) := by decide +kernel
theorem dX7_lay_13 : decode mX7_lay.2.1 13 = .ok (.iload_n 3, 1) := by decide +kernel
theorem dX7_lay_14 : decode mX7_lay.2.1 14 = .ok (.iadd, 1) := by decide +kernel
theorem dX7_lay_15 : decode mX7_lay.2.1 15 = .ok (.iload 4, 2) := by decide +kernel
theorem dX7_lay_17 : decode mX7_lay.2.1 17 = .ok (.iastore, 1) := by decide +kernel
theorem dX7_lay_18 : decode mX7_lay.2.1 18 = .ok (.aload_n 0, 1) := by decide +kernel
theorem dX7_lay_19 : decode mX7_lay.2.1 19 = .ok (.getfield 23, 3) := by decide +kernel
theorem dX7_lay_22 : decode mX7_lay.2.1 22 = .ok (.bipush 8, 2) := by decide +kernel
theorem dX7_lay_24 : decode mX7_lay.2.1 24 = .ok (.iload_n 1, 1) := by decide +kernel
theorem dX7_lay_25 : decode mX7_lay.2.1 25 = .ok (.imul, 1) := by decide +kernel
theorem dX7_lay_26 : decode mX7_lay.2.1 26 = .ok (.iload_n 2, 1) := by decide +kernel
theorem dX7_lay_27 : decode mX7_lay.2.1 27 = .ok (.iadd, 1) := by decide +kernel
theorem dX7_lay_28 : decode mX7_lay.2.1 28 = .ok (.iaload, 1) := by decide +kernel
theorem dX7_lay_29 : decode mX7_lay.2.1 29 = .ok (.iconst 1, 1) := by decide +kernel
theorem dX7_lay_30 : decode mX7_lay.2.1 30 = .ok (.iload_n 3, 1) := by decide +kernel
theorem dX7_lay_31 : decode mX7_lay.2.1 31 = .ok (.ishl, 1) := by decide +kernel
theorem dX7_lay_32 : decode mX7_lay.2.1 32 = .ok (.iconst (-1), 1) := by decide +kernel
theorem dX7_lay_33 : decode mX7_lay.2.1 33 = .ok (.ixor, 1) := by decide +kernel
theorem dX7_lay_34 : decode mX7_lay.2.1 34 = .ok (.iand, 1) := by decide +kernel
theorem dX7_lay_35 : decode mX7_lay.2.1 35 = .ok (.istore 6, 2) := by decide +kernel
theorem dX7_lay_37 : decode mX7_lay.2.1 37 = .ok (.aload_n 0, 1) := by decide +kernel
theorem dX7_lay_38 : decode mX7_lay.2.1 38 = .ok (.getfield 23, 3) := by decide +kernel
theorem dX7_lay_41 : decode mX7_lay.2.1 41 = .ok (.bipush 8, 2) := by decide +kernel
theorem dX7_lay_43 : decode mX7_lay.2.1 43 = .ok (.iload_n 1, 1) := by decide +kernel
theorem dX7_lay_44 : decode mX7_lay.2.1 44 = .ok (.imul, 1) := by decide +kernel
theorem dX7_lay_45 : decode mX7_lay.2.1 45 = .ok (.iload_n 2, 1) := by decide +kernel
theorem dX7_lay_46 : decode mX7_lay.2.1 46 = .ok (.iadd, 1) := by decide +kernel
theorem dX7_lay_47 : decode mX7_lay.2.1 47 = .ok (.iload 4, 2) := by decide +kernel
theorem dX7_lay_49 : decode mX7_lay.2.1 49 = .ok (.iconst (-1), 1) := by decide +kernel
theorem dX7_lay_50 : decode mX7_lay.2.1 50 = .ok (.if_icmp .eq 17, 3) := by decide +kernel
theorem dX7_lay_53 : decode mX7_lay.2.1 53 = .ok (.iload 5, 2) := by decide +kernel
theorem dX7_lay_55 : decode mX7_lay.2.1 55 = .ok (.ifCond .eq 12, 3) := by decide +kernel
theorem dX7_lay_58 : decode mX7_lay.2.1 58 = .ok (.iload 6, 2) := by decide +kernel
theorem dX7_lay_60 : decode mX7_lay.2.1 60 = .ok (.iconst 1, 1) := by decide +kernel
theorem dX7_lay_61 : decode mX7_lay.2.1 61 = .ok (.iload_n 3, 1) := by decide +kernel
theorem dX7_lay_62 : decode mX7_lay.2.1 62 = .ok (.ishl, 1) := by decide +kernel
theorem dX7_lay_63 : decode mX7_lay.2.1 63 = .ok (.ior, 1) := by decide +kernel
theorem dX7_lay_64 : decode mX7_lay.2.1 64 = .ok (.goto 5, 3) := by decide +kernel
theorem dX7_lay_67 : decode mX7_lay.2.1 67 = .ok (.iload 6, 2) := by decide +kernel
theorem dX7_lay_69 : decode mX7_lay.2.1 69 = .ok (.iastore, 1) := by decide +kernel
theorem dX7_lay_70 : decode mX7_lay.2.1 70 = .ok (.return_, 1) := by decide +kernel
theorem dX7_tryMove_0 : decode mX7_tryMove.2.1 0 = .ok (.aload_n 0, 1) := by decide +kernel
theorem dX7_tryMove_1 : decode mX7_tryMove.2.1 1 = .ok (.invokevirtual 217, 3) := by decide +kernel
theorem dX7_tryMove_4 : decode mX7_tryMove.2.1 4 = .ok (.aload_n 0, 1) := by decide +kernel
theorem dX7_tryMove_5 : decode mX7_tryMove.2.1 5 = .ok (.getfield 20, 3) := by decide +kernel
theorem dX7_tryMove_8 : decode mX7_tryMove.2.1 8 = .ok (.bipush 12, 2) := by decide +kernel
theorem dX7_tryMove_10 : decode mX7_tryMove.2.1 10 = .ok (.iload_n 1, 1) := by decide +kernel
theorem dX7_tryMove_11 : decode mX7_tryMove.2.1 11 = .ok (.imul, 1) := by decide +kernel
theorem dX7_tryMove_12 : decode mX7_tryMove.2.1 12 = .ok (.iload_n 2, 1) := by decide +kernel
theorem dX7_tryMove_13 : decode mX7_tryMove.2.1 13 = .ok (.iadd, 1) := by decide +kernel
theorem dX7_tryMove_14 : decode mX7_tryMove.2.1 14 = .ok (.iaload, 1) := by decide +kernel
theorem dX7_tryMove_15 : decode mX7_tryMove.2.1 15 = .ok (.istore 4, 2) := by decide +kernel
theorem dX7_tryMove_17 : decode mX7_tryMove.2.1 17 = .ok (.aload_n 0, 1) := by decide +kernel
theorem dX7_tryMove_18 : decode mX7_tryMove.2.1 18 = .ok (.getfield 23, 3) := by decide +kernel
theorem dX7_tryMove_21 : decode mX7_tryMove.2.1 21 = .ok (.iload_n 1, 1) := by decide +kernel
theorem dX7_tryMove_22 : decode mX7_tryMove.2.1 22 = .ok (.iaload, 1) := by decide +kernel
theorem dX7_tryMove_23 : decode mX7_tryMove.2.1 23 = .ok (.iload_n 2, 1) := by decide +kernel
theorem dX7_tryMove_24 : decode mX7_tryMove.2.1 24 = .ok (.invokestatic 92, 3) := by decide +kernel
theorem dX7_tryMove_27 : decode mX7_tryMove.2.1 27 = .ok (.istore 5, 2) := by decide +kernel
theorem dX7_tryMove_29 : decode mX7_tryMove.2.1 29 = .ok (.aload_n 0, 1) := by decide +kernel
theorem dX7_tryMove_30 : decode mX7_tryMove.2.1 30 = .ok (.getfield 13, 3) := by decide +kernel
theorem dX7_tryMove_33 : decode mX7_tryMove.2.1 33 = .ok (.iload_n 1, 1) := by decide +kernel
theorem dX7_tryMove_34 : decode mX7_tryMove.2.1 34 = .ok (.iaload, 1) := by decide +kernel
theorem dX7_tryMove_35 : decode mX7_tryMove.2.1 35 = .ok (.istore 6, 2) := by decide +kernel
theorem dX7_tryMove_37 : decode mX7_tryMove.2.1 37 = .ok (.iconst 0, 1) := by decide +kernel
theorem dX7_tryMove_38 : decode mX7_tryMove.2.1 38 = .ok (.istore 7, 2) := by decide +kernel
theorem dX7_tryMove_40 : decode mX7_tryMove.2.1 40 = .ok (.iload 7, 2) := by decide +kernel
theorem dX7_tryMove_42 : decode mX7_tryMove.2.1 42 = .ok (.aload_n 0, 1) := by decide +kernel
theorem dX7_tryMove_43 : decode mX7_tryMove.2.1 43 = .ok (.getfield 112, 3) := by decide +kernel
theorem dX7_tryMove_46 : decode mX7_tryMove.2.1 46 = .ok (.if_icmp .ge 123, 3) := by decide +kernel
theorem dX7_tryMove_49 : decode mX7_tryMove.2.1 49 = .ok (.iload_n 3, 1) := by decide +kernel
theorem dX7_tryMove_50 : decode mX7_tryMove.2.1 50 = .ok (.ifCond .eq 19, 3) := by decide +kernel
theorem dX7_tryMove_53 : decode mX7_tryMove.2.1 53 = .ok (.aload_n 0, 1) := by decide +kernel
theorem dX7_tryMove_54 : decode mX7_tryMove.2.1 54 = .ok (.getfield 13, 3) := by decide +kernel
theorem dX7_tryMove_57 : decode mX7_tryMove.2.1 57 = .ok (.iload 7, 2) := by decide +kernel
theorem dX7_tryMove_59 : decode mX7_tryMove.2.1 59 = .ok (.iaload, 1) := by decide +kernel
theorem dX7_tryMove_60 : decode mX7_tryMove.2.1 60 = .ok (.iload 6, 2) := by decide +kernel
theorem dX7_tryMove_62 : decode mX7_tryMove.2.1 62 = .ok (.if_icmp .ne 7, 3) := by decide +kernel
theorem dX7_tryMove_65 : decode mX7_tryMove.2.1 65 = .ok (.iconst 1, 1) := by decide +kernel
theorem dX7_tryMove_66 : decode mX7_tryMove.2.1 66 = .ok (.goto 4, 3) := by decide +kernel
theorem dX7_tryMove_69 : decode mX7_tryMove.2.1 69 = .ok (.iconst 0, 1) := by decide +kernel
theorem dX7_tryMove_70 : decode mX7_tryMove.2.1 70 = .ok (.istore 8, 2) := by decide +kernel
theorem dX7_tryMove_72 : decode mX7_tryMove.2.1 72 = .ok (.iload 8, 2) := by decide +kernel
theorem dX7_tryMove_74 : decode mX7_tryMove.2.1 74 = .ok (.ifCond .eq 46, 3) := by decide +kernel
theorem dX7_tryMove_77 : decode mX7_tryMove.2.1 77 = .ok (.aload_n 0, 1) := by decide +kernel
theorem dX7_tryMove_78 : decode mX7_tryMove.2.1 78 = .ok (.getfield 20, 3) := by decide +kernel
theorem dX7_tryMove_81 : decode mX7_tryMove.2.1 81 = .ok (.bipush 12, 2) := by decide +kernel
theorem dX7_tryMove_83 : decode mX7_tryMove.2.1 83 = .ok (.iload 7, 2) := by decide +kernel
theorem dX7_tryMove_85 : decode mX7_tryMove.2.1 85 = .ok (.imul, 1) := by decide +kernel
theorem dX7_tryMove_86 : decode mX7_tryMove.2.1 86 = .ok (.iload_n 2, 1) := by decide +kernel
theorem dX7_tryMove_87 : decode mX7_tryMove.2.1 87 = .ok (.iadd, 1) := by decide +kernel
theorem dX7_tryMove_88 : decode mX7_tryMove.2.1 88 = .ok (.iaload, 1) := by decide +kernel
theorem dX7_tryMove_89 : decode mX7_tryMove.2.1 89 = .ok (.iload 4, 2) := by decide +kernel
theorem dX7_tryMove_91 : decode mX7_tryMove.2.1 91 = .ok (.if_icmp .ne 29, 3) := by decide +kernel
theorem dX7_tryMove_94 : decode mX7_tryMove.2.1 94 = .ok (.aload_n 0, 1) := by decide +kernel
theorem dX7_tryMove_95 : decode mX7_tryMove.2.1 95 = .ok (.getfield 23, 3) := by decide +kernel
theorem dX7_tryMove_98 : decode mX7_tryMove.2.1 98 = .ok (.iload 7, 2) := by decide +kernel
theorem dX7_tryMove_100 : decode mX7_tryMove.2.1 100 = .ok (.iaload, 1) := by decide +kernel
theorem dX7_tryMove_101 : decode mX7_tryMove.2.1 101 = .ok (.iload_n 2, 1) := by decide +kernel
theorem dX7_tryMove_102 : decode mX7_tryMove.2.1 102 = .ok (.invokestatic 92, 3) := by decide +kernel
theorem dX7_tryMove_105 : decode mX7_tryMove.2.1 105 = .ok (.iload 5, 2) := by decide +kernel
theorem dX7_tryMove_107 : decode mX7_tryMove.2.1 107 = .ok (.if_icmp .ne 13, 3) := by decide +kernel
theorem dX7_tryMove_110 : decode mX7_tryMove.2.1 110 = .ok (.aload_n 0, 1) := by decide +kernel
theorem dX7_tryMove_111 : decode mX7_tryMove.2.1 111 = .ok (.iconst 1, 1) := by decide +kernel
theorem dX7_tryMove_112 : decode mX7_tryMove.2.1 112 = .ok (.iload 7, 2) := by decide +kernel
theorem dX7_tryMove_114 : decode mX7_tryMove.2.1 114 = .ok (.iload_n 2, 1) := by decide +kernel
theorem dX7_tryMove_115 : decode mX7_tryMove.2.1 115 = .ok (.iconst (-1), 1) := by decide +kernel
theorem dX7_tryMove_116 : decode mX7_tryMove.2.1 116 = .ok (.iconst 0, 1) := by decide +kernel
theorem dX7_tryMove_117 : decode mX7_tryMove.2.1 117 = .ok (.invokevirtual 220, 3) := by decide +kernel
theorem dX7_tryMove_120 : decode mX7_tryMove.2.1 120 = .ok (.iload_n 3, 1) := by decide +kernel
theorem dX7_tryMove_121 : decode mX7_tryMove.2.1 121 = .ok (.ifCond .ne 42, 3) := by decide +kernel
theorem dX7_tryMove_124 : decode mX7_tryMove.2.1 124 = .ok (.aload_n 0, 1) := by decide +kernel
theorem dX7_tryMove_125 : decode mX7_tryMove.2.1 125 = .ok (.getfield 13, 3) := by decide +kernel
theorem dX7_tryMove_128 : decode mX7_tryMove.2.1 128 = .ok (.iload 7, 2) := by decide +kernel
theorem dX7_tryMove_130 : decode mX7_tryMove.2.1 130 = .ok (.iaload, 1) := by decide +kernel
theorem dX7_tryMove_131 : decode mX7_tryMove.2.1 131 = .ok (.iload_n 1, 1) := by decide +kernel
theorem dX7_tryMove_132 : decode mX7_tryMove.2.1 132 = .ok (.if_icmp .ne 31, 3) := by decide +kernel
theorem dX7_tryMove_135 : decode mX7_tryMove.2.1 135 = .ok (.aload_n 0, 1) := by decide +kernel
theorem dX7_tryMove_136 : decode mX7_tryMove.2.1 136 = .ok (.getfield 20, 3) := by decide +kernel
theorem dX7_tryMove_139 : decode mX7_tryMove.2.1 139 = .ok (.bipush 12, 2) := by decide +kernel
theorem dX7_tryMove_141 : decode mX7_tryMove.2.1 141 = .ok (.iload 7, 2) := by decide +kernel
theorem dX7_tryMove_143 : decode mX7_tryMove.2.1 143 = .ok (.imul, 1) := by decide +kernel
theorem dX7_tryMove_144 : decode mX7_tryMove.2.1 144 = .ok (.iload_n 2, 1) := by decide +kernel
theorem dX7_tryMove_145 : decode mX7_tryMove.2.1 145 = .ok (.iadd, 1) := by decide +kernel
theorem dX7_tryMove_146 : decode mX7_tryMove.2.1 146 = .ok (.iaload, 1) := by decide +kernel
theorem dX7_tryMove_147 : decode mX7_tryMove.2.1 147 = .ok (.iconst (-1), 1) := by decide +kernel
theorem dX7_tryMove_148 : decode mX7_tryMove.2.1 148 = .ok (.if_icmp .ne 15, 3) := by decide +kernel
theorem dX7_tryMove_151 : decode mX7_tryMove.2.1 151 = .ok (.aload_n 0, 1) := by decide +kernel
theorem dX7_tryMove_152 : decode mX7_tryMove.2.1 152 = .ok (.iconst 1, 1) := by decide +kernel
theorem dX7_tryMove_153 : decode mX7_tryMove.2.1 153 = .ok (.iload 7, 2) := by decide +kernel
theorem dX7_tryMove_155 : decode mX7_tryMove.2.1 155 = .ok (.iload_n 2, 1) := by decide +kernel
theorem dX7_tryMove_156 : decode mX7_tryMove.2.1 156 = .ok (.iload 4, 2) := by decide +kernel
theorem dX7_tryMove_158 : decode mX7_tryMove.2.1 158 = .ok (.iload 5, 2) := by decide +kernel
theorem dX7_tryMove_160 : decode mX7_tryMove.2.1 160 = .ok (.invokevirtual 220, 3) := by decide +kernel
theorem dX7_tryMove_163 : decode mX7_tryMove.2.1 163 = .ok (.iinc 7 1, 3) := by decide +kernel
theorem dX7_tryMove_166 : decode mX7_tryMove.2.1 166 = .ok (.goto (-126), 3) := by decide +kernel
theorem dX7_tryMove_169 : decode mX7_tryMove.2.1 169 = .ok (.iload_n 3, 1) := by decide +kernel
theorem dX7_tryMove_170 : decode mX7_tryMove.2.1 170 = .ok (.ifCond .eq 18, 3) := by decide +kernel
theorem dX7_tryMove_173 : decode mX7_tryMove.2.1 173 = .ok (.aload_n 0, 1) := by decide +kernel
theorem dX7_tryMove_174 : decode mX7_tryMove.2.1 174 = .ok (.iconst 1, 1) := by decide +kernel
theorem dX7_tryMove_175 : decode mX7_tryMove.2.1 175 = .ok (.iload 6, 2) := by decide +kernel
theorem dX7_tryMove_177 : decode mX7_tryMove.2.1 177 = .ok (.iload_n 2, 1) := by decide +kernel
theorem dX7_tryMove_178 : decode mX7_tryMove.2.1 178 = .ok (.iload 4, 2) := by decide +kernel
theorem dX7_tryMove_180 : decode mX7_tryMove.2.1 180 = .ok (.iload 5, 2) := by decide +kernel
theorem dX7_tryMove_182 : decode mX7_tryMove.2.1 182 = .ok (.invokevirtual 220, 3) := by decide +kernel
theorem dX7_tryMove_185 : decode mX7_tryMove.2.1 185 = .ok (.goto 12, 3) := by decide +kernel
theorem dX7_tryMove_188 : decode mX7_tryMove.2.1 188 = .ok (.aload_n 0, 1) := by decide +kernel
theorem dX7_tryMove_189 : decode mX7_tryMove.2.1 189 = .ok (.iconst 1, 1) := by decide +kernel
theorem dX7_tryMove_190 : decode mX7_tryMove.2.1 190 = .ok (.iload_n 1, 1) := by decide +kernel
theorem dX7_tryMove_191 : decode mX7_tryMove.2.1 191 = .ok (.iload_n 2, 1) := by decide +kernel
theorem dX7_tryMove_192 : decode mX7_tryMove.2.1 192 = .ok (.iconst (-1), 1) := by decide +kernel
theorem dX7_tryMove_193 : decode mX7_tryMove.2.1 193 = .ok (.iconst 0, 1) := by decide +kernel
theorem dX7_tryMove_194 : decode mX7_tryMove.2.1 194 = .ok (.invokevirtual 220, 3) := by decide +kernel
theorem dX7_tryMove_197 : decode mX7_tryMove.2.1 197 = .ok (.return_, 1) := by decide +kernel
theorem dX7_missesBelow_0 : decode mX7_missesBelow.2.1 0 = .ok (.iconst 0, 1) := by decide +kernel
theorem dX7_missesBelow_1 : decode mX7_missesBelow.2.1 1 = .ok (.istore_n 3, 1) := by decide +kernel
theorem dX7_missesBelow_2 : decode mX7_missesBelow.2.1 2 = .ok (.iconst 0, 1) := by decide +kernel
theorem dX7_missesBelow_3 : decode mX7_missesBelow.2.1 3 = .ok (.istore 4, 2) := by decide +kernel
theorem dX7_missesBelow_5 : decode mX7_missesBelow.2.1 5 = .ok (.iload 4, 2) := by decide +kernel
theorem dX7_missesBelow_7 : decode mX7_missesBelow.2.1 7 = .ok (.aload_n 0, 1) := by decide +kernel
theorem dX7_missesBelow_8 : decode mX7_missesBelow.2.1 8 = .ok (.getfield 112, 3) := by decide +kernel
theorem dX7_missesBelow_11 : decode mX7_missesBelow.2.1 11 = .ok (.if_icmp .ge 44, 3) := by decide +kernel
theorem dX7_missesBelow_14 : decode mX7_missesBelow.2.1 14 = .ok (.iload_n 3, 1) := by decide +kernel
theorem dX7_missesBelow_15 : decode mX7_missesBelow.2.1 15 = .ok (.aload_n 0, 1) := by decide +kernel
theorem dX7_missesBelow_16 : decode mX7_missesBelow.2.1 16 = .ok (.getfield 13, 3) := by decide +kernel
theorem dX7_missesBelow_19 : decode mX7_missesBelow.2.1 19 = .ok (.iload 4, 2) := by decide +kernel
theorem dX7_missesBelow_21 : decode mX7_missesBelow.2.1 21 = .ok (.iaload, 1) := by decide +kernel
theorem dX7_missesBelow_22 : decode mX7_missesBelow.2.1 22 = .ok (.iload_n 1, 1) := by decide +kernel
theorem dX7_missesBelow_23 : decode mX7_missesBelow.2.1 23 = .ok (.if_icmp .ne 23, 3) := by decide +kernel
theorem dX7_missesBelow_26 : decode mX7_missesBelow.2.1 26 = .ok (.aload_n 0, 1) := by decide +kernel
theorem dX7_missesBelow_27 : decode mX7_missesBelow.2.1 27 = .ok (.getfield 20, 3) := by decide +kernel
theorem dX7_missesBelow_30 : decode mX7_missesBelow.2.1 30 = .ok (.bipush 12, 2) := by decide +kernel
theorem dX7_missesBelow_32 : decode mX7_missesBelow.2.1 32 = .ok (.iload 4, 2) := by decide +kernel
theorem dX7_missesBelow_34 : decode mX7_missesBelow.2.1 34 = .ok (.imul, 1) := by decide +kernel
theorem dX7_missesBelow_35 : decode mX7_missesBelow.2.1 35 = .ok (.iload_n 2, 1) := by decide +kernel
theorem dX7_missesBelow_36 : decode mX7_missesBelow.2.1 36 = .ok (.iadd, 1) := by decide +kernel
theorem dX7_missesBelow_37 : decode mX7_missesBelow.2.1 37 = .ok (.iaload, 1) := by decide +kernel
theorem dX7_missesBelow_38 : decode mX7_missesBelow.2.1 38 = .ok (.iconst (-1), 1) := by decide +kernel
theorem dX7_missesBelow_39 : decode mX7_missesBelow.2.1 39 = .ok (.if_icmp .ne 7, 3) := by decide +kernel
theorem dX7_missesBelow_42 : decode mX7_missesBelow.2.1 42 = .ok (.iconst 1, 1) := by decide +kernel
theorem dX7_missesBelow_43 : decode mX7_missesBelow.2.1 43 = .ok (.goto 4, 3) := by decide +kernel
theorem dX7_missesBelow_46 : decode mX7_missesBelow.2.1 46 = .ok (.iconst 0, 1) := by decide +kernel
theorem dX7_missesBelow_47 : decode mX7_missesBelow.2.1 47 = .ok (.iadd, 1) := by decide +kernel
theorem dX7_missesBelow_48 : decode mX7_missesBelow.2.1 48 = .ok (.istore_n 3, 1) := by decide +kernel
theorem dX7_missesBelow_49 : decode mX7_missesBelow.2.1 49 = .ok (.iinc 4 1, 3) := by decide +kernel
theorem dX7_missesBelow_52 : decode mX7_missesBelow.2.1 52 = .ok (.goto (-47), 3) := by decide +kernel
theorem dX7_missesBelow_55 : decode mX7_missesBelow.2.1 55 = .ok (.iload_n 3, 1) := by decide +kernel
theorem dX7_missesBelow_56 : decode mX7_missesBelow.2.1 56 = .ok (.ireturn, 1) := by decide +kernel
theorem dX7_plainWhy_0 : decode mX7_plainWhy.2.1 0 = .ok (.aload_n 0, 1) := by decide +kernel
theorem dX7_plainWhy_1 : decode mX7_plainWhy.2.1 1 = .ok (.getfield 20, 3) := by decide +kernel
theorem dX7_plainWhy_4 : decode mX7_plainWhy.2.1 4 = .ok (.bipush 12, 2) := by decide +kernel
theorem dX7_plainWhy_6 : decode mX7_plainWhy.2.1 6 = .ok (.iload_n 1, 1) := by decide +kernel
theorem dX7_plainWhy_7 : decode mX7_plainWhy.2.1 7 = .ok (.imul, 1) := by decide +kernel
theorem dX7_plainWhy_8 : decode mX7_plainWhy.2.1 8 = .ok (.iload_n 2, 1) := by decide +kernel
theorem dX7_plainWhy_9 : decode mX7_plainWhy.2.1 9 = .ok (.iadd, 1) := by decide +kernel
theorem dX7_plainWhy_10 : decode mX7_plainWhy.2.1 10 = .ok (.iaload, 1) := by decide +kernel
theorem dX7_plainWhy_11 : decode mX7_plainWhy.2.1 11 = .ok (.iconst (-1), 1) := by decide +kernel
theorem dX7_plainWhy_12 : decode mX7_plainWhy.2.1 12 = .ok (.if_icmp .ne 5, 3) := by decide +kernel
theorem dX7_plainWhy_15 : decode mX7_plainWhy.2.1 15 = .ok (.iconst 1, 1) := by decide +kernel
theorem dX7_plainWhy_16 : decode mX7_plainWhy.2.1 16 = .ok (.ireturn, 1) := by decide +kernel
theorem dX7_plainWhy_17 : decode mX7_plainWhy.2.1 17 = .ok (.iload_n 3, 1) := by decide +kernel
theorem dX7_plainWhy_18 : decode mX7_plainWhy.2.1 18 = .ok (.ifCond .eq 43, 3) := by decide +kernel
theorem dX7_plainWhy_21 : decode mX7_plainWhy.2.1 21 = .ok (.aload_n 0, 1) := by decide +kernel
theorem dX7_plainWhy_22 : decode mX7_plainWhy.2.1 22 = .ok (.getfield 13, 3) := by decide +kernel
theorem dX7_plainWhy_25 : decode mX7_plainWhy.2.1 25 = .ok (.iload_n 1, 1) := by decide +kernel
theorem dX7_plainWhy_26 : decode mX7_plainWhy.2.1 26 = .ok (.iaload, 1) := by decide +kernel
theorem dX7_plainWhy_27 : decode mX7_plainWhy.2.1 27 = .ok (.istore 4, 2) := by decide +kernel
theorem dX7_plainWhy_29 : decode mX7_plainWhy.2.1 29 = .ok (.iload 4, 2) := by decide +kernel
theorem dX7_plainWhy_31 : decode mX7_plainWhy.2.1 31 = .ok (.iconst (-1), 1) := by decide +kernel
theorem dX7_plainWhy_32 : decode mX7_plainWhy.2.1 32 = .ok (.if_icmp .ne 7, 3) := by decide +kernel
theorem dX7_plainWhy_35 : decode mX7_plainWhy.2.1 35 = .ok (.iconst 2, 1) := by decide +kernel
theorem dX7_plainWhy_36 : decode mX7_plainWhy.2.1 36 = .ok (.goto 24, 3) := by decide +kernel
theorem dX7_plainWhy_39 : decode mX7_plainWhy.2.1 39 = .ok (.aload_n 0, 1) := by decide +kernel
theorem dX7_plainWhy_40 : decode mX7_plainWhy.2.1 40 = .ok (.getfield 20, 3) := by decide +kernel
theorem dX7_plainWhy_43 : decode mX7_plainWhy.2.1 43 = .ok (.bipush 12, 2) := by decide +kernel
theorem dX7_plainWhy_45 : decode mX7_plainWhy.2.1 45 = .ok (.iload 4, 2) := by decide +kernel
theorem dX7_plainWhy_47 : decode mX7_plainWhy.2.1 47 = .ok (.imul, 1) := by decide +kernel
theorem dX7_plainWhy_48 : decode mX7_plainWhy.2.1 48 = .ok (.iload_n 2, 1) := by decide +kernel
theorem dX7_plainWhy_49 : decode mX7_plainWhy.2.1 49 = .ok (.iadd, 1) := by decide +kernel
theorem dX7_plainWhy_50 : decode mX7_plainWhy.2.1 50 = .ok (.iaload, 1) := by decide +kernel
theorem dX7_plainWhy_51 : decode mX7_plainWhy.2.1 51 = .ok (.iconst (-1), 1) := by decide +kernel
theorem dX7_plainWhy_52 : decode mX7_plainWhy.2.1 52 = .ok (.if_icmp .eq 7, 3) := by decide +kernel
theorem dX7_plainWhy_55 : decode mX7_plainWhy.2.1 55 = .ok (.iconst 3, 1) := by decide +kernel
theorem dX7_plainWhy_56 : decode mX7_plainWhy.2.1 56 = .ok (.goto 4, 3) := by decide +kernel
theorem dX7_plainWhy_59 : decode mX7_plainWhy.2.1 59 = .ok (.iconst 0, 1) := by decide +kernel
theorem dX7_plainWhy_60 : decode mX7_plainWhy.2.1 60 = .ok (.ireturn, 1) := by decide +kernel
theorem dX7_plainWhy_61 : decode mX7_plainWhy.2.1 61 = .ok (.aload_n 0, 1) := by decide +kernel
theorem dX7_plainWhy_62 : decode mX7_plainWhy.2.1 62 = .ok (.iload_n 1, 1) := by decide +kernel
theorem dX7_plainWhy_63 : decode mX7_plainWhy.2.1 63 = .ok (.invokevirtual 167, 3) := by decide +kernel
theorem dX7_plainWhy_66 : decode mX7_plainWhy.2.1 66 = .ok (.ifCond .ne 7, 3) := by decide +kernel
theorem dX7_plainWhy_69 : decode mX7_plainWhy.2.1 69 = .ok (.iconst 2, 1) := by decide +kernel
theorem dX7_plainWhy_70 : decode mX7_plainWhy.2.1 70 = .ok (.goto 17, 3) := by decide +kernel
theorem dX7_plainWhy_73 : decode mX7_plainWhy.2.1 73 = .ok (.aload_n 0, 1) := by decide +kernel
theorem dX7_plainWhy_74 : decode mX7_plainWhy.2.1 74 = .ok (.iload_n 1, 1) := by decide +kernel
theorem dX7_plainWhy_75 : decode mX7_plainWhy.2.1 75 = .ok (.iload_n 2, 1) := by decide +kernel
theorem dX7_plainWhy_76 : decode mX7_plainWhy.2.1 76 = .ok (.invokevirtual 224, 3) := by decide +kernel
theorem dX7_plainWhy_79 : decode mX7_plainWhy.2.1 79 = .ok (.ifCond .ne 7, 3) := by decide +kernel
theorem dX7_plainWhy_82 : decode mX7_plainWhy.2.1 82 = .ok (.iconst 3, 1) := by decide +kernel
theorem dX7_plainWhy_83 : decode mX7_plainWhy.2.1 83 = .ok (.goto 4, 3) := by decide +kernel
theorem dX7_plainWhy_86 : decode mX7_plainWhy.2.1 86 = .ok (.iconst 0, 1) := by decide +kernel
theorem dX7_plainWhy_87 : decode mX7_plainWhy.2.1 87 = .ok (.ireturn, 1) := by decide +kernel
theorem dX7_isOther_0 : decode mX7_isOther.2.1 0 = .ok (.aload_n 0, 1) := by decide +kernel
theorem dX7_isOther_1 : decode mX7_isOther.2.1 1 = .ok (.iconst 0, 1) := by decide +kernel
theorem dX7_isOther_2 : decode mX7_isOther.2.1 2 = .ok (.putfield 140, 3) := by decide +kernel
theorem dX7_isOther_5 : decode mX7_isOther.2.1 5 = .ok (.aload_n 0, 1) := by decide +kernel
theorem dX7_isOther_6 : decode mX7_isOther.2.1 6 = .ok (.iload_n 1, 1) := by decide +kernel
theorem dX7_isOther_7 : decode mX7_isOther.2.1 7 = .ok (.iload_n 2, 1) := by decide +kernel
theorem dX7_isOther_8 : decode mX7_isOther.2.1 8 = .ok (.invokevirtual 211, 3) := by decide +kernel
theorem dX7_isOther_11 : decode mX7_isOther.2.1 11 = .ok (.ifCond .ne 5, 3) := by decide +kernel
theorem dX7_isOther_14 : decode mX7_isOther.2.1 14 = .ok (.iconst 0, 1) := by decide +kernel
theorem dX7_isOther_15 : decode mX7_isOther.2.1 15 = .ok (.ireturn, 1) := by decide +kernel
theorem dX7_isOther_16 : decode mX7_isOther.2.1 16 = .ok (.aload_n 0, 1) := by decide +kernel
theorem dX7_isOther_17 : decode mX7_isOther.2.1 17 = .ok (.aload_n 0, 1) := by decide +kernel
theorem dX7_isOther_18 : decode mX7_isOther.2.1 18 = .ok (.getfield 185, 3) := by decide +kernel
theorem dX7_isOther_21 : decode mX7_isOther.2.1 21 = .ok (.putfield 227, 3) := by decide +kernel
theorem dX7_isOther_24 : decode mX7_isOther.2.1 24 = .ok (.iconst 0, 1) := by decide +kernel
theorem dX7_isOther_25 : decode mX7_isOther.2.1 25 = .ok (.istore_n 3, 1) := by decide +kernel
theorem dX7_isOther_26 : decode mX7_isOther.2.1 26 = .ok (.iload_n 3, 1) := by decide +kernel
theorem dX7_isOther_27 : decode mX7_isOther.2.1 27 = .ok (.aload_n 0, 1) := by decide +kernel
theorem dX7_isOther_28 : decode mX7_isOther.2.1 28 = .ok (.getfield 185, 3) := by decide +kernel
theorem dX7_isOther_31 : decode mX7_isOther.2.1 31 = .ok (.if_icmp .ge 33, 3) := by decide +kernel
theorem dX7_isOther_34 : decode mX7_isOther.2.1 34 = .ok (.aload_n 0, 1) := by decide +kernel
theorem dX7_isOther_35 : decode mX7_isOther.2.1 35 = .ok (.getfield 68, 3) := by decide +kernel
theorem dX7_isOther_38 : decode mX7_isOther.2.1 38 = .ok (.iload_n 3, 1) := by decide +kernel
theorem dX7_isOther_39 : decode mX7_isOther.2.1 39 = .ok (.aload_n 0, 1) := by decide +kernel
theorem dX7_isOther_40 : decode mX7_isOther.2.1 40 = .ok (.getfield 53, 3) := by decide +kernel
theorem dX7_isOther_43 : decode mX7_isOther.2.1 43 = .ok (.iload_n 3, 1) := by decide +kernel
theorem dX7_isOther_44 : decode mX7_isOther.2.1 44 = .ok (.iaload, 1) := by decide +kernel
theorem dX7_isOther_45 : decode mX7_isOther.2.1 45 = .ok (.iastore, 1) := by decide +kernel
theorem dX7_isOther_46 : decode mX7_isOther.2.1 46 = .ok (.aload_n 0, 1) := by decide +kernel
theorem dX7_isOther_47 : decode mX7_isOther.2.1 47 = .ok (.getfield 71, 3) := by decide +kernel
theorem dX7_isOther_50 : decode mX7_isOther.2.1 50 = .ok (.iload_n 3, 1) := by decide +kernel
theorem dX7_isOther_51 : decode mX7_isOther.2.1 51 = .ok (.aload_n 0, 1) := by decide +kernel
theorem dX7_isOther_52 : decode mX7_isOther.2.1 52 = .ok (.getfield 56, 3) := by decide +kernel
theorem dX7_isOther_55 : decode mX7_isOther.2.1 55 = .ok (.iload_n 3, 1) := by decide +kernel
theorem dX7_isOther_56 : decode mX7_isOther.2.1 56 = .ok (.iaload, 1) := by decide +kernel
theorem dX7_isOther_57 : decode mX7_isOther.2.1 57 = .ok (.iastore, 1) := by decide +kernel
theorem dX7_isOther_58 : decode mX7_isOther.2.1 58 = .ok (.iinc 3 1, 3) := by decide +kernel
theorem dX7_isOther_61 : decode mX7_isOther.2.1 61 = .ok (.goto (-35), 3) := by decide +kernel
theorem dX7_isOther_64 : decode mX7_isOther.2.1 64 = .ok (.aload_n 0, 1) := by decide +kernel
theorem dX7_isOther_65 : decode mX7_isOther.2.1 65 = .ok (.iconst 1, 1) := by decide +kernel
theorem dX7_isOther_66 : decode mX7_isOther.2.1 66 = .ok (.putfield 140, 3) := by decide +kernel
theorem dX7_isOther_69 : decode mX7_isOther.2.1 69 = .ok (.aload_n 0, 1) := by decide +kernel
theorem dX7_isOther_70 : decode mX7_isOther.2.1 70 = .ok (.iload_n 1, 1) := by decide +kernel
theorem dX7_isOther_71 : decode mX7_isOther.2.1 71 = .ok (.iload_n 2, 1) := by decide +kernel
theorem dX7_isOther_72 : decode mX7_isOther.2.1 72 = .ok (.invokevirtual 211, 3) := by decide +kernel
theorem dX7_isOther_75 : decode mX7_isOther.2.1 75 = .ok (.ifCond .eq 14, 3) := by decide +kernel
theorem dX7_isOther_78 : decode mX7_isOther.2.1 78 = .ok (.aload_n 0, 1) := by decide +kernel
theorem dX7_isOther_79 : decode mX7_isOther.2.1 79 = .ok (.getfield 185, 3) := by decide +kernel
theorem dX7_isOther_82 : decode mX7_isOther.2.1 82 = .ok (.aload_n 0, 1) := by decide +kernel
theorem dX7_isOther_83 : decode mX7_isOther.2.1 83 = .ok (.getfield 227, 3) := by decide +kernel
theorem dX7_isOther_86 : decode mX7_isOther.2.1 86 = .ok (.if_icmp .eq 7, 3) := by decide +kernel
theorem dX7_isOther_89 : decode mX7_isOther.2.1 89 = .ok (.iconst 1, 1) := by decide +kernel
theorem dX7_isOther_90 : decode mX7_isOther.2.1 90 = .ok (.goto 4, 3) := by decide +kernel
theorem dX7_isOther_93 : decode mX7_isOther.2.1 93 = .ok (.iconst 0, 1) := by decide +kernel
theorem dX7_isOther_94 : decode mX7_isOther.2.1 94 = .ok (.istore_n 3, 1) := by decide +kernel
theorem dX7_isOther_95 : decode mX7_isOther.2.1 95 = .ok (.iconst 0, 1) := by decide +kernel
theorem dX7_isOther_96 : decode mX7_isOther.2.1 96 = .ok (.istore 4, 2) := by decide +kernel
theorem dX7_isOther_98 : decode mX7_isOther.2.1 98 = .ok (.iload 4, 2) := by decide +kernel
theorem dX7_isOther_100 : decode mX7_isOther.2.1 100 = .ok (.aload_n 0, 1) := by decide +kernel
theorem dX7_isOther_101 : decode mX7_isOther.2.1 101 = .ok (.getfield 185, 3) := by decide +kernel
theorem dX7_isOther_104 : decode mX7_isOther.2.1 104 = .ok (.if_icmp .ge 53, 3) := by decide +kernel
theorem dX7_isOther_107 : decode mX7_isOther.2.1 107 = .ok (.iload_n 3, 1) := by decide +kernel
theorem dX7_isOther_108 : decode mX7_isOther.2.1 108 = .ok (.ifCond .ne 49, 3) := by decide +kernel
theorem dX7_isOther_111 : decode mX7_isOther.2.1 111 = .ok (.aload_n 0, 1) := by decide +kernel
theorem dX7_isOther_112 : decode mX7_isOther.2.1 112 = .ok (.getfield 53, 3) := by decide +kernel
theorem dX7_isOther_115 : decode mX7_isOther.2.1 115 = .ok (.iload 4, 2) := by decide +kernel
theorem dX7_isOther_117 : decode mX7_isOther.2.1 117 = .ok (.iaload, 1) := by decide +kernel
theorem dX7_isOther_118 : decode mX7_isOther.2.1 118 = .ok (.aload_n 0, 1) := by decide +kernel
theorem dX7_isOther_119 : decode mX7_isOther.2.1 119 = .ok (.getfield 68, 3) := by decide +kernel
theorem dX7_isOther_122 : decode mX7_isOther.2.1 122 = .ok (.iload 4, 2) := by decide +kernel
theorem dX7_isOther_124 : decode mX7_isOther.2.1 124 = .ok (.iaload, 1) := by decide +kernel
theorem dX7_isOther_125 : decode mX7_isOther.2.1 125 = .ok (.if_icmp .ne 20, 3) := by decide +kernel
theorem dX7_isOther_128 : decode mX7_isOther.2.1 128 = .ok (.aload_n 0, 1) := by decide +kernel
theorem dX7_isOther_129 : decode mX7_isOther.2.1 129 = .ok (.getfield 56, 3) := by decide +kernel
theorem dX7_isOther_132 : decode mX7_isOther.2.1 132 = .ok (.iload 4, 2) := by decide +kernel
theorem dX7_isOther_134 : decode mX7_isOther.2.1 134 = .ok (.iaload, 1) := by decide +kernel
theorem dX7_isOther_135 : decode mX7_isOther.2.1 135 = .ok (.aload_n 0, 1) := by decide +kernel
theorem dX7_isOther_136 : decode mX7_isOther.2.1 136 = .ok (.getfield 71, 3) := by decide +kernel
theorem dX7_isOther_139 : decode mX7_isOther.2.1 139 = .ok (.iload 4, 2) := by decide +kernel
theorem dX7_isOther_141 : decode mX7_isOther.2.1 141 = .ok (.iaload, 1) := by decide +kernel
theorem dX7_isOther_142 : decode mX7_isOther.2.1 142 = .ok (.if_icmp .eq 7, 3) := by decide +kernel
theorem dX7_isOther_145 : decode mX7_isOther.2.1 145 = .ok (.iconst 1, 1) := by decide +kernel
theorem dX7_isOther_146 : decode mX7_isOther.2.1 146 = .ok (.goto 4, 3) := by decide +kernel
theorem dX7_isOther_149 : decode mX7_isOther.2.1 149 = .ok (.iconst 0, 1) := by decide +kernel
theorem dX7_isOther_150 : decode mX7_isOther.2.1 150 = .ok (.istore_n 3, 1) := by decide +kernel
theorem dX7_isOther_151 : decode mX7_isOther.2.1 151 = .ok (.iinc 4 1, 3) := by decide +kernel
theorem dX7_isOther_154 : decode mX7_isOther.2.1 154 = .ok (.goto (-56), 3) := by decide +kernel
theorem dX7_isOther_157 : decode mX7_isOther.2.1 157 = .ok (.aload_n 0, 1) := by decide +kernel
theorem dX7_isOther_158 : decode mX7_isOther.2.1 158 = .ok (.iconst 0, 1) := by decide +kernel
theorem dX7_isOther_159 : decode mX7_isOther.2.1 159 = .ok (.putfield 140, 3) := by decide +kernel
theorem dX7_isOther_162 : decode mX7_isOther.2.1 162 = .ok (.iload_n 3, 1) := by decide +kernel
theorem dX7_isOther_163 : decode mX7_isOther.2.1 163 = .ok (.ireturn, 1) := by decide +kernel
theorem dX7_whereTried_0 : decode mX7_whereTried.2.1 0 = .ok (.iconst 0, 1) := by decide +kernel
theorem dX7_whereTried_1 : decode mX7_whereTried.2.1 1 = .ok (.istore_n 1, 1) := by decide +kernel
theorem dX7_whereTried_2 : decode mX7_whereTried.2.1 2 = .ok (.iload_n 1, 1) := by decide +kernel
theorem dX7_whereTried_3 : decode mX7_whereTried.2.1 3 = .ok (.aload_n 0, 1) := by decide +kernel
theorem dX7_whereTried_4 : decode mX7_whereTried.2.1 4 = .ok (.getfield 112, 3) := by decide +kernel
theorem dX7_whereTried_7 : decode mX7_whereTried.2.1 7 = .ok (.if_icmp .ge 48, 3) := by decide +kernel
theorem dX7_whereTried_10 : decode mX7_whereTried.2.1 10 = .ok (.iconst 0, 1) := by decide +kernel
theorem dX7_whereTried_11 : decode mX7_whereTried.2.1 11 = .ok (.istore_n 2, 1) := by decide +kernel
theorem dX7_whereTried_12 : decode mX7_whereTried.2.1 12 = .ok (.iload_n 2, 1) := by decide +kernel
theorem dX7_whereTried_13 : decode mX7_whereTried.2.1 13 = .ok (.bipush 6, 2) := by decide +kernel
theorem dX7_whereTried_15 : decode mX7_whereTried.2.1 15 = .ok (.if_icmp .ge 34, 3) := by decide +kernel
theorem dX7_whereTried_18 : decode mX7_whereTried.2.1 18 = .ok (.aload_n 0, 1) := by decide +kernel
theorem dX7_whereTried_19 : decode mX7_whereTried.2.1 19 = .ok (.getfield 16, 3) := by decide +kernel
theorem dX7_whereTried_22 : decode mX7_whereTried.2.1 22 = .ok (.iload_n 1, 1) := by decide +kernel
theorem dX7_whereTried_23 : decode mX7_whereTried.2.1 23 = .ok (.baload, 1) := by decide +kernel
theorem dX7_whereTried_24 : decode mX7_whereTried.2.1 24 = .ok (.ifCond .ne 25, 3) := by decide +kernel
theorem dX7_whereTried_27 : decode mX7_whereTried.2.1 27 = .ok (.aload_n 0, 1) := by decide +kernel
theorem dX7_whereTried_28 : decode mX7_whereTried.2.1 28 = .ok (.iload_n 1, 1) := by decide +kernel
theorem dX7_whereTried_29 : decode mX7_whereTried.2.1 29 = .ok (.iload_n 2, 1) := by decide +kernel
theorem dX7_whereTried_30 : decode mX7_whereTried.2.1 30 = .ok (.invokevirtual 230, 3) := by decide +kernel
theorem dX7_whereTried_33 : decode mX7_whereTried.2.1 33 = .ok (.ifCond .eq 10, 3) := by decide +kernel
theorem dX7_whereTried_36 : decode mX7_whereTried.2.1 36 = .ok (.bipush 6, 2) := by decide +kernel
theorem dX7_whereTried_38 : decode mX7_whereTried.2.1 38 = .ok (.iload_n 1, 1) := by decide +kernel
theorem dX7_whereTried_39 : decode mX7_whereTried.2.1 39 = .ok (.imul, 1) := by decide +kernel
theorem dX7_whereTried_40 : decode mX7_whereTried.2.1 40 = .ok (.iload_n 2, 1) := by decide +kernel
theorem dX7_whereTried_41 : decode mX7_whereTried.2.1 41 = .ok (.iadd, 1) := by decide +kernel
theorem dX7_whereTried_42 : decode mX7_whereTried.2.1 42 = .ok (.ireturn, 1) := by decide +kernel
theorem dX7_whereTried_43 : decode mX7_whereTried.2.1 43 = .ok (.iinc 2 1, 3) := by decide +kernel
theorem dX7_whereTried_46 : decode mX7_whereTried.2.1 46 = .ok (.goto (-34), 3) := by decide +kernel
theorem dX7_whereTried_49 : decode mX7_whereTried.2.1 49 = .ok (.iinc 1 1, 3) := by decide +kernel
theorem dX7_whereTried_52 : decode mX7_whereTried.2.1 52 = .ok (.goto (-50), 3) := by decide +kernel
theorem dX7_whereTried_55 : decode mX7_whereTried.2.1 55 = .ok (.iconst (-1), 1) := by decide +kernel
theorem dX7_whereTried_56 : decode mX7_whereTried.2.1 56 = .ok (.ireturn, 1) := by decide +kernel
theorem dX7_whereNow_0 : decode mX7_whereNow.2.1 0 = .ok (.aload_n 0, 1) := by decide +kernel
theorem dX7_whereNow_1 : decode mX7_whereNow.2.1 1 = .ok (.iload_n 1, 1) := by decide +kernel
theorem dX7_whereNow_2 : decode mX7_whereNow.2.1 2 = .ok (.iload_n 2, 1) := by decide +kernel
theorem dX7_whereNow_3 : decode mX7_whereNow.2.1 3 = .ok (.iload_n 3, 1) := by decide +kernel
theorem dX7_whereNow_4 : decode mX7_whereNow.2.1 4 = .ok (.invokevirtual 233, 3) := by decide +kernel
theorem dX7_whereNow_7 : decode mX7_whereNow.2.1 7 = .ok (.ifCond .eq 5, 3) := by decide +kernel
theorem dX7_whereNow_10 : decode mX7_whereNow.2.1 10 = .ok (.iconst (-1), 1) := by decide +kernel
theorem dX7_whereNow_11 : decode mX7_whereNow.2.1 11 = .ok (.ireturn, 1) := by decide +kernel
theorem dX7_whereNow_12 : decode mX7_whereNow.2.1 12 = .ok (.aload_n 0, 1) := by decide +kernel
theorem dX7_whereNow_13 : decode mX7_whereNow.2.1 13 = .ok (.iload_n 1, 1) := by decide +kernel
theorem dX7_whereNow_14 : decode mX7_whereNow.2.1 14 = .ok (.iload_n 2, 1) := by decide +kernel
theorem dX7_whereNow_15 : decode mX7_whereNow.2.1 15 = .ok (.iload_n 3, 1) := by decide +kernel
theorem dX7_whereNow_16 : decode mX7_whereNow.2.1 16 = .ok (.invokevirtual 237, 3) := by decide +kernel
theorem dX7_whereNow_19 : decode mX7_whereNow.2.1 19 = .ok (.aload_n 0, 1) := by decide +kernel
theorem dX7_whereNow_20 : decode mX7_whereNow.2.1 20 = .ok (.invokevirtual 241, 3) := by decide +kernel
theorem dX7_whereNow_23 : decode mX7_whereNow.2.1 23 = .ok (.ireturn, 1) := by decide +kernel
theorem dX7_whyNow_0 : decode mX7_whyNow.2.1 0 = .ok (.aload_n 0, 1) := by decide +kernel
theorem dX7_whyNow_1 : decode mX7_whyNow.2.1 1 = .ok (.iload_n 1, 1) := by decide +kernel
theorem dX7_whyNow_2 : decode mX7_whyNow.2.1 2 = .ok (.iload_n 2, 1) := by decide +kernel
theorem dX7_whyNow_3 : decode mX7_whyNow.2.1 3 = .ok (.iload_n 3, 1) := by decide +kernel
theorem dX7_whyNow_4 : decode mX7_whyNow.2.1 4 = .ok (.invokevirtual 233, 3) := by decide +kernel
theorem dX7_whyNow_7 : decode mX7_whyNow.2.1 7 = .ok (.istore 4, 2) := by decide +kernel
theorem dX7_whyNow_9 : decode mX7_whyNow.2.1 9 = .ok (.iload 4, 2) := by decide +kernel
theorem dX7_whyNow_11 : decode mX7_whyNow.2.1 11 = .ok (.ifCond .eq 8, 3) := by decide +kernel
theorem dX7_whyNow_14 : decode mX7_whyNow.2.1 14 = .ok (.iload 4, 2) := by decide +kernel
theorem dX7_whyNow_16 : decode mX7_whyNow.2.1 16 = .ok (.goto 19, 3) := by decide +kernel
theorem dX7_whyNow_19 : decode mX7_whyNow.2.1 19 = .ok (.aload_n 0, 1) := by decide +kernel
theorem dX7_whyNow_20 : decode mX7_whyNow.2.1 20 = .ok (.iload_n 1, 1) := by decide +kernel
theorem dX7_whyNow_21 : decode mX7_whyNow.2.1 21 = .ok (.iload_n 2, 1) := by decide +kernel
theorem dX7_whyNow_22 : decode mX7_whyNow.2.1 22 = .ok (.iload_n 3, 1) := by decide +kernel
theorem dX7_whyNow_23 : decode mX7_whyNow.2.1 23 = .ok (.invokevirtual 244, 3) := by decide +kernel
theorem dX7_whyNow_26 : decode mX7_whyNow.2.1 26 = .ok (.iconst (-1), 1) := by decide +kernel
theorem dX7_whyNow_27 : decode mX7_whyNow.2.1 27 = .ok (.if_icmp .ne 7, 3) := by decide +kernel
theorem dX7_whyNow_30 : decode mX7_whyNow.2.1 30 = .ok (.iconst 0, 1) := by decide +kernel
theorem dX7_whyNow_31 : decode mX7_whyNow.2.1 31 = .ok (.goto 4, 3) := by decide +kernel
theorem dX7_whyNow_34 : decode mX7_whyNow.2.1 34 = .ok (.iconst 4, 1) := by decide +kernel
theorem dX7_whyNow_35 : decode mX7_whyNow.2.1 35 = .ok (.ireturn, 1) := by decide +kernel
theorem dX7_why_0 : decode mX7_why.2.1 0 = .ok (.aload_n 0, 1) := by decide +kernel
theorem dX7_why_1 : decode mX7_why.2.1 1 = .ok (.iload_n 1, 1) := by decide +kernel
theorem dX7_why_2 : decode mX7_why.2.1 2 = .ok (.iload_n 2, 1) := by decide +kernel
theorem dX7_why_3 : decode mX7_why.2.1 3 = .ok (.invokevirtual 173, 3) := by decide +kernel
theorem dX7_why_6 : decode mX7_why.2.1 6 = .ok (.ifCond .eq 13, 3) := by decide +kernel
theorem dX7_why_9 : decode mX7_why.2.1 9 = .ok (.aload_n 0, 1) := by decide +kernel
theorem dX7_why_10 : decode mX7_why.2.1 10 = .ok (.iload_n 1, 1) := by decide +kernel
theorem dX7_why_11 : decode mX7_why.2.1 11 = .ok (.iload_n 2, 1) := by decide +kernel
theorem dX7_why_12 : decode mX7_why.2.1 12 = .ok (.iload_n 3, 1) := by decide +kernel
theorem dX7_why_13 : decode mX7_why.2.1 13 = .ok (.invokevirtual 247, 3) := by decide +kernel
theorem dX7_why_16 : decode mX7_why.2.1 16 = .ok (.goto 6, 3) := by decide +kernel
theorem dX7_why_19 : decode mX7_why.2.1 19 = .ok (.sipush (-1001), 3) := by decide +kernel
theorem dX7_why_22 : decode mX7_why.2.1 22 = .ok (.ireturn, 1) := by decide +kernel
theorem dX7_where_0 : decode mX7_where.2.1 0 = .ok (.aload_n 0, 1) := by decide +kernel
theorem dX7_where_1 : decode mX7_where.2.1 1 = .ok (.iload_n 1, 1) := by decide +kernel
theorem dX7_where_2 : decode mX7_where.2.1 2 = .ok (.iload_n 2, 1) := by decide +kernel
theorem dX7_where_3 : decode mX7_where.2.1 3 = .ok (.invokevirtual 173, 3) := by decide +kernel
theorem dX7_where_6 : decode mX7_where.2.1 6 = .ok (.ifCond .eq 13, 3) := by decide +kernel
theorem dX7_where_9 : decode mX7_where.2.1 9 = .ok (.aload_n 0, 1) := by decide +kernel
theorem dX7_where_10 : decode mX7_where.2.1 10 = .ok (.iload_n 1, 1) := by decide +kernel
theorem dX7_where_11 : decode mX7_where.2.1 11 = .ok (.iload_n 2, 1) := by decide +kernel
theorem dX7_where_12 : decode mX7_where.2.1 12 = .ok (.iload_n 3, 1) := by decide +kernel
theorem dX7_where_13 : decode mX7_where.2.1 13 = .ok (.invokevirtual 244, 3) := by decide +kernel
theorem dX7_where_16 : decode mX7_where.2.1 16 = .ok (.goto 6, 3) := by decide +kernel
theorem dX7_where_19 : decode mX7_where.2.1 19 = .ok (.sipush (-1001), 3) := by decide +kernel
theorem dX7_where_22 : decode mX7_where.2.1 22 = .ok (.ireturn, 1) := by decide +kernel
theorem dX7_move_0 : decode mX7_move.2.1 0 = .ok (.aload_n 0, 1) := by decide +kernel
theorem dX7_move_1 : decode mX7_move.2.1 1 = .ok (.iload_n 1, 1) := by decide +kernel
theorem dX7_move_2 : decode mX7_move.2.1 2 = .ok (.iload_n 2, 1) := by decide +kernel
theorem dX7_move_3 : decode mX7_move.2.1 3 = .ok (.invokevirtual 173, 3) := by decide +kernel
theorem dX7_move_6 : decode mX7_move.2.1 6 = .ok (.ifCond .ne 7, 3) := by decide +kernel
theorem dX7_move_9 : decode mX7_move.2.1 9 = .ok (.sipush (-1001), 3) := by decide +kernel
theorem dX7_move_12 : decode mX7_move.2.1 12 = .ok (.ireturn, 1) := by decide +kernel
theorem dX7_move_13 : decode mX7_move.2.1 13 = .ok (.aload_n 0, 1) := by decide +kernel
theorem dX7_move_14 : decode mX7_move.2.1 14 = .ok (.iload_n 1, 1) := by decide +kernel
theorem dX7_move_15 : decode mX7_move.2.1 15 = .ok (.iload_n 2, 1) := by decide +kernel
theorem dX7_move_16 : decode mX7_move.2.1 16 = .ok (.iload_n 3, 1) := by decide +kernel
theorem dX7_move_17 : decode mX7_move.2.1 17 = .ok (.invokevirtual 247, 3) := by decide +kernel
theorem dX7_move_20 : decode mX7_move.2.1 20 = .ok (.ifCond .eq 7, 3) := by decide +kernel
theorem dX7_move_23 : decode mX7_move.2.1 23 = .ok (.sipush (-1003), 3) := by decide +kernel
theorem dX7_move_26 : decode mX7_move.2.1 26 = .ok (.ireturn, 1) := by decide +kernel
theorem dX7_move_27 : decode mX7_move.2.1 27 = .ok (.aload_n 0, 1) := by decide +kernel
theorem dX7_move_28 : decode mX7_move.2.1 28 = .ok (.getfield 137, 3) := by decide +kernel
theorem dX7_move_31 : decode mX7_move.2.1 31 = .ok (.bipush 20, 2) := by decide +kernel
theorem dX7_move_33 : decode mX7_move.2.1 33 = .ok (.if_icmp .ne 7, 3) := by decide +kernel
theorem dX7_move_36 : decode mX7_move.2.1 36 = .ok (.sipush (-1004), 3) := by decide +kernel
theorem dX7_move_39 : decode mX7_move.2.1 39 = .ok (.ireturn, 1) := by decide +kernel
theorem dX7_move_40 : decode mX7_move.2.1 40 = .ok (.iconst 0, 1) := by decide +kernel
theorem dX7_move_41 : decode mX7_move.2.1 41 = .ok (.istore 4, 2) := by decide +kernel
theorem dX7_move_43 : decode mX7_move.2.1 43 = .ok (.iload 4, 2) := by decide +kernel
theorem dX7_move_45 : decode mX7_move.2.1 45 = .ok (.bipush 96, 2) := by decide +kernel
theorem dX7_move_47 : decode mX7_move.2.1 47 = .ok (.if_icmp .ge 48, 3) := by decide +kernel
theorem dX7_move_50 : decode mX7_move.2.1 50 = .ok (.aload_n 0, 1) := by decide +kernel
theorem dX7_move_51 : decode mX7_move.2.1 51 = .ok (.getfield 35, 3) := by decide +kernel
theorem dX7_move_54 : decode mX7_move.2.1 54 = .ok (.bipush 96, 2) := by decide +kernel
theorem dX7_move_56 : decode mX7_move.2.1 56 = .ok (.aload_n 0, 1) := by decide +kernel
theorem dX7_move_57 : decode mX7_move.2.1 57 = .ok (.getfield 137, 3) := by decide +kernel
theorem dX7_move_60 : decode mX7_move.2.1 60 = .ok (.imul, 1) := by decide +kernel
theorem dX7_move_61 : decode mX7_move.2.1 61 = .ok (.iload 4, 2) := by decide +kernel
theorem dX7_move_63 : decode mX7_move.2.1 63 = .ok (.iadd, 1) := by decide +kernel
theorem dX7_move_64 : decode mX7_move.2.1 64 = .ok (.aload_n 0, 1) := by decide +kernel
theorem dX7_move_65 : decode mX7_move.2.1 65 = .ok (.getfield 20, 3) := by decide +kernel
theorem dX7_move_68 : decode mX7_move.2.1 68 = .ok (.iload 4, 2) := by decide +kernel
theorem dX7_move_70 : decode mX7_move.2.1 70 = .ok (.iaload, 1) := by decide +kernel
theorem dX7_move_71 : decode mX7_move.2.1 71 = .ok (.iastore, 1) := by decide +kernel
theorem dX7_move_72 : decode mX7_move.2.1 72 = .ok (.aload_n 0, 1) := by decide +kernel
theorem dX7_move_73 : decode mX7_move.2.1 73 = .ok (.getfield 20, 3) := by decide +kernel
theorem dX7_move_76 : decode mX7_move.2.1 76 = .ok (.iload 4, 2) := by decide +kernel
theorem dX7_move_78 : decode mX7_move.2.1 78 = .ok (.aload_n 0, 1) := by decide +kernel
theorem dX7_move_79 : decode mX7_move.2.1 79 = .ok (.getfield 20, 3) := by decide +kernel
theorem dX7_move_82 : decode mX7_move.2.1 82 = .ok (.bipush 96, 2) := by decide +kernel
theorem dX7_move_84 : decode mX7_move.2.1 84 = .ok (.iload 4, 2) := by decide +kernel
theorem dX7_move_86 : decode mX7_move.2.1 86 = .ok (.iadd, 1) := by decide +kernel
theorem dX7_move_87 : decode mX7_move.2.1 87 = .ok (.iaload, 1) := by decide +kernel
theorem dX7_move_88 : decode mX7_move.2.1 88 = .ok (.iastore, 1) := by decide +kernel
theorem dX7_move_89 : decode mX7_move.2.1 89 = .ok (.iinc 4 1, 3) := by decide +kernel
theorem dX7_move_92 : decode mX7_move.2.1 92 = .ok (.goto (-49), 3) := by decide +kernel
theorem dX7_move_95 : decode mX7_move.2.1 95 = .ok (.iconst 0, 1) := by decide +kernel
theorem dX7_move_96 : decode mX7_move.2.1 96 = .ok (.istore 4, 2) := by decide +kernel
theorem dX7_move_98 : decode mX7_move.2.1 98 = .ok (.iload 4, 2) := by decide +kernel
theorem dX7_move_100 : decode mX7_move.2.1 100 = .ok (.bipush 8, 2) := by decide +kernel
theorem dX7_move_102 : decode mX7_move.2.1 102 = .ok (.if_icmp .ge 48, 3) := by decide +kernel
theorem dX7_move_105 : decode mX7_move.2.1 105 = .ok (.aload_n 0, 1) := by decide +kernel
theorem dX7_move_106 : decode mX7_move.2.1 106 = .ok (.getfield 38, 3) := by decide +kernel
theorem dX7_move_109 : decode mX7_move.2.1 109 = .ok (.bipush 8, 2) := by decide +kernel
theorem dX7_move_111 : decode mX7_move.2.1 111 = .ok (.aload_n 0, 1) := by decide +kernel
theorem dX7_move_112 : decode mX7_move.2.1 112 = .ok (.getfield 137, 3) := by decide +kernel
theorem dX7_move_115 : decode mX7_move.2.1 115 = .ok (.imul, 1) := by decide +kernel
theorem dX7_move_116 : decode mX7_move.2.1 116 = .ok (.iload 4, 2) := by decide +kernel
theorem dX7_move_118 : decode mX7_move.2.1 118 = .ok (.iadd, 1) := by decide +kernel
theorem dX7_move_119 : decode mX7_move.2.1 119 = .ok (.aload_n 0, 1) := by decide +kernel
theorem dX7_move_120 : decode mX7_move.2.1 120 = .ok (.getfield 23, 3) := by decide +kernel
theorem dX7_move_123 : decode mX7_move.2.1 123 = .ok (.iload 4, 2) := by decide +kernel
theorem dX7_move_125 : decode mX7_move.2.1 125 = .ok (.iaload, 1) := by decide +kernel
theorem dX7_move_126 : decode mX7_move.2.1 126 = .ok (.iastore, 1) := by decide +kernel
theorem dX7_move_127 : decode mX7_move.2.1 127 = .ok (.aload_n 0, 1) := by decide +kernel
theorem dX7_move_128 : decode mX7_move.2.1 128 = .ok (.getfield 23, 3) := by decide +kernel
theorem dX7_move_131 : decode mX7_move.2.1 131 = .ok (.iload 4, 2) := by decide +kernel
theorem dX7_move_133 : decode mX7_move.2.1 133 = .ok (.aload_n 0, 1) := by decide +kernel
theorem dX7_move_134 : decode mX7_move.2.1 134 = .ok (.getfield 23, 3) := by decide +kernel
theorem dX7_move_137 : decode mX7_move.2.1 137 = .ok (.bipush 8, 2) := by decide +kernel
theorem dX7_move_139 : decode mX7_move.2.1 139 = .ok (.iload 4, 2) := by decide +kernel
theorem dX7_move_141 : decode mX7_move.2.1 141 = .ok (.iadd, 1) := by decide +kernel
theorem dX7_move_142 : decode mX7_move.2.1 142 = .ok (.iaload, 1) := by decide +kernel
theorem dX7_move_143 : decode mX7_move.2.1 143 = .ok (.iastore, 1) := by decide +kernel
theorem dX7_move_144 : decode mX7_move.2.1 144 = .ok (.iinc 4 1, 3) := by decide +kernel
theorem dX7_move_147 : decode mX7_move.2.1 147 = .ok (.goto (-49), 3) := by decide +kernel
theorem dX7_move_150 : decode mX7_move.2.1 150 = .ok (.aload_n 0, 1) := by decide +kernel
theorem dX7_move_151 : decode mX7_move.2.1 151 = .ok (.dup, 1) := by decide +kernel
theorem dX7_move_152 : decode mX7_move.2.1 152 = .ok (.getfield 137, 3) := by decide +kernel
theorem dX7_move_155 : decode mX7_move.2.1 155 = .ok (.iconst 1, 1) := by decide +kernel
theorem dX7_move_156 : decode mX7_move.2.1 156 = .ok (.iadd, 1) := by decide +kernel
theorem dX7_move_157 : decode mX7_move.2.1 157 = .ok (.putfield 137, 3) := by decide +kernel
theorem dX7_move_160 : decode mX7_move.2.1 160 = .ok (.aload_n 0, 1) := by decide +kernel
theorem dX7_move_161 : decode mX7_move.2.1 161 = .ok (.dup, 1) := by decide +kernel
theorem dX7_move_162 : decode mX7_move.2.1 162 = .ok (.getfield 250, 3) := by decide +kernel
theorem dX7_move_165 : decode mX7_move.2.1 165 = .ok (.iconst 1, 1) := by decide +kernel
theorem dX7_move_166 : decode mX7_move.2.1 166 = .ok (.iadd, 1) := by decide +kernel
theorem dX7_move_167 : decode mX7_move.2.1 167 = .ok (.putfield 250, 3) := by decide +kernel
theorem dX7_move_170 : decode mX7_move.2.1 170 = .ok (.aload_n 0, 1) := by decide +kernel
theorem dX7_move_171 : decode mX7_move.2.1 171 = .ok (.getfield 137, 3) := by decide +kernel
theorem dX7_move_174 : decode mX7_move.2.1 174 = .ok (.ireturn, 1) := by decide +kernel
theorem dX7_undo_0 : decode mX7_undo.2.1 0 = .ok (.aload_n 0, 1) := by decide +kernel
theorem dX7_undo_1 : decode mX7_undo.2.1 1 = .ok (.getfield 137, 3) := by decide +kernel
theorem dX7_undo_4 : decode mX7_undo.2.1 4 = .ok (.ifCond .ne 7, 3) := by decide +kernel
theorem dX7_undo_7 : decode mX7_undo.2.1 7 = .ok (.sipush (-1003), 3) := by decide +kernel
theorem dX7_undo_10 : decode mX7_undo.2.1 10 = .ok (.ireturn, 1) := by decide +kernel
theorem dX7_undo_11 : decode mX7_undo.2.1 11 = .ok (.aload_n 0, 1) := by decide +kernel
theorem dX7_undo_12 : decode mX7_undo.2.1 12 = .ok (.dup, 1) := by decide +kernel
theorem dX7_undo_13 : decode mX7_undo.2.1 13 = .ok (.getfield 137, 3) := by decide +kernel
theorem dX7_undo_16 : decode mX7_undo.2.1 16 = .ok (.iconst 1, 1) := by decide +kernel
theorem dX7_undo_17 : decode mX7_undo.2.1 17 = .ok (.isub, 1) := by decide +kernel
theorem dX7_undo_18 : decode mX7_undo.2.1 18 = .ok (.putfield 137, 3) := by decide +kernel
theorem dX7_undo_21 : decode mX7_undo.2.1 21 = .ok (.iconst 0, 1) := by decide +kernel
theorem dX7_undo_22 : decode mX7_undo.2.1 22 = .ok (.istore_n 1, 1) := by decide +kernel
theorem dX7_undo_23 : decode mX7_undo.2.1 23 = .ok (.iload_n 1, 1) := by decide +kernel
theorem dX7_undo_24 : decode mX7_undo.2.1 24 = .ok (.bipush 96, 2) := by decide +kernel
theorem dX7_undo_26 : decode mX7_undo.2.1 26 = .ok (.if_icmp .ge 29, 3) := by decide +kernel
theorem dX7_undo_29 : decode mX7_undo.2.1 29 = .ok (.aload_n 0, 1) := by decide +kernel
theorem dX7_undo_30 : decode mX7_undo.2.1 30 = .ok (.getfield 20, 3) := by decide +kernel
theorem dX7_undo_33 : decode mX7_undo.2.1 33 = .ok (.iload_n 1, 1) := by decide +kernel
theorem dX7_undo_34 : decode mX7_undo.2.1 34 = .ok (.aload_n 0, 1) := by decide +kernel
theorem dX7_undo_35 : decode mX7_undo.2.1 35 = .ok (.getfield 35, 3) := by decide +kernel
theorem dX7_undo_38 : decode mX7_undo.2.1 38 = .ok (.bipush 96, 2) := by decide +kernel
theorem dX7_undo_40 : decode mX7_undo.2.1 40 = .ok (.aload_n 0, 1) := by decide +kernel
theorem dX7_undo_41 : decode mX7_undo.2.1 41 = .ok (.getfield 137, 3) := by decide +kernel
theorem dX7_undo_44 : decode mX7_undo.2.1 44 = .ok (.imul, 1) := by decide +kernel
theorem dX7_undo_45 : decode mX7_undo.2.1 45 = .ok (.iload_n 1, 1) := by decide +kernel
theorem dX7_undo_46 : decode mX7_undo.2.1 46 = .ok (.iadd, 1) := by decide +kernel
theorem dX7_undo_47 : decode mX7_undo.2.1 47 = .ok (.iaload, 1) := by decide +kernel
theorem dX7_undo_48 : decode mX7_undo.2.1 48 = .ok (.iastore, 1) := by decide +kernel
theorem dX7_undo_49 : decode mX7_undo.2.1 49 = .ok (.iinc 1 1, 3) := by decide +kernel
theorem dX7_undo_52 : decode mX7_undo.2.1 52 = .ok (.goto (-29), 3) := by decide +kernel
theorem dX7_undo_55 : decode mX7_undo.2.1 55 = .ok (.iconst 0, 1) := by decide +kernel
theorem dX7_undo_56 : decode mX7_undo.2.1 56 = .ok (.istore_n 1, 1) := by decide +kernel
theorem dX7_undo_57 : decode mX7_undo.2.1 57 = .ok (.iload_n 1, 1) := by decide +kernel
theorem dX7_undo_58 : decode mX7_undo.2.1 58 = .ok (.bipush 8, 2) := by decide +kernel
theorem dX7_undo_60 : decode mX7_undo.2.1 60 = .ok (.if_icmp .ge 29, 3) := by decide +kernel
theorem dX7_undo_63 : decode mX7_undo.2.1 63 = .ok (.aload_n 0, 1) := by decide +kernel
theorem dX7_undo_64 : decode mX7_undo.2.1 64 = .ok (.getfield 23, 3) := by decide +kernel
theorem dX7_undo_67 : decode mX7_undo.2.1 67 = .ok (.iload_n 1, 1) := by decide +kernel
theorem dX7_undo_68 : decode mX7_undo.2.1 68 = .ok (.aload_n 0, 1) := by decide +kernel
theorem dX7_undo_69 : decode mX7_undo.2.1 69 = .ok (.getfield 38, 3) := by decide +kernel
theorem dX7_undo_72 : decode mX7_undo.2.1 72 = .ok (.bipush 8, 2) := by decide +kernel
theorem dX7_undo_74 : decode mX7_undo.2.1 74 = .ok (.aload_n 0, 1) := by decide +kernel
theorem dX7_undo_75 : decode mX7_undo.2.1 75 = .ok (.getfield 137, 3) := by decide +kernel
theorem dX7_undo_78 : decode mX7_undo.2.1 78 = .ok (.imul, 1) := by decide +kernel
theorem dX7_undo_79 : decode mX7_undo.2.1 79 = .ok (.iload_n 1, 1) := by decide +kernel
theorem dX7_undo_80 : decode mX7_undo.2.1 80 = .ok (.iadd, 1) := by decide +kernel
theorem dX7_undo_81 : decode mX7_undo.2.1 81 = .ok (.iaload, 1) := by decide +kernel
theorem dX7_undo_82 : decode mX7_undo.2.1 82 = .ok (.iastore, 1) := by decide +kernel
theorem dX7_undo_83 : decode mX7_undo.2.1 83 = .ok (.iinc 1 1, 3) := by decide +kernel
theorem dX7_undo_86 : decode mX7_undo.2.1 86 = .ok (.goto (-29), 3) := by decide +kernel
theorem dX7_undo_89 : decode mX7_undo.2.1 89 = .ok (.aload_n 0, 1) := by decide +kernel
theorem dX7_undo_90 : decode mX7_undo.2.1 90 = .ok (.dup, 1) := by decide +kernel
theorem dX7_undo_91 : decode mX7_undo.2.1 91 = .ok (.getfield 253, 3) := by decide +kernel
theorem dX7_undo_94 : decode mX7_undo.2.1 94 = .ok (.iconst 1, 1) := by decide +kernel
theorem dX7_undo_95 : decode mX7_undo.2.1 95 = .ok (.iadd, 1) := by decide +kernel
theorem dX7_undo_96 : decode mX7_undo.2.1 96 = .ok (.putfield 253, 3) := by decide +kernel
theorem dX7_undo_99 : decode mX7_undo.2.1 99 = .ok (.aload_n 0, 1) := by decide +kernel
theorem dX7_undo_100 : decode mX7_undo.2.1 100 = .ok (.getfield 137, 3) := by decide +kernel
theorem dX7_undo_103 : decode mX7_undo.2.1 103 = .ok (.ireturn, 1) := by decide +kernel
theorem dX7_layMoves_0 : decode mX7_layMoves.2.1 0 = .ok (.aload_n 0, 1) := by decide +kernel
theorem dX7_layMoves_1 : decode mX7_layMoves.2.1 1 = .ok (.iconst 0, 1) := by decide +kernel
theorem dX7_layMoves_2 : decode mX7_layMoves.2.1 2 = .ok (.putfield 256, 3) := by decide +kernel
theorem dX7_layMoves_5 : decode mX7_layMoves.2.1 5 = .ok (.aload_n 0, 1) := by decide +kernel
theorem dX7_layMoves_6 : decode mX7_layMoves.2.1 6 = .ok (.iconst 0, 1) := by decide +kernel
theorem dX7_layMoves_7 : decode mX7_layMoves.2.1 7 = .ok (.putfield 259, 3) := by decide +kernel
theorem dX7_layMoves_10 : decode mX7_layMoves.2.1 10 = .ok (.aload_n 0, 1) := by decide +kernel
theorem dX7_layMoves_11 : decode mX7_layMoves.2.1 11 = .ok (.iconst 0, 1) := by decide +kernel
theorem dX7_layMoves_12 : decode mX7_layMoves.2.1 12 = .ok (.putfield 262, 3) := by decide +kernel
theorem dX7_layMoves_15 : decode mX7_layMoves.2.1 15 = .ok (.iconst 0, 1) := by decide +kernel
theorem dX7_layMoves_16 : decode mX7_layMoves.2.1 16 = .ok (.istore_n 1, 1) := by decide +kernel
theorem dX7_layMoves_17 : decode mX7_layMoves.2.1 17 = .ok (.iload_n 1, 1) := by decide +kernel
theorem dX7_layMoves_18 : decode mX7_layMoves.2.1 18 = .ok (.bipush 12, 2) := by decide +kernel
theorem dX7_layMoves_20 : decode mX7_layMoves.2.1 20 = .ok (.aload_n 0, 1) := by decide +kernel
theorem dX7_layMoves_21 : decode mX7_layMoves.2.1 21 = .ok (.getfield 112, 3) := by decide +kernel
theorem dX7_layMoves_24 : decode mX7_layMoves.2.1 24 = .ok (.imul, 1) := by decide +kernel
theorem dX7_layMoves_25 : decode mX7_layMoves.2.1 25 = .ok (.if_icmp .ge 103, 3) := by decide +kernel
theorem dX7_layMoves_28 : decode mX7_layMoves.2.1 28 = .ok (.aload_n 0, 1) := by decide +kernel
theorem dX7_layMoves_29 : decode mX7_layMoves.2.1 29 = .ok (.iload_n 1, 1) := by decide +kernel
theorem dX7_layMoves_30 : decode mX7_layMoves.2.1 30 = .ok (.bipush 12, 2) := by decide +kernel
theorem dX7_layMoves_32 : decode mX7_layMoves.2.1 32 = .ok (.idiv, 1) := by decide +kernel
theorem dX7_layMoves_33 : decode mX7_layMoves.2.1 33 = .ok (.iload_n 1, 1) := by decide +kernel
theorem dX7_layMoves_34 : decode mX7_layMoves.2.1 34 = .ok (.bipush 12, 2) := by decide +kernel
theorem dX7_layMoves_36 : decode mX7_layMoves.2.1 36 = .ok (.irem, 1) := by decide +kernel
theorem dX7_layMoves_37 : decode mX7_layMoves.2.1 37 = .ok (.iconst 1, 1) := by decide +kernel
theorem dX7_layMoves_38 : decode mX7_layMoves.2.1 38 = .ok (.invokevirtual 247, 3) := by decide +kernel
theorem dX7_layMoves_41 : decode mX7_layMoves.2.1 41 = .ok (.istore_n 2, 1) := by decide +kernel
theorem dX7_layMoves_42 : decode mX7_layMoves.2.1 42 = .ok (.aload_n 0, 1) := by decide +kernel
theorem dX7_layMoves_43 : decode mX7_layMoves.2.1 43 = .ok (.iload_n 1, 1) := by decide +kernel
theorem dX7_layMoves_44 : decode mX7_layMoves.2.1 44 = .ok (.bipush 12, 2) := by decide +kernel
theorem dX7_layMoves_46 : decode mX7_layMoves.2.1 46 = .ok (.idiv, 1) := by decide +kernel
theorem dX7_layMoves_47 : decode mX7_layMoves.2.1 47 = .ok (.iload_n 1, 1) := by decide +kernel
theorem dX7_layMoves_48 : decode mX7_layMoves.2.1 48 = .ok (.bipush 12, 2) := by decide +kernel
theorem dX7_layMoves_50 : decode mX7_layMoves.2.1 50 = .ok (.irem, 1) := by decide +kernel
theorem dX7_layMoves_51 : decode mX7_layMoves.2.1 51 = .ok (.iconst 0, 1) := by decide +kernel
theorem dX7_layMoves_52 : decode mX7_layMoves.2.1 52 = .ok (.invokevirtual 247, 3) := by decide +kernel
theorem dX7_layMoves_55 : decode mX7_layMoves.2.1 55 = .ok (.istore_n 3, 1) := by decide +kernel
theorem dX7_layMoves_56 : decode mX7_layMoves.2.1 56 = .ok (.aload_n 0, 1) := by decide +kernel
theorem dX7_layMoves_57 : decode mX7_layMoves.2.1 57 = .ok (.dup, 1) := by decide +kernel
theorem dX7_layMoves_58 : decode mX7_layMoves.2.1 58 = .ok (.getfield 256, 3) := by decide +kernel
theorem dX7_layMoves_61 : decode mX7_layMoves.2.1 61 = .ok (.iload_n 2, 1) := by decide +kernel
theorem dX7_layMoves_62 : decode mX7_layMoves.2.1 62 = .ok (.ifCond .ne 7, 3) := by decide +kernel
theorem dX7_layMoves_65 : decode mX7_layMoves.2.1 65 = .ok (.iconst 1, 1) := by decide +kernel
theorem dX7_layMoves_66 : decode mX7_layMoves.2.1 66 = .ok (.goto 4, 3) := by decide +kernel
theorem dX7_layMoves_69 : decode mX7_layMoves.2.1 69 = .ok (.iconst 0, 1) := by decide +kernel
theorem dX7_layMoves_70 : decode mX7_layMoves.2.1 70 = .ok (.iadd, 1) := by decide +kernel
theorem dX7_layMoves_71 : decode mX7_layMoves.2.1 71 = .ok (.putfield 256, 3) := by decide +kernel
theorem dX7_layMoves_74 : decode mX7_layMoves.2.1 74 = .ok (.aload_n 0, 1) := by decide +kernel
theorem dX7_layMoves_75 : decode mX7_layMoves.2.1 75 = .ok (.dup, 1) := by decide +kernel
theorem dX7_layMoves_76 : decode mX7_layMoves.2.1 76 = .ok (.getfield 259, 3) := by decide +kernel
theorem dX7_layMoves_79 : decode mX7_layMoves.2.1 79 = .ok (.iload_n 3, 1) := by decide +kernel
theorem dX7_layMoves_80 : decode mX7_layMoves.2.1 80 = .ok (.ifCond .ne 7, 3) := by decide +kernel
theorem dX7_layMoves_83 : decode mX7_layMoves.2.1 83 = .ok (.iconst 1, 1) := by decide +kernel
theorem dX7_layMoves_84 : decode mX7_layMoves.2.1 84 = .ok (.goto 4, 3) := by decide +kernel
theorem dX7_layMoves_87 : decode mX7_layMoves.2.1 87 = .ok (.iconst 0, 1) := by decide +kernel
theorem dX7_layMoves_88 : decode mX7_layMoves.2.1 88 = .ok (.iadd, 1) := by decide +kernel
theorem dX7_layMoves_89 : decode mX7_layMoves.2.1 89 = .ok (.putfield 259, 3) := by decide +kernel
theorem dX7_layMoves_92 : decode mX7_layMoves.2.1 92 = .ok (.aload_n 0, 1) := by decide +kernel
theorem dX7_layMoves_93 : decode mX7_layMoves.2.1 93 = .ok (.dup, 1) := by decide +kernel
theorem dX7_layMoves_94 : decode mX7_layMoves.2.1 94 = .ok (.getfield 262, 3) := by decide +kernel
theorem dX7_layMoves_97 : decode mX7_layMoves.2.1 97 = .ok (.iload_n 2, 1) := by decide +kernel
theorem dX7_layMoves_98 : decode mX7_layMoves.2.1 98 = .ok (.iconst 4, 1) := by decide +kernel
theorem dX7_layMoves_99 : decode mX7_layMoves.2.1 99 = .ok (.if_icmp .ne 7, 3) := by decide +kernel
theorem dX7_layMoves_102 : decode mX7_layMoves.2.1 102 = .ok (.iconst 1, 1) := by decide +kernel
theorem dX7_layMoves_103 : decode mX7_layMoves.2.1 103 = .ok (.goto 4, 3) := by decide +kernel
theorem dX7_layMoves_106 : decode mX7_layMoves.2.1 106 = .ok (.iconst 0, 1) := by decide +kernel
theorem dX7_layMoves_107 : decode mX7_layMoves.2.1 107 = .ok (.iload_n 3, 1) := by decide +kernel
theorem dX7_layMoves_108 : decode mX7_layMoves.2.1 108 = .ok (.iconst 4, 1) := by decide +kernel
theorem dX7_layMoves_109 : decode mX7_layMoves.2.1 109 = .ok (.if_icmp .ne 7, 3) := by decide +kernel
theorem dX7_layMoves_112 : decode mX7_layMoves.2.1 112 = .ok (.iconst 1, 1) := by decide +kernel
theorem dX7_layMoves_113 : decode mX7_layMoves.2.1 113 = .ok (.goto 4, 3) := by decide +kernel
theorem dX7_layMoves_116 : decode mX7_layMoves.2.1 116 = .ok (.iconst 0, 1) := by decide +kernel
theorem dX7_layMoves_117 : decode mX7_layMoves.2.1 117 = .ok (.iadd, 1) := by decide +kernel
theorem dX7_layMoves_118 : decode mX7_layMoves.2.1 118 = .ok (.iadd, 1) := by decide +kernel
theorem dX7_layMoves_119 : decode mX7_layMoves.2.1 119 = .ok (.putfield 262, 3) := by decide +kernel
theorem dX7_layMoves_122 : decode mX7_layMoves.2.1 122 = .ok (.iinc 1 1, 3) := by decide +kernel
theorem dX7_layMoves_125 : decode mX7_layMoves.2.1 125 = .ok (.goto (-108), 3) := by decide +kernel
theorem dX7_layMoves_128 : decode mX7_layMoves.2.1 128 = .ok (.return_, 1) := by decide +kernel
theorem dX7_moves_0 : decode mX7_moves.2.1 0 = .ok (.iload_n 1, 1) := by decide +kernel
theorem dX7_moves_1 : decode mX7_moves.2.1 1 = .ok (.iconst 0, 1) := by decide +kernel
theorem dX7_moves_2 : decode mX7_moves.2.1 2 = .ok (.iconst 2, 1) := by decide +kernel
theorem dX7_moves_3 : decode mX7_moves.2.1 3 = .ok (.invokestatic 77, 3) := by decide +kernel
theorem dX7_moves_6 : decode mX7_moves.2.1 6 = .ok (.ifCond .ne 7, 3) := by decide +kernel
theorem dX7_moves_9 : decode mX7_moves.2.1 9 = .ok (.sipush (-1002), 3) := by decide +kernel
theorem dX7_moves_12 : decode mX7_moves.2.1 12 = .ok (.ireturn, 1) := by decide +kernel
theorem dX7_moves_13 : decode mX7_moves.2.1 13 = .ok (.aload_n 0, 1) := by decide +kernel
theorem dX7_moves_14 : decode mX7_moves.2.1 14 = .ok (.invokevirtual 265, 3) := by decide +kernel
theorem dX7_moves_17 : decode mX7_moves.2.1 17 = .ok (.iload_n 1, 1) := by decide +kernel
theorem dX7_moves_18 : decode mX7_moves.2.1 18 = .ok (.ifCond .ne 10, 3) := by decide +kernel
theorem dX7_moves_21 : decode mX7_moves.2.1 21 = .ok (.aload_n 0, 1) := by decide +kernel
theorem dX7_moves_22 : decode mX7_moves.2.1 22 = .ok (.getfield 256, 3) := by decide +kernel
theorem dX7_moves_25 : decode mX7_moves.2.1 25 = .ok (.goto 19, 3) := by decide +kernel
theorem dX7_moves_28 : decode mX7_moves.2.1 28 = .ok (.iload_n 1, 1) := by decide +kernel
theorem dX7_moves_29 : decode mX7_moves.2.1 29 = .ok (.iconst 1, 1) := by decide +kernel
theorem dX7_moves_30 : decode mX7_moves.2.1 30 = .ok (.if_icmp .ne 10, 3) := by decide +kernel
theorem dX7_moves_33 : decode mX7_moves.2.1 33 = .ok (.aload_n 0, 1) := by decide +kernel
theorem dX7_moves_34 : decode mX7_moves.2.1 34 = .ok (.getfield 259, 3) := by decide +kernel
theorem dX7_moves_37 : decode mX7_moves.2.1 37 = .ok (.goto 7, 3) := by decide +kernel
theorem dX7_moves_40 : decode mX7_moves.2.1 40 = .ok (.aload_n 0, 1) := by decide +kernel
theorem dX7_moves_41 : decode mX7_moves.2.1 41 = .ok (.getfield 262, 3) := by decide +kernel
theorem dX7_moves_44 : decode mX7_moves.2.1 44 = .ok (.ireturn, 1) := by decide +kernel
theorem dX7_contract_0 : decode mX7_contract.2.1 0 = .ok (.iload_n 1, 1) := by decide +kernel
theorem dX7_contract_1 : decode mX7_contract.2.1 1 = .ok (.iconst 1, 1) := by decide +kernel
theorem dX7_contract_2 : decode mX7_contract.2.1 2 = .ok (.bipush 63, 2) := by decide +kernel
theorem dX7_contract_4 : decode mX7_contract.2.1 4 = .ok (.invokestatic 77, 3) := by decide +kernel
theorem dX7_contract_7 : decode mX7_contract.2.1 7 = .ok (.ifCond .ne 7, 3) := by decide +kernel
theorem dX7_contract_10 : decode mX7_contract.2.1 10 = .ok (.sipush (-1002), 3) := by decide +kernel
theorem dX7_contract_13 : decode mX7_contract.2.1 13 = .ok (.ireturn, 1) := by decide +kernel
theorem dX7_contract_14 : decode mX7_contract.2.1 14 = .ok (.aload_n 0, 1) := by decide +kernel
theorem dX7_contract_15 : decode mX7_contract.2.1 15 = .ok (.getfield 268, 3) := by decide +kernel
theorem dX7_contract_18 : decode mX7_contract.2.1 18 = .ok (.bipush 6, 2) := by decide +kernel
theorem dX7_contract_20 : decode mX7_contract.2.1 20 = .ok (.if_icmp .ne 7, 3) := by decide +kernel
theorem dX7_contract_23 : decode mX7_contract.2.1 23 = .ok (.sipush (-1004), 3) := by decide +kernel
theorem dX7_contract_26 : decode mX7_contract.2.1 26 = .ok (.ireturn, 1) := by decide +kernel
theorem dX7_contract_27 : decode mX7_contract.2.1 27 = .ok (.aload_n 0, 1) := by decide +kernel
theorem dX7_contract_28 : decode mX7_contract.2.1 28 = .ok (.getfield 41, 3) := by decide +kernel
theorem dX7_contract_31 : decode mX7_contract.2.1 31 = .ok (.aload_n 0, 1) := by decide +kernel
theorem dX7_contract_32 : decode mX7_contract.2.1 32 = .ok (.getfield 268, 3) := by decide +kernel
theorem dX7_contract_35 : decode mX7_contract.2.1 35 = .ok (.iload_n 1, 1) := by decide +kernel
theorem dX7_contract_36 : decode mX7_contract.2.1 36 = .ok (.iastore, 1) := by decide +kernel
theorem dX7_contract_37 : decode mX7_contract.2.1 37 = .ok (.aload_n 0, 1) := by decide +kernel
theorem dX7_contract_38 : decode mX7_contract.2.1 38 = .ok (.dup, 1) := by decide +kernel
theorem dX7_contract_39 : decode mX7_contract.2.1 39 = .ok (.getfield 268, 3) := by decide +kernel
theorem dX7_contract_42 : decode mX7_contract.2.1 42 = .ok (.iconst 1, 1) := by decide +kernel
theorem dX7_contract_43 : decode mX7_contract.2.1 43 = .ok (.iadd, 1) := by decide +kernel
theorem dX7_contract_44 : decode mX7_contract.2.1 44 = .ok (.putfield 268, 3) := by decide +kernel
theorem dX7_contract_47 : decode mX7_contract.2.1 47 = .ok (.aload_n 0, 1) := by decide +kernel
theorem dX7_contract_48 : decode mX7_contract.2.1 48 = .ok (.getfield 268, 3) := by decide +kernel
theorem dX7_contract_51 : decode mX7_contract.2.1 51 = .ok (.iconst 1, 1) := by decide +kernel
theorem dX7_contract_52 : decode mX7_contract.2.1 52 = .ok (.isub, 1) := by decide +kernel
theorem dX7_contract_53 : decode mX7_contract.2.1 53 = .ok (.ireturn, 1) := by decide +kernel
theorem dX7_fitNow_0 : decode mX7_fitNow.2.1 0 = .ok (.iload_n 2, 1) := by decide +kernel
theorem dX7_fitNow_1 : decode mX7_fitNow.2.1 1 = .ok (.ifCond .ne 10, 3) := by decide +kernel
theorem dX7_fitNow_4 : decode mX7_fitNow.2.1 4 = .ok (.aload_n 0, 1) := by decide +kernel
theorem dX7_fitNow_5 : decode mX7_fitNow.2.1 5 = .ok (.getfield 41, 3) := by decide +kernel
theorem dX7_fitNow_8 : decode mX7_fitNow.2.1 8 = .ok (.iload_n 1, 1) := by decide +kernel
theorem dX7_fitNow_9 : decode mX7_fitNow.2.1 9 = .ok (.iaload, 1) := by decide +kernel
theorem dX7_fitNow_10 : decode mX7_fitNow.2.1 10 = .ok (.ireturn, 1) := by decide +kernel
theorem dX7_fitNow_11 : decode mX7_fitNow.2.1 11 = .ok (.iconst 0, 1) := by decide +kernel
theorem dX7_fitNow_12 : decode mX7_fitNow.2.1 12 = .ok (.istore_n 3, 1) := by decide +kernel
theorem dX7_fitNow_13 : decode mX7_fitNow.2.1 13 = .ok (.iconst (-1), 1) := by decide +kernel
theorem dX7_fitNow_14 : decode mX7_fitNow.2.1 14 = .ok (.istore 4, 2) := by decide +kernel
theorem dX7_fitNow_16 : decode mX7_fitNow.2.1 16 = .ok (.bipush 7, 2) := by decide +kernel
theorem dX7_fitNow_18 : decode mX7_fitNow.2.1 18 = .ok (.istore 5, 2) := by decide +kernel
theorem dX7_fitNow_20 : decode mX7_fitNow.2.1 20 = .ok (.iconst 0, 1) := by decide +kernel
theorem dX7_fitNow_21 : decode mX7_fitNow.2.1 21 = .ok (.istore 6, 2) := by decide +kernel
theorem dX7_fitNow_23 : decode mX7_fitNow.2.1 23 = .ok (.iload 6, 2) := by decide +kernel
theorem dX7_fitNow_25 : decode mX7_fitNow.2.1 25 = .ok (.aload_n 0, 1) := by decide +kernel
theorem dX7_fitNow_26 : decode mX7_fitNow.2.1 26 = .ok (.getfield 112, 3) := by decide +kernel
theorem dX7_fitNow_29 : decode mX7_fitNow.2.1 29 = .ok (.if_icmp .ge 87, 3) := by decide +kernel
theorem dX7_fitNow_32 : decode mX7_fitNow.2.1 32 = .ok (.aload_n 0, 1) := by decide +kernel
theorem dX7_fitNow_33 : decode mX7_fitNow.2.1 33 = .ok (.getfield 41, 3) := by decide +kernel
theorem dX7_fitNow_36 : decode mX7_fitNow.2.1 36 = .ok (.iload_n 1, 1) := by decide +kernel
theorem dX7_fitNow_37 : decode mX7_fitNow.2.1 37 = .ok (.iaload, 1) := by decide +kernel
theorem dX7_fitNow_38 : decode mX7_fitNow.2.1 38 = .ok (.aload_n 0, 1) := by decide +kernel
theorem dX7_fitNow_39 : decode mX7_fitNow.2.1 39 = .ok (.iload 6, 2) := by decide +kernel
theorem dX7_fitNow_41 : decode mX7_fitNow.2.1 41 = .ok (.invokevirtual 164, 3) := by decide +kernel
theorem dX7_fitNow_44 : decode mX7_fitNow.2.1 44 = .ok (.iconst (-1), 1) := by decide +kernel
theorem dX7_fitNow_45 : decode mX7_fitNow.2.1 45 = .ok (.ixor, 1) := by decide +kernel
theorem dX7_fitNow_46 : decode mX7_fitNow.2.1 46 = .ok (.iand, 1) := by decide +kernel
theorem dX7_fitNow_47 : decode mX7_fitNow.2.1 47 = .ok (.invokestatic 271, 3) := by decide +kernel
theorem dX7_fitNow_50 : decode mX7_fitNow.2.1 50 = .ok (.istore 7, 2) := by decide +kernel
theorem dX7_fitNow_52 : decode mX7_fitNow.2.1 52 = .ok (.iload_n 3, 1) := by decide +kernel
theorem dX7_fitNow_53 : decode mX7_fitNow.2.1 53 = .ok (.iload 7, 2) := by decide +kernel
theorem dX7_fitNow_55 : decode mX7_fitNow.2.1 55 = .ok (.ifCond .ne 10, 3) := by decide +kernel
theorem dX7_fitNow_58 : decode mX7_fitNow.2.1 58 = .ok (.iconst 1, 1) := by decide +kernel
theorem dX7_fitNow_59 : decode mX7_fitNow.2.1 59 = .ok (.iload 6, 2) := by decide +kernel
theorem dX7_fitNow_61 : decode mX7_fitNow.2.1 61 = .ok (.ishl, 1) := by decide +kernel
theorem dX7_fitNow_62 : decode mX7_fitNow.2.1 62 = .ok (.goto 4, 3) := by decide +kernel
theorem dX7_fitNow_65 : decode mX7_fitNow.2.1 65 = .ok (.iconst 0, 1) := by decide +kernel
theorem dX7_fitNow_66 : decode mX7_fitNow.2.1 66 = .ok (.ior, 1) := by decide +kernel
theorem dX7_fitNow_67 : decode mX7_fitNow.2.1 67 = .ok (.istore_n 3, 1) := by decide +kernel
theorem dX7_fitNow_68 : decode mX7_fitNow.2.1 68 = .ok (.iload 7, 2) := by decide +kernel
theorem dX7_fitNow_70 : decode mX7_fitNow.2.1 70 = .ok (.ifCond .le 15, 3) := by decide +kernel
theorem dX7_fitNow_73 : decode mX7_fitNow.2.1 73 = .ok (.iload 7, 2) := by decide +kernel
theorem dX7_fitNow_75 : decode mX7_fitNow.2.1 75 = .ok (.iload 5, 2) := by decide +kernel
theorem dX7_fitNow_77 : decode mX7_fitNow.2.1 77 = .ok (.if_icmp .ge 8, 3) := by decide +kernel
theorem dX7_fitNow_80 : decode mX7_fitNow.2.1 80 = .ok (.iload 6, 2) := by decide +kernel
theorem dX7_fitNow_82 : decode mX7_fitNow.2.1 82 = .ok (.goto 5, 3) := by decide +kernel
theorem dX7_fitNow_85 : decode mX7_fitNow.2.1 85 = .ok (.iload 4, 2) := by decide +kernel
theorem dX7_fitNow_87 : decode mX7_fitNow.2.1 87 = .ok (.istore 4, 2) := by decide +kernel
theorem dX7_fitNow_89 : decode mX7_fitNow.2.1 89 = .ok (.iload 7, 2) := by decide +kernel
theorem dX7_fitNow_91 : decode mX7_fitNow.2.1 91 = .ok (.ifCond .le 15, 3) := by decide +kernel
theorem dX7_fitNow_94 : decode mX7_fitNow.2.1 94 = .ok (.iload 7, 2) := by decide +kernel
theorem dX7_fitNow_96 : decode mX7_fitNow.2.1 96 = .ok (.iload 5, 2) := by decide +kernel
theorem dX7_fitNow_98 : decode mX7_fitNow.2.1 98 = .ok (.if_icmp .ge 8, 3) := by decide +kernel
theorem dX7_fitNow_101 : decode mX7_fitNow.2.1 101 = .ok (.iload 7, 2) := by decide +kernel
theorem dX7_fitNow_103 : decode mX7_fitNow.2.1 103 = .ok (.goto 5, 3) := by decide +kernel
theorem dX7_fitNow_106 : decode mX7_fitNow.2.1 106 = .ok (.iload 5, 2) := by decide +kernel
theorem dX7_fitNow_108 : decode mX7_fitNow.2.1 108 = .ok (.istore 5, 2) := by decide +kernel
theorem dX7_fitNow_110 : decode mX7_fitNow.2.1 110 = .ok (.iinc 6 1, 3) := by decide +kernel
theorem dX7_fitNow_113 : decode mX7_fitNow.2.1 113 = .ok (.goto (-90), 3) := by decide +kernel
theorem dX7_fitNow_116 : decode mX7_fitNow.2.1 116 = .ok (.iload_n 2, 1) := by decide +kernel
theorem dX7_fitNow_117 : decode mX7_fitNow.2.1 117 = .ok (.iconst 1, 1) := by decide +kernel
theorem dX7_fitNow_118 : decode mX7_fitNow.2.1 118 = .ok (.if_icmp .ne 7, 3) := by decide +kernel
theorem dX7_fitNow_121 : decode mX7_fitNow.2.1 121 = .ok (.iload_n 3, 1) := by decide +kernel
theorem dX7_fitNow_122 : decode mX7_fitNow.2.1 122 = .ok (.goto 5, 3) := by decide +kernel
theorem dX7_fitNow_125 : decode mX7_fitNow.2.1 125 = .ok (.iload 4, 2) := by decide +kernel
theorem dX7_fitNow_127 : decode mX7_fitNow.2.1 127 = .ok (.ireturn, 1) := by decide +kernel
theorem dX7_fit_0 : decode mX7_fit.2.1 0 = .ok (.iload_n 1, 1) := by decide +kernel
theorem dX7_fit_1 : decode mX7_fit.2.1 1 = .ok (.iconst 0, 1) := by decide +kernel
theorem dX7_fit_2 : decode mX7_fit.2.1 2 = .ok (.aload_n 0, 1) := by decide +kernel
theorem dX7_fit_3 : decode mX7_fit.2.1 3 = .ok (.getfield 268, 3) := by decide +kernel
theorem dX7_fit_6 : decode mX7_fit.2.1 6 = .ok (.iconst 1, 1) := by decide +kernel
theorem dX7_fit_7 : decode mX7_fit.2.1 7 = .ok (.isub, 1) := by decide +kernel
theorem dX7_fit_8 : decode mX7_fit.2.1 8 = .ok (.invokestatic 77, 3) := by decide +kernel
theorem dX7_fit_11 : decode mX7_fit.2.1 11 = .ok (.ifCond .ne 7, 3) := by decide +kernel
theorem dX7_fit_14 : decode mX7_fit.2.1 14 = .ok (.sipush (-1001), 3) := by decide +kernel
theorem dX7_fit_17 : decode mX7_fit.2.1 17 = .ok (.ireturn, 1) := by decide +kernel
theorem dX7_fit_18 : decode mX7_fit.2.1 18 = .ok (.iload_n 2, 1) := by decide +kernel
theorem dX7_fit_19 : decode mX7_fit.2.1 19 = .ok (.iconst 0, 1) := by decide +kernel
theorem dX7_fit_20 : decode mX7_fit.2.1 20 = .ok (.iconst 2, 1) := by decide +kernel
theorem dX7_fit_21 : decode mX7_fit.2.1 21 = .ok (.invokestatic 77, 3) := by decide +kernel
theorem dX7_fit_24 : decode mX7_fit.2.1 24 = .ok (.ifCond .eq 12, 3) := by decide +kernel
theorem dX7_fit_27 : decode mX7_fit.2.1 27 = .ok (.aload_n 0, 1) := by decide +kernel
theorem dX7_fit_28 : decode mX7_fit.2.1 28 = .ok (.iload_n 1, 1) := by decide +kernel
theorem dX7_fit_29 : decode mX7_fit.2.1 29 = .ok (.iload_n 2, 1) := by decide +kernel
theorem dX7_fit_30 : decode mX7_fit.2.1 30 = .ok (.invokevirtual 274, 3) := by decide +kernel
theorem dX7_fit_33 : decode mX7_fit.2.1 33 = .ok (.goto 6, 3) := by decide +kernel
theorem dX7_fit_36 : decode mX7_fit.2.1 36 = .ok (.sipush (-1002), 3) := by decide +kernel
theorem dX7_fit_39 : decode mX7_fit.2.1 39 = .ok (.ireturn, 1) := by decide +kernel
theorem dX7_common_0 : decode mX7_common.2.1 0 = .ok (.iload_n 1, 1) := by decide +kernel
theorem dX7_common_1 : decode mX7_common.2.1 1 = .ok (.iconst 1, 1) := by decide +kernel
theorem dX7_common_2 : decode mX7_common.2.1 2 = .ok (.iconst 1, 1) := by decide +kernel
theorem dX7_common_3 : decode mX7_common.2.1 3 = .ok (.aload_n 0, 1) := by decide +kernel
theorem dX7_common_4 : decode mX7_common.2.1 4 = .ok (.getfield 112, 3) := by decide +kernel
theorem dX7_common_7 : decode mX7_common.2.1 7 = .ok (.ishl, 1) := by decide +kernel
theorem dX7_common_8 : decode mX7_common.2.1 8 = .ok (.iconst 1, 1) := by decide +kernel
theorem dX7_common_9 : decode mX7_common.2.1 9 = .ok (.isub, 1) := by decide +kernel
theorem dX7_common_10 : decode mX7_common.2.1 10 = .ok (.invokestatic 77, 3) := by decide +kernel
theorem dX7_common_13 : decode mX7_common.2.1 13 = .ok (.ifCond .ne 7, 3) := by decide +kernel
theorem dX7_common_16 : decode mX7_common.2.1 16 = .ok (.sipush (-1002), 3) := by decide +kernel
theorem dX7_common_19 : decode mX7_common.2.1 19 = .ok (.ireturn, 1) := by decide +kernel
theorem dX7_common_20 : decode mX7_common.2.1 20 = .ok (.bipush 63, 2) := by decide +kernel
theorem dX7_common_22 : decode mX7_common.2.1 22 = .ok (.istore_n 2, 1) := by decide +kernel
theorem dX7_common_23 : decode mX7_common.2.1 23 = .ok (.iconst 0, 1) := by decide +kernel
theorem dX7_common_24 : decode mX7_common.2.1 24 = .ok (.istore_n 3, 1) := by decide +kernel
theorem dX7_common_25 : decode mX7_common.2.1 25 = .ok (.iload_n 3, 1) := by decide +kernel
theorem dX7_common_26 : decode mX7_common.2.1 26 = .ok (.aload_n 0, 1) := by decide +kernel
theorem dX7_common_27 : decode mX7_common.2.1 27 = .ok (.getfield 112, 3) := by decide +kernel
theorem dX7_common_30 : decode mX7_common.2.1 30 = .ok (.if_icmp .ge 30, 3) := by decide +kernel
theorem dX7_common_33 : decode mX7_common.2.1 33 = .ok (.iload_n 2, 1) := by decide +kernel
theorem dX7_common_34 : decode mX7_common.2.1 34 = .ok (.iload_n 1, 1) := by decide +kernel
theorem dX7_common_35 : decode mX7_common.2.1 35 = .ok (.iload_n 3, 1) := by decide +kernel
theorem dX7_common_36 : decode mX7_common.2.1 36 = .ok (.invokestatic 92, 3) := by decide +kernel
theorem dX7_common_39 : decode mX7_common.2.1 39 = .ok (.ifCond .eq 11, 3) := by decide +kernel
theorem dX7_common_42 : decode mX7_common.2.1 42 = .ok (.aload_n 0, 1) := by decide +kernel
theorem dX7_common_43 : decode mX7_common.2.1 43 = .ok (.iload_n 3, 1) := by decide +kernel
theorem dX7_common_44 : decode mX7_common.2.1 44 = .ok (.invokevirtual 164, 3) := by decide +kernel
theorem dX7_common_47 : decode mX7_common.2.1 47 = .ok (.goto 5, 3) := by decide +kernel
theorem dX7_common_50 : decode mX7_common.2.1 50 = .ok (.bipush 63, 2) := by decide +kernel
theorem dX7_common_52 : decode mX7_common.2.1 52 = .ok (.iand, 1) := by decide +kernel
theorem dX7_common_53 : decode mX7_common.2.1 53 = .ok (.istore_n 2, 1) := by decide +kernel
theorem dX7_common_54 : decode mX7_common.2.1 54 = .ok (.iinc 3 1, 3) := by decide +kernel
theorem dX7_common_57 : decode mX7_common.2.1 57 = .ok (.goto (-32), 3) := by decide +kernel
theorem dX7_common_60 : decode mX7_common.2.1 60 = .ok (.iload_n 2, 1) := by decide +kernel
theorem dX7_common_61 : decode mX7_common.2.1 61 = .ok (.ireturn, 1) := by decide +kernel
theorem dX7_layMet_0 : decode mX7_layMet.2.1 0 = .ok (.iconst 0, 1) := by decide +kernel
theorem dX7_layMet_1 : decode mX7_layMet.2.1 1 = .ok (.istore_n 1, 1) := by decide +kernel
theorem dX7_layMet_2 : decode mX7_layMet.2.1 2 = .ok (.iload_n 1, 1) := by decide +kernel
theorem dX7_layMet_3 : decode mX7_layMet.2.1 3 = .ok (.bipush 40, 2) := by decide +kernel
theorem dX7_layMet_5 : decode mX7_layMet.2.1 5 = .ok (.if_icmp .ge 16, 3) := by decide +kernel
theorem dX7_layMet_8 : decode mX7_layMet.2.1 8 = .ok (.aload_n 0, 1) := by decide +kernel
theorem dX7_layMet_9 : decode mX7_layMet.2.1 9 = .ok (.getfield 74, 3) := by decide +kernel
theorem dX7_layMet_12 : decode mX7_layMet.2.1 12 = .ok (.iload_n 1, 1) := by decide +kernel
theorem dX7_layMet_13 : decode mX7_layMet.2.1 13 = .ok (.iconst 0, 1) := by decide +kernel
theorem dX7_layMet_14 : decode mX7_layMet.2.1 14 = .ok (.bastore, 1) := by decide +kernel
theorem dX7_layMet_15 : decode mX7_layMet.2.1 15 = .ok (.iinc 1 1, 3) := by decide +kernel
theorem dX7_layMet_18 : decode mX7_layMet.2.1 18 = .ok (.goto (-16), 3) := by decide +kernel
theorem dX7_layMet_21 : decode mX7_layMet.2.1 21 = .ok (.aload_n 0, 1) := by decide +kernel
theorem dX7_layMet_22 : decode mX7_layMet.2.1 22 = .ok (.iconst 0, 1) := by decide +kernel
theorem dX7_layMet_23 : decode mX7_layMet.2.1 23 = .ok (.putfield 277, 3) := by decide +kernel
theorem dX7_layMet_26 : decode mX7_layMet.2.1 26 = .ok (.iconst 0, 1) := by decide +kernel
theorem dX7_layMet_27 : decode mX7_layMet.2.1 27 = .ok (.istore_n 1, 1) := by decide +kernel
theorem dX7_layMet_28 : decode mX7_layMet.2.1 28 = .ok (.iload_n 1, 1) := by decide +kernel
theorem dX7_layMet_29 : decode mX7_layMet.2.1 29 = .ok (.bipush 6, 2) := by decide +kernel
theorem dX7_layMet_31 : decode mX7_layMet.2.1 31 = .ok (.aload_n 0, 1) := by decide +kernel
theorem dX7_layMet_32 : decode mX7_layMet.2.1 32 = .ok (.getfield 112, 3) := by decide +kernel
theorem dX7_layMet_35 : decode mX7_layMet.2.1 35 = .ok (.imul, 1) := by decide +kernel
theorem dX7_layMet_36 : decode mX7_layMet.2.1 36 = .ok (.if_icmp .ge 98, 3) := by decide +kernel
theorem dX7_layMet_39 : decode mX7_layMet.2.1 39 = .ok (.aload_n 0, 1) := by decide +kernel
theorem dX7_layMet_40 : decode mX7_layMet.2.1 40 = .ok (.getfield 16, 3) := by decide +kernel
theorem dX7_layMet_43 : decode mX7_layMet.2.1 43 = .ok (.iload_n 1, 1) := by decide +kernel
theorem dX7_layMet_44 : decode mX7_layMet.2.1 44 = .ok (.bipush 6, 2) := by decide +kernel
theorem dX7_layMet_46 : decode mX7_layMet.2.1 46 = .ok (.idiv, 1) := by decide +kernel
theorem dX7_layMet_47 : decode mX7_layMet.2.1 47 = .ok (.baload, 1) := by decide +kernel
theorem dX7_layMet_48 : decode mX7_layMet.2.1 48 = .ok (.ifCond .ne 80, 3) := by decide +kernel
theorem dX7_layMet_51 : decode mX7_layMet.2.1 51 = .ok (.aload_n 0, 1) := by decide +kernel
theorem dX7_layMet_52 : decode mX7_layMet.2.1 52 = .ok (.iload_n 1, 1) := by decide +kernel
theorem dX7_layMet_53 : decode mX7_layMet.2.1 53 = .ok (.bipush 6, 2) := by decide +kernel
theorem dX7_layMet_55 : decode mX7_layMet.2.1 55 = .ok (.idiv, 1) := by decide +kernel
theorem dX7_layMet_56 : decode mX7_layMet.2.1 56 = .ok (.iload_n 1, 1) := by decide +kernel
theorem dX7_layMet_57 : decode mX7_layMet.2.1 57 = .ok (.bipush 6, 2) := by decide +kernel
theorem dX7_layMet_59 : decode mX7_layMet.2.1 59 = .ok (.irem, 1) := by decide +kernel
theorem dX7_layMet_60 : decode mX7_layMet.2.1 60 = .ok (.invokevirtual 211, 3) := by decide +kernel
theorem dX7_layMet_63 : decode mX7_layMet.2.1 63 = .ok (.ifCond .eq 65, 3) := by decide +kernel
theorem dX7_layMet_66 : decode mX7_layMet.2.1 66 = .ok (.iconst 0, 1) := by decide +kernel
theorem dX7_layMet_67 : decode mX7_layMet.2.1 67 = .ok (.istore_n 2, 1) := by decide +kernel
theorem dX7_layMet_68 : decode mX7_layMet.2.1 68 = .ok (.iload_n 2, 1) := by decide +kernel
theorem dX7_layMet_69 : decode mX7_layMet.2.1 69 = .ok (.aload_n 0, 1) := by decide +kernel
theorem dX7_layMet_70 : decode mX7_layMet.2.1 70 = .ok (.getfield 185, 3) := by decide +kernel
theorem dX7_layMet_73 : decode mX7_layMet.2.1 73 = .ok (.if_icmp .ge 55, 3) := by decide +kernel
theorem dX7_layMet_76 : decode mX7_layMet.2.1 76 = .ok (.aload_n 0, 1) := by decide +kernel
theorem dX7_layMet_77 : decode mX7_layMet.2.1 77 = .ok (.dup, 1) := by decide +kernel
theorem dX7_layMet_78 : decode mX7_layMet.2.1 78 = .ok (.getfield 277, 3) := by decide +kernel
theorem dX7_layMet_81 : decode mX7_layMet.2.1 81 = .ok (.aload_n 0, 1) := by decide +kernel
theorem dX7_layMet_82 : decode mX7_layMet.2.1 82 = .ok (.getfield 53, 3) := by decide +kernel
theorem dX7_layMet_85 : decode mX7_layMet.2.1 85 = .ok (.iload_n 2, 1) := by decide +kernel
theorem dX7_layMet_86 : decode mX7_layMet.2.1 86 = .ok (.iaload, 1) := by decide +kernel
theorem dX7_layMet_87 : decode mX7_layMet.2.1 87 = .ok (.iconst 3, 1) := by decide +kernel
theorem dX7_layMet_88 : decode mX7_layMet.2.1 88 = .ok (.if_icmp .ne 7, 3) := by decide +kernel
theorem dX7_layMet_91 : decode mX7_layMet.2.1 91 = .ok (.iconst 1, 1) := by decide +kernel
theorem dX7_layMet_92 : decode mX7_layMet.2.1 92 = .ok (.goto 4, 3) := by decide +kernel
theorem dX7_layMet_95 : decode mX7_layMet.2.1 95 = .ok (.iconst 0, 1) := by decide +kernel
theorem dX7_layMet_96 : decode mX7_layMet.2.1 96 = .ok (.iadd, 1) := by decide +kernel
theorem dX7_layMet_97 : decode mX7_layMet.2.1 97 = .ok (.putfield 277, 3) := by decide +kernel
theorem dX7_layMet_100 : decode mX7_layMet.2.1 100 = .ok (.aload_n 0, 1) := by decide +kernel
theorem dX7_layMet_101 : decode mX7_layMet.2.1 101 = .ok (.getfield 53, 3) := by decide +kernel
theorem dX7_layMet_104 : decode mX7_layMet.2.1 104 = .ok (.iload_n 2, 1) := by decide +kernel
theorem dX7_layMet_105 : decode mX7_layMet.2.1 105 = .ok (.iaload, 1) := by decide +kernel
theorem dX7_layMet_106 : decode mX7_layMet.2.1 106 = .ok (.iconst 2, 1) := by decide +kernel
theorem dX7_layMet_107 : decode mX7_layMet.2.1 107 = .ok (.if_icmp .ge 15, 3) := by decide +kernel
theorem dX7_layMet_110 : decode mX7_layMet.2.1 110 = .ok (.aload_n 0, 1) := by decide +kernel
theorem dX7_layMet_111 : decode mX7_layMet.2.1 111 = .ok (.getfield 74, 3) := by decide +kernel
theorem dX7_layMet_114 : decode mX7_layMet.2.1 114 = .ok (.aload_n 0, 1) := by decide +kernel
theorem dX7_layMet_115 : decode mX7_layMet.2.1 115 = .ok (.getfield 56, 3) := by decide +kernel
theorem dX7_layMet_118 : decode mX7_layMet.2.1 118 = .ok (.iload_n 2, 1) := by decide +kernel
theorem dX7_layMet_119 : decode mX7_layMet.2.1 119 = .ok (.iaload, 1) := by decide +kernel
theorem dX7_layMet_120 : decode mX7_layMet.2.1 120 = .ok (.iconst 1, 1) := by decide +kernel
theorem dX7_layMet_121 : decode mX7_layMet.2.1 121 = .ok (.bastore, 1) := by decide +kernel
theorem dX7_layMet_122 : decode mX7_layMet.2.1 122 = .ok (.iinc 2 1, 3) := by decide +kernel
theorem dX7_layMet_125 : decode mX7_layMet.2.1 125 = .ok (.goto (-57), 3) := by decide +kernel
theorem dX7_layMet_128 : decode mX7_layMet.2.1 128 = .ok (.iinc 1 1, 3) := by decide +kernel
theorem dX7_layMet_131 : decode mX7_layMet.2.1 131 = .ok (.goto (-103), 3) := by decide +kernel
theorem dX7_layMet_134 : decode mX7_layMet.2.1 134 = .ok (.return_, 1) := by decide +kernel
theorem dX7_deadNow_0 : decode mX7_deadNow.2.1 0 = .ok (.aload_n 0, 1) := by decide +kernel
theorem dX7_deadNow_1 : decode mX7_deadNow.2.1 1 = .ok (.getfield 74, 3) := by decide +kernel
theorem dX7_deadNow_4 : decode mX7_deadNow.2.1 4 = .ok (.iload_n 1, 1) := by decide +kernel
theorem dX7_deadNow_5 : decode mX7_deadNow.2.1 5 = .ok (.baload, 1) := by decide +kernel
theorem dX7_deadNow_6 : decode mX7_deadNow.2.1 6 = .ok (.ifCond .eq 7, 3) := by decide +kernel
theorem dX7_deadNow_9 : decode mX7_deadNow.2.1 9 = .ok (.iconst 0, 1) := by decide +kernel
theorem dX7_deadNow_10 : decode mX7_deadNow.2.1 10 = .ok (.goto 4, 3) := by decide +kernel
theorem dX7_deadNow_13 : decode mX7_deadNow.2.1 13 = .ok (.iconst 1, 1) := by decide +kernel
theorem dX7_deadNow_14 : decode mX7_deadNow.2.1 14 = .ok (.ireturn, 1) := by decide +kernel
theorem dX7_dead_0 : decode mX7_dead.2.1 0 = .ok (.iload_n 1, 1) := by decide +kernel
theorem dX7_dead_1 : decode mX7_dead.2.1 1 = .ok (.iconst 0, 1) := by decide +kernel
theorem dX7_dead_2 : decode mX7_dead.2.1 2 = .ok (.aload_n 0, 1) := by decide +kernel
theorem dX7_dead_3 : decode mX7_dead.2.1 3 = .ok (.getfield 134, 3) := by decide +kernel
theorem dX7_dead_6 : decode mX7_dead.2.1 6 = .ok (.iconst 1, 1) := by decide +kernel
theorem dX7_dead_7 : decode mX7_dead.2.1 7 = .ok (.isub, 1) := by decide +kernel
theorem dX7_dead_8 : decode mX7_dead.2.1 8 = .ok (.invokestatic 77, 3) := by decide +kernel
theorem dX7_dead_11 : decode mX7_dead.2.1 11 = .ok (.ifCond .ne 7, 3) := by decide +kernel
theorem dX7_dead_14 : decode mX7_dead.2.1 14 = .ok (.sipush (-1001), 3) := by decide +kernel
theorem dX7_dead_17 : decode mX7_dead.2.1 17 = .ok (.ireturn, 1) := by decide +kernel
theorem dX7_dead_18 : decode mX7_dead.2.1 18 = .ok (.aload_n 0, 1) := by decide +kernel
theorem dX7_dead_19 : decode mX7_dead.2.1 19 = .ok (.invokevirtual 280, 3) := by decide +kernel
theorem dX7_dead_22 : decode mX7_dead.2.1 22 = .ok (.aload_n 0, 1) := by decide +kernel
theorem dX7_dead_23 : decode mX7_dead.2.1 23 = .ok (.iload_n 1, 1) := by decide +kernel
theorem dX7_dead_24 : decode mX7_dead.2.1 24 = .ok (.invokevirtual 283, 3) := by decide +kernel
theorem dX7_dead_27 : decode mX7_dead.2.1 27 = .ok (.ireturn, 1) := by decide +kernel
theorem dX7_deadMany_0 : decode mX7_deadMany.2.1 0 = .ok (.aload_n 0, 1) := by decide +kernel
theorem dX7_deadMany_1 : decode mX7_deadMany.2.1 1 = .ok (.invokevirtual 280, 3) := by decide +kernel
theorem dX7_deadMany_4 : decode mX7_deadMany.2.1 4 = .ok (.iconst 0, 1) := by decide +kernel
theorem dX7_deadMany_5 : decode mX7_deadMany.2.1 5 = .ok (.istore_n 1, 1) := by decide +kernel
theorem dX7_deadMany_6 : decode mX7_deadMany.2.1 6 = .ok (.iconst 0, 1) := by decide +kernel
theorem dX7_deadMany_7 : decode mX7_deadMany.2.1 7 = .ok (.istore_n 2, 1) := by decide +kernel
theorem dX7_deadMany_8 : decode mX7_deadMany.2.1 8 = .ok (.iload_n 2, 1) := by decide +kernel
theorem dX7_deadMany_9 : decode mX7_deadMany.2.1 9 = .ok (.aload_n 0, 1) := by decide +kernel
theorem dX7_deadMany_10 : decode mX7_deadMany.2.1 10 = .ok (.getfield 134, 3) := by decide +kernel
theorem dX7_deadMany_13 : decode mX7_deadMany.2.1 13 = .ok (.if_icmp .ge 17, 3) := by decide +kernel
theorem dX7_deadMany_16 : decode mX7_deadMany.2.1 16 = .ok (.iload_n 1, 1) := by decide +kernel
theorem dX7_deadMany_17 : decode mX7_deadMany.2.1 17 = .ok (.aload_n 0, 1) := by decide +kernel
theorem dX7_deadMany_18 : decode mX7_deadMany.2.1 18 = .ok (.iload_n 2, 1) := by decide +kernel
theorem dX7_deadMany_19 : decode mX7_deadMany.2.1 19 = .ok (.invokevirtual 283, 3) := by decide +kernel
theorem dX7_deadMany_22 : decode mX7_deadMany.2.1 22 = .ok (.iadd, 1) := by decide +kernel
theorem dX7_deadMany_23 : decode mX7_deadMany.2.1 23 = .ok (.istore_n 1, 1) := by decide +kernel
theorem dX7_deadMany_24 : decode mX7_deadMany.2.1 24 = .ok (.iinc 2 1, 3) := by decide +kernel
theorem dX7_deadMany_27 : decode mX7_deadMany.2.1 27 = .ok (.goto (-19), 3) := by decide +kernel
theorem dX7_deadMany_30 : decode mX7_deadMany.2.1 30 = .ok (.iload_n 1, 1) := by decide +kernel
theorem dX7_deadMany_31 : decode mX7_deadMany.2.1 31 = .ok (.ireturn, 1) := by decide +kernel
theorem dX7_missingMany_0 : decode mX7_missingMany.2.1 0 = .ok (.aload_n 0, 1) := by decide +kernel
theorem dX7_missingMany_1 : decode mX7_missingMany.2.1 1 = .ok (.invokevirtual 280, 3) := by decide +kernel
theorem dX7_missingMany_4 : decode mX7_missingMany.2.1 4 = .ok (.aload_n 0, 1) := by decide +kernel
theorem dX7_missingMany_5 : decode mX7_missingMany.2.1 5 = .ok (.getfield 277, 3) := by decide +kernel
theorem dX7_missingMany_8 : decode mX7_missingMany.2.1 8 = .ok (.ireturn, 1) := by decide +kernel
theorem dX7_howMany_0 : decode mX7_howMany.2.1 0 = .ok (.iload_n 1, 1) := by decide +kernel
theorem dX7_howMany_1 : decode mX7_howMany.2.1 1 = .ok (.tableswitch 96 0 8 #[51, 56, 61, 66, 71, 76, 81, 86, 91], 51) := by decide +kernel
theorem dX7_howMany_52 : decode mX7_howMany.2.1 52 = .ok (.aload_n 0, 1) := by decide +kernel
theorem dX7_howMany_53 : decode mX7_howMany.2.1 53 = .ok (.getfield 81, 3) := by decide +kernel
theorem dX7_howMany_56 : decode mX7_howMany.2.1 56 = .ok (.ireturn, 1) := by decide +kernel
theorem dX7_howMany_57 : decode mX7_howMany.2.1 57 = .ok (.aload_n 0, 1) := by decide +kernel
theorem dX7_howMany_58 : decode mX7_howMany.2.1 58 = .ok (.getfield 112, 3) := by decide +kernel
theorem dX7_howMany_61 : decode mX7_howMany.2.1 61 = .ok (.ireturn, 1) := by decide +kernel
theorem dX7_howMany_62 : decode mX7_howMany.2.1 62 = .ok (.aload_n 0, 1) := by decide +kernel
theorem dX7_howMany_63 : decode mX7_howMany.2.1 63 = .ok (.getfield 134, 3) := by decide +kernel
theorem dX7_howMany_66 : decode mX7_howMany.2.1 66 = .ok (.ireturn, 1) := by decide +kernel
theorem dX7_howMany_67 : decode mX7_howMany.2.1 67 = .ok (.aload_n 0, 1) := by decide +kernel
theorem dX7_howMany_68 : decode mX7_howMany.2.1 68 = .ok (.getfield 137, 3) := by decide +kernel
theorem dX7_howMany_71 : decode mX7_howMany.2.1 71 = .ok (.ireturn, 1) := by decide +kernel
theorem dX7_howMany_72 : decode mX7_howMany.2.1 72 = .ok (.aload_n 0, 1) := by decide +kernel
theorem dX7_howMany_73 : decode mX7_howMany.2.1 73 = .ok (.getfield 268, 3) := by decide +kernel
theorem dX7_howMany_76 : decode mX7_howMany.2.1 76 = .ok (.ireturn, 1) := by decide +kernel
theorem dX7_howMany_77 : decode mX7_howMany.2.1 77 = .ok (.aload_n 0, 1) := by decide +kernel
theorem dX7_howMany_78 : decode mX7_howMany.2.1 78 = .ok (.getfield 250, 3) := by decide +kernel
theorem dX7_howMany_81 : decode mX7_howMany.2.1 81 = .ok (.ireturn, 1) := by decide +kernel
theorem dX7_howMany_82 : decode mX7_howMany.2.1 82 = .ok (.aload_n 0, 1) := by decide +kernel
theorem dX7_howMany_83 : decode mX7_howMany.2.1 83 = .ok (.getfield 253, 3) := by decide +kernel
theorem dX7_howMany_86 : decode mX7_howMany.2.1 86 = .ok (.ireturn, 1) := by decide +kernel
theorem dX7_howMany_87 : decode mX7_howMany.2.1 87 = .ok (.aload_n 0, 1) := by decide +kernel
theorem dX7_howMany_88 : decode mX7_howMany.2.1 88 = .ok (.invokevirtual 286, 3) := by decide +kernel
theorem dX7_howMany_91 : decode mX7_howMany.2.1 91 = .ok (.ireturn, 1) := by decide +kernel
theorem dX7_howMany_92 : decode mX7_howMany.2.1 92 = .ok (.aload_n 0, 1) := by decide +kernel
theorem dX7_howMany_93 : decode mX7_howMany.2.1 93 = .ok (.invokevirtual 289, 3) := by decide +kernel
theorem dX7_howMany_96 : decode mX7_howMany.2.1 96 = .ok (.ireturn, 1) := by decide +kernel
theorem dX7_howMany_97 : decode mX7_howMany.2.1 97 = .ok (.sipush (-1002), 3) := by decide +kernel
theorem dX7_howMany_100 : decode mX7_howMany.2.1 100 = .ok (.ireturn, 1) := by decide +kernel
theorem dX7_count_0 : decode mX7_count.2.1 0 = .ok (.aload_n 0, 1) := by decide +kernel
theorem dX7_count_1 : decode mX7_count.2.1 1 = .ok (.iload_n 1, 1) := by decide +kernel
theorem dX7_count_2 : decode mX7_count.2.1 2 = .ok (.invokevirtual 292, 3) := by decide +kernel
theorem dX7_count_5 : decode mX7_count.2.1 5 = .ok (.ireturn, 1) := by decide +kernel
theorem dX7_mix_0 : decode mX7_mix.2.1 0 = .ok (.aload_n 0, 1) := by decide +kernel
theorem dX7_mix_1 : decode mX7_mix.2.1 1 = .ok (.ldc2_w 295, 3) := by decide +kernel
theorem dX7_mix_4 : decode mX7_mix.2.1 4 = .ok (.aload_n 0, 1) := by decide +kernel
theorem dX7_mix_5 : decode mX7_mix.2.1 5 = .ok (.getfield 297, 3) := by decide +kernel
theorem dX7_mix_8 : decode mX7_mix.2.1 8 = .ok (.lmul, 1) := by decide +kernel
theorem dX7_mix_9 : decode mX7_mix.2.1 9 = .ok (.lload_n 1, 1) := by decide +kernel
theorem dX7_mix_10 : decode mX7_mix.2.1 10 = .ok (.ladd, 1) := by decide +kernel
theorem dX7_mix_11 : decode mX7_mix.2.1 11 = .ok (.putfield 297, 3) := by decide +kernel
theorem dX7_mix_14 : decode mX7_mix.2.1 14 = .ok (.return_, 1) := by decide +kernel
theorem dX7_mixMethod_0 : decode mX7_mixMethod.2.1 0 = .ok (.aload_n 0, 1) := by decide +kernel
theorem dX7_mixMethod_1 : decode mX7_mixMethod.2.1 1 = .ok (.aload_n 0, 1) := by decide +kernel
theorem dX7_mixMethod_2 : decode mX7_mixMethod.2.1 2 = .ok (.iload_n 1, 1) := by decide +kernel
theorem dX7_mixMethod_3 : decode mX7_mixMethod.2.1 3 = .ok (.iload_n 2, 1) := by decide +kernel
theorem dX7_mixMethod_4 : decode mX7_mixMethod.2.1 4 = .ok (.iconst 0, 1) := by decide +kernel
theorem dX7_mixMethod_5 : decode mX7_mixMethod.2.1 5 = .ok (.invokevirtual 179, 3) := by decide +kernel
theorem dX7_mixMethod_8 : decode mX7_mixMethod.2.1 8 = .ok (.i2l, 1) := by decide +kernel
theorem dX7_mixMethod_9 : decode mX7_mixMethod.2.1 9 = .ok (.invokevirtual 301, 3) := by decide +kernel
theorem dX7_mixMethod_12 : decode mX7_mixMethod.2.1 12 = .ok (.aload_n 0, 1) := by decide +kernel
theorem dX7_mixMethod_13 : decode mX7_mixMethod.2.1 13 = .ok (.aload_n 0, 1) := by decide +kernel
theorem dX7_mixMethod_14 : decode mX7_mixMethod.2.1 14 = .ok (.iload_n 1, 1) := by decide +kernel
theorem dX7_mixMethod_15 : decode mX7_mixMethod.2.1 15 = .ok (.iload_n 2, 1) := by decide +kernel
theorem dX7_mixMethod_16 : decode mX7_mixMethod.2.1 16 = .ok (.iconst 1, 1) := by decide +kernel
theorem dX7_mixMethod_17 : decode mX7_mixMethod.2.1 17 = .ok (.invokevirtual 179, 3) := by decide +kernel
theorem dX7_mixMethod_20 : decode mX7_mixMethod.2.1 20 = .ok (.i2l, 1) := by decide +kernel
theorem dX7_mixMethod_21 : decode mX7_mixMethod.2.1 21 = .ok (.invokevirtual 301, 3) := by decide +kernel
theorem dX7_mixMethod_24 : decode mX7_mixMethod.2.1 24 = .ok (.aload_n 0, 1) := by decide +kernel
theorem dX7_mixMethod_25 : decode mX7_mixMethod.2.1 25 = .ok (.aload_n 0, 1) := by decide +kernel
theorem dX7_mixMethod_26 : decode mX7_mixMethod.2.1 26 = .ok (.iload_n 1, 1) := by decide +kernel
theorem dX7_mixMethod_27 : decode mX7_mixMethod.2.1 27 = .ok (.iload_n 2, 1) := by decide +kernel
theorem dX7_mixMethod_28 : decode mX7_mixMethod.2.1 28 = .ok (.iconst 0, 1) := by decide +kernel
theorem dX7_mixMethod_29 : decode mX7_mixMethod.2.1 29 = .ok (.invokevirtual 214, 3) := by decide +kernel
theorem dX7_mixMethod_32 : decode mX7_mixMethod.2.1 32 = .ok (.i2l, 1) := by decide +kernel
theorem dX7_mixMethod_33 : decode mX7_mixMethod.2.1 33 = .ok (.invokevirtual 301, 3) := by decide +kernel
theorem dX7_mixMethod_36 : decode mX7_mixMethod.2.1 36 = .ok (.aload_n 0, 1) := by decide +kernel
theorem dX7_mixMethod_37 : decode mX7_mixMethod.2.1 37 = .ok (.aload_n 0, 1) := by decide +kernel
theorem dX7_mixMethod_38 : decode mX7_mixMethod.2.1 38 = .ok (.iload_n 1, 1) := by decide +kernel
theorem dX7_mixMethod_39 : decode mX7_mixMethod.2.1 39 = .ok (.iload_n 2, 1) := by decide +kernel
theorem dX7_mixMethod_40 : decode mX7_mixMethod.2.1 40 = .ok (.iconst 1, 1) := by decide +kernel
theorem dX7_mixMethod_41 : decode mX7_mixMethod.2.1 41 = .ok (.invokevirtual 214, 3) := by decide +kernel
theorem dX7_mixMethod_44 : decode mX7_mixMethod.2.1 44 = .ok (.i2l, 1) := by decide +kernel
theorem dX7_mixMethod_45 : decode mX7_mixMethod.2.1 45 = .ok (.invokevirtual 301, 3) := by decide +kernel
theorem dX7_mixMethod_48 : decode mX7_mixMethod.2.1 48 = .ok (.iconst 0, 1) := by decide +kernel
theorem dX7_mixMethod_49 : decode mX7_mixMethod.2.1 49 = .ok (.istore_n 3, 1) := by decide +kernel
theorem dX7_mixMethod_50 : decode mX7_mixMethod.2.1 50 = .ok (.iload_n 3, 1) := by decide +kernel
theorem dX7_mixMethod_51 : decode mX7_mixMethod.2.1 51 = .ok (.aload_n 0, 1) := by decide +kernel
theorem dX7_mixMethod_52 : decode mX7_mixMethod.2.1 52 = .ok (.getfield 185, 3) := by decide +kernel
theorem dX7_mixMethod_55 : decode mX7_mixMethod.2.1 55 = .ok (.if_icmp .ge 31, 3) := by decide +kernel
theorem dX7_mixMethod_58 : decode mX7_mixMethod.2.1 58 = .ok (.aload_n 0, 1) := by decide +kernel
theorem dX7_mixMethod_59 : decode mX7_mixMethod.2.1 59 = .ok (.aload_n 0, 1) := by decide +kernel
theorem dX7_mixMethod_60 : decode mX7_mixMethod.2.1 60 = .ok (.getfield 53, 3) := by decide +kernel
theorem dX7_mixMethod_63 : decode mX7_mixMethod.2.1 63 = .ok (.iload_n 3, 1) := by decide +kernel
theorem dX7_mixMethod_64 : decode mX7_mixMethod.2.1 64 = .ok (.iaload, 1) := by decide +kernel
theorem dX7_mixMethod_65 : decode mX7_mixMethod.2.1 65 = .ok (.i2l, 1) := by decide +kernel
theorem dX7_mixMethod_66 : decode mX7_mixMethod.2.1 66 = .ok (.invokevirtual 301, 3) := by decide +kernel
theorem dX7_mixMethod_69 : decode mX7_mixMethod.2.1 69 = .ok (.aload_n 0, 1) := by decide +kernel
theorem dX7_mixMethod_70 : decode mX7_mixMethod.2.1 70 = .ok (.aload_n 0, 1) := by decide +kernel
theorem dX7_mixMethod_71 : decode mX7_mixMethod.2.1 71 = .ok (.getfield 56, 3) := by decide +kernel
theorem dX7_mixMethod_74 : decode mX7_mixMethod.2.1 74 = .ok (.iload_n 3, 1) := by decide +kernel
theorem dX7_mixMethod_75 : decode mX7_mixMethod.2.1 75 = .ok (.iaload, 1) := by decide +kernel
theorem dX7_mixMethod_76 : decode mX7_mixMethod.2.1 76 = .ok (.i2l, 1) := by decide +kernel
theorem dX7_mixMethod_77 : decode mX7_mixMethod.2.1 77 = .ok (.invokevirtual 301, 3) := by decide +kernel
theorem dX7_mixMethod_80 : decode mX7_mixMethod.2.1 80 = .ok (.iinc 3 1, 3) := by decide +kernel
theorem dX7_mixMethod_83 : decode mX7_mixMethod.2.1 83 = .ok (.goto (-33), 3) := by decide +kernel
theorem dX7_mixMethod_86 : decode mX7_mixMethod.2.1 86 = .ok (.return_, 1) := by decide +kernel
theorem dX7_mixTypes_0 : decode mX7_mixTypes.2.1 0 = .ok (.iconst 0, 1) := by decide +kernel
theorem dX7_mixTypes_1 : decode mX7_mixTypes.2.1 1 = .ok (.istore_n 1, 1) := by decide +kernel
theorem dX7_mixTypes_2 : decode mX7_mixTypes.2.1 2 = .ok (.iload_n 1, 1) := by decide +kernel
theorem dX7_mixTypes_3 : decode mX7_mixTypes.2.1 3 = .ok (.aload_n 0, 1) := by decide +kernel
theorem dX7_mixTypes_4 : decode mX7_mixTypes.2.1 4 = .ok (.getfield 112, 3) := by decide +kernel
theorem dX7_mixTypes_7 : decode mX7_mixTypes.2.1 7 = .ok (.if_icmp .ge 79, 3) := by decide +kernel
theorem dX7_mixTypes_10 : decode mX7_mixTypes.2.1 10 = .ok (.iconst 0, 1) := by decide +kernel
theorem dX7_mixTypes_11 : decode mX7_mixTypes.2.1 11 = .ok (.istore_n 2, 1) := by decide +kernel
theorem dX7_mixTypes_12 : decode mX7_mixTypes.2.1 12 = .ok (.iload_n 2, 1) := by decide +kernel
theorem dX7_mixTypes_13 : decode mX7_mixTypes.2.1 13 = .ok (.bipush 7, 2) := by decide +kernel
theorem dX7_mixTypes_15 : decode mX7_mixTypes.2.1 15 = .ok (.if_icmp .ge 20, 3) := by decide +kernel
theorem dX7_mixTypes_18 : decode mX7_mixTypes.2.1 18 = .ok (.aload_n 0, 1) := by decide +kernel
theorem dX7_mixTypes_19 : decode mX7_mixTypes.2.1 19 = .ok (.aload_n 0, 1) := by decide +kernel
theorem dX7_mixTypes_20 : decode mX7_mixTypes.2.1 20 = .ok (.iload_n 1, 1) := by decide +kernel
theorem dX7_mixTypes_21 : decode mX7_mixTypes.2.1 21 = .ok (.iload_n 2, 1) := by decide +kernel
theorem dX7_mixTypes_22 : decode mX7_mixTypes.2.1 22 = .ok (.invokevirtual 170, 3) := by decide +kernel
theorem dX7_mixTypes_25 : decode mX7_mixTypes.2.1 25 = .ok (.i2l, 1) := by decide +kernel
theorem dX7_mixTypes_26 : decode mX7_mixTypes.2.1 26 = .ok (.invokevirtual 301, 3) := by decide +kernel
theorem dX7_mixTypes_29 : decode mX7_mixTypes.2.1 29 = .ok (.iinc 2 1, 3) := by decide +kernel
theorem dX7_mixTypes_32 : decode mX7_mixTypes.2.1 32 = .ok (.goto (-20), 3) := by decide +kernel
theorem dX7_mixTypes_35 : decode mX7_mixTypes.2.1 35 = .ok (.iconst 0, 1) := by decide +kernel
theorem dX7_mixTypes_36 : decode mX7_mixTypes.2.1 36 = .ok (.istore_n 2, 1) := by decide +kernel
theorem dX7_mixTypes_37 : decode mX7_mixTypes.2.1 37 = .ok (.iload_n 2, 1) := by decide +kernel
theorem dX7_mixTypes_38 : decode mX7_mixTypes.2.1 38 = .ok (.bipush 12, 2) := by decide +kernel
theorem dX7_mixTypes_40 : decode mX7_mixTypes.2.1 40 = .ok (.if_icmp .ge 20, 3) := by decide +kernel
theorem dX7_mixTypes_43 : decode mX7_mixTypes.2.1 43 = .ok (.aload_n 0, 1) := by decide +kernel
theorem dX7_mixTypes_44 : decode mX7_mixTypes.2.1 44 = .ok (.aload_n 0, 1) := by decide +kernel
theorem dX7_mixTypes_45 : decode mX7_mixTypes.2.1 45 = .ok (.iload_n 1, 1) := by decide +kernel
theorem dX7_mixTypes_46 : decode mX7_mixTypes.2.1 46 = .ok (.iload_n 2, 1) := by decide +kernel
theorem dX7_mixTypes_47 : decode mX7_mixTypes.2.1 47 = .ok (.invokevirtual 150, 3) := by decide +kernel
theorem dX7_mixTypes_50 : decode mX7_mixTypes.2.1 50 = .ok (.i2l, 1) := by decide +kernel
theorem dX7_mixTypes_51 : decode mX7_mixTypes.2.1 51 = .ok (.invokevirtual 301, 3) := by decide +kernel
theorem dX7_mixTypes_54 : decode mX7_mixTypes.2.1 54 = .ok (.iinc 2 1, 3) := by decide +kernel
theorem dX7_mixTypes_57 : decode mX7_mixTypes.2.1 57 = .ok (.goto (-20), 3) := by decide +kernel
theorem dX7_mixTypes_60 : decode mX7_mixTypes.2.1 60 = .ok (.iconst 0, 1) := by decide +kernel
theorem dX7_mixTypes_61 : decode mX7_mixTypes.2.1 61 = .ok (.istore_n 2, 1) := by decide +kernel
theorem dX7_mixTypes_62 : decode mX7_mixTypes.2.1 62 = .ok (.iload_n 2, 1) := by decide +kernel
theorem dX7_mixTypes_63 : decode mX7_mixTypes.2.1 63 = .ok (.bipush 6, 2) := by decide +kernel
theorem dX7_mixTypes_65 : decode mX7_mixTypes.2.1 65 = .ok (.if_icmp .ge 15, 3) := by decide +kernel
theorem dX7_mixTypes_68 : decode mX7_mixTypes.2.1 68 = .ok (.aload_n 0, 1) := by decide +kernel
theorem dX7_mixTypes_69 : decode mX7_mixTypes.2.1 69 = .ok (.iload_n 1, 1) := by decide +kernel
theorem dX7_mixTypes_70 : decode mX7_mixTypes.2.1 70 = .ok (.iload_n 2, 1) := by decide +kernel
theorem dX7_mixTypes_71 : decode mX7_mixTypes.2.1 71 = .ok (.invokevirtual 305, 3) := by decide +kernel
theorem dX7_mixTypes_74 : decode mX7_mixTypes.2.1 74 = .ok (.iinc 2 1, 3) := by decide +kernel
theorem dX7_mixTypes_77 : decode mX7_mixTypes.2.1 77 = .ok (.goto (-15), 3) := by decide +kernel
theorem dX7_mixTypes_80 : decode mX7_mixTypes.2.1 80 = .ok (.iinc 1 1, 3) := by decide +kernel
theorem dX7_mixTypes_83 : decode mX7_mixTypes.2.1 83 = .ok (.goto (-81), 3) := by decide +kernel
theorem dX7_mixTypes_86 : decode mX7_mixTypes.2.1 86 = .ok (.return_, 1) := by decide +kernel
theorem dX7_digest_0 : decode mX7_digest.2.1 0 = .ok (.aload_n 0, 1) := by decide +kernel
theorem dX7_digest_1 : decode mX7_digest.2.1 1 = .ok (.ldc2_w 308, 3) := by decide +kernel
theorem dX7_digest_4 : decode mX7_digest.2.1 4 = .ok (.putfield 297, 3) := by decide +kernel
theorem dX7_digest_7 : decode mX7_digest.2.1 7 = .ok (.aload_n 0, 1) := by decide +kernel
theorem dX7_digest_8 : decode mX7_digest.2.1 8 = .ok (.invokevirtual 310, 3) := by decide +kernel
theorem dX7_digest_11 : decode mX7_digest.2.1 11 = .ok (.aload_n 0, 1) := by decide +kernel
theorem dX7_digest_12 : decode mX7_digest.2.1 12 = .ok (.invokevirtual 280, 3) := by decide +kernel
theorem dX7_digest_15 : decode mX7_digest.2.1 15 = .ok (.iconst 0, 1) := by decide +kernel
theorem dX7_digest_16 : decode mX7_digest.2.1 16 = .ok (.istore_n 1, 1) := by decide +kernel
theorem dX7_digest_17 : decode mX7_digest.2.1 17 = .ok (.iload_n 1, 1) := by decide +kernel
theorem dX7_digest_18 : decode mX7_digest.2.1 18 = .ok (.aload_n 0, 1) := by decide +kernel
theorem dX7_digest_19 : decode mX7_digest.2.1 19 = .ok (.getfield 134, 3) := by decide +kernel
theorem dX7_digest_22 : decode mX7_digest.2.1 22 = .ok (.if_icmp .ge 56, 3) := by decide +kernel
theorem dX7_digest_25 : decode mX7_digest.2.1 25 = .ok (.aload_n 0, 1) := by decide +kernel
theorem dX7_digest_26 : decode mX7_digest.2.1 26 = .ok (.aload_n 0, 1) := by decide +kernel
theorem dX7_digest_27 : decode mX7_digest.2.1 27 = .ok (.iload_n 1, 1) := by decide +kernel
theorem dX7_digest_28 : decode mX7_digest.2.1 28 = .ok (.iconst 0, 1) := by decide +kernel
theorem dX7_digest_29 : decode mX7_digest.2.1 29 = .ok (.invokevirtual 182, 3) := by decide +kernel
theorem dX7_digest_32 : decode mX7_digest.2.1 32 = .ok (.i2l, 1) := by decide +kernel
theorem dX7_digest_33 : decode mX7_digest.2.1 33 = .ok (.invokevirtual 301, 3) := by decide +kernel
theorem dX7_digest_36 : decode mX7_digest.2.1 36 = .ok (.bipush 10, 2) := by decide +kernel
theorem dX7_digest_38 : decode mX7_digest.2.1 38 = .ok (.istore_n 2, 1) := by decide +kernel
theorem dX7_digest_39 : decode mX7_digest.2.1 39 = .ok (.iload_n 2, 1) := by decide +kernel
theorem dX7_digest_40 : decode mX7_digest.2.1 40 = .ok (.bipush 16, 2) := by decide +kernel
theorem dX7_digest_42 : decode mX7_digest.2.1 42 = .ok (.if_icmp .ge 20, 3) := by decide +kernel
theorem dX7_digest_45 : decode mX7_digest.2.1 45 = .ok (.aload_n 0, 1) := by decide +kernel
theorem dX7_digest_46 : decode mX7_digest.2.1 46 = .ok (.aload_n 0, 1) := by decide +kernel
theorem dX7_digest_47 : decode mX7_digest.2.1 47 = .ok (.iload_n 1, 1) := by decide +kernel
theorem dX7_digest_48 : decode mX7_digest.2.1 48 = .ok (.iload_n 2, 1) := by decide +kernel
theorem dX7_digest_49 : decode mX7_digest.2.1 49 = .ok (.invokevirtual 182, 3) := by decide +kernel
theorem dX7_digest_52 : decode mX7_digest.2.1 52 = .ok (.i2l, 1) := by decide +kernel
theorem dX7_digest_53 : decode mX7_digest.2.1 53 = .ok (.invokevirtual 301, 3) := by decide +kernel
theorem dX7_digest_56 : decode mX7_digest.2.1 56 = .ok (.iinc 2 1, 3) := by decide +kernel
theorem dX7_digest_59 : decode mX7_digest.2.1 59 = .ok (.goto (-20), 3) := by decide +kernel
theorem dX7_digest_62 : decode mX7_digest.2.1 62 = .ok (.aload_n 0, 1) := by decide +kernel
theorem dX7_digest_63 : decode mX7_digest.2.1 63 = .ok (.aload_n 0, 1) := by decide +kernel
theorem dX7_digest_64 : decode mX7_digest.2.1 64 = .ok (.iload_n 1, 1) := by decide +kernel
theorem dX7_digest_65 : decode mX7_digest.2.1 65 = .ok (.invokevirtual 283, 3) := by decide +kernel
theorem dX7_digest_68 : decode mX7_digest.2.1 68 = .ok (.i2l, 1) := by decide +kernel
theorem dX7_digest_69 : decode mX7_digest.2.1 69 = .ok (.invokevirtual 301, 3) := by decide +kernel
theorem dX7_digest_72 : decode mX7_digest.2.1 72 = .ok (.iinc 1 1, 3) := by decide +kernel
theorem dX7_digest_75 : decode mX7_digest.2.1 75 = .ok (.goto (-58), 3) := by decide +kernel
theorem dX7_digest_78 : decode mX7_digest.2.1 78 = .ok (.aload_n 0, 1) := by decide +kernel
theorem dX7_digest_79 : decode mX7_digest.2.1 79 = .ok (.invokevirtual 265, 3) := by decide +kernel
theorem dX7_digest_82 : decode mX7_digest.2.1 82 = .ok (.aload_n 0, 1) := by decide +kernel
theorem dX7_digest_83 : decode mX7_digest.2.1 83 = .ok (.aload_n 0, 1) := by decide +kernel
theorem dX7_digest_84 : decode mX7_digest.2.1 84 = .ok (.getfield 256, 3) := by decide +kernel
theorem dX7_digest_87 : decode mX7_digest.2.1 87 = .ok (.i2l, 1) := by decide +kernel
theorem dX7_digest_88 : decode mX7_digest.2.1 88 = .ok (.invokevirtual 301, 3) := by decide +kernel
theorem dX7_digest_91 : decode mX7_digest.2.1 91 = .ok (.aload_n 0, 1) := by decide +kernel
theorem dX7_digest_92 : decode mX7_digest.2.1 92 = .ok (.aload_n 0, 1) := by decide +kernel
theorem dX7_digest_93 : decode mX7_digest.2.1 93 = .ok (.getfield 259, 3) := by decide +kernel
theorem dX7_digest_96 : decode mX7_digest.2.1 96 = .ok (.i2l, 1) := by decide +kernel
theorem dX7_digest_97 : decode mX7_digest.2.1 97 = .ok (.invokevirtual 301, 3) := by decide +kernel
theorem dX7_digest_100 : decode mX7_digest.2.1 100 = .ok (.aload_n 0, 1) := by decide +kernel
theorem dX7_digest_101 : decode mX7_digest.2.1 101 = .ok (.aload_n 0, 1) := by decide +kernel
theorem dX7_digest_102 : decode mX7_digest.2.1 102 = .ok (.getfield 262, 3) := by decide +kernel
theorem dX7_digest_105 : decode mX7_digest.2.1 105 = .ok (.i2l, 1) := by decide +kernel
theorem dX7_digest_106 : decode mX7_digest.2.1 106 = .ok (.invokevirtual 301, 3) := by decide +kernel
theorem dX7_digest_109 : decode mX7_digest.2.1 109 = .ok (.iconst 0, 1) := by decide +kernel
theorem dX7_digest_110 : decode mX7_digest.2.1 110 = .ok (.istore_n 1, 1) := by decide +kernel
theorem dX7_digest_111 : decode mX7_digest.2.1 111 = .ok (.iload_n 1, 1) := by decide +kernel
theorem dX7_digest_112 : decode mX7_digest.2.1 112 = .ok (.iconst 3, 1) := by decide +kernel
theorem dX7_digest_113 : decode mX7_digest.2.1 113 = .ok (.aload_n 0, 1) := by decide +kernel
theorem dX7_digest_114 : decode mX7_digest.2.1 114 = .ok (.getfield 268, 3) := by decide +kernel
theorem dX7_digest_117 : decode mX7_digest.2.1 117 = .ok (.imul, 1) := by decide +kernel
theorem dX7_digest_118 : decode mX7_digest.2.1 118 = .ok (.if_icmp .ge 24, 3) := by decide +kernel
theorem dX7_digest_121 : decode mX7_digest.2.1 121 = .ok (.aload_n 0, 1) := by decide +kernel
theorem dX7_digest_122 : decode mX7_digest.2.1 122 = .ok (.aload_n 0, 1) := by decide +kernel
theorem dX7_digest_123 : decode mX7_digest.2.1 123 = .ok (.iload_n 1, 1) := by decide +kernel
theorem dX7_digest_124 : decode mX7_digest.2.1 124 = .ok (.iconst 3, 1) := by decide +kernel
theorem dX7_digest_125 : decode mX7_digest.2.1 125 = .ok (.idiv, 1) := by decide +kernel
theorem dX7_digest_126 : decode mX7_digest.2.1 126 = .ok (.iload_n 1, 1) := by decide +kernel
theorem dX7_digest_127 : decode mX7_digest.2.1 127 = .ok (.iconst 3, 1) := by decide +kernel
theorem dX7_digest_128 : decode mX7_digest.2.1 128 = .ok (.irem, 1) := by decide +kernel
theorem dX7_digest_129 : decode mX7_digest.2.1 129 = .ok (.invokevirtual 274, 3) := by decide +kernel
theorem dX7_digest_132 : decode mX7_digest.2.1 132 = .ok (.i2l, 1) := by decide +kernel
theorem dX7_digest_133 : decode mX7_digest.2.1 133 = .ok (.invokevirtual 301, 3) := by decide +kernel
theorem dX7_digest_136 : decode mX7_digest.2.1 136 = .ok (.iinc 1 1, 3) := by decide +kernel
theorem dX7_digest_139 : decode mX7_digest.2.1 139 = .ok (.goto (-28), 3) := by decide +kernel
theorem dX7_digest_142 : decode mX7_digest.2.1 142 = .ok (.iconst 0, 1) := by decide +kernel
theorem dX7_digest_143 : decode mX7_digest.2.1 143 = .ok (.istore_n 1, 1) := by decide +kernel
theorem dX7_digest_144 : decode mX7_digest.2.1 144 = .ok (.iload_n 1, 1) := by decide +kernel
theorem dX7_digest_145 : decode mX7_digest.2.1 145 = .ok (.aload_n 0, 1) := by decide +kernel
theorem dX7_digest_146 : decode mX7_digest.2.1 146 = .ok (.getfield 81, 3) := by decide +kernel
theorem dX7_digest_149 : decode mX7_digest.2.1 149 = .ok (.if_icmp .ge 20, 3) := by decide +kernel
theorem dX7_digest_152 : decode mX7_digest.2.1 152 = .ok (.aload_n 0, 1) := by decide +kernel
theorem dX7_digest_153 : decode mX7_digest.2.1 153 = .ok (.aload_n 0, 1) := by decide +kernel
theorem dX7_digest_154 : decode mX7_digest.2.1 154 = .ok (.getfield 7, 3) := by decide +kernel
theorem dX7_digest_157 : decode mX7_digest.2.1 157 = .ok (.iload_n 1, 1) := by decide +kernel
theorem dX7_digest_158 : decode mX7_digest.2.1 158 = .ok (.iaload, 1) := by decide +kernel
theorem dX7_digest_159 : decode mX7_digest.2.1 159 = .ok (.i2l, 1) := by decide +kernel
theorem dX7_digest_160 : decode mX7_digest.2.1 160 = .ok (.invokevirtual 301, 3) := by decide +kernel
theorem dX7_digest_163 : decode mX7_digest.2.1 163 = .ok (.iinc 1 1, 3) := by decide +kernel
theorem dX7_digest_166 : decode mX7_digest.2.1 166 = .ok (.goto (-22), 3) := by decide +kernel
theorem dX7_digest_169 : decode mX7_digest.2.1 169 = .ok (.iconst 0, 1) := by decide +kernel
theorem dX7_digest_170 : decode mX7_digest.2.1 170 = .ok (.istore_n 1, 1) := by decide +kernel
theorem dX7_digest_171 : decode mX7_digest.2.1 171 = .ok (.iload_n 1, 1) := by decide +kernel
theorem dX7_digest_172 : decode mX7_digest.2.1 172 = .ok (.bipush 9, 2) := by decide +kernel
theorem dX7_digest_174 : decode mX7_digest.2.1 174 = .ok (.if_icmp .ge 19, 3) := by decide +kernel
theorem dX7_digest_177 : decode mX7_digest.2.1 177 = .ok (.aload_n 0, 1) := by decide +kernel
theorem dX7_digest_178 : decode mX7_digest.2.1 178 = .ok (.aload_n 0, 1) := by decide +kernel
theorem dX7_digest_179 : decode mX7_digest.2.1 179 = .ok (.iload_n 1, 1) := by decide +kernel
theorem dX7_digest_180 : decode mX7_digest.2.1 180 = .ok (.invokevirtual 292, 3) := by decide +kernel
theorem dX7_digest_183 : decode mX7_digest.2.1 183 = .ok (.i2l, 1) := by decide +kernel
theorem dX7_digest_184 : decode mX7_digest.2.1 184 = .ok (.invokevirtual 301, 3) := by decide +kernel
theorem dX7_digest_187 : decode mX7_digest.2.1 187 = .ok (.iinc 1 1, 3) := by decide +kernel
theorem dX7_digest_190 : decode mX7_digest.2.1 190 = .ok (.goto (-19), 3) := by decide +kernel
theorem dX7_digest_193 : decode mX7_digest.2.1 193 = .ok (.aload_n 0, 1) := by decide +kernel
theorem dX7_digest_194 : decode mX7_digest.2.1 194 = .ok (.getfield 297, 3) := by decide +kernel
theorem dX7_digest_197 : decode mX7_digest.2.1 197 = .ok (.lreturn, 1) := by decide +kernel
end
section
theorem dL_law_0 : decode code 0 = .ok (.new 7, 3) := by decide +kernel
theorem dL_law_3 : decode code 3 = .ok (.dup, 1) := by decide +kernel
theorem dL_law_4 : decode code 4 = .ok (.invokespecial 9, 3) := by decide +kernel
theorem dL_law_7 : decode code 7 = .ok (.astore_n 1, 1) := by decide +kernel
theorem dL_law_8 : decode code 8 = .ok (.new 10, 3) := by decide +kernel
theorem dL_law_11 : decode code 11 = .ok (.dup, 1) := by decide +kernel
theorem dL_law_12 : decode code 12 = .ok (.invokespecial 12, 3) := by decide +kernel
theorem dL_law_15 : decode code 15 = .ok (.astore_n 2, 1) := by decide +kernel
theorem dL_law_16 : decode code 16 = .ok (.iconst 0, 1) := by decide +kernel
theorem dL_law_17 : decode code 17 = .ok (.istore_n 3, 1) := by decide +kernel
theorem dL_law_18 : decode code 18 = .ok (.iload_n 3, 1) := by decide +kernel
theorem dL_law_19 : decode code 19 = .ok (.aload_n 0, 1) := by decide +kernel
theorem dL_law_20 : decode code 20 = .ok (.arraylength, 1) := by decide +kernel
theorem dL_law_21 : decode code 21 = .ok (.iconst 5, 1) := by decide +kernel
theorem dL_law_22 : decode code 22 = .ok (.isub, 1) := by decide +kernel
theorem dL_law_23 : decode code 23 = .ok (.if_icmp .gt 837, 3) := by decide +kernel
theorem dL_law_26 : decode code 26 = .ok (.aload_n 0, 1) := by decide +kernel
theorem dL_law_27 : decode code 27 = .ok (.iload_n 3, 1) := by decide +kernel
theorem dL_law_28 : decode code 28 = .ok (.iaload, 1) := by decide +kernel
theorem dL_law_29 : decode code 29 = .ok (.bipush 31, 2) := by decide +kernel
theorem dL_law_31 : decode code 31 = .ok (.iand, 1) := by decide +kernel
theorem dL_law_32 : decode code 32 = .ok (.tableswitch 822 0 22 #[108, 131, 144, 157, 170, 183, 232, 265, 298, 341, 374, 417, 470, 529, 588, 647, 660, 683, 706, 739, 762, 785, 808], 108) := by decide +kernel
theorem dL_law_140 : decode code 140 = .ok (.aload_n 1, 1) := by decide +kernel
theorem dL_law_141 : decode code 141 = .ok (.aload_n 0, 1) := by decide +kernel
theorem dL_law_142 : decode code 142 = .ok (.iload_n 3, 1) := by decide +kernel
theorem dL_law_143 : decode code 143 = .ok (.iconst 1, 1) := by decide +kernel
theorem dL_law_144 : decode code 144 = .ok (.iadd, 1) := by decide +kernel
theorem dL_law_145 : decode code 145 = .ok (.iaload, 1) := by decide +kernel
theorem dL_law_146 : decode code 146 = .ok (.invokevirtual 13, 3) := by decide +kernel
theorem dL_law_149 : decode code 149 = .ok (.aload_n 2, 1) := by decide +kernel
theorem dL_law_150 : decode code 150 = .ok (.aload_n 0, 1) := by decide +kernel
theorem dL_law_151 : decode code 151 = .ok (.iload_n 3, 1) := by decide +kernel
theorem dL_law_152 : decode code 152 = .ok (.iconst 1, 1) := by decide +kernel
theorem dL_law_153 : decode code 153 = .ok (.iadd, 1) := by decide +kernel
theorem dL_law_154 : decode code 154 = .ok (.iaload, 1) := by decide +kernel
theorem dL_law_155 : decode code 155 = .ok (.invokevirtual 17, 3) := by decide +kernel
theorem dL_law_158 : decode code 158 = .ok (.if_icmp .eq 696, 3) := by decide +kernel
theorem dL_law_161 : decode code 161 = .ok (.iconst 0, 1) := by decide +kernel
theorem dL_law_162 : decode code 162 = .ok (.ireturn, 1) := by decide +kernel
theorem dL_law_163 : decode code 163 = .ok (.aload_n 1, 1) := by decide +kernel
theorem dL_law_164 : decode code 164 = .ok (.invokevirtual 18, 3) := by decide +kernel
theorem dL_law_167 : decode code 167 = .ok (.aload_n 2, 1) := by decide +kernel
theorem dL_law_168 : decode code 168 = .ok (.invokevirtual 22, 3) := by decide +kernel
theorem dL_law_171 : decode code 171 = .ok (.if_icmp .eq 683, 3) := by decide +kernel
theorem dL_law_174 : decode code 174 = .ok (.iconst 0, 1) := by decide +kernel
theorem dL_law_175 : decode code 175 = .ok (.ireturn, 1) := by decide +kernel
theorem dL_law_176 : decode code 176 = .ok (.aload_n 1, 1) := by decide +kernel
theorem dL_law_177 : decode code 177 = .ok (.invokevirtual 23, 3) := by decide +kernel
theorem dL_law_180 : decode code 180 = .ok (.aload_n 2, 1) := by decide +kernel
theorem dL_law_181 : decode code 181 = .ok (.invokevirtual 26, 3) := by decide +kernel
theorem dL_law_184 : decode code 184 = .ok (.if_icmp .eq 670, 3) := by decide +kernel
theorem dL_law_187 : decode code 187 = .ok (.iconst 0, 1) := by decide +kernel
theorem dL_law_188 : decode code 188 = .ok (.ireturn, 1) := by decide +kernel
theorem dL_law_189 : decode code 189 = .ok (.aload_n 1, 1) := by decide +kernel
theorem dL_law_190 : decode code 190 = .ok (.invokevirtual 27, 3) := by decide +kernel
theorem dL_law_193 : decode code 193 = .ok (.aload_n 2, 1) := by decide +kernel
theorem dL_law_194 : decode code 194 = .ok (.invokevirtual 30, 3) := by decide +kernel
theorem dL_law_197 : decode code 197 = .ok (.if_icmp .eq 657, 3) := by decide +kernel
theorem dL_law_200 : decode code 200 = .ok (.iconst 0, 1) := by decide +kernel
theorem dL_law_201 : decode code 201 = .ok (.ireturn, 1) := by decide +kernel
theorem dL_law_202 : decode code 202 = .ok (.aload_n 1, 1) := by decide +kernel
theorem dL_law_203 : decode code 203 = .ok (.invokevirtual 31, 3) := by decide +kernel
theorem dL_law_206 : decode code 206 = .ok (.aload_n 2, 1) := by decide +kernel
theorem dL_law_207 : decode code 207 = .ok (.invokevirtual 34, 3) := by decide +kernel
theorem dL_law_210 : decode code 210 = .ok (.if_icmp .eq 644, 3) := by decide +kernel
theorem dL_law_213 : decode code 213 = .ok (.iconst 0, 1) := by decide +kernel
theorem dL_law_214 : decode code 214 = .ok (.ireturn, 1) := by decide +kernel
theorem dL_law_215 : decode code 215 = .ok (.aload_n 1, 1) := by decide +kernel
theorem dL_law_216 : decode code 216 = .ok (.aload_n 0, 1) := by decide +kernel
theorem dL_law_217 : decode code 217 = .ok (.iload_n 3, 1) := by decide +kernel
theorem dL_law_218 : decode code 218 = .ok (.iconst 1, 1) := by decide +kernel
theorem dL_law_219 : decode code 219 = .ok (.iadd, 1) := by decide +kernel
theorem dL_law_220 : decode code 220 = .ok (.iaload, 1) := by decide +kernel
theorem dL_law_221 : decode code 221 = .ok (.aload_n 0, 1) := by decide +kernel
theorem dL_law_222 : decode code 222 = .ok (.iload_n 3, 1) := by decide +kernel
theorem dL_law_223 : decode code 223 = .ok (.iconst 2, 1) := by decide +kernel
theorem dL_law_224 : decode code 224 = .ok (.iadd, 1) := by decide +kernel
theorem dL_law_225 : decode code 225 = .ok (.iaload, 1) := by decide +kernel
theorem dL_law_226 : decode code 226 = .ok (.ifCond .eq 7, 3) := by decide +kernel
theorem dL_law_229 : decode code 229 = .ok (.iconst 1, 1) := by decide +kernel
theorem dL_law_230 : decode code 230 = .ok (.goto 4, 3) := by decide +kernel
theorem dL_law_233 : decode code 233 = .ok (.iconst 0, 1) := by decide +kernel
theorem dL_law_234 : decode code 234 = .ok (.invokevirtual 35, 3) := by decide +kernel
theorem dL_law_237 : decode code 237 = .ok (.aload_n 2, 1) := by decide +kernel
theorem dL_law_238 : decode code 238 = .ok (.aload_n 0, 1) := by decide +kernel
theorem dL_law_239 : decode code 239 = .ok (.iload_n 3, 1) := by decide +kernel
theorem dL_law_240 : decode code 240 = .ok (.iconst 1, 1) := by decide +kernel
theorem dL_law_241 : decode code 241 = .ok (.iadd, 1) := by decide +kernel
theorem dL_law_242 : decode code 242 = .ok (.iaload, 1) := by decide +kernel
theorem dL_law_243 : decode code 243 = .ok (.aload_n 0, 1) := by decide +kernel
theorem dL_law_244 : decode code 244 = .ok (.iload_n 3, 1) := by decide +kernel
theorem dL_law_245 : decode code 245 = .ok (.iconst 2, 1) := by decide +kernel
theorem dL_law_246 : decode code 246 = .ok (.iadd, 1) := by decide +kernel
theorem dL_law_247 : decode code 247 = .ok (.iaload, 1) := by decide +kernel
theorem dL_law_248 : decode code 248 = .ok (.ifCond .eq 7, 3) := by decide +kernel
theorem dL_law_251 : decode code 251 = .ok (.iconst 1, 1) := by decide +kernel
theorem dL_law_252 : decode code 252 = .ok (.goto 4, 3) := by decide +kernel
theorem dL_law_255 : decode code 255 = .ok (.iconst 0, 1) := by decide +kernel
theorem dL_law_256 : decode code 256 = .ok (.invokevirtual 39, 3) := by decide +kernel
theorem dL_law_259 : decode code 259 = .ok (.if_icmp .eq 595, 3) := by decide +kernel
theorem dL_law_262 : decode code 262 = .ok (.iconst 0, 1) := by decide +kernel
theorem dL_law_263 : decode code 263 = .ok (.ireturn, 1) := by decide +kernel
theorem dL_law_264 : decode code 264 = .ok (.aload_n 1, 1) := by decide +kernel
theorem dL_law_265 : decode code 265 = .ok (.aload_n 0, 1) := by decide +kernel
theorem dL_law_266 : decode code 266 = .ok (.iload_n 3, 1) := by decide +kernel
theorem dL_law_267 : decode code 267 = .ok (.iconst 1, 1) := by decide +kernel
theorem dL_law_268 : decode code 268 = .ok (.iadd, 1) := by decide +kernel
theorem dL_law_269 : decode code 269 = .ok (.iaload, 1) := by decide +kernel
theorem dL_law_270 : decode code 270 = .ok (.aload_n 0, 1) := by decide +kernel
theorem dL_law_271 : decode code 271 = .ok (.iload_n 3, 1) := by decide +kernel
theorem dL_law_272 : decode code 272 = .ok (.iconst 2, 1) := by decide +kernel
theorem dL_law_273 : decode code 273 = .ok (.iadd, 1) := by decide +kernel
theorem dL_law_274 : decode code 274 = .ok (.iaload, 1) := by decide +kernel
theorem dL_law_275 : decode code 275 = .ok (.invokevirtual 40, 3) := by decide +kernel
theorem dL_law_278 : decode code 278 = .ok (.aload_n 2, 1) := by decide +kernel
theorem dL_law_279 : decode code 279 = .ok (.aload_n 0, 1) := by decide +kernel
theorem dL_law_280 : decode code 280 = .ok (.iload_n 3, 1) := by decide +kernel
theorem dL_law_281 : decode code 281 = .ok (.iconst 1, 1) := by decide +kernel
theorem dL_law_282 : decode code 282 = .ok (.iadd, 1) := by decide +kernel
theorem dL_law_283 : decode code 283 = .ok (.iaload, 1) := by decide +kernel
theorem dL_law_284 : decode code 284 = .ok (.aload_n 0, 1) := by decide +kernel
theorem dL_law_285 : decode code 285 = .ok (.iload_n 3, 1) := by decide +kernel
theorem dL_law_286 : decode code 286 = .ok (.iconst 2, 1) := by decide +kernel
theorem dL_law_287 : decode code 287 = .ok (.iadd, 1) := by decide +kernel
theorem dL_law_288 : decode code 288 = .ok (.iaload, 1) := by decide +kernel
theorem dL_law_289 : decode code 289 = .ok (.invokevirtual 44, 3) := by decide +kernel
theorem dL_law_292 : decode code 292 = .ok (.if_icmp .eq 562, 3) := by decide +kernel
theorem dL_law_295 : decode code 295 = .ok (.iconst 0, 1) := by decide +kernel
theorem dL_law_296 : decode code 296 = .ok (.ireturn, 1) := by decide +kernel
theorem dL_law_297 : decode code 297 = .ok (.aload_n 1, 1) := by decide +kernel
theorem dL_law_298 : decode code 298 = .ok (.aload_n 0, 1) := by decide +kernel
theorem dL_law_299 : decode code 299 = .ok (.iload_n 3, 1) := by decide +kernel
theorem dL_law_300 : decode code 300 = .ok (.iconst 1, 1) := by decide +kernel
theorem dL_law_301 : decode code 301 = .ok (.iadd, 1) := by decide +kernel
theorem dL_law_302 : decode code 302 = .ok (.iaload, 1) := by decide +kernel
theorem dL_law_303 : decode code 303 = .ok (.aload_n 0, 1) := by decide +kernel
theorem dL_law_304 : decode code 304 = .ok (.iload_n 3, 1) := by decide +kernel
theorem dL_law_305 : decode code 305 = .ok (.iconst 2, 1) := by decide +kernel
theorem dL_law_306 : decode code 306 = .ok (.iadd, 1) := by decide +kernel
theorem dL_law_307 : decode code 307 = .ok (.iaload, 1) := by decide +kernel
theorem dL_law_308 : decode code 308 = .ok (.invokevirtual 45, 3) := by decide +kernel
theorem dL_law_311 : decode code 311 = .ok (.aload_n 2, 1) := by decide +kernel
theorem dL_law_312 : decode code 312 = .ok (.aload_n 0, 1) := by decide +kernel
theorem dL_law_313 : decode code 313 = .ok (.iload_n 3, 1) := by decide +kernel
theorem dL_law_314 : decode code 314 = .ok (.iconst 1, 1) := by decide +kernel
theorem dL_law_315 : decode code 315 = .ok (.iadd, 1) := by decide +kernel
theorem dL_law_316 : decode code 316 = .ok (.iaload, 1) := by decide +kernel
theorem dL_law_317 : decode code 317 = .ok (.aload_n 0, 1) := by decide +kernel
theorem dL_law_318 : decode code 318 = .ok (.iload_n 3, 1) := by decide +kernel
theorem dL_law_319 : decode code 319 = .ok (.iconst 2, 1) := by decide +kernel
theorem dL_law_320 : decode code 320 = .ok (.iadd, 1) := by decide +kernel
theorem dL_law_321 : decode code 321 = .ok (.iaload, 1) := by decide +kernel
theorem dL_law_322 : decode code 322 = .ok (.invokevirtual 48, 3) := by decide +kernel
theorem dL_law_325 : decode code 325 = .ok (.if_icmp .eq 529, 3) := by decide +kernel
theorem dL_law_328 : decode code 328 = .ok (.iconst 0, 1) := by decide +kernel
theorem dL_law_329 : decode code 329 = .ok (.ireturn, 1) := by decide +kernel
theorem dL_law_330 : decode code 330 = .ok (.aload_n 1, 1) := by decide +kernel
theorem dL_law_331 : decode code 331 = .ok (.aload_n 0, 1) := by decide +kernel
theorem dL_law_332 : decode code 332 = .ok (.iload_n 3, 1) := by decide +kernel
theorem dL_law_333 : decode code 333 = .ok (.iconst 1, 1) := by decide +kernel
theorem dL_law_334 : decode code 334 = .ok (.iadd, 1) := by decide +kernel
theorem dL_law_335 : decode code 335 = .ok (.iaload, 1) := by decide +kernel
theorem dL_law_336 : decode code 336 = .ok (.aload_n 0, 1) := by decide +kernel
theorem dL_law_337 : decode code 337 = .ok (.iload_n 3, 1) := by decide +kernel
theorem dL_law_338 : decode code 338 = .ok (.iconst 2, 1) := by decide +kernel
theorem dL_law_339 : decode code 339 = .ok (.iadd, 1) := by decide +kernel
theorem dL_law_340 : decode code 340 = .ok (.iaload, 1) := by decide +kernel
theorem dL_law_341 : decode code 341 = .ok (.aload_n 0, 1) := by decide +kernel
theorem dL_law_342 : decode code 342 = .ok (.iload_n 3, 1) := by decide +kernel
theorem dL_law_343 : decode code 343 = .ok (.iconst 3, 1) := by decide +kernel
theorem dL_law_344 : decode code 344 = .ok (.iadd, 1) := by decide +kernel
theorem dL_law_345 : decode code 345 = .ok (.iaload, 1) := by decide +kernel
theorem dL_law_346 : decode code 346 = .ok (.invokevirtual 49, 3) := by decide +kernel
theorem dL_law_349 : decode code 349 = .ok (.aload_n 2, 1) := by decide +kernel
theorem dL_law_350 : decode code 350 = .ok (.aload_n 0, 1) := by decide +kernel
theorem dL_law_351 : decode code 351 = .ok (.iload_n 3, 1) := by decide +kernel
theorem dL_law_352 : decode code 352 = .ok (.iconst 1, 1) := by decide +kernel
theorem dL_law_353 : decode code 353 = .ok (.iadd, 1) := by decide +kernel
theorem dL_law_354 : decode code 354 = .ok (.iaload, 1) := by decide +kernel
theorem dL_law_355 : decode code 355 = .ok (.aload_n 0, 1) := by decide +kernel
theorem dL_law_356 : decode code 356 = .ok (.iload_n 3, 1) := by decide +kernel
theorem dL_law_357 : decode code 357 = .ok (.iconst 2, 1) := by decide +kernel
theorem dL_law_358 : decode code 358 = .ok (.iadd, 1) := by decide +kernel
theorem dL_law_359 : decode code 359 = .ok (.iaload, 1) := by decide +kernel
theorem dL_law_360 : decode code 360 = .ok (.aload_n 0, 1) := by decide +kernel
theorem dL_law_361 : decode code 361 = .ok (.iload_n 3, 1) := by decide +kernel
theorem dL_law_362 : decode code 362 = .ok (.iconst 3, 1) := by decide +kernel
theorem dL_law_363 : decode code 363 = .ok (.iadd, 1) := by decide +kernel
theorem dL_law_364 : decode code 364 = .ok (.iaload, 1) := by decide +kernel
theorem dL_law_365 : decode code 365 = .ok (.invokevirtual 53, 3) := by decide +kernel
theorem dL_law_368 : decode code 368 = .ok (.if_icmp .eq 486, 3) := by decide +kernel
theorem dL_law_371 : decode code 371 = .ok (.iconst 0, 1) := by decide +kernel
theorem dL_law_372 : decode code 372 = .ok (.ireturn, 1) := by decide +kernel
theorem dL_law_373 : decode code 373 = .ok (.aload_n 1, 1) := by decide +kernel
theorem dL_law_374 : decode code 374 = .ok (.aload_n 0, 1) := by decide +kernel
theorem dL_law_375 : decode code 375 = .ok (.iload_n 3, 1) := by decide +kernel
theorem dL_law_376 : decode code 376 = .ok (.iconst 1, 1) := by decide +kernel
theorem dL_law_377 : decode code 377 = .ok (.iadd, 1) := by decide +kernel
theorem dL_law_378 : decode code 378 = .ok (.iaload, 1) := by decide +kernel
theorem dL_law_379 : decode code 379 = .ok (.aload_n 0, 1) := by decide +kernel
theorem dL_law_380 : decode code 380 = .ok (.iload_n 3, 1) := by decide +kernel
theorem dL_law_381 : decode code 381 = .ok (.iconst 2, 1) := by decide +kernel
theorem dL_law_382 : decode code 382 = .ok (.iadd, 1) := by decide +kernel
theorem dL_law_383 : decode code 383 = .ok (.iaload, 1) := by decide +kernel
theorem dL_law_384 : decode code 384 = .ok (.invokevirtual 54, 3) := by decide +kernel
theorem dL_law_387 : decode code 387 = .ok (.aload_n 2, 1) := by decide +kernel
theorem dL_law_388 : decode code 388 = .ok (.aload_n 0, 1) := by decide +kernel
theorem dL_law_389 : decode code 389 = .ok (.iload_n 3, 1) := by decide +kernel
theorem dL_law_390 : decode code 390 = .ok (.iconst 1, 1) := by decide +kernel
theorem dL_law_391 : decode code 391 = .ok (.iadd, 1) := by decide +kernel
theorem dL_law_392 : decode code 392 = .ok (.iaload, 1) := by decide +kernel
theorem dL_law_393 : decode code 393 = .ok (.aload_n 0, 1) := by decide +kernel
theorem dL_law_394 : decode code 394 = .ok (.iload_n 3, 1) := by decide +kernel
theorem dL_law_395 : decode code 395 = .ok (.iconst 2, 1) := by decide +kernel
theorem dL_law_396 : decode code 396 = .ok (.iadd, 1) := by decide +kernel
theorem dL_law_397 : decode code 397 = .ok (.iaload, 1) := by decide +kernel
theorem dL_law_398 : decode code 398 = .ok (.invokevirtual 57, 3) := by decide +kernel
theorem dL_law_401 : decode code 401 = .ok (.if_icmp .eq 453, 3) := by decide +kernel
theorem dL_law_404 : decode code 404 = .ok (.iconst 0, 1) := by decide +kernel
theorem dL_law_405 : decode code 405 = .ok (.ireturn, 1) := by decide +kernel
theorem dL_law_406 : decode code 406 = .ok (.aload_n 1, 1) := by decide +kernel
theorem dL_law_407 : decode code 407 = .ok (.aload_n 0, 1) := by decide +kernel
theorem dL_law_408 : decode code 408 = .ok (.iload_n 3, 1) := by decide +kernel
theorem dL_law_409 : decode code 409 = .ok (.iconst 1, 1) := by decide +kernel
theorem dL_law_410 : decode code 410 = .ok (.iadd, 1) := by decide +kernel
theorem dL_law_411 : decode code 411 = .ok (.iaload, 1) := by decide +kernel
theorem dL_law_412 : decode code 412 = .ok (.aload_n 0, 1) := by decide +kernel
theorem dL_law_413 : decode code 413 = .ok (.iload_n 3, 1) := by decide +kernel
theorem dL_law_414 : decode code 414 = .ok (.iconst 2, 1) := by decide +kernel
theorem dL_law_415 : decode code 415 = .ok (.iadd, 1) := by decide +kernel
theorem dL_law_416 : decode code 416 = .ok (.iaload, 1) := by decide +kernel
theorem dL_law_417 : decode code 417 = .ok (.aload_n 0, 1) := by decide +kernel
theorem dL_law_418 : decode code 418 = .ok (.iload_n 3, 1) := by decide +kernel
theorem dL_law_419 : decode code 419 = .ok (.iconst 3, 1) := by decide +kernel
theorem dL_law_420 : decode code 420 = .ok (.iadd, 1) := by decide +kernel
theorem dL_law_421 : decode code 421 = .ok (.iaload, 1) := by decide +kernel
theorem dL_law_422 : decode code 422 = .ok (.invokevirtual 58, 3) := by decide +kernel
theorem dL_law_425 : decode code 425 = .ok (.aload_n 2, 1) := by decide +kernel
theorem dL_law_426 : decode code 426 = .ok (.aload_n 0, 1) := by decide +kernel
theorem dL_law_427 : decode code 427 = .ok (.iload_n 3, 1) := by decide +kernel
theorem dL_law_428 : decode code 428 = .ok (.iconst 1, 1) := by decide +kernel
theorem dL_law_429 : decode code 429 = .ok (.iadd, 1) := by decide +kernel
theorem dL_law_430 : decode code 430 = .ok (.iaload, 1) := by decide +kernel
theorem dL_law_431 : decode code 431 = .ok (.aload_n 0, 1) := by decide +kernel
theorem dL_law_432 : decode code 432 = .ok (.iload_n 3, 1) := by decide +kernel
theorem dL_law_433 : decode code 433 = .ok (.iconst 2, 1) := by decide +kernel
theorem dL_law_434 : decode code 434 = .ok (.iadd, 1) := by decide +kernel
theorem dL_law_435 : decode code 435 = .ok (.iaload, 1) := by decide +kernel
theorem dL_law_436 : decode code 436 = .ok (.aload_n 0, 1) := by decide +kernel
theorem dL_law_437 : decode code 437 = .ok (.iload_n 3, 1) := by decide +kernel
theorem dL_law_438 : decode code 438 = .ok (.iconst 3, 1) := by decide +kernel
theorem dL_law_439 : decode code 439 = .ok (.iadd, 1) := by decide +kernel
theorem dL_law_440 : decode code 440 = .ok (.iaload, 1) := by decide +kernel
theorem dL_law_441 : decode code 441 = .ok (.invokevirtual 61, 3) := by decide +kernel
theorem dL_law_444 : decode code 444 = .ok (.if_icmp .eq 410, 3) := by decide +kernel
theorem dL_law_447 : decode code 447 = .ok (.iconst 0, 1) := by decide +kernel
theorem dL_law_448 : decode code 448 = .ok (.ireturn, 1) := by decide +kernel
theorem dL_law_449 : decode code 449 = .ok (.aload_n 1, 1) := by decide +kernel
theorem dL_law_450 : decode code 450 = .ok (.aload_n 0, 1) := by decide +kernel
theorem dL_law_451 : decode code 451 = .ok (.iload_n 3, 1) := by decide +kernel
theorem dL_law_452 : decode code 452 = .ok (.iconst 1, 1) := by decide +kernel
theorem dL_law_453 : decode code 453 = .ok (.iadd, 1) := by decide +kernel
theorem dL_law_454 : decode code 454 = .ok (.iaload, 1) := by decide +kernel
theorem dL_law_455 : decode code 455 = .ok (.aload_n 0, 1) := by decide +kernel
theorem dL_law_456 : decode code 456 = .ok (.iload_n 3, 1) := by decide +kernel
theorem dL_law_457 : decode code 457 = .ok (.iconst 2, 1) := by decide +kernel
theorem dL_law_458 : decode code 458 = .ok (.iadd, 1) := by decide +kernel
theorem dL_law_459 : decode code 459 = .ok (.iaload, 1) := by decide +kernel
theorem dL_law_460 : decode code 460 = .ok (.aload_n 0, 1) := by decide +kernel
theorem dL_law_461 : decode code 461 = .ok (.iload_n 3, 1) := by decide +kernel
theorem dL_law_462 : decode code 462 = .ok (.iconst 3, 1) := by decide +kernel
theorem dL_law_463 : decode code 463 = .ok (.iadd, 1) := by decide +kernel
theorem dL_law_464 : decode code 464 = .ok (.iaload, 1) := by decide +kernel
theorem dL_law_465 : decode code 465 = .ok (.aload_n 0, 1) := by decide +kernel
theorem dL_law_466 : decode code 466 = .ok (.iload_n 3, 1) := by decide +kernel
theorem dL_law_467 : decode code 467 = .ok (.iconst 4, 1) := by decide +kernel
theorem dL_law_468 : decode code 468 = .ok (.iadd, 1) := by decide +kernel
theorem dL_law_469 : decode code 469 = .ok (.iaload, 1) := by decide +kernel
theorem dL_law_470 : decode code 470 = .ok (.invokevirtual 62, 3) := by decide +kernel
theorem dL_law_473 : decode code 473 = .ok (.aload_n 2, 1) := by decide +kernel
theorem dL_law_474 : decode code 474 = .ok (.aload_n 0, 1) := by decide +kernel
theorem dL_law_475 : decode code 475 = .ok (.iload_n 3, 1) := by decide +kernel
theorem dL_law_476 : decode code 476 = .ok (.iconst 1, 1) := by decide +kernel
theorem dL_law_477 : decode code 477 = .ok (.iadd, 1) := by decide +kernel
theorem dL_law_478 : decode code 478 = .ok (.iaload, 1) := by decide +kernel
theorem dL_law_479 : decode code 479 = .ok (.aload_n 0, 1) := by decide +kernel
theorem dL_law_480 : decode code 480 = .ok (.iload_n 3, 1) := by decide +kernel
theorem dL_law_481 : decode code 481 = .ok (.iconst 2, 1) := by decide +kernel
theorem dL_law_482 : decode code 482 = .ok (.iadd, 1) := by decide +kernel
theorem dL_law_483 : decode code 483 = .ok (.iaload, 1) := by decide +kernel
theorem dL_law_484 : decode code 484 = .ok (.aload_n 0, 1) := by decide +kernel
theorem dL_law_485 : decode code 485 = .ok (.iload_n 3, 1) := by decide +kernel
theorem dL_law_486 : decode code 486 = .ok (.iconst 3, 1) := by decide +kernel
theorem dL_law_487 : decode code 487 = .ok (.iadd, 1) := by decide +kernel
theorem dL_law_488 : decode code 488 = .ok (.iaload, 1) := by decide +kernel
theorem dL_law_489 : decode code 489 = .ok (.aload_n 0, 1) := by decide +kernel
theorem dL_law_490 : decode code 490 = .ok (.iload_n 3, 1) := by decide +kernel
theorem dL_law_491 : decode code 491 = .ok (.iconst 4, 1) := by decide +kernel
theorem dL_law_492 : decode code 492 = .ok (.iadd, 1) := by decide +kernel
theorem dL_law_493 : decode code 493 = .ok (.iaload, 1) := by decide +kernel
theorem dL_law_494 : decode code 494 = .ok (.invokevirtual 66, 3) := by decide +kernel
theorem dL_law_497 : decode code 497 = .ok (.if_icmp .eq 357, 3) := by decide +kernel
theorem dL_law_500 : decode code 500 = .ok (.iconst 0, 1) := by decide +kernel
theorem dL_law_501 : decode code 501 = .ok (.ireturn, 1) := by decide +kernel
theorem dL_law_502 : decode code 502 = .ok (.aload_n 1, 1) := by decide +kernel
theorem dL_law_503 : decode code 503 = .ok (.aload_n 0, 1) := by decide +kernel
theorem dL_law_504 : decode code 504 = .ok (.iload_n 3, 1) := by decide +kernel
theorem dL_law_505 : decode code 505 = .ok (.iconst 1, 1) := by decide +kernel
theorem dL_law_506 : decode code 506 = .ok (.iadd, 1) := by decide +kernel
theorem dL_law_507 : decode code 507 = .ok (.iaload, 1) := by decide +kernel
theorem dL_law_508 : decode code 508 = .ok (.aload_n 0, 1) := by decide +kernel
theorem dL_law_509 : decode code 509 = .ok (.iload_n 3, 1) := by decide +kernel
theorem dL_law_510 : decode code 510 = .ok (.iconst 2, 1) := by decide +kernel
theorem dL_law_511 : decode code 511 = .ok (.iadd, 1) := by decide +kernel
theorem dL_law_512 : decode code 512 = .ok (.iaload, 1) := by decide +kernel
theorem dL_law_513 : decode code 513 = .ok (.aload_n 0, 1) := by decide +kernel
theorem dL_law_514 : decode code 514 = .ok (.iload_n 3, 1) := by decide +kernel
theorem dL_law_515 : decode code 515 = .ok (.iconst 3, 1) := by decide +kernel
theorem dL_law_516 : decode code 516 = .ok (.iadd, 1) := by decide +kernel
theorem dL_law_517 : decode code 517 = .ok (.iaload, 1) := by decide +kernel
theorem dL_law_518 : decode code 518 = .ok (.ifCond .eq 7, 3) := by decide +kernel
theorem dL_law_521 : decode code 521 = .ok (.iconst 1, 1) := by decide +kernel
theorem dL_law_522 : decode code 522 = .ok (.goto 4, 3) := by decide +kernel
theorem dL_law_525 : decode code 525 = .ok (.iconst 0, 1) := by decide +kernel
theorem dL_law_526 : decode code 526 = .ok (.invokevirtual 67, 3) := by decide +kernel
theorem dL_law_529 : decode code 529 = .ok (.aload_n 2, 1) := by decide +kernel
theorem dL_law_530 : decode code 530 = .ok (.aload_n 0, 1) := by decide +kernel
theorem dL_law_531 : decode code 531 = .ok (.iload_n 3, 1) := by decide +kernel
theorem dL_law_532 : decode code 532 = .ok (.iconst 1, 1) := by decide +kernel
theorem dL_law_533 : decode code 533 = .ok (.iadd, 1) := by decide +kernel
theorem dL_law_534 : decode code 534 = .ok (.iaload, 1) := by decide +kernel
theorem dL_law_535 : decode code 535 = .ok (.aload_n 0, 1) := by decide +kernel
theorem dL_law_536 : decode code 536 = .ok (.iload_n 3, 1) := by decide +kernel
theorem dL_law_537 : decode code 537 = .ok (.iconst 2, 1) := by decide +kernel
theorem dL_law_538 : decode code 538 = .ok (.iadd, 1) := by decide +kernel
theorem dL_law_539 : decode code 539 = .ok (.iaload, 1) := by decide +kernel
theorem dL_law_540 : decode code 540 = .ok (.aload_n 0, 1) := by decide +kernel
theorem dL_law_541 : decode code 541 = .ok (.iload_n 3, 1) := by decide +kernel
theorem dL_law_542 : decode code 542 = .ok (.iconst 3, 1) := by decide +kernel
theorem dL_law_543 : decode code 543 = .ok (.iadd, 1) := by decide +kernel
theorem dL_law_544 : decode code 544 = .ok (.iaload, 1) := by decide +kernel
theorem dL_law_545 : decode code 545 = .ok (.ifCond .eq 7, 3) := by decide +kernel
theorem dL_law_548 : decode code 548 = .ok (.iconst 1, 1) := by decide +kernel
theorem dL_law_549 : decode code 549 = .ok (.goto 4, 3) := by decide +kernel
theorem dL_law_552 : decode code 552 = .ok (.iconst 0, 1) := by decide +kernel
theorem dL_law_553 : decode code 553 = .ok (.invokevirtual 71, 3) := by decide +kernel
theorem dL_law_556 : decode code 556 = .ok (.if_icmp .eq 298, 3) := by decide +kernel
theorem dL_law_559 : decode code 559 = .ok (.iconst 0, 1) := by decide +kernel
theorem dL_law_560 : decode code 560 = .ok (.ireturn, 1) := by decide +kernel
theorem dL_law_561 : decode code 561 = .ok (.aload_n 1, 1) := by decide +kernel
theorem dL_law_562 : decode code 562 = .ok (.aload_n 0, 1) := by decide +kernel
theorem dL_law_563 : decode code 563 = .ok (.iload_n 3, 1) := by decide +kernel
theorem dL_law_564 : decode code 564 = .ok (.iconst 1, 1) := by decide +kernel
theorem dL_law_565 : decode code 565 = .ok (.iadd, 1) := by decide +kernel
theorem dL_law_566 : decode code 566 = .ok (.iaload, 1) := by decide +kernel
theorem dL_law_567 : decode code 567 = .ok (.aload_n 0, 1) := by decide +kernel
theorem dL_law_568 : decode code 568 = .ok (.iload_n 3, 1) := by decide +kernel
theorem dL_law_569 : decode code 569 = .ok (.iconst 2, 1) := by decide +kernel
theorem dL_law_570 : decode code 570 = .ok (.iadd, 1) := by decide +kernel
theorem dL_law_571 : decode code 571 = .ok (.iaload, 1) := by decide +kernel
theorem dL_law_572 : decode code 572 = .ok (.aload_n 0, 1) := by decide +kernel
theorem dL_law_573 : decode code 573 = .ok (.iload_n 3, 1) := by decide +kernel
theorem dL_law_574 : decode code 574 = .ok (.iconst 3, 1) := by decide +kernel
theorem dL_law_575 : decode code 575 = .ok (.iadd, 1) := by decide +kernel
theorem dL_law_576 : decode code 576 = .ok (.iaload, 1) := by decide +kernel
theorem dL_law_577 : decode code 577 = .ok (.ifCond .eq 7, 3) := by decide +kernel
theorem dL_law_580 : decode code 580 = .ok (.iconst 1, 1) := by decide +kernel
theorem dL_law_581 : decode code 581 = .ok (.goto 4, 3) := by decide +kernel
theorem dL_law_584 : decode code 584 = .ok (.iconst 0, 1) := by decide +kernel
theorem dL_law_585 : decode code 585 = .ok (.invokevirtual 72, 3) := by decide +kernel
theorem dL_law_588 : decode code 588 = .ok (.aload_n 2, 1) := by decide +kernel
theorem dL_law_589 : decode code 589 = .ok (.aload_n 0, 1) := by decide +kernel
theorem dL_law_590 : decode code 590 = .ok (.iload_n 3, 1) := by decide +kernel
theorem dL_law_591 : decode code 591 = .ok (.iconst 1, 1) := by decide +kernel
theorem dL_law_592 : decode code 592 = .ok (.iadd, 1) := by decide +kernel
theorem dL_law_593 : decode code 593 = .ok (.iaload, 1) := by decide +kernel
theorem dL_law_594 : decode code 594 = .ok (.aload_n 0, 1) := by decide +kernel
theorem dL_law_595 : decode code 595 = .ok (.iload_n 3, 1) := by decide +kernel
theorem dL_law_596 : decode code 596 = .ok (.iconst 2, 1) := by decide +kernel
theorem dL_law_597 : decode code 597 = .ok (.iadd, 1) := by decide +kernel
theorem dL_law_598 : decode code 598 = .ok (.iaload, 1) := by decide +kernel
theorem dL_law_599 : decode code 599 = .ok (.aload_n 0, 1) := by decide +kernel
theorem dL_law_600 : decode code 600 = .ok (.iload_n 3, 1) := by decide +kernel
theorem dL_law_601 : decode code 601 = .ok (.iconst 3, 1) := by decide +kernel
theorem dL_law_602 : decode code 602 = .ok (.iadd, 1) := by decide +kernel
theorem dL_law_603 : decode code 603 = .ok (.iaload, 1) := by decide +kernel
theorem dL_law_604 : decode code 604 = .ok (.ifCond .eq 7, 3) := by decide +kernel
theorem dL_law_607 : decode code 607 = .ok (.iconst 1, 1) := by decide +kernel
theorem dL_law_608 : decode code 608 = .ok (.goto 4, 3) := by decide +kernel
theorem dL_law_611 : decode code 611 = .ok (.iconst 0, 1) := by decide +kernel
theorem dL_law_612 : decode code 612 = .ok (.invokevirtual 75, 3) := by decide +kernel
theorem dL_law_615 : decode code 615 = .ok (.if_icmp .eq 239, 3) := by decide +kernel
theorem dL_law_618 : decode code 618 = .ok (.iconst 0, 1) := by decide +kernel
theorem dL_law_619 : decode code 619 = .ok (.ireturn, 1) := by decide +kernel
theorem dL_law_620 : decode code 620 = .ok (.aload_n 1, 1) := by decide +kernel
theorem dL_law_621 : decode code 621 = .ok (.aload_n 0, 1) := by decide +kernel
theorem dL_law_622 : decode code 622 = .ok (.iload_n 3, 1) := by decide +kernel
theorem dL_law_623 : decode code 623 = .ok (.iconst 1, 1) := by decide +kernel
theorem dL_law_624 : decode code 624 = .ok (.iadd, 1) := by decide +kernel
theorem dL_law_625 : decode code 625 = .ok (.iaload, 1) := by decide +kernel
theorem dL_law_626 : decode code 626 = .ok (.aload_n 0, 1) := by decide +kernel
theorem dL_law_627 : decode code 627 = .ok (.iload_n 3, 1) := by decide +kernel
theorem dL_law_628 : decode code 628 = .ok (.iconst 2, 1) := by decide +kernel
theorem dL_law_629 : decode code 629 = .ok (.iadd, 1) := by decide +kernel
theorem dL_law_630 : decode code 630 = .ok (.iaload, 1) := by decide +kernel
theorem dL_law_631 : decode code 631 = .ok (.aload_n 0, 1) := by decide +kernel
theorem dL_law_632 : decode code 632 = .ok (.iload_n 3, 1) := by decide +kernel
theorem dL_law_633 : decode code 633 = .ok (.iconst 3, 1) := by decide +kernel
theorem dL_law_634 : decode code 634 = .ok (.iadd, 1) := by decide +kernel
theorem dL_law_635 : decode code 635 = .ok (.iaload, 1) := by decide +kernel
theorem dL_law_636 : decode code 636 = .ok (.ifCond .eq 7, 3) := by decide +kernel
theorem dL_law_639 : decode code 639 = .ok (.iconst 1, 1) := by decide +kernel
theorem dL_law_640 : decode code 640 = .ok (.goto 4, 3) := by decide +kernel
theorem dL_law_643 : decode code 643 = .ok (.iconst 0, 1) := by decide +kernel
theorem dL_law_644 : decode code 644 = .ok (.invokevirtual 76, 3) := by decide +kernel
theorem dL_law_647 : decode code 647 = .ok (.aload_n 2, 1) := by decide +kernel
theorem dL_law_648 : decode code 648 = .ok (.aload_n 0, 1) := by decide +kernel
theorem dL_law_649 : decode code 649 = .ok (.iload_n 3, 1) := by decide +kernel
theorem dL_law_650 : decode code 650 = .ok (.iconst 1, 1) := by decide +kernel
theorem dL_law_651 : decode code 651 = .ok (.iadd, 1) := by decide +kernel
theorem dL_law_652 : decode code 652 = .ok (.iaload, 1) := by decide +kernel
theorem dL_law_653 : decode code 653 = .ok (.aload_n 0, 1) := by decide +kernel
theorem dL_law_654 : decode code 654 = .ok (.iload_n 3, 1) := by decide +kernel
theorem dL_law_655 : decode code 655 = .ok (.iconst 2, 1) := by decide +kernel
theorem dL_law_656 : decode code 656 = .ok (.iadd, 1) := by decide +kernel
theorem dL_law_657 : decode code 657 = .ok (.iaload, 1) := by decide +kernel
theorem dL_law_658 : decode code 658 = .ok (.aload_n 0, 1) := by decide +kernel
theorem dL_law_659 : decode code 659 = .ok (.iload_n 3, 1) := by decide +kernel
theorem dL_law_660 : decode code 660 = .ok (.iconst 3, 1) := by decide +kernel
theorem dL_law_661 : decode code 661 = .ok (.iadd, 1) := by decide +kernel
theorem dL_law_662 : decode code 662 = .ok (.iaload, 1) := by decide +kernel
theorem dL_law_663 : decode code 663 = .ok (.ifCond .eq 7, 3) := by decide +kernel
theorem dL_law_666 : decode code 666 = .ok (.iconst 1, 1) := by decide +kernel
theorem dL_law_667 : decode code 667 = .ok (.goto 4, 3) := by decide +kernel
theorem dL_law_670 : decode code 670 = .ok (.iconst 0, 1) := by decide +kernel
theorem dL_law_671 : decode code 671 = .ok (.invokevirtual 79, 3) := by decide +kernel
theorem dL_law_674 : decode code 674 = .ok (.if_icmp .eq 180, 3) := by decide +kernel
theorem dL_law_677 : decode code 677 = .ok (.iconst 0, 1) := by decide +kernel
theorem dL_law_678 : decode code 678 = .ok (.ireturn, 1) := by decide +kernel
theorem dL_law_679 : decode code 679 = .ok (.aload_n 1, 1) := by decide +kernel
theorem dL_law_680 : decode code 680 = .ok (.invokevirtual 80, 3) := by decide +kernel
theorem dL_law_683 : decode code 683 = .ok (.aload_n 2, 1) := by decide +kernel
theorem dL_law_684 : decode code 684 = .ok (.invokevirtual 83, 3) := by decide +kernel
theorem dL_law_687 : decode code 687 = .ok (.if_icmp .eq 167, 3) := by decide +kernel
theorem dL_law_690 : decode code 690 = .ok (.iconst 0, 1) := by decide +kernel
theorem dL_law_691 : decode code 691 = .ok (.ireturn, 1) := by decide +kernel
theorem dL_law_692 : decode code 692 = .ok (.aload_n 1, 1) := by decide +kernel
theorem dL_law_693 : decode code 693 = .ok (.aload_n 0, 1) := by decide +kernel
theorem dL_law_694 : decode code 694 = .ok (.iload_n 3, 1) := by decide +kernel
theorem dL_law_695 : decode code 695 = .ok (.iconst 1, 1) := by decide +kernel
theorem dL_law_696 : decode code 696 = .ok (.iadd, 1) := by decide +kernel
theorem dL_law_697 : decode code 697 = .ok (.iaload, 1) := by decide +kernel
theorem dL_law_698 : decode code 698 = .ok (.invokevirtual 84, 3) := by decide +kernel
theorem dL_law_701 : decode code 701 = .ok (.aload_n 2, 1) := by decide +kernel
theorem dL_law_702 : decode code 702 = .ok (.aload_n 0, 1) := by decide +kernel
theorem dL_law_703 : decode code 703 = .ok (.iload_n 3, 1) := by decide +kernel
theorem dL_law_704 : decode code 704 = .ok (.iconst 1, 1) := by decide +kernel
theorem dL_law_705 : decode code 705 = .ok (.iadd, 1) := by decide +kernel
theorem dL_law_706 : decode code 706 = .ok (.iaload, 1) := by decide +kernel
theorem dL_law_707 : decode code 707 = .ok (.invokevirtual 87, 3) := by decide +kernel
theorem dL_law_710 : decode code 710 = .ok (.if_icmp .eq 144, 3) := by decide +kernel
theorem dL_law_713 : decode code 713 = .ok (.iconst 0, 1) := by decide +kernel
theorem dL_law_714 : decode code 714 = .ok (.ireturn, 1) := by decide +kernel
theorem dL_law_715 : decode code 715 = .ok (.aload_n 1, 1) := by decide +kernel
theorem dL_law_716 : decode code 716 = .ok (.aload_n 0, 1) := by decide +kernel
theorem dL_law_717 : decode code 717 = .ok (.iload_n 3, 1) := by decide +kernel
theorem dL_law_718 : decode code 718 = .ok (.iconst 1, 1) := by decide +kernel
theorem dL_law_719 : decode code 719 = .ok (.iadd, 1) := by decide +kernel
theorem dL_law_720 : decode code 720 = .ok (.iaload, 1) := by decide +kernel
theorem dL_law_721 : decode code 721 = .ok (.invokevirtual 88, 3) := by decide +kernel
theorem dL_law_724 : decode code 724 = .ok (.aload_n 2, 1) := by decide +kernel
theorem dL_law_725 : decode code 725 = .ok (.aload_n 0, 1) := by decide +kernel
theorem dL_law_726 : decode code 726 = .ok (.iload_n 3, 1) := by decide +kernel
theorem dL_law_727 : decode code 727 = .ok (.iconst 1, 1) := by decide +kernel
theorem dL_law_728 : decode code 728 = .ok (.iadd, 1) := by decide +kernel
theorem dL_law_729 : decode code 729 = .ok (.iaload, 1) := by decide +kernel
theorem dL_law_730 : decode code 730 = .ok (.invokevirtual 91, 3) := by decide +kernel
theorem dL_law_733 : decode code 733 = .ok (.if_icmp .eq 121, 3) := by decide +kernel
theorem dL_law_736 : decode code 736 = .ok (.iconst 0, 1) := by decide +kernel
theorem dL_law_737 : decode code 737 = .ok (.ireturn, 1) := by decide +kernel
theorem dL_law_738 : decode code 738 = .ok (.aload_n 1, 1) := by decide +kernel
theorem dL_law_739 : decode code 739 = .ok (.aload_n 0, 1) := by decide +kernel
theorem dL_law_740 : decode code 740 = .ok (.iload_n 3, 1) := by decide +kernel
theorem dL_law_741 : decode code 741 = .ok (.iconst 1, 1) := by decide +kernel
theorem dL_law_742 : decode code 742 = .ok (.iadd, 1) := by decide +kernel
theorem dL_law_743 : decode code 743 = .ok (.iaload, 1) := by decide +kernel
theorem dL_law_744 : decode code 744 = .ok (.aload_n 0, 1) := by decide +kernel
theorem dL_law_745 : decode code 745 = .ok (.iload_n 3, 1) := by decide +kernel
theorem dL_law_746 : decode code 746 = .ok (.iconst 2, 1) := by decide +kernel
theorem dL_law_747 : decode code 747 = .ok (.iadd, 1) := by decide +kernel
theorem dL_law_748 : decode code 748 = .ok (.iaload, 1) := by decide +kernel
theorem dL_law_749 : decode code 749 = .ok (.invokevirtual 92, 3) := by decide +kernel
theorem dL_law_752 : decode code 752 = .ok (.aload_n 2, 1) := by decide +kernel
theorem dL_law_753 : decode code 753 = .ok (.aload_n 0, 1) := by decide +kernel
theorem dL_law_754 : decode code 754 = .ok (.iload_n 3, 1) := by decide +kernel
theorem dL_law_755 : decode code 755 = .ok (.iconst 1, 1) := by decide +kernel
theorem dL_law_756 : decode code 756 = .ok (.iadd, 1) := by decide +kernel
theorem dL_law_757 : decode code 757 = .ok (.iaload, 1) := by decide +kernel
theorem dL_law_758 : decode code 758 = .ok (.aload_n 0, 1) := by decide +kernel
theorem dL_law_759 : decode code 759 = .ok (.iload_n 3, 1) := by decide +kernel
theorem dL_law_760 : decode code 760 = .ok (.iconst 2, 1) := by decide +kernel
theorem dL_law_761 : decode code 761 = .ok (.iadd, 1) := by decide +kernel
theorem dL_law_762 : decode code 762 = .ok (.iaload, 1) := by decide +kernel
theorem dL_law_763 : decode code 763 = .ok (.invokevirtual 95, 3) := by decide +kernel
theorem dL_law_766 : decode code 766 = .ok (.if_icmp .eq 88, 3) := by decide +kernel
theorem dL_law_769 : decode code 769 = .ok (.iconst 0, 1) := by decide +kernel
theorem dL_law_770 : decode code 770 = .ok (.ireturn, 1) := by decide +kernel
theorem dL_law_771 : decode code 771 = .ok (.aload_n 1, 1) := by decide +kernel
theorem dL_law_772 : decode code 772 = .ok (.aload_n 0, 1) := by decide +kernel
theorem dL_law_773 : decode code 773 = .ok (.iload_n 3, 1) := by decide +kernel
theorem dL_law_774 : decode code 774 = .ok (.iconst 1, 1) := by decide +kernel
theorem dL_law_775 : decode code 775 = .ok (.iadd, 1) := by decide +kernel
theorem dL_law_776 : decode code 776 = .ok (.iaload, 1) := by decide +kernel
theorem dL_law_777 : decode code 777 = .ok (.invokevirtual 96, 3) := by decide +kernel
theorem dL_law_780 : decode code 780 = .ok (.aload_n 2, 1) := by decide +kernel
theorem dL_law_781 : decode code 781 = .ok (.aload_n 0, 1) := by decide +kernel
theorem dL_law_782 : decode code 782 = .ok (.iload_n 3, 1) := by decide +kernel
theorem dL_law_783 : decode code 783 = .ok (.iconst 1, 1) := by decide +kernel
theorem dL_law_784 : decode code 784 = .ok (.iadd, 1) := by decide +kernel
theorem dL_law_785 : decode code 785 = .ok (.iaload, 1) := by decide +kernel
theorem dL_law_786 : decode code 786 = .ok (.invokevirtual 99, 3) := by decide +kernel
theorem dL_law_789 : decode code 789 = .ok (.if_icmp .eq 65, 3) := by decide +kernel
theorem dL_law_792 : decode code 792 = .ok (.iconst 0, 1) := by decide +kernel
theorem dL_law_793 : decode code 793 = .ok (.ireturn, 1) := by decide +kernel
theorem dL_law_794 : decode code 794 = .ok (.aload_n 1, 1) := by decide +kernel
theorem dL_law_795 : decode code 795 = .ok (.aload_n 0, 1) := by decide +kernel
theorem dL_law_796 : decode code 796 = .ok (.iload_n 3, 1) := by decide +kernel
theorem dL_law_797 : decode code 797 = .ok (.iconst 1, 1) := by decide +kernel
theorem dL_law_798 : decode code 798 = .ok (.iadd, 1) := by decide +kernel
theorem dL_law_799 : decode code 799 = .ok (.iaload, 1) := by decide +kernel
theorem dL_law_800 : decode code 800 = .ok (.invokevirtual 100, 3) := by decide +kernel
theorem dL_law_803 : decode code 803 = .ok (.aload_n 2, 1) := by decide +kernel
theorem dL_law_804 : decode code 804 = .ok (.aload_n 0, 1) := by decide +kernel
theorem dL_law_805 : decode code 805 = .ok (.iload_n 3, 1) := by decide +kernel
theorem dL_law_806 : decode code 806 = .ok (.iconst 1, 1) := by decide +kernel
theorem dL_law_807 : decode code 807 = .ok (.iadd, 1) := by decide +kernel
theorem dL_law_808 : decode code 808 = .ok (.iaload, 1) := by decide +kernel
theorem dL_law_809 : decode code 809 = .ok (.invokevirtual 103, 3) := by decide +kernel
theorem dL_law_812 : decode code 812 = .ok (.if_icmp .eq 42, 3) := by decide +kernel
theorem dL_law_815 : decode code 815 = .ok (.iconst 0, 1) := by decide +kernel
theorem dL_law_816 : decode code 816 = .ok (.ireturn, 1) := by decide +kernel
theorem dL_law_817 : decode code 817 = .ok (.aload_n 1, 1) := by decide +kernel
theorem dL_law_818 : decode code 818 = .ok (.aload_n 0, 1) := by decide +kernel
theorem dL_law_819 : decode code 819 = .ok (.iload_n 3, 1) := by decide +kernel
theorem dL_law_820 : decode code 820 = .ok (.iconst 1, 1) := by decide +kernel
theorem dL_law_821 : decode code 821 = .ok (.iadd, 1) := by decide +kernel
theorem dL_law_822 : decode code 822 = .ok (.iaload, 1) := by decide +kernel
theorem dL_law_823 : decode code 823 = .ok (.invokevirtual 104, 3) := by decide +kernel
theorem dL_law_826 : decode code 826 = .ok (.aload_n 2, 1) := by decide +kernel
theorem dL_law_827 : decode code 827 = .ok (.aload_n 0, 1) := by decide +kernel
theorem dL_law_828 : decode code 828 = .ok (.iload_n 3, 1) := by decide +kernel
theorem dL_law_829 : decode code 829 = .ok (.iconst 1, 1) := by decide +kernel
theorem dL_law_830 : decode code 830 = .ok (.iadd, 1) := by decide +kernel
theorem dL_law_831 : decode code 831 = .ok (.iaload, 1) := by decide +kernel
theorem dL_law_832 : decode code 832 = .ok (.invokevirtual 107, 3) := by decide +kernel
theorem dL_law_835 : decode code 835 = .ok (.if_icmp .eq 19, 3) := by decide +kernel
theorem dL_law_838 : decode code 838 = .ok (.iconst 0, 1) := by decide +kernel
theorem dL_law_839 : decode code 839 = .ok (.ireturn, 1) := by decide +kernel
theorem dL_law_840 : decode code 840 = .ok (.aload_n 1, 1) := by decide +kernel
theorem dL_law_841 : decode code 841 = .ok (.invokevirtual 108, 3) := by decide +kernel
theorem dL_law_844 : decode code 844 = .ok (.aload_n 2, 1) := by decide +kernel
theorem dL_law_845 : decode code 845 = .ok (.invokevirtual 112, 3) := by decide +kernel
theorem dL_law_848 : decode code 848 = .ok (.lcmp, 1) := by decide +kernel
theorem dL_law_849 : decode code 849 = .ok (.ifCond .eq 5, 3) := by decide +kernel
theorem dL_law_852 : decode code 852 = .ok (.iconst 0, 1) := by decide +kernel
theorem dL_law_853 : decode code 853 = .ok (.ireturn, 1) := by decide +kernel
theorem dL_law_854 : decode code 854 = .ok (.iinc 3 5, 3) := by decide +kernel
theorem dL_law_857 : decode code 857 = .ok (.goto (-839), 3) := by decide +kernel
theorem dL_law_860 : decode code 860 = .ok (.iconst 1, 1) := by decide +kernel
theorem dL_law_861 : decode code 861 = .ok (.ireturn, 1) := by decide +kernel
end
section
/-! bits -/
def tbL (x : Int) (b : Nat) : Bool := (Int64.ofInt x).toBitVec.getLsbD b
theorem amtL : ∀ b : Fin 64, ((((Int32.ofInt (b.val : Int)).toInt64 &&& 63).toBitVec.smod 64).toNat = b.val) := by decide +kernel
theorem lShr_bv (x : Int) {b : Nat} (hb : b < 64) : (Int64.ofInt (lShr x b)).toBitVec = (Int64.ofInt x).toBitVec.sshiftRight b := by
  have h := amtL ⟨b, hb⟩
  unfold lShr
  rw [Int64.ofInt_toInt]
  show ((Int64.ofInt x).toBitVec.sshiftRight' (((Int32.ofInt (b : Int)).toInt64 &&& 63).toBitVec.smod 64)) = _
  unfold BitVec.sshiftRight'
  rw [h]
theorem lShl_bv (x : Int) {b : Nat} (hb : b < 64) : (Int64.ofInt (lShl x b)).toBitVec = (Int64.ofInt x).toBitVec <<< b := by
  have h := amtL ⟨b, hb⟩
  unfold lShl
  rw [Int64.ofInt_toInt]
  show (Int64.ofInt x).toBitVec <<< (((Int32.ofInt (b : Int)).toInt64 &&& 63).toBitVec.smod 64) = _
  rw [BitVec.shiftLeft_eq', h]
theorem lAnd_bv (x y : Int) : (Int64.ofInt (lAnd x y)).toBitVec = (Int64.ofInt x).toBitVec &&& (Int64.ofInt y).toBitVec := by
  unfold lAnd; rw [Int64.ofInt_toInt]; rfl
theorem lOr_bv (x y : Int) : (Int64.ofInt (lOr x y)).toBitVec = (Int64.ofInt x).toBitVec ||| (Int64.ofInt y).toBitVec := by
  unfold lOr; rw [Int64.ofInt_toInt]; rfl
theorem lXor_bv (x y : Int) : (Int64.ofInt (lXor x y)).toBitVec = (Int64.ofInt x).toBitVec ^^^ (Int64.ofInt y).toBitVec := by
  unfold lXor; rw [Int64.ofInt_toInt]; rfl
theorem bv1 (i : Nat) : (Int64.ofInt 1).toBitVec.getLsbD i = decide (i = 0) := by
  show (1#64).getLsbD i = _
  by_cases h : i = 0
  · subst h; rfl
  · simp [h]
theorem bvm1 (i : Nat) : (Int64.ofInt (-1)).toBitVec.getLsbD i = decide (i < 64) := by
  have : (Int64.ofInt (-1)).toBitVec = BitVec.allOnes 64 := by decide
  rw [this, BitVec.getLsbD_allOnes]
theorem bvz {x : Int} (hx : InL x) : x = 0 ↔ ∀ i, i < 64 → (Int64.ofInt x).toBitVec.getLsbD i = false := by
  constructor
  · rintro rfl i _; show (0#64).getLsbD i = _; simp
  · intro h
    have e : (Int64.ofInt x).toBitVec = 0#64 := by
      apply BitVec.eq_of_getLsbD_eq
      intro i hi
      rw [h i hi]; simp
    have e2 : Int64.ofInt x = 0 := Int64.toBitVec_inj.mp e
    have e3 := congrArg Int64.toInt e2
    rw [i64_of hx] at e3
    exact e3
theorem bit_0 (x : Int) {b : Nat} (hb : b < 64) : lAnd (lShr x b) 1 = 0 ↔ tbL x b = false := by
  rw [bvz (show InL (lAnd (lShr x b) 1) from i64_L _)]
  unfold tbL
  constructor
  · intro h
    have := h 0 (by omega)
    rw [lAnd_bv, lShr_bv x hb, BitVec.getLsbD_and, bv1, BitVec.getLsbD_sshiftRight] at this
    simpa [hb] using this
  · intro h i hi
    rw [lAnd_bv, lShr_bv x hb, BitVec.getLsbD_and, bv1, BitVec.getLsbD_sshiftRight]
    by_cases h0 : i = 0
    · subst h0; rw [if_pos (show b + 0 < 64 by omega), Nat.add_zero, h]; simp
    · simp [h0]
theorem bit_or (x : Int) {b c : Nat} (hb : b < 64) (hc : c < 64) : tbL (lOr x (lShl 1 b)) c = (tbL x c || decide (c = b)) := by
  unfold tbL
  rw [lOr_bv, lShl_bv 1 hb, BitVec.getLsbD_or, BitVec.getLsbD_shiftLeft, bv1]
  by_cases h : c = b
  · subst h; simp [hc]
  · have : (decide (c < 64) && !decide (c < b) && decide (c - b = 0)) = false := by
      simp only [Bool.and_eq_false_iff, Bool.not_eq_false', decide_eq_true_eq, decide_eq_false_iff_not]
      omega
    rw [this]; simp [h]
theorem bit_clr (x : Int) {b c : Nat} (hb : b < 64) (hc : c < 64) : tbL (lAnd x (lXor (lShl 1 b) (-1))) c = (tbL x c && !decide (c = b)) := by
  unfold tbL
  rw [lAnd_bv, lXor_bv, lShl_bv 1 hb, BitVec.getLsbD_and, BitVec.getLsbD_xor, BitVec.getLsbD_shiftLeft, bv1, bvm1]
  by_cases h : c = b
  · subst h; simp [hc]
  · have : (decide (c < 64) && !decide (c < b) && decide (c - b = 0)) = false := by
      simp only [Bool.and_eq_false_iff, Bool.not_eq_false', decide_eq_true_eq, decide_eq_false_iff_not]
      omega
    rw [this]; simp [h, hc]
theorem bit_zero (c : Nat) : tbL 0 c = false := by
  unfold tbL; show (0#64).getLsbD c = _; simp
theorem lCmp0 {x : Int} : lCmp x 0 = 0 ↔ x = 0 := by
  unfold lCmp; split
  · constructor <;> intro h <;> omega
  · split
    · constructor <;> intro h <;> first | assumption | rfl
    · constructor <;> intro h <;> omega
/-! small words -/
theorem zAnd1 (x : Int) : zAnd x 1 = 0 ∨ zAnd x 1 = 1 := by
  unfold zAnd
  have h : ∀ v : BitVec 32, v &&& 1#32 = 0#32 ∨ v &&& 1#32 = 1#32 := by
    intro v
    by_cases h0 : v.getLsbD 0 = true
    · right
      apply BitVec.eq_of_getLsbD_eq
      intro i hi
      rw [BitVec.getLsbD_and]
      by_cases e : i = 0
      · subst e; simp [h0]
      · simp [e]
    · left
      apply BitVec.eq_of_getLsbD_eq
      intro i hi
      rw [BitVec.getLsbD_and]
      by_cases e : i = 0
      · subst e; simp at h0; simp [h0]
      · simp [e]
  rcases h (Int32.ofInt x).toBitVec with h | h
  · left; have : (Int32.ofInt x &&& Int32.ofInt 1) = 0 := Int32.toBitVec_inj.mp h
    rw [this]; rfl
  · right; have : (Int32.ofInt x &&& Int32.ofInt 1) = 1 := Int32.toBitVec_inj.mp h
    rw [this]; rfl
/-- bit m of a word, 1 or 0 -/
def zb (x m : Int) : Int := zAnd (zShr x m) 1
theorem zb01 (x m : Int) : zb x m = 0 ∨ zb x m = 1 := zAnd1 _
/-- bit m of a word set, or cleared -/
def zset (x m b : Int) : Int := if b = 0 then zAnd x (zXor (zShl 1 m) (-1)) else zOr x (zShl 1 m)
theorem zset_tab : ∀ x : Fin 64, ∀ m : Fin 12, (0 ≤ zset x.val m.val 0 ∧ zset x.val m.val 0 < 64) ∧ (m.val < 6 → 0 ≤ zset x.val m.val 1 ∧ zset x.val m.val 1 < 64) ∧ (∀ n : Fin 12, zb (zset x.val m.val 0) n.val = if n = m then 0 else zb x.val n.val) ∧ (∀ n : Fin 12, m.val < 6 → zb (zset x.val m.val 1) n.val = if n = m then 1 else zb x.val n.val) ∧ (m.val < 6 → zOr (zset x.val m.val 0) (zShl 1 m.val) = zset x.val m.val 1) := by decide +kernel
theorem z256_tab : ∀ x : Fin 256, ∀ m : Fin 8, (0 ≤ zOr x.val (zShl 1 m.val) ∧ zOr x.val (zShl 1 m.val) < 256) ∧ (∀ n : Fin 8, zb (zOr x.val (zShl 1 m.val)) n.val = if n = m then 1 else zb x.val n.val) := by decide +kernel
theorem zb_hi : ∀ x : Fin 64, ∀ m : Fin 12, 6 ≤ m.val → zb x.val m.val = 0 := by decide +kernel
end
section
/-! what the tree's reads answer -/
def tIn (ω : Om) (t : Int) : Prop := 0 ≤ t ∧ t < ω 3 7 ∧ t < 8
def hb (ω : Om) (t m : Int) : Int := if 0 ≤ t ∧ t < ω 3 7 ∧ t < 8 ∧ 0 ≤ m ∧ m < 12 then ω 14 (t * 12 + m) else -1
def pr (ω : Om) (t : Int) : Int := if 0 ≤ t ∧ t < ω 3 7 ∧ t < 8 then ω 12 t else -1
def hds (ω : Om) (t m : Int) : Int := if 0 ≤ t ∧ t < ω 3 7 ∧ t < 8 ∧ ¬ zAnd (zShr (ω 15 t) m) 1 = 0 then 1 else 0
def itA (ω : Om) (b p : Int) : Int := if 0 ≤ b ∧ b < ω 3 8 ∧ b < 40 ∧ 0 ≤ p ∧ p < ω 17 b ∧ p < 6 then ω 18 (b * 6 + p) else -1
def hol (ω : Om) (t : Int) : Int := if 0 ≤ t ∧ t < ω 3 7 ∧ t < 8 ∧ ¬ ω 13 t = 0 then 1 else 0
/-- the nearest class, from t on upwards, that has member m, not hidden -/
def nr (ω : Om) (m : Int) : Nat → Int → Int
  | 0, _ => -1
  | f + 1, t => if 0 ≤ t ∧ t < ω 3 7 ∧ t < 8 then (if ¬ ω 14 (t * 12 + m) = -1 ∧ zAnd (zShr (ω 15 t) m) 1 = 0 then t else nr ω m f (ω 12 t)) else -1
def nrS (ω : Om) (t m : Int) : Int := if 0 ≤ m ∧ m < 12 then nr ω m 8 t else -1
/-- the bits of those among the first k that p tells -/
def bitsF (p : Int → Bool) : Nat → Int
  | 0 => 0
  | k + 1 => if p k = true then zOr (bitsF p k) (zShl 1 k) else bitsF p k
set_option maxRecDepth 100000 in
set_option maxHeartbeats 4000000 in
theorem kX5_hasType {X : Cx} {d : Nat} {ω : Om} {Q : Option MV → Om → Prop} {t : Int} (hQ : Q (some (vI (if 0 ≤ t ∧ t < ω 3 7 ∧ t < 8 then 1 else 0))) ω) : Mc X mX5_hasType d [vR 3, vI t] ω Q := by
  refine Mc_of [some (vR 3), some (vI t)] (by decide +kernel) rfl (Nat.le_of_ble_eq_true rfl) ?_
  refine J_iload_n 1 dX5_hasType_0 rfl ?_
  refine J_if_lt 22 dX5_hasType_1 (by decide) (fun h1 => ?_) (fun h1 => ?_)
  · skip
    refine J_iconst 0 dX5_hasType_22 ⟨by decide, by decide⟩ ?_
    refine JM_zret rfl (by omega) dX5_hasType_23 ?_
    (repeat' split at hQ) <;> first | exact hQ | (exfalso; omega)
  · skip
    refine J_iload_n 1 dX5_hasType_4 rfl ?_
    refine J_aload_n 0 dX5_hasType_5 rfl ?_
    refine J_getI 7 lkF_X5_34 rfl rfl rfl dX5_hasType_6 ?_
    refine J_icmp_ge 22 dX5_hasType_9 (by decide) (fun h9 => ?_) (fun h9 => ?_)
    · skip
      refine J_iconst 0 dX5_hasType_22 ⟨by decide, by decide⟩ ?_
      refine JM_zret rfl (by omega) dX5_hasType_23 ?_
      (repeat' split at hQ) <;> first | exact hQ | (exfalso; omega)
    · skip
      refine J_iload_n 1 dX5_hasType_12 rfl ?_
      refine J_bipush 8 dX5_hasType_13 ⟨by decide, by decide⟩ (by decide) ?_
      refine J_icmp_ge 22 dX5_hasType_15 (by decide) (fun h15 => ?_) (fun h15 => ?_)
      · skip
        refine J_iconst 0 dX5_hasType_22 ⟨by decide, by decide⟩ ?_
        refine JM_zret rfl (by omega) dX5_hasType_23 ?_
        (repeat' split at hQ) <;> first | exact hQ | (exfalso; omega)
      · skip
        refine J_iconst 1 dX5_hasType_18 ⟨by decide, by decide⟩ ?_
        refine J_goto 23 dX5_hasType_19 (by decide) ?_
        refine JM_zret rfl (by omega) dX5_hasType_23 ?_
        (repeat' split at hQ) <;> first | exact hQ | (exfalso; omega)

set_option maxRecDepth 100000 in
set_option maxHeartbeats 4000000 in
theorem kX5_hasBody {X : Cx} {d : Nat} {ω : Om} {Q : Option MV → Om → Prop} {t : Int} (hQ : Q (some (vI (if 0 ≤ t ∧ t < ω 3 8 ∧ t < 40 then 1 else 0))) ω) : Mc X mX5_hasBody d [vR 3, vI t] ω Q := by
  refine Mc_of [some (vR 3), some (vI t)] (by decide +kernel) rfl (Nat.le_of_ble_eq_true rfl) ?_
  refine J_iload_n 1 dX5_hasBody_0 rfl ?_
  refine J_if_lt 22 dX5_hasBody_1 (by decide) (fun h1 => ?_) (fun h1 => ?_)
  · skip
    refine J_iconst 0 dX5_hasBody_22 ⟨by decide, by decide⟩ ?_
    refine JM_zret rfl (by omega) dX5_hasBody_23 ?_
    (repeat' split at hQ) <;> first | exact hQ | (exfalso; omega)
  · skip
    refine J_iload_n 1 dX5_hasBody_4 rfl ?_
    refine J_aload_n 0 dX5_hasBody_5 rfl ?_
    refine J_getI 8 lkF_X5_38 rfl rfl rfl dX5_hasBody_6 ?_
    refine J_icmp_ge 22 dX5_hasBody_9 (by decide) (fun h9 => ?_) (fun h9 => ?_)
    · skip
      refine J_iconst 0 dX5_hasBody_22 ⟨by decide, by decide⟩ ?_
      refine JM_zret rfl (by omega) dX5_hasBody_23 ?_
      (repeat' split at hQ) <;> first | exact hQ | (exfalso; omega)
    · skip
      refine J_iload_n 1 dX5_hasBody_12 rfl ?_
      refine J_bipush 40 dX5_hasBody_13 ⟨by decide, by decide⟩ (by decide) ?_
      refine J_icmp_ge 22 dX5_hasBody_15 (by decide) (fun h15 => ?_) (fun h15 => ?_)
      · skip
        refine J_iconst 0 dX5_hasBody_22 ⟨by decide, by decide⟩ ?_
        refine JM_zret rfl (by omega) dX5_hasBody_23 ?_
        (repeat' split at hQ) <;> first | exact hQ | (exfalso; omega)
      · skip
        refine J_iconst 1 dX5_hasBody_18 ⟨by decide, by decide⟩ ?_
        refine J_goto 23 dX5_hasBody_19 (by decide) ?_
        refine JM_zret rfl (by omega) dX5_hasBody_23 ?_
        (repeat' split at hQ) <;> first | exact hQ | (exfalso; omega)

set_option maxRecDepth 100000 in
set_option maxHeartbeats 4000000 in
theorem kX5_parentOf {X : Cx} {d : Nat} {ω : Om} {Q : Option MV → Om → Prop} {t : Int} (hQ : Q (some (vI (pr ω t))) ω) : Mc X mX5_parentOf d [vR 3, vI t] ω Q := by
  refine Mc_of [some (vR 3), some (vI t)] (by decide +kernel) rfl (Nat.le_of_ble_eq_true rfl) ?_
  refine J_iload_n 1 dX5_parentOf_0 rfl ?_
  refine J_if_lt 27 dX5_parentOf_1 (by decide) (fun h1 => ?_) (fun h1 => ?_)
  · skip
    refine J_iconst (-1) dX5_parentOf_27 ⟨by decide, by decide⟩ ?_
    refine JM_iret rfl dX5_parentOf_28 ?_
    unfold pr at hQ
    (repeat' split at hQ) <;> first | exact hQ | (exfalso; omega)
  · skip
    refine J_iload_n 1 dX5_parentOf_4 rfl ?_
    refine J_aload_n 0 dX5_parentOf_5 rfl ?_
    refine J_getI 7 lkF_X5_34 rfl rfl rfl dX5_parentOf_6 ?_
    refine J_icmp_ge 27 dX5_parentOf_9 (by decide) (fun h9 => ?_) (fun h9 => ?_)
    · skip
      refine J_iconst (-1) dX5_parentOf_27 ⟨by decide, by decide⟩ ?_
      refine JM_iret rfl dX5_parentOf_28 ?_
      unfold pr at hQ
      (repeat' split at hQ) <;> first | exact hQ | (exfalso; omega)
    · skip
      refine J_iload_n 1 dX5_parentOf_12 rfl ?_
      refine J_bipush 8 dX5_parentOf_13 ⟨by decide, by decide⟩ (by decide) ?_
      refine J_icmp_ge 27 dX5_parentOf_15 (by decide) (fun h15 => ?_) (fun h15 => ?_)
      · skip
        refine J_iconst (-1) dX5_parentOf_27 ⟨by decide, by decide⟩ ?_
        refine JM_iret rfl dX5_parentOf_28 ?_
        unfold pr at hQ
        (repeat' split at hQ) <;> first | exact hQ | (exfalso; omega)
      · skip
        refine J_aload_n 0 dX5_parentOf_18 rfl ?_
        refine J_getR lkF_X5_9 rfl dX5_parentOf_19 ?_
        refine J_iload_n 1 dX5_parentOf_22 rfl ?_
        refine J_iaload _ rfl rfl (by omega) dX5_parentOf_23 ?_
        refine J_goto 28 dX5_parentOf_24 (by decide) ?_
        refine JM_iret rfl dX5_parentOf_28 ?_
        unfold pr at hQ
        (repeat' split at hQ) <;> first | exact hQ | (exfalso; omega)

set_option maxRecDepth 100000 in
set_option maxHeartbeats 4000000 in
theorem kX5_hides {X : Cx} {d : Nat} {ω : Om} {Q : Option MV → Om → Prop} {t m : Int} (hQ : Q (some (vI (hds ω t m))) ω) : Mc X mX5_hides d [vR 3, vI t, vI m] ω Q := by
  refine Mc_of [some (vR 3), some (vI t), some (vI m)] (by decide +kernel) rfl (Nat.le_of_ble_eq_true rfl) ?_
  refine J_iload_n 1 dX5_hides_0 rfl ?_
  refine J_if_lt 35 dX5_hides_1 (by decide) (fun h1 => ?_) (fun h1 => ?_)
  · skip
    refine J_iconst 0 dX5_hides_35 ⟨by decide, by decide⟩ ?_
    refine JM_zret rfl (by omega) dX5_hides_36 ?_
    unfold hds at hQ
    (repeat' split at hQ) <;> first | exact hQ | (exfalso; omega)
  · skip
    refine J_iload_n 1 dX5_hides_4 rfl ?_
    refine J_aload_n 0 dX5_hides_5 rfl ?_
    refine J_getI 7 lkF_X5_34 rfl rfl rfl dX5_hides_6 ?_
    refine J_icmp_ge 35 dX5_hides_9 (by decide) (fun h9 => ?_) (fun h9 => ?_)
    · skip
      refine J_iconst 0 dX5_hides_35 ⟨by decide, by decide⟩ ?_
      refine JM_zret rfl (by omega) dX5_hides_36 ?_
      unfold hds at hQ
      (repeat' split at hQ) <;> first | exact hQ | (exfalso; omega)
    · skip
      refine J_iload_n 1 dX5_hides_12 rfl ?_
      refine J_bipush 8 dX5_hides_13 ⟨by decide, by decide⟩ (by decide) ?_
      refine J_icmp_ge 35 dX5_hides_15 (by decide) (fun h15 => ?_) (fun h15 => ?_)
      · skip
        refine J_iconst 0 dX5_hides_35 ⟨by decide, by decide⟩ ?_
        refine JM_zret rfl (by omega) dX5_hides_36 ?_
        unfold hds at hQ
        (repeat' split at hQ) <;> first | exact hQ | (exfalso; omega)
      · skip
        refine J_aload_n 0 dX5_hides_18 rfl ?_
        refine J_getR lkF_X5_22 rfl dX5_hides_19 ?_
        refine J_iload_n 1 dX5_hides_22 rfl ?_
        refine J_iaload _ rfl rfl (by omega) dX5_hides_23 ?_
        refine J_iload_n 2 dX5_hides_24 rfl ?_
        refine J_ishr dX5_hides_25 ?_
        refine J_iconst 1 dX5_hides_26 ⟨by decide, by decide⟩ ?_
        refine J_iand dX5_hides_27 ?_
        refine J_if_eq 35 dX5_hides_28 (by decide) (fun h28 => ?_) (fun h28 => ?_)
        · skip
          refine J_iconst 0 dX5_hides_35 ⟨by decide, by decide⟩ ?_
          refine JM_zret rfl (by omega) dX5_hides_36 ?_
          unfold hds at hQ
          (repeat' split at hQ) <;> first | exact hQ | (exfalso; omega)
        · skip
          refine J_iconst 1 dX5_hides_31 ⟨by decide, by decide⟩ ?_
          refine J_goto 36 dX5_hides_32 (by decide) ?_
          refine JM_zret rfl (by omega) dX5_hides_36 ?_
          unfold hds at hQ
          (repeat' split at hQ) <;> first | exact hQ | (exfalso; omega)

set_option maxRecDepth 100000 in
set_option maxHeartbeats 4000000 in
theorem kX5_heldBy {X : Cx} {d : Nat} {ω : Om} {Q : Option MV → Om → Prop} {t m : Int} (hQ : Q (some (vI (hb ω t m))) ω) : Mc X mX5_heldBy d [vR 3, vI t, vI m] ω Q := by
  refine Mc_of [some (vR 3), some (vI t), some (vI m)] (by decide +kernel) rfl (Nat.le_of_ble_eq_true rfl) ?_
  refine J_iload_n 1 dX5_heldBy_0 rfl ?_
  refine J_if_lt 42 dX5_heldBy_1 (by decide) (fun h1 => ?_) (fun h1 => ?_)
  · skip
    refine J_iconst (-1) dX5_heldBy_42 ⟨by decide, by decide⟩ ?_
    refine JM_iret rfl dX5_heldBy_43 ?_
    unfold hb at hQ
    (repeat' split at hQ) <;> first | exact hQ | (exfalso; omega)
  · skip
    refine J_iload_n 1 dX5_heldBy_4 rfl ?_
    refine J_aload_n 0 dX5_heldBy_5 rfl ?_
    refine J_getI 7 lkF_X5_34 rfl rfl rfl dX5_heldBy_6 ?_
    refine J_icmp_ge 42 dX5_heldBy_9 (by decide) (fun h9 => ?_) (fun h9 => ?_)
    · skip
      refine J_iconst (-1) dX5_heldBy_42 ⟨by decide, by decide⟩ ?_
      refine JM_iret rfl dX5_heldBy_43 ?_
      unfold hb at hQ
      (repeat' split at hQ) <;> first | exact hQ | (exfalso; omega)
    · skip
      refine J_iload_n 1 dX5_heldBy_12 rfl ?_
      refine J_bipush 8 dX5_heldBy_13 ⟨by decide, by decide⟩ (by decide) ?_
      refine J_icmp_ge 42 dX5_heldBy_15 (by decide) (fun h15 => ?_) (fun h15 => ?_)
      · skip
        refine J_iconst (-1) dX5_heldBy_42 ⟨by decide, by decide⟩ ?_
        refine JM_iret rfl dX5_heldBy_43 ?_
        unfold hb at hQ
        (repeat' split at hQ) <;> first | exact hQ | (exfalso; omega)
      · skip
        refine J_iload_n 2 dX5_heldBy_18 rfl ?_
        refine J_if_lt 42 dX5_heldBy_19 (by decide) (fun h19 => ?_) (fun h19 => ?_)
        · skip
          refine J_iconst (-1) dX5_heldBy_42 ⟨by decide, by decide⟩ ?_
          refine JM_iret rfl dX5_heldBy_43 ?_
          unfold hb at hQ
          (repeat' split at hQ) <;> first | exact hQ | (exfalso; omega)
        · skip
          refine J_iload_n 2 dX5_heldBy_22 rfl ?_
          refine J_bipush 12 dX5_heldBy_23 ⟨by decide, by decide⟩ (by decide) ?_
          refine J_icmp_ge 42 dX5_heldBy_25 (by decide) (fun h25 => ?_) (fun h25 => ?_)
          · skip
            refine J_iconst (-1) dX5_heldBy_42 ⟨by decide, by decide⟩ ?_
            refine JM_iret rfl dX5_heldBy_43 ?_
            unfold hb at hQ
            (repeat' split at hQ) <;> first | exact hQ | (exfalso; omega)
          · skip
            refine J_aload_n 0 dX5_heldBy_28 rfl ?_
            refine J_getR lkF_X5_19 rfl dX5_heldBy_29 ?_
            refine J_iload_n 1 dX5_heldBy_32 rfl ?_
            refine J_bipush 12 dX5_heldBy_33 ⟨by decide, by decide⟩ (by decide) ?_
            refine J_imul dX5_heldBy_35 ⟨by omega, by omega⟩ ?_
            refine J_iload_n 2 dX5_heldBy_36 rfl ?_
            refine J_iadd dX5_heldBy_37 ⟨by omega, by omega⟩ ?_
            refine J_iaload _ rfl rfl (by omega) dX5_heldBy_38 ?_
            refine J_goto 43 dX5_heldBy_39 (by decide) ?_
            refine JM_iret rfl dX5_heldBy_43 ?_
            unfold hb at hQ
            (repeat' split at hQ) <;> first | exact hQ | (exfalso; omega)

set_option maxRecDepth 100000 in
set_option maxHeartbeats 4000000 in
theorem kX5_itemAt {X : Cx} {d : Nat} {ω : Om} {Q : Option MV → Om → Prop} {b p : Int} (hQ : Q (some (vI (itA ω b p))) ω) : Mc X mX5_itemAt d [vR 3, vI b, vI p] ω Q := by
  refine Mc_of [some (vR 3), some (vI b), some (vI p)] (by decide +kernel) rfl (Nat.le_of_ble_eq_true rfl) ?_
  refine J_iload_n 1 dX5_itemAt_0 rfl ?_
  refine J_if_lt 52 dX5_itemAt_1 (by decide) (fun h1 => ?_) (fun h1 => ?_)
  · skip
    refine J_iconst (-1) dX5_itemAt_52 ⟨by decide, by decide⟩ ?_
    refine JM_iret rfl dX5_itemAt_53 ?_
    unfold itA at hQ
    (repeat' split at hQ) <;> first | exact hQ | (exfalso; omega)
  · skip
    refine J_iload_n 1 dX5_itemAt_4 rfl ?_
    refine J_aload_n 0 dX5_itemAt_5 rfl ?_
    refine J_getI 8 lkF_X5_38 rfl rfl rfl dX5_itemAt_6 ?_
    refine J_icmp_ge 52 dX5_itemAt_9 (by decide) (fun h9 => ?_) (fun h9 => ?_)
    · skip
      refine J_iconst (-1) dX5_itemAt_52 ⟨by decide, by decide⟩ ?_
      refine JM_iret rfl dX5_itemAt_53 ?_
      unfold itA at hQ
      (repeat' split at hQ) <;> first | exact hQ | (exfalso; omega)
    · skip
      refine J_iload_n 1 dX5_itemAt_12 rfl ?_
      refine J_bipush 40 dX5_itemAt_13 ⟨by decide, by decide⟩ (by decide) ?_
      refine J_icmp_ge 52 dX5_itemAt_15 (by decide) (fun h15 => ?_) (fun h15 => ?_)
      · skip
        refine J_iconst (-1) dX5_itemAt_52 ⟨by decide, by decide⟩ ?_
        refine JM_iret rfl dX5_itemAt_53 ?_
        unfold itA at hQ
        (repeat' split at hQ) <;> first | exact hQ | (exfalso; omega)
      · skip
        refine J_iload_n 2 dX5_itemAt_18 rfl ?_
        refine J_if_lt 52 dX5_itemAt_19 (by decide) (fun h19 => ?_) (fun h19 => ?_)
        · skip
          refine J_iconst (-1) dX5_itemAt_52 ⟨by decide, by decide⟩ ?_
          refine JM_iret rfl dX5_itemAt_53 ?_
          unfold itA at hQ
          (repeat' split at hQ) <;> first | exact hQ | (exfalso; omega)
        · skip
          refine J_iload_n 2 dX5_itemAt_22 rfl ?_
          refine J_aload_n 0 dX5_itemAt_23 rfl ?_
          refine J_getR lkF_X5_28 rfl dX5_itemAt_24 ?_
          refine J_iload_n 1 dX5_itemAt_27 rfl ?_
          refine J_iaload _ rfl rfl (by omega) dX5_itemAt_28 ?_
          refine J_icmp_ge 52 dX5_itemAt_29 (by decide) (fun h29 => ?_) (fun h29 => ?_)
          · skip
            refine J_iconst (-1) dX5_itemAt_52 ⟨by decide, by decide⟩ ?_
            refine JM_iret rfl dX5_itemAt_53 ?_
            unfold itA at hQ
            (repeat' split at hQ) <;> first | exact hQ | (exfalso; omega)
          · skip
            refine J_iload_n 2 dX5_itemAt_32 rfl ?_
            refine J_bipush 6 dX5_itemAt_33 ⟨by decide, by decide⟩ (by decide) ?_
            refine J_icmp_ge 52 dX5_itemAt_35 (by decide) (fun h35 => ?_) (fun h35 => ?_)
            · skip
              refine J_iconst (-1) dX5_itemAt_52 ⟨by decide, by decide⟩ ?_
              refine JM_iret rfl dX5_itemAt_53 ?_
              unfold itA at hQ
              (repeat' split at hQ) <;> first | exact hQ | (exfalso; omega)
            · skip
              refine J_aload_n 0 dX5_itemAt_38 rfl ?_
              refine J_getR lkF_X5_31 rfl dX5_itemAt_39 ?_
              refine J_iload_n 1 dX5_itemAt_42 rfl ?_
              refine J_bipush 6 dX5_itemAt_43 ⟨by decide, by decide⟩ (by decide) ?_
              refine J_imul dX5_itemAt_45 ⟨by omega, by omega⟩ ?_
              refine J_iload_n 2 dX5_itemAt_46 rfl ?_
              refine J_iadd dX5_itemAt_47 ⟨by omega, by omega⟩ ?_
              refine J_iaload _ rfl rfl (by omega) dX5_itemAt_48 ?_
              refine J_goto 53 dX5_itemAt_49 (by decide) ?_
              refine JM_iret rfl dX5_itemAt_53 ?_
              unfold itA at hQ
              (repeat' split at hQ) <;> first | exact hQ | (exfalso; omega)

set_option maxRecDepth 100000 in
set_option maxHeartbeats 4000000 in
theorem kX6_isMember {X : Cx} {d : Nat} {ω : Om} {Q : Option MV → Om → Prop} {m : Int} (hQ : Q (some (vI (if 0 ≤ m ∧ m < 12 then 1 else 0))) ω) : Mc X mX6_isMember d [vI m] ω Q := by
  refine Mc_of [some (vI m)] (by decide +kernel) rfl (Nat.le_of_ble_eq_true rfl) ?_
  refine J_iload_n 0 dX6_isMember_0 rfl ?_
  refine J_if_lt 14 dX6_isMember_1 (by decide) (fun h1 => ?_) (fun h1 => ?_)
  · skip
    refine J_iconst 0 dX6_isMember_14 ⟨by decide, by decide⟩ ?_
    refine JM_zret rfl (by omega) dX6_isMember_15 ?_
    (repeat' split at hQ) <;> first | exact hQ | (exfalso; omega)
  · skip
    refine J_iload_n 0 dX6_isMember_4 rfl ?_
    refine J_bipush 12 dX6_isMember_5 ⟨by decide, by decide⟩ (by decide) ?_
    refine J_icmp_ge 14 dX6_isMember_7 (by decide) (fun h7 => ?_) (fun h7 => ?_)
    · skip
      refine J_iconst 0 dX6_isMember_14 ⟨by decide, by decide⟩ ?_
      refine JM_zret rfl (by omega) dX6_isMember_15 ?_
      (repeat' split at hQ) <;> first | exact hQ | (exfalso; omega)
    · skip
      refine J_iconst 1 dX6_isMember_10 ⟨by decide, by decide⟩ ?_
      refine J_goto 15 dX6_isMember_11 (by decide) ?_
      refine JM_zret rfl (by omega) dX6_isMember_15 ?_
      (repeat' split at hQ) <;> first | exact hQ | (exfalso; omega)

set_option maxRecDepth 100000 in
set_option maxHeartbeats 4000000 in
theorem kX6_isMethod {X : Cx} {d : Nat} {ω : Om} {Q : Option MV → Om → Prop} {m : Int} (hQ : Q (some (vI (if 0 ≤ m ∧ m < 6 then 1 else 0))) ω) : Mc X mX6_isMethod d [vI m] ω Q := by
  refine Mc_of [some (vI m)] (by decide +kernel) rfl (Nat.le_of_ble_eq_true rfl) ?_
  refine J_iload_n 0 dX6_isMethod_0 rfl ?_
  refine J_if_lt 14 dX6_isMethod_1 (by decide) (fun h1 => ?_) (fun h1 => ?_)
  · skip
    refine J_iconst 0 dX6_isMethod_14 ⟨by decide, by decide⟩ ?_
    refine JM_zret rfl (by omega) dX6_isMethod_15 ?_
    (repeat' split at hQ) <;> first | exact hQ | (exfalso; omega)
  · skip
    refine J_iload_n 0 dX6_isMethod_4 rfl ?_
    refine J_bipush 6 dX6_isMethod_5 ⟨by decide, by decide⟩ (by decide) ?_
    refine J_icmp_ge 14 dX6_isMethod_7 (by decide) (fun h7 => ?_) (fun h7 => ?_)
    · skip
      refine J_iconst 0 dX6_isMethod_14 ⟨by decide, by decide⟩ ?_
      refine JM_zret rfl (by omega) dX6_isMethod_15 ?_
      (repeat' split at hQ) <;> first | exact hQ | (exfalso; omega)
    · skip
      refine J_iconst 1 dX6_isMethod_10 ⟨by decide, by decide⟩ ?_
      refine J_goto 15 dX6_isMethod_11 (by decide) ?_
      refine JM_zret rfl (by omega) dX6_isMethod_15 ?_
      (repeat' split at hQ) <;> first | exact hQ | (exfalso; omega)

set_option maxRecDepth 100000 in
set_option maxHeartbeats 4000000 in
theorem kX5_isHollow {X : Cx} {d : Nat} {ω : Om} {Q : Option MV → Om → Prop} {t : Int} (hQ : Q (some (vI (hol ω t))) ω) : Mc X mX5_isHollow (d + 1) [vR 3, vI t] ω Q := by
  refine Mc_of [some (vR 3), some (vI t)] (by decide +kernel) rfl (Nat.le_of_ble_eq_true rfl) ?_
  refine J_aload_n 0 dX5_isHollow_0 rfl ?_
  refine J_iload_n 1 dX5_isHollow_1 rfl ?_
  refine JM_V1 lkM_X5_44 rcv_3 dX5_isHollow_2 (by decide) (Nat.le_of_ble_eq_true rfl) ?_
  refine kX5_hasType ?_
  generalize hg : (if 0 ≤ t ∧ t < ω 3 7 ∧ t < 8 then (1 : Int) else 0) = g
  have hg2 : (g = 1 ∧ 0 ≤ t ∧ t < ω 3 7 ∧ t < 8) ∨ (g = 0 ∧ ¬ (0 ≤ t ∧ t < ω 3 7 ∧ t < 8)) := by (subst hg; split) <;> simp_all
  refine J_if_eq 21 dX5_isHollow_5 (by decide) (fun h5 => ?_) (fun h5 => ?_)
  · skip
    refine J_iconst 0 dX5_isHollow_21 ⟨by decide, by decide⟩ ?_
    refine JM_zret rfl (by omega) dX5_isHollow_22 ?_
    unfold hol at hQ
    (repeat' split at hQ) <;> first | exact hQ | (exfalso; omega)
  · skip
    refine J_aload_n 0 dX5_isHollow_8 rfl ?_
    refine J_getR lkF_X5_15 rfl dX5_isHollow_9 ?_
    refine J_iload_n 1 dX5_isHollow_12 rfl ?_
    refine J_baload _ rfl rfl (by omega) dX5_isHollow_13 ?_
    refine J_if_eq 21 dX5_isHollow_14 (by decide) (fun h14 => ?_) (fun h14 => ?_)
    · skip
      refine J_iconst 0 dX5_isHollow_21 ⟨by decide, by decide⟩ ?_
      refine JM_zret rfl (by omega) dX5_isHollow_22 ?_
      unfold hol at hQ
      (repeat' split at hQ) <;> first | exact hQ | (exfalso; omega)
    · skip
      refine J_iconst 1 dX5_isHollow_17 ⟨by decide, by decide⟩ ?_
      refine J_goto 22 dX5_isHollow_18 (by decide) ?_
      refine JM_zret rfl (by omega) dX5_isHollow_22 ?_
      unfold hol at hQ
      (repeat' split at hQ) <;> first | exact hQ | (exfalso; omega)

set_option maxRecDepth 100000 in
set_option maxHeartbeats 4000000 in
theorem l_nearest {X : Cx} {d : Nat} {Q : Option MV → Om → Prop} {ω : Om} {t0 m : Int} (hm : 0 ≤ m ∧ m < 12) : ∀ (f : Nat) (a : Int), f ≤ 8 → Q (some (vI (nr ω m f a))) ω → JM X mX5_nearest d Q 17 [some (vR 3), some (vI t0), some (vI m), some (vI a), some (vI (8 - f))] [] ω := by
  intro f
  induction f with
  | zero =>
    intro a hf hQ
    refine J_iload 4 dX5_nearest_17 rfl ?_
    refine J_bipush 8 dX5_nearest_19 ⟨by decide, by decide⟩ (by decide) ?_
    refine J_icmp_ge 85 dX5_nearest_21 (by decide) (fun h21 => ?_) (fun h21 => ?_)
    · skip
      refine J_iconst (-1) dX5_nearest_85 ⟨by decide, by decide⟩ ?_
      refine JM_iret rfl dX5_nearest_86 ?_
      exact hQ
    · skip
      exfalso; omega
  | succ f ih =>
    intro a hf hQ
    unfold nr at hQ
    refine J_iload 4 dX5_nearest_17 rfl ?_
    refine J_bipush 8 dX5_nearest_19 ⟨by decide, by decide⟩ (by decide) ?_
    refine J_icmp_ge 85 dX5_nearest_21 (by decide) (fun h21 => ?_) (fun h21 => ?_)
    · skip
      exfalso; omega
    · skip
      refine J_iload_n 3 dX5_nearest_24 rfl ?_
      refine J_if_lt 85 dX5_nearest_25 (by decide) (fun h25 => ?_) (fun h25 => ?_)
      · skip
        rw [if_neg (by omega)] at hQ
        refine J_iconst (-1) dX5_nearest_85 ⟨by decide, by decide⟩ ?_
        refine JM_iret rfl dX5_nearest_86 ?_
        exact hQ
      · skip
        refine J_iload_n 3 dX5_nearest_28 rfl ?_
        refine J_aload_n 0 dX5_nearest_29 rfl ?_
        refine J_getI 7 lkF_X5_34 rfl rfl rfl dX5_nearest_30 ?_
        refine J_icmp_ge 85 dX5_nearest_33 (by decide) (fun h33 => ?_) (fun h33 => ?_)
        · skip
          rw [if_neg (by omega)] at hQ
          refine J_iconst (-1) dX5_nearest_85 ⟨by decide, by decide⟩ ?_
          refine JM_iret rfl dX5_nearest_86 ?_
          exact hQ
        · skip
          refine J_iload_n 3 dX5_nearest_36 rfl ?_
          refine J_bipush 8 dX5_nearest_37 ⟨by decide, by decide⟩ (by decide) ?_
          refine J_icmp_ge 85 dX5_nearest_39 (by decide) (fun h39 => ?_) (fun h39 => ?_)
          · skip
            rw [if_neg (by omega)] at hQ
            refine J_iconst (-1) dX5_nearest_85 ⟨by decide, by decide⟩ ?_
            refine JM_iret rfl dX5_nearest_86 ?_
            exact hQ
          · skip
            rw [if_pos (by omega)] at hQ
            refine J_aload_n 0 dX5_nearest_42 rfl ?_
            refine J_getR lkF_X5_19 rfl dX5_nearest_43 ?_
            refine J_iload_n 3 dX5_nearest_46 rfl ?_
            refine J_bipush 12 dX5_nearest_47 ⟨by decide, by decide⟩ (by decide) ?_
            refine J_imul dX5_nearest_49 ⟨by omega, by omega⟩ ?_
            refine J_iload_n 2 dX5_nearest_50 rfl ?_
            refine J_iadd dX5_nearest_51 ⟨by omega, by omega⟩ ?_
            refine J_iaload _ rfl rfl (by omega) dX5_nearest_52 ?_
            refine J_iconst (-1) dX5_nearest_53 ⟨by decide, by decide⟩ ?_
            refine J_icmp_eq 72 dX5_nearest_54 (by decide) (fun h54 => ?_) (fun h54 => ?_)
            · skip
              rw [if_neg (by omega)] at hQ
              refine J_aload_n 0 dX5_nearest_72 rfl ?_
              refine J_getR lkF_X5_9 rfl dX5_nearest_73 ?_
              refine J_iload_n 3 dX5_nearest_76 rfl ?_
              refine J_iaload _ rfl rfl (by omega) dX5_nearest_77 ?_
              refine J_istore_3 dX5_nearest_78 (by decide) rfl ?_
              refine J_iinc_4 dX5_nearest_79 (by decide) ⟨by omega, by omega⟩ rfl ?_
              refine J_goto 17 dX5_nearest_82 (by decide) ?_
              have e : (8 - ((f + 1 : Nat) : Int)) + 1 = 8 - (f : Int) := by omega
              rw [e]
              exact ih _ (by omega) hQ
            · skip
              refine J_aload_n 0 dX5_nearest_57 rfl ?_
              refine J_getR lkF_X5_22 rfl dX5_nearest_58 ?_
              refine J_iload_n 3 dX5_nearest_61 rfl ?_
              refine J_iaload _ rfl rfl (by omega) dX5_nearest_62 ?_
              refine J_iload_n 2 dX5_nearest_63 rfl ?_
              refine J_ishr dX5_nearest_64 ?_
              refine J_iconst 1 dX5_nearest_65 ⟨by decide, by decide⟩ ?_
              refine J_iand dX5_nearest_66 ?_
              refine J_if_ne 72 dX5_nearest_67 (by decide) (fun h67 => ?_) (fun h67 => ?_)
              · skip
                rw [if_neg (by omega)] at hQ
                refine J_aload_n 0 dX5_nearest_72 rfl ?_
                refine J_getR lkF_X5_9 rfl dX5_nearest_73 ?_
                refine J_iload_n 3 dX5_nearest_76 rfl ?_
                refine J_iaload _ rfl rfl (by omega) dX5_nearest_77 ?_
                refine J_istore_3 dX5_nearest_78 (by decide) rfl ?_
                refine J_iinc_4 dX5_nearest_79 (by decide) ⟨by omega, by omega⟩ rfl ?_
                refine J_goto 17 dX5_nearest_82 (by decide) ?_
                have e : (8 - ((f + 1 : Nat) : Int)) + 1 = 8 - (f : Int) := by omega
                rw [e]
                exact ih _ (by omega) hQ
              · skip
                rw [if_pos (by omega)] at hQ
                refine J_iload_n 3 dX5_nearest_70 rfl ?_
                refine JM_iret rfl dX5_nearest_71 ?_
                exact hQ

set_option maxRecDepth 100000 in
set_option maxHeartbeats 4000000 in
theorem kX5_nearest {X : Cx} {d : Nat} {ω : Om} {Q : Option MV → Om → Prop} {t m : Int} (hQ : Q (some (vI (nrS ω t m))) ω) : Mc X mX5_nearest d [vR 3, vI t, vI m] ω Q := by
  unfold nrS at hQ
  refine Mc_of [some (vR 3), some (vI t), some (vI m), none, none] (by decide +kernel) rfl (Nat.le_of_ble_eq_true rfl) ?_
  refine J_iload_n 2 dX5_nearest_0 rfl ?_
  refine J_if_lt 10 dX5_nearest_1 (by decide) (fun h1 => ?_) (fun h1 => ?_)
  · skip
    rw [if_neg (by omega)] at hQ
    refine J_iconst (-1) dX5_nearest_10 ⟨by decide, by decide⟩ ?_
    refine JM_iret rfl dX5_nearest_11 ?_
    exact hQ
  · skip
    refine J_iload_n 2 dX5_nearest_4 rfl ?_
    refine J_bipush 12 dX5_nearest_5 ⟨by decide, by decide⟩ (by decide) ?_
    refine J_icmp_lt 12 dX5_nearest_7 (by decide) (fun h7 => ?_) (fun h7 => ?_)
    · skip
      rw [if_pos (by omega)] at hQ
      refine J_iload_n 1 dX5_nearest_12 rfl ?_
      refine J_istore_3 dX5_nearest_13 (by decide) rfl ?_
      refine J_iconst 0 dX5_nearest_14 ⟨by decide, by decide⟩ ?_
      refine J_istore_4 dX5_nearest_15 (by decide) rfl ?_
      exact l_nearest (by omega) 8 t (by omega) hQ
    · skip
      rw [if_neg (by omega)] at hQ
      refine J_iconst (-1) dX5_nearest_10 ⟨by decide, by decide⟩ ?_
      refine JM_iret rfl dX5_nearest_11 ?_
      exact hQ

set_option maxRecDepth 100000 in
set_option maxHeartbeats 4000000 in
theorem l_answerBits {X : Cx} {d : Nat} {Q : Option MV → Om → Prop} {ω : Om} {t : Int} : ∀ (n k : Nat), k + n = 6 → Q (some (vI (bitsF (fun m => decide (¬ nrS ω t m = -1)) 6))) ω → JM X mX5_answerBits (d + 1) Q 4 [some (vR 3), some (vI t), some (vI (bitsF (fun m => decide (¬ nrS ω t m = -1)) k)), some (vI k)] [] ω := by
  intro n
  induction n with
  | zero =>
    intro k hk hQ
    refine J_iload_n 3 dX5_answerBits_4 rfl ?_
    refine J_bipush 6 dX5_answerBits_5 ⟨by decide, by decide⟩ (by decide) ?_
    refine J_icmp_ge 32 dX5_answerBits_7 (by decide) (fun h7 => ?_) (fun h7 => ?_)
    · skip
      refine J_iload_n 2 dX5_answerBits_32 rfl ?_
      refine JM_iret rfl dX5_answerBits_33 ?_
      rw [show k = 6 from by omega]; exact hQ
    · skip
      exfalso; omega
  | succ n ih =>
    intro k hk hQ
    refine J_iload_n 3 dX5_answerBits_4 rfl ?_
    refine J_bipush 6 dX5_answerBits_5 ⟨by decide, by decide⟩ (by decide) ?_
    refine J_icmp_ge 32 dX5_answerBits_7 (by decide) (fun h7 => ?_) (fun h7 => ?_)
    · skip
      exfalso; omega
    · skip
      refine J_aload_n 0 dX5_answerBits_10 rfl ?_
      refine J_iload_n 1 dX5_answerBits_11 rfl ?_
      refine J_iload_n 3 dX5_answerBits_12 rfl ?_
      refine JM_V2 lkM_X5_59 rcv_3 dX5_answerBits_13 (by decide) (Nat.le_of_ble_eq_true rfl) ?_
      refine kX5_nearest ?_
      refine J_iconst (-1) dX5_answerBits_16 ⟨by decide, by decide⟩ ?_
      refine J_icmp_eq 26 dX5_answerBits_17 (by decide) (fun h17 => ?_) (fun h17 => ?_)
      · skip
        refine J_iinc_3 dX5_answerBits_26 (by decide) ⟨by omega, by omega⟩ rfl ?_
        refine J_goto 4 dX5_answerBits_29 (by decide) ?_
        have e := ih (k + 1) (by omega) hQ
        rw [bitsF] at e
        first | (rw [if_pos (by simpa using h17)] at e; exact e) | (rw [if_neg (by simpa using h17)] at e; exact e)
      · skip
        refine J_iload_n 2 dX5_answerBits_20 rfl ?_
        refine J_iconst 1 dX5_answerBits_21 ⟨by decide, by decide⟩ ?_
        refine J_iload_n 3 dX5_answerBits_22 rfl ?_
        refine J_ishl dX5_answerBits_23 ?_
        refine J_ior dX5_answerBits_24 ?_
        refine J_istore_2 dX5_answerBits_25 (by decide) rfl ?_
        refine J_iinc_3 dX5_answerBits_26 (by decide) ⟨by omega, by omega⟩ rfl ?_
        refine J_goto 4 dX5_answerBits_29 (by decide) ?_
        have e := ih (k + 1) (by omega) hQ
        rw [bitsF] at e
        first | (rw [if_pos (by simpa using h17)] at e; exact e) | (rw [if_neg (by simpa using h17)] at e; exact e)

set_option maxRecDepth 100000 in
set_option maxHeartbeats 4000000 in
theorem kX5_answerBits {X : Cx} {d : Nat} {ω : Om} {Q : Option MV → Om → Prop} {t : Int} (hQ : Q (some (vI (bitsF (fun m => decide (¬ nrS ω t m = -1)) 6))) ω) : Mc X mX5_answerBits (d + 1) [vR 3, vI t] ω Q := by
  refine Mc_of [some (vR 3), some (vI t), none, none] (by decide +kernel) rfl (Nat.le_of_ble_eq_true rfl) ?_
  refine J_iconst 0 dX5_answerBits_0 ⟨by decide, by decide⟩ ?_
  refine J_istore_2 dX5_answerBits_1 (by decide) rfl ?_
  refine J_iconst 0 dX5_answerBits_2 ⟨by decide, by decide⟩ ?_
  refine J_istore_3 dX5_answerBits_3 (by decide) rfl ?_
  exact l_answerBits 6 0 rfl hQ
end
section
/-! traces, as they should be -/
/-- the cells of the tree are τ's -/
def TE (τ ω : Om) : Prop := ω 3 = τ 3 ∧ ω 12 = τ 12 ∧ ω 13 = τ 13 ∧ ω 14 = τ 14 ∧ ω 15 = τ 15 ∧ ω 16 = τ 16 ∧ ω 17 = τ 17 ∧ ω 18 = τ 18
theorem TE.rf (τ : Om) : TE τ τ := ⟨rfl, rfl, rfl, rfl, rfl, rfl, rfl, rfl⟩
/-- outside of the cells K nothing has changed -/
def Fr (K : List Nat) (ω ω' : Om) : Prop := ∀ k, k ∉ K → ω' k = ω k
theorem Fr.rf {K : List Nat} {ω : Om} : Fr K ω ω := fun _ _ => rfl
theorem Fr.tr {K : List Nat} {a b c : Om} (h1 : Fr K a b) (h2 : Fr K b c) : Fr K a c := fun k hk => (h2 k hk).trans (h1 k hk)
theorem Fr.mono {K K' : List Nat} {a b : Om} (h : Fr K a b) (hs : ∀ k ∈ K, k ∈ K') : Fr K' a b := fun k hk => h k (fun q => hk (hs k q))
theorem Fr.up {K : List Nat} {ω ω' : Om} {k : Nat} {i z : Int} (h : Fr K ω ω') (hk : k ∈ K) : Fr K ω (up ω' k i z) := fun q hq => by
  have hne : q ≠ k := fun e => hq (by rw [e]; exact hk)
  funext j
  rw [up_k hne, h q hq]
theorem up_f {ω : Om} {k k' : Nat} {i z : Int} (h : k' ≠ k) : up ω k i z k' = ω k' := by funext j; exact up_k h
theorem TE.fr {τ ω ω' : Om} {K : List Nat} (h : TE τ ω) (hf : Fr K ω ω') (hk : ([3, 12, 13, 14, 15, 16, 17, 18] : List Nat).all (fun k => !K.contains k) = true) : TE τ ω' := by
  simp only [List.all_cons, List.all_nil, Bool.and_eq_true, Bool.not_eq_true', List.contains_eq_mem, decide_eq_false_iff_not] at hk
  obtain ⟨a, b, c, d, e, f, g, i, -⟩ := hk
  obtain ⟨h1, h2, h3, h4, h5, h6, h7, h8⟩ := h
  exact ⟨(hf _ a).trans h1, (hf _ b).trans h2, (hf _ c).trans h3, (hf _ d).trans h4, (hf _ e).trans h5, (hf _ f).trans h6, (hf _ g).trans h7, (hf _ i).trans h8⟩
theorem hb_TE {τ ω : Om} (h : TE τ ω) (t m : Int) : hb ω t m = hb τ t m := by unfold hb; rw [h.1, h.2.2.2.1]
theorem pr_TE {τ ω : Om} (h : TE τ ω) (t : Int) : pr ω t = pr τ t := by unfold pr; rw [h.1, h.2.1]
theorem hds_TE {τ ω : Om} (h : TE τ ω) (t m : Int) : hds ω t m = hds τ t m := by unfold hds; rw [h.1, h.2.2.2.2.1]
theorem hol_TE {τ ω : Om} (h : TE τ ω) (t : Int) : hol ω t = hol τ t := by unfold hol; rw [h.1, h.2.2.1]
theorem itA_TE {τ ω : Om} (h : TE τ ω) (t m : Int) : itA ω t m = itA τ t m := by unfold itA; rw [h.1, h.2.2.2.2.2.2.1, h.2.2.2.2.2.2.2]
theorem nr_TE {τ ω : Om} (h : TE τ ω) (m : Int) : ∀ (f : Nat) (t : Int), nr ω m f t = nr τ m f t := by
  intro f
  induction f with
  | zero => intro t; rfl
  | succ f ih => intro t; unfold nr; rw [h.1, h.2.2.2.1, h.2.2.2.2.1, h.2.1, ih]
theorem nrS_TE {τ ω : Om} (h : TE τ ω) (t m : Int) : nrS ω t m = nrS τ t m := by unfold nrS; rw [nr_TE h]
/-- the first places of f hold the list, its last one first -/
def Arr (f : Int → Int) : List Int → Prop
  | [] => True
  | x :: r => f r.length = x ∧ Arr f r
theorem Arr_up {ω : Om} {k : Nat} {i z : Int} : ∀ {l : List Int}, (l.length : Int) ≤ i → Arr (ω k) l → Arr (up ω k i z k) l := by
  intro l
  induction l with
  | nil => intro _ _; trivial
  | cons x r ih =>
    intro hi h
    have hl : ((x :: r).length : Int) = r.length + 1 := by simp
    refine ⟨?_, ih (by omega) h.2⟩
    rw [up_i (by omega)]; exact h.1
theorem Arr_push {ω : Om} {k : Nat} {z : Int} {l : List Int} (h : Arr (ω k) l) : Arr (up ω k l.length z k) (z :: l) := ⟨up_s, Arr_up (Int.le_refl _) h⟩
theorem Arr_at {f : Int → Int} : ∀ {l : List Int} {i : Nat}, Arr f l → ∀ (h : i < l.length), f i = l[l.length - 1 - i]'(by omega) := by
  intro l
  induction l with
  | nil => intro i _ h; simp at h
  | cons x r ih =>
    intro i h hi
    by_cases e : i = r.length
    · subst e; simpa using h.1
    · have hi' : i < r.length := by simp at hi; omega
      rw [ih h.2 hi']
      have : (x :: r).length - 1 - i = (r.length - 1 - i) + 1 := by simp; omega
      simp only [this, List.getElem_cons_succ]
theorem Arr_ext {f g : Int → Int} : ∀ {l l' : List Int}, Arr f l → Arr g l' → l.length = l'.length → ((∀ i : Nat, i < l.length → f i = g i) ↔ l = l') := by
  intro l
  induction l with
  | nil => intro l' _ _ hl; cases l' with
    | nil => simp
    | cons _ _ => simp at hl
  | cons x r ih =>
    intro l' h h' hl
    cases l' with
    | nil => simp at hl
    | cons y s =>
      have hl' : r.length = s.length := by simpa using hl
      have hi := ih h.2 h'.2 hl'
      constructor
      · intro q
        have e1 : x = y := by
          have := q r.length (by simp)
          rw [h.1] at this
          rw [this, hl']; exact h'.1
        rw [e1, hi.mp (fun i hi' => q i (by simp; omega))]
      · rintro e
        cases e
        intro i hi'
        by_cases e : i = r.length
        · subst e; rw [h.1, h'.1]
        · exact hi.mpr rfl i (by simp at hi'; omega)
/-- events (the last one first, each 4 times its number and its kind), the bodies that run (the last one first; body, class, place), how many at most -/
abbrev TS : Type := List Int × List (Int × Int × Int) × Int
def useT (τ : Om) (s : TS) (h f : Int) : TS := ((if hb τ (nrS τ h f) f = -1 then 4 * f + 3 else 4 * hb τ (nrS τ h f) f + 2) :: s.1, s.2)
def meetT (τ : Om) (s : TS) (h m : Int) : TS :=
  if hb τ h m = -1 then ((4 * m + 3) :: s.1, s.2)
  else if (s.2.1.any fun x => x.1 == hb τ h m) = true then ((4 * hb τ h m + 1) :: s.1, s.2)
  else ((4 * hb τ h m + 0) :: s.1, (hb τ h m, h, 0) :: s.2.1, if s.2.2 < (s.2.1.length : Int) + 1 then (s.2.1.length : Int) + 1 else s.2.2)
def homT (τ : Om) (ty h it : Int) : Int := if 20 ≤ it then nrS τ (pr τ h) (it - 20) else if hds τ h it = 0 then nrS τ ty it else h
def stepT (τ : Om) (ty : Int) (s : TS) : TS := match s.2.1 with
  | [] => s
  | (b, h, p) :: r => if itA τ b p = -1 then (s.1, r, s.2.2) else if 6 ≤ itA τ b p ∧ itA τ b p < 12 then useT τ (s.1, (b, h, p + 1) :: r, s.2.2) h (itA τ b p) else meetT τ (s.1, (b, h, p + 1) :: r, s.2.2) (homT τ ty h (itA τ b p)) (itA τ b p % 20)
def runT (τ : Om) (ty : Int) : Nat → TS → TS
  | 0, s => s
  | f + 1, s => if s.2.1.isEmpty = true ∨ 60 ≤ s.1.length then s else runT τ ty f (stepT τ ty s)
def startT (τ : Om) (ty m : Int) : TS := meetT τ ([], [], -1) (nrS τ ty m) m
/-- the trace of a class and a method that it answers; none: it doesn't -/
def trT (τ : Om) (ty m : Int) : Option TS := if nrS τ ty m = -1 then none else some (runT τ ty 120 (startT τ ty m))
/-- a tree that can be -/
def WfT (τ : Om) : Prop := (0 ≤ τ 3 7 ∧ τ 3 7 ≤ 8) ∧ (0 ≤ τ 3 8 ∧ τ 3 8 ≤ 40) ∧ (∀ t, 0 ≤ t → t < τ 3 7 → -1 ≤ τ 12 t ∧ τ 12 t < t) ∧
  (∀ t m, 0 ≤ t → t < τ 3 7 → 0 ≤ m → m < 6 → -1 ≤ τ 14 (t * 12 + m) ∧ τ 14 (t * 12 + m) < τ 3 8) ∧ (∀ t m, 0 ≤ t → t < τ 3 7 → 6 ≤ m → m < 12 → -1 ≤ τ 14 (t * 12 + m) ∧ τ 14 (t * 12 + m) < 96) ∧
  (∀ t, 0 ≤ t → t < τ 3 7 → 0 ≤ τ 15 t ∧ τ 15 t < 64) ∧ (∀ t m, 0 ≤ t → t < τ 3 7 → 0 ≤ m → m < 6 → zb (τ 15 t) m = 1 → ¬ τ 14 (t * 12 + m) = -1) ∧
  (∀ b, 0 ≤ b → b < τ 3 8 → 0 ≤ τ 17 b ∧ τ 17 b ≤ 6) ∧ (∀ b k, 0 ≤ b → b < τ 3 8 → 0 ≤ k → k < τ 17 b → (0 ≤ τ 18 (b * 6 + k) ∧ τ 18 (b * 6 + k) < 12) ∨ (20 ≤ τ 18 (b * 6 + k) ∧ τ 18 (b * 6 + k) < 26)) ∧
  (∀ t, 0 ≤ t → t < τ 3 7 → τ 13 t = 0 ∨ τ 13 t = 1)
/-- the tracer's cells hold s, over the tree τ -/
def TR (τ ω : Om) (s : TS) : Prop := TE τ ω ∧ ω 4 7 = s.1.length ∧ Arr (ω 19) s.1 ∧ ω 4 6 = s.2.1.length ∧ Arr (ω 20) (s.2.1.map (·.1)) ∧ Arr (ω 21) (s.2.1.map (·.2.1)) ∧ Arr (ω 22) (s.2.1.map (·.2.2)) ∧ ω 4 8 = s.2.2 ∧
  ∀ c : Nat, c < 64 → tbL (ω 4 5) c = s.2.1.any (fun x => x.1 == (c : Int))
def TW (s : TS) : Prop := (∀ x ∈ s.2.1, 0 ≤ x.1 ∧ x.1 < 40 ∧ 0 ≤ x.2.2 ∧ x.2.2 ≤ 6) ∧ (s.2.1.map (·.1)).Nodup ∧ (-1 ≤ s.2.2 ∧ s.2.2 ≤ 60) ∧ s.2.1.length ≤ s.1.length ∧ s.1.length ≤ 60
theorem pigeon : ∀ (n : Nat) (l : List Int), l.Nodup → (∀ x ∈ l, 0 ≤ x ∧ x < n) → l.length ≤ n := by
  intro n
  induction n with
  | zero =>
    intro l _ h
    cases l with
    | nil => simp
    | cons x r => have := h x List.mem_cons_self; omega
  | succ n ih =>
    intro l hn h
    by_cases hm : (n : Int) ∈ l
    · have h1 := ih (l.erase n) (hn.erase _) (fun x hx => by
        have h2 := (hn.mem_erase_iff).mp hx
        have h3 := h x h2.2
        have h4 := h2.1
        constructor
        · omega
        · have : x ≠ (n : Int) := h4
          omega)
      rw [List.length_erase_of_mem hm] at h1
      omega
    · have h1 := ih l hn (fun x hx => by
        have h3 := h x hx
        have : x ≠ (n : Int) := fun e => hm (e ▸ hx)
        omega)
      omega
theorem J_ldc2z {X : Cx} {A : Nat → Prop} {own : String} {cc : ByteArray} {nL : Nat} {P : PT} {pc : Nat} {lv : List (Option MV)} {st : List MV} {ω : Om} {index : Nat} {v : Int64} (z : Int) (hw : Cond.constantLong own index v ∈ gTbl) (hz : v.toInt = z) (hd : decode cc pc = .ok (.ldc2_w index, 3)) (k : J X A own cc nL P (pc + 3) lv (vL z :: st) ω) : J X A own cc nL P pc lv st ω := by
  subst hz; exact J_ldc2 hw hd k
theorem J_ldcwz {X : Cx} {A : Nat → Prop} {own : String} {cc : ByteArray} {nL : Nat} {P : PT} {pc : Nat} {lv : List (Option MV)} {st : List MV} {ω : Om} {index : Nat} {v : Int32} (z : Int) (hw : Cond.constant own index v ∈ gTbl) (hz : v.toInt = z) (hd : decode cc pc = .ok (.ldc_w index, 3)) (k : J X A own cc nL P (pc + 3) lv (vI z :: st) ω) : J X A own cc nL P pc lv st ω := by
  subst hz; exact J_ldcw hw hd k
end
section
/-! the tracer -/
theorem TR_note {τ ω : Om} {s : TS} {c : Int} (h : TR τ ω s) : TR τ (up (up ω 19 (ω 4 7) c) 4 7 (ω 4 7 + 1)) (c :: s.1, s.2) := by
  obtain ⟨h1, h2, h3, h4, h5, h6, h7, h8, h9⟩ := h
  refine ⟨h1.fr (K := [4, 19]) ((Fr.rf.up (by decide)).up (by decide)) rfl, ?_, ?_, ?_, ?_, ?_, ?_, ?_, ?_⟩
  · rw [up_s, h2]; simp
  · rw [up_f (by decide), h2]; exact Arr_push h3
  · rw [up_i (by decide), up_k (by decide)]; exact h4
  · rw [up_f (by decide), up_f (by decide)]; exact h5
  · rw [up_f (by decide), up_f (by decide)]; exact h6
  · rw [up_f (by decide), up_f (by decide)]; exact h7
  · rw [up_i (by decide), up_k (by decide)]; exact h8
  · rw [up_i (by decide), up_k (by decide)]; exact h9
theorem any_has {l : List (Int × Int × Int)} {c : Int} : (l.any fun x => x.1 == c) = true ↔ c ∈ l.map (·.1) := by
  simp only [List.any_eq_true, List.mem_map, beq_iff_eq]
theorem TR_enter {τ ω ω' : Om} {s : TS} {b h : Int} (hT : TR τ ω s) (hb : 0 ≤ b ∧ b < 40)
    (he : ω' = up (up (up (up (up ω 20 (ω 4 6) b) 21 (ω 4 6) h) 22 (ω 4 6) 0) 4 5 (lOr (ω 4 5) (lShl 1 b))) 4 6 (ω 4 6 + 1)) (dp : Int) : (dp = s.2.2 → TR τ ω' (s.1, (b, h, 0) :: s.2.1, dp)) ∧ TR τ (up ω' 4 8 dp) (s.1, (b, h, 0) :: s.2.1, dp) := by
  obtain ⟨h1, h2, h3, h4, h5, h6, h7, h8, h9⟩ := hT
  have e1 : ∀ k, k ≠ 4 → k ≠ 20 → k ≠ 21 → k ≠ 22 → ω' k = ω k := by
    intro k a1 a2 a3 a4
    rw [he, up_f a1, up_f a1, up_f a4, up_f a3, up_f a2]
  have e2 : ∀ i, i ≠ 5 → i ≠ 6 → ω' 4 i = ω 4 i := by
    intro i a1 a2
    rw [he, up_i a2, up_i a1, up_k (by decide), up_k (by decide), up_k (by decide)]
  have e5 : ω' 4 5 = lOr (ω 4 5) (lShl 1 b) := by rw [he, up_i (by decide), up_s]
  have e6 : ω' 4 6 = ω 4 6 + 1 := by rw [he, up_s]
  have e20 : ω' 20 = up ω 20 (ω 4 6) b 20 := by rw [he, up_f (by decide), up_f (by decide), up_f (by decide), up_f (by decide)]
  have e21 : ω' 21 = up ω 21 (ω 4 6) h 21 := by
    rw [he, up_f (by decide), up_f (by decide), up_f (by decide)]; funext j; unfold up; split
    · rfl
    · rw [if_neg (by simp)]
  have e22 : ω' 22 = up ω 22 (ω 4 6) 0 22 := by
    rw [he, up_f (by decide), up_f (by decide)]; funext j; unfold up; split
    · rfl
    · rw [if_neg (by simp), if_neg (by simp)]
  have hTE : TE τ ω' := by
    obtain ⟨a1, a2, a3, a4, a5, a6, a7, a8⟩ := h1
    exact ⟨(e1 _ (by decide) (by decide) (by decide) (by decide)).trans a1, (e1 _ (by decide) (by decide) (by decide) (by decide)).trans a2, (e1 _ (by decide) (by decide) (by decide) (by decide)).trans a3, (e1 _ (by decide) (by decide) (by decide) (by decide)).trans a4, (e1 _ (by decide) (by decide) (by decide) (by decide)).trans a5, (e1 _ (by decide) (by decide) (by decide) (by decide)).trans a6, (e1 _ (by decide) (by decide) (by decide) (by decide)).trans a7, (e1 _ (by decide) (by decide) (by decide) (by decide)).trans a8⟩
  have k20 : Arr (ω' 20) (b :: s.2.1.map (·.1)) := by rw [e20, h4]; have := Arr_push (z := b) h5; rwa [List.length_map] at this
  have k21 : Arr (ω' 21) (h :: s.2.1.map (·.2.1)) := by rw [e21, h4]; have := Arr_push (z := h) h6; rwa [List.length_map] at this
  have k22 : Arr (ω' 22) (0 :: s.2.1.map (·.2.2)) := by rw [e22, h4]; have := Arr_push (z := 0) h7; rwa [List.length_map] at this
  have kb : ∀ c : Nat, c < 64 → tbL (ω' 4 5) c = ((b, h, (0 : Int)) :: s.2.1).any (fun x => x.1 == (c : Int)) := by
    intro c hc
    have hbn : b = ((b.toNat : Nat) : Int) := by omega
    rw [e5, hbn, bit_or _ (by omega) hc, h9 c hc]
    simp only [List.any_cons]
    rw [Bool.or_comm]
    congr 1
    rw [Bool.eq_iff_iff]; simp only [decide_eq_true_eq, beq_iff_eq]; omega
  refine ⟨fun hd => ⟨hTE, ?_, ?_, ?_, k20, k21, k22, ?_, kb⟩, ?_⟩
  · rw [e2 7 (by decide) (by decide)]; exact h2
  · rw [e1 _ (by decide) (by decide) (by decide) (by decide)]; exact h3
  · rw [e6, h4]; simp
  · rw [e2 8 (by decide) (by decide), h8, hd]
  · refine ⟨hTE.fr (K := [4]) (Fr.rf.up (by decide)) rfl, ?_, ?_, ?_, ?_, ?_, ?_, ?_, ?_⟩
    · rw [up_i (by decide), e2 7 (by decide) (by decide)]; exact h2
    · rw [up_f (by decide), e1 _ (by decide) (by decide) (by decide) (by decide)]; exact h3
    · rw [up_i (by decide), e6, h4]; simp
    · rw [up_f (by decide)]; exact k20
    · rw [up_f (by decide)]; exact k21
    · rw [up_f (by decide)]; exact k22
    · rw [up_s]
    · rw [up_i (by decide)]; exact kb
theorem TR_leave {τ ω : Om} {ev : List Int} {b h p : Int} {r : List (Int × Int × Int)} {dp : Int} (hT : TR τ ω (ev, (b, h, p) :: r, dp)) (hb : 0 ≤ b ∧ b < 40) (hn : b ∉ r.map (·.1)) : TR τ (up (up ω 4 6 (ω 4 6 - 1)) 4 5 (lAnd (ω 4 5) (lXor (lShl 1 b) (-1)))) (ev, r, dp) := by
  obtain ⟨h1, h2, h3, h4, h5, h6, h7, h8, h9⟩ := hT
  refine ⟨h1.fr (K := [4]) ((Fr.rf.up (by decide)).up (by decide)) rfl, ?_, ?_, ?_, ?_, ?_, ?_, ?_, ?_⟩
  · rw [up_i (by decide), up_i (by decide)]; exact h2
  · rw [up_f (by decide), up_f (by decide)]; exact h3
  · rw [up_i (by decide), up_s, h4]; simp
  · rw [up_f (by decide), up_f (by decide)]; exact h5.2
  · rw [up_f (by decide), up_f (by decide)]; exact h6.2
  · rw [up_f (by decide), up_f (by decide)]; exact h7.2
  · rw [up_i (by decide), up_i (by decide)]; exact h8
  · intro c hc
    have hbn : b = ((b.toNat : Nat) : Int) := by omega
    rw [up_s]
    rw [hbn, bit_clr _ (by omega) hc, h9 c hc]
    simp only [List.any_cons]
    by_cases e : c = b.toNat
    · have e2 : (c : Int) = b := by omega
      have : (r.any fun x => x.1 == (c : Int)) = false := by
        rw [Bool.eq_false_iff]; intro q; rw [any_has] at q; exact hn (e2 ▸ q)
      rw [this]; simp [e]
    · have e2 : (b == (c : Int)) = false := by simp; omega
      simp [e, e2]
theorem TR_next {τ ω : Om} {ev : List Int} {b h p : Int} {r : List (Int × Int × Int)} {dp : Int} (hT : TR τ ω (ev, (b, h, p) :: r, dp)) : TR τ (up ω 22 (ω 4 6 - 1) (p + 1)) (ev, (b, h, p + 1) :: r, dp) := by
  obtain ⟨h1, h2, h3, h4, h5, h6, h7, h8, h9⟩ := hT
  have e : ω 4 6 - 1 = ((r.map (·.2.2)).length : Int) := by rw [h4]; simp
  refine ⟨h1.fr (K := [22]) (Fr.rf.up (by decide)) rfl, ?_, ?_, ?_, ?_, ?_, ?_, ?_, ?_⟩
  · rw [up_k (by decide)]; exact h2
  · rw [up_f (by decide)]; exact h3
  · rw [up_k (by decide)]; exact h4
  · rw [up_f (by decide)]; exact h5
  · rw [up_f (by decide)]; exact h6
  · rw [e]; exact Arr_push h7.2
  · rw [up_k (by decide)]; exact h8
  · rw [up_k (by decide)]; exact h9
set_option maxRecDepth 100000 in
set_option maxHeartbeats 4000000 in
theorem kX4_note {X : Cx} {d : Nat} {ω : Om} {Q : Option MV → Om → Prop} {k n : Int} {τ : Om} {s : TS} (hT : TR τ ω s) (hl : s.1.length < 60) (hr : InR (4 * n)) (hr2 : InR (4 * n + k)) (hQ : ∀ ω', TR τ ω' ((4 * n + k) :: s.1, s.2) → Fr [4, 19, 20, 21, 22] ω ω' → Q none ω') : Mc X mX4_note d [vR 4, vI k, vI n] ω Q := by
  have hsz : ω 4 7 = s.1.length := hT.2.1
  refine Mc_of [some (vR 4), some (vI k), some (vI n)] (by decide +kernel) rfl (Nat.le_of_ble_eq_true rfl) ?_
  refine J_aload_n 0 dX4_note_0 rfl ?_
  refine J_getI 7 lkF_X4_36 rfl rfl rfl dX4_note_1 ?_
  refine J_if_lt 40 dX4_note_4 (by decide) (fun h4 => ?_) (fun h4 => ?_)
  · skip
    exfalso; omega
  · skip
    refine J_aload_n 0 dX4_note_7 rfl ?_
    refine J_getI 7 lkF_X4_36 rfl rfl rfl dX4_note_8 ?_
    refine J_bipush 60 dX4_note_11 ⟨by decide, by decide⟩ (by decide) ?_
    refine J_icmp_ge 40 dX4_note_13 (by decide) (fun h13 => ?_) (fun h13 => ?_)
    · skip
      exfalso; omega
    · skip
      refine J_aload_n 0 dX4_note_16 rfl ?_
      refine J_getR lkF_X4_9 rfl dX4_note_17 ?_
      refine J_aload_n 0 dX4_note_20 rfl ?_
      refine J_getI 7 lkF_X4_36 rfl rfl rfl dX4_note_21 ?_
      refine J_iconst 4 dX4_note_24 ⟨by decide, by decide⟩ ?_
      refine J_iload_n 2 dX4_note_25 rfl ?_
      refine J_imul dX4_note_26 hr ?_
      refine J_iload_n 1 dX4_note_27 rfl ?_
      refine J_iadd dX4_note_28 hr2 ?_
      refine J_iastore _ rfl (by omega) dX4_note_29 ?_
      refine J_aload_n 0 dX4_note_30 rfl ?_
      first | refine J_dupR dX4_note_31 ?_ | refine J_dupI dX4_note_31 ?_
      refine J_getI 7 lkF_X4_36 rfl rfl rfl dX4_note_32 ?_
      try simp (config := {decide := true}) only [up_s, up_k, up_i]
      refine J_iconst 1 dX4_note_35 ⟨by decide, by decide⟩ ?_
      refine J_iadd dX4_note_36 ⟨by omega, by omega⟩ ?_
      refine J_putI 7 lkF_X4_36 rfl fp_4_7 rfl dX4_note_37 ?_
      refine JM_vret rfl dX4_note_40 ?_
      exact hQ _ (TR_note hT) ((Fr.up (Fr.up Fr.rf (by decide)) (by decide)))

set_option maxRecDepth 100000 in
set_option maxHeartbeats 4000000 in
theorem kX4_openHome {X : Cx} {d : Nat} {ω : Om} {Q : Option MV → Om → Prop} {τ : Om} {ev : List Int} {b h p : Int} {r : List (Int × Int × Int)} {dp : Int} (hT : TR τ ω (ev, (b, h, p) :: r, dp)) (hl : r.length < 40) (hQ : Q (some (vI h)) ω) : Mc X mX4_openHome d [vR 4] ω Q := by
  have hop : ω 4 6 = r.length + 1 := by have := hT.2.2.2.1; simpa using this
  have hh : ω 21 (ω 4 6 - 1) = h := by have := hT.2.2.2.2.2.1.1; rw [hop]; simpa using this
  refine Mc_of [some (vR 4)] (by decide +kernel) rfl (Nat.le_of_ble_eq_true rfl) ?_
  refine J_aload_n 0 dX4_openHome_0 rfl ?_
  refine J_getI 6 lkF_X4_28 rfl rfl rfl dX4_openHome_1 ?_
  refine J_if_le 30 dX4_openHome_4 (by decide) (fun h4 => ?_) (fun h4 => ?_)
  · skip
    exfalso; omega
  · skip
    refine J_aload_n 0 dX4_openHome_7 rfl ?_
    refine J_getI 6 lkF_X4_28 rfl rfl rfl dX4_openHome_8 ?_
    refine J_bipush 40 dX4_openHome_11 ⟨by decide, by decide⟩ (by decide) ?_
    refine J_icmp_gt 30 dX4_openHome_13 (by decide) (fun h13 => ?_) (fun h13 => ?_)
    · skip
      exfalso; omega
    · skip
      refine J_aload_n 0 dX4_openHome_16 rfl ?_
      refine J_getR lkF_X4_18 rfl dX4_openHome_17 ?_
      refine J_aload_n 0 dX4_openHome_20 rfl ?_
      refine J_getI 6 lkF_X4_28 rfl rfl rfl dX4_openHome_21 ?_
      refine J_iconst 1 dX4_openHome_24 ⟨by decide, by decide⟩ ?_
      refine J_isub dX4_openHome_25 ⟨by omega, by omega⟩ ?_
      refine J_iaload _ rfl rfl (by omega) dX4_openHome_26 ?_
      refine J_goto 31 dX4_openHome_27 (by decide) ?_
      refine JM_iret rfl dX4_openHome_31 ?_
      rw [hh]; exact hQ

set_option maxRecDepth 100000 in
set_option maxHeartbeats 4000000 in
theorem kX4_nextItem {X : Cx} {d : Nat} {ω : Om} {Q : Option MV → Om → Prop} {τ : Om} {ev : List Int} {b h p : Int} {r : List (Int × Int × Int)} {dp : Int} (hT : TR τ ω (ev, (b, h, p) :: r, dp)) (hl : r.length < 40) (hp : 0 ≤ p ∧ p ≤ 6) (hQ : ∀ ω', TR τ ω' (ev, (b, h, p + 1) :: r, dp) → Fr [4, 19, 20, 21, 22] ω ω' → Q (some (vI (itA τ b p))) ω') : Mc X mX4_nextItem (d + 1) [vR 4] ω Q := by
  have hop : ω 4 6 = r.length + 1 := by have := hT.2.2.2.1; simpa using this
  have hb1 : ω 20 (ω 4 6 - 1) = b := by have := hT.2.2.2.2.1.1; rw [hop]; simpa using this
  have hp1 : ω 22 (ω 4 6 - 1) = p := by have := hT.2.2.2.2.2.2.1.1; rw [hop]; simpa using this
  refine Mc_of [some (vR 4), none, none] (by decide +kernel) rfl (Nat.le_of_ble_eq_true rfl) ?_
  refine J_aload_n 0 dX4_nextItem_0 rfl ?_
  refine J_getI 6 lkF_X4_28 rfl rfl rfl dX4_nextItem_1 ?_
  refine J_iconst 1 dX4_nextItem_4 ⟨by decide, by decide⟩ ?_
  refine J_isub dX4_nextItem_5 ⟨by omega, by omega⟩ ?_
  refine J_istore_1 dX4_nextItem_6 (by decide) rfl ?_
  refine J_iload_n 1 dX4_nextItem_7 rfl ?_
  refine J_if_lt 17 dX4_nextItem_8 (by decide) (fun h8 => ?_) (fun h8 => ?_)
  · skip
    exfalso; omega
  · skip
    refine J_iload_n 1 dX4_nextItem_11 rfl ?_
    refine J_bipush 40 dX4_nextItem_12 ⟨by decide, by decide⟩ (by decide) ?_
    refine J_icmp_lt 19 dX4_nextItem_14 (by decide) (fun h14 => ?_) (fun h14 => ?_)
    · skip
      refine J_aload_n 0 dX4_nextItem_19 rfl ?_
      refine J_getR lkF_X4_24 rfl dX4_nextItem_20 ?_
      refine J_aload_n 0 dX4_nextItem_23 rfl ?_
      refine J_getR lkF_X4_15 rfl dX4_nextItem_24 ?_
      refine J_iload_n 1 dX4_nextItem_27 rfl ?_
      refine J_iaload _ rfl rfl (by omega) dX4_nextItem_28 ?_
      refine J_aload_n 0 dX4_nextItem_29 rfl ?_
      refine J_getR lkF_X4_21 rfl dX4_nextItem_30 ?_
      refine J_iload_n 1 dX4_nextItem_33 rfl ?_
      refine J_iaload _ rfl rfl (by omega) dX4_nextItem_34 ?_
      refine JM_V2 lkM_X4_66 rcv_3 dX4_nextItem_35 (by decide) (Nat.le_of_ble_eq_true rfl) ?_
      refine kX5_itemAt ?_
      rw [hb1, hp1, itA_TE hT.1]
      refine J_istore_2 dX4_nextItem_38 (by decide) rfl ?_
      refine J_aload_n 0 dX4_nextItem_39 rfl ?_
      refine J_getR lkF_X4_21 rfl dX4_nextItem_40 ?_
      refine J_iload_n 1 dX4_nextItem_43 rfl ?_
      refine J_dup2 dX4_nextItem_44 ?_
      refine J_iaload _ rfl rfl (by omega) dX4_nextItem_45 ?_
      rw [hp1]
      refine J_iconst 1 dX4_nextItem_46 ⟨by decide, by decide⟩ ?_
      refine J_iadd dX4_nextItem_47 ⟨by omega, by omega⟩ ?_
      refine J_iastore _ rfl (by omega) dX4_nextItem_48 ?_
      refine J_iload_n 2 dX4_nextItem_49 rfl ?_
      refine JM_iret rfl dX4_nextItem_50 ?_
      exact hQ _ (TR_next hT) ((Fr.up Fr.rf (by decide)))
    · skip
      exfalso; omega

set_option maxRecDepth 100000 in
set_option maxHeartbeats 4000000 in
theorem kX4_homeFor {X : Cx} {d : Nat} {ω : Om} {Q : Option MV → Om → Prop} {ty it : Int} {τ : Om} {ev : List Int} {b h p : Int} {r : List (Int × Int × Int)} {dp : Int} (hT : TR τ ω (ev, (b, h, p) :: r, dp)) (hl : r.length < 40) (hi : 0 ≤ it ∧ it < 100) (hQ : Q (some (vI (homT τ ty h it))) ω) : Mc X mX4_homeFor (d + 1) [vR 4, vI ty, vI it] ω Q := by
  unfold homT at hQ
  refine Mc_of [some (vR 4), some (vI ty), some (vI it), none] (by decide +kernel) rfl (Nat.le_of_ble_eq_true rfl) ?_
  refine J_aload_n 0 dX4_homeFor_0 rfl ?_
  refine JM_V0 lkM_X4_69 rcv_4 dX4_homeFor_1 (by decide) (Nat.le_of_ble_eq_true rfl) ?_
  refine kX4_openHome hT hl ?_
  refine J_istore_3 dX4_homeFor_4 (by decide) rfl ?_
  refine J_iload_n 2 dX4_homeFor_5 rfl ?_
  refine J_bipush 20 dX4_homeFor_6 ⟨by decide, by decide⟩ (by decide) ?_
  refine J_icmp_lt 31 dX4_homeFor_8 (by decide) (fun h8 => ?_) (fun h8 => ?_)
  · skip
    rw [if_neg (by omega)] at hQ
    refine J_aload_n 0 dX4_homeFor_31 rfl ?_
    refine J_getR lkF_X4_24 rfl dX4_homeFor_32 ?_
    refine J_iload_n 3 dX4_homeFor_35 rfl ?_
    refine J_iload_n 2 dX4_homeFor_36 rfl ?_
    refine JM_V2 lkM_X4_76 rcv_3 dX4_homeFor_37 (by decide) (Nat.le_of_ble_eq_true rfl) ?_
    refine kX5_hides ?_
    refine J_if_eq 47 dX4_homeFor_40 (by decide) (fun h40 => ?_) (fun h40 => ?_)
    · skip
      rw [hds_TE hT.1] at h40
      rw [if_pos h40] at hQ
      refine J_aload_n 0 dX4_homeFor_47 rfl ?_
      refine J_getR lkF_X4_24 rfl dX4_homeFor_48 ?_
      refine J_iload_n 1 dX4_homeFor_51 rfl ?_
      refine J_iload_n 2 dX4_homeFor_52 rfl ?_
      refine JM_V2 lkM_X4_42 rcv_3 dX4_homeFor_53 (by decide) (Nat.le_of_ble_eq_true rfl) ?_
      refine kX5_nearest ?_
      refine JM_iret rfl dX4_homeFor_56 ?_
      first | exact hQ | (rw [nrS_TE hT.1]; exact hQ) | (rw [nrS_TE hT.1, pr_TE hT.1]; exact hQ)
    · skip
      rw [hds_TE hT.1] at h40
      rw [if_neg h40] at hQ
      refine J_iload_n 3 dX4_homeFor_43 rfl ?_
      refine J_goto 56 dX4_homeFor_44 (by decide) ?_
      refine JM_iret rfl dX4_homeFor_56 ?_
      first | exact hQ | (rw [nrS_TE hT.1]; exact hQ) | (rw [nrS_TE hT.1, pr_TE hT.1]; exact hQ)
  · skip
    rw [if_pos (by omega)] at hQ
    refine J_aload_n 0 dX4_homeFor_11 rfl ?_
    refine J_getR lkF_X4_24 rfl dX4_homeFor_12 ?_
    refine J_aload_n 0 dX4_homeFor_15 rfl ?_
    refine J_getR lkF_X4_24 rfl dX4_homeFor_16 ?_
    refine J_iload_n 3 dX4_homeFor_19 rfl ?_
    refine JM_V1 lkM_X4_72 rcv_3 dX4_homeFor_20 (by decide) (Nat.le_of_ble_eq_true rfl) ?_
    refine kX5_parentOf ?_
    refine J_iload_n 2 dX4_homeFor_23 rfl ?_
    refine J_bipush 20 dX4_homeFor_24 ⟨by decide, by decide⟩ (by decide) ?_
    refine J_isub dX4_homeFor_26 ⟨by omega, by omega⟩ ?_
    refine JM_V2 lkM_X4_42 rcv_3 dX4_homeFor_27 (by decide) (Nat.le_of_ble_eq_true rfl) ?_
    refine kX5_nearest ?_
    refine JM_iret rfl dX4_homeFor_30 ?_
    first | exact hQ | (rw [nrS_TE hT.1]; exact hQ) | (rw [nrS_TE hT.1, pr_TE hT.1]; exact hQ)

set_option maxRecDepth 100000 in
set_option maxHeartbeats 4000000 in
theorem kX4_use {X : Cx} {d : Nat} {ω : Om} {Q : Option MV → Om → Prop} {f : Int} {τ : Om} {ev : List Int} {b h p : Int} {r : List (Int × Int × Int)} {dp : Int} (hT : TR τ ω (ev, (b, h, p) :: r, dp)) (hl : r.length < 40) (he : ev.length < 60) (hf : 0 ≤ f ∧ f < 100) (hv : -1 ≤ hb τ (nrS τ h f) f ∧ hb τ (nrS τ h f) f < 100) (hQ : ∀ ω', TR τ ω' (useT τ (ev, (b, h, p) :: r, dp) h f) → Fr [4, 19, 20, 21, 22] ω ω' → Q none ω') : Mc X mX4_use (d + 1) [vR 4, vI f] ω Q := by
  refine Mc_of [some (vR 4), some (vI f), none] (by decide +kernel) rfl (Nat.le_of_ble_eq_true rfl) ?_
  refine J_aload_n 0 dX4_use_0 rfl ?_
  refine J_getR lkF_X4_24 rfl dX4_use_1 ?_
  refine J_aload_n 0 dX4_use_4 rfl ?_
  refine J_getR lkF_X4_24 rfl dX4_use_5 ?_
  refine J_aload_n 0 dX4_use_8 rfl ?_
  refine JM_V0 lkM_X4_69 rcv_4 dX4_use_9 (by decide) (Nat.le_of_ble_eq_true rfl) ?_
  refine kX4_openHome hT hl ?_
  refine J_iload_n 1 dX4_use_12 rfl ?_
  refine JM_V2 lkM_X4_42 rcv_3 dX4_use_13 (by decide) (Nat.le_of_ble_eq_true rfl) ?_
  refine kX5_nearest ?_
  refine J_iload_n 1 dX4_use_16 rfl ?_
  refine JM_V2 lkM_X4_80 rcv_3 dX4_use_17 (by decide) (Nat.le_of_ble_eq_true rfl) ?_
  refine kX5_heldBy ?_
  rw [hb_TE hT.1, nrS_TE hT.1]
  unfold useT at hQ
  generalize hb τ (nrS τ h f) f = sl at hv hQ ⊢
  refine J_istore_2 dX4_use_20 (by decide) rfl ?_
  refine J_aload_n 0 dX4_use_21 rfl ?_
  refine J_iload_n 2 dX4_use_22 rfl ?_
  refine J_iconst (-1) dX4_use_23 ⟨by decide, by decide⟩ ?_
  refine J_icmp_ne 31 dX4_use_24 (by decide) (fun h24 => ?_) (fun h24 => ?_)
  · skip
    refine J_iconst 2 dX4_use_31 ⟨by decide, by decide⟩ ?_
    refine J_iload_n 2 dX4_use_32 rfl ?_
    refine J_iconst (-1) dX4_use_33 ⟨by decide, by decide⟩ ?_
    refine J_icmp_ne 41 dX4_use_34 (by decide) (fun h34 => ?_) (fun h34 => ?_)
    · skip
      refine J_iload_n 2 dX4_use_41 rfl ?_
      refine JM_V2 lkM_X4_83 rcv_4 dX4_use_42 (by decide) (Nat.le_of_ble_eq_true rfl) ?_
      first | (refine kX4_note hT he ⟨by omega, by omega⟩ ⟨by omega, by omega⟩ (fun ω1 q1 q2 => ?_); (first | rw [if_pos (by omega)] at hQ | rw [if_neg (by omega)] at hQ))
      refine JM_vret rfl dX4_use_45 ?_
      first | exact hQ _ q1 q2 | (exfalso; omega)
    · skip
      refine J_iload_n 1 dX4_use_37 rfl ?_
      refine J_goto 42 dX4_use_38 (by decide) ?_
      refine JM_V2 lkM_X4_83 rcv_4 dX4_use_42 (by decide) (Nat.le_of_ble_eq_true rfl) ?_
      first | (refine kX4_note hT he ⟨by omega, by omega⟩ ⟨by omega, by omega⟩ (fun ω1 q1 q2 => ?_); (first | rw [if_pos (by omega)] at hQ | rw [if_neg (by omega)] at hQ))
      refine JM_vret rfl dX4_use_45 ?_
      first | exact hQ _ q1 q2 | (exfalso; omega)
  · skip
    refine J_iconst 3 dX4_use_27 ⟨by decide, by decide⟩ ?_
    refine J_goto 32 dX4_use_28 (by decide) ?_
    refine J_iload_n 2 dX4_use_32 rfl ?_
    refine J_iconst (-1) dX4_use_33 ⟨by decide, by decide⟩ ?_
    refine J_icmp_ne 41 dX4_use_34 (by decide) (fun h34 => ?_) (fun h34 => ?_)
    · skip
      refine J_iload_n 2 dX4_use_41 rfl ?_
      refine JM_V2 lkM_X4_83 rcv_4 dX4_use_42 (by decide) (Nat.le_of_ble_eq_true rfl) ?_
      first | (refine kX4_note hT he ⟨by omega, by omega⟩ ⟨by omega, by omega⟩ (fun ω1 q1 q2 => ?_); (first | rw [if_pos (by omega)] at hQ | rw [if_neg (by omega)] at hQ))
      refine JM_vret rfl dX4_use_45 ?_
      first | exact hQ _ q1 q2 | (exfalso; omega)
    · skip
      refine J_iload_n 1 dX4_use_37 rfl ?_
      refine J_goto 42 dX4_use_38 (by decide) ?_
      refine JM_V2 lkM_X4_83 rcv_4 dX4_use_42 (by decide) (Nat.le_of_ble_eq_true rfl) ?_
      first | (refine kX4_note hT he ⟨by omega, by omega⟩ ⟨by omega, by omega⟩ (fun ω1 q1 q2 => ?_); (first | rw [if_pos (by omega)] at hQ | rw [if_neg (by omega)] at hQ))
      refine JM_vret rfl dX4_use_45 ?_
      first | exact hQ _ q1 q2 | (exfalso; omega)

theorem hb_R {τ : Om} (hW : WfT τ) (t : Int) {m : Int} (hm : m < 6) : -1 ≤ hb τ t m ∧ hb τ t m < 40 := by
  unfold hb
  split
  · rename_i h
    have := hW.2.2.2.1 t m h.1 h.2.1 h.2.2.2.1 hm
    have := hW.2.1
    omega
  · omega
theorem hb_RF {τ : Om} (hW : WfT τ) (t : Int) {m : Int} (hm : 6 ≤ m) : -1 ≤ hb τ t m ∧ hb τ t m < 96 := by
  unfold hb
  split
  · rename_i h
    have := hW.2.2.2.2.1 t m h.1 h.2.1 hm h.2.2.2.2
    omega
  · omega
theorem itA_R {τ : Om} (hW : WfT τ) (b p : Int) (h : ¬ itA τ b p = -1) : ((0 ≤ itA τ b p ∧ itA τ b p < 12) ∨ (20 ≤ itA τ b p ∧ itA τ b p < 26)) ∧ p < 6 := by
  unfold itA at h ⊢
  split
  · rename_i g
    exact ⟨hW.2.2.2.2.2.2.2.2.1 b p g.1 g.2.1 g.2.2.2.1 g.2.2.2.2.1, g.2.2.2.2.2⟩
  · rename_i g; rw [if_neg g] at h; exact absurd rfl h
theorem TW_len {s : TS} (h : TW s) : s.2.1.length ≤ 40 := by
  have := pigeon 40 (s.2.1.map (·.1)) h.2.1 (fun x hx => by
    obtain ⟨y, h1, h2⟩ := List.mem_map.mp hx
    have := h.1 y h1
    subst h2; omega)
  simpa using this
theorem TW_new {s : TS} {b : Int} (h : TW s) (hb : 0 ≤ b ∧ b < 40) (hn : b ∉ s.2.1.map (·.1)) : s.2.1.length < 40 := by
  have := pigeon 40 (b :: s.2.1.map (·.1)) (List.nodup_cons.mpr ⟨hn, h.2.1⟩) (fun x hx => by
    rcases List.mem_cons.mp hx with rfl | hx
    · omega
    · obtain ⟨y, h1, h2⟩ := List.mem_map.mp hx
      have := h.1 y h1
      subst h2; omega)
  simp at this
  omega
theorem TW_meet {τ : Om} {s : TS} {h m : Int} (hs : TW s) (hl : s.1.length < 60) (hb' : -1 ≤ hb τ h m ∧ hb τ h m < 40) : TW (meetT τ s h m) := by
  unfold meetT
  split
  · exact ⟨hs.1, hs.2.1, hs.2.2.1, Nat.le_trans hs.2.2.2.1 (by simp), by simp; omega⟩
  · split
    · exact ⟨hs.1, hs.2.1, hs.2.2.1, Nat.le_trans hs.2.2.2.1 (by simp), by simp; omega⟩
    · rename_i h1 h2
      have hn : hb τ h m ∉ s.2.1.map (·.1) := fun q => h2 (any_has.mpr q)
      have h3 := hs.2.2.1
      have h4 := hs.2.2.2.1
      refine ⟨fun x hx => ?_, ?_, ?_, ?_, ?_⟩
      · rcases List.mem_cons.mp hx with rfl | hx
        · simp only; omega
        · exact hs.1 x hx
      · simp only [List.map_cons]; exact List.nodup_cons.mpr ⟨hn, hs.2.1⟩
      · simp only; split <;> omega
      · simp; omega
      · simp; omega
theorem TW_use {τ : Om} {s : TS} {h m : Int} (hs : TW s) (hl : s.1.length < 60) : TW (useT τ s h m) := by
  unfold useT
  exact ⟨hs.1, hs.2.1, hs.2.2.1, Nat.le_trans hs.2.2.2.1 (by simp), by simp; omega⟩
theorem TW_pop {ev : List Int} {x : Int × Int × Int} {r : List (Int × Int × Int)} {dp : Int} (h : TW (ev, x :: r, dp)) : TW (ev, r, dp) ∧ x.1 ∉ r.map (·.1) := by
  have h2 : (x.1 :: r.map (·.1)).Nodup := h.2.1
  refine ⟨⟨fun y hy => h.1 y (List.mem_cons_of_mem _ hy), (List.nodup_cons.mp h2).2, h.2.2.1, ?_, h.2.2.2.2⟩, (List.nodup_cons.mp h2).1⟩
  have := h.2.2.2.1
  simp at this ⊢
  omega
theorem TW_bump {ev : List Int} {b h p : Int} {r : List (Int × Int × Int)} {dp : Int} (hs : TW (ev, (b, h, p) :: r, dp)) (hp : p < 6) : TW (ev, (b, h, p + 1) :: r, dp) := by
  refine ⟨fun y hy => ?_, hs.2.1, hs.2.2.1, hs.2.2.2.1, hs.2.2.2.2⟩
  rcases List.mem_cons.mp hy with rfl | hy
  · have := hs.1 (b, h, p) List.mem_cons_self
    simp only at this ⊢; omega
  · exact hs.1 y (List.mem_cons_of_mem _ hy)
theorem TW_step {τ : Om} {ty : Int} {s : TS} (hW : WfT τ) (hs : TW s) (hl : s.1.length < 60) : TW (stepT τ ty s) := by
  obtain ⟨ev, stk, dp⟩ := s
  cases stk with
  | nil => exact hs
  | cons x r =>
    obtain ⟨b, h, p⟩ := x
    simp only [stepT]
    split
    · exact (TW_pop hs).1
    · rename_i h1
      obtain ⟨g1, g2⟩ := itA_R hW b p h1
      split
      · exact TW_use (TW_bump hs g2) hl
      · rename_i h2
        exact TW_meet (TW_bump hs g2) hl (hb_R hW _ (by omega))
set_option maxRecDepth 100000 in
set_option maxHeartbeats 4000000 in
theorem kX4_enter {X : Cx} {d : Nat} {ω : Om} {Q : Option MV → Om → Prop} {b h : Int} {τ : Om} {s : TS} (hT : TR τ ω s) (hl : s.2.1.length < 40) (hb : 0 ≤ b ∧ b < 40) (hQ : ∀ ω', TR τ ω' (s.1, (b, h, 0) :: s.2.1, if s.2.2 < (s.2.1.length : Int) + 1 then (s.2.1.length : Int) + 1 else s.2.2) → Fr [4, 19, 20, 21, 22] ω ω' → Q none ω') : Mc X mX4_enter d [vR 4, vI b, vI h] ω Q := by
  have hop : ω 4 6 = s.2.1.length := hT.2.2.2.1
  have hdp : ω 4 8 = s.2.2 := hT.2.2.2.2.2.2.2.1
  refine Mc_of [some (vR 4), some (vI b), some (vI h)] (by decide +kernel) rfl (Nat.le_of_ble_eq_true rfl) ?_
  refine J_aload_n 0 dX4_enter_0 rfl ?_
  refine J_getI 6 lkF_X4_28 rfl rfl rfl dX4_enter_1 ?_
  refine J_if_lt 16 dX4_enter_4 (by decide) (fun h4 => ?_) (fun h4 => ?_)
  · skip
    exfalso; omega
  · skip
    refine J_aload_n 0 dX4_enter_7 rfl ?_
    refine J_getI 6 lkF_X4_28 rfl rfl rfl dX4_enter_8 ?_
    refine J_bipush 40 dX4_enter_11 ⟨by decide, by decide⟩ (by decide) ?_
    refine J_icmp_lt 17 dX4_enter_13 (by decide) (fun h13 => ?_) (fun h13 => ?_)
    · skip
      refine J_aload_n 0 dX4_enter_17 rfl ?_
      refine J_getR lkF_X4_15 rfl dX4_enter_18 ?_
      refine J_aload_n 0 dX4_enter_21 rfl ?_
      refine J_getI 6 lkF_X4_28 rfl rfl rfl dX4_enter_22 ?_
      refine J_iload_n 1 dX4_enter_25 rfl ?_
      refine J_iastore _ rfl (by omega) dX4_enter_26 ?_
      refine J_aload_n 0 dX4_enter_27 rfl ?_
      refine J_getR lkF_X4_18 rfl dX4_enter_28 ?_
      refine J_aload_n 0 dX4_enter_31 rfl ?_
      refine J_getI 6 lkF_X4_28 rfl rfl rfl dX4_enter_32 ?_
      try simp (config := {decide := true}) only [up_s, up_k, up_i]
      refine J_iload_n 2 dX4_enter_35 rfl ?_
      refine J_iastore _ rfl (by omega) dX4_enter_36 ?_
      refine J_aload_n 0 dX4_enter_37 rfl ?_
      refine J_getR lkF_X4_21 rfl dX4_enter_38 ?_
      refine J_aload_n 0 dX4_enter_41 rfl ?_
      refine J_getI 6 lkF_X4_28 rfl rfl rfl dX4_enter_42 ?_
      try simp (config := {decide := true}) only [up_s, up_k, up_i]
      refine J_iconst 0 dX4_enter_45 ⟨by decide, by decide⟩ ?_
      refine J_iastore _ rfl (by omega) dX4_enter_46 ?_
      refine J_aload_n 0 dX4_enter_47 rfl ?_
      first | refine J_dupR dX4_enter_48 ?_ | refine J_dupI dX4_enter_48 ?_
      refine J_getL 5 lkF_X4_32 rfl rfl dX4_enter_49 ?_
      try simp (config := {decide := true}) only [up_s, up_k, up_i]
      refine J_lconst1 dX4_enter_52 ?_
      refine J_iload_n 1 dX4_enter_53 rfl ?_
      refine J_lshl dX4_enter_54 ?_
      refine J_lor dX4_enter_55 ?_
      refine J_putL 5 lkF_X4_32 rfl fp_4_5 rfl rfl dX4_enter_56 ?_
      refine J_aload_n 0 dX4_enter_59 rfl ?_
      first | refine J_dupR dX4_enter_60 ?_ | refine J_dupI dX4_enter_60 ?_
      refine J_getI 6 lkF_X4_28 rfl rfl rfl dX4_enter_61 ?_
      try simp (config := {decide := true}) only [up_s, up_k, up_i]
      refine J_iconst 1 dX4_enter_64 ⟨by decide, by decide⟩ ?_
      refine J_iadd dX4_enter_65 ⟨by omega, by omega⟩ ?_
      refine J_putI 6 lkF_X4_28 rfl fp_4_6 rfl dX4_enter_66 ?_
      refine J_aload_n 0 dX4_enter_69 rfl ?_
      refine J_getI 6 lkF_X4_28 rfl rfl rfl dX4_enter_70 ?_
      try simp (config := {decide := true}) only [up_s, up_k, up_i]
      refine J_aload_n 0 dX4_enter_73 rfl ?_
      refine J_getI 8 lkF_X4_39 rfl rfl rfl dX4_enter_74 ?_
      try simp (config := {decide := true}) only [up_s, up_k, up_i]
      refine J_icmp_le 88 dX4_enter_77 (by decide) (fun h77 => ?_) (fun h77 => ?_)
      · skip
        refine JM_vret rfl dX4_enter_88 ?_
        first | (rw [if_pos (by omega)] at hQ; exact hQ _ (by have := (TR_enter (h := h) hT hb rfl ((s.2.1.length : Int) + 1)).2; rw [hop] at this ⊢; exact this) ((Fr.up (Fr.up (Fr.up (Fr.up (Fr.up (Fr.up Fr.rf (by decide)) (by decide)) (by decide)) (by decide)) (by decide)) (by decide)))) | (rw [if_neg (by omega)] at hQ; exact hQ _ ((TR_enter (h := h) hT hb rfl s.2.2).1 rfl) ((Fr.up (Fr.up (Fr.up (Fr.up (Fr.up Fr.rf (by decide)) (by decide)) (by decide)) (by decide)) (by decide))))
      · skip
        refine J_aload_n 0 dX4_enter_80 rfl ?_
        refine J_aload_n 0 dX4_enter_81 rfl ?_
        refine J_getI 6 lkF_X4_28 rfl rfl rfl dX4_enter_82 ?_
        try simp (config := {decide := true}) only [up_s, up_k, up_i]
        refine J_putI 8 lkF_X4_39 rfl fp_4_8 rfl dX4_enter_85 ?_
        refine JM_vret rfl dX4_enter_88 ?_
        first | (rw [if_pos (by omega)] at hQ; exact hQ _ (by have := (TR_enter (h := h) hT hb rfl ((s.2.1.length : Int) + 1)).2; rw [hop] at this ⊢; exact this) ((Fr.up (Fr.up (Fr.up (Fr.up (Fr.up (Fr.up Fr.rf (by decide)) (by decide)) (by decide)) (by decide)) (by decide)) (by decide)))) | (rw [if_neg (by omega)] at hQ; exact hQ _ ((TR_enter (h := h) hT hb rfl s.2.2).1 rfl) ((Fr.up (Fr.up (Fr.up (Fr.up (Fr.up Fr.rf (by decide)) (by decide)) (by decide)) (by decide)) (by decide))))
    · skip
      exfalso; omega

set_option maxRecDepth 100000 in
set_option maxHeartbeats 4000000 in
theorem kX4_leave {X : Cx} {d : Nat} {ω : Om} {Q : Option MV → Om → Prop} {τ : Om} {ev : List Int} {b h p : Int} {r : List (Int × Int × Int)} {dp : Int} (hT : TR τ ω (ev, (b, h, p) :: r, dp)) (hl : r.length < 40) (hb : 0 ≤ b ∧ b < 40) (hn : b ∉ r.map (·.1)) (hQ : ∀ ω', TR τ ω' (ev, r, dp) → Fr [4, 19, 20, 21, 22] ω ω' → Q none ω') : Mc X mX4_leave d [vR 4] ω Q := by
  have hop : ω 4 6 = r.length + 1 := by have := hT.2.2.2.1; simpa using this
  have hb1 : ω 20 (ω 4 6 - 1) = b := by have := hT.2.2.2.2.1.1; rw [hop]; simpa using this
  refine Mc_of [some (vR 4)] (by decide +kernel) rfl (Nat.le_of_ble_eq_true rfl) ?_
  refine J_aload_n 0 dX4_leave_0 rfl ?_
  refine J_getI 6 lkF_X4_28 rfl rfl rfl dX4_leave_1 ?_
  refine J_if_le 50 dX4_leave_4 (by decide) (fun h4 => ?_) (fun h4 => ?_)
  · skip
    exfalso; omega
  · skip
    refine J_aload_n 0 dX4_leave_7 rfl ?_
    refine J_getI 6 lkF_X4_28 rfl rfl rfl dX4_leave_8 ?_
    refine J_bipush 40 dX4_leave_11 ⟨by decide, by decide⟩ (by decide) ?_
    refine J_icmp_gt 50 dX4_leave_13 (by decide) (fun h13 => ?_) (fun h13 => ?_)
    · skip
      exfalso; omega
    · skip
      refine J_aload_n 0 dX4_leave_16 rfl ?_
      first | refine J_dupR dX4_leave_17 ?_ | refine J_dupI dX4_leave_17 ?_
      refine J_getI 6 lkF_X4_28 rfl rfl rfl dX4_leave_18 ?_
      refine J_iconst 1 dX4_leave_21 ⟨by decide, by decide⟩ ?_
      refine J_isub dX4_leave_22 ⟨by omega, by omega⟩ ?_
      refine J_putI 6 lkF_X4_28 rfl fp_4_6 rfl dX4_leave_23 ?_
      refine J_aload_n 0 dX4_leave_26 rfl ?_
      first | refine J_dupR dX4_leave_27 ?_ | refine J_dupI dX4_leave_27 ?_
      refine J_getL 5 lkF_X4_32 rfl rfl dX4_leave_28 ?_
      try simp (config := {decide := true}) only [up_s, up_k, up_i]
      refine J_lconst1 dX4_leave_31 ?_
      refine J_aload_n 0 dX4_leave_32 rfl ?_
      refine J_getR lkF_X4_15 rfl dX4_leave_33 ?_
      refine J_aload_n 0 dX4_leave_36 rfl ?_
      refine J_getI 6 lkF_X4_28 rfl rfl rfl dX4_leave_37 ?_
      try simp (config := {decide := true}) only [up_s, up_k, up_i]
      refine J_iaload _ rfl rfl (by omega) dX4_leave_40 ?_
      try simp (config := {decide := true}) only [up_s, up_k, up_i]
      rw [hb1]
      refine J_lshl dX4_leave_41 ?_
      refine J_ldc2z (v := (-1)) (-1) (gm 592 (by decide +kernel) rfl) (by decide) dX4_leave_42 ?_
      refine J_lxor dX4_leave_45 ?_
      refine J_land dX4_leave_46 ?_
      refine J_putL 5 lkF_X4_32 rfl fp_4_5 rfl rfl dX4_leave_47 ?_
      refine JM_vret rfl dX4_leave_50 ?_
      exact hQ _ (TR_leave hT hb hn) ((Fr.up (Fr.up Fr.rf (by decide)) (by decide)))

set_option maxRecDepth 100000 in
set_option maxHeartbeats 4000000 in
theorem kX4_meet {X : Cx} {d : Nat} {ω : Om} {Q : Option MV → Om → Prop} {h m : Int} {τ : Om} {s : TS} (hT : TR τ ω s) (hS : TW s) (hl : s.1.length < 60) (hm : 0 ≤ m ∧ m < 100) (hB : -1 ≤ hb τ h m ∧ hb τ h m < 40) (hQ : ∀ ω', TR τ ω' (meetT τ s h m) → Fr [4, 19, 20, 21, 22] ω ω' → Q none ω') : Mc X mX4_meet (d + 1) [vR 4, vI h, vI m] ω Q := by
  refine Mc_of [some (vR 4), some (vI h), some (vI m), none] (by decide +kernel) rfl (Nat.le_of_ble_eq_true rfl) ?_
  refine J_aload_n 0 dX4_meet_0 rfl ?_
  refine J_getR lkF_X4_24 rfl dX4_meet_1 ?_
  refine J_iload_n 1 dX4_meet_4 rfl ?_
  refine J_iload_n 2 dX4_meet_5 rfl ?_
  refine JM_V2 lkM_X4_80 rcv_3 dX4_meet_6 (by decide) (Nat.le_of_ble_eq_true rfl) ?_
  refine kX5_heldBy ?_
  rw [hb_TE hT.1]
  unfold meetT at hQ
  generalize hb τ h m = b at hB hQ ⊢
  refine J_istore_3 dX4_meet_9 (by decide) rfl ?_
  refine J_iload_n 3 dX4_meet_10 rfl ?_
  refine J_iconst (-1) dX4_meet_11 ⟨by decide, by decide⟩ ?_
  refine J_icmp_ne 24 dX4_meet_12 (by decide) (fun h12 => ?_) (fun h12 => ?_)
  · skip
    rw [if_neg h12] at hQ
    have hbn : b = ((b.toNat : Nat) : Int) := by omega
    have hbit := hT.2.2.2.2.2.2.2.2 b.toNat (by omega)
    have hbit0 := bit_0 (ω 4 5) (b := b.toNat) (by omega)
    rw [← hbn] at hbit hbit0
    refine J_aload_n 0 dX4_meet_24 rfl ?_
    refine J_getL 5 lkF_X4_32 rfl rfl dX4_meet_25 ?_
    refine J_iload_n 3 dX4_meet_28 rfl ?_
    refine J_lshr dX4_meet_29 ?_
    refine J_lconst1 dX4_meet_30 ?_
    refine J_land dX4_meet_31 ?_
    refine J_lconst0 dX4_meet_32 ?_
    refine J_lcmp dX4_meet_33 ?_
    refine J_if_eq 46 dX4_meet_34 (by decide) (fun h34 => ?_) (fun h34 => ?_)
    · skip
      rw [lCmp0, hbit0, hbit] at h34
      rw [if_neg (by rw [h34]; decide)] at hQ
      have hn : b ∉ s.2.1.map (·.1) := fun q => by rw [any_has.mpr q] at h34; cases h34
      refine J_aload_n 0 dX4_meet_46 rfl ?_
      refine J_iconst 0 dX4_meet_47 ⟨by decide, by decide⟩ ?_
      refine J_iload_n 3 dX4_meet_48 rfl ?_
      refine JM_V2 lkM_X4_83 rcv_4 dX4_meet_49 (by decide) (Nat.le_of_ble_eq_true rfl) ?_
      refine kX4_note hT hl ⟨by omega, by omega⟩ ⟨by omega, by omega⟩ (fun ω1 q1 q2 => ?_)
      refine J_aload_n 0 dX4_meet_52 rfl ?_
      refine J_iload_n 3 dX4_meet_53 rfl ?_
      refine J_iload_n 1 dX4_meet_54 rfl ?_
      refine JM_V2 lkM_X4_86 rcv_4 dX4_meet_55 (by decide) (Nat.le_of_ble_eq_true rfl) ?_
      refine kX4_enter q1 (show s.2.1.length < 40 from TW_new hS (by omega) hn) (by omega) (fun ω2 q3 q4 => ?_)
      refine JM_vret rfl dX4_meet_58 ?_
      first | exact hQ _ q1 q2 | exact hQ _ q3 (q2.tr q4)
    · skip
      rw [lCmp0, hbit0, hbit, Bool.not_eq_false] at h34
      rw [if_pos h34] at hQ
      refine J_aload_n 0 dX4_meet_37 rfl ?_
      refine J_iconst 1 dX4_meet_38 ⟨by decide, by decide⟩ ?_
      refine J_iload_n 3 dX4_meet_39 rfl ?_
      refine JM_V2 lkM_X4_83 rcv_4 dX4_meet_40 (by decide) (Nat.le_of_ble_eq_true rfl) ?_
      refine kX4_note hT hl ⟨by omega, by omega⟩ ⟨by omega, by omega⟩ (fun ω1 q1 q2 => ?_)
      refine J_goto 58 dX4_meet_43 (by decide) ?_
      refine JM_vret rfl dX4_meet_58 ?_
      first | exact hQ _ q1 q2 | exact hQ _ q3 (q2.tr q4)
  · skip
    rw [if_pos h12] at hQ
    refine J_aload_n 0 dX4_meet_15 rfl ?_
    refine J_iconst 3 dX4_meet_16 ⟨by decide, by decide⟩ ?_
    refine J_iload_n 2 dX4_meet_17 rfl ?_
    refine JM_V2 lkM_X4_83 rcv_4 dX4_meet_18 (by decide) (Nat.le_of_ble_eq_true rfl) ?_
    refine kX4_note hT hl ⟨by omega, by omega⟩ ⟨by omega, by omega⟩ (fun ω1 q1 q2 => ?_)
    refine J_goto 58 dX4_meet_21 (by decide) ?_
    refine JM_vret rfl dX4_meet_58 ?_
    first | exact hQ _ q1 q2 | exact hQ _ q3 (q2.tr q4)

/-- what the tracer's cells hold behind a run -/
def RunP (τ ω : Om) (o : Option TS) : Prop := match o with
  | none => TE τ ω ∧ ω 4 7 = -1 ∧ ω 4 8 = -1
  | some s => TR τ ω s ∧ TW s
theorem TR_init {τ ω : Om} (h : TE τ ω) : TR τ (up (up (up (up (up ω 4 6 0) 4 5 0) 4 7 (-1)) 4 8 (-1)) 4 7 0) ([], [], -1) := by
  refine ⟨h.fr (K := [4]) (Fr.up (Fr.up (Fr.up (Fr.up (Fr.up Fr.rf (by decide)) (by decide)) (by decide)) (by decide)) (by decide)) rfl, ?_, trivial, ?_, trivial, trivial, trivial, ?_, ?_⟩
  · rw [up_s]; rfl
  · rw [up_i (by decide), up_i (by decide), up_i (by decide), up_i (by decide), up_s]; rfl
  · rw [up_i (by decide), up_s]
  · intro c hc
    rw [up_i (by decide), up_i (by decide), up_i (by decide), up_s, bit_zero]; rfl
theorem TW_init : TW ([], [], -1) := ⟨fun _ h => absurd h List.not_mem_nil, List.nodup_nil, ⟨by decide, by decide⟩, Nat.le_refl _, by decide⟩
set_option maxRecDepth 100000 in
set_option maxHeartbeats 4000000 in
theorem l_run {X : Cx} {d : Nat} {Q : Option MV → Om → Prop} {τ ω0 : Om} {ty m h : Int} (hW : WfT τ) : ∀ (f : Nat) (ω : Om) (s : TS) (it : Option MV), f ≤ 120 → TR τ ω s → TW s → Fr [4, 19, 20, 21, 22] ω0 ω → (∀ ω', TR τ ω' (runT τ ty f s) → TW (runT τ ty f s) → Fr [4, 19, 20, 21, 22] ω0 ω' → Q none ω') → JM X mX4_run (d + 2) Q 50 [some (vR 4), some (vI ty), some (vI m), some (vI h), some (vI (120 - f)), it] [] ω := by
  intro f
  induction f with
  | zero =>
    intro ω s it hf hT hS hF hQ
    refine J_iload 4 dX4_run_50 rfl ?_
    refine J_bipush 120 dX4_run_52 ⟨by decide, by decide⟩ (by decide) ?_
    refine J_icmp_ge 137 dX4_run_54 (by decide) (fun h54 => ?_) (fun h54 => ?_)
    · skip
      refine JM_vret rfl dX4_run_137 ?_
      exact hQ _ hT hS hF
    · skip
      exfalso; omega
  | succ f ih =>
    intro ω s it hf hT hS hF hQ
    have hop : ω 4 6 = s.2.1.length := hT.2.2.2.1
    have hsz : ω 4 7 = s.1.length := hT.2.1
    obtain ⟨ev, stk, dp⟩ := s
    simp only at hop hsz
    unfold runT at hQ
    refine J_iload 4 dX4_run_50 rfl ?_
    refine J_bipush 120 dX4_run_52 ⟨by decide, by decide⟩ (by decide) ?_
    refine J_icmp_ge 137 dX4_run_54 (by decide) (fun h54 => ?_) (fun h54 => ?_)
    · skip
      exfalso; omega
    · skip
      refine J_aload_n 0 dX4_run_57 rfl ?_
      refine J_getI 6 lkF_X4_28 rfl rfl rfl dX4_run_58 ?_
      refine J_if_le 137 dX4_run_61 (by decide) (fun h61 => ?_) (fun h61 => ?_)
      · skip
        have e0 : stk = [] := List.eq_nil_of_length_eq_zero (by omega)
        subst e0
        simp only [List.isEmpty_nil, true_or, if_true] at hQ
        refine JM_vret rfl dX4_run_137 ?_
        exact hQ _ hT hS hF
      · skip
        cases stk with
        | nil => exfalso; simp at hop; omega
        | cons x r =>
        obtain ⟨b, h1, p⟩ := x
        refine J_aload_n 0 dX4_run_64 rfl ?_
        refine J_getI 7 lkF_X4_36 rfl rfl rfl dX4_run_65 ?_
        refine J_bipush 60 dX4_run_68 ⟨by decide, by decide⟩ (by decide) ?_
        refine J_icmp_ge 137 dX4_run_70 (by decide) (fun h70 => ?_) (fun h70 => ?_)
        · skip
          rw [if_pos (Or.inr (by simp only; omega))] at hQ
          refine JM_vret rfl dX4_run_137 ?_
          exact hQ _ hT hS hF
        · skip
          have hl : ev.length < 60 := by omega
          rw [if_neg (by simp only [List.isEmpty_cons, Bool.false_eq_true, false_or]; omega)] at hQ
          have hr40 := TW_len hS
          simp only [List.length_cons] at hr40
          have htop := hS.1 (b, h1, p) List.mem_cons_self
          simp only at htop
          have hstep := TW_step (ty := ty) hW hS hl
          simp only [stepT] at hQ hstep
          refine J_aload_n 0 dX4_run_73 rfl ?_
          refine JM_V0 lkM_X4_52 rcv_4 dX4_run_74 (by decide) (Nat.le_of_ble_eq_true rfl) ?_
          refine kX4_nextItem hT (by omega) (by omega) (fun ω1 q1 q2 => ?_)
          refine J_istore_5 dX4_run_77 (by decide) rfl ?_
          refine J_iload 5 dX4_run_79 rfl ?_
          refine J_iconst (-1) dX4_run_81 ⟨by decide, by decide⟩ ?_
          refine J_icmp_ne 92 dX4_run_82 (by decide) (fun h82 => ?_) (fun h82 => ?_)
          · skip
            rw [if_neg h82] at hQ hstep
            obtain ⟨g1, g2⟩ := itA_R hW b p h82
            have hS1 := TW_bump hS g2
            refine J_iload 5 dX4_run_92 rfl ?_
            refine J_bipush 6 dX4_run_94 ⟨by decide, by decide⟩ (by decide) ?_
            refine J_icmp_lt 115 dX4_run_96 (by decide) (fun h96 => ?_) (fun h96 => ?_)
            · skip
              rw [if_neg (by omega)] at hQ hstep
              refine J_aload_n 0 dX4_run_115 rfl ?_
              refine J_aload_n 0 dX4_run_116 rfl ?_
              refine J_iload_n 1 dX4_run_117 rfl ?_
              refine J_iload 5 dX4_run_118 rfl ?_
              refine JM_V2 lkM_X4_63 rcv_4 dX4_run_120 (by decide) (Nat.le_of_ble_eq_true rfl) ?_
              refine kX4_homeFor q1 (by omega) (by omega) ?_
              refine J_iload 5 dX4_run_123 rfl ?_
              refine J_bipush 20 dX4_run_125 ⟨by decide, by decide⟩ (by decide) ?_
              refine J_irem dX4_run_127 (by omega) (by omega) ?_
              refine JM_V2 lkM_X4_48 rcv_4 dX4_run_128 (by decide) (Nat.le_of_ble_eq_true rfl) ?_
              refine kX4_meet q1 hS1 hl (by omega) (hb_R hW _ (by omega)) (fun ω2 q3 q4 => ?_)
              refine J_iinc_4 dX4_run_131 (by decide) ⟨by omega, by omega⟩ rfl ?_
              refine J_goto 50 dX4_run_134 (by decide) ?_
              have e : (120 - ((f + 1 : Nat) : Int)) + 1 = 120 - (f : Int) := by omega
              rw [e]
              exact ih _ _ _ (by omega) q3 hstep (hF.tr (q2.tr q4)) hQ
            · skip
              refine J_iload 5 dX4_run_99 rfl ?_
              refine J_bipush 12 dX4_run_101 ⟨by decide, by decide⟩ (by decide) ?_
              refine J_icmp_ge 115 dX4_run_103 (by decide) (fun h103 => ?_) (fun h103 => ?_)
              · skip
                rw [if_neg (by omega)] at hQ hstep
                refine J_aload_n 0 dX4_run_115 rfl ?_
                refine J_aload_n 0 dX4_run_116 rfl ?_
                refine J_iload_n 1 dX4_run_117 rfl ?_
                refine J_iload 5 dX4_run_118 rfl ?_
                refine JM_V2 lkM_X4_63 rcv_4 dX4_run_120 (by decide) (Nat.le_of_ble_eq_true rfl) ?_
                refine kX4_homeFor q1 (by omega) (by omega) ?_
                refine J_iload 5 dX4_run_123 rfl ?_
                refine J_bipush 20 dX4_run_125 ⟨by decide, by decide⟩ (by decide) ?_
                refine J_irem dX4_run_127 (by omega) (by omega) ?_
                refine JM_V2 lkM_X4_48 rcv_4 dX4_run_128 (by decide) (Nat.le_of_ble_eq_true rfl) ?_
                refine kX4_meet q1 hS1 hl (by omega) (hb_R hW _ (by omega)) (fun ω2 q3 q4 => ?_)
                refine J_iinc_4 dX4_run_131 (by decide) ⟨by omega, by omega⟩ rfl ?_
                refine J_goto 50 dX4_run_134 (by decide) ?_
                have e : (120 - ((f + 1 : Nat) : Int)) + 1 = 120 - (f : Int) := by omega
                rw [e]
                exact ih _ _ _ (by omega) q3 hstep (hF.tr (q2.tr q4)) hQ
              · skip
                rw [if_pos (by omega)] at hQ hstep
                refine J_aload_n 0 dX4_run_106 rfl ?_
                refine J_iload 5 dX4_run_107 rfl ?_
                refine JM_V1 lkM_X4_59 rcv_4 dX4_run_109 (by decide) (Nat.le_of_ble_eq_true rfl) ?_
                refine kX4_use q1 (by omega) hl (by omega) (by have := hb_RF hW (nrS τ h1 (itA τ b p)) (m := itA τ b p) (by omega); omega) (fun ω2 q3 q4 => ?_)
                refine J_goto 131 dX4_run_112 (by decide) ?_
                refine J_iinc_4 dX4_run_131 (by decide) ⟨by omega, by omega⟩ rfl ?_
                refine J_goto 50 dX4_run_134 (by decide) ?_
                have e : (120 - ((f + 1 : Nat) : Int)) + 1 = 120 - (f : Int) := by omega
                rw [e]
                exact ih _ _ _ (by omega) q3 hstep (hF.tr (q2.tr q4)) hQ
          · skip
            rw [if_pos h82] at hQ hstep
            refine J_aload_n 0 dX4_run_85 rfl ?_
            refine JM_V0 lkM_X4_56 rcv_4 dX4_run_86 (by decide) (Nat.le_of_ble_eq_true rfl) ?_
            refine kX4_leave q1 (by omega) (by omega) (TW_pop hS).2 (fun ω2 q3 q4 => ?_)
            refine J_goto 131 dX4_run_89 (by decide) ?_
            refine J_iinc_4 dX4_run_131 (by decide) ⟨by omega, by omega⟩ rfl ?_
            refine J_goto 50 dX4_run_134 (by decide) ?_
            have e : (120 - ((f + 1 : Nat) : Int)) + 1 = 120 - (f : Int) := by omega
            rw [e]
            exact ih _ _ _ (by omega) q3 hstep (hF.tr (q2.tr q4)) hQ

set_option maxRecDepth 100000 in
set_option maxHeartbeats 4000000 in
theorem kX4_run {X : Cx} {d : Nat} {ω : Om} {Q : Option MV → Om → Prop} {ty m : Int} {τ : Om} (hW : WfT τ) (hE : TE τ ω) (hm : 0 ≤ m ∧ m < 6) (hQ : ∀ ω', RunP τ ω' (trT τ ty m) → Fr [4, 19, 20, 21, 22] ω ω' → Q none ω') : Mc X mX4_run (d + 2) [vR 4, vI ty, vI m] ω Q := by
  refine Mc_of [some (vR 4), some (vI ty), some (vI m), none, none, none] (by decide +kernel) rfl (Nat.le_of_ble_eq_true rfl) ?_
  refine J_aload_n 0 dX4_run_0 rfl ?_
  refine J_iconst 0 dX4_run_1 ⟨by decide, by decide⟩ ?_
  refine J_putI 6 lkF_X4_28 rfl fp_4_6 rfl dX4_run_2 ?_
  refine J_aload_n 0 dX4_run_5 rfl ?_
  refine J_lconst0 dX4_run_6 ?_
  refine J_putL 5 lkF_X4_32 rfl fp_4_5 rfl rfl dX4_run_7 ?_
  refine J_aload_n 0 dX4_run_10 rfl ?_
  refine J_iconst (-1) dX4_run_11 ⟨by decide, by decide⟩ ?_
  refine J_putI 7 lkF_X4_36 rfl fp_4_7 rfl dX4_run_12 ?_
  refine J_aload_n 0 dX4_run_15 rfl ?_
  refine J_iconst (-1) dX4_run_16 ⟨by decide, by decide⟩ ?_
  refine J_putI 8 lkF_X4_39 rfl fp_4_8 rfl dX4_run_17 ?_
  refine J_aload_n 0 dX4_run_20 rfl ?_
  refine J_getR lkF_X4_24 rfl dX4_run_21 ?_
  refine J_iload_n 1 dX4_run_24 rfl ?_
  refine J_iload_n 2 dX4_run_25 rfl ?_
  refine JM_V2 lkM_X4_42 rcv_3 dX4_run_26 (by decide) (Nat.le_of_ble_eq_true rfl) ?_
  refine kX5_nearest ?_
  rw [nrS_TE (hE.fr (K := [4]) ((Fr.up (Fr.up (Fr.up (Fr.up Fr.rf (by decide)) (by decide)) (by decide)) (by decide))) rfl)]
  unfold trT at hQ
  refine J_istore_3 dX4_run_29 (by decide) rfl ?_
  refine J_iload_n 3 dX4_run_30 rfl ?_
  refine J_iconst (-1) dX4_run_31 ⟨by decide, by decide⟩ ?_
  refine J_icmp_ne 36 dX4_run_32 (by decide) (fun h32 => ?_) (fun h32 => ?_)
  · skip
    rw [if_neg h32] at hQ
    refine J_aload_n 0 dX4_run_36 rfl ?_
    refine J_iconst 0 dX4_run_37 ⟨by decide, by decide⟩ ?_
    refine J_putI 7 lkF_X4_36 rfl fp_4_7 rfl dX4_run_38 ?_
    refine J_aload_n 0 dX4_run_41 rfl ?_
    refine J_iload_n 3 dX4_run_42 rfl ?_
    refine J_iload_n 2 dX4_run_43 rfl ?_
    refine JM_V2 lkM_X4_48 rcv_4 dX4_run_44 (by decide) (Nat.le_of_ble_eq_true rfl) ?_
    refine kX4_meet (TR_init hE) TW_init (by decide) (by omega) (hb_R hW _ (by omega)) (fun ω1 q1 q2 => ?_)
    refine J_iconst 0 dX4_run_47 ⟨by decide, by decide⟩ ?_
    refine J_istore_4 dX4_run_48 (by decide) rfl ?_
    exact l_run hW 120 ω1 _ none (by omega) q1 (TW_meet TW_init (by decide) (hb_R hW _ (by omega))) (Fr.tr ((Fr.up (Fr.up (Fr.up (Fr.up (Fr.up Fr.rf (by decide)) (by decide)) (by decide)) (by decide)) (by decide))) q2) (fun ω2 a1 a2 a3 => hQ ω2 ⟨a1, a2⟩ a3)
  · skip
    rw [if_pos h32] at hQ
    refine JM_vret rfl dX4_run_35 ?_
    exact hQ _ ⟨hE.fr (K := [4]) ((Fr.up (Fr.up (Fr.up (Fr.up Fr.rf (by decide)) (by decide)) (by decide)) (by decide))) rfl, by rw [up_i (by decide), up_s], by rw [up_s]⟩ ((Fr.up (Fr.up (Fr.up (Fr.up Fr.rf (by decide)) (by decide)) (by decide)) (by decide)))
end
section
/-! what events can be -/
def EvOk (e : Int) : Prop := 0 ≤ e ∧ e < 400 ∧ (e % 4 < 2 → e / 4 < 40)
def TV (s : TS) : Prop := (∀ e ∈ s.1, EvOk e) ∧ (∀ x ∈ s.2.1, 4 * x.1 + 0 ∈ s.1) ∧ ∀ c : Int, 4 * c + 1 ∈ s.1 → 4 * c + 0 ∈ s.1
theorem TV_cons {s : TS} {e : Int} (h : TV s) (he : EvOk e) (h1 : ∀ c : Int, e = 4 * c + 1 → 4 * c + 0 ∈ s.1) : TV (e :: s.1, s.2) := by
  refine ⟨fun x hx => ?_, fun x hx => List.mem_cons_of_mem _ (h.2.1 x hx), fun c hc => ?_⟩
  · rcases List.mem_cons.mp hx with rfl | hx
    · exact he
    · exact h.1 x hx
  · rcases List.mem_cons.mp hc with hc | hc
    · exact List.mem_cons_of_mem _ (h1 c hc.symm)
    · exact List.mem_cons_of_mem _ (h.2.2 c hc)
theorem TV_meet {τ : Om} {s : TS} {h m : Int} (hs : TV s) (hm : 0 ≤ m ∧ m < 12) (hB : -1 ≤ hb τ h m ∧ hb τ h m < 40) : TV (meetT τ s h m) := by
  unfold meetT
  split
  · exact TV_cons hs ⟨by omega, by omega, by omega⟩ (fun c hc => by omega)
  · split
    · rename_i h1 h2
      obtain ⟨x, hx, e⟩ := List.mem_map.mp (any_has.mp h2)
      exact TV_cons hs ⟨by omega, by omega, by omega⟩ (fun c hc => by have := hs.2.1 x hx; have e2 : c = x.1 := by omega
                                                                      rw [e2]; exact this)
    · rename_i h1 h2
      have := TV_cons (e := 4 * hb τ h m + 0) hs ⟨by omega, by omega, by omega⟩ (fun c hc => by omega)
      refine ⟨this.1, fun x hx => ?_, this.2.2⟩
      rcases List.mem_cons.mp hx with rfl | hx
      · exact List.mem_cons_self
      · exact this.2.1 x hx
theorem TV_use {τ : Om} {s : TS} {h f : Int} (hs : TV s) (hf : 0 ≤ f ∧ f < 12) (hB : -1 ≤ hb τ (nrS τ h f) f ∧ hb τ (nrS τ h f) f < 96) : TV (useT τ s h f) := by
  unfold useT
  split
  · exact TV_cons hs ⟨by omega, by omega, by omega⟩ (fun c hc => by omega)
  · exact TV_cons hs ⟨by omega, by omega, by omega⟩ (fun c hc => by omega)
theorem TV_step {τ : Om} {ty : Int} {s : TS} (hW : WfT τ) (hs : TV s) : TV (stepT τ ty s) := by
  obtain ⟨ev, stk, dp⟩ := s
  cases stk with
  | nil => exact hs
  | cons x r =>
    obtain ⟨b, h, p⟩ := x
    have hp : TV (ev, r, dp) := ⟨hs.1, fun x hx => hs.2.1 x (List.mem_cons_of_mem _ hx), hs.2.2⟩
    have hb1 : TV (ev, (b, h, p + 1) :: r, dp) := ⟨hs.1, fun x hx => by
      rcases List.mem_cons.mp hx with rfl | hx
      · exact hs.2.1 (b, h, p) List.mem_cons_self
      · exact hs.2.1 x (List.mem_cons_of_mem _ hx), hs.2.2⟩
    simp only [stepT]
    split
    · exact hp
    · rename_i h1
      obtain ⟨g1, g2⟩ := itA_R hW b p h1
      split
      · exact TV_use hb1 (by omega) (hb_RF hW _ (by omega))
      · rename_i h2
        exact TV_meet hb1 (by omega) (hb_R hW _ (by omega))
theorem TV_run {τ : Om} {ty : Int} (hW : WfT τ) : ∀ (f : Nat) (s : TS), TV s → TV (runT τ ty f s) := by
  intro f
  induction f with
  | zero => intro s h; exact h
  | succ f ih =>
    intro s h
    unfold runT
    split
    · exact h
    · exact ih _ (TV_step hW h)
theorem TW_run {τ : Om} {ty : Int} (hW : WfT τ) : ∀ (f : Nat) (s : TS), TW s → TW (runT τ ty f s) := by
  intro f
  induction f with
  | zero => intro s h; exact h
  | succ f ih =>
    intro s h
    unfold runT
    split
    · exact h
    · rename_i hc
      exact ih _ (TW_step hW h (by omega))
theorem tr_ok {τ : Om} {ty m : Int} {s : TS} (hW : WfT τ) (hm : 0 ≤ m ∧ m < 6) (h : trT τ ty m = some s) : TW s ∧ TV s := by
  unfold trT at h
  split at h
  · cases h
  · cases h
    exact ⟨TW_run hW _ _ (TW_meet TW_init (by decide) (hb_R hW _ (by omega))), TV_run hW _ _ (TV_meet ⟨fun _ h => absurd h List.not_mem_nil, fun _ h => absurd h List.not_mem_nil, fun _ h => absurd h List.not_mem_nil⟩ (by omega) (hb_R hW _ (by omega)))⟩
/-! what the traces tell together -/
def evs (τ : Om) (t m : Int) : List Int := match trT τ t m with
  | none => []
  | some s => s.1
def missC : List Int → Int
  | [] => 0
  | x :: r => missC r + if x % 4 = 3 then 1 else 0
theorem missC_R : ∀ l : List Int, 0 ≤ missC l ∧ missC l ≤ l.length := by
  intro l
  induction l with
  | nil => exact ⟨by decide, by decide⟩
  | cons x r ih => simp only [missC, List.length_cons]; split <;> omega
/-- EVENTS MISSING in the first k traces, of classes that have objects -/
def missT (τ : Om) : Nat → Int
  | 0 => 0
  | k + 1 => missT τ k + if hol τ ((k / 6 : Nat) : Int) = 0 then missC (evs τ ((k / 6 : Nat) : Int) ((k % 6 : Nat) : Int)) else 0
/-- whether a body runs in the first k traces -/
def reachT (τ : Om) (c : Int) : Nat → Bool
  | 0 => false
  | k + 1 => reachT τ c k || (decide (hol τ ((k / 6 : Nat) : Int) = 0) && (evs τ ((k / 6 : Nat) : Int) ((k % 6 : Nat) : Int)).contains (4 * c + 0))
theorem evs_len {τ : Om} (hW : WfT τ) (t : Int) {m : Int} (hm : 0 ≤ m ∧ m < 6) : (evs τ t m).length ≤ 60 := by
  unfold evs
  cases h : trT τ t m with
  | none => simp
  | some s => exact (tr_ok hW hm h).1.2.2.2.2
theorem missT_R {τ : Om} (hW : WfT τ) : ∀ k : Nat, 0 ≤ missT τ k ∧ missT τ k ≤ 60 * k := by
  intro k
  induction k with
  | zero => exact ⟨Int.le_refl 0, Int.le_refl 0⟩
  | succ k ih =>
    have h1 := missC_R (evs τ ((k / 6 : Nat) : Int) ((k % 6 : Nat) : Int))
    have h2 := evs_len hW ((k / 6 : Nat) : Int) (m := ((k % 6 : Nat) : Int)) (by omega)
    simp only [missT]
    split <;> omega
/-- a row of the survey holds a trace -/
def RowIs (ω : Om) (row : Int) (o : Option TS) : Prop := match o with
  | none => ω 24 row = -1 ∧ ω 25 row = -1
  | some s => ω 24 row = s.1.length ∧ ω 25 row = s.2.2 ∧ Arr (fun i => ω 23 (row * 60 + i)) s.1
def RowEq (ω ω' : Om) (row : Int) : Prop := ω' 24 row = ω 24 row ∧ ω' 25 row = ω 25 row ∧ ∀ i, 0 ≤ i → i < 60 → ω' 23 (row * 60 + i) = ω 23 (row * 60 + i)
theorem Arr_cg {f g : Int → Int} : ∀ {l : List Int}, (∀ i : Nat, i < l.length → f i = g i) → Arr g l → Arr f l := by
  intro l
  induction l with
  | nil => intro _ _; trivial
  | cons x r ih => intro h hg; exact ⟨by rw [h r.length (by simp)]; exact hg.1, ih (fun i hi => h i (by simp; omega)) hg.2⟩
theorem RowIs.eq {ω ω' : Om} {row : Int} {o : Option TS} (h : RowIs ω row o) (hl : ∀ s, o = some s → s.1.length ≤ 60) (he : RowEq ω ω' row) : RowIs ω' row o := by
  cases o with
  | none => exact ⟨by rw [he.1]; exact h.1, by rw [he.2.1]; exact h.2⟩
  | some s =>
    have := hl s rfl
    exact ⟨by rw [he.1]; exact h.1, by rw [he.2.1]; exact h.2.1, Arr_cg (fun i hi => he.2.2 i (by omega) (by omega)) h.2.2⟩
/-- the survey's cells hold all traces of τ -/
def SVv (τ ω : Om) : Prop := (∀ t m : Int, 0 ≤ t → t < τ 3 7 → 0 ≤ m → m < 6 → RowIs ω (t * 6 + m) (trT τ t m)) ∧ (∀ c : Nat, c < 64 → tbL (ω 5 5) c = reachT τ c (6 * (τ 3 7).toNat)) ∧ ω 5 6 = missT τ (6 * (τ 3 7).toNat)
set_option maxRecDepth 100000 in
set_option maxHeartbeats 4000000 in
theorem kX4_eventAt {X : Cx} {d : Nat} {ω : Om} {Q : Option MV → Om → Prop} {p : Int} (hQ : Q (some (vI (if 0 ≤ p ∧ p < ω 4 7 ∧ p < 60 then ω 19 p else -1))) ω) : Mc X mX4_eventAt d [vR 4, vI p] ω Q := by
  refine Mc_of [some (vR 4), some (vI p)] (by decide +kernel) rfl (Nat.le_of_ble_eq_true rfl) ?_
  refine J_iload_n 1 dX4_eventAt_0 rfl ?_
  refine J_if_lt 27 dX4_eventAt_1 (by decide) (fun h1 => ?_) (fun h1 => ?_)
  · skip
    refine J_iconst (-1) dX4_eventAt_27 ⟨by decide, by decide⟩ ?_
    refine JM_iret rfl dX4_eventAt_28 ?_
    (repeat' split at hQ) <;> first | exact hQ | (exfalso; omega)
  · skip
    refine J_iload_n 1 dX4_eventAt_4 rfl ?_
    refine J_aload_n 0 dX4_eventAt_5 rfl ?_
    refine J_getI 7 lkF_X4_36 rfl rfl rfl dX4_eventAt_6 ?_
    refine J_icmp_ge 27 dX4_eventAt_9 (by decide) (fun h9 => ?_) (fun h9 => ?_)
    · skip
      refine J_iconst (-1) dX4_eventAt_27 ⟨by decide, by decide⟩ ?_
      refine JM_iret rfl dX4_eventAt_28 ?_
      (repeat' split at hQ) <;> first | exact hQ | (exfalso; omega)
    · skip
      refine J_iload_n 1 dX4_eventAt_12 rfl ?_
      refine J_bipush 60 dX4_eventAt_13 ⟨by decide, by decide⟩ (by decide) ?_
      refine J_icmp_ge 27 dX4_eventAt_15 (by decide) (fun h15 => ?_) (fun h15 => ?_)
      · skip
        refine J_iconst (-1) dX4_eventAt_27 ⟨by decide, by decide⟩ ?_
        refine JM_iret rfl dX4_eventAt_28 ?_
        (repeat' split at hQ) <;> first | exact hQ | (exfalso; omega)
      · skip
        refine J_aload_n 0 dX4_eventAt_18 rfl ?_
        refine J_getR lkF_X4_9 rfl dX4_eventAt_19 ?_
        refine J_iload_n 1 dX4_eventAt_22 rfl ?_
        refine J_iaload _ rfl rfl (by omega) dX4_eventAt_23 ?_
        refine J_goto 28 dX4_eventAt_24 (by decide) ?_
        refine JM_iret rfl dX4_eventAt_28 ?_
        (repeat' split at hQ) <;> first | exact hQ | (exfalso; omega)

set_option maxRecDepth 100000 in
set_option maxHeartbeats 4000000 in
theorem kX3_rowOf {X : Cx} {d : Nat} {ω : Om} {Q : Option MV → Om → Prop} {t m : Int} (hQ : Q (some (vI (if 0 ≤ t ∧ t < 8 ∧ 0 ≤ m ∧ m < 6 then t * 6 + m else -1))) ω) : Mc X mX3_rowOf d [vI t, vI m] ω Q := by
  refine Mc_of [some (vI t), some (vI m)] (by decide +kernel) rfl (Nat.le_of_ble_eq_true rfl) ?_
  refine J_iload_n 0 dX3_rowOf_0 rfl ?_
  refine J_if_lt 29 dX3_rowOf_1 (by decide) (fun h1 => ?_) (fun h1 => ?_)
  · skip
    refine J_iconst (-1) dX3_rowOf_29 ⟨by decide, by decide⟩ ?_
    refine JM_iret rfl dX3_rowOf_30 ?_
    (repeat' split at hQ) <;> first | exact hQ | (exfalso; omega)
  · skip
    refine J_iload_n 0 dX3_rowOf_4 rfl ?_
    refine J_bipush 8 dX3_rowOf_5 ⟨by decide, by decide⟩ (by decide) ?_
    refine J_icmp_ge 29 dX3_rowOf_7 (by decide) (fun h7 => ?_) (fun h7 => ?_)
    · skip
      refine J_iconst (-1) dX3_rowOf_29 ⟨by decide, by decide⟩ ?_
      refine JM_iret rfl dX3_rowOf_30 ?_
      (repeat' split at hQ) <;> first | exact hQ | (exfalso; omega)
    · skip
      refine J_iload_n 1 dX3_rowOf_10 rfl ?_
      refine J_if_lt 29 dX3_rowOf_11 (by decide) (fun h11 => ?_) (fun h11 => ?_)
      · skip
        refine J_iconst (-1) dX3_rowOf_29 ⟨by decide, by decide⟩ ?_
        refine JM_iret rfl dX3_rowOf_30 ?_
        (repeat' split at hQ) <;> first | exact hQ | (exfalso; omega)
      · skip
        refine J_iload_n 1 dX3_rowOf_14 rfl ?_
        refine J_bipush 6 dX3_rowOf_15 ⟨by decide, by decide⟩ (by decide) ?_
        refine J_icmp_ge 29 dX3_rowOf_17 (by decide) (fun h17 => ?_) (fun h17 => ?_)
        · skip
          refine J_iconst (-1) dX3_rowOf_29 ⟨by decide, by decide⟩ ?_
          refine JM_iret rfl dX3_rowOf_30 ?_
          (repeat' split at hQ) <;> first | exact hQ | (exfalso; omega)
        · skip
          refine J_iload_n 0 dX3_rowOf_20 rfl ?_
          refine J_bipush 6 dX3_rowOf_21 ⟨by decide, by decide⟩ (by decide) ?_
          refine J_imul dX3_rowOf_23 ⟨by omega, by omega⟩ ?_
          refine J_iload_n 1 dX3_rowOf_24 rfl ?_
          refine J_iadd dX3_rowOf_25 ⟨by omega, by omega⟩ ?_
          refine J_goto 30 dX3_rowOf_26 (by decide) ?_
          refine JM_iret rfl dX3_rowOf_30 ?_
          (repeat' split at hQ) <;> first | exact hQ | (exfalso; omega)

set_option maxRecDepth 100000 in
set_option maxHeartbeats 4000000 in
theorem kX3_sizeOf {X : Cx} {d : Nat} {ω : Om} {Q : Option MV → Om → Prop} {t m : Int} (ht : 0 ≤ t ∧ t < 8) (hm : 0 ≤ m ∧ m < 6) (hQ : Q (some (vI (ω 24 (t * 6 + m)))) ω) : Mc X mX3_sizeOf (d + 1) [vR 5, vI t, vI m] ω Q := by
  refine Mc_of [some (vR 5), some (vI t), some (vI m), none] (by decide +kernel) rfl (Nat.le_of_ble_eq_true rfl) ?_
  refine J_iload_n 1 dX3_sizeOf_0 rfl ?_
  refine J_iload_n 2 dX3_sizeOf_1 rfl ?_
  refine JM_S2 lkM_X3_62 dX3_sizeOf_2 (by decide) (Nat.le_of_ble_eq_true rfl) ?_
  refine kX3_rowOf ?_
  rw [if_pos (by omega)]
  refine J_istore_3 dX3_sizeOf_5 (by decide) rfl ?_
  refine J_iload_n 3 dX3_sizeOf_6 rfl ?_
  refine J_iconst (-1) dX3_sizeOf_7 ⟨by decide, by decide⟩ ?_
  refine J_icmp_ne 15 dX3_sizeOf_8 (by decide) (fun h8 => ?_) (fun h8 => ?_)
  · skip
    refine J_aload_n 0 dX3_sizeOf_15 rfl ?_
    refine J_getR lkF_X3_15 rfl dX3_sizeOf_16 ?_
    refine J_iload_n 3 dX3_sizeOf_19 rfl ?_
    refine J_iaload _ rfl rfl (by omega) dX3_sizeOf_20 ?_
    refine JM_iret rfl dX3_sizeOf_21 ?_
    exact hQ
  · skip
    exfalso; omega

set_option maxRecDepth 100000 in
set_option maxHeartbeats 4000000 in
theorem kX3_depthOf {X : Cx} {d : Nat} {ω : Om} {Q : Option MV → Om → Prop} {t m : Int} (ht : 0 ≤ t ∧ t < 8) (hm : 0 ≤ m ∧ m < 6) (hQ : Q (some (vI (ω 25 (t * 6 + m)))) ω) : Mc X mX3_depthOf (d + 1) [vR 5, vI t, vI m] ω Q := by
  refine Mc_of [some (vR 5), some (vI t), some (vI m), none] (by decide +kernel) rfl (Nat.le_of_ble_eq_true rfl) ?_
  refine J_iload_n 1 dX3_depthOf_0 rfl ?_
  refine J_iload_n 2 dX3_depthOf_1 rfl ?_
  refine JM_S2 lkM_X3_62 dX3_depthOf_2 (by decide) (Nat.le_of_ble_eq_true rfl) ?_
  refine kX3_rowOf ?_
  rw [if_pos (by omega)]
  refine J_istore_3 dX3_depthOf_5 (by decide) rfl ?_
  refine J_iload_n 3 dX3_depthOf_6 rfl ?_
  refine J_iconst (-1) dX3_depthOf_7 ⟨by decide, by decide⟩ ?_
  refine J_icmp_ne 15 dX3_depthOf_8 (by decide) (fun h8 => ?_) (fun h8 => ?_)
  · skip
    refine J_aload_n 0 dX3_depthOf_15 rfl ?_
    refine J_getR lkF_X3_18 rfl dX3_depthOf_16 ?_
    refine J_iload_n 3 dX3_depthOf_19 rfl ?_
    refine J_iaload _ rfl rfl (by omega) dX3_depthOf_20 ?_
    refine JM_iret rfl dX3_depthOf_21 ?_
    exact hQ
  · skip
    exfalso; omega

set_option maxRecDepth 100000 in
set_option maxHeartbeats 4000000 in
theorem kX3_eventAt {X : Cx} {d : Nat} {ω : Om} {Q : Option MV → Om → Prop} {t m p : Int} (ht : 0 ≤ t ∧ t < 8) (hm : 0 ≤ m ∧ m < 6) (hp : 0 ≤ p ∧ p < 60) (hQ : Q (some (vI (ω 23 ((t * 6 + m) * 60 + p)))) ω) : Mc X mX3_eventAt (d + 1) [vR 5, vI t, vI m, vI p] ω Q := by
  refine Mc_of [some (vR 5), some (vI t), some (vI m), some (vI p), none] (by decide +kernel) rfl (Nat.le_of_ble_eq_true rfl) ?_
  refine J_iload_n 1 dX3_eventAt_0 rfl ?_
  refine J_iload_n 2 dX3_eventAt_1 rfl ?_
  refine JM_S2 lkM_X3_62 dX3_eventAt_2 (by decide) (Nat.le_of_ble_eq_true rfl) ?_
  refine kX3_rowOf ?_
  rw [if_pos (by omega)]
  refine J_istore_4 dX3_eventAt_5 (by decide) rfl ?_
  refine J_iload 4 dX3_eventAt_7 rfl ?_
  refine J_iconst (-1) dX3_eventAt_9 ⟨by decide, by decide⟩ ?_
  refine J_icmp_eq 23 dX3_eventAt_10 (by decide) (fun h10 => ?_) (fun h10 => ?_)
  · skip
    exfalso; omega
  · skip
    refine J_iload_n 3 dX3_eventAt_13 rfl ?_
    refine J_if_lt 23 dX3_eventAt_14 (by decide) (fun h14 => ?_) (fun h14 => ?_)
    · skip
      exfalso; omega
    · skip
      refine J_iload_n 3 dX3_eventAt_17 rfl ?_
      refine J_bipush 60 dX3_eventAt_18 ⟨by decide, by decide⟩ (by decide) ?_
      refine J_icmp_lt 27 dX3_eventAt_20 (by decide) (fun h20 => ?_) (fun h20 => ?_)
      · skip
        refine J_aload_n 0 dX3_eventAt_27 rfl ?_
        refine J_getR lkF_X3_9 rfl dX3_eventAt_28 ?_
        refine J_iload 4 dX3_eventAt_31 rfl ?_
        refine J_bipush 60 dX3_eventAt_33 ⟨by decide, by decide⟩ (by decide) ?_
        refine J_imul dX3_eventAt_35 ⟨by omega, by omega⟩ ?_
        refine J_iload_n 3 dX3_eventAt_36 rfl ?_
        refine J_iadd dX3_eventAt_37 ⟨by omega, by omega⟩ ?_
        refine J_iaload _ rfl rfl (by omega) dX3_eventAt_38 ?_
        refine JM_iret rfl dX3_eventAt_39 ?_
        exact hQ
      · skip
        exfalso; omega

set_option maxRecDepth 100000 in
set_option maxHeartbeats 4000000 in
theorem kX3_isReached {X : Cx} {d : Nat} {ω : Om} {Q : Option MV → Om → Prop} {b : Int} (hb : 0 ≤ b ∧ b < 40) (hQ : Q (some (vI (if tbL (ω 5 5) b.toNat = true then 1 else 0))) ω) : Mc X mX3_isReached d [vR 5, vI b] ω Q := by
  have hbn : b = ((b.toNat : Nat) : Int) := by omega
  have hbit0 := bit_0 (ω 5 5) (b := b.toNat) (by omega)
  rw [← hbn] at hbit0
  refine Mc_of [some (vR 5), some (vI b)] (by decide +kernel) rfl (Nat.le_of_ble_eq_true rfl) ?_
  refine J_iload_n 1 dX3_isReached_0 rfl ?_
  refine J_if_lt 27 dX3_isReached_1 (by decide) (fun h1 => ?_) (fun h1 => ?_)
  · skip
    exfalso; omega
  · skip
    refine J_iload_n 1 dX3_isReached_4 rfl ?_
    refine J_bipush 40 dX3_isReached_5 ⟨by decide, by decide⟩ (by decide) ?_
    refine J_icmp_ge 27 dX3_isReached_7 (by decide) (fun h7 => ?_) (fun h7 => ?_)
    · skip
      exfalso; omega
    · skip
      refine J_aload_n 0 dX3_isReached_10 rfl ?_
      refine J_getL 5 lkF_X3_36 rfl rfl dX3_isReached_11 ?_
      refine J_iload_n 1 dX3_isReached_14 rfl ?_
      refine J_lshr dX3_isReached_15 ?_
      refine J_lconst1 dX3_isReached_16 ?_
      refine J_land dX3_isReached_17 ?_
      refine J_lconst0 dX3_isReached_18 ?_
      refine J_lcmp dX3_isReached_19 ?_
      refine J_if_eq 27 dX3_isReached_20 (by decide) (fun h20 => ?_) (fun h20 => ?_)
      · skip
        rw [lCmp0, hbit0] at h20
        rw [if_neg (by rw [h20]; decide)] at hQ
        refine J_iconst 0 dX3_isReached_27 ⟨by decide, by decide⟩ ?_
        refine JM_zret rfl (by omega) dX3_isReached_28 ?_
        exact hQ
      · skip
        rw [lCmp0, hbit0, Bool.not_eq_false] at h20
        rw [if_pos h20] at hQ
        refine J_iconst 1 dX3_isReached_23 ⟨by decide, by decide⟩ ?_
        refine J_goto 28 dX3_isReached_24 (by decide) ?_
        refine JM_zret rfl (by omega) dX3_isReached_28 ?_
        exact hQ

set_option maxRecDepth 100000 in
set_option maxHeartbeats 4000000 in
theorem l_store {X : Cx} {d : Nat} {Q : Option MV → Om → Prop} {ω1 : Om} {t m : Int} (ht : 0 ≤ t ∧ t < 8) (hm : 0 ≤ m ∧ m < 6) (hs : ω1 4 7 ≤ 60) : ∀ (n : Nat) (i : Int) (ω : Om), 0 ≤ i → (i ≤ ω1 4 7 ∨ i = 0) → ω1 4 7 ≤ i + n → Fr [23] ω1 ω → (∀ j, 0 ≤ j → j < i → ω 23 ((t * 6 + m) * 60 + j) = ω1 19 j) → (∀ q, (q < (t * 6 + m) * 60 ∨ (t * 6 + m) * 60 + 60 ≤ q) → ω 23 q = ω1 23 q) → (∀ ω', Fr [23] ω1 ω' → (∀ j, 0 ≤ j → j < ω1 4 7 → ω' 23 ((t * 6 + m) * 60 + j) = ω1 19 j) → (∀ q, (q < (t * 6 + m) * 60 ∨ (t * 6 + m) * 60 + 60 ≤ q) → ω' 23 q = ω1 23 q) → Q none ω') → JM X mX3_store (d + 1) Q 41 [some (vR 5), some (vI t), some (vI m), some (vI (t * 6 + m)), some (vI i)] [] ω := by
  intro n
  induction n with
  | zero =>
    intro i ω h0 h1 h2 hF hc ho hQ
    have e4 : ω 4 7 = ω1 4 7 := by rw [hF 4 (by decide)]
    refine J_iload 4 dX3_store_41 rfl ?_
    refine J_aload_n 0 dX3_store_43 rfl ?_
    refine J_getR lkF_X3_29 rfl dX3_store_44 ?_
    refine J_getI 7 lkF_X3_66 rfl rfl rfl dX3_store_47 ?_
    refine J_icmp_ge 87 dX3_store_50 (by decide) (fun h50 => ?_) (fun h50 => ?_)
    · skip
      refine JM_vret rfl dX3_store_87 ?_
      exact hQ _ hF (fun j a b => hc j a (by omega)) ho
    · skip
      exfalso; omega
  | succ n ih =>
    intro i ω h0 h1 h2 hF hc ho hQ
    have e4 : ω 4 7 = ω1 4 7 := by rw [hF 4 (by decide)]
    refine J_iload 4 dX3_store_41 rfl ?_
    refine J_aload_n 0 dX3_store_43 rfl ?_
    refine J_getR lkF_X3_29 rfl dX3_store_44 ?_
    refine J_getI 7 lkF_X3_66 rfl rfl rfl dX3_store_47 ?_
    refine J_icmp_ge 87 dX3_store_50 (by decide) (fun h50 => ?_) (fun h50 => ?_)
    · skip
      refine JM_vret rfl dX3_store_87 ?_
      exact hQ _ hF (fun j a b => hc j a (by omega)) ho
    · skip
      refine J_iload 4 dX3_store_53 rfl ?_
      refine J_bipush 60 dX3_store_55 ⟨by decide, by decide⟩ (by decide) ?_
      refine J_icmp_ge 87 dX3_store_57 (by decide) (fun h57 => ?_) (fun h57 => ?_)
      · skip
        exfalso; omega
      · skip
        refine J_aload_n 0 dX3_store_60 rfl ?_
        refine J_getR lkF_X3_9 rfl dX3_store_61 ?_
        refine J_iload_n 3 dX3_store_64 rfl ?_
        refine J_bipush 60 dX3_store_65 ⟨by decide, by decide⟩ (by decide) ?_
        refine J_imul dX3_store_67 ⟨by omega, by omega⟩ ?_
        refine J_iload 4 dX3_store_68 rfl ?_
        refine J_iadd dX3_store_70 ⟨by omega, by omega⟩ ?_
        refine J_aload_n 0 dX3_store_71 rfl ?_
        refine J_getR lkF_X3_29 rfl dX3_store_72 ?_
        refine J_iload 4 dX3_store_75 rfl ?_
        refine JM_V1 lkM_X3_72 rcv_4 dX3_store_77 (by decide) (Nat.le_of_ble_eq_true rfl) ?_
        refine kX4_eventAt ?_
        rw [if_pos (by omega)]
        refine J_iastore _ rfl (by omega) dX3_store_80 ?_
        refine J_iinc_4 dX3_store_81 (by decide) ⟨by omega, by omega⟩ rfl ?_
        refine J_goto 41 dX3_store_84 (by decide) ?_
        refine ih (i + 1) _ (by omega) (by omega) (by omega) (hF.up (by decide)) (fun j a b => ?_) (fun q hq => ?_) hQ
        · by_cases e : j = i
          · subst e; rw [up_s, hF 19 (by decide)]
          · rw [up_i (by omega)]; exact hc j a (by omega)
        · rw [up_i (by omega)]; exact ho q hq

set_option maxRecDepth 100000 in
set_option maxHeartbeats 4000000 in
theorem kX3_store {X : Cx} {d : Nat} {ω : Om} {Q : Option MV → Om → Prop} {t m : Int} {τ : Om} {o : Option TS} (ht : 0 ≤ t ∧ t < 8) (hm : 0 ≤ m ∧ m < 6) (hR : RunP τ ω o) (hQ : ∀ ω', RowIs ω' (t * 6 + m) o → (∀ r, 0 ≤ r → r < 48 → r ≠ t * 6 + m → RowEq ω ω' r) → Fr [23, 24, 25] ω ω' → Q none ω') : Mc X mX3_store (d + 1) [vR 5, vI t, vI m] ω Q := by
  have hsz : ω 4 7 ≤ 60 := by
    cases o with
    | none => rw [hR.2.1]; decide
    | some s => have := hR.2.2.2.2.2; rw [hR.1.2.1]; omega
  refine Mc_of [some (vR 5), some (vI t), some (vI m), none, none] (by decide +kernel) rfl (Nat.le_of_ble_eq_true rfl) ?_
  refine J_iload_n 1 dX3_store_0 rfl ?_
  refine J_iload_n 2 dX3_store_1 rfl ?_
  refine JM_S2 lkM_X3_62 dX3_store_2 (by decide) (Nat.le_of_ble_eq_true rfl) ?_
  refine kX3_rowOf ?_
  rw [if_pos (by omega)]
  refine J_istore_3 dX3_store_5 (by decide) rfl ?_
  refine J_iload_n 3 dX3_store_6 rfl ?_
  refine J_iconst (-1) dX3_store_7 ⟨by decide, by decide⟩ ?_
  refine J_icmp_ne 12 dX3_store_8 (by decide) (fun h8 => ?_) (fun h8 => ?_)
  · skip
    refine J_aload_n 0 dX3_store_12 rfl ?_
    refine J_getR lkF_X3_15 rfl dX3_store_13 ?_
    refine J_iload_n 3 dX3_store_16 rfl ?_
    refine J_aload_n 0 dX3_store_17 rfl ?_
    refine J_getR lkF_X3_29 rfl dX3_store_18 ?_
    refine J_getI 7 lkF_X3_66 rfl rfl rfl dX3_store_21 ?_
    refine J_iastore _ rfl (by omega) dX3_store_24 ?_
    refine J_aload_n 0 dX3_store_25 rfl ?_
    refine J_getR lkF_X3_18 rfl dX3_store_26 ?_
    refine J_iload_n 3 dX3_store_29 rfl ?_
    refine J_aload_n 0 dX3_store_30 rfl ?_
    refine J_getR lkF_X3_29 rfl dX3_store_31 ?_
    refine J_getI 8 lkF_X3_69 rfl rfl rfl dX3_store_34 ?_
    try simp (config := {decide := true}) only [up_s, up_k, up_i]
    refine J_iastore _ rfl (by omega) dX3_store_37 ?_
    refine J_iconst 0 dX3_store_38 ⟨by decide, by decide⟩ ?_
    refine J_istore_4 dX3_store_39 (by decide) rfl ?_
    refine l_store (ω1 := up (up ω 24 (t * 6 + m) (ω 4 7)) 25 (t * 6 + m) (ω 4 8)) ht hm (by rw [up_k (by decide), up_k (by decide)]; exact hsz) 61 0 _ (Int.le_refl _) (Or.inr rfl) (by rw [up_k (by decide), up_k (by decide)]; omega) Fr.rf (fun j a b => by omega) (fun q hq => rfl) (fun ω2 hF hc ho => ?_)
    rw [up_k (by decide), up_k (by decide)] at hc
    have e24 : ∀ r, ω2 24 r = if r = t * 6 + m then ω 4 7 else ω 24 r := fun r => by
      rw [hF 24 (by decide), up_k (by decide)]; unfold up; simp
    have e25 : ∀ r, ω2 25 r = if r = t * 6 + m then ω 4 8 else ω 25 r := fun r => by
      rw [hF 25 (by decide)]; unfold up; simp
    refine hQ ω2 ?_ (fun r r0 r1 r2 => ⟨by rw [e24, if_neg r2], by rw [e25, if_neg r2], fun i i0 i1 => ?_⟩) (fun k hk => ?_)
    · cases o with
      | none => exact ⟨by rw [e24, if_pos rfl]; exact hR.2.1, by rw [e25, if_pos rfl]; exact hR.2.2⟩
      | some s =>
        have hl : ω 4 7 = s.1.length := hR.1.2.1
        refine ⟨by rw [e24, if_pos rfl]; exact hl, by rw [e25, if_pos rfl]; exact hR.1.2.2.2.2.2.2.2.1, Arr_cg (fun i hi => ?_) hR.1.2.2.1⟩
        rw [hc i (by omega) (by omega), up_k (by decide), up_k (by decide)]
    · rw [ho _ (by omega), up_k (by decide), up_k (by decide)]
    · rw [hF k (by intro q; apply hk; simp at q; simp [q]), up_f (by intro q; apply hk; simp [q]), up_f (by intro q; apply hk; simp [q])]
  · skip
    exfalso; omega

def AUP (ω0 ω : Om) (l : List Int) : Prop := Fr [5] ω0 ω ∧ (∀ i, i ≠ 5 → i ≠ 6 → ω 5 i = ω0 5 i) ∧ (∀ c : Nat, c < 64 → tbL (ω 5 5) c = (tbL (ω0 5 5) c || l.contains (4 * (c : Int) + 0))) ∧ ω 5 6 = ω0 5 6 + missC l
theorem AUP_0 (ω : Om) : AUP ω ω [] := ⟨Fr.rf, fun _ _ _ => rfl, fun c _ => by simp, by simp [missC]⟩
theorem AUP_run {ω0 ω : Om} {l : List Int} {e : Int} (h : AUP ω0 ω l) (he : EvOk e) (h0 : e % 4 = 0) : AUP ω0 (up ω 5 5 (lOr (ω 5 5) (lShl 1 (e / 4)))) (e :: l) := by
  obtain ⟨a, b, c, d⟩ := h
  obtain ⟨e1, e2, e3⟩ := he
  refine ⟨a.up (by decide), fun i i5 i6 => by rw [up_i i5]; exact b i i5 i6, fun q hq => ?_, ?_⟩
  · have hn : e / 4 = (((e / 4).toNat : Nat) : Int) := by omega
    rw [up_s, hn, bit_or _ (by omega) hq, c q hq, List.contains_cons, Bool.or_assoc]
    congr 1
    rw [Bool.or_comm]
    congr 1
    rw [Bool.eq_iff_iff]; simp only [decide_eq_true_eq, beq_iff_eq]; omega
  · rw [up_i (by decide), d]; simp only [missC]; rw [if_neg (by omega)]; omega
theorem AUP_miss {ω0 ω : Om} {l : List Int} {e : Int} (h : AUP ω0 ω l) (h0 : e % 4 = 3) : AUP ω0 (up ω 5 6 (ω 5 6 + 1)) (e :: l) := by
  obtain ⟨a, b, c, d⟩ := h
  refine ⟨a.up (by decide), fun i i5 i6 => by rw [up_i i6]; exact b i i5 i6, fun q hq => ?_, ?_⟩
  · rw [up_i (by decide), c q hq, List.contains_cons]
    have : (4 * (q : Int) + 0 == e) = false := by simp only [beq_eq_false_iff_ne, ne_eq]; omega
    rw [this, Bool.false_or]
  · rw [up_s, d]; simp only [missC]; rw [if_pos h0]; omega
theorem AUP_other {ω0 ω : Om} {l : List Int} {e : Int} (h : AUP ω0 ω l) (h0 : ¬ e % 4 = 0) (h3 : ¬ e % 4 = 3) : AUP ω0 ω (e :: l) := by
  obtain ⟨a, b, c, d⟩ := h
  refine ⟨a, b, fun q hq => ?_, ?_⟩
  · rw [c q hq, List.contains_cons]
    have : (4 * (q : Int) + 0 == e) = false := by simp only [beq_eq_false_iff_ne, ne_eq]; omega
    rw [this, Bool.false_or]
  · rw [d]; simp only [missC]; rw [if_neg h3]; omega
set_option maxRecDepth 100000 in
set_option maxHeartbeats 4000000 in
theorem l_addUp {X : Cx} {d : Nat} {Q : Option MV → Om → Prop} {ω0 : Om} {l : List Int} (hsz : ω0 4 7 = l.length ∨ (ω0 4 7 = -1 ∧ l = [])) (hA : Arr (ω0 19) l) (hE : ∀ e ∈ l, EvOk e) (hl : l.length ≤ 60) (hm : 0 ≤ ω0 5 6 ∧ ω0 5 6 ≤ 3000) : ∀ (n i : Nat) (ω : Om) (x : Option MV), i + n = l.length → AUP ω0 ω (l.drop (l.length - i)) → (∀ ω', AUP ω0 ω' l → Q none ω') → JM X mX3_addUp (d + 1) Q 2 [some (vR 5), some (vI i), x] [] ω := by
  intro n
  induction n with
  | zero =>
    intro i ω x hi hU hQ
    have e4 : ω 4 7 = ω0 4 7 := by rw [hU.1 4 (by decide)]
    rw [show l.length - i = 0 from by omega, List.drop_zero] at hU
    refine J_iload_n 1 dX3_addUp_2 rfl ?_
    refine J_aload_n 0 dX3_addUp_3 rfl ?_
    refine J_getR lkF_X3_29 rfl dX3_addUp_4 ?_
    refine J_getI 7 lkF_X3_66 rfl rfl rfl dX3_addUp_7 ?_
    refine J_icmp_ge 68 dX3_addUp_10 (by decide) (fun h10 => ?_) (fun h10 => ?_)
    · skip
      refine JM_vret rfl dX3_addUp_68 ?_
      exact hQ _ hU
    · skip
      exfalso; omega
  | succ n ih =>
    intro i ω x hi hU hQ
    have e4 : ω 4 7 = ω0 4 7 := by rw [hU.1 4 (by decide)]
    have hne : ω0 4 7 = l.length := by
      rcases hsz with h | ⟨_, h⟩
      · exact h
      · rw [h] at hi; simp at hi
    have hms := missC_R (l.drop (l.length - i))
    have hdl : (l.drop (l.length - i)).length ≤ 60 := by simp; omega
    have h56 := hU.2.2.2
    have hat := Arr_at hA (i := i) (by omega)
    have hdrop := List.drop_eq_getElem_cons (l := l) (i := l.length - 1 - i) (by omega)
    rw [show l.length - 1 - i + 1 = l.length - i from by omega, ← hat] at hdrop
    have hev : EvOk (ω0 19 i) := hE _ (by rw [hat]; exact List.getElem_mem _)
    have e19 : ω 19 = ω0 19 := hU.1 19 (by decide)
    refine J_iload_n 1 dX3_addUp_2 rfl ?_
    refine J_aload_n 0 dX3_addUp_3 rfl ?_
    refine J_getR lkF_X3_29 rfl dX3_addUp_4 ?_
    refine J_getI 7 lkF_X3_66 rfl rfl rfl dX3_addUp_7 ?_
    refine J_icmp_ge 68 dX3_addUp_10 (by decide) (fun h10 => ?_) (fun h10 => ?_)
    · skip
      exfalso; omega
    · skip
      refine J_aload_n 0 dX3_addUp_13 rfl ?_
      refine J_getR lkF_X3_29 rfl dX3_addUp_14 ?_
      refine J_iload_n 1 dX3_addUp_17 rfl ?_
      refine JM_V1 lkM_X3_72 rcv_4 dX3_addUp_18 (by decide) (Nat.le_of_ble_eq_true rfl) ?_
      refine kX4_eventAt ?_
      rw [if_pos (by omega), e19]
      obtain ⟨v1, v2, v3⟩ := id hev
      generalize ω0 19 (i : Int) = ev at hdrop hev v1 v2 v3 ⊢
      refine J_istore_2 dX3_addUp_21 (by decide) rfl ?_
      refine J_iload_n 2 dX3_addUp_22 rfl ?_
      refine J_iconst 4 dX3_addUp_23 ⟨by decide, by decide⟩ ?_
      refine J_irem dX3_addUp_24 (by omega) (by omega) ?_
      refine J_if_ne 45 dX3_addUp_25 (by decide) (fun h25 => ?_) (fun h25 => ?_)
      · skip
        refine J_iload_n 2 dX3_addUp_45 rfl ?_
        refine J_iconst 4 dX3_addUp_46 ⟨by decide, by decide⟩ ?_
        refine J_irem dX3_addUp_47 (by omega) (by omega) ?_
        refine J_iconst 3 dX3_addUp_48 ⟨by decide, by decide⟩ ?_
        refine J_icmp_ne 62 dX3_addUp_49 (by decide) (fun h49 => ?_) (fun h49 => ?_)
        · skip
          refine J_iinc_1 dX3_addUp_62 (by decide) ⟨by omega, by omega⟩ rfl ?_
          refine J_goto 2 dX3_addUp_65 (by decide) ?_
          refine ih (i + 1) _ _ (by omega) ?_ hQ
          rw [show l.length - (i + 1) = l.length - 1 - i from by omega, hdrop]
          first | exact AUP_run hU hev h25 | exact AUP_miss hU h49 | exact AUP_other hU h25 h49
        · skip
          refine J_aload_n 0 dX3_addUp_52 rfl ?_
          first | refine J_dupR dX3_addUp_53 ?_ | refine J_dupI dX3_addUp_53 ?_
          refine J_getI 6 lkF_X3_40 rfl rfl rfl dX3_addUp_54 ?_
          refine J_iconst 1 dX3_addUp_57 ⟨by decide, by decide⟩ ?_
          refine J_iadd dX3_addUp_58 ⟨by omega, by omega⟩ ?_
          refine J_putI 6 lkF_X3_40 rfl fp_3_6 rfl dX3_addUp_59 ?_
          refine J_iinc_1 dX3_addUp_62 (by decide) ⟨by omega, by omega⟩ rfl ?_
          refine J_goto 2 dX3_addUp_65 (by decide) ?_
          refine ih (i + 1) _ _ (by omega) ?_ hQ
          rw [show l.length - (i + 1) = l.length - 1 - i from by omega, hdrop]
          first | exact AUP_run hU hev h25 | exact AUP_miss hU h49 | exact AUP_other hU h25 h49
      · skip
        refine J_aload_n 0 dX3_addUp_28 rfl ?_
        first | refine J_dupR dX3_addUp_29 ?_ | refine J_dupI dX3_addUp_29 ?_
        refine J_getL 5 lkF_X3_36 rfl rfl dX3_addUp_30 ?_
        refine J_lconst1 dX3_addUp_33 ?_
        refine J_iload_n 2 dX3_addUp_34 rfl ?_
        refine J_iconst 4 dX3_addUp_35 ⟨by decide, by decide⟩ ?_
        refine J_idiv dX3_addUp_36 (by omega) (by omega) ?_
        refine J_lshl dX3_addUp_37 ?_
        refine J_lor dX3_addUp_38 ?_
        refine J_putL 5 lkF_X3_36 rfl fp_3_5 rfl rfl dX3_addUp_39 ?_
        refine J_goto 62 dX3_addUp_42 (by decide) ?_
        refine J_iinc_1 dX3_addUp_62 (by decide) ⟨by omega, by omega⟩ rfl ?_
        refine J_goto 2 dX3_addUp_65 (by decide) ?_
        refine ih (i + 1) _ _ (by omega) ?_ hQ
        rw [show l.length - (i + 1) = l.length - 1 - i from by omega, hdrop]
        first | exact AUP_run hU hev h25 | exact AUP_miss hU h49 | exact AUP_other hU h25 h49

set_option maxRecDepth 100000 in
set_option maxHeartbeats 4000000 in
theorem kX3_addUp {X : Cx} {d : Nat} {ω : Om} {Q : Option MV → Om → Prop} {l : List Int} (hsz : ω 4 7 = l.length ∨ (ω 4 7 = -1 ∧ l = [])) (hA : Arr (ω 19) l) (hE : ∀ e ∈ l, EvOk e) (hl : l.length ≤ 60) (hm : 0 ≤ ω 5 6 ∧ ω 5 6 ≤ 3000) (hQ : ∀ ω', AUP ω ω' l → Q none ω') : Mc X mX3_addUp (d + 1) [vR 5] ω Q := by
  refine Mc_of [some (vR 5), none, none] (by decide +kernel) rfl (Nat.le_of_ble_eq_true rfl) ?_
  refine J_iconst 0 dX3_addUp_0 ⟨by decide, by decide⟩ ?_
  refine J_istore_1 dX3_addUp_1 (by decide) rfl ?_
  exact l_addUp hsz hA hE hl hm l.length 0 ω none (by omega) (by rw [Nat.sub_zero, List.drop_length]; exact AUP_0 ω) hQ

def SVk (τ ω : Om) (k : Nat) : Prop := (∀ r : Nat, r < k → RowIs ω (r : Int) (trT τ ((r / 6 : Nat) : Int) ((r % 6 : Nat) : Int))) ∧ (∀ c : Nat, c < 64 → tbL (ω 5 5) c = reachT τ c k) ∧ ω 5 6 = missT τ k
theorem SVk_v {τ ω : Om} (h : SVk τ ω (6 * (τ 3 7).toNat)) : SVv τ ω := by
  refine ⟨fun t m t0 t1 m0 m1 => ?_, h.2⟩
  have := h.1 (6 * t.toNat + m.toNat) (by omega)
  rw [show (6 * t.toNat + m.toNat) / 6 = t.toNat from by omega, show (6 * t.toNat + m.toNat) % 6 = m.toNat from by omega] at this
  rw [show t * 6 + m = ((6 * t.toNat + m.toNat : Nat) : Int) from by omega]
  rw [show ((t.toNat : Nat) : Int) = t from by omega, show ((m.toNat : Nat) : Int) = m from by omega] at this
  exact this
/-- one more trace is stored and counted -/
theorem SVk_step {τ ω ω1 ω2 ω3 : Om} {t m : Nat} (hW : WfT τ) (ht : t < 8) (hm : m < 6) (h : SVk τ ω (6 * t + m)) (h1 : Fr [4, 19, 20, 21, 22] ω ω1) (h15 : ∀ i, ω1 5 i = ω 5 i)
    (h2 : RowIs ω2 ((t : Int) * 6 + m) (trT τ t m)) (h2r : ∀ r, 0 ≤ r → r < 48 → r ≠ (t : Int) * 6 + m → RowEq ω1 ω2 r) (h2f : Fr [23, 24, 25] ω1 ω2)
    (h3 : (hol τ t = 0 → AUP ω2 ω3 (evs τ t m)) ∧ (¬ hol τ t = 0 → ω3 = ω2)) : SVk τ ω3 (6 * t + m + 1) := by
  have e3 : ∀ k, k = 23 ∨ k = 24 ∨ k = 25 → ω3 k = ω2 k := by
    intro k hk
    by_cases hh : hol τ t = 0
    · exact (h3.1 hh).1 k (by rcases hk with rfl | rfl | rfl <;> decide)
    · rw [h3.2 hh]
  have hk6 : (6 * t + m) / 6 = t := by omega
  have hm6 : (6 * t + m) % 6 = m := by omega
  have hlen : ∀ (a b : Nat), b < 6 → ∀ s, trT τ a b = some s → s.1.length ≤ 60 := fun a b hb s hs => (tr_ok hW (by omega) hs).1.2.2.2.2
  refine ⟨fun r hr => ?_, fun c hc => ?_, ?_⟩
  · by_cases e : r = 6 * t + m
    · subst e
      rw [hk6, hm6]
      have h2' : RowIs ω2 ((6 * t + m : Nat) : Int) (trT τ t m) := by
        rw [show ((6 * t + m : Nat) : Int) = (t : Int) * 6 + m from by omega]; exact h2
      exact h2'.eq (fun s hs => hlen t m hm s hs) ⟨by rw [e3 24 (by simp)], by rw [e3 25 (by simp)], fun i _ _ => by rw [e3 23 (by simp)]⟩
    · have q1 := h.1 r (by omega)
      have q2 : RowEq ω ω1 r := ⟨by rw [h1 24 (by decide)], by rw [h1 25 (by decide)], fun i _ _ => by rw [h1 23 (by decide)]⟩
      have q3 := h2r r (by omega) (by omega) (by omega)
      have ll : ∀ s, trT τ ((r / 6 : Nat) : Int) ((r % 6 : Nat) : Int) = some s → s.1.length ≤ 60 := fun s hs => hlen _ _ (by omega) s hs
      exact (((q1.eq ll q2).eq ll q3)).eq ll ⟨by rw [e3 24 (by simp)], by rw [e3 25 (by simp)], fun i _ _ => by rw [e3 23 (by simp)]⟩
  · simp only [reachT]
    rw [hk6, hm6]
    have e5 : tbL (ω2 5 5) c = reachT τ c (6 * t + m) := by rw [h2f 5 (by decide), h15]; exact h.2.1 c hc
    by_cases hh : hol τ t = 0
    · rw [(h3.1 hh).2.2.1 c hc, e5]; simp [hh]
    · rw [h3.2 hh, e5]; simp [hh]
  · simp only [missT]
    rw [hk6, hm6]
    have e5 : ω2 5 6 = missT τ (6 * t + m) := by rw [h2f 5 (by decide), h15]; exact h.2.2
    by_cases hh : hol τ t = 0
    · rw [(h3.1 hh).2.2.2, e5, if_pos hh]
    · rw [h3.2 hh, e5, if_neg hh]; omega
set_option maxRecDepth 100000 in
set_option maxHeartbeats 4000000 in
theorem l_ref1 {X : Cx} {d : Nat} {Q : Option MV → Om → Prop} {τ ω0 : Om} {t : Nat} {ver : Int} (hW : WfT τ) (ht : t < 8) (htn : (t : Int) < τ 3 7) : ∀ (n m : Nat) (ω : Om), m + n = 6 → SVk τ ω (6 * t + m) → TE τ ω → Fr [4, 5, 19, 20, 21, 22, 23, 24, 25] ω0 ω → ω 5 7 = ver → (∀ ω', SVk τ ω' (6 * t + 6) → TE τ ω' → Fr [4, 5, 19, 20, 21, 22, 23, 24, 25] ω0 ω' → ω' 5 7 = ver → JM X mX3_refresh (d + 3) Q 93 [some (vR 5), some (vI t), some (vI 6)] [] ω') → JM X mX3_refresh (d + 3) Q 51 [some (vR 5), some (vI t), some (vI m)] [] ω := by
  intro n
  induction n with
  | zero =>
    intro m ω hm hV hE hF hv hK
    have e6 : m = 6 := by omega
    subst e6
    refine J_iload_n 2 dX3_refresh_51 rfl ?_
    refine J_bipush 6 dX3_refresh_52 ⟨by decide, by decide⟩ (by decide) ?_
    refine J_icmp_ge 93 dX3_refresh_54 (by decide) (fun h54 => ?_) (fun h54 => ?_)
    · skip
      exact hK ω hV hE hF hv
    · skip
      exfalso; omega
  | succ n ih =>
    intro m ω hm hV hE hF hv hK
    refine J_iload_n 2 dX3_refresh_51 rfl ?_
    refine J_bipush 6 dX3_refresh_52 ⟨by decide, by decide⟩ (by decide) ?_
    refine J_icmp_ge 93 dX3_refresh_54 (by decide) (fun h54 => ?_) (fun h54 => ?_)
    · skip
      exfalso; omega
    · skip
      refine J_aload_n 0 dX3_refresh_57 rfl ?_
      refine J_getR lkF_X3_29 rfl dX3_refresh_58 ?_
      refine J_iload_n 1 dX3_refresh_61 rfl ?_
      refine J_iload_n 2 dX3_refresh_62 rfl ?_
      refine JM_V2 lkM_X3_46 rcv_4 dX3_refresh_63 (by decide) (Nat.le_of_ble_eq_true rfl) ?_
      refine kX4_run hW hE (by omega) (fun ω1 r1 f1 => ?_)
      have e15 : ∀ i, ω1 5 i = ω 5 i := fun i => by rw [f1 5 (by decide)]
      have hE1 : TE τ ω1 := hE.fr f1 rfl
      refine J_aload_n 0 dX3_refresh_66 rfl ?_
      refine J_iload_n 1 dX3_refresh_67 rfl ?_
      refine J_iload_n 2 dX3_refresh_68 rfl ?_
      refine JM_V2 lkM_X3_52 rcv_5 dX3_refresh_69 (by decide) (Nat.le_of_ble_eq_true rfl) ?_
      refine kX3_store (by omega) (by omega) r1 (fun ω2 r2 q2 f2 => ?_)
      have hE2 : TE τ ω2 := hE1.fr f2 rfl
      refine J_aload_n 0 dX3_refresh_72 rfl ?_
      refine J_getR lkF_X3_25 rfl dX3_refresh_73 ?_
      refine J_iload_n 1 dX3_refresh_76 rfl ?_
      refine JM_V1 lkM_X3_55 rcv_3 dX3_refresh_77 (by decide) (Nat.le_of_ble_eq_true rfl) ?_
      refine kX5_isHollow ?_
      rw [hol_TE hE2]
      refine J_if_ne 87 dX3_refresh_80 (by decide) (fun h80 => ?_) (fun h80 => ?_)
      · skip
        refine J_iinc_2 dX3_refresh_87 (by decide) ⟨by omega, by omega⟩ rfl ?_
        refine J_goto 51 dX3_refresh_90 (by decide) ?_
        first
          | (refine ih (m + 1) ω3 (by omega) (SVk_step hW ht (by omega) hV f1 e15 r2 q2 f2 ⟨fun _ => r3, fun q => absurd h80 q⟩) (hE2.fr r3.1 rfl) (hF.tr ((f1.mono (by decide)).tr ((f2.mono (by decide)).tr (r3.1.mono (by decide))))) (by rw [r3.2.1 7 (by decide) (by decide), f2 5 (by decide), e15]; exact hv) hK)
          | (refine ih (m + 1) ω2 (by omega) (SVk_step hW ht (by omega) hV f1 e15 r2 q2 f2 ⟨fun q => absurd q h80, fun _ => rfl⟩) hE2 (hF.tr ((f1.mono (by decide)).tr (f2.mono (by decide)))) (by rw [f2 5 (by decide), e15]; exact hv) hK)
      · skip
        refine J_aload_n 0 dX3_refresh_83 rfl ?_
        refine JM_V0 lkM_X3_59 rcv_5 dX3_refresh_84 (by decide) (Nat.le_of_ble_eq_true rfl) ?_
        have hevl := evs_len hW (t : Int) (m := (m : Int)) (by omega)
        have hms := missT_R hW (6 * t + m)
        have e56 : ω2 5 6 = missT τ (6 * t + m) := by rw [f2 5 (by decide), e15]; exact hV.2.2
        have hcells : (ω2 4 7 = (evs τ t m).length ∨ (ω2 4 7 = -1 ∧ evs τ t m = [])) ∧ Arr (ω2 19) (evs τ t m) ∧ ∀ e ∈ evs τ t m, EvOk e := by
          rw [f2 4 (by decide), f2 19 (by decide)]
          unfold evs
          cases hto : trT τ t m with
          | none => rw [hto] at r1; exact ⟨Or.inr ⟨r1.2.1, rfl⟩, trivial, fun _ h => absurd h List.not_mem_nil⟩
          | some s => rw [hto] at r1; exact ⟨Or.inl r1.1.2.1, r1.1.2.2.1, (tr_ok hW (by omega) hto).2.1⟩
        refine kX3_addUp hcells.1 hcells.2.1 hcells.2.2 hevl (by omega) (fun ω3 r3 => ?_)
        refine J_iinc_2 dX3_refresh_87 (by decide) ⟨by omega, by omega⟩ rfl ?_
        refine J_goto 51 dX3_refresh_90 (by decide) ?_
        first
          | (refine ih (m + 1) ω3 (by omega) (SVk_step hW ht (by omega) hV f1 e15 r2 q2 f2 ⟨fun _ => r3, fun q => absurd h80 q⟩) (hE2.fr r3.1 rfl) (hF.tr ((f1.mono (by decide)).tr ((f2.mono (by decide)).tr (r3.1.mono (by decide))))) (by rw [r3.2.1 7 (by decide) (by decide), f2 5 (by decide), e15]; exact hv) hK)
          | (refine ih (m + 1) ω2 (by omega) (SVk_step hW ht (by omega) hV f1 e15 r2 q2 f2 ⟨fun q => absurd q h80, fun _ => rfl⟩) hE2 (hF.tr ((f1.mono (by decide)).tr (f2.mono (by decide)))) (by rw [f2 5 (by decide), e15]; exact hv) hK)

set_option maxRecDepth 100000 in
set_option maxHeartbeats 4000000 in
theorem l_ref2 {X : Cx} {d : Nat} {Q : Option MV → Om → Prop} {τ ω0 : Om} {ver : Int} (hW : WfT τ) : ∀ (n t : Nat) (ω : Om) (x : Option MV), t + n = (τ 3 7).toNat → SVk τ ω (6 * t) → TE τ ω → Fr [4, 5, 19, 20, 21, 22, 23, 24, 25] ω0 ω → ω 5 7 = ver → (∀ ω', SVv τ ω' → TE τ ω' → Fr [4, 5, 19, 20, 21, 22, 23, 24, 25] ω0 ω' → ω' 5 7 = ver → Q none ω') → JM X mX3_refresh (d + 3) Q 38 [some (vR 5), some (vI t), x] [] ω := by
  intro n
  induction n with
  | zero =>
    intro t ω x ht hV hE hF hv hQ
    have hn := hW.1
    have e3 : ω 3 7 = τ 3 7 := by rw [hE.1]
    refine J_iload_n 1 dX3_refresh_38 rfl ?_
    refine J_aload_n 0 dX3_refresh_39 rfl ?_
    refine J_getR lkF_X3_25 rfl dX3_refresh_40 ?_
    refine J_getI 7 lkF_X3_43 rfl rfl rfl dX3_refresh_43 ?_
    refine J_icmp_ge 99 dX3_refresh_46 (by decide) (fun h46 => ?_) (fun h46 => ?_)
    · skip
      refine JM_vret rfl dX3_refresh_99 ?_
      exact hQ ω (SVk_v (by rw [show (τ 3 7).toNat = t from by omega]; exact hV)) hE hF hv
    · skip
      exfalso; omega
  | succ n ih =>
    intro t ω x ht hV hE hF hv hQ
    have hn := hW.1
    have e3 : ω 3 7 = τ 3 7 := by rw [hE.1]
    refine J_iload_n 1 dX3_refresh_38 rfl ?_
    refine J_aload_n 0 dX3_refresh_39 rfl ?_
    refine J_getR lkF_X3_25 rfl dX3_refresh_40 ?_
    refine J_getI 7 lkF_X3_43 rfl rfl rfl dX3_refresh_43 ?_
    refine J_icmp_ge 99 dX3_refresh_46 (by decide) (fun h46 => ?_) (fun h46 => ?_)
    · skip
      exfalso; omega
    · skip
      refine J_iconst 0 dX3_refresh_49 ⟨by decide, by decide⟩ ?_
      refine J_istore_2 dX3_refresh_50 (by decide) rfl ?_
      refine l_ref1 hW (by omega) (by omega) 6 0 ω rfl hV hE hF hv (fun ω1 a1 a2 a3 a4 => ?_)
      refine J_iinc_1 dX3_refresh_93 (by decide) ⟨by omega, by omega⟩ rfl ?_
      refine J_goto 38 dX3_refresh_96 (by decide) ?_
      exact ih (t + 1) ω1 _ (by omega) (by rw [show 6 * (t + 1) = 6 * t + 6 from by omega]; exact a1) a2 a3 a4 hQ

set_option maxRecDepth 100000 in
set_option maxHeartbeats 4000000 in
theorem kX3_refresh {X : Cx} {d : Nat} {ω : Om} {Q : Option MV → Om → Prop} {τ : Om} (hW : WfT τ) (hE : TE τ ω) (hC : ω 5 7 = ω 3 9 → SVv τ ω) (hQ : ∀ ω', SVv τ ω' → TE τ ω' → Fr [4, 5, 19, 20, 21, 22, 23, 24, 25] ω ω' → ω' 5 7 = ω 3 9 → Q none ω') : Mc X mX3_refresh (d + 3) [vR 5] ω Q := by
  refine Mc_of [some (vR 5), none, none] (by decide +kernel) rfl (Nat.le_of_ble_eq_true rfl) ?_
  refine J_aload_n 0 dX3_refresh_0 rfl ?_
  refine J_getI 7 lkF_X3_21 rfl rfl rfl dX3_refresh_1 ?_
  refine J_aload_n 0 dX3_refresh_4 rfl ?_
  refine J_getR lkF_X3_25 rfl dX3_refresh_5 ?_
  refine J_getI 9 lkF_X3_33 rfl rfl rfl dX3_refresh_8 ?_
  refine J_icmp_ne 15 dX3_refresh_11 (by decide) (fun h11 => ?_) (fun h11 => ?_)
  · skip
    refine J_aload_n 0 dX3_refresh_15 rfl ?_
    refine J_aload_n 0 dX3_refresh_16 rfl ?_
    refine J_getR lkF_X3_25 rfl dX3_refresh_17 ?_
    refine J_getI 9 lkF_X3_33 rfl rfl rfl dX3_refresh_20 ?_
    refine J_putI 7 lkF_X3_21 rfl fp_3_7 rfl dX3_refresh_23 ?_
    refine J_aload_n 0 dX3_refresh_26 rfl ?_
    refine J_lconst0 dX3_refresh_27 ?_
    refine J_putL 5 lkF_X3_36 rfl fp_3_5 rfl rfl dX3_refresh_28 ?_
    refine J_aload_n 0 dX3_refresh_31 rfl ?_
    refine J_iconst 0 dX3_refresh_32 ⟨by decide, by decide⟩ ?_
    refine J_putI 6 lkF_X3_40 rfl fp_3_6 rfl dX3_refresh_33 ?_
    refine J_iconst 0 dX3_refresh_36 ⟨by decide, by decide⟩ ?_
    refine J_istore_1 dX3_refresh_37 (by decide) rfl ?_
    refine l_ref2 (ω0 := ω) hW (τ 3 7).toNat 0 _ _ (by omega) ⟨fun r hr => absurd hr (by omega), fun c hc => ?_, ?_⟩ (hE.fr (K := [5]) (Fr.up (Fr.up (Fr.up Fr.rf (by decide)) (by decide)) (by decide)) rfl) (Fr.up (Fr.up (Fr.up Fr.rf (by decide)) (by decide)) (by decide)) (by rw [up_i (by decide), up_i (by decide), up_s]) hQ
    · rw [up_i (by decide), up_s, bit_zero]; rfl
    · rw [up_s]; rfl
  · skip
    refine JM_vret rfl dX3_refresh_14 ?_
    exact hQ ω (hC (by omega)) hE Fr.rf (by omega)

def evO (o : Option TS) : Option (List Int) := o.map (·.1)
set_option maxRecDepth 100000 in
set_option maxHeartbeats 4000000 in
theorem l_ias {X : Cx} {d : Nat} {Q : Option MV → Om → Prop} {ω : Om} {t m : Int} {l l' : List Int} (ht : 0 ≤ t ∧ t < 8) (hm : 0 ≤ m ∧ m < 6) (hs : ω 4 7 = l.length) (hA : Arr (ω 19) l) (hA' : Arr (fun i => ω 23 ((t * 6 + m) * 60 + i)) l') (hll : l.length = l'.length) (hl : l.length ≤ 60) : ∀ (n i : Nat), i + n = l.length → (∀ j : Nat, j < i → ω 19 j = ω 23 ((t * 6 + m) * 60 + j)) → Q (some (vI (if l = l' then 1 else 0))) ω → JM X mX3_isAsTraced (d + 2) Q 20 [some (vR 5), some (vI t), some (vI m), some (vI i)] [] ω := by
  intro n
  induction n with
  | zero =>
    intro i hi hj hQ
    refine J_iload_n 3 dX3_isAsTraced_20 rfl ?_
    refine J_aload_n 0 dX3_isAsTraced_21 rfl ?_
    refine J_getR lkF_X3_29 rfl dX3_isAsTraced_22 ?_
    refine J_getI 7 lkF_X3_66 rfl rfl rfl dX3_isAsTraced_25 ?_
    refine J_icmp_ge 57 dX3_isAsTraced_28 (by decide) (fun h28 => ?_) (fun h28 => ?_)
    · skip
      refine J_iconst 1 dX3_isAsTraced_57 ⟨by decide, by decide⟩ ?_
      refine JM_zret rfl (by omega) dX3_isAsTraced_58 ?_
      rw [if_pos ((Arr_ext hA hA' hll).mp (fun j hj' => hj j (by omega)))] at hQ; exact hQ
    · skip
      exfalso; omega
  | succ n ih =>
    intro i hi hj hQ
    refine J_iload_n 3 dX3_isAsTraced_20 rfl ?_
    refine J_aload_n 0 dX3_isAsTraced_21 rfl ?_
    refine J_getR lkF_X3_29 rfl dX3_isAsTraced_22 ?_
    refine J_getI 7 lkF_X3_66 rfl rfl rfl dX3_isAsTraced_25 ?_
    refine J_icmp_ge 57 dX3_isAsTraced_28 (by decide) (fun h28 => ?_) (fun h28 => ?_)
    · skip
      exfalso; omega
    · skip
      refine J_aload_n 0 dX3_isAsTraced_31 rfl ?_
      refine J_getR lkF_X3_29 rfl dX3_isAsTraced_32 ?_
      refine J_iload_n 3 dX3_isAsTraced_35 rfl ?_
      refine JM_V1 lkM_X3_72 rcv_4 dX3_isAsTraced_36 (by decide) (Nat.le_of_ble_eq_true rfl) ?_
      refine kX4_eventAt ?_
      rw [if_pos (by omega)]
      refine J_aload_n 0 dX3_isAsTraced_39 rfl ?_
      refine J_iload_n 1 dX3_isAsTraced_40 rfl ?_
      refine J_iload_n 2 dX3_isAsTraced_41 rfl ?_
      refine J_iload_n 3 dX3_isAsTraced_42 rfl ?_
      refine JM_V3 lkM_X3_85 rcv_5 dX3_isAsTraced_43 (by decide) (Nat.le_of_ble_eq_true rfl) ?_
      refine kX3_eventAt (by omega) (by omega) (by omega) ?_
      refine J_icmp_eq 51 dX3_isAsTraced_46 (by decide) (fun h46 => ?_) (fun h46 => ?_)
      · skip
        refine J_iinc_3 dX3_isAsTraced_51 (by decide) ⟨by omega, by omega⟩ rfl ?_
        refine J_goto 20 dX3_isAsTraced_54 (by decide) ?_
        exact ih (i + 1) (by omega) (fun j hj' => by
          by_cases e : j = i
          · subst e; exact h46
          · exact hj j (by omega)) hQ
      · skip
        refine J_iconst 0 dX3_isAsTraced_49 ⟨by decide, by decide⟩ ?_
        refine JM_zret rfl (by omega) dX3_isAsTraced_50 ?_
        rw [if_neg (fun e => h46 ((Arr_ext hA hA' hll).mpr e i (by omega)))] at hQ; exact hQ

set_option maxRecDepth 100000 in
set_option maxHeartbeats 4000000 in
theorem kX3_isAsTraced {X : Cx} {d : Nat} {ω : Om} {Q : Option MV → Om → Prop} {t m : Int} {τ : Om} {o o' : Option TS} (ht : 0 ≤ t ∧ t < 8) (hm : 0 ≤ m ∧ m < 6) (hR : RunP τ ω o) (hW' : RowIs ω (t * 6 + m) o') (hl : ∀ s, o' = some s → s.1.length ≤ 60) (hQ : Q (some (vI (if evO o = evO o' then 1 else 0))) ω) : Mc X mX3_isAsTraced (d + 2) [vR 5, vI t, vI m] ω Q := by
  refine Mc_of [some (vR 5), some (vI t), some (vI m), none] (by decide +kernel) rfl (Nat.le_of_ble_eq_true rfl) ?_
  refine J_aload_n 0 dX3_isAsTraced_0 rfl ?_
  refine J_getR lkF_X3_29 rfl dX3_isAsTraced_1 ?_
  refine J_getI 7 lkF_X3_66 rfl rfl rfl dX3_isAsTraced_4 ?_
  refine J_aload_n 0 dX3_isAsTraced_7 rfl ?_
  refine J_iload_n 1 dX3_isAsTraced_8 rfl ?_
  refine J_iload_n 2 dX3_isAsTraced_9 rfl ?_
  refine JM_V2 lkM_X3_82 rcv_5 dX3_isAsTraced_10 (by decide) (Nat.le_of_ble_eq_true rfl) ?_
  refine kX3_sizeOf (by omega) (by omega) ?_
  refine J_icmp_eq 18 dX3_isAsTraced_13 (by decide) (fun h13 => ?_) (fun h13 => ?_)
  · skip
    refine J_iconst 0 dX3_isAsTraced_18 ⟨by decide, by decide⟩ ?_
    refine J_istore_3 dX3_isAsTraced_19 (by decide) rfl ?_
    cases o with
    | none => cases o' with
      | none =>
        have hs := hR.2.1
        refine J_iload_n 3 dX3_isAsTraced_20 rfl ?_
        refine J_aload_n 0 dX3_isAsTraced_21 rfl ?_
        refine J_getR lkF_X3_29 rfl dX3_isAsTraced_22 ?_
        refine J_getI 7 lkF_X3_66 rfl rfl rfl dX3_isAsTraced_25 ?_
        refine J_icmp_ge 57 dX3_isAsTraced_28 (by decide) (fun h28 => ?_) (fun h28 => ?_)
        · skip
          refine J_iconst 1 dX3_isAsTraced_57 ⟨by decide, by decide⟩ ?_
          refine JM_zret rfl (by omega) dX3_isAsTraced_58 ?_
          rw [if_pos rfl] at hQ; exact hQ
        · skip
          exfalso; omega
      | some s' => exfalso; have a := hR.2.1; have b := hW'.1; omega
    | some s => cases o' with
      | none => exfalso; have a := hR.1.2.1; have b := hW'.1; omega
      | some s' =>
        have a := hR.1.2.1
        have b := hW'.1
        have ee : (evO (some s) = evO (some s')) = (s.1 = s'.1) := by simp [evO]
        simp only [ee] at hQ
        exact l_ias ht hm a hR.1.2.2.1 hW'.2.2 (by omega) (by have := hl s' rfl; omega) s.1.length 0 (by omega) (fun j hj => absurd hj (by omega)) hQ
  · skip
    refine J_iconst 0 dX3_isAsTraced_16 ⟨by decide, by decide⟩ ?_
    refine JM_zret rfl (by omega) dX3_isAsTraced_17 ?_
    rw [if_neg] at hQ
    · exact hQ
    · intro e
      apply h13
      cases o with
      | none => cases o' with
        | none => rw [hR.2.1, hW'.1]
        | some s' => cases e
      | some s => cases o' with
        | none => cases e
        | some s' => rw [hR.1.2.1, hW'.1, (Option.some.inj e : s.1 = s'.1)]
end
