section
-- ===== PART A: goes FIRST, ahead of the names: the tables' words, and 'selects' of the private methods out of them =====
/-- a private method of a class that the tables say can be made, by its rows of tables_1 -/
def lw_okq (q : MethodName × Nat) : Prop := (q.1.cls ≠ "java/lang/invoke/MethodHandle" ∧ q.1.cls ≠ "java/lang/invoke/VarHandle") ∧ Cond.instantiable q.1.cls q.2 ∈ tables_1 ∧ Cond.privateMethod q.1 ∈ tables_1 ∧ Cond.instanceMethod q.1 ∈ tables_1
theorem lw_p0 : lw_okq (⟨"NestedFoci$ThingReader", "readOne", "(I)LNestedFoci$Thing;"⟩, 1) := ⟨⟨by decide +kernel, by decide +kernel⟩, List.mem_of_getElem? (i := 45) (by decide +kernel), List.mem_of_getElem? (i := 279) (by decide +kernel), List.mem_of_getElem? (i := 280) (by decide +kernel)⟩
theorem lw_p1 : lw_okq (⟨"NestedFoci$ThingReader", "readPair", "(I)LNestedFoci$Thing;"⟩, 1) := ⟨⟨by decide +kernel, by decide +kernel⟩, List.mem_of_getElem? (i := 45) (by decide +kernel), List.mem_of_getElem? (i := 295) (by decide +kernel), List.mem_of_getElem? (i := 296) (by decide +kernel)⟩
theorem lw_p2 : lw_okq (⟨"NestedFoci$Parts", "insert", "(IILNestedFoci$Thing;)V"⟩, 3) := ⟨⟨by decide +kernel, by decide +kernel⟩, List.mem_of_getElem? (i := 321) (by decide +kernel), List.mem_of_getElem? (i := 342) (by decide +kernel), List.mem_of_getElem? (i := 343) (by decide +kernel)⟩
theorem lw_p3 : lw_okq (⟨"NestedFoci$ThingReader", "readMany", "(III)LNestedFoci$Thing;"⟩, 1) := ⟨⟨by decide +kernel, by decide +kernel⟩, List.mem_of_getElem? (i := 45) (by decide +kernel), List.mem_of_getElem? (i := 351) (by decide +kernel), List.mem_of_getElem? (i := 352) (by decide +kernel)⟩
theorem lw_p4 : lw_okq (⟨"NestedFoci$ThingReader", "readNewKey", "(LNestedFoci$Parts;)I"⟩, 1) := ⟨⟨by decide +kernel, by decide +kernel⟩, List.mem_of_getElem? (i := 45) (by decide +kernel), List.mem_of_getElem? (i := 359) (by decide +kernel), List.mem_of_getElem? (i := 360) (by decide +kernel)⟩
theorem lw_p5 : lw_okq (⟨"NestedFoci$Parts", "placeOf", "(I)I"⟩, 3) := ⟨⟨by decide +kernel, by decide +kernel⟩, List.mem_of_getElem? (i := 321) (by decide +kernel), List.mem_of_getElem? (i := 371) (by decide +kernel), List.mem_of_getElem? (i := 372) (by decide +kernel)⟩
theorem lw_p6 : lw_okq (⟨"NestedFoci$ThingReader", "readTagged", "(I)LNestedFoci$Thing;"⟩, 1) := ⟨⟨by decide +kernel, by decide +kernel⟩, List.mem_of_getElem? (i := 45) (by decide +kernel), List.mem_of_getElem? (i := 380) (by decide +kernel), List.mem_of_getElem? (i := 381) (by decide +kernel)⟩
theorem lw_p7 : lw_okq (⟨"NestedFoci$PathReader", "readStep", "()I"⟩, 3) := ⟨⟨by decide +kernel, by decide +kernel⟩, List.mem_of_getElem? (i := 55) (by decide +kernel), List.mem_of_getElem? (i := 430) (by decide +kernel), List.mem_of_getElem? (i := 431) (by decide +kernel)⟩
theorem lw_p8 : lw_okq (⟨"NestedFoci$PathReader", "readSide", "()I"⟩, 3) := ⟨⟨by decide +kernel, by decide +kernel⟩, List.mem_of_getElem? (i := 55) (by decide +kernel), List.mem_of_getElem? (i := 436) (by decide +kernel), List.mem_of_getElem? (i := 437) (by decide +kernel)⟩
theorem lw_p9 : lw_okq (⟨"NestedFoci$PathReader", "closed", "(II)I"⟩, 3) := ⟨⟨by decide +kernel, by decide +kernel⟩, List.mem_of_getElem? (i := 55) (by decide +kernel), List.mem_of_getElem? (i := 444) (by decide +kernel), List.mem_of_getElem? (i := 445) (by decide +kernel)⟩
theorem lw_p10 : lw_okq (⟨"NestedFoci$Path", "sign", "(I)I"⟩, 2) := ⟨⟨by decide +kernel, by decide +kernel⟩, List.mem_of_getElem? (i := 202) (by decide +kernel), List.mem_of_getElem? (i := 471) (by decide +kernel), List.mem_of_getElem? (i := 472) (by decide +kernel)⟩
theorem lw_p11 : lw_okq (⟨"NestedFoci$Path", "word", "(I)I"⟩, 2) := ⟨⟨by decide +kernel, by decide +kernel⟩, List.mem_of_getElem? (i := 202) (by decide +kernel), List.mem_of_getElem? (i := 475) (by decide +kernel), List.mem_of_getElem? (i := 476) (by decide +kernel)⟩
theorem lw_p12 : lw_okq (⟨"NestedFoci", "held", "(I)LNestedFoci$Thing;"⟩, 12) := ⟨⟨by decide +kernel, by decide +kernel⟩, List.mem_of_getElem? (i := 17) (by decide +kernel), List.mem_of_getElem? (i := 488) (by decide +kernel), List.mem_of_getElem? (i := 489) (by decide +kernel)⟩
theorem lw_p13 : lw_okq (⟨"NestedFoci$Changer", "changeWithin", "(LNestedFoci$Thing;II)LNestedFoci$Thing;"⟩, 7) := ⟨⟨by decide +kernel, by decide +kernel⟩, List.mem_of_getElem? (i := 85) (by decide +kernel), List.mem_of_getElem? (i := 500) (by decide +kernel), List.mem_of_getElem? (i := 501) (by decide +kernel)⟩
theorem lw_p14 : lw_okq (⟨"NestedFoci$Changer", "changeFocus", "(LNestedFoci$Thing;)LNestedFoci$Thing;"⟩, 7) := ⟨⟨by decide +kernel, by decide +kernel⟩, List.mem_of_getElem? (i := 85) (by decide +kernel), List.mem_of_getElem? (i := 505) (by decide +kernel), List.mem_of_getElem? (i := 506) (by decide +kernel)⟩
theorem lw_p15 : lw_okq (⟨"NestedFoci$Changer", "makeNumberOf", "(LNestedFoci$Thing;I)LNestedFoci$Thing;"⟩, 7) := ⟨⟨by decide +kernel, by decide +kernel⟩, List.mem_of_getElem? (i := 85) (by decide +kernel), List.mem_of_getElem? (i := 509) (by decide +kernel), List.mem_of_getElem? (i := 510) (by decide +kernel)⟩
def lw_privs_1 : List (MethodName × Nat) := [(⟨"NestedFoci$ThingReader", "readOne", "(I)LNestedFoci$Thing;"⟩, 1), (⟨"NestedFoci$ThingReader", "readPair", "(I)LNestedFoci$Thing;"⟩, 1), (⟨"NestedFoci$Parts", "insert", "(IILNestedFoci$Thing;)V"⟩, 3), (⟨"NestedFoci$ThingReader", "readMany", "(III)LNestedFoci$Thing;"⟩, 1), (⟨"NestedFoci$ThingReader", "readNewKey", "(LNestedFoci$Parts;)I"⟩, 1), (⟨"NestedFoci$Parts", "placeOf", "(I)I"⟩, 3), (⟨"NestedFoci$ThingReader", "readTagged", "(I)LNestedFoci$Thing;"⟩, 1), (⟨"NestedFoci$PathReader", "readStep", "()I"⟩, 3), (⟨"NestedFoci$PathReader", "readSide", "()I"⟩, 3), (⟨"NestedFoci$PathReader", "closed", "(II)I"⟩, 3), (⟨"NestedFoci$Path", "sign", "(I)I"⟩, 2), (⟨"NestedFoci$Path", "word", "(I)I"⟩, 2), (⟨"NestedFoci", "held", "(I)LNestedFoci$Thing;"⟩, 12), (⟨"NestedFoci$Changer", "changeWithin", "(LNestedFoci$Thing;II)LNestedFoci$Thing;"⟩, 7), (⟨"NestedFoci$Changer", "changeFocus", "(LNestedFoci$Thing;)LNestedFoci$Thing;"⟩, 7), (⟨"NestedFoci$Changer", "makeNumberOf", "(LNestedFoci$Thing;I)LNestedFoci$Thing;"⟩, 7)]
theorem lw_r1 : ∀ q ∈ lw_privs_1, lw_okq q := List.forall_mem_cons.mpr ⟨lw_p0, List.forall_mem_cons.mpr ⟨lw_p1, List.forall_mem_cons.mpr ⟨lw_p2, List.forall_mem_cons.mpr ⟨lw_p3, List.forall_mem_cons.mpr ⟨lw_p4, List.forall_mem_cons.mpr ⟨lw_p5, List.forall_mem_cons.mpr ⟨lw_p6, List.forall_mem_cons.mpr ⟨lw_p7, List.forall_mem_cons.mpr ⟨lw_p8, List.forall_mem_cons.mpr ⟨lw_p9, List.forall_mem_cons.mpr ⟨lw_p10, List.forall_mem_cons.mpr ⟨lw_p11, List.forall_mem_cons.mpr ⟨lw_p12, List.forall_mem_cons.mpr ⟨lw_p13, List.forall_mem_cons.mpr ⟨lw_p14, List.forall_mem_cons.mpr ⟨lw_p15, fun _ h => absurd h List.not_mem_nil⟩⟩⟩⟩⟩⟩⟩⟩⟩⟩⟩⟩⟩⟩⟩⟩
theorem lw_p16 : lw_okq (⟨"NestedFoci$Changer", "make", "(II[LNestedFoci$Thing;LNestedFoci$Thing;)LNestedFoci$Thing;"⟩, 7) := ⟨⟨by decide +kernel, by decide +kernel⟩, List.mem_of_getElem? (i := 85) (by decide +kernel), List.mem_of_getElem? (i := 514) (by decide +kernel), List.mem_of_getElem? (i := 515) (by decide +kernel)⟩
theorem lw_p17 : lw_okq (⟨"NestedFoci$Changer", "mayMake", "()Z"⟩, 7) := ⟨⟨by decide +kernel, by decide +kernel⟩, List.mem_of_getElem? (i := 85) (by decide +kernel), List.mem_of_getElem? (i := 518) (by decide +kernel), List.mem_of_getElem? (i := 519) (by decide +kernel)⟩
theorem lw_p18 : lw_okq (⟨"NestedFoci$Changer", "changeOrder", "(LNestedFoci$Thing;)LNestedFoci$Thing;"⟩, 7) := ⟨⟨by decide +kernel, by decide +kernel⟩, List.mem_of_getElem? (i := 85) (by decide +kernel), List.mem_of_getElem? (i := 527) (by decide +kernel), List.mem_of_getElem? (i := 528) (by decide +kernel)⟩
theorem lw_p19 : lw_okq (⟨"NestedFoci$Changer", "makeAround", "(LNestedFoci$Thing;[LNestedFoci$Thing;)LNestedFoci$Thing;"⟩, 7) := ⟨⟨by decide +kernel, by decide +kernel⟩, List.mem_of_getElem? (i := 85) (by decide +kernel), List.mem_of_getElem? (i := 542) (by decide +kernel), List.mem_of_getElem? (i := 543) (by decide +kernel)⟩
theorem lw_p20 : lw_okq (⟨"NestedFoci", "focusAt", "(III)LNestedFoci$Thing;"⟩, 12) := ⟨⟨by decide +kernel, by decide +kernel⟩, List.mem_of_getElem? (i := 17) (by decide +kernel), List.mem_of_getElem? (i := 612) (by decide +kernel), List.mem_of_getElem? (i := 613) (by decide +kernel)⟩
theorem lw_p21 : lw_okq (⟨"NestedFoci$Foci", "findWithin", "(LNestedFoci$Thing;LNestedFoci$Path;II)V"⟩, 3) := ⟨⟨by decide +kernel, by decide +kernel⟩, List.mem_of_getElem? (i := 113) (by decide +kernel), List.mem_of_getElem? (i := 620) (by decide +kernel), List.mem_of_getElem? (i := 621) (by decide +kernel)⟩
theorem lw_p22 : lw_okq (⟨"NestedFoci$Foci", "add", "(LNestedFoci$Thing;)V"⟩, 3) := ⟨⟨by decide +kernel, by decide +kernel⟩, List.mem_of_getElem? (i := 113) (by decide +kernel), List.mem_of_getElem? (i := 625) (by decide +kernel), List.mem_of_getElem? (i := 626) (by decide +kernel)⟩
theorem lw_p23 : lw_okq (⟨"NestedFoci$Foci", "isLikeOneAhead", "(I)Z"⟩, 3) := ⟨⟨by decide +kernel, by decide +kernel⟩, List.mem_of_getElem? (i := 113) (by decide +kernel), List.mem_of_getElem? (i := 691) (by decide +kernel), List.mem_of_getElem? (i := 692) (by decide +kernel)⟩
theorem lw_p24 : lw_okq (⟨"NestedFoci$Difference", "findWithin", "(LNestedFoci$Thing;LNestedFoci$Thing;II)V"⟩, 2) := ⟨⟨by decide +kernel, by decide +kernel⟩, List.mem_of_getElem? (i := 131) (by decide +kernel), List.mem_of_getElem? (i := 742) (by decide +kernel), List.mem_of_getElem? (i := 743) (by decide +kernel)⟩
theorem lw_p25 : lw_okq (⟨"NestedFoci$Difference", "add", "(I)V"⟩, 2) := ⟨⟨by decide +kernel, by decide +kernel⟩, List.mem_of_getElem? (i := 131) (by decide +kernel), List.mem_of_getElem? (i := 751) (by decide +kernel), List.mem_of_getElem? (i := 752) (by decide +kernel)⟩
theorem lw_p26 : lw_okq (⟨"NestedFoci", "allNodes", "()I"⟩, 12) := ⟨⟨by decide +kernel, by decide +kernel⟩, List.mem_of_getElem? (i := 17) (by decide +kernel), List.mem_of_getElem? (i := 778) (by decide +kernel), List.mem_of_getElem? (i := 779) (by decide +kernel)⟩
theorem lw_p27 : lw_okq (⟨"NestedFociModel", "number", "(I)I"⟩, 41) := ⟨⟨by decide +kernel, by decide +kernel⟩, List.mem_of_getElem? (i := 798) (by decide +kernel), List.mem_of_getElem? (i := 805) (by decide +kernel), List.mem_of_getElem? (i := 806) (by decide +kernel)⟩
theorem lw_p28 : lw_okq (⟨"NestedFociModel", "begins", "(III)I"⟩, 41) := ⟨⟨by decide +kernel, by decide +kernel⟩, List.mem_of_getElem? (i := 798) (by decide +kernel), List.mem_of_getElem? (i := 809) (by decide +kernel), List.mem_of_getElem? (i := 810) (by decide +kernel)⟩
theorem lw_p29 : lw_okq (⟨"NestedFociModel", "ends", "(I)I"⟩, 41) := ⟨⟨by decide +kernel, by decide +kernel⟩, List.mem_of_getElem? (i := 798) (by decide +kernel), List.mem_of_getElem? (i := 813) (by decide +kernel), List.mem_of_getElem? (i := 814) (by decide +kernel)⟩
theorem lw_p30 : lw_okq (⟨"NestedFociModel", "reads", "(I)I"⟩, 41) := ⟨⟨by decide +kernel, by decide +kernel⟩, List.mem_of_getElem? (i := 798) (by decide +kernel), List.mem_of_getElem? (i := 955) (by decide +kernel), List.mem_of_getElem? (i := 956) (by decide +kernel)⟩
theorem lw_p31 : lw_okq (⟨"NestedFociModel", "here", "()I"⟩, 41) := ⟨⟨by decide +kernel, by decide +kernel⟩, List.mem_of_getElem? (i := 798) (by decide +kernel), List.mem_of_getElem? (i := 959) (by decide +kernel), List.mem_of_getElem? (i := 960) (by decide +kernel)⟩
def lw_privs_2 : List (MethodName × Nat) := [(⟨"NestedFoci$Changer", "make", "(II[LNestedFoci$Thing;LNestedFoci$Thing;)LNestedFoci$Thing;"⟩, 7), (⟨"NestedFoci$Changer", "mayMake", "()Z"⟩, 7), (⟨"NestedFoci$Changer", "changeOrder", "(LNestedFoci$Thing;)LNestedFoci$Thing;"⟩, 7), (⟨"NestedFoci$Changer", "makeAround", "(LNestedFoci$Thing;[LNestedFoci$Thing;)LNestedFoci$Thing;"⟩, 7), (⟨"NestedFoci", "focusAt", "(III)LNestedFoci$Thing;"⟩, 12), (⟨"NestedFoci$Foci", "findWithin", "(LNestedFoci$Thing;LNestedFoci$Path;II)V"⟩, 3), (⟨"NestedFoci$Foci", "add", "(LNestedFoci$Thing;)V"⟩, 3), (⟨"NestedFoci$Foci", "isLikeOneAhead", "(I)Z"⟩, 3), (⟨"NestedFoci$Difference", "findWithin", "(LNestedFoci$Thing;LNestedFoci$Thing;II)V"⟩, 2), (⟨"NestedFoci$Difference", "add", "(I)V"⟩, 2), (⟨"NestedFoci", "allNodes", "()I"⟩, 12), (⟨"NestedFociModel", "number", "(I)I"⟩, 41), (⟨"NestedFociModel", "begins", "(III)I"⟩, 41), (⟨"NestedFociModel", "ends", "(I)I"⟩, 41), (⟨"NestedFociModel", "reads", "(I)I"⟩, 41), (⟨"NestedFociModel", "here", "()I"⟩, 41)]
theorem lw_r2 : ∀ q ∈ lw_privs_2, lw_okq q := List.forall_mem_cons.mpr ⟨lw_p16, List.forall_mem_cons.mpr ⟨lw_p17, List.forall_mem_cons.mpr ⟨lw_p18, List.forall_mem_cons.mpr ⟨lw_p19, List.forall_mem_cons.mpr ⟨lw_p20, List.forall_mem_cons.mpr ⟨lw_p21, List.forall_mem_cons.mpr ⟨lw_p22, List.forall_mem_cons.mpr ⟨lw_p23, List.forall_mem_cons.mpr ⟨lw_p24, List.forall_mem_cons.mpr ⟨lw_p25, List.forall_mem_cons.mpr ⟨lw_p26, List.forall_mem_cons.mpr ⟨lw_p27, List.forall_mem_cons.mpr ⟨lw_p28, List.forall_mem_cons.mpr ⟨lw_p29, List.forall_mem_cons.mpr ⟨lw_p30, List.forall_mem_cons.mpr ⟨lw_p31, fun _ h => absurd h List.not_mem_nil⟩⟩⟩⟩⟩⟩⟩⟩⟩⟩⟩⟩⟩⟩⟩⟩
theorem lw_p32 : lw_okq (⟨"NestedFociModel", "isFault", "()Z"⟩, 41) := ⟨⟨by decide +kernel, by decide +kernel⟩, List.mem_of_getElem? (i := 798) (by decide +kernel), List.mem_of_getElem? (i := 963) (by decide +kernel), List.mem_of_getElem? (i := 964) (by decide +kernel)⟩
theorem lw_p33 : lw_okq (⟨"NestedFociModel", "fails", "(I)V"⟩, 41) := ⟨⟨by decide +kernel, by decide +kernel⟩, List.mem_of_getElem? (i := 798) (by decide +kernel), List.mem_of_getElem? (i := 967) (by decide +kernel), List.mem_of_getElem? (i := 968) (by decide +kernel)⟩
theorem lw_p34 : lw_okq (⟨"NestedFociModel", "adds", "(III)V"⟩, 41) := ⟨⟨by decide +kernel, by decide +kernel⟩, List.mem_of_getElem? (i := 798) (by decide +kernel), List.mem_of_getElem? (i := 971) (by decide +kernel), List.mem_of_getElem? (i := 972) (by decide +kernel)⟩
theorem lw_p35 : lw_okq (⟨"NestedFociModel", "one", "(II)I"⟩, 41) := ⟨⟨by decide +kernel, by decide +kernel⟩, List.mem_of_getElem? (i := 798) (by decide +kernel), List.mem_of_getElem? (i := 975) (by decide +kernel), List.mem_of_getElem? (i := 976) (by decide +kernel)⟩
theorem lw_p36 : lw_okq (⟨"NestedFociModel", "readsAll", "(III)V"⟩, 41) := ⟨⟨by decide +kernel, by decide +kernel⟩, List.mem_of_getElem? (i := 798) (by decide +kernel), List.mem_of_getElem? (i := 979) (by decide +kernel), List.mem_of_getElem? (i := 980) (by decide +kernel)⟩
theorem lw_p37 : lw_okq (⟨"NestedFociModel", "isHere", "(I)Z"⟩, 41) := ⟨⟨by decide +kernel, by decide +kernel⟩, List.mem_of_getElem? (i := 798) (by decide +kernel), List.mem_of_getElem? (i := 983) (by decide +kernel), List.mem_of_getElem? (i := 984) (by decide +kernel)⟩
theorem lw_p38 : lw_okq (⟨"NestedFociModel", "readsEntry", "(II)I"⟩, 41) := ⟨⟨by decide +kernel, by decide +kernel⟩, List.mem_of_getElem? (i := 798) (by decide +kernel), List.mem_of_getElem? (i := 987) (by decide +kernel), List.mem_of_getElem? (i := 988) (by decide +kernel)⟩
theorem lw_p39 : lw_okq (⟨"NestedFociModel", "letters", "()I"⟩, 41) := ⟨⟨by decide +kernel, by decide +kernel⟩, List.mem_of_getElem? (i := 798) (by decide +kernel), List.mem_of_getElem? (i := 991) (by decide +kernel), List.mem_of_getElem? (i := 992) (by decide +kernel)⟩
theorem lw_p40 : lw_okq (⟨"NestedFociModel", "hasKey", "(II)Z"⟩, 41) := ⟨⟨by decide +kernel, by decide +kernel⟩, List.mem_of_getElem? (i := 798) (by decide +kernel), List.mem_of_getElem? (i := 995) (by decide +kernel), List.mem_of_getElem? (i := 996) (by decide +kernel)⟩
theorem lw_p41 : lw_okq (⟨"NestedFociModel", "puts", "(III)V"⟩, 41) := ⟨⟨by decide +kernel, by decide +kernel⟩, List.mem_of_getElem? (i := 798) (by decide +kernel), List.mem_of_getElem? (i := 999) (by decide +kernel), List.mem_of_getElem? (i := 1000) (by decide +kernel)⟩
theorem lw_p42 : lw_okq (⟨"NestedFociModel", "signed", "()I"⟩, 41) := ⟨⟨by decide +kernel, by decide +kernel⟩, List.mem_of_getElem? (i := 798) (by decide +kernel), List.mem_of_getElem? (i := 1003) (by decide +kernel), List.mem_of_getElem? (i := 1004) (by decide +kernel)⟩
theorem lw_p43 : lw_okq (⟨"NestedFociModel", "digits", "(I)I"⟩, 41) := ⟨⟨by decide +kernel, by decide +kernel⟩, List.mem_of_getElem? (i := 798) (by decide +kernel), List.mem_of_getElem? (i := 1007) (by decide +kernel), List.mem_of_getElem? (i := 1008) (by decide +kernel)⟩
theorem lw_p44 : lw_okq (⟨"NestedFociModel", "becomes", "(II)V"⟩, 41) := ⟨⟨by decide +kernel, by decide +kernel⟩, List.mem_of_getElem? (i := 798) (by decide +kernel), List.mem_of_getElem? (i := 1011) (by decide +kernel), List.mem_of_getElem? (i := 1012) (by decide +kernel)⟩
theorem lw_p45 : lw_okq (⟨"NestedFociModel", "readsStep", "()V"⟩, 41) := ⟨⟨by decide +kernel, by decide +kernel⟩, List.mem_of_getElem? (i := 798) (by decide +kernel), List.mem_of_getElem? (i := 1022) (by decide +kernel), List.mem_of_getElem? (i := 1023) (by decide +kernel)⟩
theorem lw_p46 : lw_okq (⟨"NestedFociModel", "comesOf", "(IIII)I"⟩, 41) := ⟨⟨by decide +kernel, by decide +kernel⟩, List.mem_of_getElem? (i := 798) (by decide +kernel), List.mem_of_getElem? (i := 1034) (by decide +kernel), List.mem_of_getElem? (i := 1035) (by decide +kernel)⟩
theorem lw_p47 : lw_okq (⟨"NestedFociModel", "goesOver", "(II)I"⟩, 41) := ⟨⟨by decide +kernel, by decide +kernel⟩, List.mem_of_getElem? (i := 798) (by decide +kernel), List.mem_of_getElem? (i := 1038) (by decide +kernel), List.mem_of_getElem? (i := 1039) (by decide +kernel)⟩
def lw_privs_3 : List (MethodName × Nat) := [(⟨"NestedFociModel", "isFault", "()Z"⟩, 41), (⟨"NestedFociModel", "fails", "(I)V"⟩, 41), (⟨"NestedFociModel", "adds", "(III)V"⟩, 41), (⟨"NestedFociModel", "one", "(II)I"⟩, 41), (⟨"NestedFociModel", "readsAll", "(III)V"⟩, 41), (⟨"NestedFociModel", "isHere", "(I)Z"⟩, 41), (⟨"NestedFociModel", "readsEntry", "(II)I"⟩, 41), (⟨"NestedFociModel", "letters", "()I"⟩, 41), (⟨"NestedFociModel", "hasKey", "(II)Z"⟩, 41), (⟨"NestedFociModel", "puts", "(III)V"⟩, 41), (⟨"NestedFociModel", "signed", "()I"⟩, 41), (⟨"NestedFociModel", "digits", "(I)I"⟩, 41), (⟨"NestedFociModel", "becomes", "(II)V"⟩, 41), (⟨"NestedFociModel", "readsStep", "()V"⟩, 41), (⟨"NestedFociModel", "comesOf", "(IIII)I"⟩, 41), (⟨"NestedFociModel", "goesOver", "(II)I"⟩, 41)]
theorem lw_r3 : ∀ q ∈ lw_privs_3, lw_okq q := List.forall_mem_cons.mpr ⟨lw_p32, List.forall_mem_cons.mpr ⟨lw_p33, List.forall_mem_cons.mpr ⟨lw_p34, List.forall_mem_cons.mpr ⟨lw_p35, List.forall_mem_cons.mpr ⟨lw_p36, List.forall_mem_cons.mpr ⟨lw_p37, List.forall_mem_cons.mpr ⟨lw_p38, List.forall_mem_cons.mpr ⟨lw_p39, List.forall_mem_cons.mpr ⟨lw_p40, List.forall_mem_cons.mpr ⟨lw_p41, List.forall_mem_cons.mpr ⟨lw_p42, List.forall_mem_cons.mpr ⟨lw_p43, List.forall_mem_cons.mpr ⟨lw_p44, List.forall_mem_cons.mpr ⟨lw_p45, List.forall_mem_cons.mpr ⟨lw_p46, List.forall_mem_cons.mpr ⟨lw_p47, fun _ h => absurd h List.not_mem_nil⟩⟩⟩⟩⟩⟩⟩⟩⟩⟩⟩⟩⟩⟩⟩⟩
theorem lw_p48 : lw_okq (⟨"NestedFociModel", "became", "(I)I"⟩, 41) := ⟨⟨by decide +kernel, by decide +kernel⟩, List.mem_of_getElem? (i := 798) (by decide +kernel), List.mem_of_getElem? (i := 1042) (by decide +kernel), List.mem_of_getElem? (i := 1043) (by decide +kernel)⟩
theorem lw_p49 : lw_okq (⟨"NestedFociModel", "numbered", "(I)I"⟩, 41) := ⟨⟨by decide +kernel, by decide +kernel⟩, List.mem_of_getElem? (i := 798) (by decide +kernel), List.mem_of_getElem? (i := 1046) (by decide +kernel), List.mem_of_getElem? (i := 1047) (by decide +kernel)⟩
theorem lw_p50 : lw_okq (⟨"NestedFociModel", "makes", "()Z"⟩, 41) := ⟨⟨by decide +kernel, by decide +kernel⟩, List.mem_of_getElem? (i := 798) (by decide +kernel), List.mem_of_getElem? (i := 1050) (by decide +kernel), List.mem_of_getElem? (i := 1051) (by decide +kernel)⟩
theorem lw_p51 : lw_okq (⟨"NestedFociModel", "around", "(III)I"⟩, 41) := ⟨⟨by decide +kernel, by decide +kernel⟩, List.mem_of_getElem? (i := 798) (by decide +kernel), List.mem_of_getElem? (i := 1054) (by decide +kernel), List.mem_of_getElem? (i := 1055) (by decide +kernel)⟩
theorem lw_p52 : lw_okq (⟨"NestedFociModel", "changed", "(I)I"⟩, 41) := ⟨⟨by decide +kernel, by decide +kernel⟩, List.mem_of_getElem? (i := 798) (by decide +kernel), List.mem_of_getElem? (i := 1058) (by decide +kernel), List.mem_of_getElem? (i := 1059) (by decide +kernel)⟩
theorem lw_p53 : lw_okq (⟨"NestedFociModel", "copyOf", "(I)I"⟩, 41) := ⟨⟨by decide +kernel, by decide +kernel⟩, List.mem_of_getElem? (i := 798) (by decide +kernel), List.mem_of_getElem? (i := 1062) (by decide +kernel), List.mem_of_getElem? (i := 1063) (by decide +kernel)⟩
theorem lw_p54 : lw_okq (⟨"NestedFociModel", "compared", "(II)I"⟩, 41) := ⟨⟨by decide +kernel, by decide +kernel⟩, List.mem_of_getElem? (i := 798) (by decide +kernel), List.mem_of_getElem? (i := 1066) (by decide +kernel), List.mem_of_getElem? (i := 1067) (by decide +kernel)⟩
theorem lw_p55 : lw_okq (⟨"NestedFociModel", "isItself", "(II)Z"⟩, 41) := ⟨⟨by decide +kernel, by decide +kernel⟩, List.mem_of_getElem? (i := 798) (by decide +kernel), List.mem_of_getElem? (i := 1070) (by decide +kernel), List.mem_of_getElem? (i := 1071) (by decide +kernel)⟩
theorem lw_p56 : lw_okq (⟨"NestedFociModel", "isPart", "(III)Z"⟩, 41) := ⟨⟨by decide +kernel, by decide +kernel⟩, List.mem_of_getElem? (i := 798) (by decide +kernel), List.mem_of_getElem? (i := 1074) (by decide +kernel), List.mem_of_getElem? (i := 1075) (by decide +kernel)⟩
theorem lw_p57 : lw_okq (⟨"NestedFociModel", "nextStep", "(I)I"⟩, 41) := ⟨⟨by decide +kernel, by decide +kernel⟩, List.mem_of_getElem? (i := 798) (by decide +kernel), List.mem_of_getElem? (i := 1078) (by decide +kernel), List.mem_of_getElem? (i := 1079) (by decide +kernel)⟩
theorem lw_p58 : lw_okq (⟨"NestedFociModel", "isFull", "(I)Z"⟩, 41) := ⟨⟨by decide +kernel, by decide +kernel⟩, List.mem_of_getElem? (i := 798) (by decide +kernel), List.mem_of_getElem? (i := 1082) (by decide +kernel), List.mem_of_getElem? (i := 1083) (by decide +kernel)⟩
theorem lw_p59 : lw_okq (⟨"NestedFociModel", "looksFor", "(II)V"⟩, 41) := ⟨⟨by decide +kernel, by decide +kernel⟩, List.mem_of_getElem? (i := 798) (by decide +kernel), List.mem_of_getElem? (i := 1094) (by decide +kernel), List.mem_of_getElem? (i := 1095) (by decide +kernel)⟩
theorem lw_p60 : lw_okq (⟨"NestedFociModel", "goes", "(II)V"⟩, 41) := ⟨⟨by decide +kernel, by decide +kernel⟩, List.mem_of_getElem? (i := 798) (by decide +kernel), List.mem_of_getElem? (i := 1098) (by decide +kernel), List.mem_of_getElem? (i := 1099) (by decide +kernel)⟩
theorem lw_p61 : lw_okq (⟨"NestedFociModel", "focusOf", "(III)I"⟩, 41) := ⟨⟨by decide +kernel, by decide +kernel⟩, List.mem_of_getElem? (i := 798) (by decide +kernel), List.mem_of_getElem? (i := 1110) (by decide +kernel), List.mem_of_getElem? (i := 1111) (by decide +kernel)⟩
theorem lw_p62 : lw_okq (⟨"NestedFociModel", "sumOf", "(I)J"⟩, 41) := ⟨⟨by decide +kernel, by decide +kernel⟩, List.mem_of_getElem? (i := 798) (by decide +kernel), List.mem_of_getElem? (i := 1123) (by decide +kernel), List.mem_of_getElem? (i := 1124) (by decide +kernel)⟩
theorem lw_p63 : lw_okq (⟨"NestedFociModel", "isNew", "(I)Z"⟩, 41) := ⟨⟨by decide +kernel, by decide +kernel⟩, List.mem_of_getElem? (i := 798) (by decide +kernel), List.mem_of_getElem? (i := 1127) (by decide +kernel), List.mem_of_getElem? (i := 1128) (by decide +kernel)⟩
def lw_privs_4 : List (MethodName × Nat) := [(⟨"NestedFociModel", "became", "(I)I"⟩, 41), (⟨"NestedFociModel", "numbered", "(I)I"⟩, 41), (⟨"NestedFociModel", "makes", "()Z"⟩, 41), (⟨"NestedFociModel", "around", "(III)I"⟩, 41), (⟨"NestedFociModel", "changed", "(I)I"⟩, 41), (⟨"NestedFociModel", "copyOf", "(I)I"⟩, 41), (⟨"NestedFociModel", "compared", "(II)I"⟩, 41), (⟨"NestedFociModel", "isItself", "(II)Z"⟩, 41), (⟨"NestedFociModel", "isPart", "(III)Z"⟩, 41), (⟨"NestedFociModel", "nextStep", "(I)I"⟩, 41), (⟨"NestedFociModel", "isFull", "(I)Z"⟩, 41), (⟨"NestedFociModel", "looksFor", "(II)V"⟩, 41), (⟨"NestedFociModel", "goes", "(II)V"⟩, 41), (⟨"NestedFociModel", "focusOf", "(III)I"⟩, 41), (⟨"NestedFociModel", "sumOf", "(I)J"⟩, 41), (⟨"NestedFociModel", "isNew", "(I)Z"⟩, 41)]
theorem lw_r4 : ∀ q ∈ lw_privs_4, lw_okq q := List.forall_mem_cons.mpr ⟨lw_p48, List.forall_mem_cons.mpr ⟨lw_p49, List.forall_mem_cons.mpr ⟨lw_p50, List.forall_mem_cons.mpr ⟨lw_p51, List.forall_mem_cons.mpr ⟨lw_p52, List.forall_mem_cons.mpr ⟨lw_p53, List.forall_mem_cons.mpr ⟨lw_p54, List.forall_mem_cons.mpr ⟨lw_p55, List.forall_mem_cons.mpr ⟨lw_p56, List.forall_mem_cons.mpr ⟨lw_p57, List.forall_mem_cons.mpr ⟨lw_p58, List.forall_mem_cons.mpr ⟨lw_p59, List.forall_mem_cons.mpr ⟨lw_p60, List.forall_mem_cons.mpr ⟨lw_p61, List.forall_mem_cons.mpr ⟨lw_p62, List.forall_mem_cons.mpr ⟨lw_p63, fun _ h => absurd h List.not_mem_nil⟩⟩⟩⟩⟩⟩⟩⟩⟩⟩⟩⟩⟩⟩⟩⟩
theorem lw_p64 : lw_okq (⟨"NestedFociModel", "orderedBy", "(III)I"⟩, 41) := ⟨⟨by decide +kernel, by decide +kernel⟩, List.mem_of_getElem? (i := 798) (by decide +kernel), List.mem_of_getElem? (i := 1135) (by decide +kernel), List.mem_of_getElem? (i := 1136) (by decide +kernel)⟩
theorem lw_p65 : lw_okq (⟨"NestedFociModel", "marks", "(I)V"⟩, 41) := ⟨⟨by decide +kernel, by decide +kernel⟩, List.mem_of_getElem? (i := 798) (by decide +kernel), List.mem_of_getElem? (i := 1147) (by decide +kernel), List.mem_of_getElem? (i := 1148) (by decide +kernel)⟩
theorem lw_p66 : lw_okq (⟨"NestedFociModel", "sharedIn", "(I)I"⟩, 41) := ⟨⟨by decide +kernel, by decide +kernel⟩, List.mem_of_getElem? (i := 798) (by decide +kernel), List.mem_of_getElem? (i := 1151) (by decide +kernel), List.mem_of_getElem? (i := 1152) (by decide +kernel)⟩
theorem lw_p67 : lw_okq (⟨"NestedFociModel", "differsIn", "(III)V"⟩, 41) := ⟨⟨by decide +kernel, by decide +kernel⟩, List.mem_of_getElem? (i := 798) (by decide +kernel), List.mem_of_getElem? (i := 1159) (by decide +kernel), List.mem_of_getElem? (i := 1160) (by decide +kernel)⟩
theorem lw_p68 : lw_okq (⟨"NestedFociModel", "isLikeBuilt", "(II)Z"⟩, 41) := ⟨⟨by decide +kernel, by decide +kernel⟩, List.mem_of_getElem? (i := 798) (by decide +kernel), List.mem_of_getElem? (i := 1163) (by decide +kernel), List.mem_of_getElem? (i := 1164) (by decide +kernel)⟩
theorem lw_p69 : lw_okq (⟨"NestedFociModel", "allNodes", "()I"⟩, 41) := ⟨⟨by decide +kernel, by decide +kernel⟩, List.mem_of_getElem? (i := 798) (by decide +kernel), List.mem_of_getElem? (i := 1175) (by decide +kernel), List.mem_of_getElem? (i := 1176) (by decide +kernel)⟩
def lw_privs_5 : List (MethodName × Nat) := [(⟨"NestedFociModel", "orderedBy", "(III)I"⟩, 41), (⟨"NestedFociModel", "marks", "(I)V"⟩, 41), (⟨"NestedFociModel", "sharedIn", "(I)I"⟩, 41), (⟨"NestedFociModel", "differsIn", "(III)V"⟩, 41), (⟨"NestedFociModel", "isLikeBuilt", "(II)Z"⟩, 41), (⟨"NestedFociModel", "allNodes", "()I"⟩, 41)]
theorem lw_r5 : ∀ q ∈ lw_privs_5, lw_okq q := List.forall_mem_cons.mpr ⟨lw_p64, List.forall_mem_cons.mpr ⟨lw_p65, List.forall_mem_cons.mpr ⟨lw_p66, List.forall_mem_cons.mpr ⟨lw_p67, List.forall_mem_cons.mpr ⟨lw_p68, List.forall_mem_cons.mpr ⟨lw_p69, fun _ h => absurd h List.not_mem_nil⟩⟩⟩⟩⟩⟩
def lw_privs : List (MethodName × Nat) := lw_privs_1 ++ (lw_privs_2 ++ (lw_privs_3 ++ (lw_privs_4 ++ (lw_privs_5))))
def lw_tbl : List Cond := k2_sels lw_privs ++ tables_1
theorem lw_privs_ok : ∀ q ∈ lw_privs, lw_okq q := by
  show ∀ q ∈ lw_privs_1 ++ (lw_privs_2 ++ (lw_privs_3 ++ (lw_privs_4 ++ (lw_privs_5)))), lw_okq q
  exact List.forall_mem_append.mpr ⟨lw_r1, List.forall_mem_append.mpr ⟨lw_r2, List.forall_mem_append.mpr ⟨lw_r3, List.forall_mem_append.mpr ⟨lw_r4, lw_r5⟩⟩⟩⟩
/-! ===== names: classes, fields, methods (out of claim/NAMES.whole.lean.txt) ===== -/
def RX0 : String := "NestedFoci$Changer"
def TX0 : u_T := fun k => match k with
  | 0 => ("NestedFoci$Changer", "made", "LNestedFoci$Tally;", true)
  | 1 => ("NestedFoci$Changer", "path", "LNestedFoci$Path;", false)
  | 2 => ("NestedFoci$Changer", "how", "I", false)
  | 3 => ("NestedFoci$Changer", "n", "I", false)
  | 4 => ("NestedFoci$Changer", "given", "LNestedFoci$Thing;", false)
  | 5 => ("NestedFoci$Changer", "focusCount", "I", false)
  | _ => ("NestedFoci$Changer", "isSpent", "Z", false)
def tyX0 : Nat → FieldType := fun k => match k with
  | 0 => .object "NestedFoci$Tally"
  | 1 => .object "NestedFoci$Path"
  | 2 => .int
  | 3 => .int
  | 4 => .object "NestedFoci$Thing"
  | 5 => .int
  | _ => .boolean
abbrev wsX00 : List Cond := u_ws RX0 TX0 7
theorem nmX0 : ∀ a, a < 7 → ∀ b, b < 7 → a ≠ b → (TX0 a).2.1 ≠ (TX0 b).2.1 := by decide +kernel
theorem tyX0_ok : ∀ k, k < 7 → parseFieldDescriptor (TX0 k).2.2.1 = some (tyX0 k) := by decide +kernel
abbrev cX0_init : ByteArray := prog_2_method_1_code
def yX0_init : MethodName := ⟨RX0, "<init>", "(LNestedFoci$Tally;)V"⟩
abbrev cX0_change : ByteArray := prog_2_method_2_code
def yX0_change : MethodName := ⟨RX0, "change", "(LNestedFoci$Thing;LNestedFoci$Path;IILNestedFoci$Thing;)LNestedFoci$Thing;"⟩
abbrev cX0_focusCount : ByteArray := prog_2_method_3_code
def yX0_focusCount : MethodName := ⟨RX0, "focusCount", "()I"⟩
abbrev cX0_changeWithin : ByteArray := prog_2_method_4_code
def yX0_changeWithin : MethodName := ⟨RX0, "changeWithin", "(LNestedFoci$Thing;II)LNestedFoci$Thing;"⟩
abbrev cX0_changeFocus : ByteArray := prog_2_method_5_code
def yX0_changeFocus : MethodName := ⟨RX0, "changeFocus", "(LNestedFoci$Thing;)LNestedFoci$Thing;"⟩
abbrev cX0_changeOrder : ByteArray := prog_2_method_6_code
def yX0_changeOrder : MethodName := ⟨RX0, "changeOrder", "(LNestedFoci$Thing;)LNestedFoci$Thing;"⟩
abbrev cX0_makeNumberOf : ByteArray := prog_2_method_7_code
def yX0_makeNumberOf : MethodName := ⟨RX0, "makeNumberOf", "(LNestedFoci$Thing;I)LNestedFoci$Thing;"⟩
abbrev cX0_make : ByteArray := prog_2_method_8_code
def yX0_make : MethodName := ⟨RX0, "make", "(II[LNestedFoci$Thing;LNestedFoci$Thing;)LNestedFoci$Thing;"⟩
abbrev cX0_makeAround : ByteArray := prog_2_method_9_code
def yX0_makeAround : MethodName := ⟨RX0, "makeAround", "(LNestedFoci$Thing;[LNestedFoci$Thing;)LNestedFoci$Thing;"⟩
abbrev cX0_mayMake : ByteArray := prog_2_method_10_code
def yX0_mayMake : MethodName := ⟨RX0, "mayMake", "()Z"⟩
abbrev cX0_justOne : ByteArray := prog_2_method_11_code
def yX0_justOne : MethodName := ⟨RX0, "justOne", "(LNestedFoci$Thing;)[LNestedFoci$Thing;"⟩
abbrev cX0_reversed : ByteArray := prog_2_method_12_code
def yX0_reversed : MethodName := ⟨RX0, "reversed", "(LNestedFoci$Thing;)[LNestedFoci$Thing;"⟩
abbrev cX0_turned : ByteArray := prog_2_method_13_code
def yX0_turned : MethodName := ⟨RX0, "turned", "(LNestedFoci$Thing;)[LNestedFoci$Thing;"⟩
abbrev cX0_sorted : ByteArray := prog_2_method_14_code
def yX0_sorted : MethodName := ⟨RX0, "sorted", "(LNestedFoci$Thing;)[LNestedFoci$Thing;"⟩
def RX1 : String := "NestedFoci$Difference"
def TX1 : u_T := fun k => match k with
  | 0 => ("NestedFoci$Difference", "places", "[I", true)
  | _ => ("NestedFoci$Difference", "size", "I", false)
def tyX1 : Nat → FieldType := fun k => match k with
  | 0 => .array .int
  | _ => .int
abbrev wsX10 : List Cond := u_ws RX1 TX1 2
theorem nmX1 : ∀ a, a < 2 → ∀ b, b < 2 → a ≠ b → (TX1 a).2.1 ≠ (TX1 b).2.1 := by decide +kernel
theorem tyX1_ok : ∀ k, k < 2 → parseFieldDescriptor (TX1 k).2.2.1 = some (tyX1 k) := by decide +kernel
abbrev cX1_init : ByteArray := prog_3_method_1_code
def yX1_init : MethodName := ⟨RX1, "<init>", "()V"⟩
abbrev cX1_find : ByteArray := prog_3_method_2_code
def yX1_find : MethodName := ⟨RX1, "find", "(LNestedFoci$Thing;LNestedFoci$Thing;)V"⟩
abbrev cX1_findWithin : ByteArray := prog_3_method_3_code
def yX1_findWithin : MethodName := ⟨RX1, "findWithin", "(LNestedFoci$Thing;LNestedFoci$Thing;II)V"⟩
abbrev cX1_add : ByteArray := prog_3_method_4_code
def yX1_add : MethodName := ⟨RX1, "add", "(I)V"⟩
abbrev cX1_size : ByteArray := prog_3_method_5_code
def yX1_size : MethodName := ⟨RX1, "size", "()I"⟩
abbrev cX1_place : ByteArray := prog_3_method_6_code
def yX1_place : MethodName := ⟨RX1, "place", "(I)I"⟩
def RX2 : String := "NestedFoci$Foci"
def TX2 : u_T := fun k => match k with
  | 0 => ("NestedFoci$Foci", "found", "[LNestedFoci$Thing;", true)
  | 1 => ("NestedFoci$Foci", "places", "[I", true)
  | _ => ("NestedFoci$Foci", "size", "I", false)
def tyX2 : Nat → FieldType := fun k => match k with
  | 0 => .array (.object "NestedFoci$Thing")
  | 1 => .array .int
  | _ => .int
abbrev wsX20 : List Cond := u_ws RX2 TX2 3
theorem nmX2 : ∀ a, a < 3 → ∀ b, b < 3 → a ≠ b → (TX2 a).2.1 ≠ (TX2 b).2.1 := by decide +kernel
theorem tyX2_ok : ∀ k, k < 3 → parseFieldDescriptor (TX2 k).2.2.1 = some (tyX2 k) := by decide +kernel
abbrev cX2_init : ByteArray := prog_4_method_1_code
def yX2_init : MethodName := ⟨RX2, "<init>", "()V"⟩
abbrev cX2_find : ByteArray := prog_4_method_2_code
def yX2_find : MethodName := ⟨RX2, "find", "(LNestedFoci$Thing;LNestedFoci$Path;)V"⟩
abbrev cX2_findWithin : ByteArray := prog_4_method_3_code
def yX2_findWithin : MethodName := ⟨RX2, "findWithin", "(LNestedFoci$Thing;LNestedFoci$Path;II)V"⟩
abbrev cX2_add : ByteArray := prog_4_method_4_code
def yX2_add : MethodName := ⟨RX2, "add", "(LNestedFoci$Thing;)V"⟩
abbrev cX2_size : ByteArray := prog_4_method_5_code
def yX2_size : MethodName := ⟨RX2, "size", "()I"⟩
abbrev cX2_isEmpty : ByteArray := prog_4_method_6_code
def yX2_isEmpty : MethodName := ⟨RX2, "isEmpty", "()Z"⟩
abbrev cX2_at : ByteArray := prog_4_method_7_code
def yX2_at : MethodName := ⟨RX2, "at", "(I)LNestedFoci$Thing;"⟩
abbrev cX2_sum : ByteArray := prog_4_method_8_code
def yX2_sum : MethodName := ⟨RX2, "sum", "()J"⟩
abbrev cX2_numbersWithin : ByteArray := prog_4_method_9_code
def yX2_numbersWithin : MethodName := ⟨RX2, "numbersWithin", "(LNestedFoci$Thing;I)J"⟩
abbrev cX2_greatest : ByteArray := prog_4_method_10_code
def yX2_greatest : MethodName := ⟨RX2, "greatest", "()I"⟩
abbrev cX2_least : ByteArray := prog_4_method_11_code
def yX2_least : MethodName := ⟨RX2, "least", "()I"⟩
abbrev cX2_unlike : ByteArray := prog_4_method_12_code
def yX2_unlike : MethodName := ⟨RX2, "unlike", "()I"⟩
abbrev cX2_isLikeOneAhead : ByteArray := prog_4_method_13_code
def yX2_isLikeOneAhead : MethodName := ⟨RX2, "isLikeOneAhead", "(I)Z"⟩
abbrev cX2_height : ByteArray := prog_4_method_14_code
def yX2_height : MethodName := ⟨RX2, "height", "()I"⟩
abbrev cX2_nodes : ByteArray := prog_4_method_15_code
def yX2_nodes : MethodName := ⟨RX2, "nodes", "()I"⟩
abbrev cX2_areAllAlike : ByteArray := prog_4_method_16_code
def yX2_areAllAlike : MethodName := ⟨RX2, "areAllAlike", "(LNestedFoci$Thing;)Z"⟩
abbrev cX2_sorted : ByteArray := prog_4_method_17_code
def yX2_sorted : MethodName := ⟨RX2, "sorted", "(II)I"⟩
abbrev cX2_isAhead : ByteArray := prog_4_method_18_code
def yX2_isAhead : MethodName := ⟨RX2, "isAhead", "(LNestedFoci$Thing;LNestedFoci$Thing;I)Z"⟩
def RX3 : String := "NestedFoci$Parts"
def TX3 : u_T := fun k => match k with
  | 0 => ("NestedFoci$Parts", "keys", "[I", true)
  | 1 => ("NestedFoci$Parts", "parts", "[LNestedFoci$Thing;", true)
  | _ => ("NestedFoci$Parts", "size", "I", false)
def tyX3 : Nat → FieldType := fun k => match k with
  | 0 => .array .int
  | 1 => .array (.object "NestedFoci$Thing")
  | _ => .int
abbrev wsX30 : List Cond := u_ws RX3 TX3 3
theorem nmX3 : ∀ a, a < 3 → ∀ b, b < 3 → a ≠ b → (TX3 a).2.1 ≠ (TX3 b).2.1 := by decide +kernel
theorem tyX3_ok : ∀ k, k < 3 → parseFieldDescriptor (TX3 k).2.2.1 = some (tyX3 k) := by decide +kernel
abbrev cX3_init : ByteArray := prog_5_method_1_code
def yX3_init : MethodName := ⟨RX3, "<init>", "()V"⟩
abbrev cX3_add : ByteArray := prog_5_method_2_code
def yX3_add : MethodName := ⟨RX3, "add", "(ILNestedFoci$Thing;)V"⟩
abbrev cX3_hasKey : ByteArray := prog_5_method_3_code
def yX3_hasKey : MethodName := ⟨RX3, "hasKey", "(I)Z"⟩
abbrev cX3_putByKey : ByteArray := prog_5_method_4_code
def yX3_putByKey : MethodName := ⟨RX3, "putByKey", "(ILNestedFoci$Thing;)V"⟩
abbrev cX3_together : ByteArray := prog_5_method_5_code
def yX3_together : MethodName := ⟨RX3, "together", "(I)LNestedFoci$Thing;"⟩
abbrev cX3_placeOf : ByteArray := prog_5_method_6_code
def yX3_placeOf : MethodName := ⟨RX3, "placeOf", "(I)I"⟩
abbrev cX3_insert : ByteArray := prog_5_method_7_code
def yX3_insert : MethodName := ⟨RX3, "insert", "(IILNestedFoci$Thing;)V"⟩
def RX4 : String := "NestedFoci$Path"
def TX4 : u_T := fun k => match k with
  | 0 => ("NestedFoci$Path", "signs", "[I", true)
  | _ => ("NestedFoci$Path", "words", "[I", true)
def tyX4 : Nat → FieldType := fun k => match k with
  | 0 => .array .int
  | _ => .array .int
abbrev wsX40 : List Cond := u_ws RX4 TX4 2
theorem nmX4 : ∀ a, a < 2 → ∀ b, b < 2 → a ≠ b → (TX4 a).2.1 ≠ (TX4 b).2.1 := by decide +kernel
theorem tyX4_ok : ∀ k, k < 2 → parseFieldDescriptor (TX4 k).2.2.1 = some (tyX4 k) := by decide +kernel
abbrev cX4_init : ByteArray := prog_6_method_1_code
def yX4_init : MethodName := ⟨RX4, "<init>", "([I[I)V"⟩
abbrev cX4_size : ByteArray := prog_6_method_2_code
def yX4_size : MethodName := ⟨RX4, "size", "()I"⟩
abbrev cX4_goingOnBy : ByteArray := prog_6_method_3_code
def yX4_goingOnBy : MethodName := ⟨RX4, "goingOnBy", "(LNestedFoci$Path;)LNestedFoci$Path;"⟩
abbrev cX4_keeps : ByteArray := prog_6_method_4_code
def yX4_keeps : MethodName := ⟨RX4, "keeps", "(ILNestedFoci$Thing;)Z"⟩
abbrev cX4_enters : ByteArray := prog_6_method_5_code
def yX4_enters : MethodName := ⟨RX4, "enters", "(ILNestedFoci$Thing;I)Z"⟩
abbrev cX4_stepWithin : ByteArray := prog_6_method_6_code
def yX4_stepWithin : MethodName := ⟨RX4, "stepWithin", "(I)I"⟩
abbrev cX4_sign : ByteArray := prog_6_method_7_code
def yX4_sign : MethodName := ⟨RX4, "sign", "(I)I"⟩
abbrev cX4_word : ByteArray := prog_6_method_8_code
def yX4_word : MethodName := ⟨RX4, "word", "(I)I"⟩
def RX5 : String := "NestedFoci$PathReader"
def TX5 : u_T := fun k => match k with
  | 0 => ("NestedFoci$PathReader", "tape", "LNestedFoci$Tape;", true)
  | 1 => ("NestedFoci$PathReader", "signs", "[I", true)
  | _ => ("NestedFoci$PathReader", "words", "[I", true)
def tyX5 : Nat → FieldType := fun k => match k with
  | 0 => .object "NestedFoci$Tape"
  | 1 => .array .int
  | _ => .array .int
abbrev wsX50 : List Cond := u_ws RX5 TX5 3
theorem nmX5 : ∀ a, a < 3 → ∀ b, b < 3 → a ≠ b → (TX5 a).2.1 ≠ (TX5 b).2.1 := by decide +kernel
theorem tyX5_ok : ∀ k, k < 3 → parseFieldDescriptor (TX5 k).2.2.1 = some (tyX5 k) := by decide +kernel
abbrev cX5_init : ByteArray := prog_7_method_1_code
def yX5_init : MethodName := ⟨RX5, "<init>", "(LNestedFoci$Tape;)V"⟩
abbrev cX5_readWhole : ByteArray := prog_7_method_2_code
def yX5_readWhole : MethodName := ⟨RX5, "readWhole", "()LNestedFoci$Path;"⟩
abbrev cX5_readStep : ByteArray := prog_7_method_3_code
def yX5_readStep : MethodName := ⟨RX5, "readStep", "()I"⟩
abbrev cX5_readSide : ByteArray := prog_7_method_4_code
def yX5_readSide : MethodName := ⟨RX5, "readSide", "()I"⟩
abbrev cX5_closed : ByteArray := prog_7_method_5_code
def yX5_closed : MethodName := ⟨RX5, "closed", "(II)I"⟩
abbrev cX5_firstOf : ByteArray := prog_7_method_6_code
def yX5_firstOf : MethodName := ⟨RX5, "firstOf", "([II)[I"⟩
def RX6 : String := "NestedFoci$Shelf"
def TX6 : u_T := fun k => match k with
  | 0 => ("NestedFoci$Shelf", "old", "[LNestedFoci$Thing;", true)
  | 1 => ("NestedFoci$Shelf", "olds", "I", false)
  | _ => ("NestedFoci$Shelf", "held", "LNestedFoci$Thing;", false)
def tyX6 : Nat → FieldType := fun k => match k with
  | 0 => .array (.object "NestedFoci$Thing")
  | 1 => .int
  | _ => .object "NestedFoci$Thing"
abbrev wsX60 : List Cond := u_ws RX6 TX6 3
theorem nmX6 : ∀ a, a < 3 → ∀ b, b < 3 → a ≠ b → (TX6 a).2.1 ≠ (TX6 b).2.1 := by decide +kernel
theorem tyX6_ok : ∀ k, k < 3 → parseFieldDescriptor (TX6 k).2.2.1 = some (tyX6 k) := by decide +kernel
abbrev cX6_init : ByteArray := prog_8_method_1_code
def yX6_init : MethodName := ⟨RX6, "<init>", "(LNestedFoci$Thing;)V"⟩
abbrev cX6_held : ByteArray := prog_8_method_2_code
def yX6_held : MethodName := ⟨RX6, "held", "()LNestedFoci$Thing;"⟩
abbrev cX6_oldCount : ByteArray := prog_8_method_3_code
def yX6_oldCount : MethodName := ⟨RX6, "oldCount", "()I"⟩
abbrev cX6_become : ByteArray := prog_8_method_4_code
def yX6_become : MethodName := ⟨RX6, "become", "(LNestedFoci$Thing;)V"⟩
abbrev cX6_becomeLastOld : ByteArray := prog_8_method_5_code
def yX6_becomeLastOld : MethodName := ⟨RX6, "becomeLastOld", "()V"⟩
abbrev cX6_restart : ByteArray := prog_8_method_6_code
def yX6_restart : MethodName := ⟨RX6, "restart", "(LNestedFoci$Thing;)V"⟩
def RX7 : String := "NestedFoci$Tally"
def TX7 : u_T := fun k => match k with
  | _ => ("NestedFoci$Tally", "sum", "I", false)
def tyX7 : Nat → FieldType := fun k => match k with
  | _ => .int
abbrev wsX70 : List Cond := u_ws RX7 TX7 1
theorem nmX7 : ∀ a, a < 1 → ∀ b, b < 1 → a ≠ b → (TX7 a).2.1 ≠ (TX7 b).2.1 := by decide +kernel
theorem tyX7_ok : ∀ k, k < 1 → parseFieldDescriptor (TX7 k).2.2.1 = some (tyX7 k) := by decide +kernel
abbrev cX7_init : ByteArray := prog_9_method_1_code
def yX7_init : MethodName := ⟨RX7, "<init>", "()V"⟩
abbrev cX7_sum : ByteArray := prog_9_method_2_code
def yX7_sum : MethodName := ⟨RX7, "sum", "()I"⟩
abbrev cX7_hasRoomFor : ByteArray := prog_9_method_3_code
def yX7_hasRoomFor : MethodName := ⟨RX7, "hasRoomFor", "(I)Z"⟩
abbrev cX7_adds : ByteArray := prog_9_method_4_code
def yX7_adds : MethodName := ⟨RX7, "adds", "(I)Z"⟩
def RX8 : String := "NestedFoci$Tape"
def TX8 : u_T := fun k => match k with
  | 0 => ("NestedFoci$Tape", "bytes", "[I", true)
  | 1 => ("NestedFoci$Tape", "size", "I", false)
  | 2 => ("NestedFoci$Tape", "at", "I", false)
  | _ => ("NestedFoci$Tape", "fault", "I", false)
def tyX8 : Nat → FieldType := fun k => match k with
  | 0 => .array .int
  | 1 => .int
  | 2 => .int
  | _ => .int
abbrev wsX80 : List Cond := u_ws RX8 TX8 4
theorem nmX8 : ∀ a, a < 4 → ∀ b, b < 4 → a ≠ b → (TX8 a).2.1 ≠ (TX8 b).2.1 := by decide +kernel
theorem tyX8_ok : ∀ k, k < 4 → parseFieldDescriptor (TX8 k).2.2.1 = some (tyX8 k) := by decide +kernel
abbrev cX8_init : ByteArray := prog_10_method_1_code
def yX8_init : MethodName := ⟨RX8, "<init>", "()V"⟩
abbrev cX8_size : ByteArray := prog_10_method_2_code
def yX8_size : MethodName := ⟨RX8, "size", "()I"⟩
abbrev cX8_add : ByteArray := prog_10_method_3_code
def yX8_add : MethodName := ⟨RX8, "add", "(I)V"⟩
abbrev cX8_clear : ByteArray := prog_10_method_4_code
def yX8_clear : MethodName := ⟨RX8, "clear", "()V"⟩
abbrev cX8_rewind : ByteArray := prog_10_method_5_code
def yX8_rewind : MethodName := ⟨RX8, "rewind", "()V"⟩
abbrev cX8_at : ByteArray := prog_10_method_6_code
def yX8_at : MethodName := ⟨RX8, "at", "()I"⟩
abbrev cX8_fault : ByteArray := prog_10_method_7_code
def yX8_fault : MethodName := ⟨RX8, "fault", "()I"⟩
abbrev cX8_isFaulty : ByteArray := prog_10_method_8_code
def yX8_isFaulty : MethodName := ⟨RX8, "isFaulty", "()Z"⟩
abbrev cX8_isAtEnd : ByteArray := prog_10_method_9_code
def yX8_isAtEnd : MethodName := ⟨RX8, "isAtEnd", "()Z"⟩
abbrev cX8_fail : ByteArray := prog_10_method_10_code
def yX8_fail : MethodName := ⟨RX8, "fail", "(I)V"⟩
abbrev cX8_next : ByteArray := prog_10_method_11_code
def yX8_next : MethodName := ⟨RX8, "next", "()I"⟩
abbrev cX8_step : ByteArray := prog_10_method_12_code
def yX8_step : MethodName := ⟨RX8, "step", "()V"⟩
abbrev cX8_takes : ByteArray := prog_10_method_13_code
def yX8_takes : MethodName := ⟨RX8, "takes", "(I)Z"⟩
abbrev cX8_needs : ByteArray := prog_10_method_14_code
def yX8_needs : MethodName := ⟨RX8, "needs", "(I)V"⟩
abbrev cX8_digits : ByteArray := prog_10_method_15_code
def yX8_digits : MethodName := ⟨RX8, "digits", "(I)I"⟩
abbrev cX8_signedNumber : ByteArray := prog_10_method_16_code
def yX8_signedNumber : MethodName := ⟨RX8, "signedNumber", "()I"⟩
abbrev cX8_letters : ByteArray := prog_10_method_17_code
def yX8_letters : MethodName := ⟨RX8, "letters", "()I"⟩
def RX9 : String := "NestedFoci$Thing"
def TX9 : u_T := fun k => match k with
  | 0 => ("NestedFoci$Thing", "kind", "I", true)
  | 1 => ("NestedFoci$Thing", "word", "I", true)
  | 2 => ("NestedFoci$Thing", "nodes", "I", true)
  | 3 => ("NestedFoci$Thing", "height", "I", true)
  | 4 => ("NestedFoci$Thing", "keys", "[I", true)
  | _ => ("NestedFoci$Thing", "parts", "[LNestedFoci$Thing;", true)
def tyX9 : Nat → FieldType := fun k => match k with
  | 0 => .int
  | 1 => .int
  | 2 => .int
  | 3 => .int
  | 4 => .array .int
  | _ => .array (.object "NestedFoci$Thing")
abbrev wsX90 : List Cond := u_ws RX9 TX9 6
theorem nmX9 : ∀ a, a < 6 → ∀ b, b < 6 → a ≠ b → (TX9 a).2.1 ≠ (TX9 b).2.1 := by decide +kernel
theorem tyX9_ok : ∀ k, k < 6 → parseFieldDescriptor (TX9 k).2.2.1 = some (tyX9 k) := by decide +kernel
abbrev cX9_init : ByteArray := prog_11_method_1_code
def yX9_init : MethodName := ⟨RX9, "<init>", "(II[I[LNestedFoci$Thing;)V"⟩
abbrev cX9_size : ByteArray := prog_11_method_2_code
def yX9_size : MethodName := ⟨RX9, "size", "()I"⟩
abbrev cX9_part : ByteArray := prog_11_method_3_code
def yX9_part : MethodName := ⟨RX9, "part", "(I)LNestedFoci$Thing;"⟩
abbrev cX9_copyOfParts : ByteArray := prog_11_method_4_code
def yX9_copyOfParts : MethodName := ⟨RX9, "copyOfParts", "()[LNestedFoci$Thing;"⟩
abbrev cX9_letters : ByteArray := prog_11_method_5_code
def yX9_letters : MethodName := ⟨RX9, "letters", "(I)I"⟩
abbrev cX9_isTooMuch : ByteArray := prog_11_method_6_code
def yX9_isTooMuch : MethodName := ⟨RX9, "isTooMuch", "()Z"⟩
abbrev cX9_isFramedLike : ByteArray := prog_11_method_7_code
def yX9_isFramedLike : MethodName := ⟨RX9, "isFramedLike", "(LNestedFoci$Thing;)Z"⟩
abbrev cX9_areAlike : ByteArray := prog_11_method_8_code
def yX9_areAlike : MethodName := ⟨RX9, "areAlike", "(LNestedFoci$Thing;LNestedFoci$Thing;)Z"⟩
abbrev cX9_compare : ByteArray := prog_11_method_9_code
def yX9_compare : MethodName := ⟨RX9, "compare", "(LNestedFoci$Thing;LNestedFoci$Thing;I)I"⟩
abbrev cX9_holds : ByteArray := prog_11_method_10_code
def yX9_holds : MethodName := ⟨RX9, "holds", "(LNestedFoci$Thing;LNestedFoci$Thing;I)Z"⟩
def RX10 : String := "NestedFoci$ThingReader"
def TX10 : u_T := fun k => match k with
  | _ => ("NestedFoci$ThingReader", "tape", "LNestedFoci$Tape;", true)
def tyX10 : Nat → FieldType := fun k => match k with
  | _ => .object "NestedFoci$Tape"
abbrev wsX100 : List Cond := u_ws RX10 TX10 1
theorem nmX10 : ∀ a, a < 1 → ∀ b, b < 1 → a ≠ b → (TX10 a).2.1 ≠ (TX10 b).2.1 := by decide +kernel
theorem tyX10_ok : ∀ k, k < 1 → parseFieldDescriptor (TX10 k).2.2.1 = some (tyX10 k) := by decide +kernel
abbrev cX10_init : ByteArray := prog_12_method_1_code
def yX10_init : MethodName := ⟨RX10, "<init>", "(LNestedFoci$Tape;)V"⟩
abbrev cX10_readWhole : ByteArray := prog_12_method_2_code
def yX10_readWhole : MethodName := ⟨RX10, "readWhole", "()LNestedFoci$Thing;"⟩
abbrev cX10_readOne : ByteArray := prog_12_method_3_code
def yX10_readOne : MethodName := ⟨RX10, "readOne", "(I)LNestedFoci$Thing;"⟩
abbrev cX10_readPair : ByteArray := prog_12_method_4_code
def yX10_readPair : MethodName := ⟨RX10, "readPair", "(I)LNestedFoci$Thing;"⟩
abbrev cX10_readTagged : ByteArray := prog_12_method_5_code
def yX10_readTagged : MethodName := ⟨RX10, "readTagged", "(I)LNestedFoci$Thing;"⟩
abbrev cX10_readMany : ByteArray := prog_12_method_6_code
def yX10_readMany : MethodName := ⟨RX10, "readMany", "(III)LNestedFoci$Thing;"⟩
abbrev cX10_readNewKey : ByteArray := prog_12_method_7_code
def yX10_readNewKey : MethodName := ⟨RX10, "readNewKey", "(LNestedFoci$Parts;)I"⟩
def RX11 : String := "NestedFoci"
def TX11 : u_T := fun k => match k with
  | 0 => ("NestedFoci", "tape", "LNestedFoci$Tape;", true)
  | 1 => ("NestedFoci", "thingReader", "LNestedFoci$ThingReader;", true)
  | 2 => ("NestedFoci", "pathReader", "LNestedFoci$PathReader;", true)
  | 3 => ("NestedFoci", "shelves", "[LNestedFoci$Shelf;", true)
  | 4 => ("NestedFoci", "paths", "[LNestedFoci$Path;", true)
  | 5 => ("NestedFoci", "made", "LNestedFoci$Tally;", true)
  | 6 => ("NestedFoci", "changer", "LNestedFoci$Changer;", true)
  | 7 => ("NestedFoci", "foci", "LNestedFoci$Foci;", true)
  | 8 => ("NestedFoci", "difference", "LNestedFoci$Difference;", true)
  | 9 => ("NestedFoci", "keptThings", "[LNestedFoci$Thing;", true)
  | 10 => ("NestedFoci", "keptPaths", "[LNestedFoci$Path;", true)
  | _ => ("NestedFoci", "isKept", "Z", false)
def tyX11 : Nat → FieldType := fun k => match k with
  | 0 => .object "NestedFoci$Tape"
  | 1 => .object "NestedFoci$ThingReader"
  | 2 => .object "NestedFoci$PathReader"
  | 3 => .array (.object "NestedFoci$Shelf")
  | 4 => .array (.object "NestedFoci$Path")
  | 5 => .object "NestedFoci$Tally"
  | 6 => .object "NestedFoci$Changer"
  | 7 => .object "NestedFoci$Foci"
  | 8 => .object "NestedFoci$Difference"
  | 9 => .array (.object "NestedFoci$Thing")
  | 10 => .array (.object "NestedFoci$Path")
  | _ => .boolean
abbrev wsX110 : List Cond := u_ws RX11 TX11 12
theorem nmX11 : ∀ a, a < 12 → ∀ b, b < 12 → a ≠ b → (TX11 a).2.1 ≠ (TX11 b).2.1 := by decide +kernel
theorem tyX11_ok : ∀ k, k < 12 → parseFieldDescriptor (TX11 k).2.2.1 = some (tyX11 k) := by decide +kernel
abbrev cX11_init : ByteArray := prog_1_method_1_code
def yX11_init : MethodName := ⟨RX11, "<init>", "()V"⟩
abbrev cX11_feed : ByteArray := prog_1_method_2_code
def yX11_feed : MethodName := ⟨RX11, "feed", "(II)I"⟩
abbrev cX11_thing : ByteArray := prog_1_method_3_code
def yX11_thing : MethodName := ⟨RX11, "thing", "(I)I"⟩
abbrev cX11_path : ByteArray := prog_1_method_4_code
def yX11_path : MethodName := ⟨RX11, "path", "(I)I"⟩
abbrev cX11_join : ByteArray := prog_1_method_5_code
def yX11_join : MethodName := ⟨RX11, "join", "(II)I"⟩
abbrev cX11_over : ByteArray := prog_1_method_6_code
def yX11_over : MethodName := ⟨RX11, "over", "(IIIII)I"⟩
abbrev cX11_put : ByteArray := prog_1_method_7_code
def yX11_put : MethodName := ⟨RX11, "put", "(IIIII)I"⟩
abbrev cX11_take : ByteArray := prog_1_method_8_code
def yX11_take : MethodName := ⟨RX11, "take", "(IIII)I"⟩
abbrev cX11_undo : ByteArray := prog_1_method_9_code
def yX11_undo : MethodName := ⟨RX11, "undo", "(I)I"⟩
abbrev cX11_look : ByteArray := prog_1_method_10_code
def yX11_look : MethodName := ⟨RX11, "look", "(IIII)J"⟩
abbrev cX11_key : ByteArray := prog_1_method_11_code
def yX11_key : MethodName := ⟨RX11, "key", "(IIII)I"⟩
abbrev cX11_fold : ByteArray := prog_1_method_12_code
def yX11_fold : MethodName := ⟨RX11, "fold", "(III)J"⟩
abbrev cX11_best : ByteArray := prog_1_method_13_code
def yX11_best : MethodName := ⟨RX11, "best", "(IIII)I"⟩
abbrev cX11_order : ByteArray := prog_1_method_14_code
def yX11_order : MethodName := ⟨RX11, "order", "(II)I"⟩
abbrev cX11_shared : ByteArray := prog_1_method_15_code
def yX11_shared : MethodName := ⟨RX11, "shared", "(II)I"⟩
abbrev cX11_differ : ByteArray := prog_1_method_16_code
def yX11_differ : MethodName := ⟨RX11, "differ", "(III)I"⟩
abbrev cX11_fit : ByteArray := prog_1_method_17_code
def yX11_fit : MethodName := ⟨RX11, "fit", "(III)I"⟩
abbrev cX11_image : ByteArray := prog_1_method_18_code
def yX11_image : MethodName := ⟨RX11, "image", "()I"⟩
abbrev cX11_back : ByteArray := prog_1_method_19_code
def yX11_back : MethodName := ⟨RX11, "back", "()I"⟩
abbrev cX11_count : ByteArray := prog_1_method_20_code
def yX11_count : MethodName := ⟨RX11, "count", "(I)I"⟩
abbrev cX11_isShelf : ByteArray := prog_1_method_21_code
def yX11_isShelf : MethodName := ⟨RX11, "isShelf", "(I)Z"⟩
abbrev cX11_isPath : ByteArray := prog_1_method_22_code
def yX11_isPath : MethodName := ⟨RX11, "isPath", "(I)Z"⟩
abbrev cX11_isHow : ByteArray := prog_1_method_23_code
def yX11_isHow : MethodName := ⟨RX11, "isHow", "(II)Z"⟩
abbrev cX11_held : ByteArray := prog_1_method_24_code
def yX11_held : MethodName := ⟨RX11, "held", "(I)LNestedFoci$Thing;"⟩
abbrev cX11_focusAt : ByteArray := prog_1_method_25_code
def yX11_focusAt : MethodName := ⟨RX11, "focusAt", "(III)LNestedFoci$Thing;"⟩
abbrev cX11_allNodes : ByteArray := prog_1_method_26_code
def yX11_allNodes : MethodName := ⟨RX11, "allNodes", "()I"⟩
abbrev cX11_ofTwo : ByteArray := prog_1_method_27_code
def yX11_ofTwo : MethodName := ⟨RX11, "ofTwo", "(ILNestedFoci$Thing;LNestedFoci$Thing;)LNestedFoci$Thing;"⟩
abbrev cX11_withKey : ByteArray := prog_1_method_28_code
def yX11_withKey : MethodName := ⟨RX11, "withKey", "(LNestedFoci$Thing;ILNestedFoci$Thing;)LNestedFoci$Thing;"⟩
abbrev cX11_sharedNodes : ByteArray := prog_1_method_29_code
def yX11_sharedNodes : MethodName := ⟨RX11, "sharedNodes", "(LNestedFoci$Thing;LNestedFoci$Thing;I)I"⟩
def RX12 : String := "NestedFociModel"
def TX12 : u_T := fun k => match k with
  | 0 => ("NestedFociModel", "thrown", "I", false)
  | 1 => ("NestedFociModel", "kind", "[I", true)
  | 2 => ("NestedFociModel", "worth", "[I", true)
  | 3 => ("NestedFociModel", "size", "[I", true)
  | 4 => ("NestedFociModel", "nodes", "[I", true)
  | 5 => ("NestedFociModel", "height", "[I", true)
  | 6 => ("NestedFociModel", "part", "[I", true)
  | 7 => ("NestedFociModel", "keyOf", "[I", true)
  | 8 => ("NestedFociModel", "things", "I", false)
  | 9 => ("NestedFociModel", "made", "I", false)
  | 10 => ("NestedFociModel", "shelf", "[I", true)
  | 11 => ("NestedFociModel", "past", "[I", true)
  | 12 => ("NestedFociModel", "pastMany", "[I", true)
  | 13 => ("NestedFociModel", "step", "[I", true)
  | 14 => ("NestedFociModel", "stepWorth", "[I", true)
  | 15 => ("NestedFociModel", "steps", "[I", true)
  | 16 => ("NestedFociModel", "imageShelf", "[I", true)
  | 17 => ("NestedFociModel", "imageStep", "[I", true)
  | 18 => ("NestedFociModel", "imageWorth", "[I", true)
  | 19 => ("NestedFociModel", "imageSteps", "[I", true)
  | 20 => ("NestedFociModel", "hasImage", "Z", false)
  | 21 => ("NestedFociModel", "tape", "[I", true)
  | 22 => ("NestedFociModel", "taped", "I", false)
  | 23 => ("NestedFociModel", "spot", "I", false)
  | 24 => ("NestedFociModel", "fault", "I", false)
  | 25 => ("NestedFociModel", "readMany", "I", false)
  | 26 => ("NestedFociModel", "readStep", "I", false)
  | 27 => ("NestedFociModel", "readWorth", "I", false)
  | 28 => ("NestedFociModel", "newStep", "[I", true)
  | 29 => ("NestedFociModel", "newWorth", "[I", true)
  | 30 => ("NestedFociModel", "focus", "[I", true)
  | 31 => ("NestedFociModel", "foci", "I", false)
  | 32 => ("NestedFociModel", "going", "I", false)
  | 33 => ("NestedFociModel", "how", "I", false)
  | 34 => ("NestedFociModel", "howWorth", "I", false)
  | 35 => ("NestedFociModel", "overs", "I", false)
  | 36 => ("NestedFociModel", "isMade", "Z", false)
  | 37 => ("NestedFociModel", "isThere", "[Z", true)
  | 38 => ("NestedFociModel", "differs", "I", false)
  | 39 => ("NestedFociModel", "differsWanted", "I", false)
  | _ => ("NestedFociModel", "differsAt", "I", false)
def tyX12 : Nat → FieldType := fun k => match k with
  | 0 => .int
  | 1 => .array .int
  | 2 => .array .int
  | 3 => .array .int
  | 4 => .array .int
  | 5 => .array .int
  | 6 => .array .int
  | 7 => .array .int
  | 8 => .int
  | 9 => .int
  | 10 => .array .int
  | 11 => .array .int
  | 12 => .array .int
  | 13 => .array .int
  | 14 => .array .int
  | 15 => .array .int
  | 16 => .array .int
  | 17 => .array .int
  | 18 => .array .int
  | 19 => .array .int
  | 20 => .boolean
  | 21 => .array .int
  | 22 => .int
  | 23 => .int
  | 24 => .int
  | 25 => .int
  | 26 => .int
  | 27 => .int
  | 28 => .array .int
  | 29 => .array .int
  | 30 => .array .int
  | 31 => .int
  | 32 => .int
  | 33 => .int
  | 34 => .int
  | 35 => .int
  | 36 => .boolean
  | 37 => .array .boolean
  | 38 => .int
  | 39 => .int
  | _ => .int
abbrev wsX120 : List Cond := u_ws RX12 TX12 41
theorem nmX12 : ∀ a, a < 41 → ∀ b, b < 41 → a ≠ b → (TX12 a).2.1 ≠ (TX12 b).2.1 := by decide +kernel
theorem tyX12_ok : ∀ k, k < 41 → parseFieldDescriptor (TX12 k).2.2.1 = some (tyX12 k) := by decide +kernel
abbrev cX12_init : ByteArray := prog_14_method_1_code
def yX12_init : MethodName := ⟨RX12, "<init>", "()V"⟩
abbrev cX12_in : ByteArray := prog_14_method_3_code
def yX12_in : MethodName := ⟨RX12, "in", "(III)Z"⟩
abbrev cX12_isShelf : ByteArray := prog_14_method_4_code
def yX12_isShelf : MethodName := ⟨RX12, "isShelf", "(I)Z"⟩
abbrev cX12_isPath : ByteArray := prog_14_method_5_code
def yX12_isPath : MethodName := ⟨RX12, "isPath", "(I)Z"⟩
abbrev cX12_begins : ByteArray := prog_14_method_6_code
def yX12_begins : MethodName := ⟨RX12, "begins", "(III)I"⟩
abbrev cX12_ends : ByteArray := prog_14_method_7_code
def yX12_ends : MethodName := ⟨RX12, "ends", "(I)I"⟩
abbrev cX12_number : ByteArray := prog_14_method_8_code
def yX12_number : MethodName := ⟨RX12, "number", "(I)I"⟩
abbrev cX12_isFull : ByteArray := prog_14_method_9_code
def yX12_isFull : MethodName := ⟨RX12, "isFull", "(I)Z"⟩
abbrev cX12_compared : ByteArray := prog_14_method_10_code
def yX12_compared : MethodName := ⟨RX12, "compared", "(II)I"⟩
abbrev cX12_becomes : ByteArray := prog_14_method_11_code
def yX12_becomes : MethodName := ⟨RX12, "becomes", "(II)V"⟩
abbrev cX12_feed : ByteArray := prog_14_method_12_code
def yX12_feed : MethodName := ⟨RX12, "feed", "(II)I"⟩
abbrev cX12_here : ByteArray := prog_14_method_13_code
def yX12_here : MethodName := ⟨RX12, "here", "()I"⟩
abbrev cX12_fails : ByteArray := prog_14_method_14_code
def yX12_fails : MethodName := ⟨RX12, "fails", "(I)V"⟩
abbrev cX12_isFault : ByteArray := prog_14_method_15_code
def yX12_isFault : MethodName := ⟨RX12, "isFault", "()Z"⟩
abbrev cX12_one : ByteArray := prog_14_method_16_code
def yX12_one : MethodName := ⟨RX12, "one", "(II)I"⟩
abbrev cX12_isHere : ByteArray := prog_14_method_17_code
def yX12_isHere : MethodName := ⟨RX12, "isHere", "(I)Z"⟩
abbrev cX12_digits : ByteArray := prog_14_method_18_code
def yX12_digits : MethodName := ⟨RX12, "digits", "(I)I"⟩
abbrev cX12_signed : ByteArray := prog_14_method_19_code
def yX12_signed : MethodName := ⟨RX12, "signed", "()I"⟩
abbrev cX12_letters : ByteArray := prog_14_method_20_code
def yX12_letters : MethodName := ⟨RX12, "letters", "()I"⟩
abbrev cX12_adds : ByteArray := prog_14_method_21_code
def yX12_adds : MethodName := ⟨RX12, "adds", "(III)V"⟩
abbrev cX12_puts : ByteArray := prog_14_method_22_code
def yX12_puts : MethodName := ⟨RX12, "puts", "(III)V"⟩
abbrev cX12_hasKey : ByteArray := prog_14_method_23_code
def yX12_hasKey : MethodName := ⟨RX12, "hasKey", "(II)Z"⟩
abbrev cX12_readsEntry : ByteArray := prog_14_method_24_code
def yX12_readsEntry : MethodName := ⟨RX12, "readsEntry", "(II)I"⟩
abbrev cX12_readsAll : ByteArray := prog_14_method_25_code
def yX12_readsAll : MethodName := ⟨RX12, "readsAll", "(III)V"⟩
abbrev cX12_reads : ByteArray := prog_14_method_26_code
def yX12_reads : MethodName := ⟨RX12, "reads", "(I)I"⟩
abbrev cX12_thing : ByteArray := prog_14_method_27_code
def yX12_thing : MethodName := ⟨RX12, "thing", "(I)I"⟩
abbrev cX12_readsStep : ByteArray := prog_14_method_28_code
def yX12_readsStep : MethodName := ⟨RX12, "readsStep", "()V"⟩
abbrev cX12_path : ByteArray := prog_14_method_29_code
def yX12_path : MethodName := ⟨RX12, "path", "(I)I"⟩
abbrev cX12_join : ByteArray := prog_14_method_30_code
def yX12_join : MethodName := ⟨RX12, "join", "(II)I"⟩
abbrev cX12_isItself : ByteArray := prog_14_method_31_code
def yX12_isItself : MethodName := ⟨RX12, "isItself", "(II)Z"⟩
abbrev cX12_isPart : ByteArray := prog_14_method_32_code
def yX12_isPart : MethodName := ⟨RX12, "isPart", "(III)Z"⟩
abbrev cX12_nextStep : ByteArray := prog_14_method_33_code
def yX12_nextStep : MethodName := ⟨RX12, "nextStep", "(I)I"⟩
abbrev cX12_goes : ByteArray := prog_14_method_34_code
def yX12_goes : MethodName := ⟨RX12, "goes", "(II)V"⟩
abbrev cX12_looksFor : ByteArray := prog_14_method_35_code
def yX12_looksFor : MethodName := ⟨RX12, "looksFor", "(II)V"⟩
abbrev cX12_makes : ByteArray := prog_14_method_36_code
def yX12_makes : MethodName := ⟨RX12, "makes", "()Z"⟩
abbrev cX12_numbered : ByteArray := prog_14_method_37_code
def yX12_numbered : MethodName := ⟨RX12, "numbered", "(I)I"⟩
abbrev cX12_copyOf : ByteArray := prog_14_method_38_code
def yX12_copyOf : MethodName := ⟨RX12, "copyOf", "(I)I"⟩
abbrev cX12_changed : ByteArray := prog_14_method_39_code
def yX12_changed : MethodName := ⟨RX12, "changed", "(I)I"⟩
abbrev cX12_around : ByteArray := prog_14_method_40_code
def yX12_around : MethodName := ⟨RX12, "around", "(III)I"⟩
abbrev cX12_became : ByteArray := prog_14_method_41_code
def yX12_became : MethodName := ⟨RX12, "became", "(I)I"⟩
abbrev cX12_goesOver : ByteArray := prog_14_method_42_code
def yX12_goesOver : MethodName := ⟨RX12, "goesOver", "(II)I"⟩
abbrev cX12_comesOf : ByteArray := prog_14_method_43_code
def yX12_comesOf : MethodName := ⟨RX12, "comesOf", "(IIII)I"⟩
abbrev cX12_over : ByteArray := prog_14_method_44_code
def yX12_over : MethodName := ⟨RX12, "over", "(IIIII)I"⟩
abbrev cX12_put : ByteArray := prog_14_method_45_code
def yX12_put : MethodName := ⟨RX12, "put", "(IIIII)I"⟩
abbrev cX12_take : ByteArray := prog_14_method_46_code
def yX12_take : MethodName := ⟨RX12, "take", "(IIII)I"⟩
abbrev cX12_undo : ByteArray := prog_14_method_47_code
def yX12_undo : MethodName := ⟨RX12, "undo", "(I)I"⟩
abbrev cX12_focusOf : ByteArray := prog_14_method_48_code
def yX12_focusOf : MethodName := ⟨RX12, "focusOf", "(III)I"⟩
abbrev cX12_look : ByteArray := prog_14_method_49_code
def yX12_look : MethodName := ⟨RX12, "look", "(IIII)J"⟩
abbrev cX12_key : ByteArray := prog_14_method_50_code
def yX12_key : MethodName := ⟨RX12, "key", "(IIII)I"⟩
abbrev cX12_sumOf : ByteArray := prog_14_method_51_code
def yX12_sumOf : MethodName := ⟨RX12, "sumOf", "(I)J"⟩
abbrev cX12_isNew : ByteArray := prog_14_method_52_code
def yX12_isNew : MethodName := ⟨RX12, "isNew", "(I)Z"⟩
abbrev cX12_fold : ByteArray := prog_14_method_53_code
def yX12_fold : MethodName := ⟨RX12, "fold", "(III)J"⟩
abbrev cX12_orderedBy : ByteArray := prog_14_method_54_code
def yX12_orderedBy : MethodName := ⟨RX12, "orderedBy", "(III)I"⟩
abbrev cX12_best : ByteArray := prog_14_method_55_code
def yX12_best : MethodName := ⟨RX12, "best", "(IIII)I"⟩
abbrev cX12_order : ByteArray := prog_14_method_56_code
def yX12_order : MethodName := ⟨RX12, "order", "(II)I"⟩
abbrev cX12_marks : ByteArray := prog_14_method_57_code
def yX12_marks : MethodName := ⟨RX12, "marks", "(I)V"⟩
abbrev cX12_sharedIn : ByteArray := prog_14_method_58_code
def yX12_sharedIn : MethodName := ⟨RX12, "sharedIn", "(I)I"⟩
abbrev cX12_shared : ByteArray := prog_14_method_59_code
def yX12_shared : MethodName := ⟨RX12, "shared", "(II)I"⟩
abbrev cX12_isLikeBuilt : ByteArray := prog_14_method_60_code
def yX12_isLikeBuilt : MethodName := ⟨RX12, "isLikeBuilt", "(II)Z"⟩
abbrev cX12_differsIn : ByteArray := prog_14_method_61_code
def yX12_differsIn : MethodName := ⟨RX12, "differsIn", "(III)V"⟩
abbrev cX12_differ : ByteArray := prog_14_method_62_code
def yX12_differ : MethodName := ⟨RX12, "differ", "(III)I"⟩
abbrev cX12_fit : ByteArray := prog_14_method_63_code
def yX12_fit : MethodName := ⟨RX12, "fit", "(III)I"⟩
abbrev cX12_allNodes : ByteArray := prog_14_method_64_code
def yX12_allNodes : MethodName := ⟨RX12, "allNodes", "()I"⟩
abbrev cX12_image : ByteArray := prog_14_method_65_code
def yX12_image : MethodName := ⟨RX12, "image", "()I"⟩
abbrev cX12_back : ByteArray := prog_14_method_66_code
def yX12_back : MethodName := ⟨RX12, "back", "()I"⟩
abbrev cX12_count : ByteArray := prog_14_method_67_code
def yX12_count : MethodName := ⟨RX12, "count", "(I)I"⟩
def RJ6 : String := "java/lang/Integer"
def TJ6 : u_T := fun k => match k with
  | _ => ("", "", "", false)
def tyJ6 : Nat → FieldType := fun k => match k with
  | _ => .int
abbrev wsJ60 : List Cond := u_ws RJ6 TJ6 0
theorem nmJ6 : ∀ a, a < 0 → ∀ b, b < 0 → a ≠ b → (TJ6 a).2.1 ≠ (TJ6 b).2.1 := by decide +kernel
theorem tyJ6_ok : ∀ k, k < 0 → parseFieldDescriptor (TJ6 k).2.2.1 = some (tyJ6 k) := by decide +kernel
abbrev cJ6_compare_7cf53 : ByteArray := prog_15_method_40_code
def yJ6_compare_7cf53 : MethodName := ⟨RJ6, "compare", "(II)I"⟩
def RJ9 : String := "java/lang/Math"
def TJ9 : u_T := fun k => match k with
  | _ => ("", "", "", false)
def tyJ9 : Nat → FieldType := fun k => match k with
  | _ => .int
abbrev wsJ90 : List Cond := u_ws RJ9 TJ9 0
theorem nmJ9 : ∀ a, a < 0 → ∀ b, b < 0 → a ≠ b → (TJ9 a).2.1 ≠ (TJ9 b).2.1 := by decide +kernel
theorem tyJ9_ok : ∀ k, k < 0 → parseFieldDescriptor (TJ9 k).2.2.1 = some (tyJ9 k) := by decide +kernel
abbrev cJ9_max_7cf53 : ByteArray := prog_16_method_65_code
def yJ9_max_7cf53 : MethodName := ⟨RJ9, "max", "(II)I"⟩
abbrev cJ9_min_7cf53 : ByteArray := prog_16_method_69_code
def yJ9_min_7cf53 : MethodName := ⟨RJ9, "min", "(II)I"⟩
def RL : String := "NestedFociLaw"
abbrev cL_law : ByteArray := code
def yL_law : MethodName := ⟨RL, "law", "([I)Z"⟩

abbrev ab_cl : List vw_C := [(RX0, TX0, 7), (RX1, TX1, 2), (RX2, TX2, 3), (RX3, TX3, 3), (RX4, TX4, 2), (RX5, TX5, 3), (RX6, TX6, 3), (RX7, TX7, 1), (RX8, TX8, 4), (RX9, TX9, 6), (RX10, TX10, 1), (RX11, TX11, 12), (RX12, TX12, 41)]
set_option maxRecDepth 100000 in
theorem inX0 : ∀ w ∈ wsX00, w ∈ lw_tbl := by decide +kernel
set_option maxRecDepth 100000 in
theorem inX1 : ∀ w ∈ wsX10, w ∈ lw_tbl := by decide +kernel
set_option maxRecDepth 100000 in
theorem inX2 : ∀ w ∈ wsX20, w ∈ lw_tbl := by decide +kernel
set_option maxRecDepth 100000 in
theorem inX3 : ∀ w ∈ wsX30, w ∈ lw_tbl := by decide +kernel
set_option maxRecDepth 100000 in
theorem inX4 : ∀ w ∈ wsX40, w ∈ lw_tbl := by decide +kernel
set_option maxRecDepth 100000 in
theorem inX5 : ∀ w ∈ wsX50, w ∈ lw_tbl := by decide +kernel
set_option maxRecDepth 100000 in
theorem inX6 : ∀ w ∈ wsX60, w ∈ lw_tbl := by decide +kernel
set_option maxRecDepth 100000 in
theorem inX7 : ∀ w ∈ wsX70, w ∈ lw_tbl := by decide +kernel
set_option maxRecDepth 100000 in
theorem inX8 : ∀ w ∈ wsX80, w ∈ lw_tbl := by decide +kernel
set_option maxRecDepth 100000 in
theorem inX9 : ∀ w ∈ wsX90, w ∈ lw_tbl := by decide +kernel
set_option maxRecDepth 100000 in
theorem inX10 : ∀ w ∈ wsX100, w ∈ lw_tbl := by decide +kernel
set_option maxRecDepth 100000 in
theorem inX11 : ∀ w ∈ wsX110, w ∈ lw_tbl := by decide +kernel
set_option maxRecDepth 100000 in
theorem inX12 : ∀ w ∈ wsX120, w ∈ lw_tbl := by decide +kernel
abbrev ab_V : Type := Int32 ⊕ Int64 ⊕ Option Nat
/-- array tags: 0 int[], 1 boolean[], then the element classes by their numbers -/
def ab_ec : Nat → Nat := fun t => match t with
  | 2 => 4
  | 3 => 6
  | 4 => 9
  | _ => 99
abbrev ab_tys (cT : Nat → ClassId) : List (ClassId × FieldType) := [(cT 0, .int), (cT 1, .boolean), (cT 2, .object RX4), (cT 3, .object RX6), (cT 4, .object RX9)]
def ab_df : Nat → List ab_V := fun c => match c with
  | 0 => [.inr (.inr none), .inr (.inr none), .inl 0, .inl 0, .inr (.inr none), .inl 0, .inl 0]
  | 1 => [.inr (.inr none), .inl 0]
  | 2 => [.inr (.inr none), .inr (.inr none), .inl 0]
  | 3 => [.inr (.inr none), .inr (.inr none), .inl 0]
  | 4 => [.inr (.inr none), .inr (.inr none)]
  | 5 => [.inr (.inr none), .inr (.inr none), .inr (.inr none)]
  | 6 => [.inr (.inr none), .inl 0, .inr (.inr none)]
  | 7 => [.inl 0]
  | 8 => [.inr (.inr none), .inl 0, .inl 0, .inl 0]
  | 9 => [.inl 0, .inl 0, .inl 0, .inl 0, .inr (.inr none), .inr (.inr none)]
  | 10 => [.inr (.inr none)]
  | 11 => [.inr (.inr none), .inr (.inr none), .inr (.inr none), .inr (.inr none), .inr (.inr none), .inr (.inr none), .inr (.inr none), .inr (.inr none), .inr (.inr none), .inr (.inr none), .inr (.inr none), .inl 0]
  | 12 => [.inl 0, .inr (.inr none), .inr (.inr none), .inr (.inr none), .inr (.inr none), .inr (.inr none), .inr (.inr none), .inr (.inr none), .inl 0, .inl 0, .inr (.inr none), .inr (.inr none), .inr (.inr none), .inr (.inr none), .inr (.inr none), .inr (.inr none), .inr (.inr none), .inr (.inr none), .inr (.inr none), .inr (.inr none), .inl 0, .inr (.inr none), .inl 0, .inl 0, .inl 0, .inl 0, .inl 0, .inl 0, .inr (.inr none), .inr (.inr none), .inr (.inr none), .inl 0, .inl 0, .inl 0, .inl 0, .inl 0, .inl 0, .inr (.inr none), .inl 0, .inl 0, .inl 0]
  | _ => []
def ab_ty : Nat → Nat → FieldType := fun c => match c with
  | 0 => tyX0
  | 1 => tyX1
  | 2 => tyX2
  | 3 => tyX3
  | 4 => tyX4
  | 5 => tyX5
  | 6 => tyX6
  | 7 => tyX7
  | 8 => tyX8
  | 9 => tyX9
  | 10 => tyX10
  | 11 => tyX11
  | 12 => tyX12
  | _ => fun _ => .int
theorem ab_cl_of {P : Nat → vw_C → Prop} (h0 : P 0 (RX0, TX0, 7)) (h1 : P 1 (RX1, TX1, 2)) (h2 : P 2 (RX2, TX2, 3)) (h3 : P 3 (RX3, TX3, 3)) (h4 : P 4 (RX4, TX4, 2)) (h5 : P 5 (RX5, TX5, 3)) (h6 : P 6 (RX6, TX6, 3)) (h7 : P 7 (RX7, TX7, 1)) (h8 : P 8 (RX8, TX8, 4)) (h9 : P 9 (RX9, TX9, 6)) (h10 : P 10 (RX10, TX10, 1)) (h11 : P 11 (RX11, TX11, 12)) (h12 : P 12 (RX12, TX12, 41)) : ∀ (c : Nat) (q : vw_C), ab_cl[c]? = some q → P c q := by
  intro c q h
  have hl : c < 13 := (List.getElem?_eq_some_iff.mp h).1
  match c, hl, h with
  | 0, _, h => cases h; exact h0
  | 1, _, h => cases h; exact h1
  | 2, _, h => cases h; exact h2
  | 3, _, h => cases h; exact h3
  | 4, _, h => cases h; exact h4
  | 5, _, h => cases h; exact h5
  | 6, _, h => cases h; exact h6
  | 7, _, h => cases h; exact h7
  | 8, _, h => cases h; exact h8
  | 9, _, h => cases h; exact h9
  | 10, _, h => cases h; exact h10
  | 11, _, h => cases h; exact h11
  | 12, _, h => cases h; exact h12
theorem ab_inC : ∀ (c : Nat) (q : vw_C), ab_cl[c]? = some q → ∀ w ∈ u_ws q.1 q.2.1 q.2.2, w ∈ lw_tbl := ab_cl_of inX0 inX1 inX2 inX3 inX4 inX5 inX6 inX7 inX8 inX9 inX10 inX11 inX12
theorem ab_tyC : ∀ (c : Nat) (q : vw_C), ab_cl[c]? = some q → ∀ k, k < q.2.2 → parseFieldDescriptor (q.2.1 k).2.2.1 = some (ab_ty c k) := ab_cl_of tyX0_ok tyX1_ok tyX2_ok tyX3_ok tyX4_ok tyX5_ok tyX6_ok tyX7_ok tyX8_ok tyX9_ok tyX10_ok tyX11_ok tyX12_ok
theorem ab_nmC : ∀ (c : Nat) (q : vw_C), ab_cl[c]? = some q → ∀ x, x < q.2.2 → ∀ y, y < q.2.2 → x ≠ y → (q.2.1 x).2.1 ≠ (q.2.1 y).2.1 := ab_cl_of nmX0 nmX1 nmX2 nmX3 nmX4 nmX5 nmX6 nmX7 nmX8 nmX9 nmX10 nmX11 nmX12
theorem ab_df0 {f : ab_V → Value} (h1 : f (.inl 0) = .int 0) (h2 : f (.inr (.inr none)) = .null) : ∀ k, k < 7 → defaultValue (tyX0 k) = vp_V ((ab_df 0).map f) k := by
  intro k hk
  match k, hk with
  | 0, _ => exact h2.symm
  | 1, _ => exact h2.symm
  | 2, _ => exact h1.symm
  | 3, _ => exact h1.symm
  | 4, _ => exact h2.symm
  | 5, _ => exact h1.symm
  | 6, _ => exact h1.symm
  | k + 7, hk => exact absurd hk (by omega)
theorem ab_df1 {f : ab_V → Value} (h1 : f (.inl 0) = .int 0) (h2 : f (.inr (.inr none)) = .null) : ∀ k, k < 2 → defaultValue (tyX1 k) = vp_V ((ab_df 1).map f) k := by
  intro k hk
  match k, hk with
  | 0, _ => exact h2.symm
  | 1, _ => exact h1.symm
  | k + 2, hk => exact absurd hk (by omega)
theorem ab_df2 {f : ab_V → Value} (h1 : f (.inl 0) = .int 0) (h2 : f (.inr (.inr none)) = .null) : ∀ k, k < 3 → defaultValue (tyX2 k) = vp_V ((ab_df 2).map f) k := by
  intro k hk
  match k, hk with
  | 0, _ => exact h2.symm
  | 1, _ => exact h2.symm
  | 2, _ => exact h1.symm
  | k + 3, hk => exact absurd hk (by omega)
theorem ab_df3 {f : ab_V → Value} (h1 : f (.inl 0) = .int 0) (h2 : f (.inr (.inr none)) = .null) : ∀ k, k < 3 → defaultValue (tyX3 k) = vp_V ((ab_df 3).map f) k := by
  intro k hk
  match k, hk with
  | 0, _ => exact h2.symm
  | 1, _ => exact h2.symm
  | 2, _ => exact h1.symm
  | k + 3, hk => exact absurd hk (by omega)
theorem ab_df4 {f : ab_V → Value} (h1 : f (.inl 0) = .int 0) (h2 : f (.inr (.inr none)) = .null) : ∀ k, k < 2 → defaultValue (tyX4 k) = vp_V ((ab_df 4).map f) k := by
  intro k hk
  match k, hk with
  | 0, _ => exact h2.symm
  | 1, _ => exact h2.symm
  | k + 2, hk => exact absurd hk (by omega)
theorem ab_df5 {f : ab_V → Value} (h1 : f (.inl 0) = .int 0) (h2 : f (.inr (.inr none)) = .null) : ∀ k, k < 3 → defaultValue (tyX5 k) = vp_V ((ab_df 5).map f) k := by
  intro k hk
  match k, hk with
  | 0, _ => exact h2.symm
  | 1, _ => exact h2.symm
  | 2, _ => exact h2.symm
  | k + 3, hk => exact absurd hk (by omega)
theorem ab_df6 {f : ab_V → Value} (h1 : f (.inl 0) = .int 0) (h2 : f (.inr (.inr none)) = .null) : ∀ k, k < 3 → defaultValue (tyX6 k) = vp_V ((ab_df 6).map f) k := by
  intro k hk
  match k, hk with
  | 0, _ => exact h2.symm
  | 1, _ => exact h1.symm
  | 2, _ => exact h2.symm
  | k + 3, hk => exact absurd hk (by omega)
theorem ab_df7 {f : ab_V → Value} (h1 : f (.inl 0) = .int 0) (h2 : f (.inr (.inr none)) = .null) : ∀ k, k < 1 → defaultValue (tyX7 k) = vp_V ((ab_df 7).map f) k := by
  intro k hk
  match k, hk with
  | 0, _ => exact h1.symm
  | k + 1, hk => exact absurd hk (by omega)
theorem ab_df8 {f : ab_V → Value} (h1 : f (.inl 0) = .int 0) (h2 : f (.inr (.inr none)) = .null) : ∀ k, k < 4 → defaultValue (tyX8 k) = vp_V ((ab_df 8).map f) k := by
  intro k hk
  match k, hk with
  | 0, _ => exact h2.symm
  | 1, _ => exact h1.symm
  | 2, _ => exact h1.symm
  | 3, _ => exact h1.symm
  | k + 4, hk => exact absurd hk (by omega)
theorem ab_df9 {f : ab_V → Value} (h1 : f (.inl 0) = .int 0) (h2 : f (.inr (.inr none)) = .null) : ∀ k, k < 6 → defaultValue (tyX9 k) = vp_V ((ab_df 9).map f) k := by
  intro k hk
  match k, hk with
  | 0, _ => exact h1.symm
  | 1, _ => exact h1.symm
  | 2, _ => exact h1.symm
  | 3, _ => exact h1.symm
  | 4, _ => exact h2.symm
  | 5, _ => exact h2.symm
  | k + 6, hk => exact absurd hk (by omega)
theorem ab_df10 {f : ab_V → Value} (h1 : f (.inl 0) = .int 0) (h2 : f (.inr (.inr none)) = .null) : ∀ k, k < 1 → defaultValue (tyX10 k) = vp_V ((ab_df 10).map f) k := by
  intro k hk
  match k, hk with
  | 0, _ => exact h2.symm
  | k + 1, hk => exact absurd hk (by omega)
theorem ab_df11 {f : ab_V → Value} (h1 : f (.inl 0) = .int 0) (h2 : f (.inr (.inr none)) = .null) : ∀ k, k < 12 → defaultValue (tyX11 k) = vp_V ((ab_df 11).map f) k := by
  intro k hk
  match k, hk with
  | 0, _ => exact h2.symm
  | 1, _ => exact h2.symm
  | 2, _ => exact h2.symm
  | 3, _ => exact h2.symm
  | 4, _ => exact h2.symm
  | 5, _ => exact h2.symm
  | 6, _ => exact h2.symm
  | 7, _ => exact h2.symm
  | 8, _ => exact h2.symm
  | 9, _ => exact h2.symm
  | 10, _ => exact h2.symm
  | 11, _ => exact h1.symm
  | k + 12, hk => exact absurd hk (by omega)
theorem ab_df12 {f : ab_V → Value} (h1 : f (.inl 0) = .int 0) (h2 : f (.inr (.inr none)) = .null) : ∀ k, k < 41 → defaultValue (tyX12 k) = vp_V ((ab_df 12).map f) k := by
  intro k hk
  match k, hk with
  | 0, _ => exact h1.symm
  | 1, _ => exact h2.symm
  | 2, _ => exact h2.symm
  | 3, _ => exact h2.symm
  | 4, _ => exact h2.symm
  | 5, _ => exact h2.symm
  | 6, _ => exact h2.symm
  | 7, _ => exact h2.symm
  | 8, _ => exact h1.symm
  | 9, _ => exact h1.symm
  | 10, _ => exact h2.symm
  | 11, _ => exact h2.symm
  | 12, _ => exact h2.symm
  | 13, _ => exact h2.symm
  | 14, _ => exact h2.symm
  | 15, _ => exact h2.symm
  | 16, _ => exact h2.symm
  | 17, _ => exact h2.symm
  | 18, _ => exact h2.symm
  | 19, _ => exact h2.symm
  | 20, _ => exact h1.symm
  | 21, _ => exact h2.symm
  | 22, _ => exact h1.symm
  | 23, _ => exact h1.symm
  | 24, _ => exact h1.symm
  | 25, _ => exact h1.symm
  | 26, _ => exact h1.symm
  | 27, _ => exact h1.symm
  | 28, _ => exact h2.symm
  | 29, _ => exact h2.symm
  | 30, _ => exact h2.symm
  | 31, _ => exact h1.symm
  | 32, _ => exact h1.symm
  | 33, _ => exact h1.symm
  | 34, _ => exact h1.symm
  | 35, _ => exact h1.symm
  | 36, _ => exact h1.symm
  | 37, _ => exact h2.symm
  | 38, _ => exact h1.symm
  | 39, _ => exact h1.symm
  | 40, _ => exact h1.symm
  | k + 41, hk => exact absurd hk (by omega)
theorem ab_dfC {f : ab_V → Value} (h1 : f (.inl 0) = .int 0) (h2 : f (.inr (.inr none)) = .null) : ∀ (c : Nat) (q : vw_C), ab_cl[c]? = some q → ∀ k, k < q.2.2 → defaultValue (ab_ty c k) = vp_V ((ab_df c).map f) k := ab_cl_of (ab_df0 h1 h2) (ab_df1 h1 h2) (ab_df2 h1 h2) (ab_df3 h1 h2) (ab_df4 h1 h2) (ab_df5 h1 h2) (ab_df6 h1 h2) (ab_df7 h1 h2) (ab_df8 h1 h2) (ab_df9 h1 h2) (ab_df10 h1 h2) (ab_df11 h1 h2) (ab_df12 h1 h2)
theorem ab_dlC : ∀ (c : Nat) (q : vw_C), ab_cl[c]? = some q → (ab_df c).length = q.2.2 := ab_cl_of rfl rfl rfl rfl rfl rfl rfl rfl rfl rfl rfl rfl rfl
end
section
/-! ===== the abstract machine: values, cells, heap, and what an instruction asks (own text) ===== -/
abbrev ab_L : Type := List (Nat × ab_V)
abbrev ab_C : Type := (Nat × Nat × (Nat → Int32)) ⊕ (Nat × Nat × (Nat → Option Nat)) ⊕ (Nat × List ab_V)
/-- a heap: its cells by number, how many have been made, how many slots they have -/
abbrev ab_H : Type := (Nat → ab_C) × Nat × Nat
/-- an instruction: does a loop begin here; its place, itself, its length, two numbers and a table (the links, resolved) -/
abbrev ab_E : Type := Bool × Nat × Instr × Nat × Nat × Nat × List (Int × Nat)
abbrev ab_M : Type := MethodName × ByteArray × Nat × Option FieldType × List ab_E
abbrev ab_Q : Type := Option ab_V → ab_H → Prop
abbrev ab_K : Type := ab_L → List ab_V → ab_H → Prop
abbrev ab_J : Type := Nat → ab_L → List ab_V → ab_H → Prop
abbrev ab_F : Type := Nat → List ab_V → ab_H → ab_Q → Prop
abbrev ab_ii (z : Int) : Int32 := Int32.ofInt z
abbrev ab_ia (t n : Nat) (f : Nat → Int32) : ab_C := .inl (t, n, f)
abbrev ab_ra (t n : Nat) (f : Nat → Option Nat) : ab_C := .inr (.inl (t, n, f))
abbrev ab_ob (c : Nat) (fs : List ab_V) : ab_C := .inr (.inr (c, fs))
abbrev ab_scr : Nat := 1000000000
abbrev ab_CM : Nat := 600000
abbrev ab_SM : Nat := 7302250
def ab_up {α : Type} (f : Nat → α) (k : Nat) (v : α) : Nat → α := fun j => cond (Nat.beq j k) v (f j)
abbrev ab_set (h : ab_H) (a : Nat) (c : ab_C) : ab_H := (ab_up h.1 a c, h.2)
abbrev ab_new (h : ab_H) (c : ab_C) (n : Nat) : ab_H := (ab_up h.1 h.2.1 c, h.2.1 + 1, h.2.2 + n)
def ab_cat : ab_V → Nat
  | .inl _ => 1
  | .inr (.inl _) => 2
  | .inr (.inr _) => 1
def ab_cats : List ab_V → Nat
  | [] => 0
  | v :: t => ab_cat v + ab_cats t
def ab_get (i : Nat) : ab_L → (ab_V → Prop) → Prop
  | [], _ => False
  | (j, v) :: t, K => match Nat.beq j i with
    | true => K v
    | false => ab_get i t K
def ab_del (i : Nat) : ab_L → (ab_L → Prop) → Prop
  | [], K => K []
  | (j, v) :: t, K => match Nat.beq j i with
    | true => ab_del i t K
    | false => match v with
      | .inr (.inl y) => match Nat.beq (j + 1) i with
        | true => ab_del i t K
        | false => ab_del i t (fun t' => K ((j, .inr (.inl y)) :: t'))
      | .inl x => ab_del i t (fun t' => K ((j, .inl x) :: t'))
      | .inr (.inr o) => ab_del i t (fun t' => K ((j, .inr (.inr o)) :: t'))
def ab_pop : Nat → List ab_V → List ab_V → (List ab_V → List ab_V → Prop) → Prop
  | 0, acc, st, K => K acc st
  | n + 1, acc, st, K => match st with
    | v :: r => ab_pop n (v :: acc) r K
    | [] => False
def ab_push : Option ab_V → List ab_V → List ab_V
  | some v, r => v :: r
  | none, r => r
def ab_sw (x : Int) (X : Nat → Prop) (d : Nat) : List (Int × Nat) → Prop
  | [] => X d
  | (k, t) :: l => (x = k → X t) ∧ (¬ x = k → ab_sw x X d l)
def ab_len : ab_C → Option Nat
  | .inl (_, n, _) => some n
  | .inr (.inl (_, n, _)) => some n
  | .inr (.inr _) => none
/-- what a field of a type may hold: 0 int, 1 boolean, else a reference -/
def ab_fit : Nat → ab_V → Prop
  | 0, .inl _ => True
  | 1, .inl x => x.toInt = 0 ∨ x.toInt = 1
  | 2, .inr (.inr _) => True
  | _, _ => False
def ab_z (l : List (Int × Nat)) : Int := match l with
  | (z, _) :: _ => z
  | [] => 0
def ab_st1 (i : Nat) (v : ab_V) (K : ab_K) : ab_K := fun ls st h => ab_del i ls (fun l => K ((i, v) :: l) st h)
def ab_call (C : ab_F) (y n : Nat) (K : ab_K) : ab_K := fun ls st h => ab_pop n [] st (fun args rest => match Nat.ble (ab_cats rest) 8 with
  | true => C y args h (fun r h' => K ls (ab_push r rest) h')
  | false => False)
def ab_callV (C : ab_F) (y n ci : Nat) (K : ab_K) : ab_K := fun ls st h => ab_pop n [] st (fun args rest => match Nat.ble (ab_cats rest) 8 with
  | true => match args with
    | .inr (.inr (some a)) :: _ => ∃ fs, h.1 a = ab_ob ci fs ∧ C y args h (fun r h' => K ls (ab_push r rest) h')
    | _ => False
  | false => False)
def ab_callI (C : ab_F) (y n : Nat) (K : ab_K) : ab_K := fun ls st h => ab_pop n [] st (fun args rest => match Nat.ble (ab_cats rest) 8 with
  | true => match args with
    | .inr (.inr (some _)) :: _ => C y args h (fun r h' => K ls (ab_push r rest) h')
    | _ => False
  | false => False)
def ab_oi (K : ab_K) : ab_K := fun ls st h => match st with
  | .inr (.inr (some _)) :: r => (match Nat.ble (ab_cats r) 8 with
    | true => K ls r h
    | false => False)
  | _ => False
def ab_sp (C : ab_F) (y n : Nat) (K : ab_K) : ab_K := fun ls st h => match Nat.beq y 999 with
  | true => ab_oi K ls st h
  | false => ab_callI C y n K ls st h
def ab_if (c : ClassFile.Cond) (x y : Int) (A B : Prop) : Prop := match c with
  | .eq => (x = y → A) ∧ (¬ x = y → B)
  | .ne => (¬ x = y → A) ∧ (x = y → B)
  | .lt => (x < y → A) ∧ (y ≤ x → B)
  | .ge => (y ≤ x → A) ∧ (x < y → B)
  | .gt => (y < x → A) ∧ (x ≤ y → B)
  | .le => (x ≤ y → A) ∧ (y < x → B)
def ab_stp (C : ab_F) (Q : ab_Q) (X : ab_J) (e : ab_E) (K : ab_K) : ab_K := fun ls st h =>
  match e with
  | (true, pc, _) => X pc ls st h
  | (false, _, ins, _, a1, a2, sw) =>
  match ins with
  | .iconst n => K ls (.inl (ab_ii n) :: st) h
  | .bipush n => K ls (.inl (ab_ii n) :: st) h
  | .sipush n => K ls (.inl (ab_ii n) :: st) h
  | .ldc _ => K ls (.inl (ab_ii (ab_z sw)) :: st) h
  | .lconst n => K ls (.inr (.inl (Int64.ofNat (n : Nat))) :: st) h
  | .ldc2_w _ => K ls (.inr (.inl (Int64.ofInt (ab_z sw))) :: st) h
  | .aconst_null => K ls (.inr (.inr none) :: st) h
  | .iload i => ab_get i ls (fun v => match v with | .inl x => K ls (.inl x :: st) h | _ => False)
  | .iload_n i => ab_get (i : Nat) ls (fun v => match v with | .inl x => K ls (.inl x :: st) h | _ => False)
  | .lload i => ab_get i ls (fun v => match v with | .inr (.inl x) => K ls (.inr (.inl x) :: st) h | _ => False)
  | .lload_n i => ab_get (i : Nat) ls (fun v => match v with | .inr (.inl x) => K ls (.inr (.inl x) :: st) h | _ => False)
  | .aload i => ab_get i ls (fun v => match v with | .inr (.inr o) => K ls (.inr (.inr o) :: st) h | _ => False)
  | .aload_n i => ab_get (i : Nat) ls (fun v => match v with | .inr (.inr o) => K ls (.inr (.inr o) :: st) h | _ => False)
  | .istore i => match st with | .inl x :: r => ab_st1 i (.inl x) K ls r h | _ => False
  | .istore_n i => match st with | .inl x :: r => ab_st1 (i : Nat) (.inl x) K ls r h | _ => False
  | .astore i => match st with | .inr (.inr o) :: r => ab_st1 i (.inr (.inr o)) K ls r h | _ => False
  | .astore_n i => match st with | .inr (.inr o) :: r => ab_st1 (i : Nat) (.inr (.inr o)) K ls r h | _ => False
  | .lstore i => match st with | .inr (.inl x) :: r => ab_del (i + 1) ls (fun l => ab_st1 i (.inr (.inl x)) K l r h) | _ => False
  | .lstore_n i => match st with | .inr (.inl x) :: r => ab_del ((i : Nat) + 1) ls (fun l => ab_st1 (i : Nat) (.inr (.inl x)) K l r h) | _ => False
  | .iinc i n => ab_get i ls (fun v => match v with | .inl x => ab_st1 i (.inl (ab_ii (x.toInt + n))) K ls st h | _ => False)
  | .dup => match st with | .inl x :: r => K ls (.inl x :: .inl x :: r) h | .inr (.inr o) :: r => K ls (.inr (.inr o) :: .inr (.inr o) :: r) h | _ => False
  | .dup2 => match st with | .inl x :: .inl y :: r => K ls (.inl x :: .inl y :: .inl x :: .inl y :: r) h | .inl x :: .inr (.inr y) :: r => K ls (.inl x :: .inr (.inr y) :: .inl x :: .inr (.inr y) :: r) h | _ => False
  | .pop => match st with | .inl _ :: r => K ls r h | .inr (.inr _) :: r => K ls r h | _ => False
  | .pop2 => match st with | .inr (.inl _) :: r => K ls r h | _ => False
  | .iadd => match st with | .inl y :: .inl x :: r => K ls (.inl (ab_ii (x.toInt + y.toInt)) :: r) h | _ => False
  | .isub => match st with | .inl y :: .inl x :: r => K ls (.inl (ab_ii (x.toInt - y.toInt)) :: r) h | _ => False
  | .imul => match st with | .inl y :: .inl x :: r => K ls (.inl (ab_ii (x.toInt * y.toInt)) :: r) h | _ => False
  | .irem => match st with | .inl y :: .inl x :: r => (0 ≤ x.toInt ∧ 0 < y.toInt) ∧ K ls (.inl (ab_ii (x.toInt % y.toInt)) :: r) h | _ => False
  | .ineg => match st with | .inl x :: r => K ls (.inl (ab_ii (- x.toInt)) :: r) h | _ => False
  | .iand => match st with | .inl y :: .inl x :: r => K ls (.inl (x &&& y) :: r) h | _ => False
  | .ishr => match st with | .inl y :: .inl x :: r => K ls (.inl (x >>> (y &&& 31)) :: r) h | _ => False
  | .iushr => match st with | .inl y :: .inl x :: r => K ls (.inl ((x.toUInt32 >>> (y.toUInt32 &&& Int32.toUInt32 31)).toInt32) :: r) h | _ => False
  | .i2l => match st with | .inl x :: r => K ls (.inr (.inl x.toInt64) :: r) h | _ => False
  | .ladd => match st with | .inr (.inl y) :: .inr (.inl x) :: r => K ls (.inr (.inl (x + y)) :: r) h | _ => False
  | .lcmp => match st with | .inr (.inl y) :: .inr (.inl x) :: r => (y < x → K ls (.inl (ab_ii 1) :: r) h) ∧ (x = y → K ls (.inl (ab_ii 0) :: r) h) ∧ (x < y → K ls (.inl (ab_ii (-1)) :: r) h) | _ => False
  | .goto _ => X a1 ls st h
  | .ifCond c _ => match st with | .inl x :: r => ab_if c x.toInt 0 (X a1 ls r h) (K ls r h) | _ => False
  | .if_icmp c _ => match st with | .inl y :: .inl x :: r => ab_if c x.toInt y.toInt (X a1 ls r h) (K ls r h) | _ => False
  | .if_acmp .eq _ => match st with | .inr (.inr y) :: .inr (.inr x) :: r => (x = y → X a1 ls r h) ∧ (¬ x = y → K ls r h) | _ => False
  | .if_acmp .ne _ => match st with | .inr (.inr y) :: .inr (.inr x) :: r => (¬ x = y → X a1 ls r h) ∧ (x = y → K ls r h) | _ => False
  | .ifnull _ => match st with | .inr (.inr o) :: r => (match o with | none => X a1 ls r h | some _ => K ls r h) | _ => False
  | .ifnonnull _ => match st with | .inr (.inr o) :: r => (match o with | none => K ls r h | some _ => X a1 ls r h) | _ => False
  | .tableswitch _ _ _ _ => match st with | .inl x :: r => ab_sw x.toInt (fun t => X t ls r h) a1 sw | _ => False
  | .lookupswitch _ _ => match st with | .inl x :: r => ab_sw x.toInt (fun t => X t ls r h) a1 sw | _ => False
  | .ireturn => match st with | [.inl x] => ab_fit a1 (.inl x) ∧ Q (some (.inl x)) h | _ => False
  | .lreturn => match st with | [.inr (.inl x)] => Q (some (.inr (.inl x))) h | _ => False
  | .areturn => match st with | [.inr (.inr o)] => Q (some (.inr (.inr o))) h | _ => False
  | .return_ => match st with | [] => Q none h | _ => False
  | .getfield _ => match st with | .inr (.inr (some a)) :: r => ∃ fs w, h.1 a = ab_ob a1 fs ∧ fs[a2]? = some w ∧ K ls (w :: r) h | _ => False
  | .putfield _ => match st with | v :: .inr (.inr (some a)) :: r => ∃ fs, h.1 a = ab_ob a1 fs ∧ a2 < fs.length ∧ ab_fit (ab_z sw).toNat v ∧ K ls r (ab_set h a (ab_ob a1 (fs.set a2 v))) | _ => False
  | .iaload => match st with | .inl i :: .inr (.inr (some a)) :: r => ∃ t n f, h.1 a = ab_ia t n f ∧ (t = 0 ∨ t = 9) ∧ (0 ≤ i.toInt ∧ i.toInt < n) ∧ K ls (.inl (f i.toInt.toNat) :: r) h | _ => False
  | .baload => match st with | .inl i :: .inr (.inr (some a)) :: r => ∃ n f, h.1 a = ab_ia 1 n f ∧ (0 ≤ i.toInt ∧ i.toInt < n) ∧ K ls (.inl (f i.toInt.toNat) :: r) h | _ => False
  | .aaload => match st with | .inl i :: .inr (.inr (some a)) :: r => ∃ t n f, h.1 a = ab_ra t n f ∧ (0 ≤ i.toInt ∧ i.toInt < n) ∧ K ls (.inr (.inr (f i.toInt.toNat)) :: r) h | _ => False
  | .iastore => match st with | .inl x :: .inl i :: .inr (.inr (some a)) :: r => ∃ n f, h.1 a = ab_ia 0 n f ∧ (0 ≤ i.toInt ∧ i.toInt < n) ∧ K ls r (ab_set h a (ab_ia 0 n (ab_up f i.toInt.toNat x))) | _ => False
  | .bastore => match st with | .inl x :: .inl i :: .inr (.inr (some a)) :: r => ∃ n f, h.1 a = ab_ia 1 n f ∧ (0 ≤ i.toInt ∧ i.toInt < n) ∧ (x.toInt = 0 ∨ x.toInt = 1) ∧ K ls r (ab_set h a (ab_ia 1 n (ab_up f i.toInt.toNat x))) | _ => False
  | .aastore => match st with | .inr (.inr o) :: .inl i :: .inr (.inr (some a)) :: r => ∃ t n f, h.1 a = ab_ra t n f ∧ (0 ≤ i.toInt ∧ i.toInt < n) ∧ (∀ v, o = some v → ∃ fs, h.1 v = ab_ob (ab_ec t) fs) ∧ K ls r (ab_set h a (ab_ra t n (ab_up f i.toInt.toNat o))) | _ => False
  | .arraylength => match st with | .inr (.inr (some a)) :: r => ∃ n, ab_len (h.1 a) = some n ∧ K ls (.inl (ab_ii (n : Int)) :: r) h | _ => False
  | .new _ => (h.2.1 < ab_CM ∧ h.2.2 + a2 ≤ ab_SM) ∧ K ls (.inr (.inr (some h.2.1)) :: st) (ab_new h (ab_ob a1 (ab_df a1)) a2)
  | .newarray _ => match st with | .inl x :: r => (0 ≤ x.toInt ∧ h.2.1 < ab_CM ∧ h.2.2 + x.toInt.toNat ≤ ab_SM) ∧ K ls (.inr (.inr (some h.2.1)) :: r) (ab_new h (ab_ia a1 x.toInt.toNat (fun _ => 0)) x.toInt.toNat) | _ => False
  | .anewarray _ => match st with | .inl x :: r => (0 ≤ x.toInt ∧ h.2.1 < ab_CM ∧ h.2.2 + x.toInt.toNat ≤ ab_SM) ∧ K ls (.inr (.inr (some h.2.1)) :: r) (ab_new h (ab_ra a1 x.toInt.toNat (fun _ => none)) x.toInt.toNat) | _ => False
  | .invokevirtual _ => ab_callV C a1 a2 (ab_z sw).toNat K ls st h
  | .invokestatic _ => ab_call C a1 a2 K ls st h
  | .invokespecial _ => ab_sp C a1 a2 K ls st h
  | _ => False
def ab_go (C : ab_F) (Q : ab_Q) (X : ab_J) : List ab_E → ab_K
  | [] => fun _ _ _ => False
  | e :: t => ab_stp C Q X e (ab_go C Q X t)
def ab_from (pc : Nat) : List ab_E → List ab_E
  | [] => []
  | e :: t => match Nat.beq e.2.1 pc with
    | true => (false, e.2) :: t
    | false => ab_from pc t
def ab_loc : Nat → List ab_V → (ab_L → Prop) → Prop
  | _, [], K => K []
  | i, v :: t, K => ab_loc (i + ab_cat v) t (fun l => K ((i, v) :: l))
end
section
def kX0_init : List ab_E := [
  (false, 0, (.aload_n 0), 1, 0, 0, []),
  (false, 1, (.invokespecial 3), 3, 999, 0, []),
  (false, 4, (.aload_n 0), 1, 0, 0, []),
  (false, 5, (.aload_n 1), 1, 0, 0, []),
  (false, 6, (.putfield 9), 3, 0, 0, [(2, 0)]),
  (false, 9, .return_, 1, 0, 0, [])]
def kX0_change : List ab_E := [
  (false, 0, (.aload_n 0), 1, 0, 0, []),
  (false, 1, (.aload_n 2), 1, 0, 0, []),
  (false, 2, (.putfield 15), 3, 0, 1, [(2, 0)]),
  (false, 5, (.aload_n 0), 1, 0, 0, []),
  (false, 6, (.iload_n 3), 1, 0, 0, []),
  (false, 7, (.putfield 19), 3, 0, 2, [(0, 0)]),
  (false, 10, (.aload_n 0), 1, 0, 0, []),
  (false, 11, (.iload 4), 2, 0, 0, []),
  (false, 13, (.putfield 23), 3, 0, 3, [(0, 0)]),
  (false, 16, (.aload_n 0), 1, 0, 0, []),
  (false, 17, (.aload 5), 2, 0, 0, []),
  (false, 19, (.putfield 26), 3, 0, 4, [(2, 0)]),
  (false, 22, (.aload_n 0), 1, 0, 0, []),
  (false, 23, (.iconst 0), 1, 0, 0, []),
  (false, 24, (.putfield 30), 3, 0, 5, [(0, 0)]),
  (false, 27, (.aload_n 0), 1, 0, 0, []),
  (false, 28, (.iconst 0), 1, 0, 0, []),
  (false, 29, (.putfield 33), 3, 0, 6, [(1, 0)]),
  (false, 32, (.aload_n 0), 1, 0, 0, []),
  (false, 33, (.aload_n 1), 1, 0, 0, []),
  (false, 34, (.iconst 0), 1, 0, 0, []),
  (false, 35, (.iconst 0), 1, 0, 0, []),
  (false, 36, (.invokevirtual 37), 3, 3, 4, [(0, 0)]),
  (false, 39, (.astore 6), 2, 0, 0, []),
  (false, 41, (.aload_n 0), 1, 0, 0, []),
  (false, 42, (.getfield 33), 3, 0, 6, [(1, 0)]),
  (false, 45, (.ifCond .eq 7), 3, 52, 0, []),
  (false, 48, .aconst_null, 1, 0, 0, []),
  (false, 49, (.goto 5), 3, 54, 0, []),
  (false, 52, (.aload 6), 2, 0, 0, []),
  (false, 54, .areturn, 1, 0, 0, [])]
def kX0_focusCount : List ab_E := [
  (false, 0, (.aload_n 0), 1, 0, 0, []),
  (false, 1, (.getfield 30), 3, 0, 5, [(0, 0)]),
  (false, 4, .ireturn, 1, 0, 0, [])]
def kX0_changeWithin : List ab_E := [
  (false, 0, (.aload_n 1), 1, 0, 0, []),
  (false, 1, (.ifnull 16), 3, 17, 0, []),
  (false, 4, (.aload_n 0), 1, 0, 0, []),
  (false, 5, (.getfield 33), 3, 0, 6, [(1, 0)]),
  (false, 8, (.ifCond .ne 9), 3, 17, 0, []),
  (false, 11, (.iload_n 3), 1, 0, 0, []),
  (false, 12, (.bipush 40), 2, 0, 0, []),
  (false, 14, (.if_icmp .le 5), 3, 19, 0, []),
  (false, 17, (.aload_n 1), 1, 0, 0, []),
  (false, 18, .areturn, 1, 0, 0, []),
  (false, 19, (.iload_n 2), 1, 0, 0, []),
  (false, 20, (.aload_n 0), 1, 0, 0, []),
  (false, 21, (.getfield 15), 3, 0, 1, [(2, 0)]),
  (false, 24, (.invokevirtual 41), 3, 46, 1, [(4, 0)]),
  (false, 27, (.if_icmp .lt 9), 3, 36, 0, []),
  (false, 30, (.aload_n 0), 1, 0, 0, []),
  (false, 31, (.aload_n 1), 1, 0, 0, []),
  (false, 32, (.invokevirtual 47), 3, 4, 2, [(0, 0)]),
  (false, 35, .areturn, 1, 0, 0, []),
  (false, 36, (.aload_n 0), 1, 0, 0, []),
  (false, 37, (.getfield 15), 3, 0, 1, [(2, 0)]),
  (false, 40, (.iload_n 2), 1, 0, 0, []),
  (false, 41, (.aload_n 1), 1, 0, 0, []),
  (false, 42, (.invokevirtual 51), 3, 48, 3, [(4, 0)]),
  (false, 45, (.ifCond .eq 15), 3, 60, 0, []),
  (false, 48, (.aload_n 0), 1, 0, 0, []),
  (false, 49, (.aload_n 1), 1, 0, 0, []),
  (false, 50, (.iload_n 2), 1, 0, 0, []),
  (false, 51, (.iconst 1), 1, 0, 0, []),
  (false, 52, .iadd, 1, 0, 0, []),
  (false, 53, (.iload_n 3), 1, 0, 0, []),
  (false, 54, (.iconst 1), 1, 0, 0, []),
  (false, 55, .iadd, 1, 0, 0, []),
  (false, 56, (.invokevirtual 37), 3, 3, 4, [(0, 0)]),
  (false, 59, .areturn, 1, 0, 0, []),
  (false, 60, .aconst_null, 1, 0, 0, []),
  (false, 61, (.astore 4), 2, 0, 0, []),
  (false, 63, (.iconst 0), 1, 0, 0, []),
  (false, 64, (.istore 5), 2, 0, 0, []),
  (true, 66, (.iload 5), 2, 0, 0, []),
  (false, 68, (.aload_n 1), 1, 0, 0, []),
  (false, 69, (.invokevirtual 55), 3, 87, 1, [(9, 0)]),
  (false, 72, (.if_icmp .ge 80), 3, 152, 0, []),
  (false, 75, (.aload_n 0), 1, 0, 0, []),
  (false, 76, (.getfield 15), 3, 0, 1, [(2, 0)]),
  (false, 79, (.iload_n 2), 1, 0, 0, []),
  (false, 80, (.aload_n 1), 1, 0, 0, []),
  (false, 81, (.iload 5), 2, 0, 0, []),
  (false, 83, (.invokevirtual 58), 3, 49, 4, [(4, 0)]),
  (false, 86, (.ifCond .eq 60), 3, 146, 0, []),
  (false, 89, (.aload_n 1), 1, 0, 0, []),
  (false, 90, (.iload 5), 2, 0, 0, []),
  (false, 92, (.invokevirtual 62), 3, 88, 2, [(9, 0)]),
  (false, 95, (.astore 6), 2, 0, 0, []),
  (false, 97, (.aload_n 0), 1, 0, 0, []),
  (false, 98, (.aload 6), 2, 0, 0, []),
  (false, 100, (.aload_n 0), 1, 0, 0, []),
  (false, 101, (.getfield 15), 3, 0, 1, [(2, 0)]),
  (false, 104, (.iload_n 2), 1, 0, 0, []),
  (false, 105, (.invokevirtual 66), 3, 50, 2, [(4, 0)]),
  (false, 108, (.iload_n 3), 1, 0, 0, []),
  (false, 109, (.iconst 1), 1, 0, 0, []),
  (false, 110, .iadd, 1, 0, 0, []),
  (false, 111, (.invokevirtual 37), 3, 3, 4, [(0, 0)]),
  (false, 114, (.astore 7), 2, 0, 0, []),
  (false, 116, (.aload 7), 2, 0, 0, []),
  (false, 118, (.aload 6), 2, 0, 0, []),
  (false, 120, (.if_acmp .eq 26), 3, 146, 0, []),
  (false, 123, (.aload 4), 2, 0, 0, []),
  (false, 125, (.ifnonnull 10), 3, 135, 0, []),
  (false, 128, (.aload_n 1), 1, 0, 0, []),
  (false, 129, (.invokevirtual 70), 3, 89, 1, [(9, 0)]),
  (false, 132, (.goto 5), 3, 137, 0, []),
  (false, 135, (.aload 4), 2, 0, 0, []),
  (false, 137, (.astore 4), 2, 0, 0, []),
  (false, 139, (.aload 4), 2, 0, 0, []),
  (false, 141, (.iload 5), 2, 0, 0, []),
  (false, 143, (.aload 7), 2, 0, 0, []),
  (false, 145, .aastore, 1, 0, 0, []),
  (false, 146, (.iinc 5 1), 3, 0, 0, []),
  (false, 149, (.goto (-83)), 3, 66, 0, []),
  (false, 152, (.aload 4), 2, 0, 0, []),
  (false, 154, (.ifnonnull 7), 3, 161, 0, []),
  (false, 157, (.aload_n 1), 1, 0, 0, []),
  (false, 158, (.goto 10), 3, 168, 0, []),
  (false, 161, (.aload_n 0), 1, 0, 0, []),
  (false, 162, (.aload_n 1), 1, 0, 0, []),
  (false, 163, (.aload 4), 2, 0, 0, []),
  (false, 165, (.invokevirtual 74), 3, 8, 3, [(0, 0)]),
  (false, 168, .areturn, 1, 0, 0, [])]
def kX0_changeFocus : List ab_E := [
  (false, 0, (.aload_n 0), 1, 0, 0, []),
  (false, 1, (.getfield 30), 3, 0, 5, [(0, 0)]),
  (false, 4, (.istore_n 2), 1, 0, 0, []),
  (false, 5, (.aload_n 0), 1, 0, 0, []),
  (false, 6, .dup, 1, 0, 0, []),
  (false, 7, (.getfield 30), 3, 0, 5, [(0, 0)]),
  (false, 10, (.iconst 1), 1, 0, 0, []),
  (false, 11, .iadd, 1, 0, 0, []),
  (false, 12, (.putfield 30), 3, 0, 5, [(0, 0)]),
  (false, 15, (.aload_n 0), 1, 0, 0, []),
  (false, 16, (.getfield 19), 3, 0, 2, [(0, 0)]),
  (false, 19, (.tableswitch 169 0 7 #[45, 60, 75, 90, 102, 137, 152, 164]), 45, 188, 0, [(0, 64), (1, 79), (2, 94), (3, 109), (4, 121), (5, 156), (6, 171), (7, 183)]),
  (false, 64, (.aload_n 0), 1, 0, 0, []),
  (false, 65, (.aload_n 1), 1, 0, 0, []),
  (false, 66, (.aload_n 1), 1, 0, 0, []),
  (false, 67, (.getfield 78), 3, 9, 1, [(0, 0)]),
  (false, 70, (.aload_n 0), 1, 0, 0, []),
  (false, 71, (.getfield 23), 3, 0, 3, [(0, 0)]),
  (false, 74, .iadd, 1, 0, 0, []),
  (false, 75, (.invokevirtual 81), 3, 6, 3, [(0, 0)]),
  (false, 78, .areturn, 1, 0, 0, []),
  (false, 79, (.aload_n 0), 1, 0, 0, []),
  (false, 80, (.aload_n 1), 1, 0, 0, []),
  (false, 81, (.aload_n 1), 1, 0, 0, []),
  (false, 82, (.getfield 78), 3, 9, 1, [(0, 0)]),
  (false, 85, (.aload_n 0), 1, 0, 0, []),
  (false, 86, (.getfield 23), 3, 0, 3, [(0, 0)]),
  (false, 89, .imul, 1, 0, 0, []),
  (false, 90, (.invokevirtual 81), 3, 6, 3, [(0, 0)]),
  (false, 93, .areturn, 1, 0, 0, []),
  (false, 94, (.aload_n 0), 1, 0, 0, []),
  (false, 95, (.aload_n 1), 1, 0, 0, []),
  (false, 96, (.aload_n 0), 1, 0, 0, []),
  (false, 97, (.getfield 23), 3, 0, 3, [(0, 0)]),
  (false, 100, (.aload_n 1), 1, 0, 0, []),
  (false, 101, (.getfield 78), 3, 9, 1, [(0, 0)]),
  (false, 104, .isub, 1, 0, 0, []),
  (false, 105, (.invokevirtual 81), 3, 6, 3, [(0, 0)]),
  (false, 108, .areturn, 1, 0, 0, []),
  (false, 109, (.aload_n 0), 1, 0, 0, []),
  (false, 110, (.aload_n 1), 1, 0, 0, []),
  (false, 111, (.aload_n 1), 1, 0, 0, []),
  (false, 112, (.getfield 78), 3, 9, 1, [(0, 0)]),
  (false, 115, (.iload_n 2), 1, 0, 0, []),
  (false, 116, .iadd, 1, 0, 0, []),
  (false, 117, (.invokevirtual 81), 3, 6, 3, [(0, 0)]),
  (false, 120, .areturn, 1, 0, 0, []),
  (false, 121, (.iconst 2), 1, 0, 0, []),
  (false, 122, (.anewarray 56), 3, 4, 0, []),
  (false, 125, .dup, 1, 0, 0, []),
  (false, 126, (.iconst 0), 1, 0, 0, []),
  (false, 127, (.aload_n 1), 1, 0, 0, []),
  (false, 128, .aastore, 1, 0, 0, []),
  (false, 129, .dup, 1, 0, 0, []),
  (false, 130, (.iconst 1), 1, 0, 0, []),
  (false, 131, (.aload_n 0), 1, 0, 0, []),
  (false, 132, (.iconst 0), 1, 0, 0, []),
  (false, 133, (.aload_n 0), 1, 0, 0, []),
  (false, 134, (.getfield 23), 3, 0, 3, [(0, 0)]),
  (false, 137, (.iconst 0), 1, 0, 0, []),
  (false, 138, (.anewarray 56), 3, 4, 0, []),
  (false, 141, (.aload_n 1), 1, 0, 0, []),
  (false, 142, (.invokevirtual 85), 3, 7, 5, [(0, 0)]),
  (false, 145, .aastore, 1, 0, 0, []),
  (false, 146, (.astore_n 3), 1, 0, 0, []),
  (false, 147, (.aload_n 0), 1, 0, 0, []),
  (false, 148, (.iconst 1), 1, 0, 0, []),
  (false, 149, (.iconst 0), 1, 0, 0, []),
  (false, 150, (.aload_n 3), 1, 0, 0, []),
  (false, 151, (.aload_n 1), 1, 0, 0, []),
  (false, 152, (.invokevirtual 85), 3, 7, 5, [(0, 0)]),
  (false, 155, .areturn, 1, 0, 0, []),
  (false, 156, (.aload_n 0), 1, 0, 0, []),
  (false, 157, (.iconst 4), 1, 0, 0, []),
  (false, 158, (.aload_n 0), 1, 0, 0, []),
  (false, 159, (.getfield 23), 3, 0, 3, [(0, 0)]),
  (false, 162, (.aload_n 1), 1, 0, 0, []),
  (false, 163, (.invokestatic 89), 3, 10, 1, []),
  (false, 166, (.aload_n 1), 1, 0, 0, []),
  (false, 167, (.invokevirtual 85), 3, 7, 5, [(0, 0)]),
  (false, 170, .areturn, 1, 0, 0, []),
  (false, 171, (.aload_n 0), 1, 0, 0, []),
  (false, 172, (.iconst 2), 1, 0, 0, []),
  (false, 173, (.iconst 0), 1, 0, 0, []),
  (false, 174, (.aload_n 1), 1, 0, 0, []),
  (false, 175, (.invokestatic 89), 3, 10, 1, []),
  (false, 178, (.aload_n 1), 1, 0, 0, []),
  (false, 179, (.invokevirtual 85), 3, 7, 5, [(0, 0)]),
  (false, 182, .areturn, 1, 0, 0, []),
  (false, 183, (.aload_n 0), 1, 0, 0, []),
  (false, 184, (.getfield 26), 3, 0, 4, [(2, 0)]),
  (false, 187, .areturn, 1, 0, 0, []),
  (false, 188, (.aload_n 0), 1, 0, 0, []),
  (false, 189, (.aload_n 1), 1, 0, 0, []),
  (false, 190, (.invokevirtual 93), 3, 5, 2, [(0, 0)]),
  (false, 193, .areturn, 1, 0, 0, [])]
def kX0_changeOrder : List ab_E := [
  (false, 0, (.aload_n 0), 1, 0, 0, []),
  (false, 1, (.getfield 19), 3, 0, 2, [(0, 0)]),
  (false, 4, (.bipush 8), 2, 0, 0, []),
  (false, 6, (.if_icmp .ne 11), 3, 17, 0, []),
  (false, 9, (.aload_n 1), 1, 0, 0, []),
  (false, 10, (.getfield 96), 3, 9, 0, [(0, 0)]),
  (false, 13, (.iconst 1), 1, 0, 0, []),
  (false, 14, (.if_icmp .eq 20), 3, 34, 0, []),
  (false, 17, (.aload_n 0), 1, 0, 0, []),
  (false, 18, (.getfield 19), 3, 0, 2, [(0, 0)]),
  (false, 21, (.bipush 9), 2, 0, 0, []),
  (false, 23, (.if_icmp .ne 21), 3, 44, 0, []),
  (false, 26, (.aload_n 1), 1, 0, 0, []),
  (false, 27, (.getfield 96), 3, 9, 0, [(0, 0)]),
  (false, 30, (.iconst 2), 1, 0, 0, []),
  (false, 31, (.if_icmp .ne 13), 3, 44, 0, []),
  (false, 34, (.aload_n 0), 1, 0, 0, []),
  (false, 35, (.aload_n 1), 1, 0, 0, []),
  (false, 36, (.aload_n 1), 1, 0, 0, []),
  (false, 37, (.invokestatic 99), 3, 11, 1, []),
  (false, 40, (.invokevirtual 74), 3, 8, 3, [(0, 0)]),
  (false, 43, .areturn, 1, 0, 0, []),
  (false, 44, (.aload_n 0), 1, 0, 0, []),
  (false, 45, (.getfield 19), 3, 0, 2, [(0, 0)]),
  (false, 48, (.bipush 10), 2, 0, 0, []),
  (false, 50, (.if_icmp .ne 21), 3, 71, 0, []),
  (false, 53, (.aload_n 1), 1, 0, 0, []),
  (false, 54, (.getfield 96), 3, 9, 0, [(0, 0)]),
  (false, 57, (.iconst 2), 1, 0, 0, []),
  (false, 58, (.if_icmp .ne 13), 3, 71, 0, []),
  (false, 61, (.aload_n 0), 1, 0, 0, []),
  (false, 62, (.aload_n 1), 1, 0, 0, []),
  (false, 63, (.aload_n 1), 1, 0, 0, []),
  (false, 64, (.invokestatic 102), 3, 13, 1, []),
  (false, 67, (.invokevirtual 74), 3, 8, 3, [(0, 0)]),
  (false, 70, .areturn, 1, 0, 0, []),
  (false, 71, (.aload_n 0), 1, 0, 0, []),
  (false, 72, (.getfield 19), 3, 0, 2, [(0, 0)]),
  (false, 75, (.bipush 11), 2, 0, 0, []),
  (false, 77, (.if_icmp .ne 21), 3, 98, 0, []),
  (false, 80, (.aload_n 1), 1, 0, 0, []),
  (false, 81, (.getfield 96), 3, 9, 0, [(0, 0)]),
  (false, 84, (.iconst 3), 1, 0, 0, []),
  (false, 85, (.if_icmp .ne 13), 3, 98, 0, []),
  (false, 88, (.aload_n 0), 1, 0, 0, []),
  (false, 89, (.aload_n 1), 1, 0, 0, []),
  (false, 90, (.aload_n 1), 1, 0, 0, []),
  (false, 91, (.invokestatic 105), 3, 12, 1, []),
  (false, 94, (.invokevirtual 74), 3, 8, 3, [(0, 0)]),
  (false, 97, .areturn, 1, 0, 0, []),
  (false, 98, (.aload_n 1), 1, 0, 0, []),
  (false, 99, .areturn, 1, 0, 0, [])]
def kX0_makeNumberOf : List ab_E := [
  (false, 0, (.aload_n 1), 1, 0, 0, []),
  (false, 1, (.getfield 96), 3, 9, 0, [(0, 0)]),
  (false, 4, (.ifCond .ne 17), 3, 21, 0, []),
  (false, 7, (.aload_n 0), 1, 0, 0, []),
  (false, 8, (.iconst 0), 1, 0, 0, []),
  (false, 9, (.iload_n 2), 1, 0, 0, []),
  (false, 10, (.iconst 0), 1, 0, 0, []),
  (false, 11, (.anewarray 56), 3, 4, 0, []),
  (false, 14, (.aload_n 1), 1, 0, 0, []),
  (false, 15, (.invokevirtual 85), 3, 7, 5, [(0, 0)]),
  (false, 18, (.goto 4), 3, 22, 0, []),
  (false, 21, (.aload_n 1), 1, 0, 0, []),
  (false, 22, .areturn, 1, 0, 0, [])]
def kX0_make : List ab_E := [
  (false, 0, (.aload_n 0), 1, 0, 0, []),
  (false, 1, (.invokevirtual 108), 3, 9, 1, [(0, 0)]),
  (false, 4, (.ifCond .eq 19), 3, 23, 0, []),
  (false, 7, (.new 56), 3, 9, 6, []),
  (false, 10, .dup, 1, 0, 0, []),
  (false, 11, (.iload_n 1), 1, 0, 0, []),
  (false, 12, (.iload_n 2), 1, 0, 0, []),
  (false, 13, (.iconst 0), 1, 0, 0, []),
  (false, 14, (.newarray .int), 2, 0, 0, []),
  (false, 16, (.aload_n 3), 1, 0, 0, []),
  (false, 17, (.invokespecial 112), 3, 86, 5, []),
  (false, 20, (.goto 5), 3, 25, 0, []),
  (false, 23, (.aload 4), 2, 0, 0, []),
  (false, 25, .areturn, 1, 0, 0, [])]
def kX0_makeAround : List ab_E := [
  (false, 0, (.aload_n 0), 1, 0, 0, []),
  (false, 1, (.invokevirtual 108), 3, 9, 1, [(0, 0)]),
  (false, 4, (.ifCond .eq 26), 3, 30, 0, []),
  (false, 7, (.new 56), 3, 9, 6, []),
  (false, 10, .dup, 1, 0, 0, []),
  (false, 11, (.aload_n 1), 1, 0, 0, []),
  (false, 12, (.getfield 96), 3, 9, 0, [(0, 0)]),
  (false, 15, (.aload_n 1), 1, 0, 0, []),
  (false, 16, (.getfield 78), 3, 9, 1, [(0, 0)]),
  (false, 19, (.aload_n 1), 1, 0, 0, []),
  (false, 20, (.getfield 115), 3, 9, 4, [(2, 0)]),
  (false, 23, (.aload_n 2), 1, 0, 0, []),
  (false, 24, (.invokespecial 112), 3, 86, 5, []),
  (false, 27, (.goto 4), 3, 31, 0, []),
  (false, 30, (.aload_n 1), 1, 0, 0, []),
  (false, 31, .areturn, 1, 0, 0, [])]
def kX0_mayMake : List ab_E := [
  (false, 0, (.aload_n 0), 1, 0, 0, []),
  (false, 1, (.getfield 33), 3, 0, 6, [(1, 0)]),
  (false, 4, (.ifCond .ne 19), 3, 23, 0, []),
  (false, 7, (.aload_n 0), 1, 0, 0, []),
  (false, 8, (.getfield 9), 3, 0, 0, [(2, 0)]),
  (false, 11, (.iconst 1), 1, 0, 0, []),
  (false, 12, (.invokevirtual 119), 3, 68, 2, [(7, 0)]),
  (false, 15, (.ifCond .ne 8), 3, 23, 0, []),
  (false, 18, (.aload_n 0), 1, 0, 0, []),
  (false, 19, (.iconst 1), 1, 0, 0, []),
  (false, 20, (.putfield 33), 3, 0, 6, [(1, 0)]),
  (false, 23, (.aload_n 0), 1, 0, 0, []),
  (false, 24, (.getfield 33), 3, 0, 6, [(1, 0)]),
  (false, 27, (.ifCond .ne 7), 3, 34, 0, []),
  (false, 30, (.iconst 1), 1, 0, 0, []),
  (false, 31, (.goto 4), 3, 35, 0, []),
  (false, 34, (.iconst 0), 1, 0, 0, []),
  (false, 35, .ireturn, 1, 1, 0, [])]
def kX0_justOne : List ab_E := [
  (false, 0, (.iconst 1), 1, 0, 0, []),
  (false, 1, (.anewarray 56), 3, 4, 0, []),
  (false, 4, .dup, 1, 0, 0, []),
  (false, 5, (.iconst 0), 1, 0, 0, []),
  (false, 6, (.aload_n 0), 1, 0, 0, []),
  (false, 7, .aastore, 1, 0, 0, []),
  (false, 8, (.astore_n 1), 1, 0, 0, []),
  (false, 9, (.aload_n 1), 1, 0, 0, []),
  (false, 10, .areturn, 1, 0, 0, [])]
def kX0_reversed : List ab_E := [
  (false, 0, (.aload_n 0), 1, 0, 0, []),
  (false, 1, (.invokevirtual 55), 3, 87, 1, [(9, 0)]),
  (false, 4, (.istore_n 1), 1, 0, 0, []),
  (false, 5, (.iload_n 1), 1, 0, 0, []),
  (false, 6, (.anewarray 56), 3, 4, 0, []),
  (false, 9, (.astore_n 2), 1, 0, 0, []),
  (false, 10, (.iconst 0), 1, 0, 0, []),
  (false, 11, (.istore_n 3), 1, 0, 0, []),
  (true, 12, (.iload_n 3), 1, 0, 0, []),
  (false, 13, (.iload_n 1), 1, 0, 0, []),
  (false, 14, (.if_icmp .ge 21), 3, 35, 0, []),
  (false, 17, (.aload_n 2), 1, 0, 0, []),
  (false, 18, (.iload_n 3), 1, 0, 0, []),
  (false, 19, (.aload_n 0), 1, 0, 0, []),
  (false, 20, (.iload_n 1), 1, 0, 0, []),
  (false, 21, (.iconst 1), 1, 0, 0, []),
  (false, 22, .isub, 1, 0, 0, []),
  (false, 23, (.iload_n 3), 1, 0, 0, []),
  (false, 24, .isub, 1, 0, 0, []),
  (false, 25, (.invokevirtual 62), 3, 88, 2, [(9, 0)]),
  (false, 28, .aastore, 1, 0, 0, []),
  (false, 29, (.iinc 3 1), 3, 0, 0, []),
  (false, 32, (.goto (-20)), 3, 12, 0, []),
  (false, 35, (.aload_n 2), 1, 0, 0, []),
  (false, 36, .areturn, 1, 0, 0, [])]
def kX0_turned : List ab_E := [
  (false, 0, (.aload_n 0), 1, 0, 0, []),
  (false, 1, (.invokevirtual 55), 3, 87, 1, [(9, 0)]),
  (false, 4, (.istore_n 1), 1, 0, 0, []),
  (false, 5, (.iload_n 1), 1, 0, 0, []),
  (false, 6, (.anewarray 56), 3, 4, 0, []),
  (false, 9, (.astore_n 2), 1, 0, 0, []),
  (false, 10, (.iconst 0), 1, 0, 0, []),
  (false, 11, (.istore_n 3), 1, 0, 0, []),
  (true, 12, (.iload_n 3), 1, 0, 0, []),
  (false, 13, (.iload_n 1), 1, 0, 0, []),
  (false, 14, (.if_icmp .ge 29), 3, 43, 0, []),
  (false, 17, (.aload_n 2), 1, 0, 0, []),
  (false, 18, (.iload_n 3), 1, 0, 0, []),
  (false, 19, (.aload_n 0), 1, 0, 0, []),
  (false, 20, (.iload_n 3), 1, 0, 0, []),
  (false, 21, (.ifCond .ne 9), 3, 30, 0, []),
  (false, 24, (.iload_n 1), 1, 0, 0, []),
  (false, 25, (.iconst 1), 1, 0, 0, []),
  (false, 26, .isub, 1, 0, 0, []),
  (false, 27, (.goto 6), 3, 33, 0, []),
  (false, 30, (.iload_n 3), 1, 0, 0, []),
  (false, 31, (.iconst 1), 1, 0, 0, []),
  (false, 32, .isub, 1, 0, 0, []),
  (false, 33, (.invokevirtual 62), 3, 88, 2, [(9, 0)]),
  (false, 36, .aastore, 1, 0, 0, []),
  (false, 37, (.iinc 3 1), 3, 0, 0, []),
  (false, 40, (.goto (-28)), 3, 12, 0, []),
  (false, 43, (.aload_n 2), 1, 0, 0, []),
  (false, 44, .areturn, 1, 0, 0, [])]
def kX0_sorted : List ab_E := [
  (false, 0, (.aload_n 0), 1, 0, 0, []),
  (false, 1, (.invokevirtual 70), 3, 89, 1, [(9, 0)]),
  (false, 4, (.astore_n 1), 1, 0, 0, []),
  (false, 5, (.iconst 1), 1, 0, 0, []),
  (false, 6, (.istore_n 2), 1, 0, 0, []),
  (true, 7, (.iload_n 2), 1, 0, 0, []),
  (false, 8, (.aload_n 1), 1, 0, 0, []),
  (false, 9, .arraylength, 1, 0, 0, []),
  (false, 10, (.if_icmp .ge 56), 3, 66, 0, []),
  (false, 13, (.aload_n 1), 1, 0, 0, []),
  (false, 14, (.iload_n 2), 1, 0, 0, []),
  (false, 15, .aaload, 1, 0, 0, []),
  (false, 16, (.astore_n 3), 1, 0, 0, []),
  (false, 17, (.iload_n 2), 1, 0, 0, []),
  (false, 18, (.istore 4), 2, 0, 0, []),
  (true, 20, (.iload 4), 2, 0, 0, []),
  (false, 22, (.ifCond .le 33), 3, 55, 0, []),
  (false, 25, (.aload_n 3), 1, 0, 0, []),
  (false, 26, (.aload_n 1), 1, 0, 0, []),
  (false, 27, (.iload 4), 2, 0, 0, []),
  (false, 29, (.iconst 1), 1, 0, 0, []),
  (false, 30, .isub, 1, 0, 0, []),
  (false, 31, .aaload, 1, 0, 0, []),
  (false, 32, (.iconst 0), 1, 0, 0, []),
  (false, 33, (.invokestatic 125), 3, 94, 3, []),
  (false, 36, (.ifCond .ge 19), 3, 55, 0, []),
  (false, 39, (.aload_n 1), 1, 0, 0, []),
  (false, 40, (.iload 4), 2, 0, 0, []),
  (false, 42, (.aload_n 1), 1, 0, 0, []),
  (false, 43, (.iload 4), 2, 0, 0, []),
  (false, 45, (.iconst 1), 1, 0, 0, []),
  (false, 46, .isub, 1, 0, 0, []),
  (false, 47, .aaload, 1, 0, 0, []),
  (false, 48, .aastore, 1, 0, 0, []),
  (false, 49, (.iinc 4 (-1)), 3, 0, 0, []),
  (false, 52, (.goto (-32)), 3, 20, 0, []),
  (false, 55, (.aload_n 1), 1, 0, 0, []),
  (false, 56, (.iload 4), 2, 0, 0, []),
  (false, 58, (.aload_n 3), 1, 0, 0, []),
  (false, 59, .aastore, 1, 0, 0, []),
  (false, 60, (.iinc 2 1), 3, 0, 0, []),
  (false, 63, (.goto (-56)), 3, 7, 0, []),
  (false, 66, (.aload_n 1), 1, 0, 0, []),
  (false, 67, .areturn, 1, 0, 0, [])]
def kX1_init : List ab_E := [
  (false, 0, (.aload_n 0), 1, 0, 0, []),
  (false, 1, (.invokespecial 3), 3, 999, 0, []),
  (false, 4, (.aload_n 0), 1, 0, 0, []),
  (false, 5, (.sipush 200), 3, 0, 0, []),
  (false, 8, (.newarray .int), 2, 0, 0, []),
  (false, 10, (.putfield 9), 3, 1, 0, [(2, 0)]),
  (false, 13, (.aload_n 0), 1, 0, 0, []),
  (false, 14, (.iconst 0), 1, 0, 0, []),
  (false, 15, (.putfield 15), 3, 1, 1, [(0, 0)]),
  (false, 18, .return_, 1, 0, 0, [])]
def kX1_find : List ab_E := [
  (false, 0, (.aload_n 0), 1, 0, 0, []),
  (false, 1, (.iconst 0), 1, 0, 0, []),
  (false, 2, (.putfield 15), 3, 1, 1, [(0, 0)]),
  (false, 5, (.aload_n 0), 1, 0, 0, []),
  (false, 6, (.aload_n 1), 1, 0, 0, []),
  (false, 7, (.aload_n 2), 1, 0, 0, []),
  (false, 8, (.iconst 0), 1, 0, 0, []),
  (false, 9, (.iconst 0), 1, 0, 0, []),
  (false, 10, (.invokevirtual 19), 3, 16, 5, [(1, 0)]),
  (false, 13, .return_, 1, 0, 0, [])]
def kX1_findWithin : List ab_E := [
  (false, 0, (.aload_n 1), 1, 0, 0, []),
  (false, 1, (.ifnull 22), 3, 23, 0, []),
  (false, 4, (.aload_n 2), 1, 0, 0, []),
  (false, 5, (.ifnull 18), 3, 23, 0, []),
  (false, 8, (.iload 4), 2, 0, 0, []),
  (false, 10, (.bipush 40), 2, 0, 0, []),
  (false, 12, (.if_icmp .gt 11), 3, 23, 0, []),
  (false, 15, (.aload_n 1), 1, 0, 0, []),
  (false, 16, (.aload_n 2), 1, 0, 0, []),
  (false, 17, (.invokestatic 23), 3, 93, 2, []),
  (false, 20, (.ifCond .eq 4), 3, 24, 0, []),
  (false, 23, .return_, 1, 0, 0, []),
  (false, 24, (.aload_n 1), 1, 0, 0, []),
  (false, 25, (.aload_n 2), 1, 0, 0, []),
  (false, 26, (.invokevirtual 29), 3, 92, 2, [(9, 0)]),
  (false, 29, (.ifCond .ne 9), 3, 38, 0, []),
  (false, 32, (.aload_n 0), 1, 0, 0, []),
  (false, 33, (.iload_n 3), 1, 0, 0, []),
  (false, 34, (.invokevirtual 33), 3, 17, 2, [(1, 0)]),
  (false, 37, .return_, 1, 0, 0, []),
  (false, 38, (.iload_n 3), 1, 0, 0, []),
  (false, 39, (.iconst 1), 1, 0, 0, []),
  (false, 40, .iadd, 1, 0, 0, []),
  (false, 41, (.istore 5), 2, 0, 0, []),
  (false, 43, (.iconst 0), 1, 0, 0, []),
  (false, 44, (.istore 6), 2, 0, 0, []),
  (true, 46, (.iload 6), 2, 0, 0, []),
  (false, 48, (.aload_n 1), 1, 0, 0, []),
  (false, 49, (.invokevirtual 37), 3, 87, 1, [(9, 0)]),
  (false, 52, (.if_icmp .ge 54), 3, 106, 0, []),
  (false, 55, (.aload_n 1), 1, 0, 0, []),
  (false, 56, (.iload 6), 2, 0, 0, []),
  (false, 58, (.invokevirtual 40), 3, 88, 2, [(9, 0)]),
  (false, 61, (.astore 7), 2, 0, 0, []),
  (false, 63, (.aload_n 0), 1, 0, 0, []),
  (false, 64, (.aload 7), 2, 0, 0, []),
  (false, 66, (.aload_n 2), 1, 0, 0, []),
  (false, 67, (.iload 6), 2, 0, 0, []),
  (false, 69, (.invokevirtual 40), 3, 88, 2, [(9, 0)]),
  (false, 72, (.iload 5), 2, 0, 0, []),
  (false, 74, (.iload 4), 2, 0, 0, []),
  (false, 76, (.iconst 1), 1, 0, 0, []),
  (false, 77, .iadd, 1, 0, 0, []),
  (false, 78, (.invokevirtual 19), 3, 16, 5, [(1, 0)]),
  (false, 81, (.iload 5), 2, 0, 0, []),
  (false, 83, (.aload 7), 2, 0, 0, []),
  (false, 85, (.ifnonnull 7), 3, 92, 0, []),
  (false, 88, (.iconst 0), 1, 0, 0, []),
  (false, 89, (.goto 8), 3, 97, 0, []),
  (false, 92, (.aload 7), 2, 0, 0, []),
  (false, 94, (.getfield 44), 3, 9, 2, [(0, 0)]),
  (false, 97, .iadd, 1, 0, 0, []),
  (false, 98, (.istore 5), 2, 0, 0, []),
  (false, 100, (.iinc 6 1), 3, 0, 0, []),
  (false, 103, (.goto (-57)), 3, 46, 0, []),
  (false, 106, .return_, 1, 0, 0, [])]
def kX1_add : List ab_E := [
  (false, 0, (.aload_n 0), 1, 0, 0, []),
  (false, 1, (.getfield 15), 3, 1, 1, [(0, 0)]),
  (false, 4, (.sipush 200), 3, 0, 0, []),
  (false, 7, (.if_icmp .ge 23), 3, 30, 0, []),
  (false, 10, (.aload_n 0), 1, 0, 0, []),
  (false, 11, (.getfield 9), 3, 1, 0, [(2, 0)]),
  (false, 14, (.aload_n 0), 1, 0, 0, []),
  (false, 15, (.getfield 15), 3, 1, 1, [(0, 0)]),
  (false, 18, (.iload_n 1), 1, 0, 0, []),
  (false, 19, .iastore, 1, 0, 0, []),
  (false, 20, (.aload_n 0), 1, 0, 0, []),
  (false, 21, .dup, 1, 0, 0, []),
  (false, 22, (.getfield 15), 3, 1, 1, [(0, 0)]),
  (false, 25, (.iconst 1), 1, 0, 0, []),
  (false, 26, .iadd, 1, 0, 0, []),
  (false, 27, (.putfield 15), 3, 1, 1, [(0, 0)]),
  (false, 30, .return_, 1, 0, 0, [])]
def kX1_size : List ab_E := [
  (false, 0, (.aload_n 0), 1, 0, 0, []),
  (false, 1, (.getfield 15), 3, 1, 1, [(0, 0)]),
  (false, 4, .ireturn, 1, 0, 0, [])]
def kX1_place : List ab_E := [
  (false, 0, (.iload_n 1), 1, 0, 0, []),
  (false, 1, (.ifCond .lt 20), 3, 21, 0, []),
  (false, 4, (.iload_n 1), 1, 0, 0, []),
  (false, 5, (.aload_n 0), 1, 0, 0, []),
  (false, 6, (.getfield 15), 3, 1, 1, [(0, 0)]),
  (false, 9, (.if_icmp .ge 12), 3, 21, 0, []),
  (false, 12, (.aload_n 0), 1, 0, 0, []),
  (false, 13, (.getfield 9), 3, 1, 0, [(2, 0)]),
  (false, 16, (.iload_n 1), 1, 0, 0, []),
  (false, 17, .iaload, 1, 0, 0, []),
  (false, 18, (.goto 4), 3, 22, 0, []),
  (false, 21, (.iconst (-1)), 1, 0, 0, []),
  (false, 22, .ireturn, 1, 0, 0, [])]
def kX2_init : List ab_E := [
  (false, 0, (.aload_n 0), 1, 0, 0, []),
  (false, 1, (.invokespecial 3), 3, 999, 0, []),
  (false, 4, (.aload_n 0), 1, 0, 0, []),
  (false, 5, (.sipush 200), 3, 0, 0, []),
  (false, 8, (.anewarray 9), 3, 4, 0, []),
  (false, 11, (.putfield 11), 3, 2, 0, [(2, 0)]),
  (false, 14, (.aload_n 0), 1, 0, 0, []),
  (false, 15, (.sipush 200), 3, 0, 0, []),
  (false, 18, (.newarray .int), 2, 0, 0, []),
  (false, 20, (.putfield 17), 3, 2, 1, [(2, 0)]),
  (false, 23, (.aload_n 0), 1, 0, 0, []),
  (false, 24, (.iconst 0), 1, 0, 0, []),
  (false, 25, (.putfield 21), 3, 2, 2, [(0, 0)]),
  (false, 28, .return_, 1, 0, 0, [])]
def kX2_find : List ab_E := [
  (false, 0, (.aload_n 0), 1, 0, 0, []),
  (false, 1, (.iconst 0), 1, 0, 0, []),
  (false, 2, (.putfield 21), 3, 2, 2, [(0, 0)]),
  (false, 5, (.aload_n 0), 1, 0, 0, []),
  (false, 6, (.aload_n 1), 1, 0, 0, []),
  (false, 7, (.aload_n 2), 1, 0, 0, []),
  (false, 8, (.iconst 0), 1, 0, 0, []),
  (false, 9, (.iconst 0), 1, 0, 0, []),
  (false, 10, (.invokevirtual 25), 3, 22, 5, [(2, 0)]),
  (false, 13, .return_, 1, 0, 0, [])]
def kX2_findWithin : List ab_E := [
  (false, 0, (.aload_n 1), 1, 0, 0, []),
  (false, 1, (.ifnull 10), 3, 11, 0, []),
  (false, 4, (.iload 4), 2, 0, 0, []),
  (false, 6, (.bipush 40), 2, 0, 0, []),
  (false, 8, (.if_icmp .le 4), 3, 12, 0, []),
  (false, 11, .return_, 1, 0, 0, []),
  (false, 12, (.iload_n 3), 1, 0, 0, []),
  (false, 13, (.aload_n 2), 1, 0, 0, []),
  (false, 14, (.invokevirtual 29), 3, 46, 1, [(4, 0)]),
  (false, 17, (.if_icmp .lt 9), 3, 26, 0, []),
  (false, 20, (.aload_n 0), 1, 0, 0, []),
  (false, 21, (.aload_n 1), 1, 0, 0, []),
  (false, 22, (.invokevirtual 34), 3, 23, 2, [(2, 0)]),
  (false, 25, .return_, 1, 0, 0, []),
  (false, 26, (.aload_n 2), 1, 0, 0, []),
  (false, 27, (.iload_n 3), 1, 0, 0, []),
  (false, 28, (.aload_n 1), 1, 0, 0, []),
  (false, 29, (.invokevirtual 38), 3, 48, 3, [(4, 0)]),
  (false, 32, (.ifCond .eq 17), 3, 49, 0, []),
  (false, 35, (.aload_n 0), 1, 0, 0, []),
  (false, 36, (.aload_n 1), 1, 0, 0, []),
  (false, 37, (.aload_n 2), 1, 0, 0, []),
  (false, 38, (.iload_n 3), 1, 0, 0, []),
  (false, 39, (.iconst 1), 1, 0, 0, []),
  (false, 40, .iadd, 1, 0, 0, []),
  (false, 41, (.iload 4), 2, 0, 0, []),
  (false, 43, (.iconst 1), 1, 0, 0, []),
  (false, 44, .iadd, 1, 0, 0, []),
  (false, 45, (.invokevirtual 25), 3, 22, 5, [(2, 0)]),
  (false, 48, .return_, 1, 0, 0, []),
  (false, 49, (.iconst 0), 1, 0, 0, []),
  (false, 50, (.istore 5), 2, 0, 0, []),
  (true, 52, (.iload 5), 2, 0, 0, []),
  (false, 54, (.aload_n 1), 1, 0, 0, []),
  (false, 55, (.invokevirtual 42), 3, 87, 1, [(9, 0)]),
  (false, 58, (.if_icmp .ge 40), 3, 98, 0, []),
  (false, 61, (.aload_n 2), 1, 0, 0, []),
  (false, 62, (.iload_n 3), 1, 0, 0, []),
  (false, 63, (.aload_n 1), 1, 0, 0, []),
  (false, 64, (.iload 5), 2, 0, 0, []),
  (false, 66, (.invokevirtual 43), 3, 49, 4, [(4, 0)]),
  (false, 69, (.ifCond .eq 23), 3, 92, 0, []),
  (false, 72, (.aload_n 0), 1, 0, 0, []),
  (false, 73, (.aload_n 1), 1, 0, 0, []),
  (false, 74, (.iload 5), 2, 0, 0, []),
  (false, 76, (.invokevirtual 47), 3, 88, 2, [(9, 0)]),
  (false, 79, (.aload_n 2), 1, 0, 0, []),
  (false, 80, (.aload_n 2), 1, 0, 0, []),
  (false, 81, (.iload_n 3), 1, 0, 0, []),
  (false, 82, (.invokevirtual 51), 3, 50, 2, [(4, 0)]),
  (false, 85, (.iload 4), 2, 0, 0, []),
  (false, 87, (.iconst 1), 1, 0, 0, []),
  (false, 88, .iadd, 1, 0, 0, []),
  (false, 89, (.invokevirtual 25), 3, 22, 5, [(2, 0)]),
  (false, 92, (.iinc 5 1), 3, 0, 0, []),
  (false, 95, (.goto (-43)), 3, 52, 0, []),
  (false, 98, .return_, 1, 0, 0, [])]
def kX2_add : List ab_E := [
  (false, 0, (.aload_n 0), 1, 0, 0, []),
  (false, 1, (.getfield 21), 3, 2, 2, [(0, 0)]),
  (false, 4, (.sipush 200), 3, 0, 0, []),
  (false, 7, (.if_icmp .ge 23), 3, 30, 0, []),
  (false, 10, (.aload_n 0), 1, 0, 0, []),
  (false, 11, (.getfield 11), 3, 2, 0, [(2, 0)]),
  (false, 14, (.aload_n 0), 1, 0, 0, []),
  (false, 15, (.getfield 21), 3, 2, 2, [(0, 0)]),
  (false, 18, (.aload_n 1), 1, 0, 0, []),
  (false, 19, .aastore, 1, 0, 0, []),
  (false, 20, (.aload_n 0), 1, 0, 0, []),
  (false, 21, .dup, 1, 0, 0, []),
  (false, 22, (.getfield 21), 3, 2, 2, [(0, 0)]),
  (false, 25, (.iconst 1), 1, 0, 0, []),
  (false, 26, .iadd, 1, 0, 0, []),
  (false, 27, (.putfield 21), 3, 2, 2, [(0, 0)]),
  (false, 30, .return_, 1, 0, 0, [])]
def kX2_size : List ab_E := [
  (false, 0, (.aload_n 0), 1, 0, 0, []),
  (false, 1, (.getfield 21), 3, 2, 2, [(0, 0)]),
  (false, 4, .ireturn, 1, 0, 0, [])]
def kX2_isEmpty : List ab_E := [
  (false, 0, (.aload_n 0), 1, 0, 0, []),
  (false, 1, (.getfield 21), 3, 2, 2, [(0, 0)]),
  (false, 4, (.ifCond .ne 7), 3, 11, 0, []),
  (false, 7, (.iconst 1), 1, 0, 0, []),
  (false, 8, (.goto 4), 3, 12, 0, []),
  (false, 11, (.iconst 0), 1, 0, 0, []),
  (false, 12, .ireturn, 1, 1, 0, [])]
def kX2_at : List ab_E := [
  (false, 0, (.iload_n 1), 1, 0, 0, []),
  (false, 1, (.ifCond .lt 20), 3, 21, 0, []),
  (false, 4, (.iload_n 1), 1, 0, 0, []),
  (false, 5, (.aload_n 0), 1, 0, 0, []),
  (false, 6, (.getfield 21), 3, 2, 2, [(0, 0)]),
  (false, 9, (.if_icmp .ge 12), 3, 21, 0, []),
  (false, 12, (.aload_n 0), 1, 0, 0, []),
  (false, 13, (.getfield 11), 3, 2, 0, [(2, 0)]),
  (false, 16, (.iload_n 1), 1, 0, 0, []),
  (false, 17, .aaload, 1, 0, 0, []),
  (false, 18, (.goto 4), 3, 22, 0, []),
  (false, 21, .aconst_null, 1, 0, 0, []),
  (false, 22, .areturn, 1, 0, 0, [])]
def kX2_sum : List ab_E := [
  (false, 0, (.lconst 0), 1, 0, 0, []),
  (false, 1, (.lstore_n 1), 1, 0, 0, []),
  (false, 2, (.iconst 0), 1, 0, 0, []),
  (false, 3, (.istore_n 3), 1, 0, 0, []),
  (true, 4, (.iload_n 3), 1, 0, 0, []),
  (false, 5, (.aload_n 0), 1, 0, 0, []),
  (false, 6, (.getfield 21), 3, 2, 2, [(0, 0)]),
  (false, 9, (.if_icmp .ge 22), 3, 31, 0, []),
  (false, 12, (.lload_n 1), 1, 0, 0, []),
  (false, 13, (.aload_n 0), 1, 0, 0, []),
  (false, 14, (.getfield 11), 3, 2, 0, [(2, 0)]),
  (false, 17, (.iload_n 3), 1, 0, 0, []),
  (false, 18, .aaload, 1, 0, 0, []),
  (false, 19, (.iconst 0), 1, 0, 0, []),
  (false, 20, (.invokestatic 55), 3, 28, 2, []),
  (false, 23, .ladd, 1, 0, 0, []),
  (false, 24, (.lstore_n 1), 1, 0, 0, []),
  (false, 25, (.iinc 3 1), 3, 0, 0, []),
  (false, 28, (.goto (-24)), 3, 4, 0, []),
  (false, 31, (.lload_n 1), 1, 0, 0, []),
  (false, 32, .lreturn, 1, 0, 0, [])]
def kX2_numbersWithin : List ab_E := [
  (false, 0, (.aload_n 0), 1, 0, 0, []),
  (false, 1, (.ifnull 9), 3, 10, 0, []),
  (false, 4, (.iload_n 1), 1, 0, 0, []),
  (false, 5, (.bipush 40), 2, 0, 0, []),
  (false, 7, (.if_icmp .le 5), 3, 12, 0, []),
  (false, 10, (.lconst 0), 1, 0, 0, []),
  (false, 11, .lreturn, 1, 0, 0, []),
  (false, 12, (.aload_n 0), 1, 0, 0, []),
  (false, 13, (.getfield 59), 3, 9, 0, [(0, 0)]),
  (false, 16, (.ifCond .ne 11), 3, 27, 0, []),
  (false, 19, (.aload_n 0), 1, 0, 0, []),
  (false, 20, (.getfield 62), 3, 9, 1, [(0, 0)]),
  (false, 23, .i2l, 1, 0, 0, []),
  (false, 24, (.goto 4), 3, 28, 0, []),
  (false, 27, (.lconst 0), 1, 0, 0, []),
  (false, 28, (.lstore_n 2), 1, 0, 0, []),
  (false, 29, (.iconst 0), 1, 0, 0, []),
  (false, 30, (.istore 4), 2, 0, 0, []),
  (true, 32, (.iload 4), 2, 0, 0, []),
  (false, 34, (.aload_n 0), 1, 0, 0, []),
  (false, 35, (.invokevirtual 42), 3, 87, 1, [(9, 0)]),
  (false, 38, (.if_icmp .ge 24), 3, 62, 0, []),
  (false, 41, (.lload_n 2), 1, 0, 0, []),
  (false, 42, (.aload_n 0), 1, 0, 0, []),
  (false, 43, (.iload 4), 2, 0, 0, []),
  (false, 45, (.invokevirtual 47), 3, 88, 2, [(9, 0)]),
  (false, 48, (.iload_n 1), 1, 0, 0, []),
  (false, 49, (.iconst 1), 1, 0, 0, []),
  (false, 50, .iadd, 1, 0, 0, []),
  (false, 51, (.invokestatic 55), 3, 28, 2, []),
  (false, 54, .ladd, 1, 0, 0, []),
  (false, 55, (.lstore_n 2), 1, 0, 0, []),
  (false, 56, (.iinc 4 1), 3, 0, 0, []),
  (false, 59, (.goto (-27)), 3, 32, 0, []),
  (false, 62, (.lload_n 2), 1, 0, 0, []),
  (false, 63, .lreturn, 1, 0, 0, [])]
def kX2_greatest : List ab_E := [
  (false, 0, (.iconst 0), 1, 0, 0, []),
  (false, 1, (.istore_n 1), 1, 0, 0, []),
  (false, 2, (.iconst 1), 1, 0, 0, []),
  (false, 3, (.istore_n 2), 1, 0, 0, []),
  (true, 4, (.iload_n 2), 1, 0, 0, []),
  (false, 5, (.aload_n 0), 1, 0, 0, []),
  (false, 6, (.getfield 21), 3, 2, 2, [(0, 0)]),
  (false, 9, (.if_icmp .ge 34), 3, 43, 0, []),
  (false, 12, (.aload_n 0), 1, 0, 0, []),
  (false, 13, (.getfield 11), 3, 2, 0, [(2, 0)]),
  (false, 16, (.iload_n 2), 1, 0, 0, []),
  (false, 17, .aaload, 1, 0, 0, []),
  (false, 18, (.aload_n 0), 1, 0, 0, []),
  (false, 19, (.getfield 11), 3, 2, 0, [(2, 0)]),
  (false, 22, (.iload_n 1), 1, 0, 0, []),
  (false, 23, .aaload, 1, 0, 0, []),
  (false, 24, (.iconst 0), 1, 0, 0, []),
  (false, 25, (.invokestatic 65), 3, 94, 3, []),
  (false, 28, (.ifCond .le 7), 3, 35, 0, []),
  (false, 31, (.iload_n 2), 1, 0, 0, []),
  (false, 32, (.goto 4), 3, 36, 0, []),
  (false, 35, (.iload_n 1), 1, 0, 0, []),
  (false, 36, (.istore_n 1), 1, 0, 0, []),
  (false, 37, (.iinc 2 1), 3, 0, 0, []),
  (false, 40, (.goto (-36)), 3, 4, 0, []),
  (false, 43, (.iload_n 1), 1, 0, 0, []),
  (false, 44, .ireturn, 1, 0, 0, [])]
def kX2_least : List ab_E := [
  (false, 0, (.iconst 0), 1, 0, 0, []),
  (false, 1, (.istore_n 1), 1, 0, 0, []),
  (false, 2, (.iconst 1), 1, 0, 0, []),
  (false, 3, (.istore_n 2), 1, 0, 0, []),
  (true, 4, (.iload_n 2), 1, 0, 0, []),
  (false, 5, (.aload_n 0), 1, 0, 0, []),
  (false, 6, (.getfield 21), 3, 2, 2, [(0, 0)]),
  (false, 9, (.if_icmp .ge 34), 3, 43, 0, []),
  (false, 12, (.aload_n 0), 1, 0, 0, []),
  (false, 13, (.getfield 11), 3, 2, 0, [(2, 0)]),
  (false, 16, (.iload_n 2), 1, 0, 0, []),
  (false, 17, .aaload, 1, 0, 0, []),
  (false, 18, (.aload_n 0), 1, 0, 0, []),
  (false, 19, (.getfield 11), 3, 2, 0, [(2, 0)]),
  (false, 22, (.iload_n 1), 1, 0, 0, []),
  (false, 23, .aaload, 1, 0, 0, []),
  (false, 24, (.iconst 0), 1, 0, 0, []),
  (false, 25, (.invokestatic 65), 3, 94, 3, []),
  (false, 28, (.ifCond .ge 7), 3, 35, 0, []),
  (false, 31, (.iload_n 2), 1, 0, 0, []),
  (false, 32, (.goto 4), 3, 36, 0, []),
  (false, 35, (.iload_n 1), 1, 0, 0, []),
  (false, 36, (.istore_n 1), 1, 0, 0, []),
  (false, 37, (.iinc 2 1), 3, 0, 0, []),
  (false, 40, (.goto (-36)), 3, 4, 0, []),
  (false, 43, (.iload_n 1), 1, 0, 0, []),
  (false, 44, .ireturn, 1, 0, 0, [])]
def kX2_unlike : List ab_E := [
  (false, 0, (.iconst 0), 1, 0, 0, []),
  (false, 1, (.istore_n 1), 1, 0, 0, []),
  (false, 2, (.iconst 0), 1, 0, 0, []),
  (false, 3, (.istore_n 2), 1, 0, 0, []),
  (true, 4, (.iload_n 2), 1, 0, 0, []),
  (false, 5, (.aload_n 0), 1, 0, 0, []),
  (false, 6, (.getfield 21), 3, 2, 2, [(0, 0)]),
  (false, 9, (.if_icmp .ge 25), 3, 34, 0, []),
  (false, 12, (.iload_n 1), 1, 0, 0, []),
  (false, 13, (.aload_n 0), 1, 0, 0, []),
  (false, 14, (.iload_n 2), 1, 0, 0, []),
  (false, 15, (.invokevirtual 69), 3, 32, 2, [(2, 0)]),
  (false, 18, (.ifCond .eq 7), 3, 25, 0, []),
  (false, 21, (.iconst 0), 1, 0, 0, []),
  (false, 22, (.goto 4), 3, 26, 0, []),
  (false, 25, (.iconst 1), 1, 0, 0, []),
  (false, 26, .iadd, 1, 0, 0, []),
  (false, 27, (.istore_n 1), 1, 0, 0, []),
  (false, 28, (.iinc 2 1), 3, 0, 0, []),
  (false, 31, (.goto (-27)), 3, 4, 0, []),
  (false, 34, (.iload_n 1), 1, 0, 0, []),
  (false, 35, .ireturn, 1, 0, 0, [])]
def kX2_isLikeOneAhead : List ab_E := [
  (false, 0, (.iconst 0), 1, 0, 0, []),
  (false, 1, (.istore_n 2), 1, 0, 0, []),
  (true, 2, (.iload_n 2), 1, 0, 0, []),
  (false, 3, (.iload_n 1), 1, 0, 0, []),
  (false, 4, (.if_icmp .ge 29), 3, 33, 0, []),
  (false, 7, (.aload_n 0), 1, 0, 0, []),
  (false, 8, (.getfield 11), 3, 2, 0, [(2, 0)]),
  (false, 11, (.iload_n 2), 1, 0, 0, []),
  (false, 12, .aaload, 1, 0, 0, []),
  (false, 13, (.aload_n 0), 1, 0, 0, []),
  (false, 14, (.getfield 11), 3, 2, 0, [(2, 0)]),
  (false, 17, (.iload_n 1), 1, 0, 0, []),
  (false, 18, .aaload, 1, 0, 0, []),
  (false, 19, (.invokestatic 73), 3, 93, 2, []),
  (false, 22, (.ifCond .eq 5), 3, 27, 0, []),
  (false, 25, (.iconst 1), 1, 0, 0, []),
  (false, 26, .ireturn, 1, 1, 0, []),
  (false, 27, (.iinc 2 1), 3, 0, 0, []),
  (false, 30, (.goto (-28)), 3, 2, 0, []),
  (false, 33, (.iconst 0), 1, 0, 0, []),
  (false, 34, .ireturn, 1, 1, 0, [])]
def kX2_height : List ab_E := [
  (false, 0, (.iconst 0), 1, 0, 0, []),
  (false, 1, (.istore_n 1), 1, 0, 0, []),
  (false, 2, (.iconst 0), 1, 0, 0, []),
  (false, 3, (.istore_n 2), 1, 0, 0, []),
  (true, 4, (.iload_n 2), 1, 0, 0, []),
  (false, 5, (.aload_n 0), 1, 0, 0, []),
  (false, 6, (.getfield 21), 3, 2, 2, [(0, 0)]),
  (false, 9, (.if_icmp .ge 23), 3, 32, 0, []),
  (false, 12, (.iload_n 1), 1, 0, 0, []),
  (false, 13, (.aload_n 0), 1, 0, 0, []),
  (false, 14, (.getfield 11), 3, 2, 0, [(2, 0)]),
  (false, 17, (.iload_n 2), 1, 0, 0, []),
  (false, 18, .aaload, 1, 0, 0, []),
  (false, 19, (.getfield 77), 3, 9, 3, [(0, 0)]),
  (false, 22, (.invokestatic 80), 3, 199, 2, []),
  (false, 25, (.istore_n 1), 1, 0, 0, []),
  (false, 26, (.iinc 2 1), 3, 0, 0, []),
  (false, 29, (.goto (-25)), 3, 4, 0, []),
  (false, 32, (.iload_n 1), 1, 0, 0, []),
  (false, 33, .ireturn, 1, 0, 0, [])]
def kX2_nodes : List ab_E := [
  (false, 0, (.iconst 0), 1, 0, 0, []),
  (false, 1, (.istore_n 1), 1, 0, 0, []),
  (false, 2, (.iconst 0), 1, 0, 0, []),
  (false, 3, (.istore_n 2), 1, 0, 0, []),
  (true, 4, (.iload_n 2), 1, 0, 0, []),
  (false, 5, (.aload_n 0), 1, 0, 0, []),
  (false, 6, (.getfield 21), 3, 2, 2, [(0, 0)]),
  (false, 9, (.if_icmp .ge 21), 3, 30, 0, []),
  (false, 12, (.iload_n 1), 1, 0, 0, []),
  (false, 13, (.aload_n 0), 1, 0, 0, []),
  (false, 14, (.getfield 11), 3, 2, 0, [(2, 0)]),
  (false, 17, (.iload_n 2), 1, 0, 0, []),
  (false, 18, .aaload, 1, 0, 0, []),
  (false, 19, (.getfield 86), 3, 9, 2, [(0, 0)]),
  (false, 22, .iadd, 1, 0, 0, []),
  (false, 23, (.istore_n 1), 1, 0, 0, []),
  (false, 24, (.iinc 2 1), 3, 0, 0, []),
  (false, 27, (.goto (-23)), 3, 4, 0, []),
  (false, 30, (.iload_n 1), 1, 0, 0, []),
  (false, 31, .ireturn, 1, 0, 0, [])]
def kX2_areAllAlike : List ab_E := [
  (false, 0, (.iconst 0), 1, 0, 0, []),
  (false, 1, (.istore_n 2), 1, 0, 0, []),
  (true, 2, (.iload_n 2), 1, 0, 0, []),
  (false, 3, (.aload_n 0), 1, 0, 0, []),
  (false, 4, (.getfield 21), 3, 2, 2, [(0, 0)]),
  (false, 7, (.if_icmp .ge 24), 3, 31, 0, []),
  (false, 10, (.aload_n 0), 1, 0, 0, []),
  (false, 11, (.getfield 11), 3, 2, 0, [(2, 0)]),
  (false, 14, (.iload_n 2), 1, 0, 0, []),
  (false, 15, .aaload, 1, 0, 0, []),
  (false, 16, (.aload_n 1), 1, 0, 0, []),
  (false, 17, (.invokestatic 73), 3, 93, 2, []),
  (false, 20, (.ifCond .ne 5), 3, 25, 0, []),
  (false, 23, (.iconst 0), 1, 0, 0, []),
  (false, 24, .ireturn, 1, 1, 0, []),
  (false, 25, (.iinc 2 1), 3, 0, 0, []),
  (false, 28, (.goto (-26)), 3, 2, 0, []),
  (false, 31, (.iconst 1), 1, 0, 0, []),
  (false, 32, .ireturn, 1, 1, 0, [])]
def kX2_sorted : List ab_E := [
  (false, 0, (.iconst 0), 1, 0, 0, []),
  (false, 1, (.istore_n 3), 1, 0, 0, []),
  (true, 2, (.iload_n 3), 1, 0, 0, []),
  (false, 3, (.aload_n 0), 1, 0, 0, []),
  (false, 4, (.getfield 21), 3, 2, 2, [(0, 0)]),
  (false, 7, (.if_icmp .ge 74), 3, 81, 0, []),
  (false, 10, (.iload_n 3), 1, 0, 0, []),
  (false, 11, (.istore 4), 2, 0, 0, []),
  (true, 13, (.iload 4), 2, 0, 0, []),
  (false, 15, (.ifCond .le 52), 3, 67, 0, []),
  (false, 18, (.aload_n 0), 1, 0, 0, []),
  (false, 19, (.getfield 11), 3, 2, 0, [(2, 0)]),
  (false, 22, (.iload_n 3), 1, 0, 0, []),
  (false, 23, .aaload, 1, 0, 0, []),
  (false, 24, (.aload_n 0), 1, 0, 0, []),
  (false, 25, (.getfield 11), 3, 2, 0, [(2, 0)]),
  (false, 28, (.aload_n 0), 1, 0, 0, []),
  (false, 29, (.getfield 17), 3, 2, 1, [(2, 0)]),
  (false, 32, (.iload 4), 2, 0, 0, []),
  (false, 34, (.iconst 1), 1, 0, 0, []),
  (false, 35, .isub, 1, 0, 0, []),
  (false, 36, .iaload, 1, 0, 0, []),
  (false, 37, .aaload, 1, 0, 0, []),
  (false, 38, (.iload_n 1), 1, 0, 0, []),
  (false, 39, (.invokestatic 89), 3, 37, 3, []),
  (false, 42, (.ifCond .eq 25), 3, 67, 0, []),
  (false, 45, (.aload_n 0), 1, 0, 0, []),
  (false, 46, (.getfield 17), 3, 2, 1, [(2, 0)]),
  (false, 49, (.iload 4), 2, 0, 0, []),
  (false, 51, (.aload_n 0), 1, 0, 0, []),
  (false, 52, (.getfield 17), 3, 2, 1, [(2, 0)]),
  (false, 55, (.iload 4), 2, 0, 0, []),
  (false, 57, (.iconst 1), 1, 0, 0, []),
  (false, 58, .isub, 1, 0, 0, []),
  (false, 59, .iaload, 1, 0, 0, []),
  (false, 60, .iastore, 1, 0, 0, []),
  (false, 61, (.iinc 4 (-1)), 3, 0, 0, []),
  (false, 64, (.goto (-51)), 3, 13, 0, []),
  (false, 67, (.aload_n 0), 1, 0, 0, []),
  (false, 68, (.getfield 17), 3, 2, 1, [(2, 0)]),
  (false, 71, (.iload 4), 2, 0, 0, []),
  (false, 73, (.iload_n 3), 1, 0, 0, []),
  (false, 74, .iastore, 1, 0, 0, []),
  (false, 75, (.iinc 3 1), 3, 0, 0, []),
  (false, 78, (.goto (-76)), 3, 2, 0, []),
  (false, 81, (.iload_n 2), 1, 0, 0, []),
  (false, 82, (.ifCond .lt 20), 3, 102, 0, []),
  (false, 85, (.iload_n 2), 1, 0, 0, []),
  (false, 86, (.aload_n 0), 1, 0, 0, []),
  (false, 87, (.getfield 21), 3, 2, 2, [(0, 0)]),
  (false, 90, (.if_icmp .ge 12), 3, 102, 0, []),
  (false, 93, (.aload_n 0), 1, 0, 0, []),
  (false, 94, (.getfield 17), 3, 2, 1, [(2, 0)]),
  (false, 97, (.iload_n 2), 1, 0, 0, []),
  (false, 98, .iaload, 1, 0, 0, []),
  (false, 99, (.goto 4), 3, 103, 0, []),
  (false, 102, (.iconst (-1)), 1, 0, 0, []),
  (false, 103, .ireturn, 1, 0, 0, [])]
def kX2_isAhead : List ab_E := [
  (false, 0, (.iload_n 2), 1, 0, 0, []),
  (false, 1, (.iconst 2), 1, 0, 0, []),
  (false, 2, (.if_icmp .ne 31), 3, 33, 0, []),
  (false, 5, (.aload_n 0), 1, 0, 0, []),
  (false, 6, (.getfield 77), 3, 9, 3, [(0, 0)]),
  (false, 9, (.aload_n 1), 1, 0, 0, []),
  (false, 10, (.getfield 77), 3, 9, 3, [(0, 0)]),
  (false, 13, (.if_icmp .eq 20), 3, 33, 0, []),
  (false, 16, (.aload_n 0), 1, 0, 0, []),
  (false, 17, (.getfield 77), 3, 9, 3, [(0, 0)]),
  (false, 20, (.aload_n 1), 1, 0, 0, []),
  (false, 21, (.getfield 77), 3, 9, 3, [(0, 0)]),
  (false, 24, (.if_icmp .le 7), 3, 31, 0, []),
  (false, 27, (.iconst 1), 1, 0, 0, []),
  (false, 28, (.goto 4), 3, 32, 0, []),
  (false, 31, (.iconst 0), 1, 0, 0, []),
  (false, 32, .ireturn, 1, 1, 0, []),
  (false, 33, (.iload_n 2), 1, 0, 0, []),
  (false, 34, (.ifCond .eq 31), 3, 65, 0, []),
  (false, 37, (.aload_n 0), 1, 0, 0, []),
  (false, 38, (.getfield 86), 3, 9, 2, [(0, 0)]),
  (false, 41, (.aload_n 1), 1, 0, 0, []),
  (false, 42, (.getfield 86), 3, 9, 2, [(0, 0)]),
  (false, 45, (.if_icmp .eq 20), 3, 65, 0, []),
  (false, 48, (.aload_n 0), 1, 0, 0, []),
  (false, 49, (.getfield 86), 3, 9, 2, [(0, 0)]),
  (false, 52, (.aload_n 1), 1, 0, 0, []),
  (false, 53, (.getfield 86), 3, 9, 2, [(0, 0)]),
  (false, 56, (.if_icmp .ge 7), 3, 63, 0, []),
  (false, 59, (.iconst 1), 1, 0, 0, []),
  (false, 60, (.goto 4), 3, 64, 0, []),
  (false, 63, (.iconst 0), 1, 0, 0, []),
  (false, 64, .ireturn, 1, 1, 0, []),
  (false, 65, (.iload_n 2), 1, 0, 0, []),
  (false, 66, (.iconst 2), 1, 0, 0, []),
  (false, 67, (.if_icmp .eq 16), 3, 83, 0, []),
  (false, 70, (.aload_n 0), 1, 0, 0, []),
  (false, 71, (.aload_n 1), 1, 0, 0, []),
  (false, 72, (.iconst 0), 1, 0, 0, []),
  (false, 73, (.invokestatic 65), 3, 94, 3, []),
  (false, 76, (.ifCond .ge 7), 3, 83, 0, []),
  (false, 79, (.iconst 1), 1, 0, 0, []),
  (false, 80, (.goto 4), 3, 84, 0, []),
  (false, 83, (.iconst 0), 1, 0, 0, []),
  (false, 84, .ireturn, 1, 1, 0, [])]
def kX3_init : List ab_E := [
  (false, 0, (.aload_n 0), 1, 0, 0, []),
  (false, 1, (.invokespecial 3), 3, 999, 0, []),
  (false, 4, (.aload_n 0), 1, 0, 0, []),
  (false, 5, (.bipush 13), 2, 0, 0, []),
  (false, 7, (.newarray .int), 2, 0, 0, []),
  (false, 9, (.putfield 9), 3, 3, 0, [(2, 0)]),
  (false, 12, (.aload_n 0), 1, 0, 0, []),
  (false, 13, (.bipush 13), 2, 0, 0, []),
  (false, 15, (.anewarray 15), 3, 4, 0, []),
  (false, 18, (.putfield 17), 3, 3, 1, [(2, 0)]),
  (false, 21, (.aload_n 0), 1, 0, 0, []),
  (false, 22, (.iconst 0), 1, 0, 0, []),
  (false, 23, (.putfield 21), 3, 3, 2, [(0, 0)]),
  (false, 26, .return_, 1, 0, 0, [])]
def kX3_add : List ab_E := [
  (false, 0, (.aload_n 0), 1, 0, 0, []),
  (false, 1, (.aload_n 0), 1, 0, 0, []),
  (false, 2, (.getfield 21), 3, 3, 2, [(0, 0)]),
  (false, 5, (.iload_n 1), 1, 0, 0, []),
  (false, 6, (.aload_n 2), 1, 0, 0, []),
  (false, 7, (.invokevirtual 25), 3, 44, 4, [(3, 0)]),
  (false, 10, .return_, 1, 0, 0, [])]
def kX3_hasKey : List ab_E := [
  (false, 0, (.aload_n 0), 1, 0, 0, []),
  (false, 1, (.iload_n 1), 1, 0, 0, []),
  (false, 2, (.invokevirtual 29), 3, 43, 2, [(3, 0)]),
  (false, 5, (.istore_n 2), 1, 0, 0, []),
  (false, 6, (.iload_n 2), 1, 0, 0, []),
  (false, 7, (.aload_n 0), 1, 0, 0, []),
  (false, 8, (.getfield 21), 3, 3, 2, [(0, 0)]),
  (false, 11, (.if_icmp .ge 17), 3, 28, 0, []),
  (false, 14, (.aload_n 0), 1, 0, 0, []),
  (false, 15, (.getfield 9), 3, 3, 0, [(2, 0)]),
  (false, 18, (.iload_n 2), 1, 0, 0, []),
  (false, 19, .iaload, 1, 0, 0, []),
  (false, 20, (.iload_n 1), 1, 0, 0, []),
  (false, 21, (.if_icmp .ne 7), 3, 28, 0, []),
  (false, 24, (.iconst 1), 1, 0, 0, []),
  (false, 25, (.goto 4), 3, 29, 0, []),
  (false, 28, (.iconst 0), 1, 0, 0, []),
  (false, 29, .ireturn, 1, 1, 0, [])]
def kX3_putByKey : List ab_E := [
  (false, 0, (.aload_n 0), 1, 0, 0, []),
  (false, 1, (.iload_n 1), 1, 0, 0, []),
  (false, 2, (.invokevirtual 29), 3, 43, 2, [(3, 0)]),
  (false, 5, (.istore_n 3), 1, 0, 0, []),
  (false, 6, (.iload_n 3), 1, 0, 0, []),
  (false, 7, (.aload_n 0), 1, 0, 0, []),
  (false, 8, (.getfield 21), 3, 3, 2, [(0, 0)]),
  (false, 11, (.if_icmp .ge 23), 3, 34, 0, []),
  (false, 14, (.aload_n 0), 1, 0, 0, []),
  (false, 15, (.getfield 9), 3, 3, 0, [(2, 0)]),
  (false, 18, (.iload_n 3), 1, 0, 0, []),
  (false, 19, .iaload, 1, 0, 0, []),
  (false, 20, (.iload_n 1), 1, 0, 0, []),
  (false, 21, (.if_icmp .ne 13), 3, 34, 0, []),
  (false, 24, (.aload_n 0), 1, 0, 0, []),
  (false, 25, (.getfield 17), 3, 3, 1, [(2, 0)]),
  (false, 28, (.iload_n 3), 1, 0, 0, []),
  (false, 29, (.aload_n 2), 1, 0, 0, []),
  (false, 30, .aastore, 1, 0, 0, []),
  (false, 31, (.goto 10), 3, 41, 0, []),
  (false, 34, (.aload_n 0), 1, 0, 0, []),
  (false, 35, (.iload_n 3), 1, 0, 0, []),
  (false, 36, (.iload_n 1), 1, 0, 0, []),
  (false, 37, (.aload_n 2), 1, 0, 0, []),
  (false, 38, (.invokevirtual 25), 3, 44, 4, [(3, 0)]),
  (false, 41, .return_, 1, 0, 0, [])]
def kX3_together : List ab_E := [
  (false, 0, (.aload_n 0), 1, 0, 0, []),
  (false, 1, (.getfield 21), 3, 3, 2, [(0, 0)]),
  (false, 4, (.anewarray 15), 3, 4, 0, []),
  (false, 7, (.astore_n 2), 1, 0, 0, []),
  (false, 8, (.iconst 0), 1, 0, 0, []),
  (false, 9, (.istore_n 3), 1, 0, 0, []),
  (true, 10, (.iload_n 3), 1, 0, 0, []),
  (false, 11, (.aload_n 0), 1, 0, 0, []),
  (false, 12, (.getfield 21), 3, 3, 2, [(0, 0)]),
  (false, 15, (.if_icmp .ge 18), 3, 33, 0, []),
  (false, 18, (.aload_n 2), 1, 0, 0, []),
  (false, 19, (.iload_n 3), 1, 0, 0, []),
  (false, 20, (.aload_n 0), 1, 0, 0, []),
  (false, 21, (.getfield 17), 3, 3, 1, [(2, 0)]),
  (false, 24, (.iload_n 3), 1, 0, 0, []),
  (false, 25, .aaload, 1, 0, 0, []),
  (false, 26, .aastore, 1, 0, 0, []),
  (false, 27, (.iinc 3 1), 3, 0, 0, []),
  (false, 30, (.goto (-20)), 3, 10, 0, []),
  (false, 33, (.iload_n 1), 1, 0, 0, []),
  (false, 34, (.iconst 3), 1, 0, 0, []),
  (false, 35, (.if_icmp .ne 10), 3, 45, 0, []),
  (false, 38, (.aload_n 0), 1, 0, 0, []),
  (false, 39, (.getfield 21), 3, 3, 2, [(0, 0)]),
  (false, 42, (.goto 4), 3, 46, 0, []),
  (false, 45, (.iconst 0), 1, 0, 0, []),
  (false, 46, (.newarray .int), 2, 0, 0, []),
  (false, 48, (.astore_n 3), 1, 0, 0, []),
  (false, 49, (.iconst 0), 1, 0, 0, []),
  (false, 50, (.istore 4), 2, 0, 0, []),
  (true, 52, (.iload 4), 2, 0, 0, []),
  (false, 54, (.aload_n 3), 1, 0, 0, []),
  (false, 55, .arraylength, 1, 0, 0, []),
  (false, 56, (.if_icmp .ge 20), 3, 76, 0, []),
  (false, 59, (.aload_n 3), 1, 0, 0, []),
  (false, 60, (.iload 4), 2, 0, 0, []),
  (false, 62, (.aload_n 0), 1, 0, 0, []),
  (false, 63, (.getfield 9), 3, 3, 0, [(2, 0)]),
  (false, 66, (.iload 4), 2, 0, 0, []),
  (false, 68, .iaload, 1, 0, 0, []),
  (false, 69, .iastore, 1, 0, 0, []),
  (false, 70, (.iinc 4 1), 3, 0, 0, []),
  (false, 73, (.goto (-21)), 3, 52, 0, []),
  (false, 76, (.new 15), 3, 9, 6, []),
  (false, 79, .dup, 1, 0, 0, []),
  (false, 80, (.iload_n 1), 1, 0, 0, []),
  (false, 81, (.iconst 0), 1, 0, 0, []),
  (false, 82, (.aload_n 3), 1, 0, 0, []),
  (false, 83, (.aload_n 2), 1, 0, 0, []),
  (false, 84, (.invokespecial 33), 3, 86, 5, []),
  (false, 87, .areturn, 1, 0, 0, [])]
def kX3_placeOf : List ab_E := [
  (false, 0, (.iconst 0), 1, 0, 0, []),
  (false, 1, (.istore_n 2), 1, 0, 0, []),
  (true, 2, (.iload_n 2), 1, 0, 0, []),
  (false, 3, (.aload_n 0), 1, 0, 0, []),
  (false, 4, (.getfield 21), 3, 3, 2, [(0, 0)]),
  (false, 7, (.if_icmp .ge 19), 3, 26, 0, []),
  (false, 10, (.aload_n 0), 1, 0, 0, []),
  (false, 11, (.getfield 9), 3, 3, 0, [(2, 0)]),
  (false, 14, (.iload_n 2), 1, 0, 0, []),
  (false, 15, .iaload, 1, 0, 0, []),
  (false, 16, (.iload_n 1), 1, 0, 0, []),
  (false, 17, (.if_icmp .ge 9), 3, 26, 0, []),
  (false, 20, (.iinc 2 1), 3, 0, 0, []),
  (false, 23, (.goto (-21)), 3, 2, 0, []),
  (false, 26, (.iload_n 2), 1, 0, 0, []),
  (false, 27, .ireturn, 1, 0, 0, [])]
def kX3_insert : List ab_E := [
  (false, 0, (.aload_n 0), 1, 0, 0, []),
  (false, 1, (.getfield 21), 3, 3, 2, [(0, 0)]),
  (false, 4, (.bipush 12), 2, 0, 0, []),
  (false, 6, (.if_icmp .gt 15), 3, 21, 0, []),
  (false, 9, (.iload_n 1), 1, 0, 0, []),
  (false, 10, (.ifCond .lt 11), 3, 21, 0, []),
  (false, 13, (.iload_n 1), 1, 0, 0, []),
  (false, 14, (.aload_n 0), 1, 0, 0, []),
  (false, 15, (.getfield 21), 3, 3, 2, [(0, 0)]),
  (false, 18, (.if_icmp .le 4), 3, 22, 0, []),
  (false, 21, .return_, 1, 0, 0, []),
  (false, 22, (.aload_n 0), 1, 0, 0, []),
  (false, 23, (.getfield 21), 3, 3, 2, [(0, 0)]),
  (false, 26, (.istore 4), 2, 0, 0, []),
  (true, 28, (.iload 4), 2, 0, 0, []),
  (false, 30, (.iload_n 1), 1, 0, 0, []),
  (false, 31, (.if_icmp .le 41), 3, 72, 0, []),
  (false, 34, (.aload_n 0), 1, 0, 0, []),
  (false, 35, (.getfield 9), 3, 3, 0, [(2, 0)]),
  (false, 38, (.iload 4), 2, 0, 0, []),
  (false, 40, (.aload_n 0), 1, 0, 0, []),
  (false, 41, (.getfield 9), 3, 3, 0, [(2, 0)]),
  (false, 44, (.iload 4), 2, 0, 0, []),
  (false, 46, (.iconst 1), 1, 0, 0, []),
  (false, 47, .isub, 1, 0, 0, []),
  (false, 48, .iaload, 1, 0, 0, []),
  (false, 49, .iastore, 1, 0, 0, []),
  (false, 50, (.aload_n 0), 1, 0, 0, []),
  (false, 51, (.getfield 17), 3, 3, 1, [(2, 0)]),
  (false, 54, (.iload 4), 2, 0, 0, []),
  (false, 56, (.aload_n 0), 1, 0, 0, []),
  (false, 57, (.getfield 17), 3, 3, 1, [(2, 0)]),
  (false, 60, (.iload 4), 2, 0, 0, []),
  (false, 62, (.iconst 1), 1, 0, 0, []),
  (false, 63, .isub, 1, 0, 0, []),
  (false, 64, .aaload, 1, 0, 0, []),
  (false, 65, .aastore, 1, 0, 0, []),
  (false, 66, (.iinc 4 (-1)), 3, 0, 0, []),
  (false, 69, (.goto (-41)), 3, 28, 0, []),
  (false, 72, (.aload_n 0), 1, 0, 0, []),
  (false, 73, (.getfield 9), 3, 3, 0, [(2, 0)]),
  (false, 76, (.iload_n 1), 1, 0, 0, []),
  (false, 77, (.iload_n 2), 1, 0, 0, []),
  (false, 78, .iastore, 1, 0, 0, []),
  (false, 79, (.aload_n 0), 1, 0, 0, []),
  (false, 80, (.getfield 17), 3, 3, 1, [(2, 0)]),
  (false, 83, (.iload_n 1), 1, 0, 0, []),
  (false, 84, (.aload_n 3), 1, 0, 0, []),
  (false, 85, .aastore, 1, 0, 0, []),
  (false, 86, (.aload_n 0), 1, 0, 0, []),
  (false, 87, .dup, 1, 0, 0, []),
  (false, 88, (.getfield 21), 3, 3, 2, [(0, 0)]),
  (false, 91, (.iconst 1), 1, 0, 0, []),
  (false, 92, .iadd, 1, 0, 0, []),
  (false, 93, (.putfield 21), 3, 3, 2, [(0, 0)]),
  (false, 96, .return_, 1, 0, 0, [])]
def kX4_init : List ab_E := [
  (false, 0, (.aload_n 0), 1, 0, 0, []),
  (false, 1, (.invokespecial 3), 3, 999, 0, []),
  (false, 4, (.aload_n 0), 1, 0, 0, []),
  (false, 5, (.aload_n 1), 1, 0, 0, []),
  (false, 6, (.putfield 9), 3, 4, 0, [(2, 0)]),
  (false, 9, (.aload_n 0), 1, 0, 0, []),
  (false, 10, (.aload_n 2), 1, 0, 0, []),
  (false, 11, (.putfield 15), 3, 4, 1, [(2, 0)]),
  (false, 14, .return_, 1, 0, 0, [])]
def kX4_size : List ab_E := [
  (false, 0, (.aload_n 0), 1, 0, 0, []),
  (false, 1, (.getfield 9), 3, 4, 0, [(2, 0)]),
  (false, 4, .arraylength, 1, 0, 0, []),
  (false, 5, (.aload_n 0), 1, 0, 0, []),
  (false, 6, (.getfield 15), 3, 4, 1, [(2, 0)]),
  (false, 9, .arraylength, 1, 0, 0, []),
  (false, 10, (.invokestatic 18), 3, 200, 2, []),
  (false, 13, .ireturn, 1, 0, 0, [])]
def kX4_goingOnBy : List ab_E := [
  (false, 0, (.aload_n 0), 1, 0, 0, []),
  (false, 1, (.invokevirtual 24), 3, 46, 1, [(4, 0)]),
  (false, 4, (.aload_n 1), 1, 0, 0, []),
  (false, 5, (.invokevirtual 24), 3, 46, 1, [(4, 0)]),
  (false, 8, .iadd, 1, 0, 0, []),
  (false, 9, (.istore_n 2), 1, 0, 0, []),
  (false, 10, (.iload_n 2), 1, 0, 0, []),
  (false, 11, (.newarray .int), 2, 0, 0, []),
  (false, 13, (.astore_n 3), 1, 0, 0, []),
  (false, 14, (.iload_n 2), 1, 0, 0, []),
  (false, 15, (.newarray .int), 2, 0, 0, []),
  (false, 17, (.astore 4), 2, 0, 0, []),
  (false, 19, (.iconst 0), 1, 0, 0, []),
  (false, 20, (.istore 5), 2, 0, 0, []),
  (true, 22, (.iload 5), 2, 0, 0, []),
  (false, 24, (.iload_n 2), 1, 0, 0, []),
  (false, 25, (.if_icmp .ge 76), 3, 101, 0, []),
  (false, 28, (.aload_n 3), 1, 0, 0, []),
  (false, 29, (.iload 5), 2, 0, 0, []),
  (false, 31, (.iload 5), 2, 0, 0, []),
  (false, 33, (.aload_n 0), 1, 0, 0, []),
  (false, 34, (.invokevirtual 24), 3, 46, 1, [(4, 0)]),
  (false, 37, (.if_icmp .ge 12), 3, 49, 0, []),
  (false, 40, (.aload_n 0), 1, 0, 0, []),
  (false, 41, (.iload 5), 2, 0, 0, []),
  (false, 43, (.invokevirtual 28), 3, 51, 2, [(4, 0)]),
  (false, 46, (.goto 14), 3, 60, 0, []),
  (false, 49, (.aload_n 1), 1, 0, 0, []),
  (false, 50, (.iload 5), 2, 0, 0, []),
  (false, 52, (.aload_n 0), 1, 0, 0, []),
  (false, 53, (.invokevirtual 24), 3, 46, 1, [(4, 0)]),
  (false, 56, .isub, 1, 0, 0, []),
  (false, 57, (.invokevirtual 28), 3, 51, 2, [(4, 0)]),
  (false, 60, .iastore, 1, 0, 0, []),
  (false, 61, (.aload 4), 2, 0, 0, []),
  (false, 63, (.iload 5), 2, 0, 0, []),
  (false, 65, (.iload 5), 2, 0, 0, []),
  (false, 67, (.aload_n 0), 1, 0, 0, []),
  (false, 68, (.invokevirtual 24), 3, 46, 1, [(4, 0)]),
  (false, 71, (.if_icmp .ge 12), 3, 83, 0, []),
  (false, 74, (.aload_n 0), 1, 0, 0, []),
  (false, 75, (.iload 5), 2, 0, 0, []),
  (false, 77, (.invokevirtual 32), 3, 52, 2, [(4, 0)]),
  (false, 80, (.goto 14), 3, 94, 0, []),
  (false, 83, (.aload_n 1), 1, 0, 0, []),
  (false, 84, (.iload 5), 2, 0, 0, []),
  (false, 86, (.aload_n 0), 1, 0, 0, []),
  (false, 87, (.invokevirtual 24), 3, 46, 1, [(4, 0)]),
  (false, 90, .isub, 1, 0, 0, []),
  (false, 91, (.invokevirtual 32), 3, 52, 2, [(4, 0)]),
  (false, 94, .iastore, 1, 0, 0, []),
  (false, 95, (.iinc 5 1), 3, 0, 0, []),
  (false, 98, (.goto (-76)), 3, 22, 0, []),
  (false, 101, (.new 10), 3, 4, 2, []),
  (false, 104, .dup, 1, 0, 0, []),
  (false, 105, (.aload_n 3), 1, 0, 0, []),
  (false, 106, (.aload 4), 2, 0, 0, []),
  (false, 108, (.invokespecial 35), 3, 45, 3, []),
  (false, 111, .areturn, 1, 0, 0, [])]
def kX4_keeps : List ab_E := [
  (false, 0, (.aload_n 0), 1, 0, 0, []),
  (false, 1, (.iload_n 1), 1, 0, 0, []),
  (false, 2, (.invokevirtual 28), 3, 51, 2, [(4, 0)]),
  (false, 5, (.lookupswitch 91 #[(37, 78), (60, 35), (61, 53)]), 35, 96, 0, [(37, 83), (60, 40), (61, 58)]),
  (false, 40, (.aload_n 2), 1, 0, 0, []),
  (false, 41, (.getfield 38), 3, 9, 2, [(0, 0)]),
  (false, 44, (.aload_n 0), 1, 0, 0, []),
  (false, 45, (.iload_n 1), 1, 0, 0, []),
  (false, 46, (.invokevirtual 32), 3, 52, 2, [(4, 0)]),
  (false, 49, (.if_icmp .gt 7), 3, 56, 0, []),
  (false, 52, (.iconst 1), 1, 0, 0, []),
  (false, 53, (.goto 4), 3, 57, 0, []),
  (false, 56, (.iconst 0), 1, 0, 0, []),
  (false, 57, .ireturn, 1, 1, 0, []),
  (false, 58, (.aload_n 2), 1, 0, 0, []),
  (false, 59, (.getfield 44), 3, 9, 0, [(0, 0)]),
  (false, 62, (.ifCond .ne 19), 3, 81, 0, []),
  (false, 65, (.aload_n 2), 1, 0, 0, []),
  (false, 66, (.getfield 47), 3, 9, 1, [(0, 0)]),
  (false, 69, (.aload_n 0), 1, 0, 0, []),
  (false, 70, (.iload_n 1), 1, 0, 0, []),
  (false, 71, (.invokevirtual 32), 3, 52, 2, [(4, 0)]),
  (false, 74, (.if_icmp .ne 7), 3, 81, 0, []),
  (false, 77, (.iconst 1), 1, 0, 0, []),
  (false, 78, (.goto 4), 3, 82, 0, []),
  (false, 81, (.iconst 0), 1, 0, 0, []),
  (false, 82, .ireturn, 1, 1, 0, []),
  (false, 83, (.aload_n 2), 1, 0, 0, []),
  (false, 84, (.getfield 44), 3, 9, 0, [(0, 0)]),
  (false, 87, (.ifCond .ne 7), 3, 94, 0, []),
  (false, 90, (.iconst 1), 1, 0, 0, []),
  (false, 91, (.goto 4), 3, 95, 0, []),
  (false, 94, (.iconst 0), 1, 0, 0, []),
  (false, 95, .ireturn, 1, 1, 0, []),
  (false, 96, (.iconst 0), 1, 0, 0, []),
  (false, 97, .ireturn, 1, 1, 0, [])]
def kX4_enters : List ab_E := [
  (false, 0, (.aload_n 0), 1, 0, 0, []),
  (false, 1, (.iload_n 1), 1, 0, 0, []),
  (false, 2, (.invokevirtual 28), 3, 51, 2, [(4, 0)]),
  (false, 5, (.lookupswitch 190 #[(35, 140), (36, 113), (37, 188), (42, 166), (46, 67), (47, 90), (126, 188)]), 67, 195, 0, [(35, 145), (36, 118), (37, 193), (42, 171), (46, 72), (47, 95), (126, 193)]),
  (false, 72, (.aload_n 2), 1, 0, 0, []),
  (false, 73, (.getfield 44), 3, 9, 0, [(0, 0)]),
  (false, 76, (.iconst 1), 1, 0, 0, []),
  (false, 77, (.if_icmp .ne 16), 3, 93, 0, []),
  (false, 80, (.iload_n 3), 1, 0, 0, []),
  (false, 81, (.aload_n 0), 1, 0, 0, []),
  (false, 82, (.iload_n 1), 1, 0, 0, []),
  (false, 83, (.invokevirtual 32), 3, 52, 2, [(4, 0)]),
  (false, 86, (.if_icmp .ne 7), 3, 93, 0, []),
  (false, 89, (.iconst 1), 1, 0, 0, []),
  (false, 90, (.goto 4), 3, 94, 0, []),
  (false, 93, (.iconst 0), 1, 0, 0, []),
  (false, 94, .ireturn, 1, 1, 0, []),
  (false, 95, (.aload_n 2), 1, 0, 0, []),
  (false, 96, (.getfield 44), 3, 9, 0, [(0, 0)]),
  (false, 99, (.iconst 2), 1, 0, 0, []),
  (false, 100, (.if_icmp .ne 16), 3, 116, 0, []),
  (false, 103, (.iload_n 3), 1, 0, 0, []),
  (false, 104, (.aload_n 0), 1, 0, 0, []),
  (false, 105, (.iload_n 1), 1, 0, 0, []),
  (false, 106, (.invokevirtual 32), 3, 52, 2, [(4, 0)]),
  (false, 109, (.if_icmp .ne 7), 3, 116, 0, []),
  (false, 112, (.iconst 1), 1, 0, 0, []),
  (false, 113, (.goto 4), 3, 117, 0, []),
  (false, 116, (.iconst 0), 1, 0, 0, []),
  (false, 117, .ireturn, 1, 1, 0, []),
  (false, 118, (.aload_n 2), 1, 0, 0, []),
  (false, 119, (.getfield 44), 3, 9, 0, [(0, 0)]),
  (false, 122, (.iconst 3), 1, 0, 0, []),
  (false, 123, (.if_icmp .ne 20), 3, 143, 0, []),
  (false, 126, (.aload_n 2), 1, 0, 0, []),
  (false, 127, (.iload_n 3), 1, 0, 0, []),
  (false, 128, (.invokevirtual 49), 3, 90, 2, [(9, 0)]),
  (false, 131, (.aload_n 0), 1, 0, 0, []),
  (false, 132, (.iload_n 1), 1, 0, 0, []),
  (false, 133, (.invokevirtual 32), 3, 52, 2, [(4, 0)]),
  (false, 136, (.if_icmp .ne 7), 3, 143, 0, []),
  (false, 139, (.iconst 1), 1, 0, 0, []),
  (false, 140, (.goto 4), 3, 144, 0, []),
  (false, 143, (.iconst 0), 1, 0, 0, []),
  (false, 144, .ireturn, 1, 1, 0, []),
  (false, 145, (.aload_n 2), 1, 0, 0, []),
  (false, 146, (.getfield 44), 3, 9, 0, [(0, 0)]),
  (false, 149, (.iconst 4), 1, 0, 0, []),
  (false, 150, (.if_icmp .ne 19), 3, 169, 0, []),
  (false, 153, (.aload_n 2), 1, 0, 0, []),
  (false, 154, (.getfield 47), 3, 9, 1, [(0, 0)]),
  (false, 157, (.aload_n 0), 1, 0, 0, []),
  (false, 158, (.iload_n 1), 1, 0, 0, []),
  (false, 159, (.invokevirtual 32), 3, 52, 2, [(4, 0)]),
  (false, 162, (.if_icmp .ne 7), 3, 169, 0, []),
  (false, 165, (.iconst 1), 1, 0, 0, []),
  (false, 166, (.goto 4), 3, 170, 0, []),
  (false, 169, (.iconst 0), 1, 0, 0, []),
  (false, 170, .ireturn, 1, 1, 0, []),
  (false, 171, (.aload_n 2), 1, 0, 0, []),
  (false, 172, (.getfield 44), 3, 9, 0, [(0, 0)]),
  (false, 175, (.iconst 2), 1, 0, 0, []),
  (false, 176, (.if_icmp .eq 11), 3, 187, 0, []),
  (false, 179, (.aload_n 2), 1, 0, 0, []),
  (false, 180, (.getfield 44), 3, 9, 0, [(0, 0)]),
  (false, 183, (.iconst 3), 1, 0, 0, []),
  (false, 184, (.if_icmp .ne 7), 3, 191, 0, []),
  (false, 187, (.iconst 1), 1, 0, 0, []),
  (false, 188, (.goto 4), 3, 192, 0, []),
  (false, 191, (.iconst 0), 1, 0, 0, []),
  (false, 192, .ireturn, 1, 1, 0, []),
  (false, 193, (.iconst 1), 1, 0, 0, []),
  (false, 194, .ireturn, 1, 1, 0, []),
  (false, 195, (.iconst 0), 1, 0, 0, []),
  (false, 196, .ireturn, 1, 1, 0, [])]
def kX4_stepWithin : List ab_E := [
  (false, 0, (.aload_n 0), 1, 0, 0, []),
  (false, 1, (.iload_n 1), 1, 0, 0, []),
  (false, 2, (.invokevirtual 28), 3, 51, 2, [(4, 0)]),
  (false, 5, (.bipush 37), 2, 0, 0, []),
  (false, 7, (.if_icmp .ne 7), 3, 14, 0, []),
  (false, 10, (.iload_n 1), 1, 0, 0, []),
  (false, 11, (.goto 6), 3, 17, 0, []),
  (false, 14, (.iload_n 1), 1, 0, 0, []),
  (false, 15, (.iconst 1), 1, 0, 0, []),
  (false, 16, .iadd, 1, 0, 0, []),
  (false, 17, .ireturn, 1, 0, 0, [])]
def kX4_sign : List ab_E := [
  (false, 0, (.iload_n 1), 1, 0, 0, []),
  (false, 1, (.ifCond .lt 21), 3, 22, 0, []),
  (false, 4, (.iload_n 1), 1, 0, 0, []),
  (false, 5, (.aload_n 0), 1, 0, 0, []),
  (false, 6, (.getfield 9), 3, 4, 0, [(2, 0)]),
  (false, 9, .arraylength, 1, 0, 0, []),
  (false, 10, (.if_icmp .ge 12), 3, 22, 0, []),
  (false, 13, (.aload_n 0), 1, 0, 0, []),
  (false, 14, (.getfield 9), 3, 4, 0, [(2, 0)]),
  (false, 17, (.iload_n 1), 1, 0, 0, []),
  (false, 18, .iaload, 1, 0, 0, []),
  (false, 19, (.goto 4), 3, 23, 0, []),
  (false, 22, (.iconst 0), 1, 0, 0, []),
  (false, 23, .ireturn, 1, 0, 0, [])]
def kX4_word : List ab_E := [
  (false, 0, (.iload_n 1), 1, 0, 0, []),
  (false, 1, (.ifCond .lt 21), 3, 22, 0, []),
  (false, 4, (.iload_n 1), 1, 0, 0, []),
  (false, 5, (.aload_n 0), 1, 0, 0, []),
  (false, 6, (.getfield 15), 3, 4, 1, [(2, 0)]),
  (false, 9, .arraylength, 1, 0, 0, []),
  (false, 10, (.if_icmp .ge 12), 3, 22, 0, []),
  (false, 13, (.aload_n 0), 1, 0, 0, []),
  (false, 14, (.getfield 15), 3, 4, 1, [(2, 0)]),
  (false, 17, (.iload_n 1), 1, 0, 0, []),
  (false, 18, .iaload, 1, 0, 0, []),
  (false, 19, (.goto 4), 3, 23, 0, []),
  (false, 22, (.iconst 0), 1, 0, 0, []),
  (false, 23, .ireturn, 1, 0, 0, [])]
def kX5_init : List ab_E := [
  (false, 0, (.aload_n 0), 1, 0, 0, []),
  (false, 1, (.invokespecial 3), 3, 999, 0, []),
  (false, 4, (.aload_n 0), 1, 0, 0, []),
  (false, 5, (.bipush 8), 2, 0, 0, []),
  (false, 7, (.newarray .int), 2, 0, 0, []),
  (false, 9, (.putfield 9), 3, 5, 1, [(2, 0)]),
  (false, 12, (.aload_n 0), 1, 0, 0, []),
  (false, 13, (.bipush 8), 2, 0, 0, []),
  (false, 15, (.newarray .int), 2, 0, 0, []),
  (false, 17, (.putfield 15), 3, 5, 2, [(2, 0)]),
  (false, 20, (.aload_n 0), 1, 0, 0, []),
  (false, 21, (.aload_n 1), 1, 0, 0, []),
  (false, 22, (.putfield 18), 3, 5, 0, [(2, 0)]),
  (false, 25, .return_, 1, 0, 0, [])]
def kX5_readWhole : List ab_E := [
  (false, 0, (.aload_n 0), 1, 0, 0, []),
  (false, 1, (.getfield 18), 3, 5, 0, [(2, 0)]),
  (false, 4, (.invokevirtual 22), 3, 73, 1, [(8, 0)]),
  (false, 7, (.iconst 0), 1, 0, 0, []),
  (false, 8, (.istore_n 1), 1, 0, 0, []),
  (true, 9, (.iload_n 1), 1, 0, 0, []),
  (false, 10, (.bipush 8), 2, 0, 0, []),
  (false, 12, (.if_icmp .ge 52), 3, 64, 0, []),
  (false, 15, (.aload_n 0), 1, 0, 0, []),
  (false, 16, (.getfield 18), 3, 5, 0, [(2, 0)]),
  (false, 19, (.invokevirtual 27), 3, 77, 1, [(8, 0)]),
  (false, 22, (.ifCond .ne 42), 3, 64, 0, []),
  (false, 25, (.aload_n 0), 1, 0, 0, []),
  (false, 26, (.getfield 18), 3, 5, 0, [(2, 0)]),
  (false, 29, (.invokevirtual 31), 3, 76, 1, [(8, 0)]),
  (false, 32, (.ifCond .ne 32), 3, 64, 0, []),
  (false, 35, (.aload_n 0), 1, 0, 0, []),
  (false, 36, (.getfield 9), 3, 5, 1, [(2, 0)]),
  (false, 39, (.iload_n 1), 1, 0, 0, []),
  (false, 40, (.aload_n 0), 1, 0, 0, []),
  (false, 41, (.getfield 18), 3, 5, 0, [(2, 0)]),
  (false, 44, (.invokevirtual 34), 3, 79, 1, [(8, 0)]),
  (false, 47, .iastore, 1, 0, 0, []),
  (false, 48, (.aload_n 0), 1, 0, 0, []),
  (false, 49, (.getfield 15), 3, 5, 2, [(2, 0)]),
  (false, 52, (.iload_n 1), 1, 0, 0, []),
  (false, 53, (.aload_n 0), 1, 0, 0, []),
  (false, 54, (.invokevirtual 38), 3, 55, 1, [(5, 0)]),
  (false, 57, .iastore, 1, 0, 0, []),
  (false, 58, (.iinc 1 1), 3, 0, 0, []),
  (false, 61, (.goto (-52)), 3, 9, 0, []),
  (false, 64, (.aload_n 0), 1, 0, 0, []),
  (false, 65, (.getfield 18), 3, 5, 0, [(2, 0)]),
  (false, 68, (.invokevirtual 27), 3, 77, 1, [(8, 0)]),
  (false, 71, (.ifCond .ne 17), 3, 88, 0, []),
  (false, 74, (.aload_n 0), 1, 0, 0, []),
  (false, 75, (.getfield 18), 3, 5, 0, [(2, 0)]),
  (false, 78, (.aload_n 0), 1, 0, 0, []),
  (false, 79, (.getfield 18), 3, 5, 0, [(2, 0)]),
  (false, 82, (.invokevirtual 41), 3, 74, 1, [(8, 0)]),
  (false, 85, (.invokevirtual 44), 3, 78, 2, [(8, 0)]),
  (false, 88, (.aload_n 0), 1, 0, 0, []),
  (false, 89, (.getfield 18), 3, 5, 0, [(2, 0)]),
  (false, 92, (.invokevirtual 31), 3, 76, 1, [(8, 0)]),
  (false, 95, (.ifCond .eq 7), 3, 102, 0, []),
  (false, 98, .aconst_null, 1, 0, 0, []),
  (false, 99, (.goto 26), 3, 125, 0, []),
  (false, 102, (.new 48), 3, 4, 2, []),
  (false, 105, .dup, 1, 0, 0, []),
  (false, 106, (.aload_n 0), 1, 0, 0, []),
  (false, 107, (.getfield 9), 3, 5, 1, [(2, 0)]),
  (false, 110, (.iload_n 1), 1, 0, 0, []),
  (false, 111, (.invokestatic 50), 3, 58, 2, []),
  (false, 114, (.aload_n 0), 1, 0, 0, []),
  (false, 115, (.getfield 15), 3, 5, 2, [(2, 0)]),
  (false, 118, (.iload_n 1), 1, 0, 0, []),
  (false, 119, (.invokestatic 50), 3, 58, 2, []),
  (false, 122, (.invokespecial 54), 3, 45, 3, []),
  (false, 125, .areturn, 1, 0, 0, [])]
def kX5_readStep : List ab_E := [
  (false, 0, (.aload_n 0), 1, 0, 0, []),
  (false, 1, (.getfield 18), 3, 5, 0, [(2, 0)]),
  (false, 4, (.invokevirtual 34), 3, 79, 1, [(8, 0)]),
  (false, 7, (.istore_n 1), 1, 0, 0, []),
  (false, 8, (.aload_n 0), 1, 0, 0, []),
  (false, 9, (.getfield 18), 3, 5, 0, [(2, 0)]),
  (false, 12, (.invokevirtual 41), 3, 74, 1, [(8, 0)]),
  (false, 15, (.istore_n 2), 1, 0, 0, []),
  (false, 16, (.aload_n 0), 1, 0, 0, []),
  (false, 17, (.getfield 18), 3, 5, 0, [(2, 0)]),
  (false, 20, (.invokevirtual 57), 3, 80, 1, [(8, 0)]),
  (false, 23, (.iload_n 1), 1, 0, 0, []),
  (false, 24, (.lookupswitch 152 #[(35, 100), (36, 109), (37, 84), (42, 84), (46, 86), (47, 91), (60, 123), (61, 138), (126, 84)]), 84, 176, 0, [(35, 124), (36, 133), (37, 108), (42, 108), (46, 110), (47, 115), (60, 147), (61, 162), (126, 108)]),
  (false, 108, (.iconst 0), 1, 0, 0, []),
  (false, 109, .ireturn, 1, 0, 0, []),
  (false, 110, (.aload_n 0), 1, 0, 0, []),
  (false, 111, (.invokevirtual 60), 3, 56, 1, [(5, 0)]),
  (false, 114, .ireturn, 1, 0, 0, []),
  (false, 115, (.aload_n 0), 1, 0, 0, []),
  (false, 116, (.getfield 18), 3, 5, 0, [(2, 0)]),
  (false, 119, (.iconst 2), 1, 0, 0, []),
  (false, 120, (.invokevirtual 63), 3, 83, 2, [(8, 0)]),
  (false, 123, .ireturn, 1, 0, 0, []),
  (false, 124, (.aload_n 0), 1, 0, 0, []),
  (false, 125, (.getfield 18), 3, 5, 0, [(2, 0)]),
  (false, 128, (.iconst 1), 1, 0, 0, []),
  (false, 129, (.invokevirtual 63), 3, 83, 2, [(8, 0)]),
  (false, 132, .ireturn, 1, 0, 0, []),
  (false, 133, (.aload_n 0), 1, 0, 0, []),
  (false, 134, (.aload_n 0), 1, 0, 0, []),
  (false, 135, (.getfield 18), 3, 5, 0, [(2, 0)]),
  (false, 138, (.invokevirtual 67), 3, 85, 1, [(8, 0)]),
  (false, 141, (.bipush 46), 2, 0, 0, []),
  (false, 143, (.invokevirtual 70), 3, 57, 3, [(5, 0)]),
  (false, 146, .ireturn, 1, 0, 0, []),
  (false, 147, (.aload_n 0), 1, 0, 0, []),
  (false, 148, (.aload_n 0), 1, 0, 0, []),
  (false, 149, (.getfield 18), 3, 5, 0, [(2, 0)]),
  (false, 152, (.iconst 2), 1, 0, 0, []),
  (false, 153, (.invokevirtual 63), 3, 83, 2, [(8, 0)]),
  (false, 156, (.bipush 62), 2, 0, 0, []),
  (false, 158, (.invokevirtual 70), 3, 57, 3, [(5, 0)]),
  (false, 161, .ireturn, 1, 0, 0, []),
  (false, 162, (.aload_n 0), 1, 0, 0, []),
  (false, 163, (.aload_n 0), 1, 0, 0, []),
  (false, 164, (.getfield 18), 3, 5, 0, [(2, 0)]),
  (false, 167, (.invokevirtual 74), 3, 84, 1, [(8, 0)]),
  (false, 170, (.bipush 59), 2, 0, 0, []),
  (false, 172, (.invokevirtual 70), 3, 57, 3, [(5, 0)]),
  (false, 175, .ireturn, 1, 0, 0, []),
  (false, 176, (.aload_n 0), 1, 0, 0, []),
  (false, 177, (.getfield 18), 3, 5, 0, [(2, 0)]),
  (false, 180, (.iload_n 2), 1, 0, 0, []),
  (false, 181, (.invokevirtual 44), 3, 78, 2, [(8, 0)]),
  (false, 184, (.iconst 0), 1, 0, 0, []),
  (false, 185, .ireturn, 1, 0, 0, [])]
def kX5_readSide : List ab_E := [
  (false, 0, (.aload_n 0), 1, 0, 0, []),
  (false, 1, (.getfield 18), 3, 5, 0, [(2, 0)]),
  (false, 4, (.bipush 49), 2, 0, 0, []),
  (false, 6, (.invokevirtual 77), 3, 81, 2, [(8, 0)]),
  (false, 9, (.ifCond .eq 5), 3, 14, 0, []),
  (false, 12, (.iconst 1), 1, 0, 0, []),
  (false, 13, .ireturn, 1, 0, 0, []),
  (false, 14, (.aload_n 0), 1, 0, 0, []),
  (false, 15, (.getfield 18), 3, 5, 0, [(2, 0)]),
  (false, 18, (.bipush 48), 2, 0, 0, []),
  (false, 20, (.invokevirtual 81), 3, 82, 2, [(8, 0)]),
  (false, 23, (.iconst 0), 1, 0, 0, []),
  (false, 24, .ireturn, 1, 0, 0, [])]
def kX5_closed : List ab_E := [
  (false, 0, (.aload_n 0), 1, 0, 0, []),
  (false, 1, (.getfield 18), 3, 5, 0, [(2, 0)]),
  (false, 4, (.iload_n 2), 1, 0, 0, []),
  (false, 5, (.invokevirtual 81), 3, 82, 2, [(8, 0)]),
  (false, 8, (.iload_n 1), 1, 0, 0, []),
  (false, 9, .ireturn, 1, 0, 0, [])]
def kX5_firstOf : List ab_E := [
  (false, 0, (.iload_n 1), 1, 0, 0, []),
  (false, 1, (.newarray .int), 2, 0, 0, []),
  (false, 3, (.astore_n 2), 1, 0, 0, []),
  (false, 4, (.iconst 0), 1, 0, 0, []),
  (false, 5, (.istore_n 3), 1, 0, 0, []),
  (true, 6, (.iload_n 3), 1, 0, 0, []),
  (false, 7, (.iload_n 1), 1, 0, 0, []),
  (false, 8, (.if_icmp .ge 21), 3, 29, 0, []),
  (false, 11, (.iload_n 3), 1, 0, 0, []),
  (false, 12, (.aload_n 0), 1, 0, 0, []),
  (false, 13, .arraylength, 1, 0, 0, []),
  (false, 14, (.if_icmp .ge 15), 3, 29, 0, []),
  (false, 17, (.aload_n 2), 1, 0, 0, []),
  (false, 18, (.iload_n 3), 1, 0, 0, []),
  (false, 19, (.aload_n 0), 1, 0, 0, []),
  (false, 20, (.iload_n 3), 1, 0, 0, []),
  (false, 21, .iaload, 1, 0, 0, []),
  (false, 22, .iastore, 1, 0, 0, []),
  (false, 23, (.iinc 3 1), 3, 0, 0, []),
  (false, 26, (.goto (-20)), 3, 6, 0, []),
  (false, 29, (.aload_n 2), 1, 0, 0, []),
  (false, 30, .areturn, 1, 0, 0, [])]
def kX6_init : List ab_E := [
  (false, 0, (.aload_n 0), 1, 0, 0, []),
  (false, 1, (.invokespecial 3), 3, 999, 0, []),
  (false, 4, (.aload_n 0), 1, 0, 0, []),
  (false, 5, (.bipush 10), 2, 0, 0, []),
  (false, 7, (.anewarray 9), 3, 4, 0, []),
  (false, 10, (.putfield 11), 3, 6, 0, [(2, 0)]),
  (false, 13, (.aload_n 0), 1, 0, 0, []),
  (false, 14, (.iconst 0), 1, 0, 0, []),
  (false, 15, (.putfield 17), 3, 6, 1, [(0, 0)]),
  (false, 18, (.aload_n 0), 1, 0, 0, []),
  (false, 19, (.aload_n 1), 1, 0, 0, []),
  (false, 20, (.putfield 21), 3, 6, 2, [(2, 0)]),
  (false, 23, .return_, 1, 0, 0, [])]
def kX6_held : List ab_E := [
  (false, 0, (.aload_n 0), 1, 0, 0, []),
  (false, 1, (.getfield 21), 3, 6, 2, [(2, 0)]),
  (false, 4, .areturn, 1, 0, 0, [])]
def kX6_oldCount : List ab_E := [
  (false, 0, (.aload_n 0), 1, 0, 0, []),
  (false, 1, (.getfield 17), 3, 6, 1, [(0, 0)]),
  (false, 4, .ireturn, 1, 0, 0, [])]
def kX6_become : List ab_E := [
  (false, 0, (.aload_n 0), 1, 0, 0, []),
  (false, 1, (.getfield 17), 3, 6, 1, [(0, 0)]),
  (false, 4, (.bipush 10), 2, 0, 0, []),
  (false, 6, (.if_icmp .ne 41), 3, 47, 0, []),
  (false, 9, (.iconst 1), 1, 0, 0, []),
  (false, 10, (.istore_n 2), 1, 0, 0, []),
  (true, 11, (.iload_n 2), 1, 0, 0, []),
  (false, 12, (.bipush 10), 2, 0, 0, []),
  (false, 14, (.if_icmp .ge 23), 3, 37, 0, []),
  (false, 17, (.aload_n 0), 1, 0, 0, []),
  (false, 18, (.getfield 11), 3, 6, 0, [(2, 0)]),
  (false, 21, (.iload_n 2), 1, 0, 0, []),
  (false, 22, (.iconst 1), 1, 0, 0, []),
  (false, 23, .isub, 1, 0, 0, []),
  (false, 24, (.aload_n 0), 1, 0, 0, []),
  (false, 25, (.getfield 11), 3, 6, 0, [(2, 0)]),
  (false, 28, (.iload_n 2), 1, 0, 0, []),
  (false, 29, .aaload, 1, 0, 0, []),
  (false, 30, .aastore, 1, 0, 0, []),
  (false, 31, (.iinc 2 1), 3, 0, 0, []),
  (false, 34, (.goto (-23)), 3, 11, 0, []),
  (false, 37, (.aload_n 0), 1, 0, 0, []),
  (false, 38, .dup, 1, 0, 0, []),
  (false, 39, (.getfield 17), 3, 6, 1, [(0, 0)]),
  (false, 42, (.iconst 1), 1, 0, 0, []),
  (false, 43, .isub, 1, 0, 0, []),
  (false, 44, (.putfield 17), 3, 6, 1, [(0, 0)]),
  (false, 47, (.aload_n 0), 1, 0, 0, []),
  (false, 48, (.getfield 11), 3, 6, 0, [(2, 0)]),
  (false, 51, (.aload_n 0), 1, 0, 0, []),
  (false, 52, (.getfield 17), 3, 6, 1, [(0, 0)]),
  (false, 55, (.aload_n 0), 1, 0, 0, []),
  (false, 56, (.getfield 21), 3, 6, 2, [(2, 0)]),
  (false, 59, .aastore, 1, 0, 0, []),
  (false, 60, (.aload_n 0), 1, 0, 0, []),
  (false, 61, .dup, 1, 0, 0, []),
  (false, 62, (.getfield 17), 3, 6, 1, [(0, 0)]),
  (false, 65, (.iconst 1), 1, 0, 0, []),
  (false, 66, .iadd, 1, 0, 0, []),
  (false, 67, (.putfield 17), 3, 6, 1, [(0, 0)]),
  (false, 70, (.aload_n 0), 1, 0, 0, []),
  (false, 71, (.aload_n 1), 1, 0, 0, []),
  (false, 72, (.putfield 21), 3, 6, 2, [(2, 0)]),
  (false, 75, .return_, 1, 0, 0, [])]
def kX6_becomeLastOld : List ab_E := [
  (false, 0, (.aload_n 0), 1, 0, 0, []),
  (false, 1, (.getfield 17), 3, 6, 1, [(0, 0)]),
  (false, 4, (.ifCond .le 26), 3, 30, 0, []),
  (false, 7, (.aload_n 0), 1, 0, 0, []),
  (false, 8, .dup, 1, 0, 0, []),
  (false, 9, (.getfield 17), 3, 6, 1, [(0, 0)]),
  (false, 12, (.iconst 1), 1, 0, 0, []),
  (false, 13, .isub, 1, 0, 0, []),
  (false, 14, (.putfield 17), 3, 6, 1, [(0, 0)]),
  (false, 17, (.aload_n 0), 1, 0, 0, []),
  (false, 18, (.aload_n 0), 1, 0, 0, []),
  (false, 19, (.getfield 11), 3, 6, 0, [(2, 0)]),
  (false, 22, (.aload_n 0), 1, 0, 0, []),
  (false, 23, (.getfield 17), 3, 6, 1, [(0, 0)]),
  (false, 26, .aaload, 1, 0, 0, []),
  (false, 27, (.putfield 21), 3, 6, 2, [(2, 0)]),
  (false, 30, .return_, 1, 0, 0, [])]
def kX6_restart : List ab_E := [
  (false, 0, (.aload_n 0), 1, 0, 0, []),
  (false, 1, (.aload_n 1), 1, 0, 0, []),
  (false, 2, (.putfield 21), 3, 6, 2, [(2, 0)]),
  (false, 5, (.aload_n 0), 1, 0, 0, []),
  (false, 6, (.iconst 0), 1, 0, 0, []),
  (false, 7, (.putfield 17), 3, 6, 1, [(0, 0)]),
  (false, 10, .return_, 1, 0, 0, [])]
def kX7_init : List ab_E := [
  (false, 0, (.aload_n 0), 1, 0, 0, []),
  (false, 1, (.invokespecial 3), 3, 999, 0, []),
  (false, 4, (.aload_n 0), 1, 0, 0, []),
  (false, 5, (.iconst 0), 1, 0, 0, []),
  (false, 6, (.putfield 9), 3, 7, 0, [(0, 0)]),
  (false, 9, .return_, 1, 0, 0, [])]
def kX7_sum : List ab_E := [
  (false, 0, (.aload_n 0), 1, 0, 0, []),
  (false, 1, (.getfield 9), 3, 7, 0, [(0, 0)]),
  (false, 4, .ireturn, 1, 0, 0, [])]
def kX7_hasRoomFor : List ab_E := [
  (false, 0, (.aload_n 0), 1, 0, 0, []),
  (false, 1, (.getfield 9), 3, 7, 0, [(0, 0)]),
  (false, 4, (.iload_n 1), 1, 0, 0, []),
  (false, 5, .iadd, 1, 0, 0, []),
  (false, 6, (.sipush 3000), 3, 0, 0, []),
  (false, 9, (.if_icmp .gt 7), 3, 16, 0, []),
  (false, 12, (.iconst 1), 1, 0, 0, []),
  (false, 13, (.goto 4), 3, 17, 0, []),
  (false, 16, (.iconst 0), 1, 0, 0, []),
  (false, 17, .ireturn, 1, 1, 0, [])]
def kX7_adds : List ab_E := [
  (false, 0, (.aload_n 0), 1, 0, 0, []),
  (false, 1, (.getfield 9), 3, 7, 0, [(0, 0)]),
  (false, 4, (.iload_n 1), 1, 0, 0, []),
  (false, 5, .iadd, 1, 0, 0, []),
  (false, 6, (.sipush 3000), 3, 0, 0, []),
  (false, 9, (.if_icmp .le 5), 3, 14, 0, []),
  (false, 12, (.iconst 0), 1, 0, 0, []),
  (false, 13, .ireturn, 1, 1, 0, []),
  (false, 14, (.aload_n 0), 1, 0, 0, []),
  (false, 15, .dup, 1, 0, 0, []),
  (false, 16, (.getfield 9), 3, 7, 0, [(0, 0)]),
  (false, 19, (.iload_n 1), 1, 0, 0, []),
  (false, 20, .iadd, 1, 0, 0, []),
  (false, 21, (.putfield 9), 3, 7, 0, [(0, 0)]),
  (false, 24, (.iconst 1), 1, 0, 0, []),
  (false, 25, .ireturn, 1, 1, 0, [])]
def kX8_init : List ab_E := [
  (false, 0, (.aload_n 0), 1, 0, 0, []),
  (false, 1, (.invokespecial 3), 3, 999, 0, []),
  (false, 4, (.aload_n 0), 1, 0, 0, []),
  (false, 5, (.bipush 100), 2, 0, 0, []),
  (false, 7, (.newarray .int), 2, 0, 0, []),
  (false, 9, (.putfield 9), 3, 8, 0, [(2, 0)]),
  (false, 12, (.aload_n 0), 1, 0, 0, []),
  (false, 13, (.iconst 0), 1, 0, 0, []),
  (false, 14, (.putfield 15), 3, 8, 1, [(0, 0)]),
  (false, 17, (.aload_n 0), 1, 0, 0, []),
  (false, 18, (.iconst 0), 1, 0, 0, []),
  (false, 19, (.putfield 19), 3, 8, 2, [(0, 0)]),
  (false, 22, (.aload_n 0), 1, 0, 0, []),
  (false, 23, (.iconst (-1)), 1, 0, 0, []),
  (false, 24, (.putfield 22), 3, 8, 3, [(0, 0)]),
  (false, 27, .return_, 1, 0, 0, [])]
def kX8_size : List ab_E := [
  (false, 0, (.aload_n 0), 1, 0, 0, []),
  (false, 1, (.getfield 15), 3, 8, 1, [(0, 0)]),
  (false, 4, .ireturn, 1, 0, 0, [])]
def kX8_add : List ab_E := [
  (false, 0, (.aload_n 0), 1, 0, 0, []),
  (false, 1, (.getfield 15), 3, 8, 1, [(0, 0)]),
  (false, 4, (.bipush 100), 2, 0, 0, []),
  (false, 6, (.if_icmp .ge 23), 3, 29, 0, []),
  (false, 9, (.aload_n 0), 1, 0, 0, []),
  (false, 10, (.getfield 9), 3, 8, 0, [(2, 0)]),
  (false, 13, (.aload_n 0), 1, 0, 0, []),
  (false, 14, (.getfield 15), 3, 8, 1, [(0, 0)]),
  (false, 17, (.iload_n 1), 1, 0, 0, []),
  (false, 18, .iastore, 1, 0, 0, []),
  (false, 19, (.aload_n 0), 1, 0, 0, []),
  (false, 20, .dup, 1, 0, 0, []),
  (false, 21, (.getfield 15), 3, 8, 1, [(0, 0)]),
  (false, 24, (.iconst 1), 1, 0, 0, []),
  (false, 25, .iadd, 1, 0, 0, []),
  (false, 26, (.putfield 15), 3, 8, 1, [(0, 0)]),
  (false, 29, .return_, 1, 0, 0, [])]
def kX8_clear : List ab_E := [
  (false, 0, (.aload_n 0), 1, 0, 0, []),
  (false, 1, (.iconst 0), 1, 0, 0, []),
  (false, 2, (.putfield 15), 3, 8, 1, [(0, 0)]),
  (false, 5, .return_, 1, 0, 0, [])]
def kX8_rewind : List ab_E := [
  (false, 0, (.aload_n 0), 1, 0, 0, []),
  (false, 1, (.iconst 0), 1, 0, 0, []),
  (false, 2, (.putfield 19), 3, 8, 2, [(0, 0)]),
  (false, 5, (.aload_n 0), 1, 0, 0, []),
  (false, 6, (.iconst (-1)), 1, 0, 0, []),
  (false, 7, (.putfield 22), 3, 8, 3, [(0, 0)]),
  (false, 10, .return_, 1, 0, 0, [])]
def kX8_at : List ab_E := [
  (false, 0, (.aload_n 0), 1, 0, 0, []),
  (false, 1, (.getfield 19), 3, 8, 2, [(0, 0)]),
  (false, 4, .ireturn, 1, 0, 0, [])]
def kX8_fault : List ab_E := [
  (false, 0, (.aload_n 0), 1, 0, 0, []),
  (false, 1, (.getfield 22), 3, 8, 3, [(0, 0)]),
  (false, 4, .ireturn, 1, 0, 0, [])]
def kX8_isFaulty : List ab_E := [
  (false, 0, (.aload_n 0), 1, 0, 0, []),
  (false, 1, (.getfield 22), 3, 8, 3, [(0, 0)]),
  (false, 4, (.ifCond .lt 7), 3, 11, 0, []),
  (false, 7, (.iconst 1), 1, 0, 0, []),
  (false, 8, (.goto 4), 3, 12, 0, []),
  (false, 11, (.iconst 0), 1, 0, 0, []),
  (false, 12, .ireturn, 1, 1, 0, [])]
def kX8_isAtEnd : List ab_E := [
  (false, 0, (.aload_n 0), 1, 0, 0, []),
  (false, 1, (.getfield 19), 3, 8, 2, [(0, 0)]),
  (false, 4, (.aload_n 0), 1, 0, 0, []),
  (false, 5, (.getfield 15), 3, 8, 1, [(0, 0)]),
  (false, 8, (.if_icmp .lt 7), 3, 15, 0, []),
  (false, 11, (.iconst 1), 1, 0, 0, []),
  (false, 12, (.goto 4), 3, 16, 0, []),
  (false, 15, (.iconst 0), 1, 0, 0, []),
  (false, 16, .ireturn, 1, 1, 0, [])]
def kX8_fail : List ab_E := [
  (false, 0, (.aload_n 0), 1, 0, 0, []),
  (false, 1, (.getfield 22), 3, 8, 3, [(0, 0)]),
  (false, 4, (.ifCond .ge 8), 3, 12, 0, []),
  (false, 7, (.aload_n 0), 1, 0, 0, []),
  (false, 8, (.iload_n 1), 1, 0, 0, []),
  (false, 9, (.putfield 22), 3, 8, 3, [(0, 0)]),
  (false, 12, .return_, 1, 0, 0, [])]
def kX8_next : List ab_E := [
  (false, 0, (.aload_n 0), 1, 0, 0, []),
  (false, 1, (.getfield 19), 3, 8, 2, [(0, 0)]),
  (false, 4, (.ifCond .lt 35), 3, 39, 0, []),
  (false, 7, (.aload_n 0), 1, 0, 0, []),
  (false, 8, (.getfield 19), 3, 8, 2, [(0, 0)]),
  (false, 11, (.aload_n 0), 1, 0, 0, []),
  (false, 12, (.getfield 15), 3, 8, 1, [(0, 0)]),
  (false, 15, (.if_icmp .ge 24), 3, 39, 0, []),
  (false, 18, (.aload_n 0), 1, 0, 0, []),
  (false, 19, (.getfield 19), 3, 8, 2, [(0, 0)]),
  (false, 22, (.bipush 100), 2, 0, 0, []),
  (false, 24, (.if_icmp .ge 15), 3, 39, 0, []),
  (false, 27, (.aload_n 0), 1, 0, 0, []),
  (false, 28, (.getfield 9), 3, 8, 0, [(2, 0)]),
  (false, 31, (.aload_n 0), 1, 0, 0, []),
  (false, 32, (.getfield 19), 3, 8, 2, [(0, 0)]),
  (false, 35, .iaload, 1, 0, 0, []),
  (false, 36, (.goto 4), 3, 40, 0, []),
  (false, 39, (.iconst (-1)), 1, 0, 0, []),
  (false, 40, .ireturn, 1, 0, 0, [])]
def kX8_step : List ab_E := [
  (false, 0, (.aload_n 0), 1, 0, 0, []),
  (false, 1, (.getfield 19), 3, 8, 2, [(0, 0)]),
  (false, 4, (.aload_n 0), 1, 0, 0, []),
  (false, 5, (.getfield 15), 3, 8, 1, [(0, 0)]),
  (false, 8, (.if_icmp .ge 13), 3, 21, 0, []),
  (false, 11, (.aload_n 0), 1, 0, 0, []),
  (false, 12, .dup, 1, 0, 0, []),
  (false, 13, (.getfield 19), 3, 8, 2, [(0, 0)]),
  (false, 16, (.iconst 1), 1, 0, 0, []),
  (false, 17, .iadd, 1, 0, 0, []),
  (false, 18, (.putfield 19), 3, 8, 2, [(0, 0)]),
  (false, 21, .return_, 1, 0, 0, [])]
def kX8_takes : List ab_E := [
  (false, 0, (.aload_n 0), 1, 0, 0, []),
  (false, 1, (.invokevirtual 25), 3, 79, 1, [(8, 0)]),
  (false, 4, (.iload_n 1), 1, 0, 0, []),
  (false, 5, (.if_icmp .eq 5), 3, 10, 0, []),
  (false, 8, (.iconst 0), 1, 0, 0, []),
  (false, 9, .ireturn, 1, 1, 0, []),
  (false, 10, (.aload_n 0), 1, 0, 0, []),
  (false, 11, (.invokevirtual 29), 3, 80, 1, [(8, 0)]),
  (false, 14, (.iconst 1), 1, 0, 0, []),
  (false, 15, .ireturn, 1, 1, 0, [])]
def kX8_needs : List ab_E := [
  (false, 0, (.aload_n 0), 1, 0, 0, []),
  (false, 1, (.iload_n 1), 1, 0, 0, []),
  (false, 2, (.invokevirtual 32), 3, 81, 2, [(8, 0)]),
  (false, 5, (.ifCond .ne 11), 3, 16, 0, []),
  (false, 8, (.aload_n 0), 1, 0, 0, []),
  (false, 9, (.aload_n 0), 1, 0, 0, []),
  (false, 10, (.getfield 19), 3, 8, 2, [(0, 0)]),
  (false, 13, (.invokevirtual 36), 3, 78, 2, [(8, 0)]),
  (false, 16, .return_, 1, 0, 0, [])]
def kX8_digits : List ab_E := [
  (false, 0, (.iconst 0), 1, 0, 0, []),
  (false, 1, (.istore_n 2), 1, 0, 0, []),
  (false, 2, (.iconst 0), 1, 0, 0, []),
  (false, 3, (.istore_n 3), 1, 0, 0, []),
  (true, 4, (.iload_n 3), 1, 0, 0, []),
  (false, 5, (.iload_n 1), 1, 0, 0, []),
  (false, 6, (.if_icmp .ge 44), 3, 50, 0, []),
  (false, 9, (.aload_n 0), 1, 0, 0, []),
  (false, 10, (.invokevirtual 25), 3, 79, 1, [(8, 0)]),
  (false, 13, (.bipush 48), 2, 0, 0, []),
  (false, 15, (.if_icmp .lt 35), 3, 50, 0, []),
  (false, 18, (.aload_n 0), 1, 0, 0, []),
  (false, 19, (.invokevirtual 25), 3, 79, 1, [(8, 0)]),
  (false, 22, (.bipush 57), 2, 0, 0, []),
  (false, 24, (.if_icmp .gt 26), 3, 50, 0, []),
  (false, 27, (.iload_n 2), 1, 0, 0, []),
  (false, 28, (.bipush 10), 2, 0, 0, []),
  (false, 30, .imul, 1, 0, 0, []),
  (false, 31, (.aload_n 0), 1, 0, 0, []),
  (false, 32, (.invokevirtual 25), 3, 79, 1, [(8, 0)]),
  (false, 35, .iadd, 1, 0, 0, []),
  (false, 36, (.bipush 48), 2, 0, 0, []),
  (false, 38, .isub, 1, 0, 0, []),
  (false, 39, (.istore_n 2), 1, 0, 0, []),
  (false, 40, (.aload_n 0), 1, 0, 0, []),
  (false, 41, (.invokevirtual 29), 3, 80, 1, [(8, 0)]),
  (false, 44, (.iinc 3 1), 3, 0, 0, []),
  (false, 47, (.goto (-43)), 3, 4, 0, []),
  (false, 50, (.iload_n 3), 1, 0, 0, []),
  (false, 51, (.ifCond .ne 11), 3, 62, 0, []),
  (false, 54, (.aload_n 0), 1, 0, 0, []),
  (false, 55, (.aload_n 0), 1, 0, 0, []),
  (false, 56, (.getfield 19), 3, 8, 2, [(0, 0)]),
  (false, 59, (.invokevirtual 36), 3, 78, 2, [(8, 0)]),
  (false, 62, (.iload_n 2), 1, 0, 0, []),
  (false, 63, .ireturn, 1, 0, 0, [])]
def kX8_signedNumber : List ab_E := [
  (false, 0, (.aload_n 0), 1, 0, 0, []),
  (false, 1, (.bipush 45), 2, 0, 0, []),
  (false, 3, (.invokevirtual 32), 3, 81, 2, [(8, 0)]),
  (false, 6, (.istore_n 1), 1, 0, 0, []),
  (false, 7, (.aload_n 0), 1, 0, 0, []),
  (false, 8, (.bipush 6), 2, 0, 0, []),
  (false, 10, (.invokevirtual 40), 3, 83, 2, [(8, 0)]),
  (false, 13, (.istore_n 2), 1, 0, 0, []),
  (false, 14, (.iload_n 1), 1, 0, 0, []),
  (false, 15, (.ifCond .eq 8), 3, 23, 0, []),
  (false, 18, (.iload_n 2), 1, 0, 0, []),
  (false, 19, .ineg, 1, 0, 0, []),
  (false, 20, (.goto 4), 3, 24, 0, []),
  (false, 23, (.iload_n 2), 1, 0, 0, []),
  (false, 24, .ireturn, 1, 0, 0, [])]
def kX8_letters : List ab_E := [
  (false, 0, (.iconst 0), 1, 0, 0, []),
  (false, 1, (.istore_n 1), 1, 0, 0, []),
  (false, 2, (.iconst 0), 1, 0, 0, []),
  (false, 3, (.istore_n 2), 1, 0, 0, []),
  (true, 4, (.iload_n 2), 1, 0, 0, []),
  (false, 5, (.iconst 3), 1, 0, 0, []),
  (false, 6, (.if_icmp .ge 46), 3, 52, 0, []),
  (false, 9, (.aload_n 0), 1, 0, 0, []),
  (false, 10, (.invokevirtual 25), 3, 79, 1, [(8, 0)]),
  (false, 13, (.bipush 97), 2, 0, 0, []),
  (false, 15, (.if_icmp .lt 37), 3, 52, 0, []),
  (false, 18, (.aload_n 0), 1, 0, 0, []),
  (false, 19, (.invokevirtual 25), 3, 79, 1, [(8, 0)]),
  (false, 22, (.bipush 122), 2, 0, 0, []),
  (false, 24, (.if_icmp .gt 28), 3, 52, 0, []),
  (false, 27, (.iload_n 1), 1, 0, 0, []),
  (false, 28, (.bipush 27), 2, 0, 0, []),
  (false, 30, .imul, 1, 0, 0, []),
  (false, 31, (.aload_n 0), 1, 0, 0, []),
  (false, 32, (.invokevirtual 25), 3, 79, 1, [(8, 0)]),
  (false, 35, .iadd, 1, 0, 0, []),
  (false, 36, (.bipush 97), 2, 0, 0, []),
  (false, 38, .isub, 1, 0, 0, []),
  (false, 39, (.iconst 1), 1, 0, 0, []),
  (false, 40, .iadd, 1, 0, 0, []),
  (false, 41, (.istore_n 1), 1, 0, 0, []),
  (false, 42, (.aload_n 0), 1, 0, 0, []),
  (false, 43, (.invokevirtual 29), 3, 80, 1, [(8, 0)]),
  (false, 46, (.iinc 2 1), 3, 0, 0, []),
  (false, 49, (.goto (-45)), 3, 4, 0, []),
  (false, 52, (.iload_n 2), 1, 0, 0, []),
  (false, 53, (.ifCond .ne 11), 3, 64, 0, []),
  (false, 56, (.aload_n 0), 1, 0, 0, []),
  (false, 57, (.aload_n 0), 1, 0, 0, []),
  (false, 58, (.getfield 19), 3, 8, 2, [(0, 0)]),
  (false, 61, (.invokevirtual 36), 3, 78, 2, [(8, 0)]),
  (false, 64, (.iload_n 1), 1, 0, 0, []),
  (false, 65, .ireturn, 1, 0, 0, [])]
def kX9_init : List ab_E := [
  (false, 0, (.aload_n 0), 1, 0, 0, []),
  (false, 1, (.invokespecial 3), 3, 999, 0, []),
  (false, 4, (.aload_n 0), 1, 0, 0, []),
  (false, 5, (.iload_n 1), 1, 0, 0, []),
  (false, 6, (.putfield 9), 3, 9, 0, [(0, 0)]),
  (false, 9, (.aload_n 0), 1, 0, 0, []),
  (false, 10, (.iload_n 2), 1, 0, 0, []),
  (false, 11, (.putfield 15), 3, 9, 1, [(0, 0)]),
  (false, 14, (.aload_n 0), 1, 0, 0, []),
  (false, 15, (.aload_n 3), 1, 0, 0, []),
  (false, 16, (.putfield 18), 3, 9, 4, [(2, 0)]),
  (false, 19, (.aload_n 0), 1, 0, 0, []),
  (false, 20, (.aload 4), 2, 0, 0, []),
  (false, 22, (.putfield 22), 3, 9, 5, [(2, 0)]),
  (false, 25, (.iconst 1), 1, 0, 0, []),
  (false, 26, (.istore 5), 2, 0, 0, []),
  (false, 28, (.iconst (-1)), 1, 0, 0, []),
  (false, 29, (.istore 6), 2, 0, 0, []),
  (false, 31, (.aload 4), 2, 0, 0, []),
  (false, 33, (.astore 7), 2, 0, 0, []),
  (false, 35, (.aload 7), 2, 0, 0, []),
  (false, 37, .arraylength, 1, 0, 0, []),
  (false, 38, (.istore 8), 2, 0, 0, []),
  (false, 40, (.iconst 0), 1, 0, 0, []),
  (false, 41, (.istore 9), 2, 0, 0, []),
  (true, 43, (.iload 9), 2, 0, 0, []),
  (false, 45, (.iload 8), 2, 0, 0, []),
  (false, 47, (.if_icmp .ge 43), 3, 90, 0, []),
  (false, 50, (.aload 7), 2, 0, 0, []),
  (false, 52, (.iload 9), 2, 0, 0, []),
  (false, 54, .aaload, 1, 0, 0, []),
  (false, 55, (.astore 10), 2, 0, 0, []),
  (false, 57, (.aload 10), 2, 0, 0, []),
  (false, 59, (.ifnull 25), 3, 84, 0, []),
  (false, 62, (.iload 5), 2, 0, 0, []),
  (false, 64, (.aload 10), 2, 0, 0, []),
  (false, 66, (.getfield 26), 3, 9, 2, [(0, 0)]),
  (false, 69, .iadd, 1, 0, 0, []),
  (false, 70, (.istore 5), 2, 0, 0, []),
  (false, 72, (.iload 6), 2, 0, 0, []),
  (false, 74, (.aload 10), 2, 0, 0, []),
  (false, 76, (.getfield 29), 3, 9, 3, [(0, 0)]),
  (false, 79, (.invokestatic 32), 3, 199, 2, []),
  (false, 82, (.istore 6), 2, 0, 0, []),
  (false, 84, (.iinc 9 1), 3, 0, 0, []),
  (false, 87, (.goto (-44)), 3, 43, 0, []),
  (false, 90, (.aload_n 0), 1, 0, 0, []),
  (false, 91, (.iload 5), 2, 0, 0, []),
  (false, 93, (.putfield 26), 3, 9, 2, [(0, 0)]),
  (false, 96, (.aload_n 0), 1, 0, 0, []),
  (false, 97, (.iload 6), 2, 0, 0, []),
  (false, 99, (.iconst 1), 1, 0, 0, []),
  (false, 100, .iadd, 1, 0, 0, []),
  (false, 101, (.putfield 29), 3, 9, 3, [(0, 0)]),
  (false, 104, .return_, 1, 0, 0, [])]
def kX9_size : List ab_E := [
  (false, 0, (.aload_n 0), 1, 0, 0, []),
  (false, 1, (.getfield 22), 3, 9, 5, [(2, 0)]),
  (false, 4, .arraylength, 1, 0, 0, []),
  (false, 5, .ireturn, 1, 0, 0, [])]
def kX9_part : List ab_E := [
  (false, 0, (.iload_n 1), 1, 0, 0, []),
  (false, 1, (.ifCond .lt 21), 3, 22, 0, []),
  (false, 4, (.iload_n 1), 1, 0, 0, []),
  (false, 5, (.aload_n 0), 1, 0, 0, []),
  (false, 6, (.getfield 22), 3, 9, 5, [(2, 0)]),
  (false, 9, .arraylength, 1, 0, 0, []),
  (false, 10, (.if_icmp .ge 12), 3, 22, 0, []),
  (false, 13, (.aload_n 0), 1, 0, 0, []),
  (false, 14, (.getfield 22), 3, 9, 5, [(2, 0)]),
  (false, 17, (.iload_n 1), 1, 0, 0, []),
  (false, 18, .aaload, 1, 0, 0, []),
  (false, 19, (.goto 4), 3, 23, 0, []),
  (false, 22, .aconst_null, 1, 0, 0, []),
  (false, 23, .areturn, 1, 0, 0, [])]
def kX9_copyOfParts : List ab_E := [
  (false, 0, (.aload_n 0), 1, 0, 0, []),
  (false, 1, (.getfield 22), 3, 9, 5, [(2, 0)]),
  (false, 4, .arraylength, 1, 0, 0, []),
  (false, 5, (.anewarray 10), 3, 4, 0, []),
  (false, 8, (.astore_n 1), 1, 0, 0, []),
  (false, 9, (.iconst 0), 1, 0, 0, []),
  (false, 10, (.istore_n 2), 1, 0, 0, []),
  (true, 11, (.iload_n 2), 1, 0, 0, []),
  (false, 12, (.aload_n 0), 1, 0, 0, []),
  (false, 13, (.getfield 22), 3, 9, 5, [(2, 0)]),
  (false, 16, .arraylength, 1, 0, 0, []),
  (false, 17, (.if_icmp .ge 18), 3, 35, 0, []),
  (false, 20, (.aload_n 1), 1, 0, 0, []),
  (false, 21, (.iload_n 2), 1, 0, 0, []),
  (false, 22, (.aload_n 0), 1, 0, 0, []),
  (false, 23, (.getfield 22), 3, 9, 5, [(2, 0)]),
  (false, 26, (.iload_n 2), 1, 0, 0, []),
  (false, 27, .aaload, 1, 0, 0, []),
  (false, 28, .aastore, 1, 0, 0, []),
  (false, 29, (.iinc 2 1), 3, 0, 0, []),
  (false, 32, (.goto (-21)), 3, 11, 0, []),
  (false, 35, (.aload_n 1), 1, 0, 0, []),
  (false, 36, .areturn, 1, 0, 0, [])]
def kX9_letters : List ab_E := [
  (false, 0, (.iload_n 1), 1, 0, 0, []),
  (false, 1, (.ifCond .lt 21), 3, 22, 0, []),
  (false, 4, (.iload_n 1), 1, 0, 0, []),
  (false, 5, (.aload_n 0), 1, 0, 0, []),
  (false, 6, (.getfield 18), 3, 9, 4, [(2, 0)]),
  (false, 9, .arraylength, 1, 0, 0, []),
  (false, 10, (.if_icmp .ge 12), 3, 22, 0, []),
  (false, 13, (.aload_n 0), 1, 0, 0, []),
  (false, 14, (.getfield 18), 3, 9, 4, [(2, 0)]),
  (false, 17, (.iload_n 1), 1, 0, 0, []),
  (false, 18, .iaload, 1, 0, 0, []),
  (false, 19, (.goto 4), 3, 23, 0, []),
  (false, 22, (.iconst 0), 1, 0, 0, []),
  (false, 23, .ireturn, 1, 0, 0, [])]
def kX9_isTooMuch : List ab_E := [
  (false, 0, (.aload_n 0), 1, 0, 0, []),
  (false, 1, (.getfield 29), 3, 9, 3, [(0, 0)]),
  (false, 4, (.bipush 12), 2, 0, 0, []),
  (false, 6, (.if_icmp .gt 23), 3, 29, 0, []),
  (false, 9, (.aload_n 0), 1, 0, 0, []),
  (false, 10, (.getfield 26), 3, 9, 2, [(0, 0)]),
  (false, 13, (.sipush 200), 3, 0, 0, []),
  (false, 16, (.if_icmp .gt 13), 3, 29, 0, []),
  (false, 19, (.aload_n 0), 1, 0, 0, []),
  (false, 20, (.getfield 22), 3, 9, 5, [(2, 0)]),
  (false, 23, .arraylength, 1, 0, 0, []),
  (false, 24, (.bipush 12), 2, 0, 0, []),
  (false, 26, (.if_icmp .le 7), 3, 33, 0, []),
  (false, 29, (.iconst 1), 1, 0, 0, []),
  (false, 30, (.goto 4), 3, 34, 0, []),
  (false, 33, (.iconst 0), 1, 0, 0, []),
  (false, 34, .ireturn, 1, 1, 0, [])]
def kX9_isFramedLike : List ab_E := [
  (false, 0, (.aload_n 0), 1, 0, 0, []),
  (false, 1, (.getfield 9), 3, 9, 0, [(0, 0)]),
  (false, 4, (.aload_n 1), 1, 0, 0, []),
  (false, 5, (.getfield 9), 3, 9, 0, [(0, 0)]),
  (false, 8, (.if_icmp .ne 32), 3, 40, 0, []),
  (false, 11, (.aload_n 0), 1, 0, 0, []),
  (false, 12, (.getfield 15), 3, 9, 1, [(0, 0)]),
  (false, 15, (.aload_n 1), 1, 0, 0, []),
  (false, 16, (.getfield 15), 3, 9, 1, [(0, 0)]),
  (false, 19, (.if_icmp .ne 21), 3, 40, 0, []),
  (false, 22, (.aload_n 0), 1, 0, 0, []),
  (false, 23, (.getfield 9), 3, 9, 0, [(0, 0)]),
  (false, 26, (.ifCond .eq 14), 3, 40, 0, []),
  (false, 29, (.aload_n 0), 1, 0, 0, []),
  (false, 30, (.invokevirtual 38), 3, 87, 1, [(9, 0)]),
  (false, 33, (.aload_n 1), 1, 0, 0, []),
  (false, 34, (.invokevirtual 38), 3, 87, 1, [(9, 0)]),
  (false, 37, (.if_icmp .eq 5), 3, 42, 0, []),
  (false, 40, (.iconst 0), 1, 0, 0, []),
  (false, 41, .ireturn, 1, 1, 0, []),
  (false, 42, (.iconst 0), 1, 0, 0, []),
  (false, 43, (.istore_n 2), 1, 0, 0, []),
  (true, 44, (.iload_n 2), 1, 0, 0, []),
  (false, 45, (.aload_n 0), 1, 0, 0, []),
  (false, 46, (.invokevirtual 38), 3, 87, 1, [(9, 0)]),
  (false, 49, (.if_icmp .ge 24), 3, 73, 0, []),
  (false, 52, (.aload_n 0), 1, 0, 0, []),
  (false, 53, (.iload_n 2), 1, 0, 0, []),
  (false, 54, (.invokevirtual 42), 3, 90, 2, [(9, 0)]),
  (false, 57, (.aload_n 1), 1, 0, 0, []),
  (false, 58, (.iload_n 2), 1, 0, 0, []),
  (false, 59, (.invokevirtual 42), 3, 90, 2, [(9, 0)]),
  (false, 62, (.if_icmp .eq 5), 3, 67, 0, []),
  (false, 65, (.iconst 0), 1, 0, 0, []),
  (false, 66, .ireturn, 1, 1, 0, []),
  (false, 67, (.iinc 2 1), 3, 0, 0, []),
  (false, 70, (.goto (-26)), 3, 44, 0, []),
  (false, 73, (.iconst 1), 1, 0, 0, []),
  (false, 74, .ireturn, 1, 1, 0, [])]
def kX9_areAlike : List ab_E := [
  (false, 0, (.aload_n 0), 1, 0, 0, []),
  (false, 1, (.aload_n 1), 1, 0, 0, []),
  (false, 2, (.iconst 0), 1, 0, 0, []),
  (false, 3, (.invokestatic 46), 3, 94, 3, []),
  (false, 6, (.ifCond .ne 7), 3, 13, 0, []),
  (false, 9, (.iconst 1), 1, 0, 0, []),
  (false, 10, (.goto 4), 3, 14, 0, []),
  (false, 13, (.iconst 0), 1, 0, 0, []),
  (false, 14, .ireturn, 1, 1, 0, [])]
def kX9_compare : List ab_E := [
  (false, 0, (.aload_n 0), 1, 0, 0, []),
  (false, 1, (.aload_n 1), 1, 0, 0, []),
  (false, 2, (.if_acmp .eq 17), 3, 19, 0, []),
  (false, 5, (.aload_n 0), 1, 0, 0, []),
  (false, 6, (.ifnull 13), 3, 19, 0, []),
  (false, 9, (.aload_n 1), 1, 0, 0, []),
  (false, 10, (.ifnull 9), 3, 19, 0, []),
  (false, 13, (.iload_n 2), 1, 0, 0, []),
  (false, 14, (.bipush 40), 2, 0, 0, []),
  (false, 16, (.if_icmp .le 5), 3, 21, 0, []),
  (false, 19, (.iconst 0), 1, 0, 0, []),
  (false, 20, .ireturn, 1, 0, 0, []),
  (false, 21, (.aload_n 0), 1, 0, 0, []),
  (false, 22, (.getfield 9), 3, 9, 0, [(0, 0)]),
  (false, 25, (.aload_n 1), 1, 0, 0, []),
  (false, 26, (.getfield 9), 3, 9, 0, [(0, 0)]),
  (false, 29, (.if_icmp .ne 14), 3, 43, 0, []),
  (false, 32, (.aload_n 0), 1, 0, 0, []),
  (false, 33, (.getfield 15), 3, 9, 1, [(0, 0)]),
  (false, 36, (.aload_n 1), 1, 0, 0, []),
  (false, 37, (.getfield 15), 3, 9, 1, [(0, 0)]),
  (false, 40, (.if_icmp .eq 40), 3, 80, 0, []),
  (false, 43, (.aload_n 0), 1, 0, 0, []),
  (false, 44, (.getfield 9), 3, 9, 0, [(0, 0)]),
  (false, 47, (.aload_n 1), 1, 0, 0, []),
  (false, 48, (.getfield 9), 3, 9, 0, [(0, 0)]),
  (false, 51, (.if_icmp .eq 17), 3, 68, 0, []),
  (false, 54, (.aload_n 0), 1, 0, 0, []),
  (false, 55, (.getfield 9), 3, 9, 0, [(0, 0)]),
  (false, 58, (.aload_n 1), 1, 0, 0, []),
  (false, 59, (.getfield 9), 3, 9, 0, [(0, 0)]),
  (false, 62, (.invokestatic 50), 3, 198, 2, []),
  (false, 65, (.goto 14), 3, 79, 0, []),
  (false, 68, (.aload_n 0), 1, 0, 0, []),
  (false, 69, (.getfield 15), 3, 9, 1, [(0, 0)]),
  (false, 72, (.aload_n 1), 1, 0, 0, []),
  (false, 73, (.getfield 15), 3, 9, 1, [(0, 0)]),
  (false, 76, (.invokestatic 50), 3, 198, 2, []),
  (false, 79, .ireturn, 1, 0, 0, []),
  (false, 80, (.aload_n 0), 1, 0, 0, []),
  (false, 81, (.invokevirtual 38), 3, 87, 1, [(9, 0)]),
  (false, 84, (.aload_n 1), 1, 0, 0, []),
  (false, 85, (.invokevirtual 38), 3, 87, 1, [(9, 0)]),
  (false, 88, (.invokestatic 54), 3, 200, 2, []),
  (false, 91, (.istore_n 3), 1, 0, 0, []),
  (false, 92, (.iconst 0), 1, 0, 0, []),
  (false, 93, (.istore 4), 2, 0, 0, []),
  (true, 95, (.iload 4), 2, 0, 0, []),
  (false, 97, (.iload_n 3), 1, 0, 0, []),
  (false, 98, (.if_icmp .ge 59), 3, 157, 0, []),
  (false, 101, (.aload_n 0), 1, 0, 0, []),
  (false, 102, (.iload 4), 2, 0, 0, []),
  (false, 104, (.invokevirtual 42), 3, 90, 2, [(9, 0)]),
  (false, 107, (.aload_n 1), 1, 0, 0, []),
  (false, 108, (.iload 4), 2, 0, 0, []),
  (false, 110, (.invokevirtual 42), 3, 90, 2, [(9, 0)]),
  (false, 113, (.invokestatic 50), 3, 198, 2, []),
  (false, 116, (.istore 5), 2, 0, 0, []),
  (false, 118, (.iload 5), 2, 0, 0, []),
  (false, 120, (.ifCond .ne 23), 3, 143, 0, []),
  (false, 123, (.aload_n 0), 1, 0, 0, []),
  (false, 124, (.iload 4), 2, 0, 0, []),
  (false, 126, (.invokevirtual 57), 3, 88, 2, [(9, 0)]),
  (false, 129, (.aload_n 1), 1, 0, 0, []),
  (false, 130, (.iload 4), 2, 0, 0, []),
  (false, 132, (.invokevirtual 57), 3, 88, 2, [(9, 0)]),
  (false, 135, (.iload_n 2), 1, 0, 0, []),
  (false, 136, (.iconst 1), 1, 0, 0, []),
  (false, 137, .iadd, 1, 0, 0, []),
  (false, 138, (.invokestatic 46), 3, 94, 3, []),
  (false, 141, (.istore 5), 2, 0, 0, []),
  (false, 143, (.iload 5), 2, 0, 0, []),
  (false, 145, (.ifCond .eq 6), 3, 151, 0, []),
  (false, 148, (.iload 5), 2, 0, 0, []),
  (false, 150, .ireturn, 1, 0, 0, []),
  (false, 151, (.iinc 4 1), 3, 0, 0, []),
  (false, 154, (.goto (-59)), 3, 95, 0, []),
  (false, 157, (.aload_n 0), 1, 0, 0, []),
  (false, 158, (.invokevirtual 38), 3, 87, 1, [(9, 0)]),
  (false, 161, (.aload_n 1), 1, 0, 0, []),
  (false, 162, (.invokevirtual 38), 3, 87, 1, [(9, 0)]),
  (false, 165, (.invokestatic 50), 3, 198, 2, []),
  (false, 168, .ireturn, 1, 0, 0, [])]
def kX9_holds : List ab_E := [
  (false, 0, (.aload_n 0), 1, 0, 0, []),
  (false, 1, (.ifnull 13), 3, 14, 0, []),
  (false, 4, (.aload_n 1), 1, 0, 0, []),
  (false, 5, (.ifnull 9), 3, 14, 0, []),
  (false, 8, (.iload_n 2), 1, 0, 0, []),
  (false, 9, (.bipush 40), 2, 0, 0, []),
  (false, 11, (.if_icmp .le 5), 3, 16, 0, []),
  (false, 14, (.iconst 0), 1, 0, 0, []),
  (false, 15, .ireturn, 1, 1, 0, []),
  (false, 16, (.aload_n 0), 1, 0, 0, []),
  (false, 17, (.aload_n 1), 1, 0, 0, []),
  (false, 18, (.if_acmp .ne 5), 3, 23, 0, []),
  (false, 21, (.iconst 1), 1, 0, 0, []),
  (false, 22, .ireturn, 1, 1, 0, []),
  (false, 23, (.aload_n 1), 1, 0, 0, []),
  (false, 24, (.getfield 26), 3, 9, 2, [(0, 0)]),
  (false, 27, (.aload_n 0), 1, 0, 0, []),
  (false, 28, (.getfield 26), 3, 9, 2, [(0, 0)]),
  (false, 31, (.if_icmp .lt 5), 3, 36, 0, []),
  (false, 34, (.iconst 0), 1, 0, 0, []),
  (false, 35, .ireturn, 1, 1, 0, []),
  (false, 36, (.iconst 0), 1, 0, 0, []),
  (false, 37, (.istore_n 3), 1, 0, 0, []),
  (true, 38, (.iload_n 3), 1, 0, 0, []),
  (false, 39, (.aload_n 0), 1, 0, 0, []),
  (false, 40, (.invokevirtual 38), 3, 87, 1, [(9, 0)]),
  (false, 43, (.if_icmp .ge 26), 3, 69, 0, []),
  (false, 46, (.aload_n 0), 1, 0, 0, []),
  (false, 47, (.iload_n 3), 1, 0, 0, []),
  (false, 48, (.invokevirtual 57), 3, 88, 2, [(9, 0)]),
  (false, 51, (.aload_n 1), 1, 0, 0, []),
  (false, 52, (.iload_n 2), 1, 0, 0, []),
  (false, 53, (.iconst 1), 1, 0, 0, []),
  (false, 54, .iadd, 1, 0, 0, []),
  (false, 55, (.invokestatic 61), 3, 95, 3, []),
  (false, 58, (.ifCond .eq 5), 3, 63, 0, []),
  (false, 61, (.iconst 1), 1, 0, 0, []),
  (false, 62, .ireturn, 1, 1, 0, []),
  (false, 63, (.iinc 3 1), 3, 0, 0, []),
  (false, 66, (.goto (-28)), 3, 38, 0, []),
  (false, 69, (.iconst 0), 1, 0, 0, []),
  (false, 70, .ireturn, 1, 1, 0, [])]
def kX10_init : List ab_E := [
  (false, 0, (.aload_n 0), 1, 0, 0, []),
  (false, 1, (.invokespecial 3), 3, 999, 0, []),
  (false, 4, (.aload_n 0), 1, 0, 0, []),
  (false, 5, (.aload_n 1), 1, 0, 0, []),
  (false, 6, (.putfield 9), 3, 10, 0, [(2, 0)]),
  (false, 9, .return_, 1, 0, 0, [])]
def kX10_readWhole : List ab_E := [
  (false, 0, (.aload_n 0), 1, 0, 0, []),
  (false, 1, (.getfield 9), 3, 10, 0, [(2, 0)]),
  (false, 4, (.invokevirtual 15), 3, 73, 1, [(8, 0)]),
  (false, 7, (.aload_n 0), 1, 0, 0, []),
  (false, 8, (.iconst 0), 1, 0, 0, []),
  (false, 9, (.invokevirtual 20), 3, 98, 2, [(10, 0)]),
  (false, 12, (.astore_n 1), 1, 0, 0, []),
  (false, 13, (.aload_n 0), 1, 0, 0, []),
  (false, 14, (.getfield 9), 3, 10, 0, [(2, 0)]),
  (false, 17, (.invokevirtual 24), 3, 77, 1, [(8, 0)]),
  (false, 20, (.ifCond .ne 17), 3, 37, 0, []),
  (false, 23, (.aload_n 0), 1, 0, 0, []),
  (false, 24, (.getfield 9), 3, 10, 0, [(2, 0)]),
  (false, 27, (.aload_n 0), 1, 0, 0, []),
  (false, 28, (.getfield 9), 3, 10, 0, [(2, 0)]),
  (false, 31, (.invokevirtual 28), 3, 74, 1, [(8, 0)]),
  (false, 34, (.invokevirtual 32), 3, 78, 2, [(8, 0)]),
  (false, 37, (.aload_n 0), 1, 0, 0, []),
  (false, 38, (.getfield 9), 3, 10, 0, [(2, 0)]),
  (false, 41, (.invokevirtual 36), 3, 76, 1, [(8, 0)]),
  (false, 44, (.ifCond .eq 7), 3, 51, 0, []),
  (false, 47, .aconst_null, 1, 0, 0, []),
  (false, 48, (.goto 4), 3, 52, 0, []),
  (false, 51, (.aload_n 1), 1, 0, 0, []),
  (false, 52, .areturn, 1, 0, 0, [])]
def kX10_readOne : List ab_E := [
  (false, 0, (.iload_n 1), 1, 0, 0, []),
  (false, 1, (.bipush 12), 2, 0, 0, []),
  (false, 3, (.if_icmp .le 19), 3, 22, 0, []),
  (false, 6, (.aload_n 0), 1, 0, 0, []),
  (false, 7, (.getfield 9), 3, 10, 0, [(2, 0)]),
  (false, 10, (.aload_n 0), 1, 0, 0, []),
  (false, 11, (.getfield 9), 3, 10, 0, [(2, 0)]),
  (false, 14, (.invokevirtual 28), 3, 74, 1, [(8, 0)]),
  (false, 17, (.invokevirtual 32), 3, 78, 2, [(8, 0)]),
  (false, 20, .aconst_null, 1, 0, 0, []),
  (false, 21, .areturn, 1, 0, 0, []),
  (false, 22, (.aload_n 0), 1, 0, 0, []),
  (false, 23, (.getfield 9), 3, 10, 0, [(2, 0)]),
  (false, 26, (.invokevirtual 39), 3, 79, 1, [(8, 0)]),
  (false, 29, (.lookupswitch 73 #[(35, 67), (40, 43), (91, 49), (123, 58)]), 43, 102, 0, [(35, 96), (40, 72), (91, 78), (123, 87)]),
  (false, 72, (.aload_n 0), 1, 0, 0, []),
  (false, 73, (.iload_n 1), 1, 0, 0, []),
  (false, 74, (.invokevirtual 42), 3, 99, 2, [(10, 0)]),
  (false, 77, .areturn, 1, 0, 0, []),
  (false, 78, (.aload_n 0), 1, 0, 0, []),
  (false, 79, (.iconst 2), 1, 0, 0, []),
  (false, 80, (.bipush 93), 2, 0, 0, []),
  (false, 82, (.iload_n 1), 1, 0, 0, []),
  (false, 83, (.invokevirtual 45), 3, 101, 4, [(10, 0)]),
  (false, 86, .areturn, 1, 0, 0, []),
  (false, 87, (.aload_n 0), 1, 0, 0, []),
  (false, 88, (.iconst 3), 1, 0, 0, []),
  (false, 89, (.bipush 125), 2, 0, 0, []),
  (false, 91, (.iload_n 1), 1, 0, 0, []),
  (false, 92, (.invokevirtual 45), 3, 101, 4, [(10, 0)]),
  (false, 95, .areturn, 1, 0, 0, []),
  (false, 96, (.aload_n 0), 1, 0, 0, []),
  (false, 97, (.iload_n 1), 1, 0, 0, []),
  (false, 98, (.invokevirtual 49), 3, 100, 2, [(10, 0)]),
  (false, 101, .areturn, 1, 0, 0, []),
  (false, 102, (.aload_n 0), 1, 0, 0, []),
  (false, 103, (.getfield 9), 3, 10, 0, [(2, 0)]),
  (false, 106, (.invokevirtual 52), 3, 84, 1, [(8, 0)]),
  (false, 109, (.istore_n 2), 1, 0, 0, []),
  (false, 110, (.aload_n 0), 1, 0, 0, []),
  (false, 111, (.getfield 9), 3, 10, 0, [(2, 0)]),
  (false, 114, (.invokevirtual 36), 3, 76, 1, [(8, 0)]),
  (false, 117, (.ifCond .eq 7), 3, 124, 0, []),
  (false, 120, .aconst_null, 1, 0, 0, []),
  (false, 121, (.goto 19), 3, 140, 0, []),
  (false, 124, (.new 55), 3, 9, 6, []),
  (false, 127, .dup, 1, 0, 0, []),
  (false, 128, (.iconst 0), 1, 0, 0, []),
  (false, 129, (.iload_n 2), 1, 0, 0, []),
  (false, 130, (.iconst 0), 1, 0, 0, []),
  (false, 131, (.newarray .int), 2, 0, 0, []),
  (false, 133, (.iconst 0), 1, 0, 0, []),
  (false, 134, (.anewarray 55), 3, 4, 0, []),
  (false, 137, (.invokespecial 57), 3, 86, 5, []),
  (false, 140, .areturn, 1, 0, 0, [])]
def kX10_readPair : List ab_E := [
  (false, 0, (.aload_n 0), 1, 0, 0, []),
  (false, 1, (.getfield 9), 3, 10, 0, [(2, 0)]),
  (false, 4, (.invokevirtual 60), 3, 80, 1, [(8, 0)]),
  (false, 7, (.aload_n 0), 1, 0, 0, []),
  (false, 8, (.iload_n 1), 1, 0, 0, []),
  (false, 9, (.iconst 1), 1, 0, 0, []),
  (false, 10, .iadd, 1, 0, 0, []),
  (false, 11, (.invokevirtual 20), 3, 98, 2, [(10, 0)]),
  (false, 14, (.astore_n 2), 1, 0, 0, []),
  (false, 15, (.aload_n 2), 1, 0, 0, []),
  (false, 16, (.ifnonnull 5), 3, 21, 0, []),
  (false, 19, .aconst_null, 1, 0, 0, []),
  (false, 20, .areturn, 1, 0, 0, []),
  (false, 21, (.aload_n 0), 1, 0, 0, []),
  (false, 22, (.getfield 9), 3, 10, 0, [(2, 0)]),
  (false, 25, (.bipush 44), 2, 0, 0, []),
  (false, 27, (.invokevirtual 63), 3, 82, 2, [(8, 0)]),
  (false, 30, (.aload_n 0), 1, 0, 0, []),
  (false, 31, (.getfield 9), 3, 10, 0, [(2, 0)]),
  (false, 34, (.invokevirtual 36), 3, 76, 1, [(8, 0)]),
  (false, 37, (.ifCond .eq 7), 3, 44, 0, []),
  (false, 40, .aconst_null, 1, 0, 0, []),
  (false, 41, (.goto 10), 3, 51, 0, []),
  (false, 44, (.aload_n 0), 1, 0, 0, []),
  (false, 45, (.iload_n 1), 1, 0, 0, []),
  (false, 46, (.iconst 1), 1, 0, 0, []),
  (false, 47, .iadd, 1, 0, 0, []),
  (false, 48, (.invokevirtual 20), 3, 98, 2, [(10, 0)]),
  (false, 51, (.astore_n 3), 1, 0, 0, []),
  (false, 52, (.aload_n 3), 1, 0, 0, []),
  (false, 53, (.ifnonnull 5), 3, 58, 0, []),
  (false, 56, .aconst_null, 1, 0, 0, []),
  (false, 57, .areturn, 1, 0, 0, []),
  (false, 58, (.aload_n 0), 1, 0, 0, []),
  (false, 59, (.getfield 9), 3, 10, 0, [(2, 0)]),
  (false, 62, (.bipush 41), 2, 0, 0, []),
  (false, 64, (.invokevirtual 63), 3, 82, 2, [(8, 0)]),
  (false, 67, (.aload_n 0), 1, 0, 0, []),
  (false, 68, (.getfield 9), 3, 10, 0, [(2, 0)]),
  (false, 71, (.invokevirtual 36), 3, 76, 1, [(8, 0)]),
  (false, 74, (.ifCond .eq 7), 3, 81, 0, []),
  (false, 77, .aconst_null, 1, 0, 0, []),
  (false, 78, (.goto 9), 3, 87, 0, []),
  (false, 81, (.iconst 1), 1, 0, 0, []),
  (false, 82, (.aload_n 2), 1, 0, 0, []),
  (false, 83, (.aload_n 3), 1, 0, 0, []),
  (false, 84, (.invokestatic 66), 3, 129, 3, []),
  (false, 87, .areturn, 1, 0, 0, [])]
def kX10_readTagged : List ab_E := [
  (false, 0, (.aload_n 0), 1, 0, 0, []),
  (false, 1, (.getfield 9), 3, 10, 0, [(2, 0)]),
  (false, 4, (.invokevirtual 60), 3, 80, 1, [(8, 0)]),
  (false, 7, (.aload_n 0), 1, 0, 0, []),
  (false, 8, (.getfield 9), 3, 10, 0, [(2, 0)]),
  (false, 11, (.iconst 1), 1, 0, 0, []),
  (false, 12, (.invokevirtual 70), 3, 83, 2, [(8, 0)]),
  (false, 15, (.istore_n 2), 1, 0, 0, []),
  (false, 16, (.aload_n 0), 1, 0, 0, []),
  (false, 17, (.getfield 9), 3, 10, 0, [(2, 0)]),
  (false, 20, (.invokevirtual 36), 3, 76, 1, [(8, 0)]),
  (false, 23, (.ifCond .eq 7), 3, 30, 0, []),
  (false, 26, .aconst_null, 1, 0, 0, []),
  (false, 27, (.goto 10), 3, 37, 0, []),
  (false, 30, (.aload_n 0), 1, 0, 0, []),
  (false, 31, (.iload_n 1), 1, 0, 0, []),
  (false, 32, (.iconst 1), 1, 0, 0, []),
  (false, 33, .iadd, 1, 0, 0, []),
  (false, 34, (.invokevirtual 20), 3, 98, 2, [(10, 0)]),
  (false, 37, (.astore_n 3), 1, 0, 0, []),
  (false, 38, (.aload_n 3), 1, 0, 0, []),
  (false, 39, (.ifnonnull 5), 3, 44, 0, []),
  (false, 42, .aconst_null, 1, 0, 0, []),
  (false, 43, .areturn, 1, 0, 0, []),
  (false, 44, (.iconst 1), 1, 0, 0, []),
  (false, 45, (.anewarray 55), 3, 4, 0, []),
  (false, 48, .dup, 1, 0, 0, []),
  (false, 49, (.iconst 0), 1, 0, 0, []),
  (false, 50, (.aload_n 3), 1, 0, 0, []),
  (false, 51, .aastore, 1, 0, 0, []),
  (false, 52, (.astore 4), 2, 0, 0, []),
  (false, 54, (.new 55), 3, 9, 6, []),
  (false, 57, .dup, 1, 0, 0, []),
  (false, 58, (.iconst 4), 1, 0, 0, []),
  (false, 59, (.iload_n 2), 1, 0, 0, []),
  (false, 60, (.iconst 0), 1, 0, 0, []),
  (false, 61, (.newarray .int), 2, 0, 0, []),
  (false, 63, (.aload 4), 2, 0, 0, []),
  (false, 65, (.invokespecial 57), 3, 86, 5, []),
  (false, 68, .areturn, 1, 0, 0, [])]
def kX10_readMany : List ab_E := [
  (false, 0, (.aload_n 0), 1, 0, 0, []),
  (false, 1, (.getfield 9), 3, 10, 0, [(2, 0)]),
  (false, 4, (.invokevirtual 60), 3, 80, 1, [(8, 0)]),
  (false, 7, (.new 74), 3, 3, 3, []),
  (false, 10, .dup, 1, 0, 0, []),
  (false, 11, (.invokespecial 76), 3, 38, 1, []),
  (false, 14, (.astore 4), 2, 0, 0, []),
  (false, 16, (.aload_n 0), 1, 0, 0, []),
  (false, 17, (.getfield 9), 3, 10, 0, [(2, 0)]),
  (false, 20, (.iload_n 2), 1, 0, 0, []),
  (false, 21, (.invokevirtual 77), 3, 81, 2, [(8, 0)]),
  (false, 24, (.ifCond .eq 10), 3, 34, 0, []),
  (false, 27, (.aload 4), 2, 0, 0, []),
  (false, 29, (.iload_n 1), 1, 0, 0, []),
  (false, 30, (.invokevirtual 81), 3, 42, 2, [(3, 0)]),
  (false, 33, .areturn, 1, 0, 0, []),
  (false, 34, (.iconst 1), 1, 0, 0, []),
  (false, 35, (.istore 5), 2, 0, 0, []),
  (true, 37, (.iload 5), 2, 0, 0, []),
  (false, 39, (.bipush 12), 2, 0, 0, []),
  (false, 41, (.if_icmp .gt 134), 3, 175, 0, []),
  (false, 44, (.iload_n 1), 1, 0, 0, []),
  (false, 45, (.iconst 3), 1, 0, 0, []),
  (false, 46, (.if_icmp .ne 12), 3, 58, 0, []),
  (false, 49, (.aload_n 0), 1, 0, 0, []),
  (false, 50, (.aload 4), 2, 0, 0, []),
  (false, 52, (.invokevirtual 84), 3, 102, 2, [(10, 0)]),
  (false, 55, (.goto 4), 3, 59, 0, []),
  (false, 58, (.iconst 0), 1, 0, 0, []),
  (false, 59, (.istore 6), 2, 0, 0, []),
  (false, 61, (.aload_n 0), 1, 0, 0, []),
  (false, 62, (.getfield 9), 3, 10, 0, [(2, 0)]),
  (false, 65, (.invokevirtual 36), 3, 76, 1, [(8, 0)]),
  (false, 68, (.ifCond .eq 7), 3, 75, 0, []),
  (false, 71, .aconst_null, 1, 0, 0, []),
  (false, 72, (.goto 10), 3, 82, 0, []),
  (false, 75, (.aload_n 0), 1, 0, 0, []),
  (false, 76, (.iload_n 3), 1, 0, 0, []),
  (false, 77, (.iconst 1), 1, 0, 0, []),
  (false, 78, .iadd, 1, 0, 0, []),
  (false, 79, (.invokevirtual 20), 3, 98, 2, [(10, 0)]),
  (false, 82, (.astore 7), 2, 0, 0, []),
  (false, 84, (.aload 7), 2, 0, 0, []),
  (false, 86, (.ifnonnull 5), 3, 91, 0, []),
  (false, 89, .aconst_null, 1, 0, 0, []),
  (false, 90, .areturn, 1, 0, 0, []),
  (false, 91, (.iload_n 1), 1, 0, 0, []),
  (false, 92, (.iconst 3), 1, 0, 0, []),
  (false, 93, (.if_icmp .ne 15), 3, 108, 0, []),
  (false, 96, (.aload 4), 2, 0, 0, []),
  (false, 98, (.iload 6), 2, 0, 0, []),
  (false, 100, (.aload 7), 2, 0, 0, []),
  (false, 102, (.invokevirtual 88), 3, 41, 3, [(3, 0)]),
  (false, 105, (.goto 11), 3, 116, 0, []),
  (false, 108, (.aload 4), 2, 0, 0, []),
  (false, 110, (.iconst 0), 1, 0, 0, []),
  (false, 111, (.aload 7), 2, 0, 0, []),
  (false, 113, (.invokevirtual 92), 3, 39, 3, [(3, 0)]),
  (false, 116, (.aload_n 0), 1, 0, 0, []),
  (false, 117, (.getfield 9), 3, 10, 0, [(2, 0)]),
  (false, 120, (.iload_n 2), 1, 0, 0, []),
  (false, 121, (.invokevirtual 77), 3, 81, 2, [(8, 0)]),
  (false, 124, (.ifCond .eq 10), 3, 134, 0, []),
  (false, 127, (.aload 4), 2, 0, 0, []),
  (false, 129, (.iload_n 1), 1, 0, 0, []),
  (false, 130, (.invokevirtual 81), 3, 42, 2, [(3, 0)]),
  (false, 133, .areturn, 1, 0, 0, []),
  (false, 134, (.iload 5), 2, 0, 0, []),
  (false, 136, (.bipush 12), 2, 0, 0, []),
  (false, 138, (.if_icmp .eq 15), 3, 153, 0, []),
  (false, 141, (.aload_n 0), 1, 0, 0, []),
  (false, 142, (.getfield 9), 3, 10, 0, [(2, 0)]),
  (false, 145, (.bipush 44), 2, 0, 0, []),
  (false, 147, (.invokevirtual 77), 3, 81, 2, [(8, 0)]),
  (false, 150, (.ifCond .ne 19), 3, 169, 0, []),
  (false, 153, (.aload_n 0), 1, 0, 0, []),
  (false, 154, (.getfield 9), 3, 10, 0, [(2, 0)]),
  (false, 157, (.aload_n 0), 1, 0, 0, []),
  (false, 158, (.getfield 9), 3, 10, 0, [(2, 0)]),
  (false, 161, (.invokevirtual 28), 3, 74, 1, [(8, 0)]),
  (false, 164, (.invokevirtual 32), 3, 78, 2, [(8, 0)]),
  (false, 167, .aconst_null, 1, 0, 0, []),
  (false, 168, .areturn, 1, 0, 0, []),
  (false, 169, (.iinc 5 1), 3, 0, 0, []),
  (false, 172, (.goto (-135)), 3, 37, 0, []),
  (false, 175, .aconst_null, 1, 0, 0, []),
  (false, 176, .areturn, 1, 0, 0, [])]
def kX10_readNewKey : List ab_E := [
  (false, 0, (.aload_n 0), 1, 0, 0, []),
  (false, 1, (.getfield 9), 3, 10, 0, [(2, 0)]),
  (false, 4, (.invokevirtual 28), 3, 74, 1, [(8, 0)]),
  (false, 7, (.istore_n 2), 1, 0, 0, []),
  (false, 8, (.aload_n 0), 1, 0, 0, []),
  (false, 9, (.getfield 9), 3, 10, 0, [(2, 0)]),
  (false, 12, (.invokevirtual 95), 3, 85, 1, [(8, 0)]),
  (false, 15, (.istore_n 3), 1, 0, 0, []),
  (false, 16, (.aload_n 1), 1, 0, 0, []),
  (false, 17, (.iload_n 3), 1, 0, 0, []),
  (false, 18, (.invokevirtual 98), 3, 40, 2, [(3, 0)]),
  (false, 21, (.ifCond .eq 11), 3, 32, 0, []),
  (false, 24, (.aload_n 0), 1, 0, 0, []),
  (false, 25, (.getfield 9), 3, 10, 0, [(2, 0)]),
  (false, 28, (.iload_n 2), 1, 0, 0, []),
  (false, 29, (.invokevirtual 32), 3, 78, 2, [(8, 0)]),
  (false, 32, (.aload_n 0), 1, 0, 0, []),
  (false, 33, (.getfield 9), 3, 10, 0, [(2, 0)]),
  (false, 36, (.bipush 58), 2, 0, 0, []),
  (false, 38, (.invokevirtual 63), 3, 82, 2, [(8, 0)]),
  (false, 41, (.iload_n 3), 1, 0, 0, []),
  (false, 42, .ireturn, 1, 0, 0, [])]
def kX11_init : List ab_E := [
  (false, 0, (.aload_n 0), 1, 0, 0, []),
  (false, 1, (.invokespecial 3), 3, 999, 0, []),
  (false, 4, (.aload_n 0), 1, 0, 0, []),
  (false, 5, (.new 9), 3, 8, 4, []),
  (false, 8, .dup, 1, 0, 0, []),
  (false, 9, (.invokespecial 11), 3, 69, 1, []),
  (false, 12, (.putfield 12), 3, 11, 0, [(2, 0)]),
  (false, 15, (.aload_n 0), 1, 0, 0, []),
  (false, 16, (.new 18), 3, 10, 1, []),
  (false, 19, .dup, 1, 0, 0, []),
  (false, 20, (.aload_n 0), 1, 0, 0, []),
  (false, 21, (.getfield 12), 3, 11, 0, [(2, 0)]),
  (false, 24, (.invokespecial 20), 3, 96, 2, []),
  (false, 27, (.putfield 23), 3, 11, 1, [(2, 0)]),
  (false, 30, (.aload_n 0), 1, 0, 0, []),
  (false, 31, (.new 27), 3, 5, 3, []),
  (false, 34, .dup, 1, 0, 0, []),
  (false, 35, (.aload_n 0), 1, 0, 0, []),
  (false, 36, (.getfield 12), 3, 11, 0, [(2, 0)]),
  (false, 39, (.invokespecial 29), 3, 53, 2, []),
  (false, 42, (.putfield 30), 3, 11, 2, [(2, 0)]),
  (false, 45, (.aload_n 0), 1, 0, 0, []),
  (false, 46, (.bipush 12), 2, 0, 0, []),
  (false, 48, (.anewarray 34), 3, 3, 0, []),
  (false, 51, (.putfield 36), 3, 11, 3, [(2, 0)]),
  (false, 54, (.aload_n 0), 1, 0, 0, []),
  (false, 55, (.bipush 8), 2, 0, 0, []),
  (false, 57, (.anewarray 40), 3, 2, 0, []),
  (false, 60, (.putfield 42), 3, 11, 4, [(2, 0)]),
  (false, 63, (.aload_n 0), 1, 0, 0, []),
  (false, 64, (.new 46), 3, 7, 1, []),
  (false, 67, .dup, 1, 0, 0, []),
  (false, 68, (.invokespecial 48), 3, 65, 1, []),
  (false, 71, (.putfield 49), 3, 11, 5, [(2, 0)]),
  (false, 74, (.aload_n 0), 1, 0, 0, []),
  (false, 75, (.new 53), 3, 0, 7, []),
  (false, 78, .dup, 1, 0, 0, []),
  (false, 79, (.aload_n 0), 1, 0, 0, []),
  (false, 80, (.getfield 49), 3, 11, 5, [(2, 0)]),
  (false, 83, (.invokespecial 55), 3, 0, 2, []),
  (false, 86, (.putfield 58), 3, 11, 6, [(2, 0)]),
  (false, 89, (.aload_n 0), 1, 0, 0, []),
  (false, 90, (.new 62), 3, 2, 3, []),
  (false, 93, .dup, 1, 0, 0, []),
  (false, 94, (.invokespecial 64), 3, 20, 1, []),
  (false, 97, (.putfield 65), 3, 11, 7, [(2, 0)]),
  (false, 100, (.aload_n 0), 1, 0, 0, []),
  (false, 101, (.new 69), 3, 1, 2, []),
  (false, 104, .dup, 1, 0, 0, []),
  (false, 105, (.invokespecial 71), 3, 14, 1, []),
  (false, 108, (.putfield 72), 3, 11, 8, [(2, 0)]),
  (false, 111, (.aload_n 0), 1, 0, 0, []),
  (false, 112, (.bipush 12), 2, 0, 0, []),
  (false, 114, (.anewarray 76), 3, 4, 0, []),
  (false, 117, (.putfield 78), 3, 11, 9, [(2, 0)]),
  (false, 120, (.aload_n 0), 1, 0, 0, []),
  (false, 121, (.bipush 8), 2, 0, 0, []),
  (false, 123, (.anewarray 40), 3, 2, 0, []),
  (false, 126, (.putfield 82), 3, 11, 10, [(2, 0)]),
  (false, 129, (.aload_n 0), 1, 0, 0, []),
  (false, 130, (.iconst 0), 1, 0, 0, []),
  (false, 131, (.putfield 85), 3, 11, 11, [(1, 0)]),
  (false, 134, (.iconst 0), 1, 0, 0, []),
  (false, 135, (.istore_n 1), 1, 0, 0, []),
  (true, 136, (.iload_n 1), 1, 0, 0, []),
  (false, 137, (.bipush 12), 2, 0, 0, []),
  (false, 139, (.if_icmp .ge 38), 3, 177, 0, []),
  (false, 142, (.aload_n 0), 1, 0, 0, []),
  (false, 143, (.getfield 36), 3, 11, 3, [(2, 0)]),
  (false, 146, (.iload_n 1), 1, 0, 0, []),
  (false, 147, (.new 34), 3, 6, 3, []),
  (false, 150, .dup, 1, 0, 0, []),
  (false, 151, (.new 76), 3, 9, 6, []),
  (false, 154, .dup, 1, 0, 0, []),
  (false, 155, (.iconst 0), 1, 0, 0, []),
  (false, 156, (.iconst 0), 1, 0, 0, []),
  (false, 157, (.iconst 0), 1, 0, 0, []),
  (false, 158, (.newarray .int), 2, 0, 0, []),
  (false, 160, (.iconst 0), 1, 0, 0, []),
  (false, 161, (.anewarray 76), 3, 4, 0, []),
  (false, 164, (.invokespecial 89), 3, 86, 5, []),
  (false, 167, (.invokespecial 92), 3, 59, 2, []),
  (false, 170, .aastore, 1, 0, 0, []),
  (false, 171, (.iinc 1 1), 3, 0, 0, []),
  (false, 174, (.goto (-38)), 3, 136, 0, []),
  (false, 177, (.iconst 0), 1, 0, 0, []),
  (false, 178, (.istore_n 1), 1, 0, 0, []),
  (true, 179, (.iload_n 1), 1, 0, 0, []),
  (false, 180, (.bipush 8), 2, 0, 0, []),
  (false, 182, (.if_icmp .ge 28), 3, 210, 0, []),
  (false, 185, (.aload_n 0), 1, 0, 0, []),
  (false, 186, (.getfield 42), 3, 11, 4, [(2, 0)]),
  (false, 189, (.iload_n 1), 1, 0, 0, []),
  (false, 190, (.new 40), 3, 4, 2, []),
  (false, 193, .dup, 1, 0, 0, []),
  (false, 194, (.iconst 0), 1, 0, 0, []),
  (false, 195, (.newarray .int), 2, 0, 0, []),
  (false, 197, (.iconst 0), 1, 0, 0, []),
  (false, 198, (.newarray .int), 2, 0, 0, []),
  (false, 200, (.invokespecial 95), 3, 45, 3, []),
  (false, 203, .aastore, 1, 0, 0, []),
  (false, 204, (.iinc 1 1), 3, 0, 0, []),
  (false, 207, (.goto (-28)), 3, 179, 0, []),
  (false, 210, .return_, 1, 0, 0, [])]
def kX11_feed : List ab_E := [
  (false, 0, (.iload_n 1), 1, 0, 0, []),
  (false, 1, (.iconst 1), 1, 0, 0, []),
  (false, 2, (.if_icmp .lt 8), 3, 10, 0, []),
  (false, 5, (.iload_n 1), 1, 0, 0, []),
  (false, 6, (.iconst 4), 1, 0, 0, []),
  (false, 7, (.if_icmp .le 6), 3, 13, 0, []),
  (false, 10, (.bipush (-2)), 2, 0, 0, []),
  (false, 12, .ireturn, 1, 0, 0, []),
  (false, 13, (.aload_n 0), 1, 0, 0, []),
  (false, 14, (.getfield 12), 3, 11, 0, [(2, 0)]),
  (false, 17, (.invokevirtual 98), 3, 70, 1, [(8, 0)]),
  (false, 20, (.iload_n 1), 1, 0, 0, []),
  (false, 21, .iadd, 1, 0, 0, []),
  (false, 22, (.bipush 100), 2, 0, 0, []),
  (false, 24, (.if_icmp .le 6), 3, 30, 0, []),
  (false, 27, (.bipush (-4)), 2, 0, 0, []),
  (false, 29, .ireturn, 1, 0, 0, []),
  (false, 30, (.iconst 0), 1, 0, 0, []),
  (false, 31, (.istore_n 3), 1, 0, 0, []),
  (true, 32, (.iload_n 3), 1, 0, 0, []),
  (false, 33, (.iload_n 1), 1, 0, 0, []),
  (false, 34, (.if_icmp .ge 26), 3, 60, 0, []),
  (false, 37, (.aload_n 0), 1, 0, 0, []),
  (false, 38, (.getfield 12), 3, 11, 0, [(2, 0)]),
  (false, 41, (.iload_n 2), 1, 0, 0, []),
  (false, 42, (.bipush 8), 2, 0, 0, []),
  (false, 44, (.iload_n 3), 1, 0, 0, []),
  (false, 45, .imul, 1, 0, 0, []),
  (false, 46, .iushr, 1, 0, 0, []),
  (false, 47, (.sipush 255), 3, 0, 0, []),
  (false, 50, .iand, 1, 0, 0, []),
  (false, 51, (.invokevirtual 102), 3, 71, 2, [(8, 0)]),
  (false, 54, (.iinc 3 1), 3, 0, 0, []),
  (false, 57, (.goto (-25)), 3, 32, 0, []),
  (false, 60, (.aload_n 0), 1, 0, 0, []),
  (false, 61, (.getfield 12), 3, 11, 0, [(2, 0)]),
  (false, 64, (.invokevirtual 98), 3, 70, 1, [(8, 0)]),
  (false, 67, .ireturn, 1, 0, 0, [])]
def kX11_thing : List ab_E := [
  (false, 0, (.iload_n 1), 1, 0, 0, []),
  (false, 1, (.invokestatic 106), 3, 123, 1, []),
  (false, 4, (.ifCond .ne 6), 3, 10, 0, []),
  (false, 7, (.bipush (-2)), 2, 0, 0, []),
  (false, 9, .ireturn, 1, 0, 0, []),
  (false, 10, (.aload_n 0), 1, 0, 0, []),
  (false, 11, (.getfield 23), 3, 11, 1, [(2, 0)]),
  (false, 14, (.invokevirtual 110), 3, 97, 1, [(10, 0)]),
  (false, 17, (.astore_n 2), 1, 0, 0, []),
  (false, 18, (.aload_n 0), 1, 0, 0, []),
  (false, 19, (.getfield 12), 3, 11, 0, [(2, 0)]),
  (false, 22, (.invokevirtual 114), 3, 75, 1, [(8, 0)]),
  (false, 25, (.istore_n 3), 1, 0, 0, []),
  (false, 26, (.aload_n 0), 1, 0, 0, []),
  (false, 27, (.getfield 12), 3, 11, 0, [(2, 0)]),
  (false, 30, (.invokevirtual 117), 3, 72, 1, [(8, 0)]),
  (false, 33, (.aload_n 2), 1, 0, 0, []),
  (false, 34, (.ifnonnull 8), 3, 42, 0, []),
  (false, 37, (.bipush (-100)), 2, 0, 0, []),
  (false, 39, (.iload_n 3), 1, 0, 0, []),
  (false, 40, .isub, 1, 0, 0, []),
  (false, 41, .ireturn, 1, 0, 0, []),
  (false, 42, (.aload_n 0), 1, 0, 0, []),
  (false, 43, (.getfield 49), 3, 11, 5, [(2, 0)]),
  (false, 46, (.aload_n 2), 1, 0, 0, []),
  (false, 47, (.getfield 120), 3, 9, 2, [(0, 0)]),
  (false, 50, (.invokevirtual 124), 3, 68, 2, [(7, 0)]),
  (false, 53, (.ifCond .ne 6), 3, 59, 0, []),
  (false, 56, (.bipush (-17)), 2, 0, 0, []),
  (false, 58, .ireturn, 1, 0, 0, []),
  (false, 59, (.aload_n 0), 1, 0, 0, []),
  (false, 60, (.getfield 36), 3, 11, 3, [(2, 0)]),
  (false, 63, (.iload_n 1), 1, 0, 0, []),
  (false, 64, .aaload, 1, 0, 0, []),
  (false, 65, (.aload_n 2), 1, 0, 0, []),
  (false, 66, (.invokevirtual 127), 3, 62, 2, [(6, 0)]),
  (false, 69, (.aload_n 2), 1, 0, 0, []),
  (false, 70, (.getfield 120), 3, 9, 2, [(0, 0)]),
  (false, 73, .ireturn, 1, 0, 0, [])]
def kX11_path : List ab_E := [
  (false, 0, (.iload_n 1), 1, 0, 0, []),
  (false, 1, (.invokestatic 130), 3, 124, 1, []),
  (false, 4, (.ifCond .ne 6), 3, 10, 0, []),
  (false, 7, (.bipush (-2)), 2, 0, 0, []),
  (false, 9, .ireturn, 1, 0, 0, []),
  (false, 10, (.aload_n 0), 1, 0, 0, []),
  (false, 11, (.getfield 30), 3, 11, 2, [(2, 0)]),
  (false, 14, (.invokevirtual 133), 3, 54, 1, [(5, 0)]),
  (false, 17, (.astore_n 2), 1, 0, 0, []),
  (false, 18, (.aload_n 0), 1, 0, 0, []),
  (false, 19, (.getfield 12), 3, 11, 0, [(2, 0)]),
  (false, 22, (.invokevirtual 114), 3, 75, 1, [(8, 0)]),
  (false, 25, (.istore_n 3), 1, 0, 0, []),
  (false, 26, (.aload_n 0), 1, 0, 0, []),
  (false, 27, (.getfield 12), 3, 11, 0, [(2, 0)]),
  (false, 30, (.invokevirtual 117), 3, 72, 1, [(8, 0)]),
  (false, 33, (.aload_n 2), 1, 0, 0, []),
  (false, 34, (.ifnonnull 8), 3, 42, 0, []),
  (false, 37, (.bipush (-100)), 2, 0, 0, []),
  (false, 39, (.iload_n 3), 1, 0, 0, []),
  (false, 40, .isub, 1, 0, 0, []),
  (false, 41, .ireturn, 1, 0, 0, []),
  (false, 42, (.aload_n 0), 1, 0, 0, []),
  (false, 43, (.getfield 42), 3, 11, 4, [(2, 0)]),
  (false, 46, (.iload_n 1), 1, 0, 0, []),
  (false, 47, (.aload_n 2), 1, 0, 0, []),
  (false, 48, .aastore, 1, 0, 0, []),
  (false, 49, (.aload_n 2), 1, 0, 0, []),
  (false, 50, (.invokevirtual 136), 3, 46, 1, [(4, 0)]),
  (false, 53, .ireturn, 1, 0, 0, [])]
def kX11_join : List ab_E := [
  (false, 0, (.iload_n 1), 1, 0, 0, []),
  (false, 1, (.invokestatic 130), 3, 124, 1, []),
  (false, 4, (.ifCond .eq 10), 3, 14, 0, []),
  (false, 7, (.iload_n 2), 1, 0, 0, []),
  (false, 8, (.invokestatic 130), 3, 124, 1, []),
  (false, 11, (.ifCond .ne 6), 3, 17, 0, []),
  (false, 14, (.bipush (-2)), 2, 0, 0, []),
  (false, 16, .ireturn, 1, 0, 0, []),
  (false, 17, (.aload_n 0), 1, 0, 0, []),
  (false, 18, (.getfield 42), 3, 11, 4, [(2, 0)]),
  (false, 21, (.iload_n 1), 1, 0, 0, []),
  (false, 22, .aaload, 1, 0, 0, []),
  (false, 23, (.invokevirtual 136), 3, 46, 1, [(4, 0)]),
  (false, 26, (.aload_n 0), 1, 0, 0, []),
  (false, 27, (.getfield 42), 3, 11, 4, [(2, 0)]),
  (false, 30, (.iload_n 2), 1, 0, 0, []),
  (false, 31, .aaload, 1, 0, 0, []),
  (false, 32, (.invokevirtual 136), 3, 46, 1, [(4, 0)]),
  (false, 35, .iadd, 1, 0, 0, []),
  (false, 36, (.bipush 8), 2, 0, 0, []),
  (false, 38, (.if_icmp .le 6), 3, 44, 0, []),
  (false, 41, (.bipush (-4)), 2, 0, 0, []),
  (false, 43, .ireturn, 1, 0, 0, []),
  (false, 44, (.aload_n 0), 1, 0, 0, []),
  (false, 45, (.getfield 42), 3, 11, 4, [(2, 0)]),
  (false, 48, (.iload_n 1), 1, 0, 0, []),
  (false, 49, (.aload_n 0), 1, 0, 0, []),
  (false, 50, (.getfield 42), 3, 11, 4, [(2, 0)]),
  (false, 53, (.iload_n 1), 1, 0, 0, []),
  (false, 54, .aaload, 1, 0, 0, []),
  (false, 55, (.aload_n 0), 1, 0, 0, []),
  (false, 56, (.getfield 42), 3, 11, 4, [(2, 0)]),
  (false, 59, (.iload_n 2), 1, 0, 0, []),
  (false, 60, .aaload, 1, 0, 0, []),
  (false, 61, (.invokevirtual 137), 3, 47, 2, [(4, 0)]),
  (false, 64, .aastore, 1, 0, 0, []),
  (false, 65, (.aload_n 0), 1, 0, 0, []),
  (false, 66, (.getfield 42), 3, 11, 4, [(2, 0)]),
  (false, 69, (.iload_n 1), 1, 0, 0, []),
  (false, 70, .aaload, 1, 0, 0, []),
  (false, 71, (.invokevirtual 136), 3, 46, 1, [(4, 0)]),
  (false, 74, .ireturn, 1, 0, 0, [])]
def kX11_over : List ab_E := [
  (false, 0, (.iload_n 1), 1, 0, 0, []),
  (false, 1, (.invokestatic 106), 3, 123, 1, []),
  (false, 4, (.ifCond .eq 27), 3, 31, 0, []),
  (false, 7, (.iload_n 2), 1, 0, 0, []),
  (false, 8, (.invokestatic 106), 3, 123, 1, []),
  (false, 11, (.ifCond .eq 20), 3, 31, 0, []),
  (false, 14, (.iload_n 3), 1, 0, 0, []),
  (false, 15, (.invokestatic 130), 3, 124, 1, []),
  (false, 18, (.ifCond .eq 13), 3, 31, 0, []),
  (false, 21, (.iload 4), 2, 0, 0, []),
  (false, 23, (.iload 5), 2, 0, 0, []),
  (false, 25, (.invokestatic 141), 3, 125, 2, []),
  (false, 28, (.ifCond .ne 6), 3, 34, 0, []),
  (false, 31, (.bipush (-2)), 2, 0, 0, []),
  (false, 33, .ireturn, 1, 0, 0, []),
  (false, 34, (.iload 4), 2, 0, 0, []),
  (false, 36, (.bipush 7), 2, 0, 0, []),
  (false, 38, (.if_icmp .ne 12), 3, 50, 0, []),
  (false, 41, (.aload_n 0), 1, 0, 0, []),
  (false, 42, (.iload 5), 2, 0, 0, []),
  (false, 44, (.invokevirtual 145), 3, 126, 2, [(11, 0)]),
  (false, 47, (.goto 4), 3, 51, 0, []),
  (false, 50, .aconst_null, 1, 0, 0, []),
  (false, 51, (.astore 6), 2, 0, 0, []),
  (false, 53, (.aload_n 0), 1, 0, 0, []),
  (false, 54, (.getfield 58), 3, 11, 6, [(2, 0)]),
  (false, 57, (.aload_n 0), 1, 0, 0, []),
  (false, 58, (.iload_n 2), 1, 0, 0, []),
  (false, 59, (.invokevirtual 145), 3, 126, 2, [(11, 0)]),
  (false, 62, (.aload_n 0), 1, 0, 0, []),
  (false, 63, (.getfield 42), 3, 11, 4, [(2, 0)]),
  (false, 66, (.iload_n 3), 1, 0, 0, []),
  (false, 67, .aaload, 1, 0, 0, []),
  (false, 68, (.iload 4), 2, 0, 0, []),
  (false, 70, (.iload 5), 2, 0, 0, []),
  (false, 72, (.aload 6), 2, 0, 0, []),
  (false, 74, (.invokevirtual 149), 3, 1, 6, [(0, 0)]),
  (false, 77, (.astore 7), 2, 0, 0, []),
  (false, 79, (.aload 7), 2, 0, 0, []),
  (false, 81, (.ifnonnull 6), 3, 87, 0, []),
  (false, 84, (.bipush (-17)), 2, 0, 0, []),
  (false, 86, .ireturn, 1, 0, 0, []),
  (false, 87, (.aload 7), 2, 0, 0, []),
  (false, 89, (.invokevirtual 153), 3, 91, 1, [(9, 0)]),
  (false, 92, (.ifCond .eq 6), 3, 98, 0, []),
  (false, 95, (.bipush (-4)), 2, 0, 0, []),
  (false, 97, .ireturn, 1, 0, 0, []),
  (false, 98, (.aload_n 0), 1, 0, 0, []),
  (false, 99, (.getfield 36), 3, 11, 3, [(2, 0)]),
  (false, 102, (.iload_n 1), 1, 0, 0, []),
  (false, 103, .aaload, 1, 0, 0, []),
  (false, 104, (.aload 7), 2, 0, 0, []),
  (false, 106, (.invokevirtual 127), 3, 62, 2, [(6, 0)]),
  (false, 109, (.aload_n 0), 1, 0, 0, []),
  (false, 110, (.getfield 58), 3, 11, 6, [(2, 0)]),
  (false, 113, (.invokevirtual 157), 3, 2, 1, [(0, 0)]),
  (false, 116, .ireturn, 1, 0, 0, [])]
def kX11_put : List ab_E := [
  (false, 0, (.iload_n 1), 1, 0, 0, []),
  (false, 1, (.invokestatic 106), 3, 123, 1, []),
  (false, 4, (.ifCond .eq 27), 3, 31, 0, []),
  (false, 7, (.iload_n 3), 1, 0, 0, []),
  (false, 8, (.invokestatic 106), 3, 123, 1, []),
  (false, 11, (.ifCond .eq 20), 3, 31, 0, []),
  (false, 14, (.iload 4), 2, 0, 0, []),
  (false, 16, (.invokestatic 106), 3, 123, 1, []),
  (false, 19, (.ifCond .eq 12), 3, 31, 0, []),
  (false, 22, (.iload_n 2), 1, 0, 0, []),
  (false, 23, (.ifCond .lt 8), 3, 31, 0, []),
  (false, 26, (.iload_n 2), 1, 0, 0, []),
  (false, 27, (.iconst 2), 1, 0, 0, []),
  (false, 28, (.if_icmp .le 6), 3, 34, 0, []),
  (false, 31, (.bipush (-2)), 2, 0, 0, []),
  (false, 33, .ireturn, 1, 0, 0, []),
  (false, 34, (.iload_n 2), 1, 0, 0, []),
  (false, 35, (.iconst 2), 1, 0, 0, []),
  (false, 36, (.if_icmp .ne 7), 3, 43, 0, []),
  (false, 39, (.iconst 1), 1, 0, 0, []),
  (false, 40, (.goto 4), 3, 44, 0, []),
  (false, 43, (.iconst 0), 1, 0, 0, []),
  (false, 44, (.istore 6), 2, 0, 0, []),
  (false, 46, (.iload 6), 2, 0, 0, []),
  (false, 48, (.ifCond .eq 18), 3, 66, 0, []),
  (false, 51, (.iload 5), 2, 0, 0, []),
  (false, 53, (.ifCond .lt 10), 3, 63, 0, []),
  (false, 56, (.iload 5), 2, 0, 0, []),
  (false, 58, (.bipush 26), 2, 0, 0, []),
  (false, 60, (.if_icmp .lt 6), 3, 66, 0, []),
  (false, 63, (.bipush (-2)), 2, 0, 0, []),
  (false, 65, .ireturn, 1, 0, 0, []),
  (false, 66, (.iload 6), 2, 0, 0, []),
  (false, 68, (.ifCond .eq 18), 3, 86, 0, []),
  (false, 71, (.aload_n 0), 1, 0, 0, []),
  (false, 72, (.iload_n 3), 1, 0, 0, []),
  (false, 73, (.invokevirtual 145), 3, 126, 2, [(11, 0)]),
  (false, 76, (.getfield 160), 3, 9, 0, [(0, 0)]),
  (false, 79, (.iconst 3), 1, 0, 0, []),
  (false, 80, (.if_icmp .eq 6), 3, 86, 0, []),
  (false, 83, (.bipush (-3)), 2, 0, 0, []),
  (false, 85, .ireturn, 1, 0, 0, []),
  (false, 86, (.aload_n 0), 1, 0, 0, []),
  (false, 87, (.getfield 49), 3, 11, 5, [(2, 0)]),
  (false, 90, (.iconst 1), 1, 0, 0, []),
  (false, 91, (.invokevirtual 163), 3, 67, 2, [(7, 0)]),
  (false, 94, (.ifCond .ne 6), 3, 100, 0, []),
  (false, 97, (.bipush (-17)), 2, 0, 0, []),
  (false, 99, .ireturn, 1, 0, 0, []),
  (false, 100, (.iload 6), 2, 0, 0, []),
  (false, 102, (.ifCond .eq 24), 3, 126, 0, []),
  (false, 105, (.aload_n 0), 1, 0, 0, []),
  (false, 106, (.iload_n 3), 1, 0, 0, []),
  (false, 107, (.invokevirtual 145), 3, 126, 2, [(11, 0)]),
  (false, 110, (.iload 5), 2, 0, 0, []),
  (false, 112, (.iconst 1), 1, 0, 0, []),
  (false, 113, .iadd, 1, 0, 0, []),
  (false, 114, (.aload_n 0), 1, 0, 0, []),
  (false, 115, (.iload 4), 2, 0, 0, []),
  (false, 117, (.invokevirtual 145), 3, 126, 2, [(11, 0)]),
  (false, 120, (.invokestatic 166), 3, 130, 3, []),
  (false, 123, (.goto 26), 3, 149, 0, []),
  (false, 126, (.iload_n 2), 1, 0, 0, []),
  (false, 127, (.ifCond .ne 7), 3, 134, 0, []),
  (false, 130, (.iconst 1), 1, 0, 0, []),
  (false, 131, (.goto 4), 3, 135, 0, []),
  (false, 134, (.iconst 2), 1, 0, 0, []),
  (false, 135, (.aload_n 0), 1, 0, 0, []),
  (false, 136, (.iload_n 3), 1, 0, 0, []),
  (false, 137, (.invokevirtual 145), 3, 126, 2, [(11, 0)]),
  (false, 140, (.aload_n 0), 1, 0, 0, []),
  (false, 141, (.iload 4), 2, 0, 0, []),
  (false, 143, (.invokevirtual 145), 3, 126, 2, [(11, 0)]),
  (false, 146, (.invokestatic 170), 3, 129, 3, []),
  (false, 149, (.astore 7), 2, 0, 0, []),
  (false, 151, (.aload 7), 2, 0, 0, []),
  (false, 153, (.invokevirtual 153), 3, 91, 1, [(9, 0)]),
  (false, 156, (.ifCond .eq 6), 3, 162, 0, []),
  (false, 159, (.bipush (-4)), 2, 0, 0, []),
  (false, 161, .ireturn, 1, 0, 0, []),
  (false, 162, (.aload_n 0), 1, 0, 0, []),
  (false, 163, (.getfield 49), 3, 11, 5, [(2, 0)]),
  (false, 166, (.iconst 1), 1, 0, 0, []),
  (false, 167, (.invokevirtual 124), 3, 68, 2, [(7, 0)]),
  (false, 170, .pop, 1, 0, 0, []),
  (false, 171, (.aload_n 0), 1, 0, 0, []),
  (false, 172, (.getfield 36), 3, 11, 3, [(2, 0)]),
  (false, 175, (.iload_n 1), 1, 0, 0, []),
  (false, 176, .aaload, 1, 0, 0, []),
  (false, 177, (.aload 7), 2, 0, 0, []),
  (false, 179, (.invokevirtual 127), 3, 62, 2, [(6, 0)]),
  (false, 182, (.aload 7), 2, 0, 0, []),
  (false, 184, (.getfield 120), 3, 9, 2, [(0, 0)]),
  (false, 187, .ireturn, 1, 0, 0, [])]
def kX11_take : List ab_E := [
  (false, 0, (.iload_n 1), 1, 0, 0, []),
  (false, 1, (.invokestatic 106), 3, 123, 1, []),
  (false, 4, (.ifCond .eq 17), 3, 21, 0, []),
  (false, 7, (.iload_n 2), 1, 0, 0, []),
  (false, 8, (.invokestatic 106), 3, 123, 1, []),
  (false, 11, (.ifCond .eq 10), 3, 21, 0, []),
  (false, 14, (.iload_n 3), 1, 0, 0, []),
  (false, 15, (.invokestatic 130), 3, 124, 1, []),
  (false, 18, (.ifCond .ne 6), 3, 24, 0, []),
  (false, 21, (.bipush (-2)), 2, 0, 0, []),
  (false, 23, .ireturn, 1, 0, 0, []),
  (false, 24, (.aload_n 0), 1, 0, 0, []),
  (false, 25, (.iload_n 2), 1, 0, 0, []),
  (false, 26, (.iload_n 3), 1, 0, 0, []),
  (false, 27, (.iload 4), 2, 0, 0, []),
  (false, 29, (.invokevirtual 174), 3, 127, 4, [(11, 0)]),
  (false, 32, (.astore 5), 2, 0, 0, []),
  (false, 34, (.aload 5), 2, 0, 0, []),
  (false, 36, (.ifnonnull 5), 3, 41, 0, []),
  (false, 39, (.iconst (-1)), 1, 0, 0, []),
  (false, 40, .ireturn, 1, 0, 0, []),
  (false, 41, (.aload_n 0), 1, 0, 0, []),
  (false, 42, (.getfield 36), 3, 11, 3, [(2, 0)]),
  (false, 45, (.iload_n 1), 1, 0, 0, []),
  (false, 46, .aaload, 1, 0, 0, []),
  (false, 47, (.aload 5), 2, 0, 0, []),
  (false, 49, (.invokevirtual 127), 3, 62, 2, [(6, 0)]),
  (false, 52, (.aload 5), 2, 0, 0, []),
  (false, 54, (.getfield 120), 3, 9, 2, [(0, 0)]),
  (false, 57, .ireturn, 1, 0, 0, [])]
def kX11_undo : List ab_E := [
  (false, 0, (.iload_n 1), 1, 0, 0, []),
  (false, 1, (.invokestatic 106), 3, 123, 1, []),
  (false, 4, (.ifCond .ne 6), 3, 10, 0, []),
  (false, 7, (.bipush (-2)), 2, 0, 0, []),
  (false, 9, .ireturn, 1, 0, 0, []),
  (false, 10, (.aload_n 0), 1, 0, 0, []),
  (false, 11, (.getfield 36), 3, 11, 3, [(2, 0)]),
  (false, 14, (.iload_n 1), 1, 0, 0, []),
  (false, 15, .aaload, 1, 0, 0, []),
  (false, 16, (.invokevirtual 178), 3, 61, 1, [(6, 0)]),
  (false, 19, (.ifCond .ne 6), 3, 25, 0, []),
  (false, 22, (.bipush (-3)), 2, 0, 0, []),
  (false, 24, .ireturn, 1, 0, 0, []),
  (false, 25, (.aload_n 0), 1, 0, 0, []),
  (false, 26, (.getfield 36), 3, 11, 3, [(2, 0)]),
  (false, 29, (.iload_n 1), 1, 0, 0, []),
  (false, 30, .aaload, 1, 0, 0, []),
  (false, 31, (.invokevirtual 181), 3, 63, 1, [(6, 0)]),
  (false, 34, (.aload_n 0), 1, 0, 0, []),
  (false, 35, (.getfield 36), 3, 11, 3, [(2, 0)]),
  (false, 38, (.iload_n 1), 1, 0, 0, []),
  (false, 39, .aaload, 1, 0, 0, []),
  (false, 40, (.invokevirtual 178), 3, 61, 1, [(6, 0)]),
  (false, 43, .ireturn, 1, 0, 0, [])]
def kX11_look : List ab_E := [
  (false, 0, (.aload_n 0), 1, 0, 0, []),
  (false, 1, (.iload_n 1), 1, 0, 0, []),
  (false, 2, (.iload_n 2), 1, 0, 0, []),
  (false, 3, (.iload_n 3), 1, 0, 0, []),
  (false, 4, (.invokevirtual 174), 3, 127, 4, [(11, 0)]),
  (false, 7, (.astore 5), 2, 0, 0, []),
  (false, 9, (.aload 5), 2, 0, 0, []),
  (false, 11, (.ifnonnull 7), 3, 18, 0, []),
  (false, 14, (.ldc2_w 184), 3, 0, 0, [((-9223372036854775808), 0)]),
  (false, 17, .lreturn, 1, 0, 0, []),
  (false, 18, (.iload 4), 2, 0, 0, []),
  (false, 20, (.tableswitch 86 0 3 #[32, 39, 72, 79]), 32, 106, 0, [(0, 52), (1, 59), (2, 92), (3, 99)]),
  (false, 52, (.aload 5), 2, 0, 0, []),
  (false, 54, (.getfield 160), 3, 9, 0, [(0, 0)]),
  (false, 57, .i2l, 1, 0, 0, []),
  (false, 58, .lreturn, 1, 0, 0, []),
  (false, 59, (.aload 5), 2, 0, 0, []),
  (false, 61, (.getfield 160), 3, 9, 0, [(0, 0)]),
  (false, 64, (.ifCond .eq 12), 3, 76, 0, []),
  (false, 67, (.aload 5), 2, 0, 0, []),
  (false, 69, (.getfield 160), 3, 9, 0, [(0, 0)]),
  (false, 72, (.iconst 4), 1, 0, 0, []),
  (false, 73, (.if_icmp .ne 12), 3, 85, 0, []),
  (false, 76, (.aload 5), 2, 0, 0, []),
  (false, 78, (.getfield 186), 3, 9, 1, [(0, 0)]),
  (false, 81, .i2l, 1, 0, 0, []),
  (false, 82, (.goto 9), 3, 91, 0, []),
  (false, 85, (.aload 5), 2, 0, 0, []),
  (false, 87, (.invokevirtual 189), 3, 87, 1, [(9, 0)]),
  (false, 90, .i2l, 1, 0, 0, []),
  (false, 91, .lreturn, 1, 0, 0, []),
  (false, 92, (.aload 5), 2, 0, 0, []),
  (false, 94, (.getfield 120), 3, 9, 2, [(0, 0)]),
  (false, 97, .i2l, 1, 0, 0, []),
  (false, 98, .lreturn, 1, 0, 0, []),
  (false, 99, (.aload 5), 2, 0, 0, []),
  (false, 101, (.getfield 190), 3, 9, 3, [(0, 0)]),
  (false, 104, .i2l, 1, 0, 0, []),
  (false, 105, .lreturn, 1, 0, 0, []),
  (false, 106, (.ldc2_w 184), 3, 0, 0, [((-9223372036854775808), 0)]),
  (false, 109, .lreturn, 1, 0, 0, [])]
def kX11_key : List ab_E := [
  (false, 0, (.aload_n 0), 1, 0, 0, []),
  (false, 1, (.iload_n 1), 1, 0, 0, []),
  (false, 2, (.iload_n 2), 1, 0, 0, []),
  (false, 3, (.iload_n 3), 1, 0, 0, []),
  (false, 4, (.invokevirtual 174), 3, 127, 4, [(11, 0)]),
  (false, 7, (.astore 5), 2, 0, 0, []),
  (false, 9, (.aload 5), 2, 0, 0, []),
  (false, 11, (.ifnull 27), 3, 38, 0, []),
  (false, 14, (.aload 5), 2, 0, 0, []),
  (false, 16, (.getfield 160), 3, 9, 0, [(0, 0)]),
  (false, 19, (.iconst 3), 1, 0, 0, []),
  (false, 20, (.if_icmp .ne 18), 3, 38, 0, []),
  (false, 23, (.iload 4), 2, 0, 0, []),
  (false, 25, (.ifCond .lt 13), 3, 38, 0, []),
  (false, 28, (.iload 4), 2, 0, 0, []),
  (false, 30, (.aload 5), 2, 0, 0, []),
  (false, 32, (.invokevirtual 189), 3, 87, 1, [(9, 0)]),
  (false, 35, (.if_icmp .lt 5), 3, 40, 0, []),
  (false, 38, (.iconst (-1)), 1, 0, 0, []),
  (false, 39, .ireturn, 1, 0, 0, []),
  (false, 40, (.aload 5), 2, 0, 0, []),
  (false, 42, (.iload 4), 2, 0, 0, []),
  (false, 44, (.invokevirtual 193), 3, 90, 2, [(9, 0)]),
  (false, 47, .ireturn, 1, 0, 0, [])]
def kX11_fold : List ab_E := [
  (false, 0, (.iload_n 1), 1, 0, 0, []),
  (false, 1, (.invokestatic 106), 3, 123, 1, []),
  (false, 4, (.ifCond .eq 10), 3, 14, 0, []),
  (false, 7, (.iload_n 2), 1, 0, 0, []),
  (false, 8, (.invokestatic 130), 3, 124, 1, []),
  (false, 11, (.ifCond .ne 7), 3, 18, 0, []),
  (false, 14, (.ldc2_w 184), 3, 0, 0, [((-9223372036854775808), 0)]),
  (false, 17, .lreturn, 1, 0, 0, []),
  (false, 18, (.aload_n 0), 1, 0, 0, []),
  (false, 19, (.getfield 65), 3, 11, 7, [(2, 0)]),
  (false, 22, (.aload_n 0), 1, 0, 0, []),
  (false, 23, (.iload_n 1), 1, 0, 0, []),
  (false, 24, (.invokevirtual 145), 3, 126, 2, [(11, 0)]),
  (false, 27, (.aload_n 0), 1, 0, 0, []),
  (false, 28, (.getfield 42), 3, 11, 4, [(2, 0)]),
  (false, 31, (.iload_n 2), 1, 0, 0, []),
  (false, 32, .aaload, 1, 0, 0, []),
  (false, 33, (.invokevirtual 197), 3, 21, 3, [(2, 0)]),
  (false, 36, (.iload_n 3), 1, 0, 0, []),
  (false, 37, (.tableswitch 153 0 6 #[43, 52, 60, 85, 110, 119, 144]), 43, 190, 0, [(0, 80), (1, 89), (2, 97), (3, 122), (4, 147), (5, 156), (6, 181)]),
  (false, 80, (.aload_n 0), 1, 0, 0, []),
  (false, 81, (.getfield 65), 3, 11, 7, [(2, 0)]),
  (false, 84, (.invokevirtual 201), 3, 24, 1, [(2, 0)]),
  (false, 87, .i2l, 1, 0, 0, []),
  (false, 88, .lreturn, 1, 0, 0, []),
  (false, 89, (.aload_n 0), 1, 0, 0, []),
  (false, 90, (.getfield 65), 3, 11, 7, [(2, 0)]),
  (false, 93, (.invokevirtual 202), 3, 27, 1, [(2, 0)]),
  (false, 96, .lreturn, 1, 0, 0, []),
  (false, 97, (.aload_n 0), 1, 0, 0, []),
  (false, 98, (.getfield 65), 3, 11, 7, [(2, 0)]),
  (false, 101, (.invokevirtual 206), 3, 25, 1, [(2, 0)]),
  (false, 104, (.ifCond .eq 9), 3, 113, 0, []),
  (false, 107, (.ldc2_w 184), 3, 0, 0, [((-9223372036854775808), 0)]),
  (false, 110, (.goto 11), 3, 121, 0, []),
  (false, 113, (.aload_n 0), 1, 0, 0, []),
  (false, 114, (.getfield 65), 3, 11, 7, [(2, 0)]),
  (false, 117, (.invokevirtual 209), 3, 29, 1, [(2, 0)]),
  (false, 120, .i2l, 1, 0, 0, []),
  (false, 121, .lreturn, 1, 0, 0, []),
  (false, 122, (.aload_n 0), 1, 0, 0, []),
  (false, 123, (.getfield 65), 3, 11, 7, [(2, 0)]),
  (false, 126, (.invokevirtual 206), 3, 25, 1, [(2, 0)]),
  (false, 129, (.ifCond .eq 9), 3, 138, 0, []),
  (false, 132, (.ldc2_w 184), 3, 0, 0, [((-9223372036854775808), 0)]),
  (false, 135, (.goto 11), 3, 146, 0, []),
  (false, 138, (.aload_n 0), 1, 0, 0, []),
  (false, 139, (.getfield 65), 3, 11, 7, [(2, 0)]),
  (false, 142, (.invokevirtual 212), 3, 30, 1, [(2, 0)]),
  (false, 145, .i2l, 1, 0, 0, []),
  (false, 146, .lreturn, 1, 0, 0, []),
  (false, 147, (.aload_n 0), 1, 0, 0, []),
  (false, 148, (.getfield 65), 3, 11, 7, [(2, 0)]),
  (false, 151, (.invokevirtual 215), 3, 31, 1, [(2, 0)]),
  (false, 154, .i2l, 1, 0, 0, []),
  (false, 155, .lreturn, 1, 0, 0, []),
  (false, 156, (.aload_n 0), 1, 0, 0, []),
  (false, 157, (.getfield 65), 3, 11, 7, [(2, 0)]),
  (false, 160, (.invokevirtual 206), 3, 25, 1, [(2, 0)]),
  (false, 163, (.ifCond .eq 9), 3, 172, 0, []),
  (false, 166, (.ldc2_w 184), 3, 0, 0, [((-9223372036854775808), 0)]),
  (false, 169, (.goto 11), 3, 180, 0, []),
  (false, 172, (.aload_n 0), 1, 0, 0, []),
  (false, 173, (.getfield 65), 3, 11, 7, [(2, 0)]),
  (false, 176, (.invokevirtual 218), 3, 33, 1, [(2, 0)]),
  (false, 179, .i2l, 1, 0, 0, []),
  (false, 180, .lreturn, 1, 0, 0, []),
  (false, 181, (.aload_n 0), 1, 0, 0, []),
  (false, 182, (.getfield 65), 3, 11, 7, [(2, 0)]),
  (false, 185, (.invokevirtual 220), 3, 34, 1, [(2, 0)]),
  (false, 188, .i2l, 1, 0, 0, []),
  (false, 189, .lreturn, 1, 0, 0, []),
  (false, 190, (.ldc2_w 184), 3, 0, 0, [((-9223372036854775808), 0)]),
  (false, 193, .lreturn, 1, 0, 0, [])]
def kX11_best : List ab_E := [
  (false, 0, (.iload_n 1), 1, 0, 0, []),
  (false, 1, (.invokestatic 106), 3, 123, 1, []),
  (false, 4, (.ifCond .eq 19), 3, 23, 0, []),
  (false, 7, (.iload_n 2), 1, 0, 0, []),
  (false, 8, (.invokestatic 130), 3, 124, 1, []),
  (false, 11, (.ifCond .eq 12), 3, 23, 0, []),
  (false, 14, (.iload_n 3), 1, 0, 0, []),
  (false, 15, (.ifCond .lt 8), 3, 23, 0, []),
  (false, 18, (.iload_n 3), 1, 0, 0, []),
  (false, 19, (.iconst 2), 1, 0, 0, []),
  (false, 20, (.if_icmp .le 6), 3, 26, 0, []),
  (false, 23, (.bipush (-2)), 2, 0, 0, []),
  (false, 25, .ireturn, 1, 0, 0, []),
  (false, 26, (.aload_n 0), 1, 0, 0, []),
  (false, 27, (.getfield 65), 3, 11, 7, [(2, 0)]),
  (false, 30, (.aload_n 0), 1, 0, 0, []),
  (false, 31, (.iload_n 1), 1, 0, 0, []),
  (false, 32, (.invokevirtual 145), 3, 126, 2, [(11, 0)]),
  (false, 35, (.aload_n 0), 1, 0, 0, []),
  (false, 36, (.getfield 42), 3, 11, 4, [(2, 0)]),
  (false, 39, (.iload_n 2), 1, 0, 0, []),
  (false, 40, .aaload, 1, 0, 0, []),
  (false, 41, (.invokevirtual 197), 3, 21, 3, [(2, 0)]),
  (false, 44, (.iload 4), 2, 0, 0, []),
  (false, 46, (.ifCond .lt 15), 3, 61, 0, []),
  (false, 49, (.iload 4), 2, 0, 0, []),
  (false, 51, (.aload_n 0), 1, 0, 0, []),
  (false, 52, (.getfield 65), 3, 11, 7, [(2, 0)]),
  (false, 55, (.invokevirtual 201), 3, 24, 1, [(2, 0)]),
  (false, 58, (.if_icmp .lt 5), 3, 63, 0, []),
  (false, 61, (.iconst (-1)), 1, 0, 0, []),
  (false, 62, .ireturn, 1, 0, 0, []),
  (false, 63, (.aload_n 0), 1, 0, 0, []),
  (false, 64, (.getfield 65), 3, 11, 7, [(2, 0)]),
  (false, 67, (.iload_n 3), 1, 0, 0, []),
  (false, 68, (.iload 4), 2, 0, 0, []),
  (false, 70, (.invokevirtual 222), 3, 36, 3, [(2, 0)]),
  (false, 73, .ireturn, 1, 0, 0, [])]
def kX11_order : List ab_E := [
  (false, 0, (.iload_n 1), 1, 0, 0, []),
  (false, 1, (.invokestatic 106), 3, 123, 1, []),
  (false, 4, (.ifCond .eq 10), 3, 14, 0, []),
  (false, 7, (.iload_n 2), 1, 0, 0, []),
  (false, 8, (.invokestatic 106), 3, 123, 1, []),
  (false, 11, (.ifCond .ne 6), 3, 17, 0, []),
  (false, 14, (.bipush (-2)), 2, 0, 0, []),
  (false, 16, .ireturn, 1, 0, 0, []),
  (false, 17, (.aload_n 0), 1, 0, 0, []),
  (false, 18, (.iload_n 1), 1, 0, 0, []),
  (false, 19, (.invokevirtual 145), 3, 126, 2, [(11, 0)]),
  (false, 22, (.aload_n 0), 1, 0, 0, []),
  (false, 23, (.iload_n 2), 1, 0, 0, []),
  (false, 24, (.invokevirtual 145), 3, 126, 2, [(11, 0)]),
  (false, 27, (.iconst 0), 1, 0, 0, []),
  (false, 28, (.invokestatic 226), 3, 94, 3, []),
  (false, 31, (.istore_n 3), 1, 0, 0, []),
  (false, 32, (.iload_n 3), 1, 0, 0, []),
  (false, 33, (.ifCond .ge 7), 3, 40, 0, []),
  (false, 36, (.iconst (-1)), 1, 0, 0, []),
  (false, 37, (.goto 12), 3, 49, 0, []),
  (false, 40, (.iload_n 3), 1, 0, 0, []),
  (false, 41, (.ifCond .le 7), 3, 48, 0, []),
  (false, 44, (.iconst 1), 1, 0, 0, []),
  (false, 45, (.goto 4), 3, 49, 0, []),
  (false, 48, (.iconst 0), 1, 0, 0, []),
  (false, 49, .ireturn, 1, 0, 0, [])]
def kX11_shared : List ab_E := [
  (false, 0, (.iload_n 1), 1, 0, 0, []),
  (false, 1, (.invokestatic 106), 3, 123, 1, []),
  (false, 4, (.ifCond .eq 10), 3, 14, 0, []),
  (false, 7, (.iload_n 2), 1, 0, 0, []),
  (false, 8, (.invokestatic 106), 3, 123, 1, []),
  (false, 11, (.ifCond .ne 6), 3, 17, 0, []),
  (false, 14, (.bipush (-2)), 2, 0, 0, []),
  (false, 16, .ireturn, 1, 0, 0, []),
  (false, 17, (.aload_n 0), 1, 0, 0, []),
  (false, 18, (.iload_n 1), 1, 0, 0, []),
  (false, 19, (.invokevirtual 145), 3, 126, 2, [(11, 0)]),
  (false, 22, (.aload_n 0), 1, 0, 0, []),
  (false, 23, (.iload_n 2), 1, 0, 0, []),
  (false, 24, (.invokevirtual 145), 3, 126, 2, [(11, 0)]),
  (false, 27, (.iconst 0), 1, 0, 0, []),
  (false, 28, (.invokestatic 230), 3, 131, 3, []),
  (false, 31, .ireturn, 1, 0, 0, [])]
def kX11_differ : List ab_E := [
  (false, 0, (.iload_n 1), 1, 0, 0, []),
  (false, 1, (.invokestatic 106), 3, 123, 1, []),
  (false, 4, (.ifCond .eq 10), 3, 14, 0, []),
  (false, 7, (.iload_n 2), 1, 0, 0, []),
  (false, 8, (.invokestatic 106), 3, 123, 1, []),
  (false, 11, (.ifCond .ne 6), 3, 17, 0, []),
  (false, 14, (.bipush (-2)), 2, 0, 0, []),
  (false, 16, .ireturn, 1, 0, 0, []),
  (false, 17, (.aload_n 0), 1, 0, 0, []),
  (false, 18, (.getfield 72), 3, 11, 8, [(2, 0)]),
  (false, 21, (.aload_n 0), 1, 0, 0, []),
  (false, 22, (.iload_n 1), 1, 0, 0, []),
  (false, 23, (.invokevirtual 145), 3, 126, 2, [(11, 0)]),
  (false, 26, (.aload_n 0), 1, 0, 0, []),
  (false, 27, (.iload_n 2), 1, 0, 0, []),
  (false, 28, (.invokevirtual 145), 3, 126, 2, [(11, 0)]),
  (false, 31, (.invokevirtual 233), 3, 15, 3, [(1, 0)]),
  (false, 34, (.iload_n 3), 1, 0, 0, []),
  (false, 35, (.iconst (-1)), 1, 0, 0, []),
  (false, 36, (.if_icmp .ne 11), 3, 47, 0, []),
  (false, 39, (.aload_n 0), 1, 0, 0, []),
  (false, 40, (.getfield 72), 3, 11, 8, [(2, 0)]),
  (false, 43, (.invokevirtual 236), 3, 18, 1, [(1, 0)]),
  (false, 46, .ireturn, 1, 0, 0, []),
  (false, 47, (.iload_n 3), 1, 0, 0, []),
  (false, 48, (.ifCond .lt 25), 3, 73, 0, []),
  (false, 51, (.iload_n 3), 1, 0, 0, []),
  (false, 52, (.aload_n 0), 1, 0, 0, []),
  (false, 53, (.getfield 72), 3, 11, 8, [(2, 0)]),
  (false, 56, (.invokevirtual 236), 3, 18, 1, [(1, 0)]),
  (false, 59, (.if_icmp .ge 14), 3, 73, 0, []),
  (false, 62, (.aload_n 0), 1, 0, 0, []),
  (false, 63, (.getfield 72), 3, 11, 8, [(2, 0)]),
  (false, 66, (.iload_n 3), 1, 0, 0, []),
  (false, 67, (.invokevirtual 237), 3, 19, 2, [(1, 0)]),
  (false, 70, (.goto 4), 3, 74, 0, []),
  (false, 73, (.iconst (-1)), 1, 0, 0, []),
  (false, 74, .ireturn, 1, 0, 0, [])]
def kX11_fit : List ab_E := [
  (false, 0, (.iload_n 1), 1, 0, 0, []),
  (false, 1, (.invokestatic 106), 3, 123, 1, []),
  (false, 4, (.ifCond .eq 17), 3, 21, 0, []),
  (false, 7, (.iload_n 2), 1, 0, 0, []),
  (false, 8, (.invokestatic 130), 3, 124, 1, []),
  (false, 11, (.ifCond .eq 10), 3, 21, 0, []),
  (false, 14, (.iload_n 3), 1, 0, 0, []),
  (false, 15, (.invokestatic 106), 3, 123, 1, []),
  (false, 18, (.ifCond .ne 6), 3, 24, 0, []),
  (false, 21, (.bipush (-2)), 2, 0, 0, []),
  (false, 23, .ireturn, 1, 0, 0, []),
  (false, 24, (.aload_n 0), 1, 0, 0, []),
  (false, 25, (.iload_n 3), 1, 0, 0, []),
  (false, 26, (.invokevirtual 145), 3, 126, 2, [(11, 0)]),
  (false, 29, (.astore 4), 2, 0, 0, []),
  (false, 31, (.aload_n 0), 1, 0, 0, []),
  (false, 32, (.getfield 58), 3, 11, 6, [(2, 0)]),
  (false, 35, (.aload_n 0), 1, 0, 0, []),
  (false, 36, (.iload_n 1), 1, 0, 0, []),
  (false, 37, (.invokevirtual 145), 3, 126, 2, [(11, 0)]),
  (false, 40, (.aload_n 0), 1, 0, 0, []),
  (false, 41, (.getfield 42), 3, 11, 4, [(2, 0)]),
  (false, 44, (.iload_n 2), 1, 0, 0, []),
  (false, 45, .aaload, 1, 0, 0, []),
  (false, 46, (.bipush 7), 2, 0, 0, []),
  (false, 48, (.iconst 0), 1, 0, 0, []),
  (false, 49, (.aload 4), 2, 0, 0, []),
  (false, 51, (.invokevirtual 149), 3, 1, 6, [(0, 0)]),
  (false, 54, (.astore 5), 2, 0, 0, []),
  (false, 56, (.aload 5), 2, 0, 0, []),
  (false, 58, (.ifnull 11), 3, 69, 0, []),
  (false, 61, (.aload 5), 2, 0, 0, []),
  (false, 63, (.invokevirtual 153), 3, 91, 1, [(9, 0)]),
  (false, 66, (.ifCond .eq 16), 3, 82, 0, []),
  (false, 69, (.aload 5), 2, 0, 0, []),
  (false, 71, (.ifnonnull 8), 3, 79, 0, []),
  (false, 74, (.bipush (-17)), 2, 0, 0, []),
  (false, 76, (.goto 5), 3, 81, 0, []),
  (false, 79, (.bipush (-4)), 2, 0, 0, []),
  (false, 81, .ireturn, 1, 0, 0, []),
  (false, 82, (.aload_n 0), 1, 0, 0, []),
  (false, 83, (.getfield 58), 3, 11, 6, [(2, 0)]),
  (false, 86, (.invokevirtual 157), 3, 2, 1, [(0, 0)]),
  (false, 89, (.istore 6), 2, 0, 0, []),
  (false, 91, (.aload_n 0), 1, 0, 0, []),
  (false, 92, (.getfield 58), 3, 11, 6, [(2, 0)]),
  (false, 95, (.aload 5), 2, 0, 0, []),
  (false, 97, (.aload_n 0), 1, 0, 0, []),
  (false, 98, (.getfield 42), 3, 11, 4, [(2, 0)]),
  (false, 101, (.iload_n 2), 1, 0, 0, []),
  (false, 102, .aaload, 1, 0, 0, []),
  (false, 103, (.bipush 7), 2, 0, 0, []),
  (false, 105, (.iconst 0), 1, 0, 0, []),
  (false, 106, (.aload 4), 2, 0, 0, []),
  (false, 108, (.invokevirtual 149), 3, 1, 6, [(0, 0)]),
  (false, 111, (.astore 7), 2, 0, 0, []),
  (false, 113, (.aload 7), 2, 0, 0, []),
  (false, 115, (.ifnull 11), 3, 126, 0, []),
  (false, 118, (.aload 7), 2, 0, 0, []),
  (false, 120, (.invokevirtual 153), 3, 91, 1, [(9, 0)]),
  (false, 123, (.ifCond .eq 16), 3, 139, 0, []),
  (false, 126, (.aload 7), 2, 0, 0, []),
  (false, 128, (.ifnonnull 8), 3, 136, 0, []),
  (false, 131, (.bipush (-17)), 2, 0, 0, []),
  (false, 133, (.goto 5), 3, 138, 0, []),
  (false, 136, (.bipush (-4)), 2, 0, 0, []),
  (false, 138, .ireturn, 1, 0, 0, []),
  (false, 139, (.aload_n 0), 1, 0, 0, []),
  (false, 140, (.getfield 65), 3, 11, 7, [(2, 0)]),
  (false, 143, (.aload 5), 2, 0, 0, []),
  (false, 145, (.aload_n 0), 1, 0, 0, []),
  (false, 146, (.getfield 42), 3, 11, 4, [(2, 0)]),
  (false, 149, (.iload_n 2), 1, 0, 0, []),
  (false, 150, .aaload, 1, 0, 0, []),
  (false, 151, (.invokevirtual 197), 3, 21, 3, [(2, 0)]),
  (false, 154, (.aload_n 0), 1, 0, 0, []),
  (false, 155, (.getfield 65), 3, 11, 7, [(2, 0)]),
  (false, 158, (.invokevirtual 201), 3, 24, 1, [(2, 0)]),
  (false, 161, (.iload 6), 2, 0, 0, []),
  (false, 163, (.if_icmp .ne 7), 3, 170, 0, []),
  (false, 166, (.iconst 1), 1, 0, 0, []),
  (false, 167, (.goto 4), 3, 171, 0, []),
  (false, 170, (.iconst 0), 1, 0, 0, []),
  (false, 171, (.istore 8), 2, 0, 0, []),
  (false, 173, (.iload 8), 2, 0, 0, []),
  (false, 175, (.aload_n 0), 1, 0, 0, []),
  (false, 176, (.getfield 65), 3, 11, 7, [(2, 0)]),
  (false, 179, (.aload 4), 2, 0, 0, []),
  (false, 181, (.invokevirtual 240), 3, 35, 2, [(2, 0)]),
  (false, 184, (.ifCond .eq 7), 3, 191, 0, []),
  (false, 187, (.iconst 2), 1, 0, 0, []),
  (false, 188, (.goto 4), 3, 192, 0, []),
  (false, 191, (.iconst 0), 1, 0, 0, []),
  (false, 192, .iadd, 1, 0, 0, []),
  (false, 193, (.istore 8), 2, 0, 0, []),
  (false, 195, (.iload 8), 2, 0, 0, []),
  (false, 197, (.aload 5), 2, 0, 0, []),
  (false, 199, (.aload 7), 2, 0, 0, []),
  (false, 201, (.invokestatic 244), 3, 93, 2, []),
  (false, 204, (.ifCond .eq 7), 3, 211, 0, []),
  (false, 207, (.iconst 4), 1, 0, 0, []),
  (false, 208, (.goto 4), 3, 212, 0, []),
  (false, 211, (.iconst 0), 1, 0, 0, []),
  (false, 212, .iadd, 1, 0, 0, []),
  (false, 213, (.istore 8), 2, 0, 0, []),
  (false, 215, (.iload 8), 2, 0, 0, []),
  (false, 217, .ireturn, 1, 0, 0, [])]
def kX11_image : List ab_E := [
  (false, 0, (.iconst 0), 1, 0, 0, []),
  (false, 1, (.istore_n 1), 1, 0, 0, []),
  (true, 2, (.iload_n 1), 1, 0, 0, []),
  (false, 3, (.bipush 12), 2, 0, 0, []),
  (false, 5, (.if_icmp .ge 20), 3, 25, 0, []),
  (false, 8, (.aload_n 0), 1, 0, 0, []),
  (false, 9, (.getfield 78), 3, 11, 9, [(2, 0)]),
  (false, 12, (.iload_n 1), 1, 0, 0, []),
  (false, 13, (.aload_n 0), 1, 0, 0, []),
  (false, 14, (.iload_n 1), 1, 0, 0, []),
  (false, 15, (.invokevirtual 145), 3, 126, 2, [(11, 0)]),
  (false, 18, .aastore, 1, 0, 0, []),
  (false, 19, (.iinc 1 1), 3, 0, 0, []),
  (false, 22, (.goto (-20)), 3, 2, 0, []),
  (false, 25, (.iconst 0), 1, 0, 0, []),
  (false, 26, (.istore_n 1), 1, 0, 0, []),
  (true, 27, (.iload_n 1), 1, 0, 0, []),
  (false, 28, (.bipush 8), 2, 0, 0, []),
  (false, 30, (.if_icmp .ge 21), 3, 51, 0, []),
  (false, 33, (.aload_n 0), 1, 0, 0, []),
  (false, 34, (.getfield 82), 3, 11, 10, [(2, 0)]),
  (false, 37, (.iload_n 1), 1, 0, 0, []),
  (false, 38, (.aload_n 0), 1, 0, 0, []),
  (false, 39, (.getfield 42), 3, 11, 4, [(2, 0)]),
  (false, 42, (.iload_n 1), 1, 0, 0, []),
  (false, 43, .aaload, 1, 0, 0, []),
  (false, 44, .aastore, 1, 0, 0, []),
  (false, 45, (.iinc 1 1), 3, 0, 0, []),
  (false, 48, (.goto (-21)), 3, 27, 0, []),
  (false, 51, (.aload_n 0), 1, 0, 0, []),
  (false, 52, (.iconst 1), 1, 0, 0, []),
  (false, 53, (.putfield 85), 3, 11, 11, [(1, 0)]),
  (false, 56, (.aload_n 0), 1, 0, 0, []),
  (false, 57, (.invokevirtual 248), 3, 128, 1, [(11, 0)]),
  (false, 60, .ireturn, 1, 0, 0, [])]
def kX11_back : List ab_E := [
  (false, 0, (.aload_n 0), 1, 0, 0, []),
  (false, 1, (.getfield 85), 3, 11, 11, [(1, 0)]),
  (false, 4, (.ifCond .ne 6), 3, 10, 0, []),
  (false, 7, (.bipush (-3)), 2, 0, 0, []),
  (false, 9, .ireturn, 1, 0, 0, []),
  (false, 10, (.iconst 0), 1, 0, 0, []),
  (false, 11, (.istore_n 1), 1, 0, 0, []),
  (true, 12, (.iload_n 1), 1, 0, 0, []),
  (false, 13, (.bipush 12), 2, 0, 0, []),
  (false, 15, (.if_icmp .ge 24), 3, 39, 0, []),
  (false, 18, (.aload_n 0), 1, 0, 0, []),
  (false, 19, (.getfield 36), 3, 11, 3, [(2, 0)]),
  (false, 22, (.iload_n 1), 1, 0, 0, []),
  (false, 23, .aaload, 1, 0, 0, []),
  (false, 24, (.aload_n 0), 1, 0, 0, []),
  (false, 25, (.getfield 78), 3, 11, 9, [(2, 0)]),
  (false, 28, (.iload_n 1), 1, 0, 0, []),
  (false, 29, .aaload, 1, 0, 0, []),
  (false, 30, (.invokevirtual 251), 3, 64, 2, [(6, 0)]),
  (false, 33, (.iinc 1 1), 3, 0, 0, []),
  (false, 36, (.goto (-24)), 3, 12, 0, []),
  (false, 39, (.iconst 0), 1, 0, 0, []),
  (false, 40, (.istore_n 1), 1, 0, 0, []),
  (true, 41, (.iload_n 1), 1, 0, 0, []),
  (false, 42, (.bipush 8), 2, 0, 0, []),
  (false, 44, (.if_icmp .ge 21), 3, 65, 0, []),
  (false, 47, (.aload_n 0), 1, 0, 0, []),
  (false, 48, (.getfield 42), 3, 11, 4, [(2, 0)]),
  (false, 51, (.iload_n 1), 1, 0, 0, []),
  (false, 52, (.aload_n 0), 1, 0, 0, []),
  (false, 53, (.getfield 82), 3, 11, 10, [(2, 0)]),
  (false, 56, (.iload_n 1), 1, 0, 0, []),
  (false, 57, .aaload, 1, 0, 0, []),
  (false, 58, .aastore, 1, 0, 0, []),
  (false, 59, (.iinc 1 1), 3, 0, 0, []),
  (false, 62, (.goto (-21)), 3, 41, 0, []),
  (false, 65, (.aload_n 0), 1, 0, 0, []),
  (false, 66, (.invokevirtual 248), 3, 128, 1, [(11, 0)]),
  (false, 69, .ireturn, 1, 0, 0, [])]
def kX11_count : List ab_E := [
  (false, 0, (.iload_n 1), 1, 0, 0, []),
  (false, 1, (.ifCond .lt 9), 3, 10, 0, []),
  (false, 4, (.iload_n 1), 1, 0, 0, []),
  (false, 5, (.bipush 21), 2, 0, 0, []),
  (false, 7, (.if_icmp .le 6), 3, 13, 0, []),
  (false, 10, (.bipush (-2)), 2, 0, 0, []),
  (false, 12, .ireturn, 1, 0, 0, []),
  (false, 13, (.iload_n 1), 1, 0, 0, []),
  (false, 14, (.bipush 12), 2, 0, 0, []),
  (false, 16, (.if_icmp .ge 13), 3, 29, 0, []),
  (false, 19, (.aload_n 0), 1, 0, 0, []),
  (false, 20, (.getfield 36), 3, 11, 3, [(2, 0)]),
  (false, 23, (.iload_n 1), 1, 0, 0, []),
  (false, 24, .aaload, 1, 0, 0, []),
  (false, 25, (.invokevirtual 178), 3, 61, 1, [(6, 0)]),
  (false, 28, .ireturn, 1, 0, 0, []),
  (false, 29, (.iload_n 1), 1, 0, 0, []),
  (false, 30, (.bipush 20), 2, 0, 0, []),
  (false, 32, (.if_icmp .ge 16), 3, 48, 0, []),
  (false, 35, (.aload_n 0), 1, 0, 0, []),
  (false, 36, (.getfield 42), 3, 11, 4, [(2, 0)]),
  (false, 39, (.iload_n 1), 1, 0, 0, []),
  (false, 40, (.bipush 12), 2, 0, 0, []),
  (false, 42, .isub, 1, 0, 0, []),
  (false, 43, .aaload, 1, 0, 0, []),
  (false, 44, (.invokevirtual 136), 3, 46, 1, [(4, 0)]),
  (false, 47, .ireturn, 1, 0, 0, []),
  (false, 48, (.iload_n 1), 1, 0, 0, []),
  (false, 49, (.bipush 20), 2, 0, 0, []),
  (false, 51, (.if_icmp .ne 13), 3, 64, 0, []),
  (false, 54, (.aload_n 0), 1, 0, 0, []),
  (false, 55, (.getfield 12), 3, 11, 0, [(2, 0)]),
  (false, 58, (.invokevirtual 98), 3, 70, 1, [(8, 0)]),
  (false, 61, (.goto 10), 3, 71, 0, []),
  (false, 64, (.aload_n 0), 1, 0, 0, []),
  (false, 65, (.getfield 49), 3, 11, 5, [(2, 0)]),
  (false, 68, (.invokevirtual 254), 3, 66, 1, [(7, 0)]),
  (false, 71, .ireturn, 1, 0, 0, [])]
def kX11_isShelf : List ab_E := [
  (false, 0, (.iload_n 0), 1, 0, 0, []),
  (false, 1, (.ifCond .lt 13), 3, 14, 0, []),
  (false, 4, (.iload_n 0), 1, 0, 0, []),
  (false, 5, (.bipush 12), 2, 0, 0, []),
  (false, 7, (.if_icmp .ge 7), 3, 14, 0, []),
  (false, 10, (.iconst 1), 1, 0, 0, []),
  (false, 11, (.goto 4), 3, 15, 0, []),
  (false, 14, (.iconst 0), 1, 0, 0, []),
  (false, 15, .ireturn, 1, 1, 0, [])]
def kX11_isPath : List ab_E := [
  (false, 0, (.iload_n 0), 1, 0, 0, []),
  (false, 1, (.ifCond .lt 13), 3, 14, 0, []),
  (false, 4, (.iload_n 0), 1, 0, 0, []),
  (false, 5, (.bipush 8), 2, 0, 0, []),
  (false, 7, (.if_icmp .ge 7), 3, 14, 0, []),
  (false, 10, (.iconst 1), 1, 0, 0, []),
  (false, 11, (.goto 4), 3, 15, 0, []),
  (false, 14, (.iconst 0), 1, 0, 0, []),
  (false, 15, .ireturn, 1, 1, 0, [])]
def kX11_isHow : List ab_E := [
  (false, 0, (.iload_n 0), 1, 0, 0, []),
  (false, 1, (.iconst 5), 1, 0, 0, []),
  (false, 2, (.if_icmp .ne 19), 3, 21, 0, []),
  (false, 5, (.iload_n 1), 1, 0, 0, []),
  (false, 6, (.ifCond .lt 13), 3, 19, 0, []),
  (false, 9, (.iload_n 1), 1, 0, 0, []),
  (false, 10, (.bipush 9), 2, 0, 0, []),
  (false, 12, (.if_icmp .gt 7), 3, 19, 0, []),
  (false, 15, (.iconst 1), 1, 0, 0, []),
  (false, 16, (.goto 4), 3, 20, 0, []),
  (false, 19, (.iconst 0), 1, 0, 0, []),
  (false, 20, .ireturn, 1, 1, 0, []),
  (false, 21, (.iload_n 0), 1, 0, 0, []),
  (false, 22, (.bipush 7), 2, 0, 0, []),
  (false, 24, (.if_icmp .ne 10), 3, 34, 0, []),
  (false, 27, (.iload_n 1), 1, 0, 0, []),
  (false, 28, (.invokestatic 106), 3, 123, 1, []),
  (false, 31, (.goto 18), 3, 49, 0, []),
  (false, 34, (.iload_n 0), 1, 0, 0, []),
  (false, 35, (.ifCond .lt 13), 3, 48, 0, []),
  (false, 38, (.iload_n 0), 1, 0, 0, []),
  (false, 39, (.bipush 11), 2, 0, 0, []),
  (false, 41, (.if_icmp .gt 7), 3, 48, 0, []),
  (false, 44, (.iconst 1), 1, 0, 0, []),
  (false, 45, (.goto 4), 3, 49, 0, []),
  (false, 48, (.iconst 0), 1, 0, 0, []),
  (false, 49, .ireturn, 1, 1, 0, [])]
def kX11_held : List ab_E := [
  (false, 0, (.aload_n 0), 1, 0, 0, []),
  (false, 1, (.getfield 36), 3, 11, 3, [(2, 0)]),
  (false, 4, (.iload_n 1), 1, 0, 0, []),
  (false, 5, .aaload, 1, 0, 0, []),
  (false, 6, (.invokevirtual 256), 3, 60, 1, [(6, 0)]),
  (false, 9, .areturn, 1, 0, 0, [])]
def kX11_focusAt : List ab_E := [
  (false, 0, (.iload_n 1), 1, 0, 0, []),
  (false, 1, (.invokestatic 106), 3, 123, 1, []),
  (false, 4, (.ifCond .eq 10), 3, 14, 0, []),
  (false, 7, (.iload_n 2), 1, 0, 0, []),
  (false, 8, (.invokestatic 130), 3, 124, 1, []),
  (false, 11, (.ifCond .ne 5), 3, 16, 0, []),
  (false, 14, .aconst_null, 1, 0, 0, []),
  (false, 15, .areturn, 1, 0, 0, []),
  (false, 16, (.aload_n 0), 1, 0, 0, []),
  (false, 17, (.getfield 65), 3, 11, 7, [(2, 0)]),
  (false, 20, (.aload_n 0), 1, 0, 0, []),
  (false, 21, (.iload_n 1), 1, 0, 0, []),
  (false, 22, (.invokevirtual 145), 3, 126, 2, [(11, 0)]),
  (false, 25, (.aload_n 0), 1, 0, 0, []),
  (false, 26, (.getfield 42), 3, 11, 4, [(2, 0)]),
  (false, 29, (.iload_n 2), 1, 0, 0, []),
  (false, 30, .aaload, 1, 0, 0, []),
  (false, 31, (.invokevirtual 197), 3, 21, 3, [(2, 0)]),
  (false, 34, (.iload_n 3), 1, 0, 0, []),
  (false, 35, (.ifCond .lt 25), 3, 60, 0, []),
  (false, 38, (.iload_n 3), 1, 0, 0, []),
  (false, 39, (.aload_n 0), 1, 0, 0, []),
  (false, 40, (.getfield 65), 3, 11, 7, [(2, 0)]),
  (false, 43, (.invokevirtual 201), 3, 24, 1, [(2, 0)]),
  (false, 46, (.if_icmp .ge 14), 3, 60, 0, []),
  (false, 49, (.aload_n 0), 1, 0, 0, []),
  (false, 50, (.getfield 65), 3, 11, 7, [(2, 0)]),
  (false, 53, (.iload_n 3), 1, 0, 0, []),
  (false, 54, (.invokevirtual 258), 3, 26, 2, [(2, 0)]),
  (false, 57, (.goto 4), 3, 61, 0, []),
  (false, 60, .aconst_null, 1, 0, 0, []),
  (false, 61, .areturn, 1, 0, 0, [])]
def kX11_allNodes : List ab_E := [
  (false, 0, (.iconst 0), 1, 0, 0, []),
  (false, 1, (.istore_n 1), 1, 0, 0, []),
  (false, 2, (.iconst 0), 1, 0, 0, []),
  (false, 3, (.istore_n 2), 1, 0, 0, []),
  (true, 4, (.iload_n 2), 1, 0, 0, []),
  (false, 5, (.bipush 12), 2, 0, 0, []),
  (false, 7, (.if_icmp .ge 20), 3, 27, 0, []),
  (false, 10, (.iload_n 1), 1, 0, 0, []),
  (false, 11, (.aload_n 0), 1, 0, 0, []),
  (false, 12, (.iload_n 2), 1, 0, 0, []),
  (false, 13, (.invokevirtual 145), 3, 126, 2, [(11, 0)]),
  (false, 16, (.getfield 120), 3, 9, 2, [(0, 0)]),
  (false, 19, .iadd, 1, 0, 0, []),
  (false, 20, (.istore_n 1), 1, 0, 0, []),
  (false, 21, (.iinc 2 1), 3, 0, 0, []),
  (false, 24, (.goto (-20)), 3, 4, 0, []),
  (false, 27, (.iload_n 1), 1, 0, 0, []),
  (false, 28, .ireturn, 1, 0, 0, [])]
def kX11_ofTwo : List ab_E := [
  (false, 0, (.new 261), 3, 3, 3, []),
  (false, 3, .dup, 1, 0, 0, []),
  (false, 4, (.invokespecial 263), 3, 38, 1, []),
  (false, 7, (.astore_n 3), 1, 0, 0, []),
  (false, 8, (.aload_n 3), 1, 0, 0, []),
  (false, 9, (.iconst 0), 1, 0, 0, []),
  (false, 10, (.aload_n 1), 1, 0, 0, []),
  (false, 11, (.invokevirtual 264), 3, 39, 3, [(3, 0)]),
  (false, 14, (.aload_n 3), 1, 0, 0, []),
  (false, 15, (.iconst 0), 1, 0, 0, []),
  (false, 16, (.aload_n 2), 1, 0, 0, []),
  (false, 17, (.invokevirtual 264), 3, 39, 3, [(3, 0)]),
  (false, 20, (.aload_n 3), 1, 0, 0, []),
  (false, 21, (.iload_n 0), 1, 0, 0, []),
  (false, 22, (.invokevirtual 267), 3, 42, 2, [(3, 0)]),
  (false, 25, .areturn, 1, 0, 0, [])]
def kX11_withKey : List ab_E := [
  (false, 0, (.new 261), 3, 3, 3, []),
  (false, 3, .dup, 1, 0, 0, []),
  (false, 4, (.invokespecial 263), 3, 38, 1, []),
  (false, 7, (.astore_n 3), 1, 0, 0, []),
  (false, 8, (.iconst 0), 1, 0, 0, []),
  (false, 9, (.istore 4), 2, 0, 0, []),
  (true, 11, (.iload 4), 2, 0, 0, []),
  (false, 13, (.aload_n 0), 1, 0, 0, []),
  (false, 14, (.invokevirtual 189), 3, 87, 1, [(9, 0)]),
  (false, 17, (.if_icmp .ge 25), 3, 42, 0, []),
  (false, 20, (.aload_n 3), 1, 0, 0, []),
  (false, 21, (.aload_n 0), 1, 0, 0, []),
  (false, 22, (.iload 4), 2, 0, 0, []),
  (false, 24, (.invokevirtual 193), 3, 90, 2, [(9, 0)]),
  (false, 27, (.aload_n 0), 1, 0, 0, []),
  (false, 28, (.iload 4), 2, 0, 0, []),
  (false, 30, (.invokevirtual 270), 3, 88, 2, [(9, 0)]),
  (false, 33, (.invokevirtual 264), 3, 39, 3, [(3, 0)]),
  (false, 36, (.iinc 4 1), 3, 0, 0, []),
  (false, 39, (.goto (-28)), 3, 11, 0, []),
  (false, 42, (.aload_n 3), 1, 0, 0, []),
  (false, 43, (.iload_n 1), 1, 0, 0, []),
  (false, 44, (.aload_n 2), 1, 0, 0, []),
  (false, 45, (.invokevirtual 273), 3, 41, 3, [(3, 0)]),
  (false, 48, (.aload_n 3), 1, 0, 0, []),
  (false, 49, (.iconst 3), 1, 0, 0, []),
  (false, 50, (.invokevirtual 267), 3, 42, 2, [(3, 0)]),
  (false, 53, .areturn, 1, 0, 0, [])]
def kX11_sharedNodes : List ab_E := [
  (false, 0, (.aload_n 0), 1, 0, 0, []),
  (false, 1, (.ifnull 9), 3, 10, 0, []),
  (false, 4, (.iload_n 2), 1, 0, 0, []),
  (false, 5, (.bipush 40), 2, 0, 0, []),
  (false, 7, (.if_icmp .le 5), 3, 12, 0, []),
  (false, 10, (.iconst 0), 1, 0, 0, []),
  (false, 11, .ireturn, 1, 0, 0, []),
  (false, 12, (.aload_n 1), 1, 0, 0, []),
  (false, 13, (.aload_n 0), 1, 0, 0, []),
  (false, 14, (.iconst 0), 1, 0, 0, []),
  (false, 15, (.invokestatic 276), 3, 95, 3, []),
  (false, 18, (.ifCond .eq 5), 3, 23, 0, []),
  (false, 21, (.iconst 1), 1, 0, 0, []),
  (false, 22, .ireturn, 1, 0, 0, []),
  (false, 23, (.iconst 0), 1, 0, 0, []),
  (false, 24, (.istore_n 3), 1, 0, 0, []),
  (false, 25, (.iconst 0), 1, 0, 0, []),
  (false, 26, (.istore 4), 2, 0, 0, []),
  (true, 28, (.iload 4), 2, 0, 0, []),
  (false, 30, (.aload_n 0), 1, 0, 0, []),
  (false, 31, (.invokevirtual 189), 3, 87, 1, [(9, 0)]),
  (false, 34, (.if_icmp .ge 25), 3, 59, 0, []),
  (false, 37, (.iload_n 3), 1, 0, 0, []),
  (false, 38, (.aload_n 0), 1, 0, 0, []),
  (false, 39, (.iload 4), 2, 0, 0, []),
  (false, 41, (.invokevirtual 270), 3, 88, 2, [(9, 0)]),
  (false, 44, (.aload_n 1), 1, 0, 0, []),
  (false, 45, (.iload_n 2), 1, 0, 0, []),
  (false, 46, (.iconst 1), 1, 0, 0, []),
  (false, 47, .iadd, 1, 0, 0, []),
  (false, 48, (.invokestatic 230), 3, 131, 3, []),
  (false, 51, .iadd, 1, 0, 0, []),
  (false, 52, (.istore_n 3), 1, 0, 0, []),
  (false, 53, (.iinc 4 1), 3, 0, 0, []),
  (false, 56, (.goto (-28)), 3, 28, 0, []),
  (false, 59, (.iload_n 3), 1, 0, 0, []),
  (false, 60, .ireturn, 1, 0, 0, [])]
def kX12_init : List ab_E := [
  (false, 0, (.aload_n 0), 1, 0, 0, []),
  (false, 1, (.invokespecial 1), 3, 999, 0, []),
  (false, 4, (.aload_n 0), 1, 0, 0, []),
  (false, 5, (.sipush 3120), 3, 0, 0, []),
  (false, 8, (.newarray .int), 2, 0, 0, []),
  (false, 10, (.putfield 9), 3, 12, 1, [(2, 0)]),
  (false, 13, (.aload_n 0), 1, 0, 0, []),
  (false, 14, (.sipush 3120), 3, 0, 0, []),
  (false, 17, (.newarray .int), 2, 0, 0, []),
  (false, 19, (.putfield 13), 3, 12, 2, [(2, 0)]),
  (false, 22, (.aload_n 0), 1, 0, 0, []),
  (false, 23, (.sipush 3120), 3, 0, 0, []),
  (false, 26, (.newarray .int), 2, 0, 0, []),
  (false, 28, (.putfield 16), 3, 12, 3, [(2, 0)]),
  (false, 31, (.aload_n 0), 1, 0, 0, []),
  (false, 32, (.sipush 3120), 3, 0, 0, []),
  (false, 35, (.newarray .int), 2, 0, 0, []),
  (false, 37, (.putfield 19), 3, 12, 4, [(2, 0)]),
  (false, 40, (.aload_n 0), 1, 0, 0, []),
  (false, 41, (.sipush 3120), 3, 0, 0, []),
  (false, 44, (.newarray .int), 2, 0, 0, []),
  (false, 46, (.putfield 22), 3, 12, 5, [(2, 0)]),
  (false, 49, (.aload_n 0), 1, 0, 0, []),
  (false, 50, (.ldc 25), 2, 0, 0, [(37440, 0)]),
  (false, 52, (.newarray .int), 2, 0, 0, []),
  (false, 54, (.putfield 26), 3, 12, 6, [(2, 0)]),
  (false, 57, (.aload_n 0), 1, 0, 0, []),
  (false, 58, (.ldc 25), 2, 0, 0, [(37440, 0)]),
  (false, 60, (.newarray .int), 2, 0, 0, []),
  (false, 62, (.putfield 29), 3, 12, 7, [(2, 0)]),
  (false, 65, (.aload_n 0), 1, 0, 0, []),
  (false, 66, (.bipush 12), 2, 0, 0, []),
  (false, 68, (.newarray .int), 2, 0, 0, []),
  (false, 70, (.putfield 32), 3, 12, 10, [(2, 0)]),
  (false, 73, (.aload_n 0), 1, 0, 0, []),
  (false, 74, (.bipush 120), 2, 0, 0, []),
  (false, 76, (.newarray .int), 2, 0, 0, []),
  (false, 78, (.putfield 35), 3, 12, 11, [(2, 0)]),
  (false, 81, (.aload_n 0), 1, 0, 0, []),
  (false, 82, (.bipush 12), 2, 0, 0, []),
  (false, 84, (.newarray .int), 2, 0, 0, []),
  (false, 86, (.putfield 38), 3, 12, 12, [(2, 0)]),
  (false, 89, (.aload_n 0), 1, 0, 0, []),
  (false, 90, (.bipush 64), 2, 0, 0, []),
  (false, 92, (.newarray .int), 2, 0, 0, []),
  (false, 94, (.putfield 41), 3, 12, 13, [(2, 0)]),
  (false, 97, (.aload_n 0), 1, 0, 0, []),
  (false, 98, (.bipush 64), 2, 0, 0, []),
  (false, 100, (.newarray .int), 2, 0, 0, []),
  (false, 102, (.putfield 44), 3, 12, 14, [(2, 0)]),
  (false, 105, (.aload_n 0), 1, 0, 0, []),
  (false, 106, (.bipush 8), 2, 0, 0, []),
  (false, 108, (.newarray .int), 2, 0, 0, []),
  (false, 110, (.putfield 47), 3, 12, 15, [(2, 0)]),
  (false, 113, (.aload_n 0), 1, 0, 0, []),
  (false, 114, (.bipush 12), 2, 0, 0, []),
  (false, 116, (.newarray .int), 2, 0, 0, []),
  (false, 118, (.putfield 50), 3, 12, 16, [(2, 0)]),
  (false, 121, (.aload_n 0), 1, 0, 0, []),
  (false, 122, (.bipush 64), 2, 0, 0, []),
  (false, 124, (.newarray .int), 2, 0, 0, []),
  (false, 126, (.putfield 53), 3, 12, 17, [(2, 0)]),
  (false, 129, (.aload_n 0), 1, 0, 0, []),
  (false, 130, (.bipush 64), 2, 0, 0, []),
  (false, 132, (.newarray .int), 2, 0, 0, []),
  (false, 134, (.putfield 56), 3, 12, 18, [(2, 0)]),
  (false, 137, (.aload_n 0), 1, 0, 0, []),
  (false, 138, (.bipush 8), 2, 0, 0, []),
  (false, 140, (.newarray .int), 2, 0, 0, []),
  (false, 142, (.putfield 59), 3, 12, 19, [(2, 0)]),
  (false, 145, (.aload_n 0), 1, 0, 0, []),
  (false, 146, (.bipush 100), 2, 0, 0, []),
  (false, 148, (.newarray .int), 2, 0, 0, []),
  (false, 150, (.putfield 62), 3, 12, 21, [(2, 0)]),
  (false, 153, (.aload_n 0), 1, 0, 0, []),
  (false, 154, (.bipush 8), 2, 0, 0, []),
  (false, 156, (.newarray .int), 2, 0, 0, []),
  (false, 158, (.putfield 65), 3, 12, 28, [(2, 0)]),
  (false, 161, (.aload_n 0), 1, 0, 0, []),
  (false, 162, (.bipush 8), 2, 0, 0, []),
  (false, 164, (.newarray .int), 2, 0, 0, []),
  (false, 166, (.putfield 68), 3, 12, 29, [(2, 0)]),
  (false, 169, (.aload_n 0), 1, 0, 0, []),
  (false, 170, (.sipush 200), 3, 0, 0, []),
  (false, 173, (.newarray .int), 2, 0, 0, []),
  (false, 175, (.putfield 71), 3, 12, 30, [(2, 0)]),
  (false, 178, (.aload_n 0), 1, 0, 0, []),
  (false, 179, (.sipush 3120), 3, 0, 0, []),
  (false, 182, (.newarray .boolean), 2, 1, 0, []),
  (false, 184, (.putfield 74), 3, 12, 37, [(2, 0)]),
  (false, 187, (.iconst 0), 1, 0, 0, []),
  (false, 188, (.istore_n 1), 1, 0, 0, []),
  (true, 189, (.iload_n 1), 1, 0, 0, []),
  (false, 190, (.bipush 12), 2, 0, 0, []),
  (false, 192, (.if_icmp .ge 20), 3, 212, 0, []),
  (false, 195, (.aload_n 0), 1, 0, 0, []),
  (false, 196, (.getfield 32), 3, 12, 10, [(2, 0)]),
  (false, 199, (.iload_n 1), 1, 0, 0, []),
  (false, 200, (.aload_n 0), 1, 0, 0, []),
  (false, 201, (.iconst 0), 1, 0, 0, []),
  (false, 202, (.invokevirtual 78), 3, 138, 2, [(12, 0)]),
  (false, 205, .iastore, 1, 0, 0, []),
  (false, 206, (.iinc 1 1), 3, 0, 0, []),
  (false, 209, (.goto (-20)), 3, 189, 0, []),
  (false, 212, .return_, 1, 0, 0, [])]
def kX12_in : List ab_E := [
  (false, 0, (.iload_n 0), 1, 0, 0, []),
  (false, 1, (.iload_n 1), 1, 0, 0, []),
  (false, 2, (.if_icmp .lt 12), 3, 14, 0, []),
  (false, 5, (.iload_n 0), 1, 0, 0, []),
  (false, 6, (.iload_n 2), 1, 0, 0, []),
  (false, 7, (.if_icmp .gt 7), 3, 14, 0, []),
  (false, 10, (.iconst 1), 1, 0, 0, []),
  (false, 11, (.goto 4), 3, 15, 0, []),
  (false, 14, (.iconst 0), 1, 0, 0, []),
  (false, 15, .ireturn, 1, 1, 0, [])]
def kX12_isShelf : List ab_E := [
  (false, 0, (.iload_n 0), 1, 0, 0, []),
  (false, 1, (.iconst 0), 1, 0, 0, []),
  (false, 2, (.bipush 11), 2, 0, 0, []),
  (false, 4, (.invokestatic 86), 3, 133, 3, []),
  (false, 7, .ireturn, 1, 1, 0, [])]
def kX12_isPath : List ab_E := [
  (false, 0, (.iload_n 0), 1, 0, 0, []),
  (false, 1, (.iconst 0), 1, 0, 0, []),
  (false, 2, (.bipush 7), 2, 0, 0, []),
  (false, 4, (.invokestatic 86), 3, 133, 3, []),
  (false, 7, .ireturn, 1, 1, 0, [])]
def kX12_begins : List ab_E := [
  (false, 0, (.aload_n 0), 1, 0, 0, []),
  (false, 1, (.getfield 90), 3, 12, 8, [(0, 0)]),
  (false, 4, (.istore 4), 2, 0, 0, []),
  (false, 6, (.aload_n 0), 1, 0, 0, []),
  (false, 7, (.getfield 9), 3, 12, 1, [(2, 0)]),
  (false, 10, (.iload 4), 2, 0, 0, []),
  (false, 12, (.iload_n 1), 1, 0, 0, []),
  (false, 13, .iastore, 1, 0, 0, []),
  (false, 14, (.aload_n 0), 1, 0, 0, []),
  (false, 15, (.getfield 13), 3, 12, 2, [(2, 0)]),
  (false, 18, (.iload 4), 2, 0, 0, []),
  (false, 20, (.iload_n 2), 1, 0, 0, []),
  (false, 21, .iastore, 1, 0, 0, []),
  (false, 22, (.aload_n 0), 1, 0, 0, []),
  (false, 23, (.getfield 16), 3, 12, 3, [(2, 0)]),
  (false, 26, (.iload 4), 2, 0, 0, []),
  (false, 28, (.iload_n 3), 1, 0, 0, []),
  (false, 29, .iastore, 1, 0, 0, []),
  (false, 30, (.aload_n 0), 1, 0, 0, []),
  (false, 31, .dup, 1, 0, 0, []),
  (false, 32, (.getfield 90), 3, 12, 8, [(0, 0)]),
  (false, 35, (.iconst 1), 1, 0, 0, []),
  (false, 36, .iadd, 1, 0, 0, []),
  (false, 37, (.putfield 90), 3, 12, 8, [(0, 0)]),
  (false, 40, (.iload 4), 2, 0, 0, []),
  (false, 42, .ireturn, 1, 0, 0, [])]
def kX12_ends : List ab_E := [
  (false, 0, (.iconst 1), 1, 0, 0, []),
  (false, 1, (.istore_n 2), 1, 0, 0, []),
  (false, 2, (.iconst 0), 1, 0, 0, []),
  (false, 3, (.istore_n 3), 1, 0, 0, []),
  (false, 4, (.iconst 0), 1, 0, 0, []),
  (false, 5, (.istore 4), 2, 0, 0, []),
  (true, 7, (.iload 4), 2, 0, 0, []),
  (false, 9, (.aload_n 0), 1, 0, 0, []),
  (false, 10, (.getfield 16), 3, 12, 3, [(2, 0)]),
  (false, 13, (.iload_n 1), 1, 0, 0, []),
  (false, 14, .iaload, 1, 0, 0, []),
  (false, 15, (.if_icmp .ge 60), 3, 75, 0, []),
  (false, 18, (.aload_n 0), 1, 0, 0, []),
  (false, 19, (.getfield 26), 3, 12, 6, [(2, 0)]),
  (false, 22, (.bipush 12), 2, 0, 0, []),
  (false, 24, (.iload_n 1), 1, 0, 0, []),
  (false, 25, .imul, 1, 0, 0, []),
  (false, 26, (.iload 4), 2, 0, 0, []),
  (false, 28, .iadd, 1, 0, 0, []),
  (false, 29, .iaload, 1, 0, 0, []),
  (false, 30, (.istore 5), 2, 0, 0, []),
  (false, 32, (.iload_n 2), 1, 0, 0, []),
  (false, 33, (.aload_n 0), 1, 0, 0, []),
  (false, 34, (.getfield 19), 3, 12, 4, [(2, 0)]),
  (false, 37, (.iload 5), 2, 0, 0, []),
  (false, 39, .iaload, 1, 0, 0, []),
  (false, 40, .iadd, 1, 0, 0, []),
  (false, 41, (.istore_n 2), 1, 0, 0, []),
  (false, 42, (.aload_n 0), 1, 0, 0, []),
  (false, 43, (.getfield 22), 3, 12, 5, [(2, 0)]),
  (false, 46, (.iload 5), 2, 0, 0, []),
  (false, 48, .iaload, 1, 0, 0, []),
  (false, 49, (.iconst 1), 1, 0, 0, []),
  (false, 50, .iadd, 1, 0, 0, []),
  (false, 51, (.iload_n 3), 1, 0, 0, []),
  (false, 52, (.if_icmp .le 15), 3, 67, 0, []),
  (false, 55, (.aload_n 0), 1, 0, 0, []),
  (false, 56, (.getfield 22), 3, 12, 5, [(2, 0)]),
  (false, 59, (.iload 5), 2, 0, 0, []),
  (false, 61, .iaload, 1, 0, 0, []),
  (false, 62, (.iconst 1), 1, 0, 0, []),
  (false, 63, .iadd, 1, 0, 0, []),
  (false, 64, (.goto 4), 3, 68, 0, []),
  (false, 67, (.iload_n 3), 1, 0, 0, []),
  (false, 68, (.istore_n 3), 1, 0, 0, []),
  (false, 69, (.iinc 4 1), 3, 0, 0, []),
  (false, 72, (.goto (-65)), 3, 7, 0, []),
  (false, 75, (.aload_n 0), 1, 0, 0, []),
  (false, 76, (.getfield 19), 3, 12, 4, [(2, 0)]),
  (false, 79, (.iload_n 1), 1, 0, 0, []),
  (false, 80, (.iload_n 2), 1, 0, 0, []),
  (false, 81, .iastore, 1, 0, 0, []),
  (false, 82, (.aload_n 0), 1, 0, 0, []),
  (false, 83, (.getfield 22), 3, 12, 5, [(2, 0)]),
  (false, 86, (.iload_n 1), 1, 0, 0, []),
  (false, 87, (.iload_n 3), 1, 0, 0, []),
  (false, 88, .iastore, 1, 0, 0, []),
  (false, 89, (.iload_n 1), 1, 0, 0, []),
  (false, 90, .ireturn, 1, 0, 0, [])]
def kX12_number : List ab_E := [
  (false, 0, (.aload_n 0), 1, 0, 0, []),
  (false, 1, (.aload_n 0), 1, 0, 0, []),
  (false, 2, (.iconst 0), 1, 0, 0, []),
  (false, 3, (.iload_n 1), 1, 0, 0, []),
  (false, 4, (.iconst 0), 1, 0, 0, []),
  (false, 5, (.invokevirtual 93), 3, 136, 4, [(12, 0)]),
  (false, 8, (.invokevirtual 97), 3, 137, 2, [(12, 0)]),
  (false, 11, .ireturn, 1, 0, 0, [])]
def kX12_isFull : List ab_E := [
  (false, 0, (.aload_n 0), 1, 0, 0, []),
  (false, 1, (.getfield 19), 3, 12, 4, [(2, 0)]),
  (false, 4, (.iload_n 1), 1, 0, 0, []),
  (false, 5, .iaload, 1, 0, 0, []),
  (false, 6, (.sipush 200), 3, 0, 0, []),
  (false, 9, (.if_icmp .gt 14), 3, 23, 0, []),
  (false, 12, (.aload_n 0), 1, 0, 0, []),
  (false, 13, (.getfield 22), 3, 12, 5, [(2, 0)]),
  (false, 16, (.iload_n 1), 1, 0, 0, []),
  (false, 17, .iaload, 1, 0, 0, []),
  (false, 18, (.bipush 12), 2, 0, 0, []),
  (false, 20, (.if_icmp .le 7), 3, 27, 0, []),
  (false, 23, (.iconst 1), 1, 0, 0, []),
  (false, 24, (.goto 4), 3, 28, 0, []),
  (false, 27, (.iconst 0), 1, 0, 0, []),
  (false, 28, .ireturn, 1, 1, 0, [])]
def kX12_compared : List ab_E := [
  (false, 0, (.iload_n 1), 1, 0, 0, []),
  (false, 1, (.iload_n 2), 1, 0, 0, []),
  (false, 2, (.if_icmp .ne 5), 3, 7, 0, []),
  (false, 5, (.iconst 0), 1, 0, 0, []),
  (false, 6, .ireturn, 1, 0, 0, []),
  (false, 7, (.aload_n 0), 1, 0, 0, []),
  (false, 8, (.getfield 9), 3, 12, 1, [(2, 0)]),
  (false, 11, (.iload_n 1), 1, 0, 0, []),
  (false, 12, .iaload, 1, 0, 0, []),
  (false, 13, (.aload_n 0), 1, 0, 0, []),
  (false, 14, (.getfield 9), 3, 12, 1, [(2, 0)]),
  (false, 17, (.iload_n 2), 1, 0, 0, []),
  (false, 18, .iaload, 1, 0, 0, []),
  (false, 19, (.if_icmp .eq 24), 3, 43, 0, []),
  (false, 22, (.aload_n 0), 1, 0, 0, []),
  (false, 23, (.getfield 9), 3, 12, 1, [(2, 0)]),
  (false, 26, (.iload_n 1), 1, 0, 0, []),
  (false, 27, .iaload, 1, 0, 0, []),
  (false, 28, (.aload_n 0), 1, 0, 0, []),
  (false, 29, (.getfield 9), 3, 12, 1, [(2, 0)]),
  (false, 32, (.iload_n 2), 1, 0, 0, []),
  (false, 33, .iaload, 1, 0, 0, []),
  (false, 34, (.if_icmp .ge 7), 3, 41, 0, []),
  (false, 37, (.iconst (-1)), 1, 0, 0, []),
  (false, 38, (.goto 4), 3, 42, 0, []),
  (false, 41, (.iconst 1), 1, 0, 0, []),
  (false, 42, .ireturn, 1, 0, 0, []),
  (false, 43, (.aload_n 0), 1, 0, 0, []),
  (false, 44, (.getfield 13), 3, 12, 2, [(2, 0)]),
  (false, 47, (.iload_n 1), 1, 0, 0, []),
  (false, 48, .iaload, 1, 0, 0, []),
  (false, 49, (.aload_n 0), 1, 0, 0, []),
  (false, 50, (.getfield 13), 3, 12, 2, [(2, 0)]),
  (false, 53, (.iload_n 2), 1, 0, 0, []),
  (false, 54, .iaload, 1, 0, 0, []),
  (false, 55, (.if_icmp .eq 24), 3, 79, 0, []),
  (false, 58, (.aload_n 0), 1, 0, 0, []),
  (false, 59, (.getfield 13), 3, 12, 2, [(2, 0)]),
  (false, 62, (.iload_n 1), 1, 0, 0, []),
  (false, 63, .iaload, 1, 0, 0, []),
  (false, 64, (.aload_n 0), 1, 0, 0, []),
  (false, 65, (.getfield 13), 3, 12, 2, [(2, 0)]),
  (false, 68, (.iload_n 2), 1, 0, 0, []),
  (false, 69, .iaload, 1, 0, 0, []),
  (false, 70, (.if_icmp .ge 7), 3, 77, 0, []),
  (false, 73, (.iconst (-1)), 1, 0, 0, []),
  (false, 74, (.goto 4), 3, 78, 0, []),
  (false, 77, (.iconst 1), 1, 0, 0, []),
  (false, 78, .ireturn, 1, 0, 0, []),
  (false, 79, (.iconst 0), 1, 0, 0, []),
  (false, 80, (.istore_n 3), 1, 0, 0, []),
  (true, 81, (.iload_n 3), 1, 0, 0, []),
  (false, 82, (.aload_n 0), 1, 0, 0, []),
  (false, 83, (.getfield 16), 3, 12, 3, [(2, 0)]),
  (false, 86, (.iload_n 1), 1, 0, 0, []),
  (false, 87, .iaload, 1, 0, 0, []),
  (false, 88, (.if_icmp .ge 111), 3, 199, 0, []),
  (false, 91, (.iload_n 3), 1, 0, 0, []),
  (false, 92, (.aload_n 0), 1, 0, 0, []),
  (false, 93, (.getfield 16), 3, 12, 3, [(2, 0)]),
  (false, 96, (.iload_n 2), 1, 0, 0, []),
  (false, 97, .iaload, 1, 0, 0, []),
  (false, 98, (.if_icmp .ge 101), 3, 199, 0, []),
  (false, 101, (.aload_n 0), 1, 0, 0, []),
  (false, 102, (.getfield 29), 3, 12, 7, [(2, 0)]),
  (false, 105, (.bipush 12), 2, 0, 0, []),
  (false, 107, (.iload_n 1), 1, 0, 0, []),
  (false, 108, .imul, 1, 0, 0, []),
  (false, 109, (.iload_n 3), 1, 0, 0, []),
  (false, 110, .iadd, 1, 0, 0, []),
  (false, 111, .iaload, 1, 0, 0, []),
  (false, 112, (.aload_n 0), 1, 0, 0, []),
  (false, 113, (.getfield 29), 3, 12, 7, [(2, 0)]),
  (false, 116, (.bipush 12), 2, 0, 0, []),
  (false, 118, (.iload_n 2), 1, 0, 0, []),
  (false, 119, .imul, 1, 0, 0, []),
  (false, 120, (.iload_n 3), 1, 0, 0, []),
  (false, 121, .iadd, 1, 0, 0, []),
  (false, 122, .iaload, 1, 0, 0, []),
  (false, 123, (.if_icmp .eq 34), 3, 157, 0, []),
  (false, 126, (.aload_n 0), 1, 0, 0, []),
  (false, 127, (.getfield 29), 3, 12, 7, [(2, 0)]),
  (false, 130, (.bipush 12), 2, 0, 0, []),
  (false, 132, (.iload_n 1), 1, 0, 0, []),
  (false, 133, .imul, 1, 0, 0, []),
  (false, 134, (.iload_n 3), 1, 0, 0, []),
  (false, 135, .iadd, 1, 0, 0, []),
  (false, 136, .iaload, 1, 0, 0, []),
  (false, 137, (.aload_n 0), 1, 0, 0, []),
  (false, 138, (.getfield 29), 3, 12, 7, [(2, 0)]),
  (false, 141, (.bipush 12), 2, 0, 0, []),
  (false, 143, (.iload_n 2), 1, 0, 0, []),
  (false, 144, .imul, 1, 0, 0, []),
  (false, 145, (.iload_n 3), 1, 0, 0, []),
  (false, 146, .iadd, 1, 0, 0, []),
  (false, 147, .iaload, 1, 0, 0, []),
  (false, 148, (.if_icmp .ge 7), 3, 155, 0, []),
  (false, 151, (.iconst (-1)), 1, 0, 0, []),
  (false, 152, (.goto 4), 3, 156, 0, []),
  (false, 155, (.iconst 1), 1, 0, 0, []),
  (false, 156, .ireturn, 1, 0, 0, []),
  (false, 157, (.aload_n 0), 1, 0, 0, []),
  (false, 158, (.aload_n 0), 1, 0, 0, []),
  (false, 159, (.getfield 26), 3, 12, 6, [(2, 0)]),
  (false, 162, (.bipush 12), 2, 0, 0, []),
  (false, 164, (.iload_n 1), 1, 0, 0, []),
  (false, 165, .imul, 1, 0, 0, []),
  (false, 166, (.iload_n 3), 1, 0, 0, []),
  (false, 167, .iadd, 1, 0, 0, []),
  (false, 168, .iaload, 1, 0, 0, []),
  (false, 169, (.aload_n 0), 1, 0, 0, []),
  (false, 170, (.getfield 26), 3, 12, 6, [(2, 0)]),
  (false, 173, (.bipush 12), 2, 0, 0, []),
  (false, 175, (.iload_n 2), 1, 0, 0, []),
  (false, 176, .imul, 1, 0, 0, []),
  (false, 177, (.iload_n 3), 1, 0, 0, []),
  (false, 178, .iadd, 1, 0, 0, []),
  (false, 179, .iaload, 1, 0, 0, []),
  (false, 180, (.invokevirtual 100), 3, 140, 3, [(12, 0)]),
  (false, 183, (.istore 4), 2, 0, 0, []),
  (false, 185, (.iload 4), 2, 0, 0, []),
  (false, 187, (.ifCond .eq 6), 3, 193, 0, []),
  (false, 190, (.iload 4), 2, 0, 0, []),
  (false, 192, .ireturn, 1, 0, 0, []),
  (false, 193, (.iinc 3 1), 3, 0, 0, []),
  (false, 196, (.goto (-115)), 3, 81, 0, []),
  (false, 199, (.aload_n 0), 1, 0, 0, []),
  (false, 200, (.getfield 16), 3, 12, 3, [(2, 0)]),
  (false, 203, (.iload_n 1), 1, 0, 0, []),
  (false, 204, .iaload, 1, 0, 0, []),
  (false, 205, (.aload_n 0), 1, 0, 0, []),
  (false, 206, (.getfield 16), 3, 12, 3, [(2, 0)]),
  (false, 209, (.iload_n 2), 1, 0, 0, []),
  (false, 210, .iaload, 1, 0, 0, []),
  (false, 211, (.if_icmp .ge 7), 3, 218, 0, []),
  (false, 214, (.iconst (-1)), 1, 0, 0, []),
  (false, 215, (.goto 23), 3, 238, 0, []),
  (false, 218, (.aload_n 0), 1, 0, 0, []),
  (false, 219, (.getfield 16), 3, 12, 3, [(2, 0)]),
  (false, 222, (.iload_n 1), 1, 0, 0, []),
  (false, 223, .iaload, 1, 0, 0, []),
  (false, 224, (.aload_n 0), 1, 0, 0, []),
  (false, 225, (.getfield 16), 3, 12, 3, [(2, 0)]),
  (false, 228, (.iload_n 2), 1, 0, 0, []),
  (false, 229, .iaload, 1, 0, 0, []),
  (false, 230, (.if_icmp .le 7), 3, 237, 0, []),
  (false, 233, (.iconst 1), 1, 0, 0, []),
  (false, 234, (.goto 4), 3, 238, 0, []),
  (false, 237, (.iconst 0), 1, 0, 0, []),
  (false, 238, .ireturn, 1, 0, 0, [])]
def kX12_becomes : List ab_E := [
  (false, 0, (.aload_n 0), 1, 0, 0, []),
  (false, 1, (.getfield 38), 3, 12, 12, [(2, 0)]),
  (false, 4, (.iload_n 1), 1, 0, 0, []),
  (false, 5, .iaload, 1, 0, 0, []),
  (false, 6, (.bipush 10), 2, 0, 0, []),
  (false, 8, (.if_icmp .ne 49), 3, 57, 0, []),
  (false, 11, (.iconst 0), 1, 0, 0, []),
  (false, 12, (.istore_n 3), 1, 0, 0, []),
  (true, 13, (.iload_n 3), 1, 0, 0, []),
  (false, 14, (.bipush 9), 2, 0, 0, []),
  (false, 16, (.if_icmp .ge 33), 3, 49, 0, []),
  (false, 19, (.aload_n 0), 1, 0, 0, []),
  (false, 20, (.getfield 35), 3, 12, 11, [(2, 0)]),
  (false, 23, (.bipush 10), 2, 0, 0, []),
  (false, 25, (.iload_n 1), 1, 0, 0, []),
  (false, 26, .imul, 1, 0, 0, []),
  (false, 27, (.iload_n 3), 1, 0, 0, []),
  (false, 28, .iadd, 1, 0, 0, []),
  (false, 29, (.aload_n 0), 1, 0, 0, []),
  (false, 30, (.getfield 35), 3, 12, 11, [(2, 0)]),
  (false, 33, (.bipush 10), 2, 0, 0, []),
  (false, 35, (.iload_n 1), 1, 0, 0, []),
  (false, 36, .imul, 1, 0, 0, []),
  (false, 37, (.iload_n 3), 1, 0, 0, []),
  (false, 38, .iadd, 1, 0, 0, []),
  (false, 39, (.iconst 1), 1, 0, 0, []),
  (false, 40, .iadd, 1, 0, 0, []),
  (false, 41, .iaload, 1, 0, 0, []),
  (false, 42, .iastore, 1, 0, 0, []),
  (false, 43, (.iinc 3 1), 3, 0, 0, []),
  (false, 46, (.goto (-33)), 3, 13, 0, []),
  (false, 49, (.aload_n 0), 1, 0, 0, []),
  (false, 50, (.getfield 38), 3, 12, 12, [(2, 0)]),
  (false, 53, (.iload_n 1), 1, 0, 0, []),
  (false, 54, (.bipush 9), 2, 0, 0, []),
  (false, 56, .iastore, 1, 0, 0, []),
  (false, 57, (.aload_n 0), 1, 0, 0, []),
  (false, 58, (.getfield 35), 3, 12, 11, [(2, 0)]),
  (false, 61, (.bipush 10), 2, 0, 0, []),
  (false, 63, (.iload_n 1), 1, 0, 0, []),
  (false, 64, .imul, 1, 0, 0, []),
  (false, 65, (.aload_n 0), 1, 0, 0, []),
  (false, 66, (.getfield 38), 3, 12, 12, [(2, 0)]),
  (false, 69, (.iload_n 1), 1, 0, 0, []),
  (false, 70, .iaload, 1, 0, 0, []),
  (false, 71, .iadd, 1, 0, 0, []),
  (false, 72, (.aload_n 0), 1, 0, 0, []),
  (false, 73, (.getfield 32), 3, 12, 10, [(2, 0)]),
  (false, 76, (.iload_n 1), 1, 0, 0, []),
  (false, 77, .iaload, 1, 0, 0, []),
  (false, 78, .iastore, 1, 0, 0, []),
  (false, 79, (.aload_n 0), 1, 0, 0, []),
  (false, 80, (.getfield 38), 3, 12, 12, [(2, 0)]),
  (false, 83, (.iload_n 1), 1, 0, 0, []),
  (false, 84, .dup2, 1, 0, 0, []),
  (false, 85, .iaload, 1, 0, 0, []),
  (false, 86, (.iconst 1), 1, 0, 0, []),
  (false, 87, .iadd, 1, 0, 0, []),
  (false, 88, .iastore, 1, 0, 0, []),
  (false, 89, (.aload_n 0), 1, 0, 0, []),
  (false, 90, (.getfield 32), 3, 12, 10, [(2, 0)]),
  (false, 93, (.iload_n 1), 1, 0, 0, []),
  (false, 94, (.iload_n 2), 1, 0, 0, []),
  (false, 95, .iastore, 1, 0, 0, []),
  (false, 96, .return_, 1, 0, 0, [])]
def kX12_feed : List ab_E := [
  (false, 0, (.iload_n 1), 1, 0, 0, []),
  (false, 1, (.iconst 1), 1, 0, 0, []),
  (false, 2, (.iconst 4), 1, 0, 0, []),
  (false, 3, (.invokestatic 86), 3, 133, 3, []),
  (false, 6, (.ifCond .ne 6), 3, 12, 0, []),
  (false, 9, (.bipush (-2)), 2, 0, 0, []),
  (false, 11, .ireturn, 1, 0, 0, []),
  (false, 12, (.aload_n 0), 1, 0, 0, []),
  (false, 13, (.getfield 104), 3, 12, 22, [(0, 0)]),
  (false, 16, (.iload_n 1), 1, 0, 0, []),
  (false, 17, .iadd, 1, 0, 0, []),
  (false, 18, (.bipush 100), 2, 0, 0, []),
  (false, 20, (.if_icmp .le 6), 3, 26, 0, []),
  (false, 23, (.bipush (-4)), 2, 0, 0, []),
  (false, 25, .ireturn, 1, 0, 0, []),
  (false, 26, (.iconst 0), 1, 0, 0, []),
  (false, 27, (.istore_n 3), 1, 0, 0, []),
  (true, 28, (.iload_n 3), 1, 0, 0, []),
  (false, 29, (.iload_n 1), 1, 0, 0, []),
  (false, 30, (.if_icmp .ge 38), 3, 68, 0, []),
  (false, 33, (.aload_n 0), 1, 0, 0, []),
  (false, 34, (.getfield 62), 3, 12, 21, [(2, 0)]),
  (false, 37, (.aload_n 0), 1, 0, 0, []),
  (false, 38, (.getfield 104), 3, 12, 22, [(0, 0)]),
  (false, 41, (.iload_n 2), 1, 0, 0, []),
  (false, 42, (.bipush 8), 2, 0, 0, []),
  (false, 44, (.iload_n 3), 1, 0, 0, []),
  (false, 45, .imul, 1, 0, 0, []),
  (false, 46, .ishr, 1, 0, 0, []),
  (false, 47, (.sipush 255), 3, 0, 0, []),
  (false, 50, .iand, 1, 0, 0, []),
  (false, 51, .iastore, 1, 0, 0, []),
  (false, 52, (.aload_n 0), 1, 0, 0, []),
  (false, 53, .dup, 1, 0, 0, []),
  (false, 54, (.getfield 104), 3, 12, 22, [(0, 0)]),
  (false, 57, (.iconst 1), 1, 0, 0, []),
  (false, 58, .iadd, 1, 0, 0, []),
  (false, 59, (.putfield 104), 3, 12, 22, [(0, 0)]),
  (false, 62, (.iinc 3 1), 3, 0, 0, []),
  (false, 65, (.goto (-37)), 3, 28, 0, []),
  (false, 68, (.aload_n 0), 1, 0, 0, []),
  (false, 69, (.getfield 104), 3, 12, 22, [(0, 0)]),
  (false, 72, .ireturn, 1, 0, 0, [])]
def kX12_here : List ab_E := [
  (false, 0, (.aload_n 0), 1, 0, 0, []),
  (false, 1, (.getfield 107), 3, 12, 23, [(0, 0)]),
  (false, 4, (.aload_n 0), 1, 0, 0, []),
  (false, 5, (.getfield 104), 3, 12, 22, [(0, 0)]),
  (false, 8, (.if_icmp .ge 15), 3, 23, 0, []),
  (false, 11, (.aload_n 0), 1, 0, 0, []),
  (false, 12, (.getfield 62), 3, 12, 21, [(2, 0)]),
  (false, 15, (.aload_n 0), 1, 0, 0, []),
  (false, 16, (.getfield 107), 3, 12, 23, [(0, 0)]),
  (false, 19, .iaload, 1, 0, 0, []),
  (false, 20, (.goto 4), 3, 24, 0, []),
  (false, 23, (.iconst (-1)), 1, 0, 0, []),
  (false, 24, .ireturn, 1, 0, 0, [])]
def kX12_fails : List ab_E := [
  (false, 0, (.aload_n 0), 1, 0, 0, []),
  (false, 1, (.aload_n 0), 1, 0, 0, []),
  (false, 2, (.getfield 110), 3, 12, 24, [(0, 0)]),
  (false, 5, (.iconst (-1)), 1, 0, 0, []),
  (false, 6, (.if_icmp .ne 7), 3, 13, 0, []),
  (false, 9, (.iload_n 1), 1, 0, 0, []),
  (false, 10, (.goto 7), 3, 17, 0, []),
  (false, 13, (.aload_n 0), 1, 0, 0, []),
  (false, 14, (.getfield 110), 3, 12, 24, [(0, 0)]),
  (false, 17, (.putfield 110), 3, 12, 24, [(0, 0)]),
  (false, 20, .return_, 1, 0, 0, [])]
def kX12_isFault : List ab_E := [
  (false, 0, (.aload_n 0), 1, 0, 0, []),
  (false, 1, (.getfield 110), 3, 12, 24, [(0, 0)]),
  (false, 4, (.iconst (-1)), 1, 0, 0, []),
  (false, 5, (.if_icmp .eq 7), 3, 12, 0, []),
  (false, 8, (.iconst 1), 1, 0, 0, []),
  (false, 9, (.goto 4), 3, 13, 0, []),
  (false, 12, (.iconst 0), 1, 0, 0, []),
  (false, 13, .ireturn, 1, 1, 0, [])]
def kX12_one : List ab_E := [
  (false, 0, (.aload_n 0), 1, 0, 0, []),
  (false, 1, (.invokevirtual 113), 3, 143, 1, [(12, 0)]),
  (false, 4, (.istore_n 3), 1, 0, 0, []),
  (false, 5, (.aload_n 0), 1, 0, 0, []),
  (false, 6, (.invokevirtual 117), 3, 145, 1, [(12, 0)]),
  (false, 9, (.ifCond .ne 12), 3, 21, 0, []),
  (false, 12, (.iload_n 3), 1, 0, 0, []),
  (false, 13, (.iload_n 1), 1, 0, 0, []),
  (false, 14, (.iload_n 2), 1, 0, 0, []),
  (false, 15, (.invokestatic 86), 3, 133, 3, []),
  (false, 18, (.ifCond .ne 13), 3, 31, 0, []),
  (false, 21, (.aload_n 0), 1, 0, 0, []),
  (false, 22, (.aload_n 0), 1, 0, 0, []),
  (false, 23, (.getfield 107), 3, 12, 23, [(0, 0)]),
  (false, 26, (.invokevirtual 121), 3, 144, 2, [(12, 0)]),
  (false, 29, (.iload_n 1), 1, 0, 0, []),
  (false, 30, .ireturn, 1, 0, 0, []),
  (false, 31, (.aload_n 0), 1, 0, 0, []),
  (false, 32, .dup, 1, 0, 0, []),
  (false, 33, (.getfield 107), 3, 12, 23, [(0, 0)]),
  (false, 36, (.iconst 1), 1, 0, 0, []),
  (false, 37, .iadd, 1, 0, 0, []),
  (false, 38, (.putfield 107), 3, 12, 23, [(0, 0)]),
  (false, 41, (.iload_n 3), 1, 0, 0, []),
  (false, 42, .ireturn, 1, 0, 0, [])]
def kX12_isHere : List ab_E := [
  (false, 0, (.aload_n 0), 1, 0, 0, []),
  (false, 1, (.invokevirtual 117), 3, 145, 1, [(12, 0)]),
  (false, 4, (.ifCond .ne 15), 3, 19, 0, []),
  (false, 7, (.aload_n 0), 1, 0, 0, []),
  (false, 8, (.invokevirtual 113), 3, 143, 1, [(12, 0)]),
  (false, 11, (.iload_n 1), 1, 0, 0, []),
  (false, 12, (.if_icmp .ne 7), 3, 19, 0, []),
  (false, 15, (.iconst 1), 1, 0, 0, []),
  (false, 16, (.goto 4), 3, 20, 0, []),
  (false, 19, (.iconst 0), 1, 0, 0, []),
  (false, 20, .ireturn, 1, 1, 0, [])]
def kX12_digits : List ab_E := [
  (false, 0, (.aload_n 0), 1, 0, 0, []),
  (false, 1, (.bipush 48), 2, 0, 0, []),
  (false, 3, (.bipush 57), 2, 0, 0, []),
  (false, 5, (.invokevirtual 125), 3, 146, 3, [(12, 0)]),
  (false, 8, (.bipush 48), 2, 0, 0, []),
  (false, 10, .isub, 1, 0, 0, []),
  (false, 11, (.istore_n 2), 1, 0, 0, []),
  (false, 12, (.iconst 1), 1, 0, 0, []),
  (false, 13, (.istore_n 3), 1, 0, 0, []),
  (true, 14, (.iload_n 3), 1, 0, 0, []),
  (false, 15, (.iload_n 1), 1, 0, 0, []),
  (false, 16, (.if_icmp .ge 58), 3, 74, 0, []),
  (false, 19, (.aload_n 0), 1, 0, 0, []),
  (false, 20, (.invokevirtual 117), 3, 145, 1, [(12, 0)]),
  (false, 23, (.ifCond .ne 51), 3, 74, 0, []),
  (false, 26, (.aload_n 0), 1, 0, 0, []),
  (false, 27, (.invokevirtual 113), 3, 143, 1, [(12, 0)]),
  (false, 30, (.bipush 48), 2, 0, 0, []),
  (false, 32, (.bipush 57), 2, 0, 0, []),
  (false, 34, (.invokestatic 86), 3, 133, 3, []),
  (false, 37, (.ifCond .eq 37), 3, 74, 0, []),
  (false, 40, (.bipush 10), 2, 0, 0, []),
  (false, 42, (.iload_n 2), 1, 0, 0, []),
  (false, 43, .imul, 1, 0, 0, []),
  (false, 44, (.aload_n 0), 1, 0, 0, []),
  (false, 45, (.getfield 62), 3, 12, 21, [(2, 0)]),
  (false, 48, (.aload_n 0), 1, 0, 0, []),
  (false, 49, (.getfield 107), 3, 12, 23, [(0, 0)]),
  (false, 52, .iaload, 1, 0, 0, []),
  (false, 53, .iadd, 1, 0, 0, []),
  (false, 54, (.bipush 48), 2, 0, 0, []),
  (false, 56, .isub, 1, 0, 0, []),
  (false, 57, (.istore_n 2), 1, 0, 0, []),
  (false, 58, (.aload_n 0), 1, 0, 0, []),
  (false, 59, .dup, 1, 0, 0, []),
  (false, 60, (.getfield 107), 3, 12, 23, [(0, 0)]),
  (false, 63, (.iconst 1), 1, 0, 0, []),
  (false, 64, .iadd, 1, 0, 0, []),
  (false, 65, (.putfield 107), 3, 12, 23, [(0, 0)]),
  (false, 68, (.iinc 3 1), 3, 0, 0, []),
  (false, 71, (.goto (-57)), 3, 14, 0, []),
  (false, 74, (.iload_n 2), 1, 0, 0, []),
  (false, 75, .ireturn, 1, 0, 0, [])]
def kX12_signed : List ab_E := [
  (false, 0, (.aload_n 0), 1, 0, 0, []),
  (false, 1, (.bipush 45), 2, 0, 0, []),
  (false, 3, (.invokevirtual 128), 3, 147, 2, [(12, 0)]),
  (false, 6, (.ifCond .eq 21), 3, 27, 0, []),
  (false, 9, (.aload_n 0), 1, 0, 0, []),
  (false, 10, .dup, 1, 0, 0, []),
  (false, 11, (.getfield 107), 3, 12, 23, [(0, 0)]),
  (false, 14, (.iconst 1), 1, 0, 0, []),
  (false, 15, .iadd, 1, 0, 0, []),
  (false, 16, (.putfield 107), 3, 12, 23, [(0, 0)]),
  (false, 19, (.aload_n 0), 1, 0, 0, []),
  (false, 20, (.bipush 6), 2, 0, 0, []),
  (false, 22, (.invokevirtual 132), 3, 148, 2, [(12, 0)]),
  (false, 25, .ineg, 1, 0, 0, []),
  (false, 26, .ireturn, 1, 0, 0, []),
  (false, 27, (.aload_n 0), 1, 0, 0, []),
  (false, 28, (.bipush 6), 2, 0, 0, []),
  (false, 30, (.invokevirtual 132), 3, 148, 2, [(12, 0)]),
  (false, 33, .ireturn, 1, 0, 0, [])]
def kX12_letters : List ab_E := [
  (false, 0, (.aload_n 0), 1, 0, 0, []),
  (false, 1, (.bipush 97), 2, 0, 0, []),
  (false, 3, (.bipush 122), 2, 0, 0, []),
  (false, 5, (.invokevirtual 125), 3, 146, 3, [(12, 0)]),
  (false, 8, (.bipush 97), 2, 0, 0, []),
  (false, 10, .isub, 1, 0, 0, []),
  (false, 11, (.iconst 1), 1, 0, 0, []),
  (false, 12, .iadd, 1, 0, 0, []),
  (false, 13, (.istore_n 1), 1, 0, 0, []),
  (false, 14, (.iconst 1), 1, 0, 0, []),
  (false, 15, (.istore_n 2), 1, 0, 0, []),
  (true, 16, (.iload_n 2), 1, 0, 0, []),
  (false, 17, (.iconst 3), 1, 0, 0, []),
  (false, 18, (.if_icmp .ge 60), 3, 78, 0, []),
  (false, 21, (.aload_n 0), 1, 0, 0, []),
  (false, 22, (.invokevirtual 117), 3, 145, 1, [(12, 0)]),
  (false, 25, (.ifCond .ne 53), 3, 78, 0, []),
  (false, 28, (.aload_n 0), 1, 0, 0, []),
  (false, 29, (.invokevirtual 113), 3, 143, 1, [(12, 0)]),
  (false, 32, (.bipush 97), 2, 0, 0, []),
  (false, 34, (.bipush 122), 2, 0, 0, []),
  (false, 36, (.invokestatic 86), 3, 133, 3, []),
  (false, 39, (.ifCond .eq 39), 3, 78, 0, []),
  (false, 42, (.bipush 27), 2, 0, 0, []),
  (false, 44, (.iload_n 1), 1, 0, 0, []),
  (false, 45, .imul, 1, 0, 0, []),
  (false, 46, (.aload_n 0), 1, 0, 0, []),
  (false, 47, (.getfield 62), 3, 12, 21, [(2, 0)]),
  (false, 50, (.aload_n 0), 1, 0, 0, []),
  (false, 51, (.getfield 107), 3, 12, 23, [(0, 0)]),
  (false, 54, .iaload, 1, 0, 0, []),
  (false, 55, .iadd, 1, 0, 0, []),
  (false, 56, (.bipush 97), 2, 0, 0, []),
  (false, 58, .isub, 1, 0, 0, []),
  (false, 59, (.iconst 1), 1, 0, 0, []),
  (false, 60, .iadd, 1, 0, 0, []),
  (false, 61, (.istore_n 1), 1, 0, 0, []),
  (false, 62, (.aload_n 0), 1, 0, 0, []),
  (false, 63, .dup, 1, 0, 0, []),
  (false, 64, (.getfield 107), 3, 12, 23, [(0, 0)]),
  (false, 67, (.iconst 1), 1, 0, 0, []),
  (false, 68, .iadd, 1, 0, 0, []),
  (false, 69, (.putfield 107), 3, 12, 23, [(0, 0)]),
  (false, 72, (.iinc 2 1), 3, 0, 0, []),
  (false, 75, (.goto (-59)), 3, 16, 0, []),
  (false, 78, (.iload_n 1), 1, 0, 0, []),
  (false, 79, .ireturn, 1, 0, 0, [])]
def kX12_adds : List ab_E := [
  (false, 0, (.aload_n 0), 1, 0, 0, []),
  (false, 1, (.getfield 26), 3, 12, 6, [(2, 0)]),
  (false, 4, (.bipush 12), 2, 0, 0, []),
  (false, 6, (.iload_n 1), 1, 0, 0, []),
  (false, 7, .imul, 1, 0, 0, []),
  (false, 8, (.aload_n 0), 1, 0, 0, []),
  (false, 9, (.getfield 16), 3, 12, 3, [(2, 0)]),
  (false, 12, (.iload_n 1), 1, 0, 0, []),
  (false, 13, .iaload, 1, 0, 0, []),
  (false, 14, .iadd, 1, 0, 0, []),
  (false, 15, (.iload_n 3), 1, 0, 0, []),
  (false, 16, .iastore, 1, 0, 0, []),
  (false, 17, (.aload_n 0), 1, 0, 0, []),
  (false, 18, (.getfield 29), 3, 12, 7, [(2, 0)]),
  (false, 21, (.bipush 12), 2, 0, 0, []),
  (false, 23, (.iload_n 1), 1, 0, 0, []),
  (false, 24, .imul, 1, 0, 0, []),
  (false, 25, (.aload_n 0), 1, 0, 0, []),
  (false, 26, (.getfield 16), 3, 12, 3, [(2, 0)]),
  (false, 29, (.iload_n 1), 1, 0, 0, []),
  (false, 30, .iaload, 1, 0, 0, []),
  (false, 31, .iadd, 1, 0, 0, []),
  (false, 32, (.iload_n 2), 1, 0, 0, []),
  (false, 33, .iastore, 1, 0, 0, []),
  (false, 34, (.aload_n 0), 1, 0, 0, []),
  (false, 35, (.getfield 16), 3, 12, 3, [(2, 0)]),
  (false, 38, (.iload_n 1), 1, 0, 0, []),
  (false, 39, .dup2, 1, 0, 0, []),
  (false, 40, .iaload, 1, 0, 0, []),
  (false, 41, (.iconst 1), 1, 0, 0, []),
  (false, 42, .iadd, 1, 0, 0, []),
  (false, 43, .iastore, 1, 0, 0, []),
  (false, 44, .return_, 1, 0, 0, [])]
def kX12_puts : List ab_E := [
  (false, 0, (.iconst 0), 1, 0, 0, []),
  (false, 1, (.istore 4), 2, 0, 0, []),
  (true, 3, (.iload 4), 2, 0, 0, []),
  (false, 5, (.aload_n 0), 1, 0, 0, []),
  (false, 6, (.getfield 16), 3, 12, 3, [(2, 0)]),
  (false, 9, (.iload_n 1), 1, 0, 0, []),
  (false, 10, .iaload, 1, 0, 0, []),
  (false, 11, (.if_icmp .ge 25), 3, 36, 0, []),
  (false, 14, (.aload_n 0), 1, 0, 0, []),
  (false, 15, (.getfield 29), 3, 12, 7, [(2, 0)]),
  (false, 18, (.bipush 12), 2, 0, 0, []),
  (false, 20, (.iload_n 1), 1, 0, 0, []),
  (false, 21, .imul, 1, 0, 0, []),
  (false, 22, (.iload 4), 2, 0, 0, []),
  (false, 24, .iadd, 1, 0, 0, []),
  (false, 25, .iaload, 1, 0, 0, []),
  (false, 26, (.iload_n 2), 1, 0, 0, []),
  (false, 27, (.if_icmp .ge 9), 3, 36, 0, []),
  (false, 30, (.iinc 4 1), 3, 0, 0, []),
  (false, 33, (.goto (-30)), 3, 3, 0, []),
  (false, 36, (.iload 4), 2, 0, 0, []),
  (false, 38, (.aload_n 0), 1, 0, 0, []),
  (false, 39, (.getfield 16), 3, 12, 3, [(2, 0)]),
  (false, 42, (.iload_n 1), 1, 0, 0, []),
  (false, 43, .iaload, 1, 0, 0, []),
  (false, 44, (.if_icmp .eq 19), 3, 63, 0, []),
  (false, 47, (.aload_n 0), 1, 0, 0, []),
  (false, 48, (.getfield 29), 3, 12, 7, [(2, 0)]),
  (false, 51, (.bipush 12), 2, 0, 0, []),
  (false, 53, (.iload_n 1), 1, 0, 0, []),
  (false, 54, .imul, 1, 0, 0, []),
  (false, 55, (.iload 4), 2, 0, 0, []),
  (false, 57, .iadd, 1, 0, 0, []),
  (false, 58, .iaload, 1, 0, 0, []),
  (false, 59, (.iload_n 2), 1, 0, 0, []),
  (false, 60, (.if_icmp .eq 86), 3, 146, 0, []),
  (false, 63, (.aload_n 0), 1, 0, 0, []),
  (false, 64, (.getfield 16), 3, 12, 3, [(2, 0)]),
  (false, 67, (.iload_n 1), 1, 0, 0, []),
  (false, 68, .iaload, 1, 0, 0, []),
  (false, 69, (.istore 5), 2, 0, 0, []),
  (true, 71, (.iload 5), 2, 0, 0, []),
  (false, 73, (.iload 4), 2, 0, 0, []),
  (false, 75, (.if_icmp .le 61), 3, 136, 0, []),
  (false, 78, (.aload_n 0), 1, 0, 0, []),
  (false, 79, (.getfield 26), 3, 12, 6, [(2, 0)]),
  (false, 82, (.bipush 12), 2, 0, 0, []),
  (false, 84, (.iload_n 1), 1, 0, 0, []),
  (false, 85, .imul, 1, 0, 0, []),
  (false, 86, (.iload 5), 2, 0, 0, []),
  (false, 88, .iadd, 1, 0, 0, []),
  (false, 89, (.aload_n 0), 1, 0, 0, []),
  (false, 90, (.getfield 26), 3, 12, 6, [(2, 0)]),
  (false, 93, (.bipush 12), 2, 0, 0, []),
  (false, 95, (.iload_n 1), 1, 0, 0, []),
  (false, 96, .imul, 1, 0, 0, []),
  (false, 97, (.iload 5), 2, 0, 0, []),
  (false, 99, .iadd, 1, 0, 0, []),
  (false, 100, (.iconst 1), 1, 0, 0, []),
  (false, 101, .isub, 1, 0, 0, []),
  (false, 102, .iaload, 1, 0, 0, []),
  (false, 103, .iastore, 1, 0, 0, []),
  (false, 104, (.aload_n 0), 1, 0, 0, []),
  (false, 105, (.getfield 29), 3, 12, 7, [(2, 0)]),
  (false, 108, (.bipush 12), 2, 0, 0, []),
  (false, 110, (.iload_n 1), 1, 0, 0, []),
  (false, 111, .imul, 1, 0, 0, []),
  (false, 112, (.iload 5), 2, 0, 0, []),
  (false, 114, .iadd, 1, 0, 0, []),
  (false, 115, (.aload_n 0), 1, 0, 0, []),
  (false, 116, (.getfield 29), 3, 12, 7, [(2, 0)]),
  (false, 119, (.bipush 12), 2, 0, 0, []),
  (false, 121, (.iload_n 1), 1, 0, 0, []),
  (false, 122, .imul, 1, 0, 0, []),
  (false, 123, (.iload 5), 2, 0, 0, []),
  (false, 125, .iadd, 1, 0, 0, []),
  (false, 126, (.iconst 1), 1, 0, 0, []),
  (false, 127, .isub, 1, 0, 0, []),
  (false, 128, .iaload, 1, 0, 0, []),
  (false, 129, .iastore, 1, 0, 0, []),
  (false, 130, (.iinc 5 (-1)), 3, 0, 0, []),
  (false, 133, (.goto (-62)), 3, 71, 0, []),
  (false, 136, (.aload_n 0), 1, 0, 0, []),
  (false, 137, (.getfield 16), 3, 12, 3, [(2, 0)]),
  (false, 140, (.iload_n 1), 1, 0, 0, []),
  (false, 141, .dup2, 1, 0, 0, []),
  (false, 142, .iaload, 1, 0, 0, []),
  (false, 143, (.iconst 1), 1, 0, 0, []),
  (false, 144, .iadd, 1, 0, 0, []),
  (false, 145, .iastore, 1, 0, 0, []),
  (false, 146, (.aload_n 0), 1, 0, 0, []),
  (false, 147, (.getfield 26), 3, 12, 6, [(2, 0)]),
  (false, 150, (.bipush 12), 2, 0, 0, []),
  (false, 152, (.iload_n 1), 1, 0, 0, []),
  (false, 153, .imul, 1, 0, 0, []),
  (false, 154, (.iload 4), 2, 0, 0, []),
  (false, 156, .iadd, 1, 0, 0, []),
  (false, 157, (.iload_n 3), 1, 0, 0, []),
  (false, 158, .iastore, 1, 0, 0, []),
  (false, 159, (.aload_n 0), 1, 0, 0, []),
  (false, 160, (.getfield 29), 3, 12, 7, [(2, 0)]),
  (false, 163, (.bipush 12), 2, 0, 0, []),
  (false, 165, (.iload_n 1), 1, 0, 0, []),
  (false, 166, .imul, 1, 0, 0, []),
  (false, 167, (.iload 4), 2, 0, 0, []),
  (false, 169, .iadd, 1, 0, 0, []),
  (false, 170, (.iload_n 2), 1, 0, 0, []),
  (false, 171, .iastore, 1, 0, 0, []),
  (false, 172, .return_, 1, 0, 0, [])]
def kX12_hasKey : List ab_E := [
  (false, 0, (.iconst 0), 1, 0, 0, []),
  (false, 1, (.istore_n 3), 1, 0, 0, []),
  (false, 2, (.iconst 0), 1, 0, 0, []),
  (false, 3, (.istore 4), 2, 0, 0, []),
  (true, 5, (.iload 4), 2, 0, 0, []),
  (false, 7, (.aload_n 0), 1, 0, 0, []),
  (false, 8, (.getfield 16), 3, 12, 3, [(2, 0)]),
  (false, 11, (.iload_n 1), 1, 0, 0, []),
  (false, 12, .iaload, 1, 0, 0, []),
  (false, 13, (.if_icmp .ge 35), 3, 48, 0, []),
  (false, 16, (.iload_n 3), 1, 0, 0, []),
  (false, 17, (.ifCond .ne 19), 3, 36, 0, []),
  (false, 20, (.aload_n 0), 1, 0, 0, []),
  (false, 21, (.getfield 29), 3, 12, 7, [(2, 0)]),
  (false, 24, (.bipush 12), 2, 0, 0, []),
  (false, 26, (.iload_n 1), 1, 0, 0, []),
  (false, 27, .imul, 1, 0, 0, []),
  (false, 28, (.iload 4), 2, 0, 0, []),
  (false, 30, .iadd, 1, 0, 0, []),
  (false, 31, .iaload, 1, 0, 0, []),
  (false, 32, (.iload_n 2), 1, 0, 0, []),
  (false, 33, (.if_icmp .ne 7), 3, 40, 0, []),
  (false, 36, (.iconst 1), 1, 0, 0, []),
  (false, 37, (.goto 4), 3, 41, 0, []),
  (false, 40, (.iconst 0), 1, 0, 0, []),
  (false, 41, (.istore_n 3), 1, 0, 0, []),
  (false, 42, (.iinc 4 1), 3, 0, 0, []),
  (false, 45, (.goto (-40)), 3, 5, 0, []),
  (false, 48, (.iload_n 3), 1, 0, 0, []),
  (false, 49, .ireturn, 1, 1, 0, [])]
def kX12_readsEntry : List ab_E := [
  (false, 0, (.aload_n 0), 1, 0, 0, []),
  (false, 1, (.getfield 107), 3, 12, 23, [(0, 0)]),
  (false, 4, (.istore_n 3), 1, 0, 0, []),
  (false, 5, (.aload_n 0), 1, 0, 0, []),
  (false, 6, (.invokevirtual 135), 3, 150, 1, [(12, 0)]),
  (false, 9, (.istore 4), 2, 0, 0, []),
  (false, 11, (.aload_n 0), 1, 0, 0, []),
  (false, 12, (.invokevirtual 117), 3, 145, 1, [(12, 0)]),
  (false, 15, (.ifCond .ne 18), 3, 33, 0, []),
  (false, 18, (.aload_n 0), 1, 0, 0, []),
  (false, 19, (.iload_n 1), 1, 0, 0, []),
  (false, 20, (.iload 4), 2, 0, 0, []),
  (false, 22, (.invokevirtual 138), 3, 153, 3, [(12, 0)]),
  (false, 25, (.ifCond .eq 8), 3, 33, 0, []),
  (false, 28, (.aload_n 0), 1, 0, 0, []),
  (false, 29, (.iload_n 3), 1, 0, 0, []),
  (false, 30, (.invokevirtual 121), 3, 144, 2, [(12, 0)]),
  (false, 33, (.aload_n 0), 1, 0, 0, []),
  (false, 34, (.bipush 58), 2, 0, 0, []),
  (false, 36, (.bipush 58), 2, 0, 0, []),
  (false, 38, (.invokevirtual 125), 3, 146, 3, [(12, 0)]),
  (false, 41, .pop, 1, 0, 0, []),
  (false, 42, (.aload_n 0), 1, 0, 0, []),
  (false, 43, (.iload_n 2), 1, 0, 0, []),
  (false, 44, (.iconst 1), 1, 0, 0, []),
  (false, 45, .iadd, 1, 0, 0, []),
  (false, 46, (.invokevirtual 142), 3, 156, 2, [(12, 0)]),
  (false, 49, (.istore 5), 2, 0, 0, []),
  (false, 51, (.aload_n 0), 1, 0, 0, []),
  (false, 52, (.invokevirtual 117), 3, 145, 1, [(12, 0)]),
  (false, 55, (.ifCond .ne 12), 3, 67, 0, []),
  (false, 58, (.aload_n 0), 1, 0, 0, []),
  (false, 59, (.iload_n 1), 1, 0, 0, []),
  (false, 60, (.iload 4), 2, 0, 0, []),
  (false, 62, (.iload 5), 2, 0, 0, []),
  (false, 64, (.invokevirtual 145), 3, 152, 4, [(12, 0)]),
  (false, 67, (.iload 5), 2, 0, 0, []),
  (false, 69, .ireturn, 1, 0, 0, [])]
def kX12_readsAll : List ab_E := [
  (false, 0, (.aload_n 0), 1, 0, 0, []),
  (false, 1, (.getfield 9), 3, 12, 1, [(2, 0)]),
  (false, 4, (.iload_n 1), 1, 0, 0, []),
  (false, 5, .iaload, 1, 0, 0, []),
  (false, 6, (.iconst 3), 1, 0, 0, []),
  (false, 7, (.if_icmp .ne 7), 3, 14, 0, []),
  (false, 10, (.iconst 1), 1, 0, 0, []),
  (false, 11, (.goto 4), 3, 15, 0, []),
  (false, 14, (.iconst 0), 1, 0, 0, []),
  (false, 15, (.istore 4), 2, 0, 0, []),
  (false, 17, (.aload_n 0), 1, 0, 0, []),
  (false, 18, (.iload_n 3), 1, 0, 0, []),
  (false, 19, (.invokevirtual 128), 3, 147, 2, [(12, 0)]),
  (false, 22, (.ifCond .eq 14), 3, 36, 0, []),
  (false, 25, (.aload_n 0), 1, 0, 0, []),
  (false, 26, .dup, 1, 0, 0, []),
  (false, 27, (.getfield 107), 3, 12, 23, [(0, 0)]),
  (false, 30, (.iconst 1), 1, 0, 0, []),
  (false, 31, .iadd, 1, 0, 0, []),
  (false, 32, (.putfield 107), 3, 12, 23, [(0, 0)]),
  (false, 35, .return_, 1, 0, 0, []),
  (false, 36, (.iload 4), 2, 0, 0, []),
  (false, 38, (.ifCond .eq 13), 3, 51, 0, []),
  (false, 41, (.aload_n 0), 1, 0, 0, []),
  (false, 42, (.iload_n 1), 1, 0, 0, []),
  (false, 43, (.iload_n 2), 1, 0, 0, []),
  (false, 44, (.invokevirtual 149), 3, 154, 3, [(12, 0)]),
  (false, 47, .pop, 1, 0, 0, []),
  (false, 48, (.goto 16), 3, 64, 0, []),
  (false, 51, (.aload_n 0), 1, 0, 0, []),
  (false, 52, (.iload_n 1), 1, 0, 0, []),
  (false, 53, (.iconst 0), 1, 0, 0, []),
  (false, 54, (.aload_n 0), 1, 0, 0, []),
  (false, 55, (.iload_n 2), 1, 0, 0, []),
  (false, 56, (.iconst 1), 1, 0, 0, []),
  (false, 57, .iadd, 1, 0, 0, []),
  (false, 58, (.invokevirtual 142), 3, 156, 2, [(12, 0)]),
  (false, 61, (.invokevirtual 152), 3, 151, 4, [(12, 0)]),
  (true, 64, (.aload_n 0), 1, 0, 0, []),
  (false, 65, (.bipush 44), 2, 0, 0, []),
  (false, 67, (.invokevirtual 128), 3, 147, 2, [(12, 0)]),
  (false, 70, (.ifCond .eq 55), 3, 125, 0, []),
  (false, 73, (.aload_n 0), 1, 0, 0, []),
  (false, 74, (.getfield 16), 3, 12, 3, [(2, 0)]),
  (false, 77, (.iload_n 1), 1, 0, 0, []),
  (false, 78, .iaload, 1, 0, 0, []),
  (false, 79, (.bipush 12), 2, 0, 0, []),
  (false, 81, (.if_icmp .ge 44), 3, 125, 0, []),
  (false, 84, (.aload_n 0), 1, 0, 0, []),
  (false, 85, .dup, 1, 0, 0, []),
  (false, 86, (.getfield 107), 3, 12, 23, [(0, 0)]),
  (false, 89, (.iconst 1), 1, 0, 0, []),
  (false, 90, .iadd, 1, 0, 0, []),
  (false, 91, (.putfield 107), 3, 12, 23, [(0, 0)]),
  (false, 94, (.iload 4), 2, 0, 0, []),
  (false, 96, (.ifCond .eq 13), 3, 109, 0, []),
  (false, 99, (.aload_n 0), 1, 0, 0, []),
  (false, 100, (.iload_n 1), 1, 0, 0, []),
  (false, 101, (.iload_n 2), 1, 0, 0, []),
  (false, 102, (.invokevirtual 149), 3, 154, 3, [(12, 0)]),
  (false, 105, .pop, 1, 0, 0, []),
  (false, 106, (.goto (-42)), 3, 64, 0, []),
  (false, 109, (.aload_n 0), 1, 0, 0, []),
  (false, 110, (.iload_n 1), 1, 0, 0, []),
  (false, 111, (.iconst 0), 1, 0, 0, []),
  (false, 112, (.aload_n 0), 1, 0, 0, []),
  (false, 113, (.iload_n 2), 1, 0, 0, []),
  (false, 114, (.iconst 1), 1, 0, 0, []),
  (false, 115, .iadd, 1, 0, 0, []),
  (false, 116, (.invokevirtual 142), 3, 156, 2, [(12, 0)]),
  (false, 119, (.invokevirtual 152), 3, 151, 4, [(12, 0)]),
  (false, 122, (.goto (-58)), 3, 64, 0, []),
  (false, 125, (.aload_n 0), 1, 0, 0, []),
  (false, 126, (.iload_n 3), 1, 0, 0, []),
  (false, 127, (.iload_n 3), 1, 0, 0, []),
  (false, 128, (.invokevirtual 125), 3, 146, 3, [(12, 0)]),
  (false, 131, .pop, 1, 0, 0, []),
  (false, 132, .return_, 1, 0, 0, [])]
def kX12_reads : List ab_E := [
  (false, 0, (.aload_n 0), 1, 0, 0, []),
  (false, 1, (.invokevirtual 113), 3, 143, 1, [(12, 0)]),
  (false, 4, (.istore_n 2), 1, 0, 0, []),
  (false, 5, (.aload_n 0), 1, 0, 0, []),
  (false, 6, (.invokevirtual 117), 3, 145, 1, [(12, 0)]),
  (false, 9, (.ifCond .ne 9), 3, 18, 0, []),
  (false, 12, (.iload_n 1), 1, 0, 0, []),
  (false, 13, (.bipush 12), 2, 0, 0, []),
  (false, 15, (.if_icmp .le 13), 3, 28, 0, []),
  (false, 18, (.aload_n 0), 1, 0, 0, []),
  (false, 19, (.aload_n 0), 1, 0, 0, []),
  (false, 20, (.getfield 107), 3, 12, 23, [(0, 0)]),
  (false, 23, (.invokevirtual 121), 3, 144, 2, [(12, 0)]),
  (false, 26, (.iconst 0), 1, 0, 0, []),
  (false, 27, .ireturn, 1, 0, 0, []),
  (false, 28, (.aload_n 0), 1, 0, 0, []),
  (false, 29, .dup, 1, 0, 0, []),
  (false, 30, (.getfield 155), 3, 12, 25, [(0, 0)]),
  (false, 33, (.iconst 1), 1, 0, 0, []),
  (false, 34, .iadd, 1, 0, 0, []),
  (false, 35, (.putfield 155), 3, 12, 25, [(0, 0)]),
  (false, 38, (.iload_n 2), 1, 0, 0, []),
  (false, 39, (.bipush 40), 2, 0, 0, []),
  (false, 41, (.if_icmp .ne 71), 3, 112, 0, []),
  (false, 44, (.aload_n 0), 1, 0, 0, []),
  (false, 45, .dup, 1, 0, 0, []),
  (false, 46, (.getfield 107), 3, 12, 23, [(0, 0)]),
  (false, 49, (.iconst 1), 1, 0, 0, []),
  (false, 50, .iadd, 1, 0, 0, []),
  (false, 51, (.putfield 107), 3, 12, 23, [(0, 0)]),
  (false, 54, (.aload_n 0), 1, 0, 0, []),
  (false, 55, (.iconst 1), 1, 0, 0, []),
  (false, 56, (.iconst 0), 1, 0, 0, []),
  (false, 57, (.iconst 0), 1, 0, 0, []),
  (false, 58, (.invokevirtual 93), 3, 136, 4, [(12, 0)]),
  (false, 61, (.istore_n 3), 1, 0, 0, []),
  (false, 62, (.aload_n 0), 1, 0, 0, []),
  (false, 63, (.iload_n 3), 1, 0, 0, []),
  (false, 64, (.iconst 0), 1, 0, 0, []),
  (false, 65, (.aload_n 0), 1, 0, 0, []),
  (false, 66, (.iload_n 1), 1, 0, 0, []),
  (false, 67, (.iconst 1), 1, 0, 0, []),
  (false, 68, .iadd, 1, 0, 0, []),
  (false, 69, (.invokevirtual 142), 3, 156, 2, [(12, 0)]),
  (false, 72, (.invokevirtual 152), 3, 151, 4, [(12, 0)]),
  (false, 75, (.aload_n 0), 1, 0, 0, []),
  (false, 76, (.bipush 44), 2, 0, 0, []),
  (false, 78, (.bipush 44), 2, 0, 0, []),
  (false, 80, (.invokevirtual 125), 3, 146, 3, [(12, 0)]),
  (false, 83, .pop, 1, 0, 0, []),
  (false, 84, (.aload_n 0), 1, 0, 0, []),
  (false, 85, (.iload_n 3), 1, 0, 0, []),
  (false, 86, (.iconst 0), 1, 0, 0, []),
  (false, 87, (.aload_n 0), 1, 0, 0, []),
  (false, 88, (.iload_n 1), 1, 0, 0, []),
  (false, 89, (.iconst 1), 1, 0, 0, []),
  (false, 90, .iadd, 1, 0, 0, []),
  (false, 91, (.invokevirtual 142), 3, 156, 2, [(12, 0)]),
  (false, 94, (.invokevirtual 152), 3, 151, 4, [(12, 0)]),
  (false, 97, (.aload_n 0), 1, 0, 0, []),
  (false, 98, (.bipush 41), 2, 0, 0, []),
  (false, 100, (.bipush 41), 2, 0, 0, []),
  (false, 102, (.invokevirtual 125), 3, 146, 3, [(12, 0)]),
  (false, 105, .pop, 1, 0, 0, []),
  (false, 106, (.aload_n 0), 1, 0, 0, []),
  (false, 107, (.iload_n 3), 1, 0, 0, []),
  (false, 108, (.invokevirtual 97), 3, 137, 2, [(12, 0)]),
  (false, 111, .ireturn, 1, 0, 0, []),
  (false, 112, (.iload_n 2), 1, 0, 0, []),
  (false, 113, (.bipush 91), 2, 0, 0, []),
  (false, 115, (.if_icmp .eq 9), 3, 124, 0, []),
  (false, 118, (.iload_n 2), 1, 0, 0, []),
  (false, 119, (.bipush 123), 2, 0, 0, []),
  (false, 121, (.if_icmp .ne 56), 3, 177, 0, []),
  (false, 124, (.aload_n 0), 1, 0, 0, []),
  (false, 125, .dup, 1, 0, 0, []),
  (false, 126, (.getfield 107), 3, 12, 23, [(0, 0)]),
  (false, 129, (.iconst 1), 1, 0, 0, []),
  (false, 130, .iadd, 1, 0, 0, []),
  (false, 131, (.putfield 107), 3, 12, 23, [(0, 0)]),
  (false, 134, (.aload_n 0), 1, 0, 0, []),
  (false, 135, (.iload_n 2), 1, 0, 0, []),
  (false, 136, (.bipush 91), 2, 0, 0, []),
  (false, 138, (.if_icmp .ne 7), 3, 145, 0, []),
  (false, 141, (.iconst 2), 1, 0, 0, []),
  (false, 142, (.goto 4), 3, 146, 0, []),
  (false, 145, (.iconst 3), 1, 0, 0, []),
  (false, 146, (.iconst 0), 1, 0, 0, []),
  (false, 147, (.iconst 0), 1, 0, 0, []),
  (false, 148, (.invokevirtual 93), 3, 136, 4, [(12, 0)]),
  (false, 151, (.istore_n 3), 1, 0, 0, []),
  (false, 152, (.aload_n 0), 1, 0, 0, []),
  (false, 153, (.iload_n 3), 1, 0, 0, []),
  (false, 154, (.iload_n 1), 1, 0, 0, []),
  (false, 155, (.iload_n 2), 1, 0, 0, []),
  (false, 156, (.bipush 91), 2, 0, 0, []),
  (false, 158, (.if_icmp .ne 8), 3, 166, 0, []),
  (false, 161, (.bipush 93), 2, 0, 0, []),
  (false, 163, (.goto 5), 3, 168, 0, []),
  (false, 166, (.bipush 125), 2, 0, 0, []),
  (false, 168, (.invokevirtual 158), 3, 155, 4, [(12, 0)]),
  (false, 171, (.aload_n 0), 1, 0, 0, []),
  (false, 172, (.iload_n 3), 1, 0, 0, []),
  (false, 173, (.invokevirtual 97), 3, 137, 2, [(12, 0)]),
  (false, 176, .ireturn, 1, 0, 0, []),
  (false, 177, (.iload_n 2), 1, 0, 0, []),
  (false, 178, (.bipush 35), 2, 0, 0, []),
  (false, 180, (.if_icmp .ne 50), 3, 230, 0, []),
  (false, 183, (.aload_n 0), 1, 0, 0, []),
  (false, 184, .dup, 1, 0, 0, []),
  (false, 185, (.getfield 107), 3, 12, 23, [(0, 0)]),
  (false, 188, (.iconst 1), 1, 0, 0, []),
  (false, 189, .iadd, 1, 0, 0, []),
  (false, 190, (.putfield 107), 3, 12, 23, [(0, 0)]),
  (false, 193, (.aload_n 0), 1, 0, 0, []),
  (false, 194, (.iconst 4), 1, 0, 0, []),
  (false, 195, (.aload_n 0), 1, 0, 0, []),
  (false, 196, (.bipush 48), 2, 0, 0, []),
  (false, 198, (.bipush 57), 2, 0, 0, []),
  (false, 200, (.invokevirtual 125), 3, 146, 3, [(12, 0)]),
  (false, 203, (.bipush 48), 2, 0, 0, []),
  (false, 205, .isub, 1, 0, 0, []),
  (false, 206, (.iconst 0), 1, 0, 0, []),
  (false, 207, (.invokevirtual 93), 3, 136, 4, [(12, 0)]),
  (false, 210, (.istore_n 3), 1, 0, 0, []),
  (false, 211, (.aload_n 0), 1, 0, 0, []),
  (false, 212, (.iload_n 3), 1, 0, 0, []),
  (false, 213, (.iconst 0), 1, 0, 0, []),
  (false, 214, (.aload_n 0), 1, 0, 0, []),
  (false, 215, (.iload_n 1), 1, 0, 0, []),
  (false, 216, (.iconst 1), 1, 0, 0, []),
  (false, 217, .iadd, 1, 0, 0, []),
  (false, 218, (.invokevirtual 142), 3, 156, 2, [(12, 0)]),
  (false, 221, (.invokevirtual 152), 3, 151, 4, [(12, 0)]),
  (false, 224, (.aload_n 0), 1, 0, 0, []),
  (false, 225, (.iload_n 3), 1, 0, 0, []),
  (false, 226, (.invokevirtual 97), 3, 137, 2, [(12, 0)]),
  (false, 229, .ireturn, 1, 0, 0, []),
  (false, 230, (.aload_n 0), 1, 0, 0, []),
  (false, 231, (.aload_n 0), 1, 0, 0, []),
  (false, 232, (.invokevirtual 161), 3, 149, 1, [(12, 0)]),
  (false, 235, (.invokevirtual 78), 3, 138, 2, [(12, 0)]),
  (false, 238, .ireturn, 1, 0, 0, [])]
def kX12_thing : List ab_E := [
  (false, 0, (.iload_n 1), 1, 0, 0, []),
  (false, 1, (.invokestatic 164), 3, 134, 1, []),
  (false, 4, (.ifCond .ne 6), 3, 10, 0, []),
  (false, 7, (.bipush (-2)), 2, 0, 0, []),
  (false, 9, .ireturn, 1, 0, 0, []),
  (false, 10, (.aload_n 0), 1, 0, 0, []),
  (false, 11, (.iconst 0), 1, 0, 0, []),
  (false, 12, (.putfield 107), 3, 12, 23, [(0, 0)]),
  (false, 15, (.aload_n 0), 1, 0, 0, []),
  (false, 16, (.iconst (-1)), 1, 0, 0, []),
  (false, 17, (.putfield 110), 3, 12, 24, [(0, 0)]),
  (false, 20, (.aload_n 0), 1, 0, 0, []),
  (false, 21, (.iconst 0), 1, 0, 0, []),
  (false, 22, (.putfield 155), 3, 12, 25, [(0, 0)]),
  (false, 25, (.aload_n 0), 1, 0, 0, []),
  (false, 26, (.getfield 90), 3, 12, 8, [(0, 0)]),
  (false, 29, (.istore_n 2), 1, 0, 0, []),
  (false, 30, (.aload_n 0), 1, 0, 0, []),
  (false, 31, (.iconst 0), 1, 0, 0, []),
  (false, 32, (.invokevirtual 142), 3, 156, 2, [(12, 0)]),
  (false, 35, (.istore_n 3), 1, 0, 0, []),
  (false, 36, (.aload_n 0), 1, 0, 0, []),
  (false, 37, (.invokevirtual 117), 3, 145, 1, [(12, 0)]),
  (false, 40, (.ifCond .ne 22), 3, 62, 0, []),
  (false, 43, (.aload_n 0), 1, 0, 0, []),
  (false, 44, (.getfield 107), 3, 12, 23, [(0, 0)]),
  (false, 47, (.aload_n 0), 1, 0, 0, []),
  (false, 48, (.getfield 104), 3, 12, 22, [(0, 0)]),
  (false, 51, (.if_icmp .ge 11), 3, 62, 0, []),
  (false, 54, (.aload_n 0), 1, 0, 0, []),
  (false, 55, (.aload_n 0), 1, 0, 0, []),
  (false, 56, (.getfield 107), 3, 12, 23, [(0, 0)]),
  (false, 59, (.invokevirtual 121), 3, 144, 2, [(12, 0)]),
  (false, 62, (.aload_n 0), 1, 0, 0, []),
  (false, 63, (.iconst 0), 1, 0, 0, []),
  (false, 64, (.putfield 104), 3, 12, 22, [(0, 0)]),
  (false, 67, (.aload_n 0), 1, 0, 0, []),
  (false, 68, (.invokevirtual 117), 3, 145, 1, [(12, 0)]),
  (false, 71, (.ifCond .eq 16), 3, 87, 0, []),
  (false, 74, (.aload_n 0), 1, 0, 0, []),
  (false, 75, (.iload_n 2), 1, 0, 0, []),
  (false, 76, (.putfield 90), 3, 12, 8, [(0, 0)]),
  (false, 79, (.bipush (-100)), 2, 0, 0, []),
  (false, 81, (.aload_n 0), 1, 0, 0, []),
  (false, 82, (.getfield 110), 3, 12, 24, [(0, 0)]),
  (false, 85, .isub, 1, 0, 0, []),
  (false, 86, .ireturn, 1, 0, 0, []),
  (false, 87, (.aload_n 0), 1, 0, 0, []),
  (false, 88, (.getfield 167), 3, 12, 9, [(0, 0)]),
  (false, 91, (.aload_n 0), 1, 0, 0, []),
  (false, 92, (.getfield 155), 3, 12, 25, [(0, 0)]),
  (false, 95, .iadd, 1, 0, 0, []),
  (false, 96, (.sipush 3000), 3, 0, 0, []),
  (false, 99, (.if_icmp .le 11), 3, 110, 0, []),
  (false, 102, (.aload_n 0), 1, 0, 0, []),
  (false, 103, (.iload_n 2), 1, 0, 0, []),
  (false, 104, (.putfield 90), 3, 12, 8, [(0, 0)]),
  (false, 107, (.bipush (-17)), 2, 0, 0, []),
  (false, 109, .ireturn, 1, 0, 0, []),
  (false, 110, (.aload_n 0), 1, 0, 0, []),
  (false, 111, .dup, 1, 0, 0, []),
  (false, 112, (.getfield 167), 3, 12, 9, [(0, 0)]),
  (false, 115, (.aload_n 0), 1, 0, 0, []),
  (false, 116, (.getfield 155), 3, 12, 25, [(0, 0)]),
  (false, 119, .iadd, 1, 0, 0, []),
  (false, 120, (.putfield 167), 3, 12, 9, [(0, 0)]),
  (false, 123, (.aload_n 0), 1, 0, 0, []),
  (false, 124, (.iload_n 1), 1, 0, 0, []),
  (false, 125, (.iload_n 3), 1, 0, 0, []),
  (false, 126, (.invokevirtual 170), 3, 141, 3, [(12, 0)]),
  (false, 129, (.aload_n 0), 1, 0, 0, []),
  (false, 130, (.getfield 19), 3, 12, 4, [(2, 0)]),
  (false, 133, (.iload_n 3), 1, 0, 0, []),
  (false, 134, .iaload, 1, 0, 0, []),
  (false, 135, .ireturn, 1, 0, 0, [])]
def kX12_readsStep : List ab_E := [
  (false, 0, (.aload_n 0), 1, 0, 0, []),
  (false, 1, (.invokevirtual 113), 3, 143, 1, [(12, 0)]),
  (false, 4, (.istore_n 1), 1, 0, 0, []),
  (false, 5, (.aload_n 0), 1, 0, 0, []),
  (false, 6, (.iload_n 1), 1, 0, 0, []),
  (false, 7, (.bipush 46), 2, 0, 0, []),
  (false, 9, (.if_icmp .ne 7), 3, 16, 0, []),
  (false, 12, (.iconst 0), 1, 0, 0, []),
  (false, 13, (.goto 88), 3, 101, 0, []),
  (false, 16, (.iload_n 1), 1, 0, 0, []),
  (false, 17, (.bipush 47), 2, 0, 0, []),
  (false, 19, (.if_icmp .ne 7), 3, 26, 0, []),
  (false, 22, (.iconst 1), 1, 0, 0, []),
  (false, 23, (.goto 78), 3, 101, 0, []),
  (false, 26, (.iload_n 1), 1, 0, 0, []),
  (false, 27, (.bipush 36), 2, 0, 0, []),
  (false, 29, (.if_icmp .ne 7), 3, 36, 0, []),
  (false, 32, (.iconst 2), 1, 0, 0, []),
  (false, 33, (.goto 68), 3, 101, 0, []),
  (false, 36, (.iload_n 1), 1, 0, 0, []),
  (false, 37, (.bipush 35), 2, 0, 0, []),
  (false, 39, (.if_icmp .ne 7), 3, 46, 0, []),
  (false, 42, (.iconst 3), 1, 0, 0, []),
  (false, 43, (.goto 58), 3, 101, 0, []),
  (false, 46, (.iload_n 1), 1, 0, 0, []),
  (false, 47, (.bipush 42), 2, 0, 0, []),
  (false, 49, (.if_icmp .ne 7), 3, 56, 0, []),
  (false, 52, (.iconst 4), 1, 0, 0, []),
  (false, 53, (.goto 48), 3, 101, 0, []),
  (false, 56, (.iload_n 1), 1, 0, 0, []),
  (false, 57, (.bipush 126), 2, 0, 0, []),
  (false, 59, (.if_icmp .ne 7), 3, 66, 0, []),
  (false, 62, (.iconst 5), 1, 0, 0, []),
  (false, 63, (.goto 38), 3, 101, 0, []),
  (false, 66, (.iload_n 1), 1, 0, 0, []),
  (false, 67, (.bipush 37), 2, 0, 0, []),
  (false, 69, (.if_icmp .ne 8), 3, 77, 0, []),
  (false, 72, (.bipush 6), 2, 0, 0, []),
  (false, 74, (.goto 27), 3, 101, 0, []),
  (false, 77, (.iload_n 1), 1, 0, 0, []),
  (false, 78, (.bipush 60), 2, 0, 0, []),
  (false, 80, (.if_icmp .ne 8), 3, 88, 0, []),
  (false, 83, (.bipush 7), 2, 0, 0, []),
  (false, 85, (.goto 16), 3, 101, 0, []),
  (false, 88, (.iload_n 1), 1, 0, 0, []),
  (false, 89, (.bipush 61), 2, 0, 0, []),
  (false, 91, (.if_icmp .ne 8), 3, 99, 0, []),
  (false, 94, (.bipush 8), 2, 0, 0, []),
  (false, 96, (.goto 5), 3, 101, 0, []),
  (false, 99, (.bipush 9), 2, 0, 0, []),
  (false, 101, (.putfield 174), 3, 12, 26, [(0, 0)]),
  (false, 104, (.aload_n 0), 1, 0, 0, []),
  (false, 105, (.iconst 0), 1, 0, 0, []),
  (false, 106, (.putfield 177), 3, 12, 27, [(0, 0)]),
  (false, 109, (.aload_n 0), 1, 0, 0, []),
  (false, 110, (.getfield 174), 3, 12, 26, [(0, 0)]),
  (false, 113, (.bipush 9), 2, 0, 0, []),
  (false, 115, (.if_icmp .ne 12), 3, 127, 0, []),
  (false, 118, (.aload_n 0), 1, 0, 0, []),
  (false, 119, (.aload_n 0), 1, 0, 0, []),
  (false, 120, (.getfield 107), 3, 12, 23, [(0, 0)]),
  (false, 123, (.invokevirtual 121), 3, 144, 2, [(12, 0)]),
  (false, 126, .return_, 1, 0, 0, []),
  (false, 127, (.aload_n 0), 1, 0, 0, []),
  (false, 128, .dup, 1, 0, 0, []),
  (false, 129, (.getfield 107), 3, 12, 23, [(0, 0)]),
  (false, 132, (.iconst 1), 1, 0, 0, []),
  (false, 133, .iadd, 1, 0, 0, []),
  (false, 134, (.putfield 107), 3, 12, 23, [(0, 0)]),
  (false, 137, (.aload_n 0), 1, 0, 0, []),
  (false, 138, (.getfield 174), 3, 12, 26, [(0, 0)]),
  (false, 141, (.tableswitch 160 0 8 #[51, 69, 81, 101, 160, 160, 160, 119, 140]), 51, 301, 0, [(0, 192), (1, 210), (2, 222), (3, 242), (4, 301), (5, 301), (6, 301), (7, 260), (8, 281)]),
  (false, 192, (.aload_n 0), 1, 0, 0, []),
  (false, 193, (.aload_n 0), 1, 0, 0, []),
  (false, 194, (.bipush 48), 2, 0, 0, []),
  (false, 196, (.bipush 49), 2, 0, 0, []),
  (false, 198, (.invokevirtual 125), 3, 146, 3, [(12, 0)]),
  (false, 201, (.bipush 48), 2, 0, 0, []),
  (false, 203, .isub, 1, 0, 0, []),
  (false, 204, (.putfield 177), 3, 12, 27, [(0, 0)]),
  (false, 207, (.goto 99), 3, 306, 0, []),
  (false, 210, (.aload_n 0), 1, 0, 0, []),
  (false, 211, (.aload_n 0), 1, 0, 0, []),
  (false, 212, (.iconst 2), 1, 0, 0, []),
  (false, 213, (.invokevirtual 132), 3, 148, 2, [(12, 0)]),
  (false, 216, (.putfield 177), 3, 12, 27, [(0, 0)]),
  (false, 219, (.goto 87), 3, 306, 0, []),
  (false, 222, (.aload_n 0), 1, 0, 0, []),
  (false, 223, (.aload_n 0), 1, 0, 0, []),
  (false, 224, (.invokevirtual 135), 3, 150, 1, [(12, 0)]),
  (false, 227, (.putfield 177), 3, 12, 27, [(0, 0)]),
  (false, 230, (.aload_n 0), 1, 0, 0, []),
  (false, 231, (.bipush 46), 2, 0, 0, []),
  (false, 233, (.bipush 46), 2, 0, 0, []),
  (false, 235, (.invokevirtual 125), 3, 146, 3, [(12, 0)]),
  (false, 238, .pop, 1, 0, 0, []),
  (false, 239, (.goto 67), 3, 306, 0, []),
  (false, 242, (.aload_n 0), 1, 0, 0, []),
  (false, 243, (.aload_n 0), 1, 0, 0, []),
  (false, 244, (.bipush 48), 2, 0, 0, []),
  (false, 246, (.bipush 57), 2, 0, 0, []),
  (false, 248, (.invokevirtual 125), 3, 146, 3, [(12, 0)]),
  (false, 251, (.bipush 48), 2, 0, 0, []),
  (false, 253, .isub, 1, 0, 0, []),
  (false, 254, (.putfield 177), 3, 12, 27, [(0, 0)]),
  (false, 257, (.goto 49), 3, 306, 0, []),
  (false, 260, (.aload_n 0), 1, 0, 0, []),
  (false, 261, (.aload_n 0), 1, 0, 0, []),
  (false, 262, (.iconst 2), 1, 0, 0, []),
  (false, 263, (.invokevirtual 132), 3, 148, 2, [(12, 0)]),
  (false, 266, (.putfield 177), 3, 12, 27, [(0, 0)]),
  (false, 269, (.aload_n 0), 1, 0, 0, []),
  (false, 270, (.bipush 62), 2, 0, 0, []),
  (false, 272, (.bipush 62), 2, 0, 0, []),
  (false, 274, (.invokevirtual 125), 3, 146, 3, [(12, 0)]),
  (false, 277, .pop, 1, 0, 0, []),
  (false, 278, (.goto 28), 3, 306, 0, []),
  (false, 281, (.aload_n 0), 1, 0, 0, []),
  (false, 282, (.aload_n 0), 1, 0, 0, []),
  (false, 283, (.invokevirtual 161), 3, 149, 1, [(12, 0)]),
  (false, 286, (.putfield 177), 3, 12, 27, [(0, 0)]),
  (false, 289, (.aload_n 0), 1, 0, 0, []),
  (false, 290, (.bipush 59), 2, 0, 0, []),
  (false, 292, (.bipush 59), 2, 0, 0, []),
  (false, 294, (.invokevirtual 125), 3, 146, 3, [(12, 0)]),
  (false, 297, .pop, 1, 0, 0, []),
  (false, 298, (.goto 8), 3, 306, 0, []),
  (false, 301, (.aload_n 0), 1, 0, 0, []),
  (false, 302, (.iconst 0), 1, 0, 0, []),
  (false, 303, (.putfield 177), 3, 12, 27, [(0, 0)]),
  (false, 306, .return_, 1, 0, 0, [])]
def kX12_path : List ab_E := [
  (false, 0, (.iload_n 1), 1, 0, 0, []),
  (false, 1, (.invokestatic 180), 3, 135, 1, []),
  (false, 4, (.ifCond .ne 6), 3, 10, 0, []),
  (false, 7, (.bipush (-2)), 2, 0, 0, []),
  (false, 9, .ireturn, 1, 0, 0, []),
  (false, 10, (.aload_n 0), 1, 0, 0, []),
  (false, 11, (.iconst 0), 1, 0, 0, []),
  (false, 12, (.putfield 107), 3, 12, 23, [(0, 0)]),
  (false, 15, (.aload_n 0), 1, 0, 0, []),
  (false, 16, (.iconst (-1)), 1, 0, 0, []),
  (false, 17, (.putfield 110), 3, 12, 24, [(0, 0)]),
  (false, 20, (.iconst 0), 1, 0, 0, []),
  (false, 21, (.istore_n 2), 1, 0, 0, []),
  (true, 22, (.aload_n 0), 1, 0, 0, []),
  (false, 23, (.invokevirtual 117), 3, 145, 1, [(12, 0)]),
  (false, 26, (.ifCond .ne 61), 3, 87, 0, []),
  (false, 29, (.aload_n 0), 1, 0, 0, []),
  (false, 30, (.getfield 107), 3, 12, 23, [(0, 0)]),
  (false, 33, (.aload_n 0), 1, 0, 0, []),
  (false, 34, (.getfield 104), 3, 12, 22, [(0, 0)]),
  (false, 37, (.if_icmp .ge 50), 3, 87, 0, []),
  (false, 40, (.iload_n 2), 1, 0, 0, []),
  (false, 41, (.bipush 8), 2, 0, 0, []),
  (false, 43, (.if_icmp .ne 14), 3, 57, 0, []),
  (false, 46, (.aload_n 0), 1, 0, 0, []),
  (false, 47, (.aload_n 0), 1, 0, 0, []),
  (false, 48, (.getfield 107), 3, 12, 23, [(0, 0)]),
  (false, 51, (.invokevirtual 121), 3, 144, 2, [(12, 0)]),
  (false, 54, (.goto (-32)), 3, 22, 0, []),
  (false, 57, (.aload_n 0), 1, 0, 0, []),
  (false, 58, (.invokevirtual 183), 3, 158, 1, [(12, 0)]),
  (false, 61, (.aload_n 0), 1, 0, 0, []),
  (false, 62, (.getfield 65), 3, 12, 28, [(2, 0)]),
  (false, 65, (.iload_n 2), 1, 0, 0, []),
  (false, 66, (.aload_n 0), 1, 0, 0, []),
  (false, 67, (.getfield 174), 3, 12, 26, [(0, 0)]),
  (false, 70, .iastore, 1, 0, 0, []),
  (false, 71, (.aload_n 0), 1, 0, 0, []),
  (false, 72, (.getfield 68), 3, 12, 29, [(2, 0)]),
  (false, 75, (.iload_n 2), 1, 0, 0, []),
  (false, 76, (.aload_n 0), 1, 0, 0, []),
  (false, 77, (.getfield 177), 3, 12, 27, [(0, 0)]),
  (false, 80, .iastore, 1, 0, 0, []),
  (false, 81, (.iinc 2 1), 3, 0, 0, []),
  (false, 84, (.goto (-62)), 3, 22, 0, []),
  (false, 87, (.aload_n 0), 1, 0, 0, []),
  (false, 88, (.iconst 0), 1, 0, 0, []),
  (false, 89, (.putfield 104), 3, 12, 22, [(0, 0)]),
  (false, 92, (.aload_n 0), 1, 0, 0, []),
  (false, 93, (.invokevirtual 117), 3, 145, 1, [(12, 0)]),
  (false, 96, (.ifCond .eq 11), 3, 107, 0, []),
  (false, 99, (.bipush (-100)), 2, 0, 0, []),
  (false, 101, (.aload_n 0), 1, 0, 0, []),
  (false, 102, (.getfield 110), 3, 12, 24, [(0, 0)]),
  (false, 105, .isub, 1, 0, 0, []),
  (false, 106, .ireturn, 1, 0, 0, []),
  (false, 107, (.iconst 0), 1, 0, 0, []),
  (false, 108, (.istore_n 3), 1, 0, 0, []),
  (true, 109, (.iload_n 3), 1, 0, 0, []),
  (false, 110, (.iload_n 2), 1, 0, 0, []),
  (false, 111, (.if_icmp .ge 43), 3, 154, 0, []),
  (false, 114, (.aload_n 0), 1, 0, 0, []),
  (false, 115, (.getfield 41), 3, 12, 13, [(2, 0)]),
  (false, 118, (.bipush 8), 2, 0, 0, []),
  (false, 120, (.iload_n 1), 1, 0, 0, []),
  (false, 121, .imul, 1, 0, 0, []),
  (false, 122, (.iload_n 3), 1, 0, 0, []),
  (false, 123, .iadd, 1, 0, 0, []),
  (false, 124, (.aload_n 0), 1, 0, 0, []),
  (false, 125, (.getfield 65), 3, 12, 28, [(2, 0)]),
  (false, 128, (.iload_n 3), 1, 0, 0, []),
  (false, 129, .iaload, 1, 0, 0, []),
  (false, 130, .iastore, 1, 0, 0, []),
  (false, 131, (.aload_n 0), 1, 0, 0, []),
  (false, 132, (.getfield 44), 3, 12, 14, [(2, 0)]),
  (false, 135, (.bipush 8), 2, 0, 0, []),
  (false, 137, (.iload_n 1), 1, 0, 0, []),
  (false, 138, .imul, 1, 0, 0, []),
  (false, 139, (.iload_n 3), 1, 0, 0, []),
  (false, 140, .iadd, 1, 0, 0, []),
  (false, 141, (.aload_n 0), 1, 0, 0, []),
  (false, 142, (.getfield 68), 3, 12, 29, [(2, 0)]),
  (false, 145, (.iload_n 3), 1, 0, 0, []),
  (false, 146, .iaload, 1, 0, 0, []),
  (false, 147, .iastore, 1, 0, 0, []),
  (false, 148, (.iinc 3 1), 3, 0, 0, []),
  (false, 151, (.goto (-42)), 3, 109, 0, []),
  (false, 154, (.aload_n 0), 1, 0, 0, []),
  (false, 155, (.getfield 47), 3, 12, 15, [(2, 0)]),
  (false, 158, (.iload_n 1), 1, 0, 0, []),
  (false, 159, (.iload_n 2), 1, 0, 0, []),
  (false, 160, .iastore, 1, 0, 0, []),
  (false, 161, (.iload_n 2), 1, 0, 0, []),
  (false, 162, .ireturn, 1, 0, 0, [])]
def kX12_join : List ab_E := [
  (false, 0, (.iload_n 1), 1, 0, 0, []),
  (false, 1, (.invokestatic 180), 3, 135, 1, []),
  (false, 4, (.ifCond .eq 10), 3, 14, 0, []),
  (false, 7, (.iload_n 2), 1, 0, 0, []),
  (false, 8, (.invokestatic 180), 3, 135, 1, []),
  (false, 11, (.ifCond .ne 6), 3, 17, 0, []),
  (false, 14, (.bipush (-2)), 2, 0, 0, []),
  (false, 16, .ireturn, 1, 0, 0, []),
  (false, 17, (.aload_n 0), 1, 0, 0, []),
  (false, 18, (.getfield 47), 3, 12, 15, [(2, 0)]),
  (false, 21, (.iload_n 2), 1, 0, 0, []),
  (false, 22, .iaload, 1, 0, 0, []),
  (false, 23, (.istore_n 3), 1, 0, 0, []),
  (false, 24, (.aload_n 0), 1, 0, 0, []),
  (false, 25, (.getfield 47), 3, 12, 15, [(2, 0)]),
  (false, 28, (.iload_n 1), 1, 0, 0, []),
  (false, 29, .iaload, 1, 0, 0, []),
  (false, 30, (.iload_n 3), 1, 0, 0, []),
  (false, 31, .iadd, 1, 0, 0, []),
  (false, 32, (.bipush 8), 2, 0, 0, []),
  (false, 34, (.if_icmp .le 6), 3, 40, 0, []),
  (false, 37, (.bipush (-4)), 2, 0, 0, []),
  (false, 39, .ireturn, 1, 0, 0, []),
  (false, 40, (.iconst 0), 1, 0, 0, []),
  (false, 41, (.istore 4), 2, 0, 0, []),
  (true, 43, (.iload 4), 2, 0, 0, []),
  (false, 45, (.iload_n 3), 1, 0, 0, []),
  (false, 46, (.if_icmp .ge 75), 3, 121, 0, []),
  (false, 49, (.aload_n 0), 1, 0, 0, []),
  (false, 50, (.getfield 41), 3, 12, 13, [(2, 0)]),
  (false, 53, (.bipush 8), 2, 0, 0, []),
  (false, 55, (.iload_n 1), 1, 0, 0, []),
  (false, 56, .imul, 1, 0, 0, []),
  (false, 57, (.aload_n 0), 1, 0, 0, []),
  (false, 58, (.getfield 47), 3, 12, 15, [(2, 0)]),
  (false, 61, (.iload_n 1), 1, 0, 0, []),
  (false, 62, .iaload, 1, 0, 0, []),
  (false, 63, .iadd, 1, 0, 0, []),
  (false, 64, (.aload_n 0), 1, 0, 0, []),
  (false, 65, (.getfield 41), 3, 12, 13, [(2, 0)]),
  (false, 68, (.bipush 8), 2, 0, 0, []),
  (false, 70, (.iload_n 2), 1, 0, 0, []),
  (false, 71, .imul, 1, 0, 0, []),
  (false, 72, (.iload 4), 2, 0, 0, []),
  (false, 74, .iadd, 1, 0, 0, []),
  (false, 75, .iaload, 1, 0, 0, []),
  (false, 76, .iastore, 1, 0, 0, []),
  (false, 77, (.aload_n 0), 1, 0, 0, []),
  (false, 78, (.getfield 44), 3, 12, 14, [(2, 0)]),
  (false, 81, (.bipush 8), 2, 0, 0, []),
  (false, 83, (.iload_n 1), 1, 0, 0, []),
  (false, 84, .imul, 1, 0, 0, []),
  (false, 85, (.aload_n 0), 1, 0, 0, []),
  (false, 86, (.getfield 47), 3, 12, 15, [(2, 0)]),
  (false, 89, (.iload_n 1), 1, 0, 0, []),
  (false, 90, .iaload, 1, 0, 0, []),
  (false, 91, .iadd, 1, 0, 0, []),
  (false, 92, (.aload_n 0), 1, 0, 0, []),
  (false, 93, (.getfield 44), 3, 12, 14, [(2, 0)]),
  (false, 96, (.bipush 8), 2, 0, 0, []),
  (false, 98, (.iload_n 2), 1, 0, 0, []),
  (false, 99, .imul, 1, 0, 0, []),
  (false, 100, (.iload 4), 2, 0, 0, []),
  (false, 102, .iadd, 1, 0, 0, []),
  (false, 103, .iaload, 1, 0, 0, []),
  (false, 104, .iastore, 1, 0, 0, []),
  (false, 105, (.aload_n 0), 1, 0, 0, []),
  (false, 106, (.getfield 47), 3, 12, 15, [(2, 0)]),
  (false, 109, (.iload_n 1), 1, 0, 0, []),
  (false, 110, .dup2, 1, 0, 0, []),
  (false, 111, .iaload, 1, 0, 0, []),
  (false, 112, (.iconst 1), 1, 0, 0, []),
  (false, 113, .iadd, 1, 0, 0, []),
  (false, 114, .iastore, 1, 0, 0, []),
  (false, 115, (.iinc 4 1), 3, 0, 0, []),
  (false, 118, (.goto (-75)), 3, 43, 0, []),
  (false, 121, (.aload_n 0), 1, 0, 0, []),
  (false, 122, (.getfield 47), 3, 12, 15, [(2, 0)]),
  (false, 125, (.iload_n 1), 1, 0, 0, []),
  (false, 126, .iaload, 1, 0, 0, []),
  (false, 127, .ireturn, 1, 0, 0, [])]
def kX12_isItself : List ab_E := [
  (false, 0, (.aload_n 0), 1, 0, 0, []),
  (false, 1, (.getfield 44), 3, 12, 14, [(2, 0)]),
  (false, 4, (.bipush 8), 2, 0, 0, []),
  (false, 6, (.aload_n 0), 1, 0, 0, []),
  (false, 7, (.getfield 186), 3, 12, 32, [(0, 0)]),
  (false, 10, .imul, 1, 0, 0, []),
  (false, 11, (.iload_n 2), 1, 0, 0, []),
  (false, 12, .iadd, 1, 0, 0, []),
  (false, 13, .iaload, 1, 0, 0, []),
  (false, 14, (.istore_n 3), 1, 0, 0, []),
  (false, 15, (.aload_n 0), 1, 0, 0, []),
  (false, 16, (.getfield 41), 3, 12, 13, [(2, 0)]),
  (false, 19, (.bipush 8), 2, 0, 0, []),
  (false, 21, (.aload_n 0), 1, 0, 0, []),
  (false, 22, (.getfield 186), 3, 12, 32, [(0, 0)]),
  (false, 25, .imul, 1, 0, 0, []),
  (false, 26, (.iload_n 2), 1, 0, 0, []),
  (false, 27, .iadd, 1, 0, 0, []),
  (false, 28, .iaload, 1, 0, 0, []),
  (false, 29, (.tableswitch 83 6 8 #[27, 42, 58]), 27, 112, 0, [(6, 56), (7, 71), (8, 87)]),
  (false, 56, (.aload_n 0), 1, 0, 0, []),
  (false, 57, (.getfield 9), 3, 12, 1, [(2, 0)]),
  (false, 60, (.iload_n 1), 1, 0, 0, []),
  (false, 61, .iaload, 1, 0, 0, []),
  (false, 62, (.ifCond .ne 7), 3, 69, 0, []),
  (false, 65, (.iconst 1), 1, 0, 0, []),
  (false, 66, (.goto 4), 3, 70, 0, []),
  (false, 69, (.iconst 0), 1, 0, 0, []),
  (false, 70, .ireturn, 1, 1, 0, []),
  (false, 71, (.aload_n 0), 1, 0, 0, []),
  (false, 72, (.getfield 19), 3, 12, 4, [(2, 0)]),
  (false, 75, (.iload_n 1), 1, 0, 0, []),
  (false, 76, .iaload, 1, 0, 0, []),
  (false, 77, (.iload_n 3), 1, 0, 0, []),
  (false, 78, (.if_icmp .gt 7), 3, 85, 0, []),
  (false, 81, (.iconst 1), 1, 0, 0, []),
  (false, 82, (.goto 4), 3, 86, 0, []),
  (false, 85, (.iconst 0), 1, 0, 0, []),
  (false, 86, .ireturn, 1, 1, 0, []),
  (false, 87, (.aload_n 0), 1, 0, 0, []),
  (false, 88, (.getfield 9), 3, 12, 1, [(2, 0)]),
  (false, 91, (.iload_n 1), 1, 0, 0, []),
  (false, 92, .iaload, 1, 0, 0, []),
  (false, 93, (.ifCond .ne 17), 3, 110, 0, []),
  (false, 96, (.aload_n 0), 1, 0, 0, []),
  (false, 97, (.getfield 13), 3, 12, 2, [(2, 0)]),
  (false, 100, (.iload_n 1), 1, 0, 0, []),
  (false, 101, .iaload, 1, 0, 0, []),
  (false, 102, (.iload_n 3), 1, 0, 0, []),
  (false, 103, (.if_icmp .ne 7), 3, 110, 0, []),
  (false, 106, (.iconst 1), 1, 0, 0, []),
  (false, 107, (.goto 4), 3, 111, 0, []),
  (false, 110, (.iconst 0), 1, 0, 0, []),
  (false, 111, .ireturn, 1, 1, 0, []),
  (false, 112, (.iconst 0), 1, 0, 0, []),
  (false, 113, .ireturn, 1, 1, 0, [])]
def kX12_isPart : List ab_E := [
  (false, 0, (.aload_n 0), 1, 0, 0, []),
  (false, 1, (.getfield 44), 3, 12, 14, [(2, 0)]),
  (false, 4, (.bipush 8), 2, 0, 0, []),
  (false, 6, (.aload_n 0), 1, 0, 0, []),
  (false, 7, (.getfield 186), 3, 12, 32, [(0, 0)]),
  (false, 10, .imul, 1, 0, 0, []),
  (false, 11, (.iload_n 2), 1, 0, 0, []),
  (false, 12, .iadd, 1, 0, 0, []),
  (false, 13, .iaload, 1, 0, 0, []),
  (false, 14, (.istore 4), 2, 0, 0, []),
  (false, 16, (.aload_n 0), 1, 0, 0, []),
  (false, 17, (.getfield 41), 3, 12, 13, [(2, 0)]),
  (false, 20, (.bipush 8), 2, 0, 0, []),
  (false, 22, (.aload_n 0), 1, 0, 0, []),
  (false, 23, (.getfield 186), 3, 12, 32, [(0, 0)]),
  (false, 26, .imul, 1, 0, 0, []),
  (false, 27, (.iload_n 2), 1, 0, 0, []),
  (false, 28, .iadd, 1, 0, 0, []),
  (false, 29, .iaload, 1, 0, 0, []),
  (false, 30, (.tableswitch 173 0 6 #[42, 64, 86, 118, 145, 171, 171]), 42, 203, 0, [(0, 72), (1, 94), (2, 116), (3, 148), (4, 175), (5, 201), (6, 201)]),
  (false, 72, (.aload_n 0), 1, 0, 0, []),
  (false, 73, (.getfield 9), 3, 12, 1, [(2, 0)]),
  (false, 76, (.iload_n 1), 1, 0, 0, []),
  (false, 77, .iaload, 1, 0, 0, []),
  (false, 78, (.iconst 1), 1, 0, 0, []),
  (false, 79, (.if_icmp .ne 13), 3, 92, 0, []),
  (false, 82, (.iload_n 3), 1, 0, 0, []),
  (false, 83, (.iload 4), 2, 0, 0, []),
  (false, 85, (.if_icmp .ne 7), 3, 92, 0, []),
  (false, 88, (.iconst 1), 1, 0, 0, []),
  (false, 89, (.goto 4), 3, 93, 0, []),
  (false, 92, (.iconst 0), 1, 0, 0, []),
  (false, 93, .ireturn, 1, 1, 0, []),
  (false, 94, (.aload_n 0), 1, 0, 0, []),
  (false, 95, (.getfield 9), 3, 12, 1, [(2, 0)]),
  (false, 98, (.iload_n 1), 1, 0, 0, []),
  (false, 99, .iaload, 1, 0, 0, []),
  (false, 100, (.iconst 2), 1, 0, 0, []),
  (false, 101, (.if_icmp .ne 13), 3, 114, 0, []),
  (false, 104, (.iload_n 3), 1, 0, 0, []),
  (false, 105, (.iload 4), 2, 0, 0, []),
  (false, 107, (.if_icmp .ne 7), 3, 114, 0, []),
  (false, 110, (.iconst 1), 1, 0, 0, []),
  (false, 111, (.goto 4), 3, 115, 0, []),
  (false, 114, (.iconst 0), 1, 0, 0, []),
  (false, 115, .ireturn, 1, 1, 0, []),
  (false, 116, (.aload_n 0), 1, 0, 0, []),
  (false, 117, (.getfield 9), 3, 12, 1, [(2, 0)]),
  (false, 120, (.iload_n 1), 1, 0, 0, []),
  (false, 121, .iaload, 1, 0, 0, []),
  (false, 122, (.iconst 3), 1, 0, 0, []),
  (false, 123, (.if_icmp .ne 23), 3, 146, 0, []),
  (false, 126, (.aload_n 0), 1, 0, 0, []),
  (false, 127, (.getfield 29), 3, 12, 7, [(2, 0)]),
  (false, 130, (.bipush 12), 2, 0, 0, []),
  (false, 132, (.iload_n 1), 1, 0, 0, []),
  (false, 133, .imul, 1, 0, 0, []),
  (false, 134, (.iload_n 3), 1, 0, 0, []),
  (false, 135, .iadd, 1, 0, 0, []),
  (false, 136, .iaload, 1, 0, 0, []),
  (false, 137, (.iload 4), 2, 0, 0, []),
  (false, 139, (.if_icmp .ne 7), 3, 146, 0, []),
  (false, 142, (.iconst 1), 1, 0, 0, []),
  (false, 143, (.goto 4), 3, 147, 0, []),
  (false, 146, (.iconst 0), 1, 0, 0, []),
  (false, 147, .ireturn, 1, 1, 0, []),
  (false, 148, (.aload_n 0), 1, 0, 0, []),
  (false, 149, (.getfield 9), 3, 12, 1, [(2, 0)]),
  (false, 152, (.iload_n 1), 1, 0, 0, []),
  (false, 153, .iaload, 1, 0, 0, []),
  (false, 154, (.iconst 4), 1, 0, 0, []),
  (false, 155, (.if_icmp .ne 18), 3, 173, 0, []),
  (false, 158, (.aload_n 0), 1, 0, 0, []),
  (false, 159, (.getfield 13), 3, 12, 2, [(2, 0)]),
  (false, 162, (.iload_n 1), 1, 0, 0, []),
  (false, 163, .iaload, 1, 0, 0, []),
  (false, 164, (.iload 4), 2, 0, 0, []),
  (false, 166, (.if_icmp .ne 7), 3, 173, 0, []),
  (false, 169, (.iconst 1), 1, 0, 0, []),
  (false, 170, (.goto 4), 3, 174, 0, []),
  (false, 173, (.iconst 0), 1, 0, 0, []),
  (false, 174, .ireturn, 1, 1, 0, []),
  (false, 175, (.aload_n 0), 1, 0, 0, []),
  (false, 176, (.getfield 9), 3, 12, 1, [(2, 0)]),
  (false, 179, (.iload_n 1), 1, 0, 0, []),
  (false, 180, .iaload, 1, 0, 0, []),
  (false, 181, (.iconst 2), 1, 0, 0, []),
  (false, 182, (.if_icmp .eq 13), 3, 195, 0, []),
  (false, 185, (.aload_n 0), 1, 0, 0, []),
  (false, 186, (.getfield 9), 3, 12, 1, [(2, 0)]),
  (false, 189, (.iload_n 1), 1, 0, 0, []),
  (false, 190, .iaload, 1, 0, 0, []),
  (false, 191, (.iconst 3), 1, 0, 0, []),
  (false, 192, (.if_icmp .ne 7), 3, 199, 0, []),
  (false, 195, (.iconst 1), 1, 0, 0, []),
  (false, 196, (.goto 4), 3, 200, 0, []),
  (false, 199, (.iconst 0), 1, 0, 0, []),
  (false, 200, .ireturn, 1, 1, 0, []),
  (false, 201, (.iconst 1), 1, 0, 0, []),
  (false, 202, .ireturn, 1, 1, 0, []),
  (false, 203, (.iconst 0), 1, 0, 0, []),
  (false, 204, .ireturn, 1, 1, 0, [])]
def kX12_nextStep : List ab_E := [
  (false, 0, (.aload_n 0), 1, 0, 0, []),
  (false, 1, (.getfield 41), 3, 12, 13, [(2, 0)]),
  (false, 4, (.bipush 8), 2, 0, 0, []),
  (false, 6, (.aload_n 0), 1, 0, 0, []),
  (false, 7, (.getfield 186), 3, 12, 32, [(0, 0)]),
  (false, 10, .imul, 1, 0, 0, []),
  (false, 11, (.iload_n 1), 1, 0, 0, []),
  (false, 12, .iadd, 1, 0, 0, []),
  (false, 13, .iaload, 1, 0, 0, []),
  (false, 14, (.bipush 6), 2, 0, 0, []),
  (false, 16, (.if_icmp .ne 7), 3, 23, 0, []),
  (false, 19, (.iload_n 1), 1, 0, 0, []),
  (false, 20, (.goto 6), 3, 26, 0, []),
  (false, 23, (.iload_n 1), 1, 0, 0, []),
  (false, 24, (.iconst 1), 1, 0, 0, []),
  (false, 25, .iadd, 1, 0, 0, []),
  (false, 26, .ireturn, 1, 0, 0, [])]
def kX12_goes : List ab_E := [
  (false, 0, (.iload_n 2), 1, 0, 0, []),
  (false, 1, (.aload_n 0), 1, 0, 0, []),
  (false, 2, (.getfield 47), 3, 12, 15, [(2, 0)]),
  (false, 5, (.aload_n 0), 1, 0, 0, []),
  (false, 6, (.getfield 186), 3, 12, 32, [(0, 0)]),
  (false, 9, .iaload, 1, 0, 0, []),
  (false, 10, (.if_icmp .ne 24), 3, 34, 0, []),
  (false, 13, (.aload_n 0), 1, 0, 0, []),
  (false, 14, (.getfield 71), 3, 12, 30, [(2, 0)]),
  (false, 17, (.aload_n 0), 1, 0, 0, []),
  (false, 18, (.getfield 189), 3, 12, 31, [(0, 0)]),
  (false, 21, (.iload_n 1), 1, 0, 0, []),
  (false, 22, .iastore, 1, 0, 0, []),
  (false, 23, (.aload_n 0), 1, 0, 0, []),
  (false, 24, .dup, 1, 0, 0, []),
  (false, 25, (.getfield 189), 3, 12, 31, [(0, 0)]),
  (false, 28, (.iconst 1), 1, 0, 0, []),
  (false, 29, .iadd, 1, 0, 0, []),
  (false, 30, (.putfield 189), 3, 12, 31, [(0, 0)]),
  (false, 33, .return_, 1, 0, 0, []),
  (false, 34, (.aload_n 0), 1, 0, 0, []),
  (false, 35, (.iload_n 1), 1, 0, 0, []),
  (false, 36, (.iload_n 2), 1, 0, 0, []),
  (false, 37, (.invokevirtual 192), 3, 161, 3, [(12, 0)]),
  (false, 40, (.ifCond .eq 11), 3, 51, 0, []),
  (false, 43, (.aload_n 0), 1, 0, 0, []),
  (false, 44, (.iload_n 1), 1, 0, 0, []),
  (false, 45, (.iload_n 2), 1, 0, 0, []),
  (false, 46, (.iconst 1), 1, 0, 0, []),
  (false, 47, .iadd, 1, 0, 0, []),
  (false, 48, (.invokevirtual 195), 3, 164, 3, [(12, 0)]),
  (false, 51, (.iconst 0), 1, 0, 0, []),
  (false, 52, (.istore_n 3), 1, 0, 0, []),
  (true, 53, (.iload_n 3), 1, 0, 0, []),
  (false, 54, (.aload_n 0), 1, 0, 0, []),
  (false, 55, (.getfield 16), 3, 12, 3, [(2, 0)]),
  (false, 58, (.iload_n 1), 1, 0, 0, []),
  (false, 59, .iaload, 1, 0, 0, []),
  (false, 60, (.if_icmp .ge 39), 3, 99, 0, []),
  (false, 63, (.aload_n 0), 1, 0, 0, []),
  (false, 64, (.iload_n 1), 1, 0, 0, []),
  (false, 65, (.iload_n 2), 1, 0, 0, []),
  (false, 66, (.iload_n 3), 1, 0, 0, []),
  (false, 67, (.invokevirtual 198), 3, 162, 4, [(12, 0)]),
  (false, 70, (.ifCond .eq 23), 3, 93, 0, []),
  (false, 73, (.aload_n 0), 1, 0, 0, []),
  (false, 74, (.aload_n 0), 1, 0, 0, []),
  (false, 75, (.getfield 26), 3, 12, 6, [(2, 0)]),
  (false, 78, (.bipush 12), 2, 0, 0, []),
  (false, 80, (.iload_n 1), 1, 0, 0, []),
  (false, 81, .imul, 1, 0, 0, []),
  (false, 82, (.iload_n 3), 1, 0, 0, []),
  (false, 83, .iadd, 1, 0, 0, []),
  (false, 84, .iaload, 1, 0, 0, []),
  (false, 85, (.aload_n 0), 1, 0, 0, []),
  (false, 86, (.iload_n 2), 1, 0, 0, []),
  (false, 87, (.invokevirtual 201), 3, 163, 2, [(12, 0)]),
  (false, 90, (.invokevirtual 195), 3, 164, 3, [(12, 0)]),
  (false, 93, (.iinc 3 1), 3, 0, 0, []),
  (false, 96, (.goto (-43)), 3, 53, 0, []),
  (false, 99, .return_, 1, 0, 0, [])]
def kX12_looksFor : List ab_E := [
  (false, 0, (.aload_n 0), 1, 0, 0, []),
  (false, 1, (.iload_n 2), 1, 0, 0, []),
  (false, 2, (.putfield 186), 3, 12, 32, [(0, 0)]),
  (false, 5, (.aload_n 0), 1, 0, 0, []),
  (false, 6, (.iconst 0), 1, 0, 0, []),
  (false, 7, (.putfield 189), 3, 12, 31, [(0, 0)]),
  (false, 10, (.aload_n 0), 1, 0, 0, []),
  (false, 11, (.iload_n 1), 1, 0, 0, []),
  (false, 12, (.iconst 0), 1, 0, 0, []),
  (false, 13, (.invokevirtual 195), 3, 164, 3, [(12, 0)]),
  (false, 16, .return_, 1, 0, 0, [])]
def kX12_makes : List ab_E := [
  (false, 0, (.aload_n 0), 1, 0, 0, []),
  (false, 1, (.getfield 204), 3, 12, 36, [(1, 0)]),
  (false, 4, (.ifCond .ne 13), 3, 17, 0, []),
  (false, 7, (.aload_n 0), 1, 0, 0, []),
  (false, 8, (.getfield 167), 3, 12, 9, [(0, 0)]),
  (false, 11, (.sipush 3000), 3, 0, 0, []),
  (false, 14, (.if_icmp .ne 10), 3, 24, 0, []),
  (false, 17, (.aload_n 0), 1, 0, 0, []),
  (false, 18, (.iconst 1), 1, 0, 0, []),
  (false, 19, (.putfield 204), 3, 12, 36, [(1, 0)]),
  (false, 22, (.iconst 0), 1, 0, 0, []),
  (false, 23, .ireturn, 1, 1, 0, []),
  (false, 24, (.aload_n 0), 1, 0, 0, []),
  (false, 25, .dup, 1, 0, 0, []),
  (false, 26, (.getfield 167), 3, 12, 9, [(0, 0)]),
  (false, 29, (.iconst 1), 1, 0, 0, []),
  (false, 30, .iadd, 1, 0, 0, []),
  (false, 31, (.putfield 167), 3, 12, 9, [(0, 0)]),
  (false, 34, (.iconst 1), 1, 0, 0, []),
  (false, 35, .ireturn, 1, 1, 0, [])]
def kX12_numbered : List ab_E := [
  (false, 0, (.aload_n 0), 1, 0, 0, []),
  (false, 1, (.invokevirtual 208), 3, 166, 1, [(12, 0)]),
  (false, 4, (.ifCond .eq 11), 3, 15, 0, []),
  (false, 7, (.aload_n 0), 1, 0, 0, []),
  (false, 8, (.iload_n 1), 1, 0, 0, []),
  (false, 9, (.invokevirtual 78), 3, 138, 2, [(12, 0)]),
  (false, 12, (.goto 4), 3, 16, 0, []),
  (false, 15, (.iconst 0), 1, 0, 0, []),
  (false, 16, .ireturn, 1, 0, 0, [])]
def kX12_copyOf : List ab_E := [
  (false, 0, (.aload_n 0), 1, 0, 0, []),
  (false, 1, (.aload_n 0), 1, 0, 0, []),
  (false, 2, (.getfield 9), 3, 12, 1, [(2, 0)]),
  (false, 5, (.iload_n 1), 1, 0, 0, []),
  (false, 6, .iaload, 1, 0, 0, []),
  (false, 7, (.aload_n 0), 1, 0, 0, []),
  (false, 8, (.getfield 13), 3, 12, 2, [(2, 0)]),
  (false, 11, (.iload_n 1), 1, 0, 0, []),
  (false, 12, .iaload, 1, 0, 0, []),
  (false, 13, (.aload_n 0), 1, 0, 0, []),
  (false, 14, (.getfield 16), 3, 12, 3, [(2, 0)]),
  (false, 17, (.iload_n 1), 1, 0, 0, []),
  (false, 18, .iaload, 1, 0, 0, []),
  (false, 19, (.invokevirtual 93), 3, 136, 4, [(12, 0)]),
  (false, 22, (.istore_n 2), 1, 0, 0, []),
  (false, 23, (.iconst 0), 1, 0, 0, []),
  (false, 24, (.istore_n 3), 1, 0, 0, []),
  (true, 25, (.iload_n 3), 1, 0, 0, []),
  (false, 26, (.aload_n 0), 1, 0, 0, []),
  (false, 27, (.getfield 16), 3, 12, 3, [(2, 0)]),
  (false, 30, (.iload_n 1), 1, 0, 0, []),
  (false, 31, .iaload, 1, 0, 0, []),
  (false, 32, (.if_icmp .ge 53), 3, 85, 0, []),
  (false, 35, (.aload_n 0), 1, 0, 0, []),
  (false, 36, (.getfield 26), 3, 12, 6, [(2, 0)]),
  (false, 39, (.bipush 12), 2, 0, 0, []),
  (false, 41, (.iload_n 2), 1, 0, 0, []),
  (false, 42, .imul, 1, 0, 0, []),
  (false, 43, (.iload_n 3), 1, 0, 0, []),
  (false, 44, .iadd, 1, 0, 0, []),
  (false, 45, (.aload_n 0), 1, 0, 0, []),
  (false, 46, (.getfield 26), 3, 12, 6, [(2, 0)]),
  (false, 49, (.bipush 12), 2, 0, 0, []),
  (false, 51, (.iload_n 1), 1, 0, 0, []),
  (false, 52, .imul, 1, 0, 0, []),
  (false, 53, (.iload_n 3), 1, 0, 0, []),
  (false, 54, .iadd, 1, 0, 0, []),
  (false, 55, .iaload, 1, 0, 0, []),
  (false, 56, .iastore, 1, 0, 0, []),
  (false, 57, (.aload_n 0), 1, 0, 0, []),
  (false, 58, (.getfield 29), 3, 12, 7, [(2, 0)]),
  (false, 61, (.bipush 12), 2, 0, 0, []),
  (false, 63, (.iload_n 2), 1, 0, 0, []),
  (false, 64, .imul, 1, 0, 0, []),
  (false, 65, (.iload_n 3), 1, 0, 0, []),
  (false, 66, .iadd, 1, 0, 0, []),
  (false, 67, (.aload_n 0), 1, 0, 0, []),
  (false, 68, (.getfield 29), 3, 12, 7, [(2, 0)]),
  (false, 71, (.bipush 12), 2, 0, 0, []),
  (false, 73, (.iload_n 1), 1, 0, 0, []),
  (false, 74, .imul, 1, 0, 0, []),
  (false, 75, (.iload_n 3), 1, 0, 0, []),
  (false, 76, .iadd, 1, 0, 0, []),
  (false, 77, .iaload, 1, 0, 0, []),
  (false, 78, .iastore, 1, 0, 0, []),
  (false, 79, (.iinc 3 1), 3, 0, 0, []),
  (false, 82, (.goto (-57)), 3, 25, 0, []),
  (false, 85, (.iload_n 2), 1, 0, 0, []),
  (false, 86, .ireturn, 1, 0, 0, [])]
def kX12_changed : List ab_E := [
  (false, 0, (.aload_n 0), 1, 0, 0, []),
  (false, 1, (.iload_n 1), 1, 0, 0, []),
  (false, 2, (.invokevirtual 211), 3, 168, 2, [(12, 0)]),
  (false, 5, (.istore_n 2), 1, 0, 0, []),
  (false, 6, (.aload_n 0), 1, 0, 0, []),
  (false, 7, (.getfield 16), 3, 12, 3, [(2, 0)]),
  (false, 10, (.iload_n 1), 1, 0, 0, []),
  (false, 11, .iaload, 1, 0, 0, []),
  (false, 12, (.istore_n 3), 1, 0, 0, []),
  (false, 13, (.iconst 0), 1, 0, 0, []),
  (false, 14, (.istore 4), 2, 0, 0, []),
  (true, 16, (.iload 4), 2, 0, 0, []),
  (false, 18, (.iload_n 3), 1, 0, 0, []),
  (false, 19, (.if_icmp .ge 170), 3, 189, 0, []),
  (false, 22, (.aload_n 0), 1, 0, 0, []),
  (false, 23, (.getfield 26), 3, 12, 6, [(2, 0)]),
  (false, 26, (.bipush 12), 2, 0, 0, []),
  (false, 28, (.iload_n 1), 1, 0, 0, []),
  (false, 29, .imul, 1, 0, 0, []),
  (false, 30, (.iload 4), 2, 0, 0, []),
  (false, 32, .iadd, 1, 0, 0, []),
  (false, 33, .iaload, 1, 0, 0, []),
  (false, 34, (.istore 5), 2, 0, 0, []),
  (false, 36, (.aload_n 0), 1, 0, 0, []),
  (false, 37, (.getfield 214), 3, 12, 33, [(0, 0)]),
  (false, 40, (.bipush 8), 2, 0, 0, []),
  (false, 42, (.if_icmp .eq 12), 3, 54, 0, []),
  (false, 45, (.aload_n 0), 1, 0, 0, []),
  (false, 46, (.getfield 214), 3, 12, 33, [(0, 0)]),
  (false, 49, (.bipush 9), 2, 0, 0, []),
  (false, 51, (.if_icmp .ne 24), 3, 75, 0, []),
  (false, 54, (.aload_n 0), 1, 0, 0, []),
  (false, 55, (.getfield 26), 3, 12, 6, [(2, 0)]),
  (false, 58, (.bipush 12), 2, 0, 0, []),
  (false, 60, (.iload_n 2), 1, 0, 0, []),
  (false, 61, .imul, 1, 0, 0, []),
  (false, 62, (.iload_n 3), 1, 0, 0, []),
  (false, 63, .iadd, 1, 0, 0, []),
  (false, 64, (.iconst 1), 1, 0, 0, []),
  (false, 65, .isub, 1, 0, 0, []),
  (false, 66, (.iload 4), 2, 0, 0, []),
  (false, 68, .isub, 1, 0, 0, []),
  (false, 69, (.iload 5), 2, 0, 0, []),
  (false, 71, .iastore, 1, 0, 0, []),
  (false, 72, (.goto 111), 3, 183, 0, []),
  (false, 75, (.aload_n 0), 1, 0, 0, []),
  (false, 76, (.getfield 214), 3, 12, 33, [(0, 0)]),
  (false, 79, (.bipush 11), 2, 0, 0, []),
  (false, 81, (.if_icmp .ne 24), 3, 105, 0, []),
  (false, 84, (.aload_n 0), 1, 0, 0, []),
  (false, 85, (.getfield 26), 3, 12, 6, [(2, 0)]),
  (false, 88, (.bipush 12), 2, 0, 0, []),
  (false, 90, (.iload_n 2), 1, 0, 0, []),
  (false, 91, .imul, 1, 0, 0, []),
  (false, 92, (.iload 4), 2, 0, 0, []),
  (false, 94, (.iconst 1), 1, 0, 0, []),
  (false, 95, .iadd, 1, 0, 0, []),
  (false, 96, (.iload_n 3), 1, 0, 0, []),
  (false, 97, .irem, 1, 0, 0, []),
  (false, 98, .iadd, 1, 0, 0, []),
  (false, 99, (.iload 5), 2, 0, 0, []),
  (false, 101, .iastore, 1, 0, 0, []),
  (false, 102, (.goto 81), 3, 183, 0, []),
  (false, 105, (.iload 4), 2, 0, 0, []),
  (false, 107, (.istore 6), 2, 0, 0, []),
  (true, 109, (.iload 6), 2, 0, 0, []),
  (false, 111, (.ifCond .le 58), 3, 169, 0, []),
  (false, 114, (.aload_n 0), 1, 0, 0, []),
  (false, 115, (.aload_n 0), 1, 0, 0, []),
  (false, 116, (.getfield 26), 3, 12, 6, [(2, 0)]),
  (false, 119, (.bipush 12), 2, 0, 0, []),
  (false, 121, (.iload_n 2), 1, 0, 0, []),
  (false, 122, .imul, 1, 0, 0, []),
  (false, 123, (.iload 6), 2, 0, 0, []),
  (false, 125, .iadd, 1, 0, 0, []),
  (false, 126, (.iconst 1), 1, 0, 0, []),
  (false, 127, .isub, 1, 0, 0, []),
  (false, 128, .iaload, 1, 0, 0, []),
  (false, 129, (.iload 5), 2, 0, 0, []),
  (false, 131, (.invokevirtual 100), 3, 140, 3, [(12, 0)]),
  (false, 134, (.ifCond .le 35), 3, 169, 0, []),
  (false, 137, (.aload_n 0), 1, 0, 0, []),
  (false, 138, (.getfield 26), 3, 12, 6, [(2, 0)]),
  (false, 141, (.bipush 12), 2, 0, 0, []),
  (false, 143, (.iload_n 2), 1, 0, 0, []),
  (false, 144, .imul, 1, 0, 0, []),
  (false, 145, (.iload 6), 2, 0, 0, []),
  (false, 147, .iadd, 1, 0, 0, []),
  (false, 148, (.aload_n 0), 1, 0, 0, []),
  (false, 149, (.getfield 26), 3, 12, 6, [(2, 0)]),
  (false, 152, (.bipush 12), 2, 0, 0, []),
  (false, 154, (.iload_n 2), 1, 0, 0, []),
  (false, 155, .imul, 1, 0, 0, []),
  (false, 156, (.iload 6), 2, 0, 0, []),
  (false, 158, .iadd, 1, 0, 0, []),
  (false, 159, (.iconst 1), 1, 0, 0, []),
  (false, 160, .isub, 1, 0, 0, []),
  (false, 161, .iaload, 1, 0, 0, []),
  (false, 162, .iastore, 1, 0, 0, []),
  (false, 163, (.iinc 6 (-1)), 3, 0, 0, []),
  (false, 166, (.goto (-57)), 3, 109, 0, []),
  (false, 169, (.aload_n 0), 1, 0, 0, []),
  (false, 170, (.getfield 26), 3, 12, 6, [(2, 0)]),
  (false, 173, (.bipush 12), 2, 0, 0, []),
  (false, 175, (.iload_n 2), 1, 0, 0, []),
  (false, 176, .imul, 1, 0, 0, []),
  (false, 177, (.iload 6), 2, 0, 0, []),
  (false, 179, .iadd, 1, 0, 0, []),
  (false, 180, (.iload 5), 2, 0, 0, []),
  (false, 182, .iastore, 1, 0, 0, []),
  (false, 183, (.iinc 4 1), 3, 0, 0, []),
  (false, 186, (.goto (-170)), 3, 16, 0, []),
  (false, 189, (.aload_n 0), 1, 0, 0, []),
  (false, 190, (.iload_n 2), 1, 0, 0, []),
  (false, 191, (.invokevirtual 97), 3, 137, 2, [(12, 0)]),
  (false, 194, .ireturn, 1, 0, 0, [])]
def kX12_around : List ab_E := [
  (false, 0, (.aload_n 0), 1, 0, 0, []),
  (false, 1, (.iload_n 1), 1, 0, 0, []),
  (false, 2, (.iload_n 2), 1, 0, 0, []),
  (false, 3, (.iconst 0), 1, 0, 0, []),
  (false, 4, (.invokevirtual 93), 3, 136, 4, [(12, 0)]),
  (false, 7, (.istore 4), 2, 0, 0, []),
  (false, 9, (.aload_n 0), 1, 0, 0, []),
  (false, 10, (.iload 4), 2, 0, 0, []),
  (false, 12, (.iconst 0), 1, 0, 0, []),
  (false, 13, (.iload_n 3), 1, 0, 0, []),
  (false, 14, (.invokevirtual 152), 3, 151, 4, [(12, 0)]),
  (false, 17, (.aload_n 0), 1, 0, 0, []),
  (false, 18, (.iload 4), 2, 0, 0, []),
  (false, 20, (.invokevirtual 97), 3, 137, 2, [(12, 0)]),
  (false, 23, .ireturn, 1, 0, 0, [])]
def kX12_became : List ab_E := [
  (false, 0, (.aload_n 0), 1, 0, 0, []),
  (false, 1, (.getfield 217), 3, 12, 35, [(0, 0)]),
  (false, 4, (.istore_n 2), 1, 0, 0, []),
  (false, 5, (.aload_n 0), 1, 0, 0, []),
  (false, 6, .dup, 1, 0, 0, []),
  (false, 7, (.getfield 217), 3, 12, 35, [(0, 0)]),
  (false, 10, (.iconst 1), 1, 0, 0, []),
  (false, 11, .iadd, 1, 0, 0, []),
  (false, 12, (.putfield 217), 3, 12, 35, [(0, 0)]),
  (false, 15, (.aload_n 0), 1, 0, 0, []),
  (false, 16, (.getfield 214), 3, 12, 33, [(0, 0)]),
  (false, 19, (.iconst 4), 1, 0, 0, []),
  (false, 20, (.if_icmp .ge 96), 3, 116, 0, []),
  (false, 23, (.aload_n 0), 1, 0, 0, []),
  (false, 24, (.getfield 214), 3, 12, 33, [(0, 0)]),
  (false, 27, (.ifCond .ne 17), 3, 44, 0, []),
  (false, 30, (.aload_n 0), 1, 0, 0, []),
  (false, 31, (.getfield 13), 3, 12, 2, [(2, 0)]),
  (false, 34, (.iload_n 1), 1, 0, 0, []),
  (false, 35, .iaload, 1, 0, 0, []),
  (false, 36, (.aload_n 0), 1, 0, 0, []),
  (false, 37, (.getfield 220), 3, 12, 34, [(0, 0)]),
  (false, 40, .iadd, 1, 0, 0, []),
  (false, 41, (.goto 55), 3, 96, 0, []),
  (false, 44, (.aload_n 0), 1, 0, 0, []),
  (false, 45, (.getfield 214), 3, 12, 33, [(0, 0)]),
  (false, 48, (.iconst 1), 1, 0, 0, []),
  (false, 49, (.if_icmp .ne 17), 3, 66, 0, []),
  (false, 52, (.aload_n 0), 1, 0, 0, []),
  (false, 53, (.getfield 13), 3, 12, 2, [(2, 0)]),
  (false, 56, (.iload_n 1), 1, 0, 0, []),
  (false, 57, .iaload, 1, 0, 0, []),
  (false, 58, (.aload_n 0), 1, 0, 0, []),
  (false, 59, (.getfield 220), 3, 12, 34, [(0, 0)]),
  (false, 62, .imul, 1, 0, 0, []),
  (false, 63, (.goto 33), 3, 96, 0, []),
  (false, 66, (.aload_n 0), 1, 0, 0, []),
  (false, 67, (.getfield 214), 3, 12, 33, [(0, 0)]),
  (false, 70, (.iconst 2), 1, 0, 0, []),
  (false, 71, (.if_icmp .ne 17), 3, 88, 0, []),
  (false, 74, (.aload_n 0), 1, 0, 0, []),
  (false, 75, (.getfield 220), 3, 12, 34, [(0, 0)]),
  (false, 78, (.aload_n 0), 1, 0, 0, []),
  (false, 79, (.getfield 13), 3, 12, 2, [(2, 0)]),
  (false, 82, (.iload_n 1), 1, 0, 0, []),
  (false, 83, .iaload, 1, 0, 0, []),
  (false, 84, .isub, 1, 0, 0, []),
  (false, 85, (.goto 11), 3, 96, 0, []),
  (false, 88, (.aload_n 0), 1, 0, 0, []),
  (false, 89, (.getfield 13), 3, 12, 2, [(2, 0)]),
  (false, 92, (.iload_n 1), 1, 0, 0, []),
  (false, 93, .iaload, 1, 0, 0, []),
  (false, 94, (.iload_n 2), 1, 0, 0, []),
  (false, 95, .iadd, 1, 0, 0, []),
  (false, 96, (.istore_n 3), 1, 0, 0, []),
  (false, 97, (.aload_n 0), 1, 0, 0, []),
  (false, 98, (.getfield 9), 3, 12, 1, [(2, 0)]),
  (false, 101, (.iload_n 1), 1, 0, 0, []),
  (false, 102, .iaload, 1, 0, 0, []),
  (false, 103, (.ifCond .ne 11), 3, 114, 0, []),
  (false, 106, (.aload_n 0), 1, 0, 0, []),
  (false, 107, (.iload_n 3), 1, 0, 0, []),
  (false, 108, (.invokevirtual 223), 3, 167, 2, [(12, 0)]),
  (false, 111, (.goto 4), 3, 115, 0, []),
  (false, 114, (.iload_n 1), 1, 0, 0, []),
  (false, 115, .ireturn, 1, 0, 0, []),
  (false, 116, (.aload_n 0), 1, 0, 0, []),
  (false, 117, (.getfield 214), 3, 12, 33, [(0, 0)]),
  (false, 120, (.bipush 7), 2, 0, 0, []),
  (false, 122, (.if_icmp .ne 13), 3, 135, 0, []),
  (false, 125, (.aload_n 0), 1, 0, 0, []),
  (false, 126, (.getfield 32), 3, 12, 10, [(2, 0)]),
  (false, 129, (.aload_n 0), 1, 0, 0, []),
  (false, 130, (.getfield 220), 3, 12, 34, [(0, 0)]),
  (false, 133, .iaload, 1, 0, 0, []),
  (false, 134, .ireturn, 1, 0, 0, []),
  (false, 135, (.aload_n 0), 1, 0, 0, []),
  (false, 136, (.getfield 214), 3, 12, 33, [(0, 0)]),
  (false, 139, (.iconst 4), 1, 0, 0, []),
  (false, 140, (.if_icmp .ne 53), 3, 193, 0, []),
  (false, 143, (.aload_n 0), 1, 0, 0, []),
  (false, 144, (.aload_n 0), 1, 0, 0, []),
  (false, 145, (.getfield 220), 3, 12, 34, [(0, 0)]),
  (false, 148, (.invokevirtual 223), 3, 167, 2, [(12, 0)]),
  (false, 151, (.istore_n 3), 1, 0, 0, []),
  (false, 152, (.aload_n 0), 1, 0, 0, []),
  (false, 153, (.invokevirtual 208), 3, 166, 1, [(12, 0)]),
  (false, 156, (.ifCond .ne 5), 3, 161, 0, []),
  (false, 159, (.iload_n 1), 1, 0, 0, []),
  (false, 160, .ireturn, 1, 0, 0, []),
  (false, 161, (.aload_n 0), 1, 0, 0, []),
  (false, 162, (.iconst 1), 1, 0, 0, []),
  (false, 163, (.iconst 0), 1, 0, 0, []),
  (false, 164, (.iconst 0), 1, 0, 0, []),
  (false, 165, (.invokevirtual 93), 3, 136, 4, [(12, 0)]),
  (false, 168, (.istore 4), 2, 0, 0, []),
  (false, 170, (.aload_n 0), 1, 0, 0, []),
  (false, 171, (.iload 4), 2, 0, 0, []),
  (false, 173, (.iconst 0), 1, 0, 0, []),
  (false, 174, (.iload_n 1), 1, 0, 0, []),
  (false, 175, (.invokevirtual 152), 3, 151, 4, [(12, 0)]),
  (false, 178, (.aload_n 0), 1, 0, 0, []),
  (false, 179, (.iload 4), 2, 0, 0, []),
  (false, 181, (.iconst 0), 1, 0, 0, []),
  (false, 182, (.iload_n 3), 1, 0, 0, []),
  (false, 183, (.invokevirtual 152), 3, 151, 4, [(12, 0)]),
  (false, 186, (.aload_n 0), 1, 0, 0, []),
  (false, 187, (.iload 4), 2, 0, 0, []),
  (false, 189, (.invokevirtual 97), 3, 137, 2, [(12, 0)]),
  (false, 192, .ireturn, 1, 0, 0, []),
  (false, 193, (.aload_n 0), 1, 0, 0, []),
  (false, 194, (.getfield 214), 3, 12, 33, [(0, 0)]),
  (false, 197, (.bipush 7), 2, 0, 0, []),
  (false, 199, (.if_icmp .lt 69), 3, 268, 0, []),
  (false, 202, (.aload_n 0), 1, 0, 0, []),
  (false, 203, (.getfield 214), 3, 12, 33, [(0, 0)]),
  (false, 206, (.bipush 8), 2, 0, 0, []),
  (false, 208, (.if_icmp .ne 13), 3, 221, 0, []),
  (false, 211, (.aload_n 0), 1, 0, 0, []),
  (false, 212, (.getfield 9), 3, 12, 1, [(2, 0)]),
  (false, 215, (.iload_n 1), 1, 0, 0, []),
  (false, 216, .iaload, 1, 0, 0, []),
  (false, 217, (.iconst 1), 1, 0, 0, []),
  (false, 218, (.if_icmp .eq 50), 3, 268, 0, []),
  (false, 221, (.aload_n 0), 1, 0, 0, []),
  (false, 222, (.getfield 214), 3, 12, 33, [(0, 0)]),
  (false, 225, (.bipush 9), 2, 0, 0, []),
  (false, 227, (.if_icmp .eq 12), 3, 239, 0, []),
  (false, 230, (.aload_n 0), 1, 0, 0, []),
  (false, 231, (.getfield 214), 3, 12, 33, [(0, 0)]),
  (false, 234, (.bipush 10), 2, 0, 0, []),
  (false, 236, (.if_icmp .ne 13), 3, 249, 0, []),
  (false, 239, (.aload_n 0), 1, 0, 0, []),
  (false, 240, (.getfield 9), 3, 12, 1, [(2, 0)]),
  (false, 243, (.iload_n 1), 1, 0, 0, []),
  (false, 244, .iaload, 1, 0, 0, []),
  (false, 245, (.iconst 2), 1, 0, 0, []),
  (false, 246, (.if_icmp .eq 22), 3, 268, 0, []),
  (false, 249, (.aload_n 0), 1, 0, 0, []),
  (false, 250, (.getfield 214), 3, 12, 33, [(0, 0)]),
  (false, 253, (.bipush 11), 2, 0, 0, []),
  (false, 255, (.if_icmp .ne 17), 3, 272, 0, []),
  (false, 258, (.aload_n 0), 1, 0, 0, []),
  (false, 259, (.getfield 9), 3, 12, 1, [(2, 0)]),
  (false, 262, (.iload_n 1), 1, 0, 0, []),
  (false, 263, .iaload, 1, 0, 0, []),
  (false, 264, (.iconst 3), 1, 0, 0, []),
  (false, 265, (.if_icmp .ne 7), 3, 272, 0, []),
  (false, 268, (.iconst 1), 1, 0, 0, []),
  (false, 269, (.goto 4), 3, 273, 0, []),
  (false, 272, (.iconst 0), 1, 0, 0, []),
  (false, 273, (.istore_n 3), 1, 0, 0, []),
  (false, 274, (.iload_n 3), 1, 0, 0, []),
  (false, 275, (.ifCond .eq 10), 3, 285, 0, []),
  (false, 278, (.aload_n 0), 1, 0, 0, []),
  (false, 279, (.invokevirtual 208), 3, 166, 1, [(12, 0)]),
  (false, 282, (.ifCond .ne 5), 3, 287, 0, []),
  (false, 285, (.iload_n 1), 1, 0, 0, []),
  (false, 286, .ireturn, 1, 0, 0, []),
  (false, 287, (.aload_n 0), 1, 0, 0, []),
  (false, 288, (.getfield 214), 3, 12, 33, [(0, 0)]),
  (false, 291, (.iconst 5), 1, 0, 0, []),
  (false, 292, (.if_icmp .ne 16), 3, 308, 0, []),
  (false, 295, (.aload_n 0), 1, 0, 0, []),
  (false, 296, (.iconst 4), 1, 0, 0, []),
  (false, 297, (.aload_n 0), 1, 0, 0, []),
  (false, 298, (.getfield 220), 3, 12, 34, [(0, 0)]),
  (false, 301, (.iload_n 1), 1, 0, 0, []),
  (false, 302, (.invokevirtual 226), 3, 170, 4, [(12, 0)]),
  (false, 305, (.goto 27), 3, 332, 0, []),
  (false, 308, (.aload_n 0), 1, 0, 0, []),
  (false, 309, (.getfield 214), 3, 12, 33, [(0, 0)]),
  (false, 312, (.bipush 6), 2, 0, 0, []),
  (false, 314, (.if_icmp .ne 13), 3, 327, 0, []),
  (false, 317, (.aload_n 0), 1, 0, 0, []),
  (false, 318, (.iconst 2), 1, 0, 0, []),
  (false, 319, (.iconst 0), 1, 0, 0, []),
  (false, 320, (.iload_n 1), 1, 0, 0, []),
  (false, 321, (.invokevirtual 226), 3, 170, 4, [(12, 0)]),
  (false, 324, (.goto 8), 3, 332, 0, []),
  (false, 327, (.aload_n 0), 1, 0, 0, []),
  (false, 328, (.iload_n 1), 1, 0, 0, []),
  (false, 329, (.invokevirtual 229), 3, 169, 2, [(12, 0)]),
  (false, 332, .ireturn, 1, 0, 0, [])]
def kX12_goesOver : List ab_E := [
  (false, 0, (.aload_n 0), 1, 0, 0, []),
  (false, 1, (.getfield 204), 3, 12, 36, [(1, 0)]),
  (false, 4, (.ifCond .eq 5), 3, 9, 0, []),
  (false, 7, (.iload_n 1), 1, 0, 0, []),
  (false, 8, .ireturn, 1, 0, 0, []),
  (false, 9, (.iload_n 2), 1, 0, 0, []),
  (false, 10, (.aload_n 0), 1, 0, 0, []),
  (false, 11, (.getfield 47), 3, 12, 15, [(2, 0)]),
  (false, 14, (.aload_n 0), 1, 0, 0, []),
  (false, 15, (.getfield 186), 3, 12, 32, [(0, 0)]),
  (false, 18, .iaload, 1, 0, 0, []),
  (false, 19, (.if_icmp .ne 9), 3, 28, 0, []),
  (false, 22, (.aload_n 0), 1, 0, 0, []),
  (false, 23, (.iload_n 1), 1, 0, 0, []),
  (false, 24, (.invokevirtual 232), 3, 171, 2, [(12, 0)]),
  (false, 27, .ireturn, 1, 0, 0, []),
  (false, 28, (.aload_n 0), 1, 0, 0, []),
  (false, 29, (.iload_n 1), 1, 0, 0, []),
  (false, 30, (.iload_n 2), 1, 0, 0, []),
  (false, 31, (.invokevirtual 192), 3, 161, 3, [(12, 0)]),
  (false, 34, (.ifCond .eq 12), 3, 46, 0, []),
  (false, 37, (.aload_n 0), 1, 0, 0, []),
  (false, 38, (.iload_n 1), 1, 0, 0, []),
  (false, 39, (.iload_n 2), 1, 0, 0, []),
  (false, 40, (.iconst 1), 1, 0, 0, []),
  (false, 41, .iadd, 1, 0, 0, []),
  (false, 42, (.invokevirtual 235), 3, 172, 3, [(12, 0)]),
  (false, 45, .ireturn, 1, 0, 0, []),
  (false, 46, (.iconst (-1)), 1, 0, 0, []),
  (false, 47, (.istore_n 3), 1, 0, 0, []),
  (false, 48, (.iconst 0), 1, 0, 0, []),
  (false, 49, (.istore 4), 2, 0, 0, []),
  (true, 51, (.iload 4), 2, 0, 0, []),
  (false, 53, (.aload_n 0), 1, 0, 0, []),
  (false, 54, (.getfield 16), 3, 12, 3, [(2, 0)]),
  (false, 57, (.iload_n 1), 1, 0, 0, []),
  (false, 58, .iaload, 1, 0, 0, []),
  (false, 59, (.if_icmp .ge 103), 3, 162, 0, []),
  (false, 62, (.aload_n 0), 1, 0, 0, []),
  (false, 63, (.getfield 26), 3, 12, 6, [(2, 0)]),
  (false, 66, (.bipush 12), 2, 0, 0, []),
  (false, 68, (.iload_n 1), 1, 0, 0, []),
  (false, 69, .imul, 1, 0, 0, []),
  (false, 70, (.iload 4), 2, 0, 0, []),
  (false, 72, .iadd, 1, 0, 0, []),
  (false, 73, .iaload, 1, 0, 0, []),
  (false, 74, (.istore 5), 2, 0, 0, []),
  (false, 76, (.aload_n 0), 1, 0, 0, []),
  (false, 77, (.iload_n 1), 1, 0, 0, []),
  (false, 78, (.iload_n 2), 1, 0, 0, []),
  (false, 79, (.iload 4), 2, 0, 0, []),
  (false, 81, (.invokevirtual 198), 3, 162, 4, [(12, 0)]),
  (false, 84, (.ifCond .eq 17), 3, 101, 0, []),
  (false, 87, (.aload_n 0), 1, 0, 0, []),
  (false, 88, (.iload 5), 2, 0, 0, []),
  (false, 90, (.aload_n 0), 1, 0, 0, []),
  (false, 91, (.iload_n 2), 1, 0, 0, []),
  (false, 92, (.invokevirtual 201), 3, 163, 2, [(12, 0)]),
  (false, 95, (.invokevirtual 235), 3, 172, 3, [(12, 0)]),
  (false, 98, (.goto 5), 3, 103, 0, []),
  (false, 101, (.iload 5), 2, 0, 0, []),
  (false, 103, (.istore 6), 2, 0, 0, []),
  (false, 105, (.iload 6), 2, 0, 0, []),
  (false, 107, (.iload 5), 2, 0, 0, []),
  (false, 109, (.if_icmp .eq 21), 3, 130, 0, []),
  (false, 112, (.iload_n 3), 1, 0, 0, []),
  (false, 113, (.iconst (-1)), 1, 0, 0, []),
  (false, 114, (.if_icmp .ne 16), 3, 130, 0, []),
  (false, 117, (.aload_n 0), 1, 0, 0, []),
  (false, 118, (.invokevirtual 208), 3, 166, 1, [(12, 0)]),
  (false, 121, (.ifCond .eq 9), 3, 130, 0, []),
  (false, 124, (.aload_n 0), 1, 0, 0, []),
  (false, 125, (.iload_n 1), 1, 0, 0, []),
  (false, 126, (.invokevirtual 211), 3, 168, 2, [(12, 0)]),
  (false, 129, (.istore_n 3), 1, 0, 0, []),
  (false, 130, (.iload 6), 2, 0, 0, []),
  (false, 132, (.iload 5), 2, 0, 0, []),
  (false, 134, (.if_icmp .eq 22), 3, 156, 0, []),
  (false, 137, (.iload_n 3), 1, 0, 0, []),
  (false, 138, (.iconst (-1)), 1, 0, 0, []),
  (false, 139, (.if_icmp .eq 17), 3, 156, 0, []),
  (false, 142, (.aload_n 0), 1, 0, 0, []),
  (false, 143, (.getfield 26), 3, 12, 6, [(2, 0)]),
  (false, 146, (.bipush 12), 2, 0, 0, []),
  (false, 148, (.iload_n 3), 1, 0, 0, []),
  (false, 149, .imul, 1, 0, 0, []),
  (false, 150, (.iload 4), 2, 0, 0, []),
  (false, 152, .iadd, 1, 0, 0, []),
  (false, 153, (.iload 6), 2, 0, 0, []),
  (false, 155, .iastore, 1, 0, 0, []),
  (false, 156, (.iinc 4 1), 3, 0, 0, []),
  (false, 159, (.goto (-108)), 3, 51, 0, []),
  (false, 162, (.iload_n 3), 1, 0, 0, []),
  (false, 163, (.iconst (-1)), 1, 0, 0, []),
  (false, 164, (.if_icmp .ne 7), 3, 171, 0, []),
  (false, 167, (.iload_n 1), 1, 0, 0, []),
  (false, 168, (.goto 8), 3, 176, 0, []),
  (false, 171, (.aload_n 0), 1, 0, 0, []),
  (false, 172, (.iload_n 3), 1, 0, 0, []),
  (false, 173, (.invokevirtual 97), 3, 137, 2, [(12, 0)]),
  (false, 176, .ireturn, 1, 0, 0, [])]
def kX12_comesOf : List ab_E := [
  (false, 0, (.aload_n 0), 1, 0, 0, []),
  (false, 1, (.iload_n 2), 1, 0, 0, []),
  (false, 2, (.putfield 186), 3, 12, 32, [(0, 0)]),
  (false, 5, (.aload_n 0), 1, 0, 0, []),
  (false, 6, (.iload_n 3), 1, 0, 0, []),
  (false, 7, (.putfield 214), 3, 12, 33, [(0, 0)]),
  (false, 10, (.aload_n 0), 1, 0, 0, []),
  (false, 11, (.iload 4), 2, 0, 0, []),
  (false, 13, (.putfield 220), 3, 12, 34, [(0, 0)]),
  (false, 16, (.aload_n 0), 1, 0, 0, []),
  (false, 17, (.iconst 0), 1, 0, 0, []),
  (false, 18, (.putfield 217), 3, 12, 35, [(0, 0)]),
  (false, 21, (.aload_n 0), 1, 0, 0, []),
  (false, 22, (.iconst 0), 1, 0, 0, []),
  (false, 23, (.putfield 204), 3, 12, 36, [(1, 0)]),
  (false, 26, (.aload_n 0), 1, 0, 0, []),
  (false, 27, (.iload_n 1), 1, 0, 0, []),
  (false, 28, (.iconst 0), 1, 0, 0, []),
  (false, 29, (.invokevirtual 235), 3, 172, 3, [(12, 0)]),
  (false, 32, (.istore 5), 2, 0, 0, []),
  (false, 34, (.aload_n 0), 1, 0, 0, []),
  (false, 35, (.getfield 204), 3, 12, 36, [(1, 0)]),
  (false, 38, (.ifCond .eq 7), 3, 45, 0, []),
  (false, 41, (.iconst (-1)), 1, 0, 0, []),
  (false, 42, (.goto 5), 3, 47, 0, []),
  (false, 45, (.iload 5), 2, 0, 0, []),
  (false, 47, .ireturn, 1, 0, 0, [])]
def kX12_over : List ab_E := [
  (false, 0, (.iload_n 1), 1, 0, 0, []),
  (false, 1, (.invokestatic 164), 3, 134, 1, []),
  (false, 4, (.ifCond .eq 60), 3, 64, 0, []),
  (false, 7, (.iload_n 2), 1, 0, 0, []),
  (false, 8, (.invokestatic 164), 3, 134, 1, []),
  (false, 11, (.ifCond .eq 53), 3, 64, 0, []),
  (false, 14, (.iload_n 3), 1, 0, 0, []),
  (false, 15, (.invokestatic 180), 3, 135, 1, []),
  (false, 18, (.ifCond .eq 46), 3, 64, 0, []),
  (false, 21, (.iload 4), 2, 0, 0, []),
  (false, 23, (.iconst 0), 1, 0, 0, []),
  (false, 24, (.bipush 11), 2, 0, 0, []),
  (false, 26, (.invokestatic 86), 3, 133, 3, []),
  (false, 29, (.ifCond .eq 35), 3, 64, 0, []),
  (false, 32, (.iload 4), 2, 0, 0, []),
  (false, 34, (.iconst 5), 1, 0, 0, []),
  (false, 35, (.if_icmp .ne 14), 3, 49, 0, []),
  (false, 38, (.iload 5), 2, 0, 0, []),
  (false, 40, (.iconst 0), 1, 0, 0, []),
  (false, 41, (.bipush 9), 2, 0, 0, []),
  (false, 43, (.invokestatic 86), 3, 133, 3, []),
  (false, 46, (.ifCond .eq 18), 3, 64, 0, []),
  (false, 49, (.iload 4), 2, 0, 0, []),
  (false, 51, (.bipush 7), 2, 0, 0, []),
  (false, 53, (.if_icmp .ne 14), 3, 67, 0, []),
  (false, 56, (.iload 5), 2, 0, 0, []),
  (false, 58, (.invokestatic 164), 3, 134, 1, []),
  (false, 61, (.ifCond .ne 6), 3, 67, 0, []),
  (false, 64, (.bipush (-2)), 2, 0, 0, []),
  (false, 66, .ireturn, 1, 0, 0, []),
  (false, 67, (.aload_n 0), 1, 0, 0, []),
  (false, 68, (.getfield 90), 3, 12, 8, [(0, 0)]),
  (false, 71, (.istore 6), 2, 0, 0, []),
  (false, 73, (.aload_n 0), 1, 0, 0, []),
  (false, 74, (.aload_n 0), 1, 0, 0, []),
  (false, 75, (.getfield 32), 3, 12, 10, [(2, 0)]),
  (false, 78, (.iload_n 2), 1, 0, 0, []),
  (false, 79, .iaload, 1, 0, 0, []),
  (false, 80, (.iload_n 3), 1, 0, 0, []),
  (false, 81, (.iload 4), 2, 0, 0, []),
  (false, 83, (.iload 5), 2, 0, 0, []),
  (false, 85, (.invokevirtual 238), 3, 173, 5, [(12, 0)]),
  (false, 88, (.istore 7), 2, 0, 0, []),
  (false, 90, (.iload 7), 2, 0, 0, []),
  (false, 92, (.iconst (-1)), 1, 0, 0, []),
  (false, 93, (.if_icmp .eq 12), 3, 105, 0, []),
  (false, 96, (.aload_n 0), 1, 0, 0, []),
  (false, 97, (.iload 7), 2, 0, 0, []),
  (false, 99, (.invokevirtual 242), 3, 139, 2, [(12, 0)]),
  (false, 102, (.ifCond .eq 23), 3, 125, 0, []),
  (false, 105, (.aload_n 0), 1, 0, 0, []),
  (false, 106, (.iload 6), 2, 0, 0, []),
  (false, 108, (.putfield 90), 3, 12, 8, [(0, 0)]),
  (false, 111, (.iload 7), 2, 0, 0, []),
  (false, 113, (.iconst (-1)), 1, 0, 0, []),
  (false, 114, (.if_icmp .ne 8), 3, 122, 0, []),
  (false, 117, (.bipush (-17)), 2, 0, 0, []),
  (false, 119, (.goto 5), 3, 124, 0, []),
  (false, 122, (.bipush (-4)), 2, 0, 0, []),
  (false, 124, .ireturn, 1, 0, 0, []),
  (false, 125, (.aload_n 0), 1, 0, 0, []),
  (false, 126, (.iload_n 1), 1, 0, 0, []),
  (false, 127, (.iload 7), 2, 0, 0, []),
  (false, 129, (.invokevirtual 170), 3, 141, 3, [(12, 0)]),
  (false, 132, (.aload_n 0), 1, 0, 0, []),
  (false, 133, (.getfield 217), 3, 12, 35, [(0, 0)]),
  (false, 136, .ireturn, 1, 0, 0, [])]
def kX12_put : List ab_E := [
  (false, 0, (.iload_n 1), 1, 0, 0, []),
  (false, 1, (.invokestatic 164), 3, 134, 1, []),
  (false, 4, (.ifCond .eq 43), 3, 47, 0, []),
  (false, 7, (.iload_n 2), 1, 0, 0, []),
  (false, 8, (.iconst 0), 1, 0, 0, []),
  (false, 9, (.iconst 2), 1, 0, 0, []),
  (false, 10, (.invokestatic 86), 3, 133, 3, []),
  (false, 13, (.ifCond .eq 34), 3, 47, 0, []),
  (false, 16, (.iload_n 3), 1, 0, 0, []),
  (false, 17, (.invokestatic 164), 3, 134, 1, []),
  (false, 20, (.ifCond .eq 27), 3, 47, 0, []),
  (false, 23, (.iload 4), 2, 0, 0, []),
  (false, 25, (.invokestatic 164), 3, 134, 1, []),
  (false, 28, (.ifCond .eq 19), 3, 47, 0, []),
  (false, 31, (.iload_n 2), 1, 0, 0, []),
  (false, 32, (.iconst 2), 1, 0, 0, []),
  (false, 33, (.if_icmp .ne 17), 3, 50, 0, []),
  (false, 36, (.iload 5), 2, 0, 0, []),
  (false, 38, (.iconst 0), 1, 0, 0, []),
  (false, 39, (.bipush 25), 2, 0, 0, []),
  (false, 41, (.invokestatic 86), 3, 133, 3, []),
  (false, 44, (.ifCond .ne 6), 3, 50, 0, []),
  (false, 47, (.bipush (-2)), 2, 0, 0, []),
  (false, 49, .ireturn, 1, 0, 0, []),
  (false, 50, (.aload_n 0), 1, 0, 0, []),
  (false, 51, (.getfield 32), 3, 12, 10, [(2, 0)]),
  (false, 54, (.iload_n 3), 1, 0, 0, []),
  (false, 55, .iaload, 1, 0, 0, []),
  (false, 56, (.istore 6), 2, 0, 0, []),
  (false, 58, (.iload_n 2), 1, 0, 0, []),
  (false, 59, (.iconst 2), 1, 0, 0, []),
  (false, 60, (.if_icmp .ne 17), 3, 77, 0, []),
  (false, 63, (.aload_n 0), 1, 0, 0, []),
  (false, 64, (.getfield 9), 3, 12, 1, [(2, 0)]),
  (false, 67, (.iload 6), 2, 0, 0, []),
  (false, 69, .iaload, 1, 0, 0, []),
  (false, 70, (.iconst 3), 1, 0, 0, []),
  (false, 71, (.if_icmp .eq 6), 3, 77, 0, []),
  (false, 74, (.bipush (-3)), 2, 0, 0, []),
  (false, 76, .ireturn, 1, 0, 0, []),
  (false, 77, (.iload_n 2), 1, 0, 0, []),
  (false, 78, (.iconst 2), 1, 0, 0, []),
  (false, 79, (.if_icmp .ne 31), 3, 110, 0, []),
  (false, 82, (.aload_n 0), 1, 0, 0, []),
  (false, 83, (.getfield 16), 3, 12, 3, [(2, 0)]),
  (false, 86, (.iload 6), 2, 0, 0, []),
  (false, 88, .iaload, 1, 0, 0, []),
  (false, 89, (.bipush 12), 2, 0, 0, []),
  (false, 91, (.if_icmp .ne 19), 3, 110, 0, []),
  (false, 94, (.aload_n 0), 1, 0, 0, []),
  (false, 95, (.iload 6), 2, 0, 0, []),
  (false, 97, (.iload 5), 2, 0, 0, []),
  (false, 99, (.iconst 1), 1, 0, 0, []),
  (false, 100, .iadd, 1, 0, 0, []),
  (false, 101, (.invokevirtual 138), 3, 153, 3, [(12, 0)]),
  (false, 104, (.ifCond .ne 6), 3, 110, 0, []),
  (false, 107, (.bipush (-4)), 2, 0, 0, []),
  (false, 109, .ireturn, 1, 0, 0, []),
  (false, 110, (.aload_n 0), 1, 0, 0, []),
  (false, 111, (.getfield 90), 3, 12, 8, [(0, 0)]),
  (false, 114, (.istore 7), 2, 0, 0, []),
  (false, 116, (.iload_n 2), 1, 0, 0, []),
  (false, 117, (.iconst 2), 1, 0, 0, []),
  (false, 118, (.if_icmp .ne 12), 3, 130, 0, []),
  (false, 121, (.aload_n 0), 1, 0, 0, []),
  (false, 122, (.iload 6), 2, 0, 0, []),
  (false, 124, (.invokevirtual 211), 3, 168, 2, [(12, 0)]),
  (false, 127, (.goto 18), 3, 145, 0, []),
  (false, 130, (.aload_n 0), 1, 0, 0, []),
  (false, 131, (.iload_n 2), 1, 0, 0, []),
  (false, 132, (.ifCond .ne 7), 3, 139, 0, []),
  (false, 135, (.iconst 1), 1, 0, 0, []),
  (false, 136, (.goto 4), 3, 140, 0, []),
  (false, 139, (.iconst 2), 1, 0, 0, []),
  (false, 140, (.iconst 0), 1, 0, 0, []),
  (false, 141, (.iconst 0), 1, 0, 0, []),
  (false, 142, (.invokevirtual 93), 3, 136, 4, [(12, 0)]),
  (false, 145, (.istore 8), 2, 0, 0, []),
  (false, 147, (.iload_n 2), 1, 0, 0, []),
  (false, 148, (.iconst 2), 1, 0, 0, []),
  (false, 149, (.if_icmp .ne 23), 3, 172, 0, []),
  (false, 152, (.aload_n 0), 1, 0, 0, []),
  (false, 153, (.iload 8), 2, 0, 0, []),
  (false, 155, (.iload 5), 2, 0, 0, []),
  (false, 157, (.iconst 1), 1, 0, 0, []),
  (false, 158, .iadd, 1, 0, 0, []),
  (false, 159, (.aload_n 0), 1, 0, 0, []),
  (false, 160, (.getfield 32), 3, 12, 10, [(2, 0)]),
  (false, 163, (.iload 4), 2, 0, 0, []),
  (false, 165, .iaload, 1, 0, 0, []),
  (false, 166, (.invokevirtual 145), 3, 152, 4, [(12, 0)]),
  (false, 169, (.goto 26), 3, 195, 0, []),
  (false, 172, (.aload_n 0), 1, 0, 0, []),
  (false, 173, (.iload 8), 2, 0, 0, []),
  (false, 175, (.iconst 0), 1, 0, 0, []),
  (false, 176, (.iload 6), 2, 0, 0, []),
  (false, 178, (.invokevirtual 152), 3, 151, 4, [(12, 0)]),
  (false, 181, (.aload_n 0), 1, 0, 0, []),
  (false, 182, (.iload 8), 2, 0, 0, []),
  (false, 184, (.iconst 0), 1, 0, 0, []),
  (false, 185, (.aload_n 0), 1, 0, 0, []),
  (false, 186, (.getfield 32), 3, 12, 10, [(2, 0)]),
  (false, 189, (.iload 4), 2, 0, 0, []),
  (false, 191, .iaload, 1, 0, 0, []),
  (false, 192, (.invokevirtual 152), 3, 151, 4, [(12, 0)]),
  (false, 195, (.aload_n 0), 1, 0, 0, []),
  (false, 196, (.iload 8), 2, 0, 0, []),
  (false, 198, (.invokevirtual 97), 3, 137, 2, [(12, 0)]),
  (false, 201, .pop, 1, 0, 0, []),
  (false, 202, (.aload_n 0), 1, 0, 0, []),
  (false, 203, (.iload 8), 2, 0, 0, []),
  (false, 205, (.invokevirtual 242), 3, 139, 2, [(12, 0)]),
  (false, 208, (.ifCond .ne 13), 3, 221, 0, []),
  (false, 211, (.aload_n 0), 1, 0, 0, []),
  (false, 212, (.getfield 167), 3, 12, 9, [(0, 0)]),
  (false, 215, (.sipush 3000), 3, 0, 0, []),
  (false, 218, (.if_icmp .ne 26), 3, 244, 0, []),
  (false, 221, (.aload_n 0), 1, 0, 0, []),
  (false, 222, (.iload 7), 2, 0, 0, []),
  (false, 224, (.putfield 90), 3, 12, 8, [(0, 0)]),
  (false, 227, (.aload_n 0), 1, 0, 0, []),
  (false, 228, (.iload 8), 2, 0, 0, []),
  (false, 230, (.invokevirtual 242), 3, 139, 2, [(12, 0)]),
  (false, 233, (.ifCond .eq 8), 3, 241, 0, []),
  (false, 236, (.bipush (-4)), 2, 0, 0, []),
  (false, 238, (.goto 5), 3, 243, 0, []),
  (false, 241, (.bipush (-17)), 2, 0, 0, []),
  (false, 243, .ireturn, 1, 0, 0, []),
  (false, 244, (.aload_n 0), 1, 0, 0, []),
  (false, 245, .dup, 1, 0, 0, []),
  (false, 246, (.getfield 167), 3, 12, 9, [(0, 0)]),
  (false, 249, (.iconst 1), 1, 0, 0, []),
  (false, 250, .iadd, 1, 0, 0, []),
  (false, 251, (.putfield 167), 3, 12, 9, [(0, 0)]),
  (false, 254, (.aload_n 0), 1, 0, 0, []),
  (false, 255, (.iload_n 1), 1, 0, 0, []),
  (false, 256, (.iload 8), 2, 0, 0, []),
  (false, 258, (.invokevirtual 170), 3, 141, 3, [(12, 0)]),
  (false, 261, (.aload_n 0), 1, 0, 0, []),
  (false, 262, (.getfield 19), 3, 12, 4, [(2, 0)]),
  (false, 265, (.iload 8), 2, 0, 0, []),
  (false, 267, .iaload, 1, 0, 0, []),
  (false, 268, .ireturn, 1, 0, 0, [])]
def kX12_take : List ab_E := [
  (false, 0, (.iload_n 1), 1, 0, 0, []),
  (false, 1, (.invokestatic 164), 3, 134, 1, []),
  (false, 4, (.ifCond .eq 17), 3, 21, 0, []),
  (false, 7, (.iload_n 2), 1, 0, 0, []),
  (false, 8, (.invokestatic 164), 3, 134, 1, []),
  (false, 11, (.ifCond .eq 10), 3, 21, 0, []),
  (false, 14, (.iload_n 3), 1, 0, 0, []),
  (false, 15, (.invokestatic 180), 3, 135, 1, []),
  (false, 18, (.ifCond .ne 6), 3, 24, 0, []),
  (false, 21, (.bipush (-2)), 2, 0, 0, []),
  (false, 23, .ireturn, 1, 0, 0, []),
  (false, 24, (.aload_n 0), 1, 0, 0, []),
  (false, 25, (.aload_n 0), 1, 0, 0, []),
  (false, 26, (.getfield 32), 3, 12, 10, [(2, 0)]),
  (false, 29, (.iload_n 2), 1, 0, 0, []),
  (false, 30, .iaload, 1, 0, 0, []),
  (false, 31, (.iload_n 3), 1, 0, 0, []),
  (false, 32, (.invokevirtual 245), 3, 165, 3, [(12, 0)]),
  (false, 35, (.iload 4), 2, 0, 0, []),
  (false, 37, (.iconst 0), 1, 0, 0, []),
  (false, 38, (.aload_n 0), 1, 0, 0, []),
  (false, 39, (.getfield 189), 3, 12, 31, [(0, 0)]),
  (false, 42, (.iconst 1), 1, 0, 0, []),
  (false, 43, .isub, 1, 0, 0, []),
  (false, 44, (.invokestatic 86), 3, 133, 3, []),
  (false, 47, (.ifCond .ne 5), 3, 52, 0, []),
  (false, 50, (.iconst (-1)), 1, 0, 0, []),
  (false, 51, .ireturn, 1, 0, 0, []),
  (false, 52, (.aload_n 0), 1, 0, 0, []),
  (false, 53, (.iload_n 1), 1, 0, 0, []),
  (false, 54, (.aload_n 0), 1, 0, 0, []),
  (false, 55, (.getfield 71), 3, 12, 30, [(2, 0)]),
  (false, 58, (.iload 4), 2, 0, 0, []),
  (false, 60, .iaload, 1, 0, 0, []),
  (false, 61, (.invokevirtual 170), 3, 141, 3, [(12, 0)]),
  (false, 64, (.aload_n 0), 1, 0, 0, []),
  (false, 65, (.getfield 19), 3, 12, 4, [(2, 0)]),
  (false, 68, (.aload_n 0), 1, 0, 0, []),
  (false, 69, (.getfield 32), 3, 12, 10, [(2, 0)]),
  (false, 72, (.iload_n 1), 1, 0, 0, []),
  (false, 73, .iaload, 1, 0, 0, []),
  (false, 74, .iaload, 1, 0, 0, []),
  (false, 75, .ireturn, 1, 0, 0, [])]
def kX12_undo : List ab_E := [
  (false, 0, (.iload_n 1), 1, 0, 0, []),
  (false, 1, (.invokestatic 164), 3, 134, 1, []),
  (false, 4, (.ifCond .ne 6), 3, 10, 0, []),
  (false, 7, (.bipush (-2)), 2, 0, 0, []),
  (false, 9, .ireturn, 1, 0, 0, []),
  (false, 10, (.aload_n 0), 1, 0, 0, []),
  (false, 11, (.getfield 38), 3, 12, 12, [(2, 0)]),
  (false, 14, (.iload_n 1), 1, 0, 0, []),
  (false, 15, .iaload, 1, 0, 0, []),
  (false, 16, (.ifCond .ne 6), 3, 22, 0, []),
  (false, 19, (.bipush (-3)), 2, 0, 0, []),
  (false, 21, .ireturn, 1, 0, 0, []),
  (false, 22, (.aload_n 0), 1, 0, 0, []),
  (false, 23, (.getfield 38), 3, 12, 12, [(2, 0)]),
  (false, 26, (.iload_n 1), 1, 0, 0, []),
  (false, 27, .dup2, 1, 0, 0, []),
  (false, 28, .iaload, 1, 0, 0, []),
  (false, 29, (.iconst 1), 1, 0, 0, []),
  (false, 30, .isub, 1, 0, 0, []),
  (false, 31, .iastore, 1, 0, 0, []),
  (false, 32, (.aload_n 0), 1, 0, 0, []),
  (false, 33, (.getfield 32), 3, 12, 10, [(2, 0)]),
  (false, 36, (.iload_n 1), 1, 0, 0, []),
  (false, 37, (.aload_n 0), 1, 0, 0, []),
  (false, 38, (.getfield 35), 3, 12, 11, [(2, 0)]),
  (false, 41, (.bipush 10), 2, 0, 0, []),
  (false, 43, (.iload_n 1), 1, 0, 0, []),
  (false, 44, .imul, 1, 0, 0, []),
  (false, 45, (.aload_n 0), 1, 0, 0, []),
  (false, 46, (.getfield 38), 3, 12, 12, [(2, 0)]),
  (false, 49, (.iload_n 1), 1, 0, 0, []),
  (false, 50, .iaload, 1, 0, 0, []),
  (false, 51, .iadd, 1, 0, 0, []),
  (false, 52, .iaload, 1, 0, 0, []),
  (false, 53, .iastore, 1, 0, 0, []),
  (false, 54, (.aload_n 0), 1, 0, 0, []),
  (false, 55, (.getfield 38), 3, 12, 12, [(2, 0)]),
  (false, 58, (.iload_n 1), 1, 0, 0, []),
  (false, 59, .iaload, 1, 0, 0, []),
  (false, 60, .ireturn, 1, 0, 0, [])]
def kX12_focusOf : List ab_E := [
  (false, 0, (.iload_n 1), 1, 0, 0, []),
  (false, 1, (.invokestatic 164), 3, 134, 1, []),
  (false, 4, (.ifCond .eq 10), 3, 14, 0, []),
  (false, 7, (.iload_n 2), 1, 0, 0, []),
  (false, 8, (.invokestatic 180), 3, 135, 1, []),
  (false, 11, (.ifCond .ne 5), 3, 16, 0, []),
  (false, 14, (.iconst (-1)), 1, 0, 0, []),
  (false, 15, .ireturn, 1, 0, 0, []),
  (false, 16, (.aload_n 0), 1, 0, 0, []),
  (false, 17, (.aload_n 0), 1, 0, 0, []),
  (false, 18, (.getfield 32), 3, 12, 10, [(2, 0)]),
  (false, 21, (.iload_n 1), 1, 0, 0, []),
  (false, 22, .iaload, 1, 0, 0, []),
  (false, 23, (.iload_n 2), 1, 0, 0, []),
  (false, 24, (.invokevirtual 245), 3, 165, 3, [(12, 0)]),
  (false, 27, (.iload_n 3), 1, 0, 0, []),
  (false, 28, (.iconst 0), 1, 0, 0, []),
  (false, 29, (.aload_n 0), 1, 0, 0, []),
  (false, 30, (.getfield 189), 3, 12, 31, [(0, 0)]),
  (false, 33, (.iconst 1), 1, 0, 0, []),
  (false, 34, .isub, 1, 0, 0, []),
  (false, 35, (.invokestatic 86), 3, 133, 3, []),
  (false, 38, (.ifCond .eq 12), 3, 50, 0, []),
  (false, 41, (.aload_n 0), 1, 0, 0, []),
  (false, 42, (.getfield 71), 3, 12, 30, [(2, 0)]),
  (false, 45, (.iload_n 3), 1, 0, 0, []),
  (false, 46, .iaload, 1, 0, 0, []),
  (false, 47, (.goto 4), 3, 51, 0, []),
  (false, 50, (.iconst (-1)), 1, 0, 0, []),
  (false, 51, .ireturn, 1, 0, 0, [])]
def kX12_look : List ab_E := [
  (false, 0, (.aload_n 0), 1, 0, 0, []),
  (false, 1, (.iload_n 1), 1, 0, 0, []),
  (false, 2, (.iload_n 2), 1, 0, 0, []),
  (false, 3, (.iload_n 3), 1, 0, 0, []),
  (false, 4, (.invokevirtual 248), 3, 178, 4, [(12, 0)]),
  (false, 7, (.istore 5), 2, 0, 0, []),
  (false, 9, (.iload 5), 2, 0, 0, []),
  (false, 11, (.iconst (-1)), 1, 0, 0, []),
  (false, 12, (.if_icmp .eq 13), 3, 25, 0, []),
  (false, 15, (.iload 4), 2, 0, 0, []),
  (false, 17, (.iconst 0), 1, 0, 0, []),
  (false, 18, (.iconst 3), 1, 0, 0, []),
  (false, 19, (.invokestatic 86), 3, 133, 3, []),
  (false, 22, (.ifCond .ne 7), 3, 29, 0, []),
  (false, 25, (.ldc2_w 251), 3, 0, 0, [((-9223372036854775808), 0)]),
  (false, 28, .lreturn, 1, 0, 0, []),
  (false, 29, (.aload_n 0), 1, 0, 0, []),
  (false, 30, (.getfield 9), 3, 12, 1, [(2, 0)]),
  (false, 33, (.iload 5), 2, 0, 0, []),
  (false, 35, .iaload, 1, 0, 0, []),
  (false, 36, (.ifCond .eq 14), 3, 50, 0, []),
  (false, 39, (.aload_n 0), 1, 0, 0, []),
  (false, 40, (.getfield 9), 3, 12, 1, [(2, 0)]),
  (false, 43, (.iload 5), 2, 0, 0, []),
  (false, 45, .iaload, 1, 0, 0, []),
  (false, 46, (.iconst 4), 1, 0, 0, []),
  (false, 47, (.if_icmp .ne 13), 3, 60, 0, []),
  (false, 50, (.aload_n 0), 1, 0, 0, []),
  (false, 51, (.getfield 13), 3, 12, 2, [(2, 0)]),
  (false, 54, (.iload 5), 2, 0, 0, []),
  (false, 56, .iaload, 1, 0, 0, []),
  (false, 57, (.goto 10), 3, 67, 0, []),
  (false, 60, (.aload_n 0), 1, 0, 0, []),
  (false, 61, (.getfield 16), 3, 12, 3, [(2, 0)]),
  (false, 64, (.iload 5), 2, 0, 0, []),
  (false, 66, .iaload, 1, 0, 0, []),
  (false, 67, (.istore 6), 2, 0, 0, []),
  (false, 69, (.iload 4), 2, 0, 0, []),
  (false, 71, (.ifCond .ne 14), 3, 85, 0, []),
  (false, 74, (.aload_n 0), 1, 0, 0, []),
  (false, 75, (.getfield 9), 3, 12, 1, [(2, 0)]),
  (false, 78, (.iload 5), 2, 0, 0, []),
  (false, 80, .iaload, 1, 0, 0, []),
  (false, 81, .i2l, 1, 0, 0, []),
  (false, 82, (.goto 40), 3, 122, 0, []),
  (false, 85, (.iload 4), 2, 0, 0, []),
  (false, 87, (.iconst 1), 1, 0, 0, []),
  (false, 88, (.if_icmp .ne 9), 3, 97, 0, []),
  (false, 91, (.iload 6), 2, 0, 0, []),
  (false, 93, .i2l, 1, 0, 0, []),
  (false, 94, (.goto 28), 3, 122, 0, []),
  (false, 97, (.iload 4), 2, 0, 0, []),
  (false, 99, (.iconst 2), 1, 0, 0, []),
  (false, 100, (.if_icmp .ne 14), 3, 114, 0, []),
  (false, 103, (.aload_n 0), 1, 0, 0, []),
  (false, 104, (.getfield 19), 3, 12, 4, [(2, 0)]),
  (false, 107, (.iload 5), 2, 0, 0, []),
  (false, 109, .iaload, 1, 0, 0, []),
  (false, 110, .i2l, 1, 0, 0, []),
  (false, 111, (.goto 11), 3, 122, 0, []),
  (false, 114, (.aload_n 0), 1, 0, 0, []),
  (false, 115, (.getfield 22), 3, 12, 5, [(2, 0)]),
  (false, 118, (.iload 5), 2, 0, 0, []),
  (false, 120, .iaload, 1, 0, 0, []),
  (false, 121, .i2l, 1, 0, 0, []),
  (false, 122, .lreturn, 1, 0, 0, [])]
def kX12_key : List ab_E := [
  (false, 0, (.aload_n 0), 1, 0, 0, []),
  (false, 1, (.iload_n 1), 1, 0, 0, []),
  (false, 2, (.iload_n 2), 1, 0, 0, []),
  (false, 3, (.iload_n 3), 1, 0, 0, []),
  (false, 4, (.invokevirtual 248), 3, 178, 4, [(12, 0)]),
  (false, 7, (.istore 5), 2, 0, 0, []),
  (false, 9, (.iload 5), 2, 0, 0, []),
  (false, 11, (.iconst (-1)), 1, 0, 0, []),
  (false, 12, (.if_icmp .eq 48), 3, 60, 0, []),
  (false, 15, (.aload_n 0), 1, 0, 0, []),
  (false, 16, (.getfield 9), 3, 12, 1, [(2, 0)]),
  (false, 19, (.iload 5), 2, 0, 0, []),
  (false, 21, .iaload, 1, 0, 0, []),
  (false, 22, (.iconst 3), 1, 0, 0, []),
  (false, 23, (.if_icmp .ne 37), 3, 60, 0, []),
  (false, 26, (.iload 4), 2, 0, 0, []),
  (false, 28, (.iconst 0), 1, 0, 0, []),
  (false, 29, (.aload_n 0), 1, 0, 0, []),
  (false, 30, (.getfield 16), 3, 12, 3, [(2, 0)]),
  (false, 33, (.iload 5), 2, 0, 0, []),
  (false, 35, .iaload, 1, 0, 0, []),
  (false, 36, (.iconst 1), 1, 0, 0, []),
  (false, 37, .isub, 1, 0, 0, []),
  (false, 38, (.invokestatic 86), 3, 133, 3, []),
  (false, 41, (.ifCond .eq 19), 3, 60, 0, []),
  (false, 44, (.aload_n 0), 1, 0, 0, []),
  (false, 45, (.getfield 29), 3, 12, 7, [(2, 0)]),
  (false, 48, (.bipush 12), 2, 0, 0, []),
  (false, 50, (.iload 5), 2, 0, 0, []),
  (false, 52, .imul, 1, 0, 0, []),
  (false, 53, (.iload 4), 2, 0, 0, []),
  (false, 55, .iadd, 1, 0, 0, []),
  (false, 56, .iaload, 1, 0, 0, []),
  (false, 57, (.goto 4), 3, 61, 0, []),
  (false, 60, (.iconst (-1)), 1, 0, 0, []),
  (false, 61, .ireturn, 1, 0, 0, [])]
def kX12_sumOf : List ab_E := [
  (false, 0, (.aload_n 0), 1, 0, 0, []),
  (false, 1, (.getfield 9), 3, 12, 1, [(2, 0)]),
  (false, 4, (.iload_n 1), 1, 0, 0, []),
  (false, 5, .iaload, 1, 0, 0, []),
  (false, 6, (.ifCond .ne 13), 3, 19, 0, []),
  (false, 9, (.aload_n 0), 1, 0, 0, []),
  (false, 10, (.getfield 13), 3, 12, 2, [(2, 0)]),
  (false, 13, (.iload_n 1), 1, 0, 0, []),
  (false, 14, .iaload, 1, 0, 0, []),
  (false, 15, .i2l, 1, 0, 0, []),
  (false, 16, (.goto 4), 3, 20, 0, []),
  (false, 19, (.lconst 0), 1, 0, 0, []),
  (false, 20, (.lstore_n 2), 1, 0, 0, []),
  (false, 21, (.iconst 0), 1, 0, 0, []),
  (false, 22, (.istore 4), 2, 0, 0, []),
  (true, 24, (.iload 4), 2, 0, 0, []),
  (false, 26, (.aload_n 0), 1, 0, 0, []),
  (false, 27, (.getfield 16), 3, 12, 3, [(2, 0)]),
  (false, 30, (.iload_n 1), 1, 0, 0, []),
  (false, 31, .iaload, 1, 0, 0, []),
  (false, 32, (.if_icmp .ge 28), 3, 60, 0, []),
  (false, 35, (.lload_n 2), 1, 0, 0, []),
  (false, 36, (.aload_n 0), 1, 0, 0, []),
  (false, 37, (.aload_n 0), 1, 0, 0, []),
  (false, 38, (.getfield 26), 3, 12, 6, [(2, 0)]),
  (false, 41, (.bipush 12), 2, 0, 0, []),
  (false, 43, (.iload_n 1), 1, 0, 0, []),
  (false, 44, .imul, 1, 0, 0, []),
  (false, 45, (.iload 4), 2, 0, 0, []),
  (false, 47, .iadd, 1, 0, 0, []),
  (false, 48, .iaload, 1, 0, 0, []),
  (false, 49, (.invokevirtual 253), 3, 181, 2, [(12, 0)]),
  (false, 52, .ladd, 1, 0, 0, []),
  (false, 53, (.lstore_n 2), 1, 0, 0, []),
  (false, 54, (.iinc 4 1), 3, 0, 0, []),
  (false, 57, (.goto (-33)), 3, 24, 0, []),
  (false, 60, (.lload_n 2), 1, 0, 0, []),
  (false, 61, .lreturn, 1, 0, 0, [])]
def kX12_isNew : List ab_E := [
  (false, 0, (.iconst 1), 1, 0, 0, []),
  (false, 1, (.istore_n 2), 1, 0, 0, []),
  (false, 2, (.iconst 0), 1, 0, 0, []),
  (false, 3, (.istore_n 3), 1, 0, 0, []),
  (true, 4, (.iload_n 3), 1, 0, 0, []),
  (false, 5, (.iload_n 1), 1, 0, 0, []),
  (false, 6, (.if_icmp .ge 38), 3, 44, 0, []),
  (false, 9, (.iload_n 2), 1, 0, 0, []),
  (false, 10, (.ifCond .eq 26), 3, 36, 0, []),
  (false, 13, (.aload_n 0), 1, 0, 0, []),
  (false, 14, (.aload_n 0), 1, 0, 0, []),
  (false, 15, (.getfield 71), 3, 12, 30, [(2, 0)]),
  (false, 18, (.iload_n 3), 1, 0, 0, []),
  (false, 19, .iaload, 1, 0, 0, []),
  (false, 20, (.aload_n 0), 1, 0, 0, []),
  (false, 21, (.getfield 71), 3, 12, 30, [(2, 0)]),
  (false, 24, (.iload_n 1), 1, 0, 0, []),
  (false, 25, .iaload, 1, 0, 0, []),
  (false, 26, (.invokevirtual 100), 3, 140, 3, [(12, 0)]),
  (false, 29, (.ifCond .eq 7), 3, 36, 0, []),
  (false, 32, (.iconst 1), 1, 0, 0, []),
  (false, 33, (.goto 4), 3, 37, 0, []),
  (false, 36, (.iconst 0), 1, 0, 0, []),
  (false, 37, (.istore_n 2), 1, 0, 0, []),
  (false, 38, (.iinc 3 1), 3, 0, 0, []),
  (false, 41, (.goto (-37)), 3, 4, 0, []),
  (false, 44, (.iload_n 2), 1, 0, 0, []),
  (false, 45, .ireturn, 1, 1, 0, [])]
def kX12_fold : List ab_E := [
  (false, 0, (.iload_n 1), 1, 0, 0, []),
  (false, 1, (.invokestatic 164), 3, 134, 1, []),
  (false, 4, (.ifCond .eq 20), 3, 24, 0, []),
  (false, 7, (.iload_n 2), 1, 0, 0, []),
  (false, 8, (.invokestatic 180), 3, 135, 1, []),
  (false, 11, (.ifCond .eq 13), 3, 24, 0, []),
  (false, 14, (.iload_n 3), 1, 0, 0, []),
  (false, 15, (.iconst 0), 1, 0, 0, []),
  (false, 16, (.bipush 6), 2, 0, 0, []),
  (false, 18, (.invokestatic 86), 3, 133, 3, []),
  (false, 21, (.ifCond .ne 7), 3, 28, 0, []),
  (false, 24, (.ldc2_w 251), 3, 0, 0, [((-9223372036854775808), 0)]),
  (false, 27, .lreturn, 1, 0, 0, []),
  (false, 28, (.aload_n 0), 1, 0, 0, []),
  (false, 29, (.aload_n 0), 1, 0, 0, []),
  (false, 30, (.getfield 32), 3, 12, 10, [(2, 0)]),
  (false, 33, (.iload_n 1), 1, 0, 0, []),
  (false, 34, .iaload, 1, 0, 0, []),
  (false, 35, (.iload_n 2), 1, 0, 0, []),
  (false, 36, (.invokevirtual 245), 3, 165, 3, [(12, 0)]),
  (false, 39, (.aload_n 0), 1, 0, 0, []),
  (false, 40, (.getfield 189), 3, 12, 31, [(0, 0)]),
  (false, 43, (.ifCond .ne 22), 3, 65, 0, []),
  (false, 46, (.iload_n 3), 1, 0, 0, []),
  (false, 47, (.iconst 2), 1, 0, 0, []),
  (false, 48, (.if_icmp .eq 13), 3, 61, 0, []),
  (false, 51, (.iload_n 3), 1, 0, 0, []),
  (false, 52, (.iconst 3), 1, 0, 0, []),
  (false, 53, (.if_icmp .eq 8), 3, 61, 0, []),
  (false, 56, (.iload_n 3), 1, 0, 0, []),
  (false, 57, (.iconst 5), 1, 0, 0, []),
  (false, 58, (.if_icmp .ne 7), 3, 65, 0, []),
  (false, 61, (.ldc2_w 251), 3, 0, 0, [((-9223372036854775808), 0)]),
  (false, 64, .lreturn, 1, 0, 0, []),
  (false, 65, (.lconst 0), 1, 0, 0, []),
  (false, 66, (.lstore 4), 2, 0, 0, []),
  (false, 68, (.iconst 0), 1, 0, 0, []),
  (false, 69, (.istore 6), 2, 0, 0, []),
  (false, 71, (.iconst 0), 1, 0, 0, []),
  (false, 72, (.istore 7), 2, 0, 0, []),
  (false, 74, (.iconst 0), 1, 0, 0, []),
  (false, 75, (.istore 8), 2, 0, 0, []),
  (true, 77, (.iload 8), 2, 0, 0, []),
  (false, 79, (.aload_n 0), 1, 0, 0, []),
  (false, 80, (.getfield 189), 3, 12, 31, [(0, 0)]),
  (false, 83, (.if_icmp .ge 151), 3, 234, 0, []),
  (false, 86, (.aload_n 0), 1, 0, 0, []),
  (false, 87, (.getfield 71), 3, 12, 30, [(2, 0)]),
  (false, 90, (.iload 8), 2, 0, 0, []),
  (false, 92, .iaload, 1, 0, 0, []),
  (false, 93, (.istore 9), 2, 0, 0, []),
  (false, 95, (.aload_n 0), 1, 0, 0, []),
  (false, 96, (.iload 9), 2, 0, 0, []),
  (false, 98, (.aload_n 0), 1, 0, 0, []),
  (false, 99, (.getfield 71), 3, 12, 30, [(2, 0)]),
  (false, 102, (.iload 6), 2, 0, 0, []),
  (false, 104, .iaload, 1, 0, 0, []),
  (false, 105, (.invokevirtual 100), 3, 140, 3, [(12, 0)]),
  (false, 108, (.istore 10), 2, 0, 0, []),
  (false, 110, (.iload_n 3), 1, 0, 0, []),
  (false, 111, (.iconst 2), 1, 0, 0, []),
  (false, 112, (.if_icmp .ne 8), 3, 120, 0, []),
  (false, 115, (.iload 10), 2, 0, 0, []),
  (false, 117, (.ifCond .gt 13), 3, 130, 0, []),
  (false, 120, (.iload_n 3), 1, 0, 0, []),
  (false, 121, (.iconst 3), 1, 0, 0, []),
  (false, 122, (.if_icmp .ne 13), 3, 135, 0, []),
  (false, 125, (.iload 10), 2, 0, 0, []),
  (false, 127, (.ifCond .ge 8), 3, 135, 0, []),
  (false, 130, (.iload 8), 2, 0, 0, []),
  (false, 132, (.goto 5), 3, 137, 0, []),
  (false, 135, (.iload 6), 2, 0, 0, []),
  (false, 137, (.istore 6), 2, 0, 0, []),
  (false, 139, (.aload_n 0), 1, 0, 0, []),
  (false, 140, (.getfield 22), 3, 12, 5, [(2, 0)]),
  (false, 143, (.iload 9), 2, 0, 0, []),
  (false, 145, .iaload, 1, 0, 0, []),
  (false, 146, (.iload 7), 2, 0, 0, []),
  (false, 148, (.if_icmp .le 13), 3, 161, 0, []),
  (false, 151, (.aload_n 0), 1, 0, 0, []),
  (false, 152, (.getfield 22), 3, 12, 5, [(2, 0)]),
  (false, 155, (.iload 9), 2, 0, 0, []),
  (false, 157, .iaload, 1, 0, 0, []),
  (false, 158, (.goto 5), 3, 163, 0, []),
  (false, 161, (.iload 7), 2, 0, 0, []),
  (false, 163, (.istore 7), 2, 0, 0, []),
  (false, 165, (.lload 4), 2, 0, 0, []),
  (false, 167, (.iload_n 3), 1, 0, 0, []),
  (false, 168, (.ifCond .ne 7), 3, 175, 0, []),
  (false, 171, (.lconst 1), 1, 0, 0, []),
  (false, 172, (.goto 53), 3, 225, 0, []),
  (false, 175, (.iload_n 3), 1, 0, 0, []),
  (false, 176, (.iconst 1), 1, 0, 0, []),
  (false, 177, (.if_icmp .ne 12), 3, 189, 0, []),
  (false, 180, (.aload_n 0), 1, 0, 0, []),
  (false, 181, (.iload 9), 2, 0, 0, []),
  (false, 183, (.invokevirtual 253), 3, 181, 2, [(12, 0)]),
  (false, 186, (.goto 39), 3, 225, 0, []),
  (false, 189, (.iload_n 3), 1, 0, 0, []),
  (false, 190, (.iconst 4), 1, 0, 0, []),
  (false, 191, (.if_icmp .ne 16), 3, 207, 0, []),
  (false, 194, (.aload_n 0), 1, 0, 0, []),
  (false, 195, (.iload 8), 2, 0, 0, []),
  (false, 197, (.invokevirtual 257), 3, 182, 2, [(12, 0)]),
  (false, 200, (.ifCond .eq 7), 3, 207, 0, []),
  (false, 203, (.lconst 1), 1, 0, 0, []),
  (false, 204, (.goto 21), 3, 225, 0, []),
  (false, 207, (.iload_n 3), 1, 0, 0, []),
  (false, 208, (.bipush 6), 2, 0, 0, []),
  (false, 210, (.if_icmp .ne 14), 3, 224, 0, []),
  (false, 213, (.aload_n 0), 1, 0, 0, []),
  (false, 214, (.getfield 19), 3, 12, 4, [(2, 0)]),
  (false, 217, (.iload 9), 2, 0, 0, []),
  (false, 219, .iaload, 1, 0, 0, []),
  (false, 220, .i2l, 1, 0, 0, []),
  (false, 221, (.goto 4), 3, 225, 0, []),
  (false, 224, (.lconst 0), 1, 0, 0, []),
  (false, 225, .ladd, 1, 0, 0, []),
  (false, 226, (.lstore 4), 2, 0, 0, []),
  (false, 228, (.iinc 8 1), 3, 0, 0, []),
  (false, 231, (.goto (-154)), 3, 77, 0, []),
  (false, 234, (.iload_n 3), 1, 0, 0, []),
  (false, 235, (.iconst 2), 1, 0, 0, []),
  (false, 236, (.if_icmp .eq 8), 3, 244, 0, []),
  (false, 239, (.iload_n 3), 1, 0, 0, []),
  (false, 240, (.iconst 3), 1, 0, 0, []),
  (false, 241, (.if_icmp .ne 9), 3, 250, 0, []),
  (false, 244, (.iload 6), 2, 0, 0, []),
  (false, 246, .i2l, 1, 0, 0, []),
  (false, 247, (.goto 16), 3, 263, 0, []),
  (false, 250, (.iload_n 3), 1, 0, 0, []),
  (false, 251, (.iconst 5), 1, 0, 0, []),
  (false, 252, (.if_icmp .ne 9), 3, 261, 0, []),
  (false, 255, (.iload 7), 2, 0, 0, []),
  (false, 257, .i2l, 1, 0, 0, []),
  (false, 258, (.goto 5), 3, 263, 0, []),
  (false, 261, (.lload 4), 2, 0, 0, []),
  (false, 263, .lreturn, 1, 0, 0, [])]
def kX12_orderedBy : List ab_E := [
  (false, 0, (.iload_n 3), 1, 0, 0, []),
  (false, 1, (.iconst 2), 1, 0, 0, []),
  (false, 2, (.if_icmp .ne 39), 3, 41, 0, []),
  (false, 5, (.aload_n 0), 1, 0, 0, []),
  (false, 6, (.getfield 22), 3, 12, 5, [(2, 0)]),
  (false, 9, (.iload_n 1), 1, 0, 0, []),
  (false, 10, .iaload, 1, 0, 0, []),
  (false, 11, (.aload_n 0), 1, 0, 0, []),
  (false, 12, (.getfield 22), 3, 12, 5, [(2, 0)]),
  (false, 15, (.iload_n 2), 1, 0, 0, []),
  (false, 16, .iaload, 1, 0, 0, []),
  (false, 17, (.if_icmp .eq 24), 3, 41, 0, []),
  (false, 20, (.aload_n 0), 1, 0, 0, []),
  (false, 21, (.getfield 22), 3, 12, 5, [(2, 0)]),
  (false, 24, (.iload_n 1), 1, 0, 0, []),
  (false, 25, .iaload, 1, 0, 0, []),
  (false, 26, (.aload_n 0), 1, 0, 0, []),
  (false, 27, (.getfield 22), 3, 12, 5, [(2, 0)]),
  (false, 30, (.iload_n 2), 1, 0, 0, []),
  (false, 31, .iaload, 1, 0, 0, []),
  (false, 32, (.if_icmp .le 7), 3, 39, 0, []),
  (false, 35, (.iconst (-1)), 1, 0, 0, []),
  (false, 36, (.goto 4), 3, 40, 0, []),
  (false, 39, (.iconst 1), 1, 0, 0, []),
  (false, 40, .ireturn, 1, 0, 0, []),
  (false, 41, (.iload_n 3), 1, 0, 0, []),
  (false, 42, (.ifCond .le 39), 3, 81, 0, []),
  (false, 45, (.aload_n 0), 1, 0, 0, []),
  (false, 46, (.getfield 19), 3, 12, 4, [(2, 0)]),
  (false, 49, (.iload_n 1), 1, 0, 0, []),
  (false, 50, .iaload, 1, 0, 0, []),
  (false, 51, (.aload_n 0), 1, 0, 0, []),
  (false, 52, (.getfield 19), 3, 12, 4, [(2, 0)]),
  (false, 55, (.iload_n 2), 1, 0, 0, []),
  (false, 56, .iaload, 1, 0, 0, []),
  (false, 57, (.if_icmp .eq 24), 3, 81, 0, []),
  (false, 60, (.aload_n 0), 1, 0, 0, []),
  (false, 61, (.getfield 19), 3, 12, 4, [(2, 0)]),
  (false, 64, (.iload_n 1), 1, 0, 0, []),
  (false, 65, .iaload, 1, 0, 0, []),
  (false, 66, (.aload_n 0), 1, 0, 0, []),
  (false, 67, (.getfield 19), 3, 12, 4, [(2, 0)]),
  (false, 70, (.iload_n 2), 1, 0, 0, []),
  (false, 71, .iaload, 1, 0, 0, []),
  (false, 72, (.if_icmp .ge 7), 3, 79, 0, []),
  (false, 75, (.iconst (-1)), 1, 0, 0, []),
  (false, 76, (.goto 4), 3, 80, 0, []),
  (false, 79, (.iconst 1), 1, 0, 0, []),
  (false, 80, .ireturn, 1, 0, 0, []),
  (false, 81, (.iload_n 3), 1, 0, 0, []),
  (false, 82, (.iconst 2), 1, 0, 0, []),
  (false, 83, (.if_icmp .ne 7), 3, 90, 0, []),
  (false, 86, (.iconst 0), 1, 0, 0, []),
  (false, 87, (.goto 9), 3, 96, 0, []),
  (false, 90, (.aload_n 0), 1, 0, 0, []),
  (false, 91, (.iload_n 1), 1, 0, 0, []),
  (false, 92, (.iload_n 2), 1, 0, 0, []),
  (false, 93, (.invokevirtual 100), 3, 140, 3, [(12, 0)]),
  (false, 96, .ireturn, 1, 0, 0, [])]
def kX12_best : List ab_E := [
  (false, 0, (.iload_n 1), 1, 0, 0, []),
  (false, 1, (.invokestatic 164), 3, 134, 1, []),
  (false, 4, (.ifCond .eq 19), 3, 23, 0, []),
  (false, 7, (.iload_n 2), 1, 0, 0, []),
  (false, 8, (.invokestatic 180), 3, 135, 1, []),
  (false, 11, (.ifCond .eq 12), 3, 23, 0, []),
  (false, 14, (.iload_n 3), 1, 0, 0, []),
  (false, 15, (.iconst 0), 1, 0, 0, []),
  (false, 16, (.iconst 2), 1, 0, 0, []),
  (false, 17, (.invokestatic 86), 3, 133, 3, []),
  (false, 20, (.ifCond .ne 6), 3, 26, 0, []),
  (false, 23, (.bipush (-2)), 2, 0, 0, []),
  (false, 25, .ireturn, 1, 0, 0, []),
  (false, 26, (.aload_n 0), 1, 0, 0, []),
  (false, 27, (.aload_n 0), 1, 0, 0, []),
  (false, 28, (.getfield 32), 3, 12, 10, [(2, 0)]),
  (false, 31, (.iload_n 1), 1, 0, 0, []),
  (false, 32, .iaload, 1, 0, 0, []),
  (false, 33, (.iload_n 2), 1, 0, 0, []),
  (false, 34, (.invokevirtual 245), 3, 165, 3, [(12, 0)]),
  (false, 37, (.iconst 0), 1, 0, 0, []),
  (false, 38, (.istore 5), 2, 0, 0, []),
  (true, 40, (.iload 5), 2, 0, 0, []),
  (false, 42, (.aload_n 0), 1, 0, 0, []),
  (false, 43, (.getfield 189), 3, 12, 31, [(0, 0)]),
  (false, 46, (.if_icmp .ge 88), 3, 134, 0, []),
  (false, 49, (.iconst 0), 1, 0, 0, []),
  (false, 50, (.istore 6), 2, 0, 0, []),
  (false, 52, (.iconst 0), 1, 0, 0, []),
  (false, 53, (.istore 7), 2, 0, 0, []),
  (true, 55, (.iload 7), 2, 0, 0, []),
  (false, 57, (.aload_n 0), 1, 0, 0, []),
  (false, 58, (.getfield 189), 3, 12, 31, [(0, 0)]),
  (false, 61, (.if_icmp .ge 57), 3, 118, 0, []),
  (false, 64, (.aload_n 0), 1, 0, 0, []),
  (false, 65, (.aload_n 0), 1, 0, 0, []),
  (false, 66, (.getfield 71), 3, 12, 30, [(2, 0)]),
  (false, 69, (.iload 7), 2, 0, 0, []),
  (false, 71, .iaload, 1, 0, 0, []),
  (false, 72, (.aload_n 0), 1, 0, 0, []),
  (false, 73, (.getfield 71), 3, 12, 30, [(2, 0)]),
  (false, 76, (.iload 5), 2, 0, 0, []),
  (false, 78, .iaload, 1, 0, 0, []),
  (false, 79, (.iload_n 3), 1, 0, 0, []),
  (false, 80, (.invokevirtual 260), 3, 184, 4, [(12, 0)]),
  (false, 83, (.istore 8), 2, 0, 0, []),
  (false, 85, (.iload 6), 2, 0, 0, []),
  (false, 87, (.iload 8), 2, 0, 0, []),
  (false, 89, (.ifCond .lt 15), 3, 104, 0, []),
  (false, 92, (.iload 8), 2, 0, 0, []),
  (false, 94, (.ifCond .ne 14), 3, 108, 0, []),
  (false, 97, (.iload 7), 2, 0, 0, []),
  (false, 99, (.iload 5), 2, 0, 0, []),
  (false, 101, (.if_icmp .ge 7), 3, 108, 0, []),
  (false, 104, (.iconst 1), 1, 0, 0, []),
  (false, 105, (.goto 4), 3, 109, 0, []),
  (false, 108, (.iconst 0), 1, 0, 0, []),
  (false, 109, .iadd, 1, 0, 0, []),
  (false, 110, (.istore 6), 2, 0, 0, []),
  (false, 112, (.iinc 7 1), 3, 0, 0, []),
  (false, 115, (.goto (-60)), 3, 55, 0, []),
  (false, 118, (.iload 6), 2, 0, 0, []),
  (false, 120, (.iload 4), 2, 0, 0, []),
  (false, 122, (.if_icmp .ne 6), 3, 128, 0, []),
  (false, 125, (.iload 5), 2, 0, 0, []),
  (false, 127, .ireturn, 1, 0, 0, []),
  (false, 128, (.iinc 5 1), 3, 0, 0, []),
  (false, 131, (.goto (-91)), 3, 40, 0, []),
  (false, 134, (.iconst (-1)), 1, 0, 0, []),
  (false, 135, .ireturn, 1, 0, 0, [])]
def kX12_order : List ab_E := [
  (false, 0, (.iload_n 1), 1, 0, 0, []),
  (false, 1, (.invokestatic 164), 3, 134, 1, []),
  (false, 4, (.ifCond .eq 29), 3, 33, 0, []),
  (false, 7, (.iload_n 2), 1, 0, 0, []),
  (false, 8, (.invokestatic 164), 3, 134, 1, []),
  (false, 11, (.ifCond .eq 22), 3, 33, 0, []),
  (false, 14, (.aload_n 0), 1, 0, 0, []),
  (false, 15, (.aload_n 0), 1, 0, 0, []),
  (false, 16, (.getfield 32), 3, 12, 10, [(2, 0)]),
  (false, 19, (.iload_n 1), 1, 0, 0, []),
  (false, 20, .iaload, 1, 0, 0, []),
  (false, 21, (.aload_n 0), 1, 0, 0, []),
  (false, 22, (.getfield 32), 3, 12, 10, [(2, 0)]),
  (false, 25, (.iload_n 2), 1, 0, 0, []),
  (false, 26, .iaload, 1, 0, 0, []),
  (false, 27, (.invokevirtual 100), 3, 140, 3, [(12, 0)]),
  (false, 30, (.goto 5), 3, 35, 0, []),
  (false, 33, (.bipush (-2)), 2, 0, 0, []),
  (false, 35, .ireturn, 1, 0, 0, [])]
def kX12_marks : List ab_E := [
  (false, 0, (.aload_n 0), 1, 0, 0, []),
  (false, 1, (.getfield 74), 3, 12, 37, [(2, 0)]),
  (false, 4, (.iload_n 1), 1, 0, 0, []),
  (false, 5, (.iconst 1), 1, 0, 0, []),
  (false, 6, .bastore, 1, 0, 0, []),
  (false, 7, (.iconst 0), 1, 0, 0, []),
  (false, 8, (.istore_n 2), 1, 0, 0, []),
  (true, 9, (.iload_n 2), 1, 0, 0, []),
  (false, 10, (.aload_n 0), 1, 0, 0, []),
  (false, 11, (.getfield 16), 3, 12, 3, [(2, 0)]),
  (false, 14, (.iload_n 1), 1, 0, 0, []),
  (false, 15, .iaload, 1, 0, 0, []),
  (false, 16, (.if_icmp .ge 24), 3, 40, 0, []),
  (false, 19, (.aload_n 0), 1, 0, 0, []),
  (false, 20, (.aload_n 0), 1, 0, 0, []),
  (false, 21, (.getfield 26), 3, 12, 6, [(2, 0)]),
  (false, 24, (.bipush 12), 2, 0, 0, []),
  (false, 26, (.iload_n 1), 1, 0, 0, []),
  (false, 27, .imul, 1, 0, 0, []),
  (false, 28, (.iload_n 2), 1, 0, 0, []),
  (false, 29, .iadd, 1, 0, 0, []),
  (false, 30, .iaload, 1, 0, 0, []),
  (false, 31, (.invokevirtual 263), 3, 187, 2, [(12, 0)]),
  (false, 34, (.iinc 2 1), 3, 0, 0, []),
  (false, 37, (.goto (-28)), 3, 9, 0, []),
  (false, 40, .return_, 1, 0, 0, [])]
def kX12_sharedIn : List ab_E := [
  (false, 0, (.aload_n 0), 1, 0, 0, []),
  (false, 1, (.getfield 74), 3, 12, 37, [(2, 0)]),
  (false, 4, (.iload_n 1), 1, 0, 0, []),
  (false, 5, .baload, 1, 0, 0, []),
  (false, 6, (.ifCond .eq 5), 3, 11, 0, []),
  (false, 9, (.iconst 1), 1, 0, 0, []),
  (false, 10, .ireturn, 1, 0, 0, []),
  (false, 11, (.iconst 0), 1, 0, 0, []),
  (false, 12, (.istore_n 2), 1, 0, 0, []),
  (false, 13, (.iconst 0), 1, 0, 0, []),
  (false, 14, (.istore_n 3), 1, 0, 0, []),
  (true, 15, (.iload_n 3), 1, 0, 0, []),
  (false, 16, (.aload_n 0), 1, 0, 0, []),
  (false, 17, (.getfield 16), 3, 12, 3, [(2, 0)]),
  (false, 20, (.iload_n 1), 1, 0, 0, []),
  (false, 21, .iaload, 1, 0, 0, []),
  (false, 22, (.if_icmp .ge 27), 3, 49, 0, []),
  (false, 25, (.iload_n 2), 1, 0, 0, []),
  (false, 26, (.aload_n 0), 1, 0, 0, []),
  (false, 27, (.aload_n 0), 1, 0, 0, []),
  (false, 28, (.getfield 26), 3, 12, 6, [(2, 0)]),
  (false, 31, (.bipush 12), 2, 0, 0, []),
  (false, 33, (.iload_n 1), 1, 0, 0, []),
  (false, 34, .imul, 1, 0, 0, []),
  (false, 35, (.iload_n 3), 1, 0, 0, []),
  (false, 36, .iadd, 1, 0, 0, []),
  (false, 37, .iaload, 1, 0, 0, []),
  (false, 38, (.invokevirtual 266), 3, 188, 2, [(12, 0)]),
  (false, 41, .iadd, 1, 0, 0, []),
  (false, 42, (.istore_n 2), 1, 0, 0, []),
  (false, 43, (.iinc 3 1), 3, 0, 0, []),
  (false, 46, (.goto (-31)), 3, 15, 0, []),
  (false, 49, (.iload_n 2), 1, 0, 0, []),
  (false, 50, .ireturn, 1, 0, 0, [])]
def kX12_shared : List ab_E := [
  (false, 0, (.iload_n 1), 1, 0, 0, []),
  (false, 1, (.invokestatic 164), 3, 134, 1, []),
  (false, 4, (.ifCond .eq 10), 3, 14, 0, []),
  (false, 7, (.iload_n 2), 1, 0, 0, []),
  (false, 8, (.invokestatic 164), 3, 134, 1, []),
  (false, 11, (.ifCond .ne 6), 3, 17, 0, []),
  (false, 14, (.bipush (-2)), 2, 0, 0, []),
  (false, 16, .ireturn, 1, 0, 0, []),
  (false, 17, (.iconst 0), 1, 0, 0, []),
  (false, 18, (.istore_n 3), 1, 0, 0, []),
  (true, 19, (.iload_n 3), 1, 0, 0, []),
  (false, 20, (.sipush 3120), 3, 0, 0, []),
  (false, 23, (.if_icmp .ge 16), 3, 39, 0, []),
  (false, 26, (.aload_n 0), 1, 0, 0, []),
  (false, 27, (.getfield 74), 3, 12, 37, [(2, 0)]),
  (false, 30, (.iload_n 3), 1, 0, 0, []),
  (false, 31, (.iconst 0), 1, 0, 0, []),
  (false, 32, .bastore, 1, 0, 0, []),
  (false, 33, (.iinc 3 1), 3, 0, 0, []),
  (false, 36, (.goto (-17)), 3, 19, 0, []),
  (false, 39, (.aload_n 0), 1, 0, 0, []),
  (false, 40, (.aload_n 0), 1, 0, 0, []),
  (false, 41, (.getfield 32), 3, 12, 10, [(2, 0)]),
  (false, 44, (.iload_n 2), 1, 0, 0, []),
  (false, 45, .iaload, 1, 0, 0, []),
  (false, 46, (.invokevirtual 263), 3, 187, 2, [(12, 0)]),
  (false, 49, (.aload_n 0), 1, 0, 0, []),
  (false, 50, (.aload_n 0), 1, 0, 0, []),
  (false, 51, (.getfield 32), 3, 12, 10, [(2, 0)]),
  (false, 54, (.iload_n 1), 1, 0, 0, []),
  (false, 55, .iaload, 1, 0, 0, []),
  (false, 56, (.invokevirtual 266), 3, 188, 2, [(12, 0)]),
  (false, 59, .ireturn, 1, 0, 0, [])]
def kX12_isLikeBuilt : List ab_E := [
  (false, 0, (.aload_n 0), 1, 0, 0, []),
  (false, 1, (.getfield 9), 3, 12, 1, [(2, 0)]),
  (false, 4, (.iload_n 1), 1, 0, 0, []),
  (false, 5, .iaload, 1, 0, 0, []),
  (false, 6, (.aload_n 0), 1, 0, 0, []),
  (false, 7, (.getfield 9), 3, 12, 1, [(2, 0)]),
  (false, 10, (.iload_n 2), 1, 0, 0, []),
  (false, 11, .iaload, 1, 0, 0, []),
  (false, 12, (.if_icmp .ne 46), 3, 58, 0, []),
  (false, 15, (.aload_n 0), 1, 0, 0, []),
  (false, 16, (.getfield 9), 3, 12, 1, [(2, 0)]),
  (false, 19, (.iload_n 1), 1, 0, 0, []),
  (false, 20, .iaload, 1, 0, 0, []),
  (false, 21, (.ifCond .eq 37), 3, 58, 0, []),
  (false, 24, (.aload_n 0), 1, 0, 0, []),
  (false, 25, (.getfield 13), 3, 12, 2, [(2, 0)]),
  (false, 28, (.iload_n 1), 1, 0, 0, []),
  (false, 29, .iaload, 1, 0, 0, []),
  (false, 30, (.aload_n 0), 1, 0, 0, []),
  (false, 31, (.getfield 13), 3, 12, 2, [(2, 0)]),
  (false, 34, (.iload_n 2), 1, 0, 0, []),
  (false, 35, .iaload, 1, 0, 0, []),
  (false, 36, (.if_icmp .ne 22), 3, 58, 0, []),
  (false, 39, (.aload_n 0), 1, 0, 0, []),
  (false, 40, (.getfield 16), 3, 12, 3, [(2, 0)]),
  (false, 43, (.iload_n 1), 1, 0, 0, []),
  (false, 44, .iaload, 1, 0, 0, []),
  (false, 45, (.aload_n 0), 1, 0, 0, []),
  (false, 46, (.getfield 16), 3, 12, 3, [(2, 0)]),
  (false, 49, (.iload_n 2), 1, 0, 0, []),
  (false, 50, .iaload, 1, 0, 0, []),
  (false, 51, (.if_icmp .ne 7), 3, 58, 0, []),
  (false, 54, (.iconst 1), 1, 0, 0, []),
  (false, 55, (.goto 4), 3, 59, 0, []),
  (false, 58, (.iconst 0), 1, 0, 0, []),
  (false, 59, (.istore_n 3), 1, 0, 0, []),
  (false, 60, (.iconst 0), 1, 0, 0, []),
  (false, 61, (.istore 4), 2, 0, 0, []),
  (true, 63, (.iload 4), 2, 0, 0, []),
  (false, 65, (.aload_n 0), 1, 0, 0, []),
  (false, 66, (.getfield 16), 3, 12, 3, [(2, 0)]),
  (false, 69, (.iload_n 1), 1, 0, 0, []),
  (false, 70, .iaload, 1, 0, 0, []),
  (false, 71, (.if_icmp .ge 46), 3, 117, 0, []),
  (false, 74, (.iload_n 3), 1, 0, 0, []),
  (false, 75, (.ifCond .eq 42), 3, 117, 0, []),
  (false, 78, (.aload_n 0), 1, 0, 0, []),
  (false, 79, (.getfield 29), 3, 12, 7, [(2, 0)]),
  (false, 82, (.bipush 12), 2, 0, 0, []),
  (false, 84, (.iload_n 1), 1, 0, 0, []),
  (false, 85, .imul, 1, 0, 0, []),
  (false, 86, (.iload 4), 2, 0, 0, []),
  (false, 88, .iadd, 1, 0, 0, []),
  (false, 89, .iaload, 1, 0, 0, []),
  (false, 90, (.aload_n 0), 1, 0, 0, []),
  (false, 91, (.getfield 29), 3, 12, 7, [(2, 0)]),
  (false, 94, (.bipush 12), 2, 0, 0, []),
  (false, 96, (.iload_n 2), 1, 0, 0, []),
  (false, 97, .imul, 1, 0, 0, []),
  (false, 98, (.iload 4), 2, 0, 0, []),
  (false, 100, .iadd, 1, 0, 0, []),
  (false, 101, .iaload, 1, 0, 0, []),
  (false, 102, (.if_icmp .ne 7), 3, 109, 0, []),
  (false, 105, (.iconst 1), 1, 0, 0, []),
  (false, 106, (.goto 4), 3, 110, 0, []),
  (false, 109, (.iconst 0), 1, 0, 0, []),
  (false, 110, (.istore_n 3), 1, 0, 0, []),
  (false, 111, (.iinc 4 1), 3, 0, 0, []),
  (false, 114, (.goto (-51)), 3, 63, 0, []),
  (false, 117, (.iload_n 3), 1, 0, 0, []),
  (false, 118, .ireturn, 1, 1, 0, [])]
def kX12_differsIn : List ab_E := [
  (false, 0, (.aload_n 0), 1, 0, 0, []),
  (false, 1, (.iload_n 1), 1, 0, 0, []),
  (false, 2, (.iload_n 2), 1, 0, 0, []),
  (false, 3, (.invokevirtual 100), 3, 140, 3, [(12, 0)]),
  (false, 6, (.ifCond .ne 4), 3, 10, 0, []),
  (false, 9, .return_, 1, 0, 0, []),
  (false, 10, (.aload_n 0), 1, 0, 0, []),
  (false, 11, (.iload_n 1), 1, 0, 0, []),
  (false, 12, (.iload_n 2), 1, 0, 0, []),
  (false, 13, (.invokevirtual 269), 3, 190, 3, [(12, 0)]),
  (false, 16, (.ifCond .ne 37), 3, 53, 0, []),
  (false, 19, (.aload_n 0), 1, 0, 0, []),
  (false, 20, (.aload_n 0), 1, 0, 0, []),
  (false, 21, (.getfield 272), 3, 12, 38, [(0, 0)]),
  (false, 24, (.aload_n 0), 1, 0, 0, []),
  (false, 25, (.getfield 275), 3, 12, 39, [(0, 0)]),
  (false, 28, (.if_icmp .ne 7), 3, 35, 0, []),
  (false, 31, (.iload_n 3), 1, 0, 0, []),
  (false, 32, (.goto 7), 3, 39, 0, []),
  (false, 35, (.aload_n 0), 1, 0, 0, []),
  (false, 36, (.getfield 278), 3, 12, 40, [(0, 0)]),
  (false, 39, (.putfield 278), 3, 12, 40, [(0, 0)]),
  (false, 42, (.aload_n 0), 1, 0, 0, []),
  (false, 43, .dup, 1, 0, 0, []),
  (false, 44, (.getfield 272), 3, 12, 38, [(0, 0)]),
  (false, 47, (.iconst 1), 1, 0, 0, []),
  (false, 48, .iadd, 1, 0, 0, []),
  (false, 49, (.putfield 272), 3, 12, 38, [(0, 0)]),
  (false, 52, .return_, 1, 0, 0, []),
  (false, 53, (.iload_n 3), 1, 0, 0, []),
  (false, 54, (.iconst 1), 1, 0, 0, []),
  (false, 55, .iadd, 1, 0, 0, []),
  (false, 56, (.istore 4), 2, 0, 0, []),
  (false, 58, (.iconst 0), 1, 0, 0, []),
  (false, 59, (.istore 5), 2, 0, 0, []),
  (true, 61, (.iload 5), 2, 0, 0, []),
  (false, 63, (.aload_n 0), 1, 0, 0, []),
  (false, 64, (.getfield 16), 3, 12, 3, [(2, 0)]),
  (false, 67, (.iload_n 1), 1, 0, 0, []),
  (false, 68, .iaload, 1, 0, 0, []),
  (false, 69, (.if_icmp .ge 61), 3, 130, 0, []),
  (false, 72, (.aload_n 0), 1, 0, 0, []),
  (false, 73, (.aload_n 0), 1, 0, 0, []),
  (false, 74, (.getfield 26), 3, 12, 6, [(2, 0)]),
  (false, 77, (.bipush 12), 2, 0, 0, []),
  (false, 79, (.iload_n 1), 1, 0, 0, []),
  (false, 80, .imul, 1, 0, 0, []),
  (false, 81, (.iload 5), 2, 0, 0, []),
  (false, 83, .iadd, 1, 0, 0, []),
  (false, 84, .iaload, 1, 0, 0, []),
  (false, 85, (.aload_n 0), 1, 0, 0, []),
  (false, 86, (.getfield 26), 3, 12, 6, [(2, 0)]),
  (false, 89, (.bipush 12), 2, 0, 0, []),
  (false, 91, (.iload_n 2), 1, 0, 0, []),
  (false, 92, .imul, 1, 0, 0, []),
  (false, 93, (.iload 5), 2, 0, 0, []),
  (false, 95, .iadd, 1, 0, 0, []),
  (false, 96, .iaload, 1, 0, 0, []),
  (false, 97, (.iload 4), 2, 0, 0, []),
  (false, 99, (.invokevirtual 281), 3, 191, 4, [(12, 0)]),
  (false, 102, (.iload 4), 2, 0, 0, []),
  (false, 104, (.aload_n 0), 1, 0, 0, []),
  (false, 105, (.getfield 19), 3, 12, 4, [(2, 0)]),
  (false, 108, (.aload_n 0), 1, 0, 0, []),
  (false, 109, (.getfield 26), 3, 12, 6, [(2, 0)]),
  (false, 112, (.bipush 12), 2, 0, 0, []),
  (false, 114, (.iload_n 1), 1, 0, 0, []),
  (false, 115, .imul, 1, 0, 0, []),
  (false, 116, (.iload 5), 2, 0, 0, []),
  (false, 118, .iadd, 1, 0, 0, []),
  (false, 119, .iaload, 1, 0, 0, []),
  (false, 120, .iaload, 1, 0, 0, []),
  (false, 121, .iadd, 1, 0, 0, []),
  (false, 122, (.istore 4), 2, 0, 0, []),
  (false, 124, (.iinc 5 1), 3, 0, 0, []),
  (false, 127, (.goto (-66)), 3, 61, 0, []),
  (false, 130, .return_, 1, 0, 0, [])]
def kX12_differ : List ab_E := [
  (false, 0, (.iload_n 1), 1, 0, 0, []),
  (false, 1, (.invokestatic 164), 3, 134, 1, []),
  (false, 4, (.ifCond .eq 10), 3, 14, 0, []),
  (false, 7, (.iload_n 2), 1, 0, 0, []),
  (false, 8, (.invokestatic 164), 3, 134, 1, []),
  (false, 11, (.ifCond .ne 6), 3, 17, 0, []),
  (false, 14, (.bipush (-2)), 2, 0, 0, []),
  (false, 16, .ireturn, 1, 0, 0, []),
  (false, 17, (.aload_n 0), 1, 0, 0, []),
  (false, 18, (.iconst 0), 1, 0, 0, []),
  (false, 19, (.putfield 272), 3, 12, 38, [(0, 0)]),
  (false, 22, (.aload_n 0), 1, 0, 0, []),
  (false, 23, (.iload_n 3), 1, 0, 0, []),
  (false, 24, (.putfield 275), 3, 12, 39, [(0, 0)]),
  (false, 27, (.aload_n 0), 1, 0, 0, []),
  (false, 28, (.iconst (-1)), 1, 0, 0, []),
  (false, 29, (.putfield 278), 3, 12, 40, [(0, 0)]),
  (false, 32, (.aload_n 0), 1, 0, 0, []),
  (false, 33, (.aload_n 0), 1, 0, 0, []),
  (false, 34, (.getfield 32), 3, 12, 10, [(2, 0)]),
  (false, 37, (.iload_n 1), 1, 0, 0, []),
  (false, 38, .iaload, 1, 0, 0, []),
  (false, 39, (.aload_n 0), 1, 0, 0, []),
  (false, 40, (.getfield 32), 3, 12, 10, [(2, 0)]),
  (false, 43, (.iload_n 2), 1, 0, 0, []),
  (false, 44, .iaload, 1, 0, 0, []),
  (false, 45, (.iconst 0), 1, 0, 0, []),
  (false, 46, (.invokevirtual 281), 3, 191, 4, [(12, 0)]),
  (false, 49, (.iload_n 3), 1, 0, 0, []),
  (false, 50, (.iconst (-1)), 1, 0, 0, []),
  (false, 51, (.if_icmp .ne 10), 3, 61, 0, []),
  (false, 54, (.aload_n 0), 1, 0, 0, []),
  (false, 55, (.getfield 272), 3, 12, 38, [(0, 0)]),
  (false, 58, (.goto 16), 3, 74, 0, []),
  (false, 61, (.iload_n 3), 1, 0, 0, []),
  (false, 62, (.iconst (-1)), 1, 0, 0, []),
  (false, 63, (.if_icmp .ge 7), 3, 70, 0, []),
  (false, 66, (.iconst (-1)), 1, 0, 0, []),
  (false, 67, (.goto 7), 3, 74, 0, []),
  (false, 70, (.aload_n 0), 1, 0, 0, []),
  (false, 71, (.getfield 278), 3, 12, 40, [(0, 0)]),
  (false, 74, .ireturn, 1, 0, 0, [])]
def kX12_fit : List ab_E := [
  (false, 0, (.iload_n 1), 1, 0, 0, []),
  (false, 1, (.invokestatic 164), 3, 134, 1, []),
  (false, 4, (.ifCond .eq 17), 3, 21, 0, []),
  (false, 7, (.iload_n 2), 1, 0, 0, []),
  (false, 8, (.invokestatic 180), 3, 135, 1, []),
  (false, 11, (.ifCond .eq 10), 3, 21, 0, []),
  (false, 14, (.iload_n 3), 1, 0, 0, []),
  (false, 15, (.invokestatic 164), 3, 134, 1, []),
  (false, 18, (.ifCond .ne 6), 3, 24, 0, []),
  (false, 21, (.bipush (-2)), 2, 0, 0, []),
  (false, 23, .ireturn, 1, 0, 0, []),
  (false, 24, (.aload_n 0), 1, 0, 0, []),
  (false, 25, (.getfield 90), 3, 12, 8, [(0, 0)]),
  (false, 28, (.istore 4), 2, 0, 0, []),
  (false, 30, (.aload_n 0), 1, 0, 0, []),
  (false, 31, (.aload_n 0), 1, 0, 0, []),
  (false, 32, (.getfield 32), 3, 12, 10, [(2, 0)]),
  (false, 35, (.iload_n 1), 1, 0, 0, []),
  (false, 36, .iaload, 1, 0, 0, []),
  (false, 37, (.iload_n 2), 1, 0, 0, []),
  (false, 38, (.invokevirtual 245), 3, 165, 3, [(12, 0)]),
  (false, 41, (.aload_n 0), 1, 0, 0, []),
  (false, 42, (.getfield 189), 3, 12, 31, [(0, 0)]),
  (false, 45, (.istore 5), 2, 0, 0, []),
  (false, 47, (.aload_n 0), 1, 0, 0, []),
  (false, 48, (.aload_n 0), 1, 0, 0, []),
  (false, 49, (.getfield 32), 3, 12, 10, [(2, 0)]),
  (false, 52, (.iload_n 1), 1, 0, 0, []),
  (false, 53, .iaload, 1, 0, 0, []),
  (false, 54, (.iload_n 2), 1, 0, 0, []),
  (false, 55, (.bipush 7), 2, 0, 0, []),
  (false, 57, (.iload_n 3), 1, 0, 0, []),
  (false, 58, (.invokevirtual 238), 3, 173, 5, [(12, 0)]),
  (false, 61, (.istore 6), 2, 0, 0, []),
  (false, 63, (.iload 6), 2, 0, 0, []),
  (false, 65, (.iconst (-1)), 1, 0, 0, []),
  (false, 66, (.if_icmp .eq 12), 3, 78, 0, []),
  (false, 69, (.aload_n 0), 1, 0, 0, []),
  (false, 70, (.iload 6), 2, 0, 0, []),
  (false, 72, (.invokevirtual 242), 3, 139, 2, [(12, 0)]),
  (false, 75, (.ifCond .eq 23), 3, 98, 0, []),
  (false, 78, (.aload_n 0), 1, 0, 0, []),
  (false, 79, (.iload 4), 2, 0, 0, []),
  (false, 81, (.putfield 90), 3, 12, 8, [(0, 0)]),
  (false, 84, (.iload 6), 2, 0, 0, []),
  (false, 86, (.iconst (-1)), 1, 0, 0, []),
  (false, 87, (.if_icmp .ne 8), 3, 95, 0, []),
  (false, 90, (.bipush (-17)), 2, 0, 0, []),
  (false, 92, (.goto 5), 3, 97, 0, []),
  (false, 95, (.bipush (-4)), 2, 0, 0, []),
  (false, 97, .ireturn, 1, 0, 0, []),
  (false, 98, (.aload_n 0), 1, 0, 0, []),
  (false, 99, (.iload 6), 2, 0, 0, []),
  (false, 101, (.iload_n 2), 1, 0, 0, []),
  (false, 102, (.invokevirtual 245), 3, 165, 3, [(12, 0)]),
  (false, 105, (.aload_n 0), 1, 0, 0, []),
  (false, 106, (.getfield 189), 3, 12, 31, [(0, 0)]),
  (false, 109, (.iload 5), 2, 0, 0, []),
  (false, 111, (.if_icmp .ne 7), 3, 118, 0, []),
  (false, 114, (.iconst 1), 1, 0, 0, []),
  (false, 115, (.goto 4), 3, 119, 0, []),
  (false, 118, (.iconst 0), 1, 0, 0, []),
  (false, 119, (.istore 7), 2, 0, 0, []),
  (false, 121, (.iconst 1), 1, 0, 0, []),
  (false, 122, (.istore 8), 2, 0, 0, []),
  (false, 124, (.iconst 0), 1, 0, 0, []),
  (false, 125, (.istore 9), 2, 0, 0, []),
  (true, 127, (.iload 9), 2, 0, 0, []),
  (false, 129, (.aload_n 0), 1, 0, 0, []),
  (false, 130, (.getfield 189), 3, 12, 31, [(0, 0)]),
  (false, 133, (.if_icmp .ge 41), 3, 174, 0, []),
  (false, 136, (.iload 8), 2, 0, 0, []),
  (false, 138, (.ifCond .eq 27), 3, 165, 0, []),
  (false, 141, (.aload_n 0), 1, 0, 0, []),
  (false, 142, (.aload_n 0), 1, 0, 0, []),
  (false, 143, (.getfield 71), 3, 12, 30, [(2, 0)]),
  (false, 146, (.iload 9), 2, 0, 0, []),
  (false, 148, .iaload, 1, 0, 0, []),
  (false, 149, (.aload_n 0), 1, 0, 0, []),
  (false, 150, (.getfield 32), 3, 12, 10, [(2, 0)]),
  (false, 153, (.iload_n 3), 1, 0, 0, []),
  (false, 154, .iaload, 1, 0, 0, []),
  (false, 155, (.invokevirtual 100), 3, 140, 3, [(12, 0)]),
  (false, 158, (.ifCond .ne 7), 3, 165, 0, []),
  (false, 161, (.iconst 1), 1, 0, 0, []),
  (false, 162, (.goto 4), 3, 166, 0, []),
  (false, 165, (.iconst 0), 1, 0, 0, []),
  (false, 166, (.istore 8), 2, 0, 0, []),
  (false, 168, (.iinc 9 1), 3, 0, 0, []),
  (false, 171, (.goto (-44)), 3, 127, 0, []),
  (false, 174, (.iload 7), 2, 0, 0, []),
  (false, 176, (.iload 8), 2, 0, 0, []),
  (false, 178, (.ifCond .eq 7), 3, 185, 0, []),
  (false, 181, (.iconst 2), 1, 0, 0, []),
  (false, 182, (.goto 4), 3, 186, 0, []),
  (false, 185, (.iconst 0), 1, 0, 0, []),
  (false, 186, .iadd, 1, 0, 0, []),
  (false, 187, (.istore 7), 2, 0, 0, []),
  (false, 189, (.aload_n 0), 1, 0, 0, []),
  (false, 190, (.iload 6), 2, 0, 0, []),
  (false, 192, (.iload_n 2), 1, 0, 0, []),
  (false, 193, (.bipush 7), 2, 0, 0, []),
  (false, 195, (.iload_n 3), 1, 0, 0, []),
  (false, 196, (.invokevirtual 238), 3, 173, 5, [(12, 0)]),
  (false, 199, (.istore 9), 2, 0, 0, []),
  (false, 201, (.iload 9), 2, 0, 0, []),
  (false, 203, (.iconst (-1)), 1, 0, 0, []),
  (false, 204, (.if_icmp .eq 12), 3, 216, 0, []),
  (false, 207, (.aload_n 0), 1, 0, 0, []),
  (false, 208, (.iload 9), 2, 0, 0, []),
  (false, 210, (.invokevirtual 242), 3, 139, 2, [(12, 0)]),
  (false, 213, (.ifCond .eq 23), 3, 236, 0, []),
  (false, 216, (.aload_n 0), 1, 0, 0, []),
  (false, 217, (.iload 4), 2, 0, 0, []),
  (false, 219, (.putfield 90), 3, 12, 8, [(0, 0)]),
  (false, 222, (.iload 9), 2, 0, 0, []),
  (false, 224, (.iconst (-1)), 1, 0, 0, []),
  (false, 225, (.if_icmp .ne 8), 3, 233, 0, []),
  (false, 228, (.bipush (-17)), 2, 0, 0, []),
  (false, 230, (.goto 5), 3, 235, 0, []),
  (false, 233, (.bipush (-4)), 2, 0, 0, []),
  (false, 235, .ireturn, 1, 0, 0, []),
  (false, 236, (.iload 7), 2, 0, 0, []),
  (false, 238, (.aload_n 0), 1, 0, 0, []),
  (false, 239, (.iload 6), 2, 0, 0, []),
  (false, 241, (.iload 9), 2, 0, 0, []),
  (false, 243, (.invokevirtual 100), 3, 140, 3, [(12, 0)]),
  (false, 246, (.ifCond .ne 7), 3, 253, 0, []),
  (false, 249, (.iconst 4), 1, 0, 0, []),
  (false, 250, (.goto 4), 3, 254, 0, []),
  (false, 253, (.iconst 0), 1, 0, 0, []),
  (false, 254, .iadd, 1, 0, 0, []),
  (false, 255, (.istore 7), 2, 0, 0, []),
  (false, 257, (.aload_n 0), 1, 0, 0, []),
  (false, 258, (.iload 4), 2, 0, 0, []),
  (false, 260, (.putfield 90), 3, 12, 8, [(0, 0)]),
  (false, 263, (.iload 7), 2, 0, 0, []),
  (false, 265, .ireturn, 1, 0, 0, [])]
def kX12_allNodes : List ab_E := [
  (false, 0, (.iconst 0), 1, 0, 0, []),
  (false, 1, (.istore_n 1), 1, 0, 0, []),
  (false, 2, (.iconst 0), 1, 0, 0, []),
  (false, 3, (.istore_n 2), 1, 0, 0, []),
  (true, 4, (.iload_n 2), 1, 0, 0, []),
  (false, 5, (.bipush 12), 2, 0, 0, []),
  (false, 7, (.if_icmp .ge 23), 3, 30, 0, []),
  (false, 10, (.iload_n 1), 1, 0, 0, []),
  (false, 11, (.aload_n 0), 1, 0, 0, []),
  (false, 12, (.getfield 19), 3, 12, 4, [(2, 0)]),
  (false, 15, (.aload_n 0), 1, 0, 0, []),
  (false, 16, (.getfield 32), 3, 12, 10, [(2, 0)]),
  (false, 19, (.iload_n 2), 1, 0, 0, []),
  (false, 20, .iaload, 1, 0, 0, []),
  (false, 21, .iaload, 1, 0, 0, []),
  (false, 22, .iadd, 1, 0, 0, []),
  (false, 23, (.istore_n 1), 1, 0, 0, []),
  (false, 24, (.iinc 2 1), 3, 0, 0, []),
  (false, 27, (.goto (-23)), 3, 4, 0, []),
  (false, 30, (.iload_n 1), 1, 0, 0, []),
  (false, 31, .ireturn, 1, 0, 0, [])]
def kX12_image : List ab_E := [
  (false, 0, (.iconst 0), 1, 0, 0, []),
  (false, 1, (.istore_n 1), 1, 0, 0, []),
  (true, 2, (.iload_n 1), 1, 0, 0, []),
  (false, 3, (.bipush 12), 2, 0, 0, []),
  (false, 5, (.if_icmp .ge 21), 3, 26, 0, []),
  (false, 8, (.aload_n 0), 1, 0, 0, []),
  (false, 9, (.getfield 50), 3, 12, 16, [(2, 0)]),
  (false, 12, (.iload_n 1), 1, 0, 0, []),
  (false, 13, (.aload_n 0), 1, 0, 0, []),
  (false, 14, (.getfield 32), 3, 12, 10, [(2, 0)]),
  (false, 17, (.iload_n 1), 1, 0, 0, []),
  (false, 18, .iaload, 1, 0, 0, []),
  (false, 19, .iastore, 1, 0, 0, []),
  (false, 20, (.iinc 1 1), 3, 0, 0, []),
  (false, 23, (.goto (-21)), 3, 2, 0, []),
  (false, 26, (.iconst 0), 1, 0, 0, []),
  (false, 27, (.istore_n 1), 1, 0, 0, []),
  (true, 28, (.iload_n 1), 1, 0, 0, []),
  (false, 29, (.bipush 64), 2, 0, 0, []),
  (false, 31, (.if_icmp .ge 33), 3, 64, 0, []),
  (false, 34, (.aload_n 0), 1, 0, 0, []),
  (false, 35, (.getfield 53), 3, 12, 17, [(2, 0)]),
  (false, 38, (.iload_n 1), 1, 0, 0, []),
  (false, 39, (.aload_n 0), 1, 0, 0, []),
  (false, 40, (.getfield 41), 3, 12, 13, [(2, 0)]),
  (false, 43, (.iload_n 1), 1, 0, 0, []),
  (false, 44, .iaload, 1, 0, 0, []),
  (false, 45, .iastore, 1, 0, 0, []),
  (false, 46, (.aload_n 0), 1, 0, 0, []),
  (false, 47, (.getfield 56), 3, 12, 18, [(2, 0)]),
  (false, 50, (.iload_n 1), 1, 0, 0, []),
  (false, 51, (.aload_n 0), 1, 0, 0, []),
  (false, 52, (.getfield 44), 3, 12, 14, [(2, 0)]),
  (false, 55, (.iload_n 1), 1, 0, 0, []),
  (false, 56, .iaload, 1, 0, 0, []),
  (false, 57, .iastore, 1, 0, 0, []),
  (false, 58, (.iinc 1 1), 3, 0, 0, []),
  (false, 61, (.goto (-33)), 3, 28, 0, []),
  (false, 64, (.iconst 0), 1, 0, 0, []),
  (false, 65, (.istore_n 1), 1, 0, 0, []),
  (true, 66, (.iload_n 1), 1, 0, 0, []),
  (false, 67, (.bipush 8), 2, 0, 0, []),
  (false, 69, (.if_icmp .ge 21), 3, 90, 0, []),
  (false, 72, (.aload_n 0), 1, 0, 0, []),
  (false, 73, (.getfield 59), 3, 12, 19, [(2, 0)]),
  (false, 76, (.iload_n 1), 1, 0, 0, []),
  (false, 77, (.aload_n 0), 1, 0, 0, []),
  (false, 78, (.getfield 47), 3, 12, 15, [(2, 0)]),
  (false, 81, (.iload_n 1), 1, 0, 0, []),
  (false, 82, .iaload, 1, 0, 0, []),
  (false, 83, .iastore, 1, 0, 0, []),
  (false, 84, (.iinc 1 1), 3, 0, 0, []),
  (false, 87, (.goto (-21)), 3, 66, 0, []),
  (false, 90, (.aload_n 0), 1, 0, 0, []),
  (false, 91, (.iconst 1), 1, 0, 0, []),
  (false, 92, (.putfield 284), 3, 12, 20, [(1, 0)]),
  (false, 95, (.aload_n 0), 1, 0, 0, []),
  (false, 96, (.invokevirtual 287), 3, 194, 1, [(12, 0)]),
  (false, 99, .ireturn, 1, 0, 0, [])]
def kX12_back : List ab_E := [
  (false, 0, (.aload_n 0), 1, 0, 0, []),
  (false, 1, (.getfield 284), 3, 12, 20, [(1, 0)]),
  (false, 4, (.ifCond .ne 6), 3, 10, 0, []),
  (false, 7, (.bipush (-3)), 2, 0, 0, []),
  (false, 9, .ireturn, 1, 0, 0, []),
  (false, 10, (.iconst 0), 1, 0, 0, []),
  (false, 11, (.istore_n 1), 1, 0, 0, []),
  (true, 12, (.iload_n 1), 1, 0, 0, []),
  (false, 13, (.bipush 12), 2, 0, 0, []),
  (false, 15, (.if_icmp .ge 28), 3, 43, 0, []),
  (false, 18, (.aload_n 0), 1, 0, 0, []),
  (false, 19, (.getfield 32), 3, 12, 10, [(2, 0)]),
  (false, 22, (.iload_n 1), 1, 0, 0, []),
  (false, 23, (.aload_n 0), 1, 0, 0, []),
  (false, 24, (.getfield 50), 3, 12, 16, [(2, 0)]),
  (false, 27, (.iload_n 1), 1, 0, 0, []),
  (false, 28, .iaload, 1, 0, 0, []),
  (false, 29, .iastore, 1, 0, 0, []),
  (false, 30, (.aload_n 0), 1, 0, 0, []),
  (false, 31, (.getfield 38), 3, 12, 12, [(2, 0)]),
  (false, 34, (.iload_n 1), 1, 0, 0, []),
  (false, 35, (.iconst 0), 1, 0, 0, []),
  (false, 36, .iastore, 1, 0, 0, []),
  (false, 37, (.iinc 1 1), 3, 0, 0, []),
  (false, 40, (.goto (-28)), 3, 12, 0, []),
  (false, 43, (.iconst 0), 1, 0, 0, []),
  (false, 44, (.istore_n 1), 1, 0, 0, []),
  (true, 45, (.iload_n 1), 1, 0, 0, []),
  (false, 46, (.bipush 64), 2, 0, 0, []),
  (false, 48, (.if_icmp .ge 33), 3, 81, 0, []),
  (false, 51, (.aload_n 0), 1, 0, 0, []),
  (false, 52, (.getfield 41), 3, 12, 13, [(2, 0)]),
  (false, 55, (.iload_n 1), 1, 0, 0, []),
  (false, 56, (.aload_n 0), 1, 0, 0, []),
  (false, 57, (.getfield 53), 3, 12, 17, [(2, 0)]),
  (false, 60, (.iload_n 1), 1, 0, 0, []),
  (false, 61, .iaload, 1, 0, 0, []),
  (false, 62, .iastore, 1, 0, 0, []),
  (false, 63, (.aload_n 0), 1, 0, 0, []),
  (false, 64, (.getfield 44), 3, 12, 14, [(2, 0)]),
  (false, 67, (.iload_n 1), 1, 0, 0, []),
  (false, 68, (.aload_n 0), 1, 0, 0, []),
  (false, 69, (.getfield 56), 3, 12, 18, [(2, 0)]),
  (false, 72, (.iload_n 1), 1, 0, 0, []),
  (false, 73, .iaload, 1, 0, 0, []),
  (false, 74, .iastore, 1, 0, 0, []),
  (false, 75, (.iinc 1 1), 3, 0, 0, []),
  (false, 78, (.goto (-33)), 3, 45, 0, []),
  (false, 81, (.iconst 0), 1, 0, 0, []),
  (false, 82, (.istore_n 1), 1, 0, 0, []),
  (true, 83, (.iload_n 1), 1, 0, 0, []),
  (false, 84, (.bipush 8), 2, 0, 0, []),
  (false, 86, (.if_icmp .ge 21), 3, 107, 0, []),
  (false, 89, (.aload_n 0), 1, 0, 0, []),
  (false, 90, (.getfield 47), 3, 12, 15, [(2, 0)]),
  (false, 93, (.iload_n 1), 1, 0, 0, []),
  (false, 94, (.aload_n 0), 1, 0, 0, []),
  (false, 95, (.getfield 59), 3, 12, 19, [(2, 0)]),
  (false, 98, (.iload_n 1), 1, 0, 0, []),
  (false, 99, .iaload, 1, 0, 0, []),
  (false, 100, .iastore, 1, 0, 0, []),
  (false, 101, (.iinc 1 1), 3, 0, 0, []),
  (false, 104, (.goto (-21)), 3, 83, 0, []),
  (false, 107, (.aload_n 0), 1, 0, 0, []),
  (false, 108, (.invokevirtual 287), 3, 194, 1, [(12, 0)]),
  (false, 111, .ireturn, 1, 0, 0, [])]
def kX12_count : List ab_E := [
  (false, 0, (.iload_n 1), 1, 0, 0, []),
  (false, 1, (.bipush 20), 2, 0, 0, []),
  (false, 3, (.if_icmp .ne 8), 3, 11, 0, []),
  (false, 6, (.aload_n 0), 1, 0, 0, []),
  (false, 7, (.getfield 104), 3, 12, 22, [(0, 0)]),
  (false, 10, .ireturn, 1, 0, 0, []),
  (false, 11, (.iload_n 1), 1, 0, 0, []),
  (false, 12, (.bipush 21), 2, 0, 0, []),
  (false, 14, (.if_icmp .ne 8), 3, 22, 0, []),
  (false, 17, (.aload_n 0), 1, 0, 0, []),
  (false, 18, (.getfield 167), 3, 12, 9, [(0, 0)]),
  (false, 21, .ireturn, 1, 0, 0, []),
  (false, 22, (.iload_n 1), 1, 0, 0, []),
  (false, 23, (.iconst 0), 1, 0, 0, []),
  (false, 24, (.bipush 11), 2, 0, 0, []),
  (false, 26, (.invokestatic 86), 3, 133, 3, []),
  (false, 29, (.ifCond .eq 10), 3, 39, 0, []),
  (false, 32, (.aload_n 0), 1, 0, 0, []),
  (false, 33, (.getfield 38), 3, 12, 12, [(2, 0)]),
  (false, 36, (.iload_n 1), 1, 0, 0, []),
  (false, 37, .iaload, 1, 0, 0, []),
  (false, 38, .ireturn, 1, 0, 0, []),
  (false, 39, (.iload_n 1), 1, 0, 0, []),
  (false, 40, (.bipush 12), 2, 0, 0, []),
  (false, 42, (.bipush 19), 2, 0, 0, []),
  (false, 44, (.invokestatic 86), 3, 133, 3, []),
  (false, 47, (.ifCond .eq 15), 3, 62, 0, []),
  (false, 50, (.aload_n 0), 1, 0, 0, []),
  (false, 51, (.getfield 47), 3, 12, 15, [(2, 0)]),
  (false, 54, (.iload_n 1), 1, 0, 0, []),
  (false, 55, (.bipush 12), 2, 0, 0, []),
  (false, 57, .isub, 1, 0, 0, []),
  (false, 58, .iaload, 1, 0, 0, []),
  (false, 59, (.goto 5), 3, 64, 0, []),
  (false, 62, (.bipush (-2)), 2, 0, 0, []),
  (false, 64, .ireturn, 1, 0, 0, [])]
def kJ6_compare_7cf53 : List ab_E := [
  (false, 0, (.iload_n 0), 1, 0, 0, []),
  (false, 1, (.iload_n 1), 1, 0, 0, []),
  (false, 2, (.if_icmp .ge 7), 3, 9, 0, []),
  (false, 5, (.iconst (-1)), 1, 0, 0, []),
  (false, 6, (.goto 13), 3, 19, 0, []),
  (false, 9, (.iload_n 0), 1, 0, 0, []),
  (false, 10, (.iload_n 1), 1, 0, 0, []),
  (false, 11, (.if_icmp .ne 7), 3, 18, 0, []),
  (false, 14, (.iconst 0), 1, 0, 0, []),
  (false, 15, (.goto 4), 3, 19, 0, []),
  (false, 18, (.iconst 1), 1, 0, 0, []),
  (false, 19, .ireturn, 1, 0, 0, [])]
def kJ9_max_7cf53 : List ab_E := [
  (false, 0, (.iload_n 0), 1, 0, 0, []),
  (false, 1, (.iload_n 1), 1, 0, 0, []),
  (false, 2, (.if_icmp .lt 7), 3, 9, 0, []),
  (false, 5, (.iload_n 0), 1, 0, 0, []),
  (false, 6, (.goto 4), 3, 10, 0, []),
  (false, 9, (.iload_n 1), 1, 0, 0, []),
  (false, 10, .ireturn, 1, 0, 0, [])]
def kJ9_min_7cf53 : List ab_E := [
  (false, 0, (.iload_n 0), 1, 0, 0, []),
  (false, 1, (.iload_n 1), 1, 0, 0, []),
  (false, 2, (.if_icmp .gt 7), 3, 9, 0, []),
  (false, 5, (.iload_n 0), 1, 0, 0, []),
  (false, 6, (.goto 4), 3, 10, 0, []),
  (false, 9, (.iload_n 1), 1, 0, 0, []),
  (false, 10, .ireturn, 1, 0, 0, [])]
def kL_law : List ab_E := [
  (false, 0, (.new 7), 3, 11, 12, []),
  (false, 3, .dup, 1, 0, 0, []),
  (false, 4, (.invokespecial 9), 3, 103, 1, []),
  (false, 7, (.astore_n 1), 1, 0, 0, []),
  (false, 8, (.new 10), 3, 12, 41, []),
  (false, 11, .dup, 1, 0, 0, []),
  (false, 12, (.invokespecial 12), 3, 132, 1, []),
  (false, 15, (.astore_n 2), 1, 0, 0, []),
  (false, 16, (.iconst 0), 1, 0, 0, []),
  (false, 17, (.istore_n 3), 1, 0, 0, []),
  (true, 18, (.iload_n 3), 1, 0, 0, []),
  (false, 19, (.aload_n 0), 1, 0, 0, []),
  (false, 20, .arraylength, 1, 0, 0, []),
  (false, 21, (.bipush 6), 2, 0, 0, []),
  (false, 23, .isub, 1, 0, 0, []),
  (false, 24, (.if_icmp .gt 825), 3, 849, 0, []),
  (false, 27, (.aload_n 0), 1, 0, 0, []),
  (false, 28, (.iload_n 3), 1, 0, 0, []),
  (false, 29, .iaload, 1, 0, 0, []),
  (false, 30, (.bipush 31), 2, 0, 0, []),
  (false, 32, .iand, 1, 0, 0, []),
  (false, 33, (.tableswitch 810 0 18 #[91, 124, 147, 170, 203, 266, 329, 382, 405, 459, 512, 556, 609, 642, 675, 718, 761, 774, 787]), 91, 843, 0, [(0, 124), (1, 157), (2, 180), (3, 203), (4, 236), (5, 299), (6, 362), (7, 415), (8, 438), (9, 492), (10, 545), (11, 589), (12, 642), (13, 675), (14, 708), (15, 751), (16, 794), (17, 807), (18, 820)]),
  (false, 124, (.aload_n 1), 1, 0, 0, []),
  (false, 125, (.aload_n 0), 1, 0, 0, []),
  (false, 126, (.iload_n 3), 1, 0, 0, []),
  (false, 127, (.iconst 1), 1, 0, 0, []),
  (false, 128, .iadd, 1, 0, 0, []),
  (false, 129, .iaload, 1, 0, 0, []),
  (false, 130, (.aload_n 0), 1, 0, 0, []),
  (false, 131, (.iload_n 3), 1, 0, 0, []),
  (false, 132, (.iconst 2), 1, 0, 0, []),
  (false, 133, .iadd, 1, 0, 0, []),
  (false, 134, .iaload, 1, 0, 0, []),
  (false, 135, (.invokevirtual 13), 3, 104, 3, [(11, 0)]),
  (false, 138, (.aload_n 2), 1, 0, 0, []),
  (false, 139, (.aload_n 0), 1, 0, 0, []),
  (false, 140, (.iload_n 3), 1, 0, 0, []),
  (false, 141, (.iconst 1), 1, 0, 0, []),
  (false, 142, .iadd, 1, 0, 0, []),
  (false, 143, .iaload, 1, 0, 0, []),
  (false, 144, (.aload_n 0), 1, 0, 0, []),
  (false, 145, (.iload_n 3), 1, 0, 0, []),
  (false, 146, (.iconst 2), 1, 0, 0, []),
  (false, 147, .iadd, 1, 0, 0, []),
  (false, 148, .iaload, 1, 0, 0, []),
  (false, 149, (.invokevirtual 17), 3, 142, 3, [(12, 0)]),
  (false, 152, (.if_icmp .eq 691), 3, 843, 0, []),
  (false, 155, (.iconst 0), 1, 0, 0, []),
  (false, 156, .ireturn, 1, 1, 0, []),
  (false, 157, (.aload_n 1), 1, 0, 0, []),
  (false, 158, (.aload_n 0), 1, 0, 0, []),
  (false, 159, (.iload_n 3), 1, 0, 0, []),
  (false, 160, (.iconst 1), 1, 0, 0, []),
  (false, 161, .iadd, 1, 0, 0, []),
  (false, 162, .iaload, 1, 0, 0, []),
  (false, 163, (.invokevirtual 18), 3, 105, 2, [(11, 0)]),
  (false, 166, (.aload_n 2), 1, 0, 0, []),
  (false, 167, (.aload_n 0), 1, 0, 0, []),
  (false, 168, (.iload_n 3), 1, 0, 0, []),
  (false, 169, (.iconst 1), 1, 0, 0, []),
  (false, 170, .iadd, 1, 0, 0, []),
  (false, 171, .iaload, 1, 0, 0, []),
  (false, 172, (.invokevirtual 22), 3, 157, 2, [(12, 0)]),
  (false, 175, (.if_icmp .eq 668), 3, 843, 0, []),
  (false, 178, (.iconst 0), 1, 0, 0, []),
  (false, 179, .ireturn, 1, 1, 0, []),
  (false, 180, (.aload_n 1), 1, 0, 0, []),
  (false, 181, (.aload_n 0), 1, 0, 0, []),
  (false, 182, (.iload_n 3), 1, 0, 0, []),
  (false, 183, (.iconst 1), 1, 0, 0, []),
  (false, 184, .iadd, 1, 0, 0, []),
  (false, 185, .iaload, 1, 0, 0, []),
  (false, 186, (.invokevirtual 23), 3, 106, 2, [(11, 0)]),
  (false, 189, (.aload_n 2), 1, 0, 0, []),
  (false, 190, (.aload_n 0), 1, 0, 0, []),
  (false, 191, (.iload_n 3), 1, 0, 0, []),
  (false, 192, (.iconst 1), 1, 0, 0, []),
  (false, 193, .iadd, 1, 0, 0, []),
  (false, 194, .iaload, 1, 0, 0, []),
  (false, 195, (.invokevirtual 26), 3, 159, 2, [(12, 0)]),
  (false, 198, (.if_icmp .eq 645), 3, 843, 0, []),
  (false, 201, (.iconst 0), 1, 0, 0, []),
  (false, 202, .ireturn, 1, 1, 0, []),
  (false, 203, (.aload_n 1), 1, 0, 0, []),
  (false, 204, (.aload_n 0), 1, 0, 0, []),
  (false, 205, (.iload_n 3), 1, 0, 0, []),
  (false, 206, (.iconst 1), 1, 0, 0, []),
  (false, 207, .iadd, 1, 0, 0, []),
  (false, 208, .iaload, 1, 0, 0, []),
  (false, 209, (.aload_n 0), 1, 0, 0, []),
  (false, 210, (.iload_n 3), 1, 0, 0, []),
  (false, 211, (.iconst 2), 1, 0, 0, []),
  (false, 212, .iadd, 1, 0, 0, []),
  (false, 213, .iaload, 1, 0, 0, []),
  (false, 214, (.invokevirtual 27), 3, 107, 3, [(11, 0)]),
  (false, 217, (.aload_n 2), 1, 0, 0, []),
  (false, 218, (.aload_n 0), 1, 0, 0, []),
  (false, 219, (.iload_n 3), 1, 0, 0, []),
  (false, 220, (.iconst 1), 1, 0, 0, []),
  (false, 221, .iadd, 1, 0, 0, []),
  (false, 222, .iaload, 1, 0, 0, []),
  (false, 223, (.aload_n 0), 1, 0, 0, []),
  (false, 224, (.iload_n 3), 1, 0, 0, []),
  (false, 225, (.iconst 2), 1, 0, 0, []),
  (false, 226, .iadd, 1, 0, 0, []),
  (false, 227, .iaload, 1, 0, 0, []),
  (false, 228, (.invokevirtual 30), 3, 160, 3, [(12, 0)]),
  (false, 231, (.if_icmp .eq 612), 3, 843, 0, []),
  (false, 234, (.iconst 0), 1, 0, 0, []),
  (false, 235, .ireturn, 1, 1, 0, []),
  (false, 236, (.aload_n 1), 1, 0, 0, []),
  (false, 237, (.aload_n 0), 1, 0, 0, []),
  (false, 238, (.iload_n 3), 1, 0, 0, []),
  (false, 239, (.iconst 1), 1, 0, 0, []),
  (false, 240, .iadd, 1, 0, 0, []),
  (false, 241, .iaload, 1, 0, 0, []),
  (false, 242, (.aload_n 0), 1, 0, 0, []),
  (false, 243, (.iload_n 3), 1, 0, 0, []),
  (false, 244, (.iconst 2), 1, 0, 0, []),
  (false, 245, .iadd, 1, 0, 0, []),
  (false, 246, .iaload, 1, 0, 0, []),
  (false, 247, (.aload_n 0), 1, 0, 0, []),
  (false, 248, (.iload_n 3), 1, 0, 0, []),
  (false, 249, (.iconst 3), 1, 0, 0, []),
  (false, 250, .iadd, 1, 0, 0, []),
  (false, 251, .iaload, 1, 0, 0, []),
  (false, 252, (.aload_n 0), 1, 0, 0, []),
  (false, 253, (.iload_n 3), 1, 0, 0, []),
  (false, 254, (.iconst 4), 1, 0, 0, []),
  (false, 255, .iadd, 1, 0, 0, []),
  (false, 256, .iaload, 1, 0, 0, []),
  (false, 257, (.aload_n 0), 1, 0, 0, []),
  (false, 258, (.iload_n 3), 1, 0, 0, []),
  (false, 259, (.iconst 5), 1, 0, 0, []),
  (false, 260, .iadd, 1, 0, 0, []),
  (false, 261, .iaload, 1, 0, 0, []),
  (false, 262, (.invokevirtual 31), 3, 108, 6, [(11, 0)]),
  (false, 265, (.aload_n 2), 1, 0, 0, []),
  (false, 266, (.aload_n 0), 1, 0, 0, []),
  (false, 267, (.iload_n 3), 1, 0, 0, []),
  (false, 268, (.iconst 1), 1, 0, 0, []),
  (false, 269, .iadd, 1, 0, 0, []),
  (false, 270, .iaload, 1, 0, 0, []),
  (false, 271, (.aload_n 0), 1, 0, 0, []),
  (false, 272, (.iload_n 3), 1, 0, 0, []),
  (false, 273, (.iconst 2), 1, 0, 0, []),
  (false, 274, .iadd, 1, 0, 0, []),
  (false, 275, .iaload, 1, 0, 0, []),
  (false, 276, (.aload_n 0), 1, 0, 0, []),
  (false, 277, (.iload_n 3), 1, 0, 0, []),
  (false, 278, (.iconst 3), 1, 0, 0, []),
  (false, 279, .iadd, 1, 0, 0, []),
  (false, 280, .iaload, 1, 0, 0, []),
  (false, 281, (.aload_n 0), 1, 0, 0, []),
  (false, 282, (.iload_n 3), 1, 0, 0, []),
  (false, 283, (.iconst 4), 1, 0, 0, []),
  (false, 284, .iadd, 1, 0, 0, []),
  (false, 285, .iaload, 1, 0, 0, []),
  (false, 286, (.aload_n 0), 1, 0, 0, []),
  (false, 287, (.iload_n 3), 1, 0, 0, []),
  (false, 288, (.iconst 5), 1, 0, 0, []),
  (false, 289, .iadd, 1, 0, 0, []),
  (false, 290, .iaload, 1, 0, 0, []),
  (false, 291, (.invokevirtual 35), 3, 174, 6, [(12, 0)]),
  (false, 294, (.if_icmp .eq 549), 3, 843, 0, []),
  (false, 297, (.iconst 0), 1, 0, 0, []),
  (false, 298, .ireturn, 1, 1, 0, []),
  (false, 299, (.aload_n 1), 1, 0, 0, []),
  (false, 300, (.aload_n 0), 1, 0, 0, []),
  (false, 301, (.iload_n 3), 1, 0, 0, []),
  (false, 302, (.iconst 1), 1, 0, 0, []),
  (false, 303, .iadd, 1, 0, 0, []),
  (false, 304, .iaload, 1, 0, 0, []),
  (false, 305, (.aload_n 0), 1, 0, 0, []),
  (false, 306, (.iload_n 3), 1, 0, 0, []),
  (false, 307, (.iconst 2), 1, 0, 0, []),
  (false, 308, .iadd, 1, 0, 0, []),
  (false, 309, .iaload, 1, 0, 0, []),
  (false, 310, (.aload_n 0), 1, 0, 0, []),
  (false, 311, (.iload_n 3), 1, 0, 0, []),
  (false, 312, (.iconst 3), 1, 0, 0, []),
  (false, 313, .iadd, 1, 0, 0, []),
  (false, 314, .iaload, 1, 0, 0, []),
  (false, 315, (.aload_n 0), 1, 0, 0, []),
  (false, 316, (.iload_n 3), 1, 0, 0, []),
  (false, 317, (.iconst 4), 1, 0, 0, []),
  (false, 318, .iadd, 1, 0, 0, []),
  (false, 319, .iaload, 1, 0, 0, []),
  (false, 320, (.aload_n 0), 1, 0, 0, []),
  (false, 321, (.iload_n 3), 1, 0, 0, []),
  (false, 322, (.iconst 5), 1, 0, 0, []),
  (false, 323, .iadd, 1, 0, 0, []),
  (false, 324, .iaload, 1, 0, 0, []),
  (false, 325, (.invokevirtual 36), 3, 109, 6, [(11, 0)]),
  (false, 328, (.aload_n 2), 1, 0, 0, []),
  (false, 329, (.aload_n 0), 1, 0, 0, []),
  (false, 330, (.iload_n 3), 1, 0, 0, []),
  (false, 331, (.iconst 1), 1, 0, 0, []),
  (false, 332, .iadd, 1, 0, 0, []),
  (false, 333, .iaload, 1, 0, 0, []),
  (false, 334, (.aload_n 0), 1, 0, 0, []),
  (false, 335, (.iload_n 3), 1, 0, 0, []),
  (false, 336, (.iconst 2), 1, 0, 0, []),
  (false, 337, .iadd, 1, 0, 0, []),
  (false, 338, .iaload, 1, 0, 0, []),
  (false, 339, (.aload_n 0), 1, 0, 0, []),
  (false, 340, (.iload_n 3), 1, 0, 0, []),
  (false, 341, (.iconst 3), 1, 0, 0, []),
  (false, 342, .iadd, 1, 0, 0, []),
  (false, 343, .iaload, 1, 0, 0, []),
  (false, 344, (.aload_n 0), 1, 0, 0, []),
  (false, 345, (.iload_n 3), 1, 0, 0, []),
  (false, 346, (.iconst 4), 1, 0, 0, []),
  (false, 347, .iadd, 1, 0, 0, []),
  (false, 348, .iaload, 1, 0, 0, []),
  (false, 349, (.aload_n 0), 1, 0, 0, []),
  (false, 350, (.iload_n 3), 1, 0, 0, []),
  (false, 351, (.iconst 5), 1, 0, 0, []),
  (false, 352, .iadd, 1, 0, 0, []),
  (false, 353, .iaload, 1, 0, 0, []),
  (false, 354, (.invokevirtual 39), 3, 175, 6, [(12, 0)]),
  (false, 357, (.if_icmp .eq 486), 3, 843, 0, []),
  (false, 360, (.iconst 0), 1, 0, 0, []),
  (false, 361, .ireturn, 1, 1, 0, []),
  (false, 362, (.aload_n 1), 1, 0, 0, []),
  (false, 363, (.aload_n 0), 1, 0, 0, []),
  (false, 364, (.iload_n 3), 1, 0, 0, []),
  (false, 365, (.iconst 1), 1, 0, 0, []),
  (false, 366, .iadd, 1, 0, 0, []),
  (false, 367, .iaload, 1, 0, 0, []),
  (false, 368, (.aload_n 0), 1, 0, 0, []),
  (false, 369, (.iload_n 3), 1, 0, 0, []),
  (false, 370, (.iconst 2), 1, 0, 0, []),
  (false, 371, .iadd, 1, 0, 0, []),
  (false, 372, .iaload, 1, 0, 0, []),
  (false, 373, (.aload_n 0), 1, 0, 0, []),
  (false, 374, (.iload_n 3), 1, 0, 0, []),
  (false, 375, (.iconst 3), 1, 0, 0, []),
  (false, 376, .iadd, 1, 0, 0, []),
  (false, 377, .iaload, 1, 0, 0, []),
  (false, 378, (.aload_n 0), 1, 0, 0, []),
  (false, 379, (.iload_n 3), 1, 0, 0, []),
  (false, 380, (.iconst 4), 1, 0, 0, []),
  (false, 381, .iadd, 1, 0, 0, []),
  (false, 382, .iaload, 1, 0, 0, []),
  (false, 383, (.invokevirtual 40), 3, 110, 5, [(11, 0)]),
  (false, 386, (.aload_n 2), 1, 0, 0, []),
  (false, 387, (.aload_n 0), 1, 0, 0, []),
  (false, 388, (.iload_n 3), 1, 0, 0, []),
  (false, 389, (.iconst 1), 1, 0, 0, []),
  (false, 390, .iadd, 1, 0, 0, []),
  (false, 391, .iaload, 1, 0, 0, []),
  (false, 392, (.aload_n 0), 1, 0, 0, []),
  (false, 393, (.iload_n 3), 1, 0, 0, []),
  (false, 394, (.iconst 2), 1, 0, 0, []),
  (false, 395, .iadd, 1, 0, 0, []),
  (false, 396, .iaload, 1, 0, 0, []),
  (false, 397, (.aload_n 0), 1, 0, 0, []),
  (false, 398, (.iload_n 3), 1, 0, 0, []),
  (false, 399, (.iconst 3), 1, 0, 0, []),
  (false, 400, .iadd, 1, 0, 0, []),
  (false, 401, .iaload, 1, 0, 0, []),
  (false, 402, (.aload_n 0), 1, 0, 0, []),
  (false, 403, (.iload_n 3), 1, 0, 0, []),
  (false, 404, (.iconst 4), 1, 0, 0, []),
  (false, 405, .iadd, 1, 0, 0, []),
  (false, 406, .iaload, 1, 0, 0, []),
  (false, 407, (.invokevirtual 44), 3, 176, 5, [(12, 0)]),
  (false, 410, (.if_icmp .eq 433), 3, 843, 0, []),
  (false, 413, (.iconst 0), 1, 0, 0, []),
  (false, 414, .ireturn, 1, 1, 0, []),
  (false, 415, (.aload_n 1), 1, 0, 0, []),
  (false, 416, (.aload_n 0), 1, 0, 0, []),
  (false, 417, (.iload_n 3), 1, 0, 0, []),
  (false, 418, (.iconst 1), 1, 0, 0, []),
  (false, 419, .iadd, 1, 0, 0, []),
  (false, 420, .iaload, 1, 0, 0, []),
  (false, 421, (.invokevirtual 45), 3, 111, 2, [(11, 0)]),
  (false, 424, (.aload_n 2), 1, 0, 0, []),
  (false, 425, (.aload_n 0), 1, 0, 0, []),
  (false, 426, (.iload_n 3), 1, 0, 0, []),
  (false, 427, (.iconst 1), 1, 0, 0, []),
  (false, 428, .iadd, 1, 0, 0, []),
  (false, 429, .iaload, 1, 0, 0, []),
  (false, 430, (.invokevirtual 48), 3, 177, 2, [(12, 0)]),
  (false, 433, (.if_icmp .eq 410), 3, 843, 0, []),
  (false, 436, (.iconst 0), 1, 0, 0, []),
  (false, 437, .ireturn, 1, 1, 0, []),
  (false, 438, (.aload_n 1), 1, 0, 0, []),
  (false, 439, (.aload_n 0), 1, 0, 0, []),
  (false, 440, (.iload_n 3), 1, 0, 0, []),
  (false, 441, (.iconst 1), 1, 0, 0, []),
  (false, 442, .iadd, 1, 0, 0, []),
  (false, 443, .iaload, 1, 0, 0, []),
  (false, 444, (.aload_n 0), 1, 0, 0, []),
  (false, 445, (.iload_n 3), 1, 0, 0, []),
  (false, 446, (.iconst 2), 1, 0, 0, []),
  (false, 447, .iadd, 1, 0, 0, []),
  (false, 448, .iaload, 1, 0, 0, []),
  (false, 449, (.aload_n 0), 1, 0, 0, []),
  (false, 450, (.iload_n 3), 1, 0, 0, []),
  (false, 451, (.iconst 3), 1, 0, 0, []),
  (false, 452, .iadd, 1, 0, 0, []),
  (false, 453, .iaload, 1, 0, 0, []),
  (false, 454, (.aload_n 0), 1, 0, 0, []),
  (false, 455, (.iload_n 3), 1, 0, 0, []),
  (false, 456, (.iconst 4), 1, 0, 0, []),
  (false, 457, .iadd, 1, 0, 0, []),
  (false, 458, .iaload, 1, 0, 0, []),
  (false, 459, (.invokevirtual 49), 3, 112, 5, [(11, 0)]),
  (false, 462, (.aload_n 2), 1, 0, 0, []),
  (false, 463, (.aload_n 0), 1, 0, 0, []),
  (false, 464, (.iload_n 3), 1, 0, 0, []),
  (false, 465, (.iconst 1), 1, 0, 0, []),
  (false, 466, .iadd, 1, 0, 0, []),
  (false, 467, .iaload, 1, 0, 0, []),
  (false, 468, (.aload_n 0), 1, 0, 0, []),
  (false, 469, (.iload_n 3), 1, 0, 0, []),
  (false, 470, (.iconst 2), 1, 0, 0, []),
  (false, 471, .iadd, 1, 0, 0, []),
  (false, 472, .iaload, 1, 0, 0, []),
  (false, 473, (.aload_n 0), 1, 0, 0, []),
  (false, 474, (.iload_n 3), 1, 0, 0, []),
  (false, 475, (.iconst 3), 1, 0, 0, []),
  (false, 476, .iadd, 1, 0, 0, []),
  (false, 477, .iaload, 1, 0, 0, []),
  (false, 478, (.aload_n 0), 1, 0, 0, []),
  (false, 479, (.iload_n 3), 1, 0, 0, []),
  (false, 480, (.iconst 4), 1, 0, 0, []),
  (false, 481, .iadd, 1, 0, 0, []),
  (false, 482, .iaload, 1, 0, 0, []),
  (false, 483, (.invokevirtual 53), 3, 179, 5, [(12, 0)]),
  (false, 486, .lcmp, 1, 0, 0, []),
  (false, 487, (.ifCond .eq 356), 3, 843, 0, []),
  (false, 490, (.iconst 0), 1, 0, 0, []),
  (false, 491, .ireturn, 1, 1, 0, []),
  (false, 492, (.aload_n 1), 1, 0, 0, []),
  (false, 493, (.aload_n 0), 1, 0, 0, []),
  (false, 494, (.iload_n 3), 1, 0, 0, []),
  (false, 495, (.iconst 1), 1, 0, 0, []),
  (false, 496, .iadd, 1, 0, 0, []),
  (false, 497, .iaload, 1, 0, 0, []),
  (false, 498, (.aload_n 0), 1, 0, 0, []),
  (false, 499, (.iload_n 3), 1, 0, 0, []),
  (false, 500, (.iconst 2), 1, 0, 0, []),
  (false, 501, .iadd, 1, 0, 0, []),
  (false, 502, .iaload, 1, 0, 0, []),
  (false, 503, (.aload_n 0), 1, 0, 0, []),
  (false, 504, (.iload_n 3), 1, 0, 0, []),
  (false, 505, (.iconst 3), 1, 0, 0, []),
  (false, 506, .iadd, 1, 0, 0, []),
  (false, 507, .iaload, 1, 0, 0, []),
  (false, 508, (.aload_n 0), 1, 0, 0, []),
  (false, 509, (.iload_n 3), 1, 0, 0, []),
  (false, 510, (.iconst 4), 1, 0, 0, []),
  (false, 511, .iadd, 1, 0, 0, []),
  (false, 512, .iaload, 1, 0, 0, []),
  (false, 513, (.invokevirtual 54), 3, 113, 5, [(11, 0)]),
  (false, 516, (.aload_n 2), 1, 0, 0, []),
  (false, 517, (.aload_n 0), 1, 0, 0, []),
  (false, 518, (.iload_n 3), 1, 0, 0, []),
  (false, 519, (.iconst 1), 1, 0, 0, []),
  (false, 520, .iadd, 1, 0, 0, []),
  (false, 521, .iaload, 1, 0, 0, []),
  (false, 522, (.aload_n 0), 1, 0, 0, []),
  (false, 523, (.iload_n 3), 1, 0, 0, []),
  (false, 524, (.iconst 2), 1, 0, 0, []),
  (false, 525, .iadd, 1, 0, 0, []),
  (false, 526, .iaload, 1, 0, 0, []),
  (false, 527, (.aload_n 0), 1, 0, 0, []),
  (false, 528, (.iload_n 3), 1, 0, 0, []),
  (false, 529, (.iconst 3), 1, 0, 0, []),
  (false, 530, .iadd, 1, 0, 0, []),
  (false, 531, .iaload, 1, 0, 0, []),
  (false, 532, (.aload_n 0), 1, 0, 0, []),
  (false, 533, (.iload_n 3), 1, 0, 0, []),
  (false, 534, (.iconst 4), 1, 0, 0, []),
  (false, 535, .iadd, 1, 0, 0, []),
  (false, 536, .iaload, 1, 0, 0, []),
  (false, 537, (.invokevirtual 57), 3, 180, 5, [(12, 0)]),
  (false, 540, (.if_icmp .eq 303), 3, 843, 0, []),
  (false, 543, (.iconst 0), 1, 0, 0, []),
  (false, 544, .ireturn, 1, 1, 0, []),
  (false, 545, (.aload_n 1), 1, 0, 0, []),
  (false, 546, (.aload_n 0), 1, 0, 0, []),
  (false, 547, (.iload_n 3), 1, 0, 0, []),
  (false, 548, (.iconst 1), 1, 0, 0, []),
  (false, 549, .iadd, 1, 0, 0, []),
  (false, 550, .iaload, 1, 0, 0, []),
  (false, 551, (.aload_n 0), 1, 0, 0, []),
  (false, 552, (.iload_n 3), 1, 0, 0, []),
  (false, 553, (.iconst 2), 1, 0, 0, []),
  (false, 554, .iadd, 1, 0, 0, []),
  (false, 555, .iaload, 1, 0, 0, []),
  (false, 556, (.aload_n 0), 1, 0, 0, []),
  (false, 557, (.iload_n 3), 1, 0, 0, []),
  (false, 558, (.iconst 3), 1, 0, 0, []),
  (false, 559, .iadd, 1, 0, 0, []),
  (false, 560, .iaload, 1, 0, 0, []),
  (false, 561, (.invokevirtual 58), 3, 114, 4, [(11, 0)]),
  (false, 564, (.aload_n 2), 1, 0, 0, []),
  (false, 565, (.aload_n 0), 1, 0, 0, []),
  (false, 566, (.iload_n 3), 1, 0, 0, []),
  (false, 567, (.iconst 1), 1, 0, 0, []),
  (false, 568, .iadd, 1, 0, 0, []),
  (false, 569, .iaload, 1, 0, 0, []),
  (false, 570, (.aload_n 0), 1, 0, 0, []),
  (false, 571, (.iload_n 3), 1, 0, 0, []),
  (false, 572, (.iconst 2), 1, 0, 0, []),
  (false, 573, .iadd, 1, 0, 0, []),
  (false, 574, .iaload, 1, 0, 0, []),
  (false, 575, (.aload_n 0), 1, 0, 0, []),
  (false, 576, (.iload_n 3), 1, 0, 0, []),
  (false, 577, (.iconst 3), 1, 0, 0, []),
  (false, 578, .iadd, 1, 0, 0, []),
  (false, 579, .iaload, 1, 0, 0, []),
  (false, 580, (.invokevirtual 62), 3, 183, 4, [(12, 0)]),
  (false, 583, .lcmp, 1, 0, 0, []),
  (false, 584, (.ifCond .eq 259), 3, 843, 0, []),
  (false, 587, (.iconst 0), 1, 0, 0, []),
  (false, 588, .ireturn, 1, 1, 0, []),
  (false, 589, (.aload_n 1), 1, 0, 0, []),
  (false, 590, (.aload_n 0), 1, 0, 0, []),
  (false, 591, (.iload_n 3), 1, 0, 0, []),
  (false, 592, (.iconst 1), 1, 0, 0, []),
  (false, 593, .iadd, 1, 0, 0, []),
  (false, 594, .iaload, 1, 0, 0, []),
  (false, 595, (.aload_n 0), 1, 0, 0, []),
  (false, 596, (.iload_n 3), 1, 0, 0, []),
  (false, 597, (.iconst 2), 1, 0, 0, []),
  (false, 598, .iadd, 1, 0, 0, []),
  (false, 599, .iaload, 1, 0, 0, []),
  (false, 600, (.aload_n 0), 1, 0, 0, []),
  (false, 601, (.iload_n 3), 1, 0, 0, []),
  (false, 602, (.iconst 3), 1, 0, 0, []),
  (false, 603, .iadd, 1, 0, 0, []),
  (false, 604, .iaload, 1, 0, 0, []),
  (false, 605, (.aload_n 0), 1, 0, 0, []),
  (false, 606, (.iload_n 3), 1, 0, 0, []),
  (false, 607, (.iconst 4), 1, 0, 0, []),
  (false, 608, .iadd, 1, 0, 0, []),
  (false, 609, .iaload, 1, 0, 0, []),
  (false, 610, (.invokevirtual 63), 3, 115, 5, [(11, 0)]),
  (false, 613, (.aload_n 2), 1, 0, 0, []),
  (false, 614, (.aload_n 0), 1, 0, 0, []),
  (false, 615, (.iload_n 3), 1, 0, 0, []),
  (false, 616, (.iconst 1), 1, 0, 0, []),
  (false, 617, .iadd, 1, 0, 0, []),
  (false, 618, .iaload, 1, 0, 0, []),
  (false, 619, (.aload_n 0), 1, 0, 0, []),
  (false, 620, (.iload_n 3), 1, 0, 0, []),
  (false, 621, (.iconst 2), 1, 0, 0, []),
  (false, 622, .iadd, 1, 0, 0, []),
  (false, 623, .iaload, 1, 0, 0, []),
  (false, 624, (.aload_n 0), 1, 0, 0, []),
  (false, 625, (.iload_n 3), 1, 0, 0, []),
  (false, 626, (.iconst 3), 1, 0, 0, []),
  (false, 627, .iadd, 1, 0, 0, []),
  (false, 628, .iaload, 1, 0, 0, []),
  (false, 629, (.aload_n 0), 1, 0, 0, []),
  (false, 630, (.iload_n 3), 1, 0, 0, []),
  (false, 631, (.iconst 4), 1, 0, 0, []),
  (false, 632, .iadd, 1, 0, 0, []),
  (false, 633, .iaload, 1, 0, 0, []),
  (false, 634, (.invokevirtual 66), 3, 185, 5, [(12, 0)]),
  (false, 637, (.if_icmp .eq 206), 3, 843, 0, []),
  (false, 640, (.iconst 0), 1, 0, 0, []),
  (false, 641, .ireturn, 1, 1, 0, []),
  (false, 642, (.aload_n 1), 1, 0, 0, []),
  (false, 643, (.aload_n 0), 1, 0, 0, []),
  (false, 644, (.iload_n 3), 1, 0, 0, []),
  (false, 645, (.iconst 1), 1, 0, 0, []),
  (false, 646, .iadd, 1, 0, 0, []),
  (false, 647, .iaload, 1, 0, 0, []),
  (false, 648, (.aload_n 0), 1, 0, 0, []),
  (false, 649, (.iload_n 3), 1, 0, 0, []),
  (false, 650, (.iconst 2), 1, 0, 0, []),
  (false, 651, .iadd, 1, 0, 0, []),
  (false, 652, .iaload, 1, 0, 0, []),
  (false, 653, (.invokevirtual 67), 3, 116, 3, [(11, 0)]),
  (false, 656, (.aload_n 2), 1, 0, 0, []),
  (false, 657, (.aload_n 0), 1, 0, 0, []),
  (false, 658, (.iload_n 3), 1, 0, 0, []),
  (false, 659, (.iconst 1), 1, 0, 0, []),
  (false, 660, .iadd, 1, 0, 0, []),
  (false, 661, .iaload, 1, 0, 0, []),
  (false, 662, (.aload_n 0), 1, 0, 0, []),
  (false, 663, (.iload_n 3), 1, 0, 0, []),
  (false, 664, (.iconst 2), 1, 0, 0, []),
  (false, 665, .iadd, 1, 0, 0, []),
  (false, 666, .iaload, 1, 0, 0, []),
  (false, 667, (.invokevirtual 70), 3, 186, 3, [(12, 0)]),
  (false, 670, (.if_icmp .eq 173), 3, 843, 0, []),
  (false, 673, (.iconst 0), 1, 0, 0, []),
  (false, 674, .ireturn, 1, 1, 0, []),
  (false, 675, (.aload_n 1), 1, 0, 0, []),
  (false, 676, (.aload_n 0), 1, 0, 0, []),
  (false, 677, (.iload_n 3), 1, 0, 0, []),
  (false, 678, (.iconst 1), 1, 0, 0, []),
  (false, 679, .iadd, 1, 0, 0, []),
  (false, 680, .iaload, 1, 0, 0, []),
  (false, 681, (.aload_n 0), 1, 0, 0, []),
  (false, 682, (.iload_n 3), 1, 0, 0, []),
  (false, 683, (.iconst 2), 1, 0, 0, []),
  (false, 684, .iadd, 1, 0, 0, []),
  (false, 685, .iaload, 1, 0, 0, []),
  (false, 686, (.invokevirtual 71), 3, 117, 3, [(11, 0)]),
  (false, 689, (.aload_n 2), 1, 0, 0, []),
  (false, 690, (.aload_n 0), 1, 0, 0, []),
  (false, 691, (.iload_n 3), 1, 0, 0, []),
  (false, 692, (.iconst 1), 1, 0, 0, []),
  (false, 693, .iadd, 1, 0, 0, []),
  (false, 694, .iaload, 1, 0, 0, []),
  (false, 695, (.aload_n 0), 1, 0, 0, []),
  (false, 696, (.iload_n 3), 1, 0, 0, []),
  (false, 697, (.iconst 2), 1, 0, 0, []),
  (false, 698, .iadd, 1, 0, 0, []),
  (false, 699, .iaload, 1, 0, 0, []),
  (false, 700, (.invokevirtual 74), 3, 189, 3, [(12, 0)]),
  (false, 703, (.if_icmp .eq 140), 3, 843, 0, []),
  (false, 706, (.iconst 0), 1, 0, 0, []),
  (false, 707, .ireturn, 1, 1, 0, []),
  (false, 708, (.aload_n 1), 1, 0, 0, []),
  (false, 709, (.aload_n 0), 1, 0, 0, []),
  (false, 710, (.iload_n 3), 1, 0, 0, []),
  (false, 711, (.iconst 1), 1, 0, 0, []),
  (false, 712, .iadd, 1, 0, 0, []),
  (false, 713, .iaload, 1, 0, 0, []),
  (false, 714, (.aload_n 0), 1, 0, 0, []),
  (false, 715, (.iload_n 3), 1, 0, 0, []),
  (false, 716, (.iconst 2), 1, 0, 0, []),
  (false, 717, .iadd, 1, 0, 0, []),
  (false, 718, .iaload, 1, 0, 0, []),
  (false, 719, (.aload_n 0), 1, 0, 0, []),
  (false, 720, (.iload_n 3), 1, 0, 0, []),
  (false, 721, (.iconst 3), 1, 0, 0, []),
  (false, 722, .iadd, 1, 0, 0, []),
  (false, 723, .iaload, 1, 0, 0, []),
  (false, 724, (.invokevirtual 75), 3, 118, 4, [(11, 0)]),
  (false, 727, (.aload_n 2), 1, 0, 0, []),
  (false, 728, (.aload_n 0), 1, 0, 0, []),
  (false, 729, (.iload_n 3), 1, 0, 0, []),
  (false, 730, (.iconst 1), 1, 0, 0, []),
  (false, 731, .iadd, 1, 0, 0, []),
  (false, 732, .iaload, 1, 0, 0, []),
  (false, 733, (.aload_n 0), 1, 0, 0, []),
  (false, 734, (.iload_n 3), 1, 0, 0, []),
  (false, 735, (.iconst 2), 1, 0, 0, []),
  (false, 736, .iadd, 1, 0, 0, []),
  (false, 737, .iaload, 1, 0, 0, []),
  (false, 738, (.aload_n 0), 1, 0, 0, []),
  (false, 739, (.iload_n 3), 1, 0, 0, []),
  (false, 740, (.iconst 3), 1, 0, 0, []),
  (false, 741, .iadd, 1, 0, 0, []),
  (false, 742, .iaload, 1, 0, 0, []),
  (false, 743, (.invokevirtual 79), 3, 192, 4, [(12, 0)]),
  (false, 746, (.if_icmp .eq 97), 3, 843, 0, []),
  (false, 749, (.iconst 0), 1, 0, 0, []),
  (false, 750, .ireturn, 1, 1, 0, []),
  (false, 751, (.aload_n 1), 1, 0, 0, []),
  (false, 752, (.aload_n 0), 1, 0, 0, []),
  (false, 753, (.iload_n 3), 1, 0, 0, []),
  (false, 754, (.iconst 1), 1, 0, 0, []),
  (false, 755, .iadd, 1, 0, 0, []),
  (false, 756, .iaload, 1, 0, 0, []),
  (false, 757, (.aload_n 0), 1, 0, 0, []),
  (false, 758, (.iload_n 3), 1, 0, 0, []),
  (false, 759, (.iconst 2), 1, 0, 0, []),
  (false, 760, .iadd, 1, 0, 0, []),
  (false, 761, .iaload, 1, 0, 0, []),
  (false, 762, (.aload_n 0), 1, 0, 0, []),
  (false, 763, (.iload_n 3), 1, 0, 0, []),
  (false, 764, (.iconst 3), 1, 0, 0, []),
  (false, 765, .iadd, 1, 0, 0, []),
  (false, 766, .iaload, 1, 0, 0, []),
  (false, 767, (.invokevirtual 80), 3, 119, 4, [(11, 0)]),
  (false, 770, (.aload_n 2), 1, 0, 0, []),
  (false, 771, (.aload_n 0), 1, 0, 0, []),
  (false, 772, (.iload_n 3), 1, 0, 0, []),
  (false, 773, (.iconst 1), 1, 0, 0, []),
  (false, 774, .iadd, 1, 0, 0, []),
  (false, 775, .iaload, 1, 0, 0, []),
  (false, 776, (.aload_n 0), 1, 0, 0, []),
  (false, 777, (.iload_n 3), 1, 0, 0, []),
  (false, 778, (.iconst 2), 1, 0, 0, []),
  (false, 779, .iadd, 1, 0, 0, []),
  (false, 780, .iaload, 1, 0, 0, []),
  (false, 781, (.aload_n 0), 1, 0, 0, []),
  (false, 782, (.iload_n 3), 1, 0, 0, []),
  (false, 783, (.iconst 3), 1, 0, 0, []),
  (false, 784, .iadd, 1, 0, 0, []),
  (false, 785, .iaload, 1, 0, 0, []),
  (false, 786, (.invokevirtual 83), 3, 193, 4, [(12, 0)]),
  (false, 789, (.if_icmp .eq 54), 3, 843, 0, []),
  (false, 792, (.iconst 0), 1, 0, 0, []),
  (false, 793, .ireturn, 1, 1, 0, []),
  (false, 794, (.aload_n 1), 1, 0, 0, []),
  (false, 795, (.invokevirtual 84), 3, 120, 1, [(11, 0)]),
  (false, 798, (.aload_n 2), 1, 0, 0, []),
  (false, 799, (.invokevirtual 88), 3, 195, 1, [(12, 0)]),
  (false, 802, (.if_icmp .eq 41), 3, 843, 0, []),
  (false, 805, (.iconst 0), 1, 0, 0, []),
  (false, 806, .ireturn, 1, 1, 0, []),
  (false, 807, (.aload_n 1), 1, 0, 0, []),
  (false, 808, (.invokevirtual 89), 3, 121, 1, [(11, 0)]),
  (false, 811, (.aload_n 2), 1, 0, 0, []),
  (false, 812, (.invokevirtual 92), 3, 196, 1, [(12, 0)]),
  (false, 815, (.if_icmp .eq 28), 3, 843, 0, []),
  (false, 818, (.iconst 0), 1, 0, 0, []),
  (false, 819, .ireturn, 1, 1, 0, []),
  (false, 820, (.aload_n 1), 1, 0, 0, []),
  (false, 821, (.aload_n 0), 1, 0, 0, []),
  (false, 822, (.iload_n 3), 1, 0, 0, []),
  (false, 823, (.iconst 1), 1, 0, 0, []),
  (false, 824, .iadd, 1, 0, 0, []),
  (false, 825, .iaload, 1, 0, 0, []),
  (false, 826, (.invokevirtual 93), 3, 122, 2, [(11, 0)]),
  (false, 829, (.aload_n 2), 1, 0, 0, []),
  (false, 830, (.aload_n 0), 1, 0, 0, []),
  (false, 831, (.iload_n 3), 1, 0, 0, []),
  (false, 832, (.iconst 1), 1, 0, 0, []),
  (false, 833, .iadd, 1, 0, 0, []),
  (false, 834, .iaload, 1, 0, 0, []),
  (false, 835, (.invokevirtual 96), 3, 197, 2, [(12, 0)]),
  (false, 838, (.if_icmp .eq 5), 3, 843, 0, []),
  (false, 841, (.iconst 0), 1, 0, 0, []),
  (false, 842, .ireturn, 1, 1, 0, []),
  (false, 843, (.iinc 3 6), 3, 0, 0, []),
  (false, 846, (.goto (-828)), 3, 18, 0, []),
  (false, 849, (.iconst 1), 1, 0, 0, []),
  (false, 850, .ireturn, 1, 1, 0, [])]
def ab_ms : List ab_M := [
  (yX0_init, cX0_init, 2, (none), kX0_init),
  (yX0_change, cX0_change, 7, (Option.some (Jvm.ClassFile.FieldType.object "NestedFoci$Thing")), kX0_change),
  (yX0_focusCount, cX0_focusCount, 1, (Option.some Jvm.ClassFile.FieldType.int), kX0_focusCount),
  (yX0_changeWithin, cX0_changeWithin, 8, (Option.some (Jvm.ClassFile.FieldType.object "NestedFoci$Thing")), kX0_changeWithin),
  (yX0_changeFocus, cX0_changeFocus, 4, (Option.some (Jvm.ClassFile.FieldType.object "NestedFoci$Thing")), kX0_changeFocus),
  (yX0_changeOrder, cX0_changeOrder, 2, (Option.some (Jvm.ClassFile.FieldType.object "NestedFoci$Thing")), kX0_changeOrder),
  (yX0_makeNumberOf, cX0_makeNumberOf, 3, (Option.some (Jvm.ClassFile.FieldType.object "NestedFoci$Thing")), kX0_makeNumberOf),
  (yX0_make, cX0_make, 5, (Option.some (Jvm.ClassFile.FieldType.object "NestedFoci$Thing")), kX0_make),
  (yX0_makeAround, cX0_makeAround, 3, (Option.some (Jvm.ClassFile.FieldType.object "NestedFoci$Thing")), kX0_makeAround),
  (yX0_mayMake, cX0_mayMake, 1, (Option.some Jvm.ClassFile.FieldType.boolean), kX0_mayMake),
  (yX0_justOne, cX0_justOne, 2, (Option.some (Jvm.ClassFile.FieldType.array (Jvm.ClassFile.FieldType.object "NestedFoci$Thing"))), kX0_justOne),
  (yX0_reversed, cX0_reversed, 4, (Option.some (Jvm.ClassFile.FieldType.array (Jvm.ClassFile.FieldType.object "NestedFoci$Thing"))), kX0_reversed),
  (yX0_turned, cX0_turned, 4, (Option.some (Jvm.ClassFile.FieldType.array (Jvm.ClassFile.FieldType.object "NestedFoci$Thing"))), kX0_turned),
  (yX0_sorted, cX0_sorted, 5, (Option.some (Jvm.ClassFile.FieldType.array (Jvm.ClassFile.FieldType.object "NestedFoci$Thing"))), kX0_sorted),
  (yX1_init, cX1_init, 1, (none), kX1_init),
  (yX1_find, cX1_find, 3, (none), kX1_find),
  (yX1_findWithin, cX1_findWithin, 8, (none), kX1_findWithin),
  (yX1_add, cX1_add, 2, (none), kX1_add),
  (yX1_size, cX1_size, 1, (Option.some Jvm.ClassFile.FieldType.int), kX1_size),
  (yX1_place, cX1_place, 2, (Option.some Jvm.ClassFile.FieldType.int), kX1_place),
  (yX2_init, cX2_init, 1, (none), kX2_init),
  (yX2_find, cX2_find, 3, (none), kX2_find),
  (yX2_findWithin, cX2_findWithin, 6, (none), kX2_findWithin),
  (yX2_add, cX2_add, 2, (none), kX2_add),
  (yX2_size, cX2_size, 1, (Option.some Jvm.ClassFile.FieldType.int), kX2_size),
  (yX2_isEmpty, cX2_isEmpty, 1, (Option.some Jvm.ClassFile.FieldType.boolean), kX2_isEmpty),
  (yX2_at, cX2_at, 2, (Option.some (Jvm.ClassFile.FieldType.object "NestedFoci$Thing")), kX2_at),
  (yX2_sum, cX2_sum, 4, (Option.some Jvm.ClassFile.FieldType.long), kX2_sum),
  (yX2_numbersWithin, cX2_numbersWithin, 5, (Option.some Jvm.ClassFile.FieldType.long), kX2_numbersWithin),
  (yX2_greatest, cX2_greatest, 3, (Option.some Jvm.ClassFile.FieldType.int), kX2_greatest),
  (yX2_least, cX2_least, 3, (Option.some Jvm.ClassFile.FieldType.int), kX2_least),
  (yX2_unlike, cX2_unlike, 3, (Option.some Jvm.ClassFile.FieldType.int), kX2_unlike),
  (yX2_isLikeOneAhead, cX2_isLikeOneAhead, 3, (Option.some Jvm.ClassFile.FieldType.boolean), kX2_isLikeOneAhead),
  (yX2_height, cX2_height, 3, (Option.some Jvm.ClassFile.FieldType.int), kX2_height),
  (yX2_nodes, cX2_nodes, 3, (Option.some Jvm.ClassFile.FieldType.int), kX2_nodes),
  (yX2_areAllAlike, cX2_areAllAlike, 3, (Option.some Jvm.ClassFile.FieldType.boolean), kX2_areAllAlike),
  (yX2_sorted, cX2_sorted, 5, (Option.some Jvm.ClassFile.FieldType.int), kX2_sorted),
  (yX2_isAhead, cX2_isAhead, 3, (Option.some Jvm.ClassFile.FieldType.boolean), kX2_isAhead),
  (yX3_init, cX3_init, 1, (none), kX3_init),
  (yX3_add, cX3_add, 3, (none), kX3_add),
  (yX3_hasKey, cX3_hasKey, 3, (Option.some Jvm.ClassFile.FieldType.boolean), kX3_hasKey),
  (yX3_putByKey, cX3_putByKey, 4, (none), kX3_putByKey),
  (yX3_together, cX3_together, 5, (Option.some (Jvm.ClassFile.FieldType.object "NestedFoci$Thing")), kX3_together),
  (yX3_placeOf, cX3_placeOf, 3, (Option.some Jvm.ClassFile.FieldType.int), kX3_placeOf),
  (yX3_insert, cX3_insert, 5, (none), kX3_insert),
  (yX4_init, cX4_init, 3, (none), kX4_init),
  (yX4_size, cX4_size, 1, (Option.some Jvm.ClassFile.FieldType.int), kX4_size),
  (yX4_goingOnBy, cX4_goingOnBy, 6, (Option.some (Jvm.ClassFile.FieldType.object "NestedFoci$Path")), kX4_goingOnBy),
  (yX4_keeps, cX4_keeps, 3, (Option.some Jvm.ClassFile.FieldType.boolean), kX4_keeps),
  (yX4_enters, cX4_enters, 4, (Option.some Jvm.ClassFile.FieldType.boolean), kX4_enters),
  (yX4_stepWithin, cX4_stepWithin, 2, (Option.some Jvm.ClassFile.FieldType.int), kX4_stepWithin),
  (yX4_sign, cX4_sign, 2, (Option.some Jvm.ClassFile.FieldType.int), kX4_sign),
  (yX4_word, cX4_word, 2, (Option.some Jvm.ClassFile.FieldType.int), kX4_word),
  (yX5_init, cX5_init, 2, (none), kX5_init),
  (yX5_readWhole, cX5_readWhole, 2, (Option.some (Jvm.ClassFile.FieldType.object "NestedFoci$Path")), kX5_readWhole),
  (yX5_readStep, cX5_readStep, 3, (Option.some Jvm.ClassFile.FieldType.int), kX5_readStep),
  (yX5_readSide, cX5_readSide, 1, (Option.some Jvm.ClassFile.FieldType.int), kX5_readSide),
  (yX5_closed, cX5_closed, 3, (Option.some Jvm.ClassFile.FieldType.int), kX5_closed),
  (yX5_firstOf, cX5_firstOf, 4, (Option.some (Jvm.ClassFile.FieldType.array Jvm.ClassFile.FieldType.int)), kX5_firstOf),
  (yX6_init, cX6_init, 2, (none), kX6_init),
  (yX6_held, cX6_held, 1, (Option.some (Jvm.ClassFile.FieldType.object "NestedFoci$Thing")), kX6_held),
  (yX6_oldCount, cX6_oldCount, 1, (Option.some Jvm.ClassFile.FieldType.int), kX6_oldCount),
  (yX6_become, cX6_become, 3, (none), kX6_become),
  (yX6_becomeLastOld, cX6_becomeLastOld, 1, (none), kX6_becomeLastOld),
  (yX6_restart, cX6_restart, 2, (none), kX6_restart),
  (yX7_init, cX7_init, 1, (none), kX7_init),
  (yX7_sum, cX7_sum, 1, (Option.some Jvm.ClassFile.FieldType.int), kX7_sum),
  (yX7_hasRoomFor, cX7_hasRoomFor, 2, (Option.some Jvm.ClassFile.FieldType.boolean), kX7_hasRoomFor),
  (yX7_adds, cX7_adds, 2, (Option.some Jvm.ClassFile.FieldType.boolean), kX7_adds),
  (yX8_init, cX8_init, 1, (none), kX8_init),
  (yX8_size, cX8_size, 1, (Option.some Jvm.ClassFile.FieldType.int), kX8_size),
  (yX8_add, cX8_add, 2, (none), kX8_add),
  (yX8_clear, cX8_clear, 1, (none), kX8_clear),
  (yX8_rewind, cX8_rewind, 1, (none), kX8_rewind),
  (yX8_at, cX8_at, 1, (Option.some Jvm.ClassFile.FieldType.int), kX8_at),
  (yX8_fault, cX8_fault, 1, (Option.some Jvm.ClassFile.FieldType.int), kX8_fault),
  (yX8_isFaulty, cX8_isFaulty, 1, (Option.some Jvm.ClassFile.FieldType.boolean), kX8_isFaulty),
  (yX8_isAtEnd, cX8_isAtEnd, 1, (Option.some Jvm.ClassFile.FieldType.boolean), kX8_isAtEnd),
  (yX8_fail, cX8_fail, 2, (none), kX8_fail),
  (yX8_next, cX8_next, 1, (Option.some Jvm.ClassFile.FieldType.int), kX8_next),
  (yX8_step, cX8_step, 1, (none), kX8_step),
  (yX8_takes, cX8_takes, 2, (Option.some Jvm.ClassFile.FieldType.boolean), kX8_takes),
  (yX8_needs, cX8_needs, 2, (none), kX8_needs),
  (yX8_digits, cX8_digits, 4, (Option.some Jvm.ClassFile.FieldType.int), kX8_digits),
  (yX8_signedNumber, cX8_signedNumber, 3, (Option.some Jvm.ClassFile.FieldType.int), kX8_signedNumber),
  (yX8_letters, cX8_letters, 3, (Option.some Jvm.ClassFile.FieldType.int), kX8_letters),
  (yX9_init, cX9_init, 11, (none), kX9_init),
  (yX9_size, cX9_size, 1, (Option.some Jvm.ClassFile.FieldType.int), kX9_size),
  (yX9_part, cX9_part, 2, (Option.some (Jvm.ClassFile.FieldType.object "NestedFoci$Thing")), kX9_part),
  (yX9_copyOfParts, cX9_copyOfParts, 3, (Option.some (Jvm.ClassFile.FieldType.array (Jvm.ClassFile.FieldType.object "NestedFoci$Thing"))), kX9_copyOfParts),
  (yX9_letters, cX9_letters, 2, (Option.some Jvm.ClassFile.FieldType.int), kX9_letters),
  (yX9_isTooMuch, cX9_isTooMuch, 1, (Option.some Jvm.ClassFile.FieldType.boolean), kX9_isTooMuch),
  (yX9_isFramedLike, cX9_isFramedLike, 3, (Option.some Jvm.ClassFile.FieldType.boolean), kX9_isFramedLike),
  (yX9_areAlike, cX9_areAlike, 2, (Option.some Jvm.ClassFile.FieldType.boolean), kX9_areAlike),
  (yX9_compare, cX9_compare, 6, (Option.some Jvm.ClassFile.FieldType.int), kX9_compare),
  (yX9_holds, cX9_holds, 4, (Option.some Jvm.ClassFile.FieldType.boolean), kX9_holds),
  (yX10_init, cX10_init, 2, (none), kX10_init),
  (yX10_readWhole, cX10_readWhole, 2, (Option.some (Jvm.ClassFile.FieldType.object "NestedFoci$Thing")), kX10_readWhole),
  (yX10_readOne, cX10_readOne, 3, (Option.some (Jvm.ClassFile.FieldType.object "NestedFoci$Thing")), kX10_readOne),
  (yX10_readPair, cX10_readPair, 4, (Option.some (Jvm.ClassFile.FieldType.object "NestedFoci$Thing")), kX10_readPair),
  (yX10_readTagged, cX10_readTagged, 5, (Option.some (Jvm.ClassFile.FieldType.object "NestedFoci$Thing")), kX10_readTagged),
  (yX10_readMany, cX10_readMany, 8, (Option.some (Jvm.ClassFile.FieldType.object "NestedFoci$Thing")), kX10_readMany),
  (yX10_readNewKey, cX10_readNewKey, 4, (Option.some Jvm.ClassFile.FieldType.int), kX10_readNewKey),
  (yX11_init, cX11_init, 2, (none), kX11_init),
  (yX11_feed, cX11_feed, 4, (Option.some Jvm.ClassFile.FieldType.int), kX11_feed),
  (yX11_thing, cX11_thing, 4, (Option.some Jvm.ClassFile.FieldType.int), kX11_thing),
  (yX11_path, cX11_path, 4, (Option.some Jvm.ClassFile.FieldType.int), kX11_path),
  (yX11_join, cX11_join, 3, (Option.some Jvm.ClassFile.FieldType.int), kX11_join),
  (yX11_over, cX11_over, 8, (Option.some Jvm.ClassFile.FieldType.int), kX11_over),
  (yX11_put, cX11_put, 8, (Option.some Jvm.ClassFile.FieldType.int), kX11_put),
  (yX11_take, cX11_take, 6, (Option.some Jvm.ClassFile.FieldType.int), kX11_take),
  (yX11_undo, cX11_undo, 2, (Option.some Jvm.ClassFile.FieldType.int), kX11_undo),
  (yX11_look, cX11_look, 6, (Option.some Jvm.ClassFile.FieldType.long), kX11_look),
  (yX11_key, cX11_key, 6, (Option.some Jvm.ClassFile.FieldType.int), kX11_key),
  (yX11_fold, cX11_fold, 4, (Option.some Jvm.ClassFile.FieldType.long), kX11_fold),
  (yX11_best, cX11_best, 5, (Option.some Jvm.ClassFile.FieldType.int), kX11_best),
  (yX11_order, cX11_order, 4, (Option.some Jvm.ClassFile.FieldType.int), kX11_order),
  (yX11_shared, cX11_shared, 3, (Option.some Jvm.ClassFile.FieldType.int), kX11_shared),
  (yX11_differ, cX11_differ, 4, (Option.some Jvm.ClassFile.FieldType.int), kX11_differ),
  (yX11_fit, cX11_fit, 9, (Option.some Jvm.ClassFile.FieldType.int), kX11_fit),
  (yX11_image, cX11_image, 2, (Option.some Jvm.ClassFile.FieldType.int), kX11_image),
  (yX11_back, cX11_back, 2, (Option.some Jvm.ClassFile.FieldType.int), kX11_back),
  (yX11_count, cX11_count, 2, (Option.some Jvm.ClassFile.FieldType.int), kX11_count),
  (yX11_isShelf, cX11_isShelf, 1, (Option.some Jvm.ClassFile.FieldType.boolean), kX11_isShelf),
  (yX11_isPath, cX11_isPath, 1, (Option.some Jvm.ClassFile.FieldType.boolean), kX11_isPath),
  (yX11_isHow, cX11_isHow, 2, (Option.some Jvm.ClassFile.FieldType.boolean), kX11_isHow),
  (yX11_held, cX11_held, 2, (Option.some (Jvm.ClassFile.FieldType.object "NestedFoci$Thing")), kX11_held),
  (yX11_focusAt, cX11_focusAt, 4, (Option.some (Jvm.ClassFile.FieldType.object "NestedFoci$Thing")), kX11_focusAt),
  (yX11_allNodes, cX11_allNodes, 3, (Option.some Jvm.ClassFile.FieldType.int), kX11_allNodes),
  (yX11_ofTwo, cX11_ofTwo, 4, (Option.some (Jvm.ClassFile.FieldType.object "NestedFoci$Thing")), kX11_ofTwo),
  (yX11_withKey, cX11_withKey, 5, (Option.some (Jvm.ClassFile.FieldType.object "NestedFoci$Thing")), kX11_withKey),
  (yX11_sharedNodes, cX11_sharedNodes, 5, (Option.some Jvm.ClassFile.FieldType.int), kX11_sharedNodes),
  (yX12_init, cX12_init, 2, (none), kX12_init),
  (yX12_in, cX12_in, 3, (Option.some Jvm.ClassFile.FieldType.boolean), kX12_in),
  (yX12_isShelf, cX12_isShelf, 1, (Option.some Jvm.ClassFile.FieldType.boolean), kX12_isShelf),
  (yX12_isPath, cX12_isPath, 1, (Option.some Jvm.ClassFile.FieldType.boolean), kX12_isPath),
  (yX12_begins, cX12_begins, 5, (Option.some Jvm.ClassFile.FieldType.int), kX12_begins),
  (yX12_ends, cX12_ends, 6, (Option.some Jvm.ClassFile.FieldType.int), kX12_ends),
  (yX12_number, cX12_number, 2, (Option.some Jvm.ClassFile.FieldType.int), kX12_number),
  (yX12_isFull, cX12_isFull, 2, (Option.some Jvm.ClassFile.FieldType.boolean), kX12_isFull),
  (yX12_compared, cX12_compared, 5, (Option.some Jvm.ClassFile.FieldType.int), kX12_compared),
  (yX12_becomes, cX12_becomes, 4, (none), kX12_becomes),
  (yX12_feed, cX12_feed, 4, (Option.some Jvm.ClassFile.FieldType.int), kX12_feed),
  (yX12_here, cX12_here, 1, (Option.some Jvm.ClassFile.FieldType.int), kX12_here),
  (yX12_fails, cX12_fails, 2, (none), kX12_fails),
  (yX12_isFault, cX12_isFault, 1, (Option.some Jvm.ClassFile.FieldType.boolean), kX12_isFault),
  (yX12_one, cX12_one, 4, (Option.some Jvm.ClassFile.FieldType.int), kX12_one),
  (yX12_isHere, cX12_isHere, 2, (Option.some Jvm.ClassFile.FieldType.boolean), kX12_isHere),
  (yX12_digits, cX12_digits, 4, (Option.some Jvm.ClassFile.FieldType.int), kX12_digits),
  (yX12_signed, cX12_signed, 1, (Option.some Jvm.ClassFile.FieldType.int), kX12_signed),
  (yX12_letters, cX12_letters, 3, (Option.some Jvm.ClassFile.FieldType.int), kX12_letters),
  (yX12_adds, cX12_adds, 4, (none), kX12_adds),
  (yX12_puts, cX12_puts, 6, (none), kX12_puts),
  (yX12_hasKey, cX12_hasKey, 5, (Option.some Jvm.ClassFile.FieldType.boolean), kX12_hasKey),
  (yX12_readsEntry, cX12_readsEntry, 6, (Option.some Jvm.ClassFile.FieldType.int), kX12_readsEntry),
  (yX12_readsAll, cX12_readsAll, 5, (none), kX12_readsAll),
  (yX12_reads, cX12_reads, 4, (Option.some Jvm.ClassFile.FieldType.int), kX12_reads),
  (yX12_thing, cX12_thing, 4, (Option.some Jvm.ClassFile.FieldType.int), kX12_thing),
  (yX12_readsStep, cX12_readsStep, 2, (none), kX12_readsStep),
  (yX12_path, cX12_path, 4, (Option.some Jvm.ClassFile.FieldType.int), kX12_path),
  (yX12_join, cX12_join, 5, (Option.some Jvm.ClassFile.FieldType.int), kX12_join),
  (yX12_isItself, cX12_isItself, 4, (Option.some Jvm.ClassFile.FieldType.boolean), kX12_isItself),
  (yX12_isPart, cX12_isPart, 5, (Option.some Jvm.ClassFile.FieldType.boolean), kX12_isPart),
  (yX12_nextStep, cX12_nextStep, 2, (Option.some Jvm.ClassFile.FieldType.int), kX12_nextStep),
  (yX12_goes, cX12_goes, 4, (none), kX12_goes),
  (yX12_looksFor, cX12_looksFor, 3, (none), kX12_looksFor),
  (yX12_makes, cX12_makes, 1, (Option.some Jvm.ClassFile.FieldType.boolean), kX12_makes),
  (yX12_numbered, cX12_numbered, 2, (Option.some Jvm.ClassFile.FieldType.int), kX12_numbered),
  (yX12_copyOf, cX12_copyOf, 4, (Option.some Jvm.ClassFile.FieldType.int), kX12_copyOf),
  (yX12_changed, cX12_changed, 7, (Option.some Jvm.ClassFile.FieldType.int), kX12_changed),
  (yX12_around, cX12_around, 5, (Option.some Jvm.ClassFile.FieldType.int), kX12_around),
  (yX12_became, cX12_became, 5, (Option.some Jvm.ClassFile.FieldType.int), kX12_became),
  (yX12_goesOver, cX12_goesOver, 7, (Option.some Jvm.ClassFile.FieldType.int), kX12_goesOver),
  (yX12_comesOf, cX12_comesOf, 6, (Option.some Jvm.ClassFile.FieldType.int), kX12_comesOf),
  (yX12_over, cX12_over, 8, (Option.some Jvm.ClassFile.FieldType.int), kX12_over),
  (yX12_put, cX12_put, 9, (Option.some Jvm.ClassFile.FieldType.int), kX12_put),
  (yX12_take, cX12_take, 5, (Option.some Jvm.ClassFile.FieldType.int), kX12_take),
  (yX12_undo, cX12_undo, 2, (Option.some Jvm.ClassFile.FieldType.int), kX12_undo),
  (yX12_focusOf, cX12_focusOf, 4, (Option.some Jvm.ClassFile.FieldType.int), kX12_focusOf),
  (yX12_look, cX12_look, 7, (Option.some Jvm.ClassFile.FieldType.long), kX12_look),
  (yX12_key, cX12_key, 6, (Option.some Jvm.ClassFile.FieldType.int), kX12_key),
  (yX12_sumOf, cX12_sumOf, 5, (Option.some Jvm.ClassFile.FieldType.long), kX12_sumOf),
  (yX12_isNew, cX12_isNew, 4, (Option.some Jvm.ClassFile.FieldType.boolean), kX12_isNew),
  (yX12_fold, cX12_fold, 11, (Option.some Jvm.ClassFile.FieldType.long), kX12_fold),
  (yX12_orderedBy, cX12_orderedBy, 4, (Option.some Jvm.ClassFile.FieldType.int), kX12_orderedBy),
  (yX12_best, cX12_best, 9, (Option.some Jvm.ClassFile.FieldType.int), kX12_best),
  (yX12_order, cX12_order, 3, (Option.some Jvm.ClassFile.FieldType.int), kX12_order),
  (yX12_marks, cX12_marks, 3, (none), kX12_marks),
  (yX12_sharedIn, cX12_sharedIn, 4, (Option.some Jvm.ClassFile.FieldType.int), kX12_sharedIn),
  (yX12_shared, cX12_shared, 4, (Option.some Jvm.ClassFile.FieldType.int), kX12_shared),
  (yX12_isLikeBuilt, cX12_isLikeBuilt, 5, (Option.some Jvm.ClassFile.FieldType.boolean), kX12_isLikeBuilt),
  (yX12_differsIn, cX12_differsIn, 6, (none), kX12_differsIn),
  (yX12_differ, cX12_differ, 4, (Option.some Jvm.ClassFile.FieldType.int), kX12_differ),
  (yX12_fit, cX12_fit, 10, (Option.some Jvm.ClassFile.FieldType.int), kX12_fit),
  (yX12_allNodes, cX12_allNodes, 3, (Option.some Jvm.ClassFile.FieldType.int), kX12_allNodes),
  (yX12_image, cX12_image, 2, (Option.some Jvm.ClassFile.FieldType.int), kX12_image),
  (yX12_back, cX12_back, 2, (Option.some Jvm.ClassFile.FieldType.int), kX12_back),
  (yX12_count, cX12_count, 2, (Option.some Jvm.ClassFile.FieldType.int), kX12_count),
  (yJ6_compare_7cf53, cJ6_compare_7cf53, 2, (Option.some Jvm.ClassFile.FieldType.int), kJ6_compare_7cf53),
  (yJ9_max_7cf53, cJ9_max_7cf53, 2, (Option.some Jvm.ClassFile.FieldType.int), kJ9_max_7cf53),
  (yJ9_min_7cf53, cJ9_min_7cf53, 2, (Option.some Jvm.ClassFile.FieldType.int), kJ9_min_7cf53),
  (yL_law, cL_law, maxLocals, ret, kL_law)]
abbrev iX0_init : Nat := 0
abbrev iX0_change : Nat := 1
abbrev iX0_focusCount : Nat := 2
abbrev iX0_changeWithin : Nat := 3
abbrev iX0_changeFocus : Nat := 4
abbrev iX0_changeOrder : Nat := 5
abbrev iX0_makeNumberOf : Nat := 6
abbrev iX0_make : Nat := 7
abbrev iX0_makeAround : Nat := 8
abbrev iX0_mayMake : Nat := 9
abbrev iX0_justOne : Nat := 10
abbrev iX0_reversed : Nat := 11
abbrev iX0_turned : Nat := 12
abbrev iX0_sorted : Nat := 13
abbrev iX1_init : Nat := 14
abbrev iX1_find : Nat := 15
abbrev iX1_findWithin : Nat := 16
abbrev iX1_add : Nat := 17
abbrev iX1_size : Nat := 18
abbrev iX1_place : Nat := 19
abbrev iX2_init : Nat := 20
abbrev iX2_find : Nat := 21
abbrev iX2_findWithin : Nat := 22
abbrev iX2_add : Nat := 23
abbrev iX2_size : Nat := 24
abbrev iX2_isEmpty : Nat := 25
abbrev iX2_at : Nat := 26
abbrev iX2_sum : Nat := 27
abbrev iX2_numbersWithin : Nat := 28
abbrev iX2_greatest : Nat := 29
abbrev iX2_least : Nat := 30
abbrev iX2_unlike : Nat := 31
abbrev iX2_isLikeOneAhead : Nat := 32
abbrev iX2_height : Nat := 33
abbrev iX2_nodes : Nat := 34
abbrev iX2_areAllAlike : Nat := 35
abbrev iX2_sorted : Nat := 36
abbrev iX2_isAhead : Nat := 37
abbrev iX3_init : Nat := 38
abbrev iX3_add : Nat := 39
abbrev iX3_hasKey : Nat := 40
abbrev iX3_putByKey : Nat := 41
abbrev iX3_together : Nat := 42
abbrev iX3_placeOf : Nat := 43
abbrev iX3_insert : Nat := 44
abbrev iX4_init : Nat := 45
abbrev iX4_size : Nat := 46
abbrev iX4_goingOnBy : Nat := 47
abbrev iX4_keeps : Nat := 48
abbrev iX4_enters : Nat := 49
abbrev iX4_stepWithin : Nat := 50
abbrev iX4_sign : Nat := 51
abbrev iX4_word : Nat := 52
abbrev iX5_init : Nat := 53
abbrev iX5_readWhole : Nat := 54
abbrev iX5_readStep : Nat := 55
abbrev iX5_readSide : Nat := 56
abbrev iX5_closed : Nat := 57
abbrev iX5_firstOf : Nat := 58
abbrev iX6_init : Nat := 59
abbrev iX6_held : Nat := 60
abbrev iX6_oldCount : Nat := 61
abbrev iX6_become : Nat := 62
abbrev iX6_becomeLastOld : Nat := 63
abbrev iX6_restart : Nat := 64
abbrev iX7_init : Nat := 65
abbrev iX7_sum : Nat := 66
abbrev iX7_hasRoomFor : Nat := 67
abbrev iX7_adds : Nat := 68
abbrev iX8_init : Nat := 69
abbrev iX8_size : Nat := 70
abbrev iX8_add : Nat := 71
abbrev iX8_clear : Nat := 72
abbrev iX8_rewind : Nat := 73
abbrev iX8_at : Nat := 74
abbrev iX8_fault : Nat := 75
abbrev iX8_isFaulty : Nat := 76
abbrev iX8_isAtEnd : Nat := 77
abbrev iX8_fail : Nat := 78
abbrev iX8_next : Nat := 79
abbrev iX8_step : Nat := 80
abbrev iX8_takes : Nat := 81
abbrev iX8_needs : Nat := 82
abbrev iX8_digits : Nat := 83
abbrev iX8_signedNumber : Nat := 84
abbrev iX8_letters : Nat := 85
abbrev iX9_init : Nat := 86
abbrev iX9_size : Nat := 87
abbrev iX9_part : Nat := 88
abbrev iX9_copyOfParts : Nat := 89
abbrev iX9_letters : Nat := 90
abbrev iX9_isTooMuch : Nat := 91
abbrev iX9_isFramedLike : Nat := 92
abbrev iX9_areAlike : Nat := 93
abbrev iX9_compare : Nat := 94
abbrev iX9_holds : Nat := 95
abbrev iX10_init : Nat := 96
abbrev iX10_readWhole : Nat := 97
abbrev iX10_readOne : Nat := 98
abbrev iX10_readPair : Nat := 99
abbrev iX10_readTagged : Nat := 100
abbrev iX10_readMany : Nat := 101
abbrev iX10_readNewKey : Nat := 102
abbrev iX11_init : Nat := 103
abbrev iX11_feed : Nat := 104
abbrev iX11_thing : Nat := 105
abbrev iX11_path : Nat := 106
abbrev iX11_join : Nat := 107
abbrev iX11_over : Nat := 108
abbrev iX11_put : Nat := 109
abbrev iX11_take : Nat := 110
abbrev iX11_undo : Nat := 111
abbrev iX11_look : Nat := 112
abbrev iX11_key : Nat := 113
abbrev iX11_fold : Nat := 114
abbrev iX11_best : Nat := 115
abbrev iX11_order : Nat := 116
abbrev iX11_shared : Nat := 117
abbrev iX11_differ : Nat := 118
abbrev iX11_fit : Nat := 119
abbrev iX11_image : Nat := 120
abbrev iX11_back : Nat := 121
abbrev iX11_count : Nat := 122
abbrev iX11_isShelf : Nat := 123
abbrev iX11_isPath : Nat := 124
abbrev iX11_isHow : Nat := 125
abbrev iX11_held : Nat := 126
abbrev iX11_focusAt : Nat := 127
abbrev iX11_allNodes : Nat := 128
abbrev iX11_ofTwo : Nat := 129
abbrev iX11_withKey : Nat := 130
abbrev iX11_sharedNodes : Nat := 131
abbrev iX12_init : Nat := 132
abbrev iX12_in : Nat := 133
abbrev iX12_isShelf : Nat := 134
abbrev iX12_isPath : Nat := 135
abbrev iX12_begins : Nat := 136
abbrev iX12_ends : Nat := 137
abbrev iX12_number : Nat := 138
abbrev iX12_isFull : Nat := 139
abbrev iX12_compared : Nat := 140
abbrev iX12_becomes : Nat := 141
abbrev iX12_feed : Nat := 142
abbrev iX12_here : Nat := 143
abbrev iX12_fails : Nat := 144
abbrev iX12_isFault : Nat := 145
abbrev iX12_one : Nat := 146
abbrev iX12_isHere : Nat := 147
abbrev iX12_digits : Nat := 148
abbrev iX12_signed : Nat := 149
abbrev iX12_letters : Nat := 150
abbrev iX12_adds : Nat := 151
abbrev iX12_puts : Nat := 152
abbrev iX12_hasKey : Nat := 153
abbrev iX12_readsEntry : Nat := 154
abbrev iX12_readsAll : Nat := 155
abbrev iX12_reads : Nat := 156
abbrev iX12_thing : Nat := 157
abbrev iX12_readsStep : Nat := 158
abbrev iX12_path : Nat := 159
abbrev iX12_join : Nat := 160
abbrev iX12_isItself : Nat := 161
abbrev iX12_isPart : Nat := 162
abbrev iX12_nextStep : Nat := 163
abbrev iX12_goes : Nat := 164
abbrev iX12_looksFor : Nat := 165
abbrev iX12_makes : Nat := 166
abbrev iX12_numbered : Nat := 167
abbrev iX12_copyOf : Nat := 168
abbrev iX12_changed : Nat := 169
abbrev iX12_around : Nat := 170
abbrev iX12_became : Nat := 171
abbrev iX12_goesOver : Nat := 172
abbrev iX12_comesOf : Nat := 173
abbrev iX12_over : Nat := 174
abbrev iX12_put : Nat := 175
abbrev iX12_take : Nat := 176
abbrev iX12_undo : Nat := 177
abbrev iX12_focusOf : Nat := 178
abbrev iX12_look : Nat := 179
abbrev iX12_key : Nat := 180
abbrev iX12_sumOf : Nat := 181
abbrev iX12_isNew : Nat := 182
abbrev iX12_fold : Nat := 183
abbrev iX12_orderedBy : Nat := 184
abbrev iX12_best : Nat := 185
abbrev iX12_order : Nat := 186
abbrev iX12_marks : Nat := 187
abbrev iX12_sharedIn : Nat := 188
abbrev iX12_shared : Nat := 189
abbrev iX12_isLikeBuilt : Nat := 190
abbrev iX12_differsIn : Nat := 191
abbrev iX12_differ : Nat := 192
abbrev iX12_fit : Nat := 193
abbrev iX12_allNodes : Nat := 194
abbrev iX12_image : Nat := 195
abbrev iX12_back : Nat := 196
abbrev iX12_count : Nat := 197
abbrev iJ6_compare_7cf53 : Nat := 198
abbrev iJ9_max_7cf53 : Nat := 199
abbrev iJ9_min_7cf53 : Nat := 200
abbrev iL_law : Nat := 201
end
section
/-! ===== the abstract machine is sound: contexts, and a rule an instruction (own text) ===== -/
def ab_mt (n : Nat) : ab_M := (ab_ms[n]?).getD (yX0_init, cX0_init, 2, none, [])
abbrev ab_nm (n : Nat) : MethodName := (ab_mt n).1
abbrev ab_bt (n : Nat) : ByteArray := (ab_mt n).2.1
abbrev ab_ml (n : Nat) : Nat := (ab_mt n).2.2.1
abbrev ab_rt (n : Nat) : Option FieldType := (ab_mt n).2.2.2.1
abbrev ab_kd (n : Nat) : List ab_E := (ab_mt n).2.2.2.2
def ab_phi (b0 b a : Nat) : Nat := if a = ab_scr then b else b0 + a
def ab_pv (b0 b : Nat) : ab_V → Value
  | .inl x => .int x
  | .inr (.inl x) => .long x
  | .inr (.inr o) => va_rf (o.map (ab_phi b0 b))
abbrev ab_pl (b0 b : Nat) (ls : ab_L) : List (Nat × Value) := ls.map fun q => (q.1, ab_pv b0 b q.2)
def ab_ce (b0 b : Nat) (cT : Nat → ClassId) : ab_C → va_E
  | .inl (t, n, f) => .inl (cT t, n, .inl f)
  | .inr (.inl (t, n, f)) => .inl (cT t, n, .inr (.inr (.inr (.inr (fun j => (f j).map (ab_phi b0 b))))))
  | .inr (.inr (c, fs)) => .inr (c, fs.map (ab_pv b0 b))
/-- the cells of a heap, one behind another -/
def ab_ws (b0 b : Nat) (cT : Nat → ClassId) (h : ab_H) : va_W := (List.range h.2.1).map fun a => (b0 + a, ab_ce b0 b cT (h.1 a))
def ab_vt : ab_C → Prop
  | .inl (t, _, _) => t = 0 ∨ t = 1
  | .inr (.inl (t, _, _)) => t = 2 ∨ t = 3 ∨ t = 4
  | .inr (.inr _) => True
def ab_okw (w : Jvm.Cond) : Bool := goodWord w || (match w with
  | .methodLinkNest _ _ _ _ => true
  | .fieldLinkNest _ _ _ _ _ _ => true
  | .arrayOver (.object _) => true
  | _ => false)
def ab_KV (D : va_G) (cT : Nat → ClassId) (U : State) : Prop := (∀ w ∈ lw_tbl, ab_okw w = true → va_Nw w U) ∧ va_K D ab_cl (ab_tys cT) U
def ab_Rl (D : va_G) (cT : Nat → ClassId) (b0 b L : Nat) (xs : Nat → Int32) (h : ab_H) (H : Heap) : Prop :=
  H.size = b0 + h.2.1 ∧ h.2.1 ≤ ab_CM ∧ h.2.2 ≤ ab_SM ∧ h.1 ab_scr = ab_ia 9 L xs ∧ (∀ a, h.2.1 ≤ a → a ≠ ab_scr → h.1 a = ab_ob 999 []) ∧ (∀ a, a < h.2.1 → ab_vt (h.1 a)) ∧ va_P D ab_cl (ab_ws b0 b cT h) H
abbrev ab_A (b0 : Nat) : Addr → Prop := fun q => b0 ≤ q
abbrev ab_room (d n0 s0 : Nat) : Room := { frames := d, cells := 600000 - n0, slots := 7302250 - s0, locals := 84000 - 40 * (2048 - d) }
def ab_Cx (p : Program) (s : State) (m : MethodId) (meth : Method) (c : Code) (n : Nat) (D : va_G) (cT : Nat → ClassId) (b0 b L : Nat) (xs : Nat → Int32) (n0 : Nat) : Prop :=
  p.tables.exec = Jvm.exec ∧ c.code = ab_bt n ∧ meth.sig.returnType = ab_rt n ∧ c.maxLocals = ab_ml n ∧ s.vm.findClass (ab_nm n).cls = some m.cls ∧ ab_KV D cT s ∧ meth.locks = false ∧ meth.name = (ab_nm n).name ∧ s.heap.size = b0 + n0 ∧ b < b0 ∧ va_X b L xs s s.heap
/-- what a method leaves: its answer, the heap, what it has made -/
def ab_Qm (Q : ab_Q) (D : va_G) (cT : Nat → ClassId) (b0 b L : Nat) (xs : Nat → Int32) (n0 s0 mc ms : Nat) : Array Value → State → Outcome → State → Prop := fun _ st o t =>
  ∃ (r : Option ab_V) (h' : ab_H), o = .returned (r.map (ab_pv b0 b)) ∧ ab_Rl D cT b0 b L xs h' t.heap ∧ h'.2.1 = n0 + mc ∧ h'.2.2 = s0 + ms ∧ Q r h' ∧ va_F (ab_A b0) st t
def ab_En (below : List Frame) (args : Array Value) (s : State) (Q : ab_Q) (D : va_G) (cT : Nat → ClassId) (b0 b L : Nat) (xs : Nat → Int32) (n0 s0 : Nat) : State → Prop := fun t =>
  ∃ mc ms, MQ below (ab_Qm Q D cT b0 b L xs n0 s0 mc ms) args s mc ms (ab_A b0) t
def ab_WB (d n : Nat) (Q : ab_Q) (pc : Nat) (ls : ab_L) (st : List ab_V) (h : ab_H) : Prop :=
  ∀ (p : Program) (l : Launch) (e : Env) (s : State) (m : MethodId) (args : Array Value) (below : List Frame) (meth : Method) (c : Code) (D : va_G) (cT : Nat → ClassId) (b0 b L : Nat) (xs : Nat → Int32) (n0 s0 : Nat),
    d ≤ 2048 → ab_Cx p s m meth c n D cT b0 b L xs n0 → ∀ (H : Heap) (locs : List Loc) (lsA : Array Slot), lv_has lsA (ab_ml n) (ab_pl b0 b ls) → ab_Rl D cT b0 b L xs h H → va_S (ab_A b0) s.heap H locs → n0 ≤ h.2.1 → s0 ≤ h.2.2 →
    W p l e (ab_room d n0 s0) s m args below meth c H locs (h.2.1 - n0) (h.2.2 - s0) (ab_En below args s Q D cT b0 b L xs n0 s0) (F0 m pc lsA (st.map (ab_pv b0 b)))
def ab_Pc (D : va_G) (cT : Nat → ClassId) (b0 b L : Nat) (xs : Nat → Int32) (args : List ab_V) (h : ab_H) : Array Value → State → Prop := fun av U =>
  av = (args.map (ab_pv b0 b)).toArray ∧ ab_KV D cT U ∧ ab_Rl D cT b0 b L xs h U.heap ∧ b < b0 ∧ va_X b L xs U U.heap
def ab_Qc (Q : ab_Q) (D : va_G) (cT : Nat → ClassId) (b0 b L : Nat) (xs : Nat → Int32) (n0 s0 : Nat) : Array Value → State → Outcome → State → Prop := fun av st o t =>
  ∃ (mc ms : Nat) (Lc : List Loc), FrameEnd st o t Lc mc ms ∧ (∀ q ∈ Lc, ab_A b0 q.base) ∧ ab_Qm Q D cT b0 b L xs n0 s0 mc ms av st o t
def ab_CT (d n : Nat) (args : List ab_V) (h : ab_H) (Q : ab_Q) : Prop :=
  d ≤ 2048 → ∀ (l : Launch) (D : va_G) (cT : Nat → ClassId) (b0 b L : Nat) (xs : Nat → Int32),
    MetFree l (ab_nm n) (headSpec [Jvm.Cond.code (ab_nm n) (ab_bt n) (ab_ml n) (ab_rt n)] (ab_room d h.2.1 h.2.2)) (ab_Pc D cT b0 b L xs args h) (fun _ _ _ _ _ => True) (ab_Qc Q D cT b0 b L xs h.2.1 h.2.2)
theorem ab_ii_toInt (x : Int32) : ab_ii x.toInt = x := by simp [ab_ii]
theorem ab_ii_add (x y : Int32) : x + y = ab_ii (x.toInt + y.toInt) := by rw [ab_ii, Int32.ofInt_add]; simp
theorem ab_ii_sub (x y : Int32) : x - y = ab_ii (x.toInt - y.toInt) := by rw [ab_ii, Int32.ofInt_sub]; simp
theorem ab_ii_mul (x y : Int32) : x * y = ab_ii (x.toInt * y.toInt) := by rw [ab_ii, Int32.ofInt_mul]; simp
theorem ab_ii_neg (x : Int32) : -x = ab_ii (- x.toInt) := by rw [ab_ii, Int32.ofInt_neg]; simp
theorem ab_tI {z : Int} (h1 : -2147483648 ≤ z) (h2 : z < 2147483648) : (ab_ii z).toInt = z := Int32.toInt_ofInt_of_le (by simpa using h1) (by simpa using h2)
theorem ab_pv_cat (b0 b : Nat) (v : ab_V) : (ab_pv b0 b v).category = ab_cat v := by
  match v with
  | .inl x => rfl
  | .inr (.inl x) => rfl
  | .inr (.inr none) => rfl
  | .inr (.inr (some a)) => rfl
theorem ab_cats_pv (b0 b : Nat) (st : List ab_V) : ((st.map (ab_pv b0 b)).map fun v => v.category).sum = ab_cats st := by
  induction st with
  | nil => rfl
  | cons v t ih => simp only [List.map_cons, List.sum_cons, ab_cats, ab_pv_cat, ih]
theorem ab_phi_ne {b0 b a : Nat} (h : a ≠ ab_scr) : ab_phi b0 b a = b0 + a := if_neg h
theorem ab_phi_scr {b0 b : Nat} : ab_phi b0 b ab_scr = b := if_pos rfl
theorem ab_phi_inj {b0 b a a' : Nat} (hb : b < b0) (h : ab_phi b0 b a = ab_phi b0 b a') : a = a' := by
  unfold ab_phi at h
  split at h <;> split at h <;> omega
theorem ab_get_sd {i : Nat} {ls : ab_L} {K : ab_V → Prop} (h : ab_get i ls K) : ∃ (k : Nat) (v : ab_V), ls[k]? = some (i, v) ∧ K v := by
  induction ls with
  | nil => exact h.elim
  | cons q t ih =>
    obtain ⟨j, v⟩ := q
    unfold ab_get at h
    split at h
    next hj => exact ⟨0, v, by simp [Nat.eq_of_beq_eq_true hj], h⟩
    next hj =>
      obtain ⟨k, v, h1, h2⟩ := ih h
      exact ⟨k + 1, v, by simpa using h1, h2⟩
theorem ab_del_sd {i : Nat} {ls : ab_L} {K : ab_L → Prop} (h : ab_del i ls K) : ∃ t, K t ∧ ∀ q ∈ t, q ∈ ls ∧ q.1 ≠ i ∧ ¬ (q.1 + 1 = i ∧ ab_cat q.2 = 2) := by
  induction ls generalizing K with
  | nil => exact ⟨[], h, fun q hq => by cases hq⟩
  | cons q t ih =>
    obtain ⟨j, v⟩ := q
    unfold ab_del at h
    have up : ∀ {K' : ab_L → Prop}, ab_del i t K' → ∃ t', K' t' ∧ ∀ q ∈ t', q ∈ ((j, v) :: t) ∧ q.1 ≠ i ∧ ¬ (q.1 + 1 = i ∧ ab_cat q.2 = 2) := fun hh => by
      obtain ⟨t', h1, h2⟩ := ih hh
      exact ⟨t', h1, fun q hq => ⟨List.mem_cons_of_mem _ (h2 q hq).1, (h2 q hq).2⟩⟩
    have put : ∀ {w : ab_V} (e : v = w), ¬ j = i → ¬ (j + 1 = i ∧ ab_cat w = 2) → ab_del i t (fun t' => K ((j, w) :: t')) → ∃ t', K t' ∧ ∀ q ∈ t', q ∈ ((j, v) :: t) ∧ q.1 ≠ i ∧ ¬ (q.1 + 1 = i ∧ ab_cat q.2 = 2) := fun e g1 g2 hh => by
      subst e
      obtain ⟨t', h1, h2⟩ := ih hh
      refine ⟨_, h1, fun q hq => ?_⟩
      rcases List.mem_cons.mp hq with rfl | hq
      · exact ⟨List.mem_cons_self, g1, g2⟩
      · exact ⟨List.mem_cons_of_mem _ (h2 q hq).1, (h2 q hq).2⟩
    split at h
    next hj => exact up h
    next hj =>
      have hj' : ¬ j = i := fun e => by rw [e, Nat.beq_refl] at hj; cases hj
      split at h
      next y =>
        split at h
        next hk => exact up h
        next hk => exact put rfl hj' (fun e => by rw [e.1, Nat.beq_refl] at hk; cases hk) h
      next x => exact put rfl hj' (fun e => by cases e.2) h
      next o => exact put rfl hj' (fun e => by cases e.2) h
theorem ab_pop_sd {n : Nat} {acc st : List ab_V} {K : List ab_V → List ab_V → Prop} (h : ab_pop n acc st K) : ∃ as rest, as.length = n ∧ st = as ++ rest ∧ K (as.reverse ++ acc) rest := by
  induction n generalizing acc st with
  | zero => exact ⟨[], st, rfl, rfl, h⟩
  | succ n ih =>
    cases st with
    | nil => exact h.elim
    | cons v r =>
      obtain ⟨as, rest, h1, h2, h3⟩ := ih (st := r) (acc := v :: acc) h
      exact ⟨v :: as, rest, by simp [h1], by simp [h2], by simpa using h3⟩
theorem ab_sw_sd {x : Int} {X : Nat → Prop} {d : Nat} {l : List (Int × Nat)} (h : ab_sw x X d l) : ∃ t, X t ∧ ((∃ i : Nat, l[i]? = some (x, t) ∧ ∀ j q, j < i → l[j]? = some q → ¬ x = q.1) ∨ (t = d ∧ ∀ q ∈ l, ¬ x = q.1)) := by
  induction l with
  | nil => exact ⟨d, h, Or.inr ⟨rfl, fun q hq => by cases hq⟩⟩
  | cons q l ih =>
    obtain ⟨k, t⟩ := q
    by_cases hx : x = k
    · exact ⟨t, h.1 hx, Or.inl ⟨0, by simp [hx], fun j q hj => absurd hj (Nat.not_lt_zero _)⟩⟩
    · obtain ⟨t', h1, h2⟩ := ih (h.2 hx)
      refine ⟨t', h1, ?_⟩
      rcases h2 with ⟨i, h2, h3⟩ | ⟨h2, h3⟩
      · refine Or.inl ⟨i + 1, by simpa using h2, fun j q hj hq => ?_⟩
        cases j with
        | zero => simp at hq; rw [← hq]; exact hx
        | succ j => exact h3 j q (by omega) (by simpa using hq)
      · refine Or.inr ⟨h2, fun q hq => ?_⟩
        rcases List.mem_cons.mp hq with rfl | hq
        · exact hx
        · exact h3 q hq
theorem ab_lvmono {ls : Array Slot} {nL : Nat} {l l' : List (Nat × Value)} (h : lv_has ls nL l) (hm : ∀ q ∈ l', q ∈ l) : lv_has ls nL l' := ⟨h.1, h.2.1, fun q hq => h.2.2 q (hm q hq)⟩
end
section
/-! ===== rules: an instruction each, over the kit's rows (own text) ===== -/
def ab_WG (p : Program) (l : Launch) (e : Env) (s : State) (m : MethodId) (args : Array Value) (below : List Frame) (meth : Method) (c : Code) (n : Nat) (D : va_G) (cT : Nat → ClassId) (b0 b L : Nat) (xs : Nat → Int32) (n0 s0 d : Nat) (E : State → Prop) (pc : Nat) (ls : ab_L) (st : List ab_V) (h : ab_H) : Prop :=
  ∀ (H : Heap) (locs : List Loc) (lsA : Array Slot), lv_has lsA (ab_ml n) (ab_pl b0 b ls) → ab_Rl D cT b0 b L xs h H → va_S (ab_A b0) s.heap H locs → n0 ≤ h.2.1 → s0 ≤ h.2.2 →
    W p l e (ab_room d n0 s0) s m args below meth c H locs (h.2.1 - n0) (h.2.2 - s0) E (F0 m pc lsA (st.map (ab_pv b0 b)))
section AB1
variable {p : Program} {l : Launch} {e : Env} {s : State} {m : MethodId} {args : Array Value} {below : List Frame} {meth : Method} {c : Code} {n : Nat} {D : va_G} {cT : Nat → ClassId} {b0 b L : Nat} {xs : Nat → Int32} {n0 s0 d : Nat} {E : State → Prop} {pc : Nat} {ls : ab_L} {st : List ab_V} {h : ab_H}
theorem ab_plk {k i : Nat} {v : ab_V} (hk : ls[k]? = some (i, v)) : (ab_pl b0 b ls)[k]? = some (i, ab_pv b0 b v) := by simp [hk]
theorem ws_iconst (C0 : ab_Cx p s m meth c n D cT b0 b L xs n0) {z : Int} (hdg : decode (ab_bt n) pc = .ok (.iconst z, 1))  (k : ab_WG p l e s m args below meth c n D cT b0 b L xs n0 s0 d E (pc + 1) ls (.inl (ab_ii z) :: st) h) : ab_WG p l e s m args below meth c n D cT b0 b L xs n0 s0 d E pc ls st h :=
  fun H locs lsA hl hR hS h1 h2 => lv_iconst C0.1 C0.2.1 hdg rfl (k H locs lsA hl hR hS h1 h2)
theorem ws_bipush (C0 : ab_Cx p s m meth c n D cT b0 b L xs n0) {z : Int} (hdg : decode (ab_bt n) pc = .ok (.bipush z, 2)) (hv : (Int8.ofInt z).toInt32 = ab_ii z) (k : ab_WG p l e s m args below meth c n D cT b0 b L xs n0 s0 d E (pc + 2) ls (.inl (ab_ii z) :: st) h) : ab_WG p l e s m args below meth c n D cT b0 b L xs n0 s0 d E pc ls st h :=
  fun H locs lsA hl hR hS h1 h2 => lv_bipush C0.1 C0.2.1 hdg hv (k H locs lsA hl hR hS h1 h2)
theorem ws_sipush (C0 : ab_Cx p s m meth c n D cT b0 b L xs n0) {z : Int} (hdg : decode (ab_bt n) pc = .ok (.sipush z, 3)) (hv : (Int16.ofInt z).toInt32 = ab_ii z) (k : ab_WG p l e s m args below meth c n D cT b0 b L xs n0 s0 d E (pc + 3) ls (.inl (ab_ii z) :: st) h) : ab_WG p l e s m args below meth c n D cT b0 b L xs n0 s0 d E pc ls st h :=
  fun H locs lsA hl hR hS h1 h2 => lv_sipush C0.1 C0.2.1 hdg hv (k H locs lsA hl hR hS h1 h2)
theorem ws_lconst (C0 : ab_Cx p s m meth c n D cT b0 b L xs n0) {z : Fin 2} (hdg : decode (ab_bt n) pc = .ok (.lconst z, 1))  (k : ab_WG p l e s m args below meth c n D cT b0 b L xs n0 s0 d E (pc + 1) ls (.inr (.inl (Int64.ofNat (z : Nat))) :: st) h) : ab_WG p l e s m args below meth c n D cT b0 b L xs n0 s0 d E pc ls st h :=
  fun H locs lsA hl hR hS h1 h2 => lv_lconst C0.1 C0.2.1 hdg rfl (k H locs lsA hl hR hS h1 h2)
theorem ws_null (C0 : ab_Cx p s m meth c n D cT b0 b L xs n0) (hdg : decode (ab_bt n) pc = .ok (.aconst_null, 1)) (k : ab_WG p l e s m args below meth c n D cT b0 b L xs n0 s0 d E (pc + 1) ls (.inr (.inr none) :: st) h) : ab_WG p l e s m args below meth c n D cT b0 b L xs n0 s0 d E pc ls st h :=
  fun H locs lsA hl hR hS h1 h2 => lv_null C0.1 C0.2.1 hdg (k H locs lsA hl hR hS h1 h2)
theorem ws_tw (C0 : ab_Cx p s m meth c n D cT b0 b L xs n0) {w : Jvm.Cond} (hw : w ∈ lw_tbl) (ho : w.onTables = true) (hk : ab_okw w = true := by rfl) : w.before args s = true := va_Nw.use ho (C0.2.2.2.2.2.1.1 w hw hk)
theorem ws_ldc (C0 : ab_Cx p s m meth c n D cT b0 b L xs n0) {i : Nat} {v : Int32} (hw : Jvm.Cond.constant (ab_nm n).cls i v ∈ lw_tbl) (hdg : decode (ab_bt n) pc = .ok (.ldc i, 2)) (k : ab_WG p l e s m args below meth c n D cT b0 b L xs n0 s0 d E (pc + 2) ls (.inl v :: st) h) : ab_WG p l e s m args below meth c n D cT b0 b L xs n0 s0 d E pc ls st h :=
  fun H locs lsA hl hR hS h1 h2 => lv_ldc C0.1 C0.2.1 C0.2.2.2.2.1 (ws_tw C0 hw rfl) hdg (k H locs lsA hl hR hS h1 h2)
theorem ws_ldc2 (C0 : ab_Cx p s m meth c n D cT b0 b L xs n0) {i : Nat} {v : Int64} (hw : Jvm.Cond.constantLong (ab_nm n).cls i v ∈ lw_tbl) (hdg : decode (ab_bt n) pc = .ok (.ldc2_w i, 3)) (k : ab_WG p l e s m args below meth c n D cT b0 b L xs n0 s0 d E (pc + 3) ls (.inr (.inl v) :: st) h) : ab_WG p l e s m args below meth c n D cT b0 b L xs n0 s0 d E pc ls st h :=
  fun H locs lsA hl hR hS h1 h2 => lv_ldc2 C0.1 C0.2.1 C0.2.2.2.2.1 (ws_tw C0 hw rfl) hdg (k H locs lsA hl hR hS h1 h2)
theorem ws_iload (C0 : ab_Cx p s m meth c n D cT b0 b L xs n0) {i k0 : Nat} {x : Int32} (hdg : decode (ab_bt n) pc = .ok (.iload i, 2)) (hk : ls[k0]? = some (i, .inl x)) (k : ab_WG p l e s m args below meth c n D cT b0 b L xs n0 s0 d E (pc + 2) ls (.inl x :: st) h) : ab_WG p l e s m args below meth c n D cT b0 b L xs n0 s0 d E pc ls st h :=
  fun H locs lsA hl hR hS h1 h2 => lv_iload C0.1 C0.2.1 hdg (lv_at hl k0 (ab_plk hk)) (k H locs lsA hl hR hS h1 h2)
theorem ws_iload_n (C0 : ab_Cx p s m meth c n D cT b0 b L xs n0) {i : Fin 4} {k0 : Nat} {x : Int32} (hdg : decode (ab_bt n) pc = .ok (.iload_n i, 1)) (hk : ls[k0]? = some ((i : Nat), .inl x)) (k : ab_WG p l e s m args below meth c n D cT b0 b L xs n0 s0 d E (pc + 1) ls (.inl x :: st) h) : ab_WG p l e s m args below meth c n D cT b0 b L xs n0 s0 d E pc ls st h :=
  fun H locs lsA hl hR hS h1 h2 => lv_iload_n C0.1 C0.2.1 hdg rfl (lv_at hl k0 (ab_plk hk)) (k H locs lsA hl hR hS h1 h2)
theorem ws_lload (C0 : ab_Cx p s m meth c n D cT b0 b L xs n0) {i k0 : Nat} {x : Int64} (hdg : decode (ab_bt n) pc = .ok (.lload i, 2)) (hk : ls[k0]? = some (i, .inr (.inl x))) (k : ab_WG p l e s m args below meth c n D cT b0 b L xs n0 s0 d E (pc + 2) ls (.inr (.inl x) :: st) h) : ab_WG p l e s m args below meth c n D cT b0 b L xs n0 s0 d E pc ls st h :=
  fun H locs lsA hl hR hS h1 h2 => lv_lload C0.1 C0.2.1 hdg (lv_at hl k0 (ab_plk hk)) (k H locs lsA hl hR hS h1 h2)
theorem ws_lload_n (C0 : ab_Cx p s m meth c n D cT b0 b L xs n0) {i : Fin 4} {k0 : Nat} {x : Int64} (hdg : decode (ab_bt n) pc = .ok (.lload_n i, 1)) (hk : ls[k0]? = some ((i : Nat), .inr (.inl x))) (k : ab_WG p l e s m args below meth c n D cT b0 b L xs n0 s0 d E (pc + 1) ls (.inr (.inl x) :: st) h) : ab_WG p l e s m args below meth c n D cT b0 b L xs n0 s0 d E pc ls st h :=
  fun H locs lsA hl hR hS h1 h2 => lv_lload_n C0.1 C0.2.1 hdg rfl (lv_at hl k0 (ab_plk hk)) (k H locs lsA hl hR hS h1 h2)
theorem ws_aload (C0 : ab_Cx p s m meth c n D cT b0 b L xs n0) {i k0 : Nat} {x : Option Nat} (hdg : decode (ab_bt n) pc = .ok (.aload i, 2)) (hk : ls[k0]? = some (i, .inr (.inr x))) (k : ab_WG p l e s m args below meth c n D cT b0 b L xs n0 s0 d E (pc + 2) ls (.inr (.inr x) :: st) h) : ab_WG p l e s m args below meth c n D cT b0 b L xs n0 s0 d E pc ls st h := by
  intro H locs lsA hl hR hS h1 h2
  cases x with
  | none => exact lv_aloadN C0.1 C0.2.1 hdg (lv_at hl k0 (ab_plk hk)) (k H locs lsA hl hR hS h1 h2)
  | some a => exact lv_aload C0.1 C0.2.1 hdg (lv_at hl k0 (ab_plk hk)) (k H locs lsA hl hR hS h1 h2)
theorem ws_aload_n (C0 : ab_Cx p s m meth c n D cT b0 b L xs n0) {i : Fin 4} {k0 : Nat} {x : Option Nat} (hdg : decode (ab_bt n) pc = .ok (.aload_n i, 1)) (hk : ls[k0]? = some ((i : Nat), .inr (.inr x))) (k : ab_WG p l e s m args below meth c n D cT b0 b L xs n0 s0 d E (pc + 1) ls (.inr (.inr x) :: st) h) : ab_WG p l e s m args below meth c n D cT b0 b L xs n0 s0 d E pc ls st h := by
  intro H locs lsA hl hR hS h1 h2
  cases x with
  | none => exact lv_aload_nN C0.1 C0.2.1 hdg rfl (lv_at hl k0 (ab_plk hk)) (k H locs lsA hl hR hS h1 h2)
  | some a => exact lv_aload_n C0.1 C0.2.1 hdg rfl (lv_at hl k0 (ab_plk hk)) (k H locs lsA hl hR hS h1 h2)
/-- a store keeps the other locals -/
theorem ab_stm {i nL : Nat} {lsA : Array Slot} {v : ab_V} {t : ab_L} (hc : ab_cat v = 1) (hm : ∀ q ∈ t, q ∈ ls ∧ q.1 ≠ i ∧ ¬ (q.1 + 1 = i ∧ ab_cat q.2 = 2)) (hl : lv_has lsA nL ((i, ab_pv b0 b v) :: (ab_pl b0 b ls).filter (fun q => !(q.1 == i) && !(q.1 + 1 == i && q.2.category == 2)))) : lv_has lsA nL (ab_pl b0 b ((i, v) :: t)) := by
  refine ab_lvmono hl fun q hq => ?_
  rcases List.mem_cons.mp hq with rfl | hq
  · exact List.mem_cons_self
  · obtain ⟨q0, h1, rfl⟩ := List.mem_map.mp hq
    obtain ⟨g1, g2, g3⟩ := hm q0 h1
    refine List.mem_cons_of_mem _ (List.mem_filter.mpr ⟨List.mem_map.mpr ⟨q0, g1, rfl⟩, ?_⟩)
    simp only [ab_pv_cat, Bool.and_eq_true, Bool.not_eq_true', beq_eq_false_iff_ne, ne_eq, Bool.and_eq_false_iff]
    refine ⟨g2, ?_⟩
    by_cases h3 : q0.1 + 1 = i
    · exact Or.inr fun h4 => g3 ⟨h3, h4⟩
    · exact Or.inl h3
theorem ab_stm2 {i nL : Nat} {lsA : Array Slot} {x : Int64} {t t1 : ab_L} (hm1 : ∀ q ∈ t1, q ∈ ls ∧ q.1 ≠ i + 1 ∧ ¬ (q.1 + 1 = i + 1 ∧ ab_cat q.2 = 2)) (hm : ∀ q ∈ t, q ∈ t1 ∧ q.1 ≠ i ∧ ¬ (q.1 + 1 = i ∧ ab_cat q.2 = 2)) (hl : lv_has lsA nL ((i, Value.long x) :: (ab_pl b0 b ls).filter (fun q => !(q.1 == i) && (!(q.1 == i + 1) && !(q.1 + 1 == i && q.2.category == 2))))) : lv_has lsA nL (ab_pl b0 b ((i, .inr (.inl x)) :: t)) := by
  refine ab_lvmono hl fun q hq => ?_
  rcases List.mem_cons.mp hq with rfl | hq
  · exact List.mem_cons_self
  · obtain ⟨q0, h1, rfl⟩ := List.mem_map.mp hq
    obtain ⟨g1, g2, g3⟩ := hm q0 h1
    obtain ⟨g4, g5, g6⟩ := hm1 q0 g1
    refine List.mem_cons_of_mem _ (List.mem_filter.mpr ⟨List.mem_map.mpr ⟨q0, g4, rfl⟩, ?_⟩)
    simp only [ab_pv_cat, Bool.and_eq_true, Bool.not_eq_true', beq_eq_false_iff_ne, ne_eq, Bool.and_eq_false_iff]
    refine ⟨g2, g5, ?_⟩
    by_cases h3 : q0.1 + 1 = i
    · exact Or.inr fun h4 => g3 ⟨h3, h4⟩
    · exact Or.inl h3
theorem ws_istore (C0 : ab_Cx p s m meth c n D cT b0 b L xs n0) {i : Nat} {x : Int32} {K : ab_K} (hdg : decode (ab_bt n) pc = .ok (.istore i, 2)) (hn : i < ab_ml n) (hK : ∀ lx, K lx st h → ab_WG p l e s m args below meth c n D cT b0 b L xs n0 s0 d E (pc + 2) lx st h) (hs : ab_st1 i (.inl x) K ls st h) : ab_WG p l e s m args below meth c n D cT b0 b L xs n0 s0 d E pc ls (.inl x :: st) h := by
  intro H locs lsA hl hR hS h1 h2
  obtain ⟨t, g1, g2⟩ := ab_del_sd hs
  exact lv_istore C0.1 C0.2.1 hdg  hl hn rfl (fun ls' hl' => hK _ g1 H locs ls' (ab_stm rfl g2 hl') hR hS h1 h2)
theorem ws_istore_n (C0 : ab_Cx p s m meth c n D cT b0 b L xs n0) {i : Fin 4} {x : Int32} {K : ab_K} (hdg : decode (ab_bt n) pc = .ok (.istore_n i, 1)) (hn : (i : Nat) < ab_ml n) (hK : ∀ lx, K lx st h → ab_WG p l e s m args below meth c n D cT b0 b L xs n0 s0 d E (pc + 1) lx st h) (hs : ab_st1 (i : Nat) (.inl x) K ls st h) : ab_WG p l e s m args below meth c n D cT b0 b L xs n0 s0 d E pc ls (.inl x :: st) h := by
  intro H locs lsA hl hR hS h1 h2
  obtain ⟨t, g1, g2⟩ := ab_del_sd hs
  exact lv_istore_n C0.1 C0.2.1 hdg rfl hl hn rfl (fun ls' hl' => hK _ g1 H locs ls' (ab_stm rfl g2 hl') hR hS h1 h2)
theorem ws_astore (C0 : ab_Cx p s m meth c n D cT b0 b L xs n0) {i : Nat} {x : Option Nat} {K : ab_K} (hdg : decode (ab_bt n) pc = .ok (.astore i, 2)) (hn : i < ab_ml n) (hK : ∀ lx, K lx st h → ab_WG p l e s m args below meth c n D cT b0 b L xs n0 s0 d E (pc + 2) lx st h) (hs : ab_st1 i (.inr (.inr x)) K ls st h) : ab_WG p l e s m args below meth c n D cT b0 b L xs n0 s0 d E pc ls (.inr (.inr x) :: st) h := by
  intro H locs lsA hl hR hS h1 h2
  obtain ⟨t, g1, g2⟩ := ab_del_sd hs
  cases x with
  | none => exact lv_astoreN C0.1 C0.2.1 hdg  hl hn rfl (fun ls' hl' => hK _ g1 H locs ls' (ab_stm rfl g2 hl') hR hS h1 h2)
  | some a => exact lv_astore C0.1 C0.2.1 hdg  hl hn rfl (fun ls' hl' => hK _ g1 H locs ls' (ab_stm rfl g2 hl') hR hS h1 h2)
theorem ws_astore_n (C0 : ab_Cx p s m meth c n D cT b0 b L xs n0) {i : Fin 4} {x : Option Nat} {K : ab_K} (hdg : decode (ab_bt n) pc = .ok (.astore_n i, 1)) (hn : (i : Nat) < ab_ml n) (hK : ∀ lx, K lx st h → ab_WG p l e s m args below meth c n D cT b0 b L xs n0 s0 d E (pc + 1) lx st h) (hs : ab_st1 (i : Nat) (.inr (.inr x)) K ls st h) : ab_WG p l e s m args below meth c n D cT b0 b L xs n0 s0 d E pc ls (.inr (.inr x) :: st) h := by
  intro H locs lsA hl hR hS h1 h2
  obtain ⟨t, g1, g2⟩ := ab_del_sd hs
  cases x with
  | none => exact lv_astore_nN C0.1 C0.2.1 hdg rfl hl hn rfl (fun ls' hl' => hK _ g1 H locs ls' (ab_stm rfl g2 hl') hR hS h1 h2)
  | some a => exact lv_astore_n C0.1 C0.2.1 hdg rfl hl hn rfl (fun ls' hl' => hK _ g1 H locs ls' (ab_stm rfl g2 hl') hR hS h1 h2)
theorem ws_lstore (C0 : ab_Cx p s m meth c n D cT b0 b L xs n0) {i : Nat} {x : Int64} {K : ab_K} (hdg : decode (ab_bt n) pc = .ok (.lstore i, 2)) (hn : i + 1 < ab_ml n) (hK : ∀ lx, K lx st h → ab_WG p l e s m args below meth c n D cT b0 b L xs n0 s0 d E (pc + 2) lx st h) (hs : ab_del (i + 1) ls (fun lx => ab_st1 i (.inr (.inl x)) K lx st h)) : ab_WG p l e s m args below meth c n D cT b0 b L xs n0 s0 d E pc ls (.inr (.inl x) :: st) h := by
  intro H locs lsA hl hR hS h1 h2
  obtain ⟨t1, g1, g2⟩ := ab_del_sd hs
  obtain ⟨t, g3, g4⟩ := ab_del_sd g1
  exact lv_lstore C0.1 C0.2.1 hdg  hl hn rfl (fun ls' hl' => hK _ g3 H locs ls' (ab_stm2 g2 g4 hl') hR hS h1 h2)
theorem ws_lstore_n (C0 : ab_Cx p s m meth c n D cT b0 b L xs n0) {i : Fin 4} {x : Int64} {K : ab_K} (hdg : decode (ab_bt n) pc = .ok (.lstore_n i, 1)) (hn : (i : Nat) + 1 < ab_ml n) (hK : ∀ lx, K lx st h → ab_WG p l e s m args below meth c n D cT b0 b L xs n0 s0 d E (pc + 1) lx st h) (hs : ab_del ((i : Nat) + 1) ls (fun lx => ab_st1 (i : Nat) (.inr (.inl x)) K lx st h)) : ab_WG p l e s m args below meth c n D cT b0 b L xs n0 s0 d E pc ls (.inr (.inl x) :: st) h := by
  intro H locs lsA hl hR hS h1 h2
  obtain ⟨t1, g1, g2⟩ := ab_del_sd hs
  obtain ⟨t, g3, g4⟩ := ab_del_sd g1
  exact lv_lstore_n C0.1 C0.2.1 hdg rfl hl hn rfl (fun ls' hl' => hK _ g3 H locs ls' (ab_stm2 g2 g4 hl') hR hS h1 h2)
theorem ws_iinc (C0 : ab_Cx p s m meth c n D cT b0 b L xs n0) {i k0 : Nat} {z : Int} {x : Int32} {K : ab_K} (hdg : decode (ab_bt n) pc = .ok (.iinc i z, 3)) (hk : ls[k0]? = some (i, .inl x)) (hn : i < ab_ml n) (hK : ∀ lx, K lx st h → ab_WG p l e s m args below meth c n D cT b0 b L xs n0 s0 d E (pc + 3) lx st h) (hs : ab_st1 i (.inl (ab_ii (x.toInt + z))) K ls st h) : ab_WG p l e s m args below meth c n D cT b0 b L xs n0 s0 d E pc ls st h := by
  intro H locs lsA hl hR hS h1 h2
  obtain ⟨t, g1, g2⟩ := ab_del_sd hs
  exact lv_iinc C0.1 C0.2.1 hdg hl (ab_plk hk) (show x + Int32.ofInt z = ab_ii (x.toInt + z) by rw [ab_ii, Int32.ofInt_add]; simp) hn rfl (fun ls' hl' => hK _ g1 H locs ls' (ab_stm (v := .inl (ab_ii (x.toInt + z))) rfl g2 hl') hR hS h1 h2)
theorem ws_dup (C0 : ab_Cx p s m meth c n D cT b0 b L xs n0) {v : ab_V} (hv : ab_cat v = 1) (hdg : decode (ab_bt n) pc = .ok (.dup, 1)) (k : ab_WG p l e s m args below meth c n D cT b0 b L xs n0 s0 d E (pc + 1) ls (v :: v :: st) h) : ab_WG p l e s m args below meth c n D cT b0 b L xs n0 s0 d E pc ls (v :: st) h :=
  fun H locs lsA hl hR hS h1 h2 => lv_dup C0.1 C0.2.1 hdg ((ab_pv_cat b0 b v).trans hv) (k H locs lsA hl hR hS h1 h2)
theorem ws_dup2 (C0 : ab_Cx p s m meth c n D cT b0 b L xs n0) {v w : ab_V} (hv : ab_cat v = 1) (hw : ab_cat w = 1) (hdg : decode (ab_bt n) pc = .ok (.dup2, 1)) (k : ab_WG p l e s m args below meth c n D cT b0 b L xs n0 s0 d E (pc + 1) ls (v :: w :: v :: w :: st) h) : ab_WG p l e s m args below meth c n D cT b0 b L xs n0 s0 d E pc ls (v :: w :: st) h :=
  fun H locs lsA hl hR hS h1 h2 => lv_dup2_11 C0.1 C0.2.1 hdg ((ab_pv_cat b0 b v).trans hv) ((ab_pv_cat b0 b w).trans hw) (k H locs lsA hl hR hS h1 h2)
theorem ws_pop (C0 : ab_Cx p s m meth c n D cT b0 b L xs n0) {v : ab_V} (hv : ab_cat v = 1) (hdg : decode (ab_bt n) pc = .ok (.pop, 1)) (k : ab_WG p l e s m args below meth c n D cT b0 b L xs n0 s0 d E (pc + 1) ls st h) : ab_WG p l e s m args below meth c n D cT b0 b L xs n0 s0 d E pc ls (v :: st) h :=
  fun H locs lsA hl hR hS h1 h2 => lv_pop C0.1 C0.2.1 hdg ((ab_pv_cat b0 b v).trans hv) (k H locs lsA hl hR hS h1 h2)
theorem ws_pop2 (C0 : ab_Cx p s m meth c n D cT b0 b L xs n0) {v : ab_V} (hv : ab_cat v = 2) (hdg : decode (ab_bt n) pc = .ok (.pop2, 1)) (k : ab_WG p l e s m args below meth c n D cT b0 b L xs n0 s0 d E (pc + 1) ls st h) : ab_WG p l e s m args below meth c n D cT b0 b L xs n0 s0 d E pc ls (v :: st) h :=
  fun H locs lsA hl hR hS h1 h2 => lv_pop2_2 C0.1 C0.2.1 hdg ((ab_pv_cat b0 b v).trans hv) (k H locs lsA hl hR hS h1 h2)
theorem ws_iadd (C0 : ab_Cx p s m meth c n D cT b0 b L xs n0) {x y : Int32} (hdg : decode (ab_bt n) pc = .ok (.iadd, 1)) (k : ab_WG p l e s m args below meth c n D cT b0 b L xs n0 s0 d E (pc + 1) ls (.inl (ab_ii (x.toInt + y.toInt)) :: st) h) : ab_WG p l e s m args below meth c n D cT b0 b L xs n0 s0 d E pc ls (.inl y :: .inl x :: st) h :=
  fun H locs lsA hl hR hS h1 h2 => lv_iadd C0.1 C0.2.1 hdg (by rw [ab_ii_add]; exact k H locs lsA hl hR hS h1 h2)
theorem ws_isub (C0 : ab_Cx p s m meth c n D cT b0 b L xs n0) {x y : Int32} (hdg : decode (ab_bt n) pc = .ok (.isub, 1)) (k : ab_WG p l e s m args below meth c n D cT b0 b L xs n0 s0 d E (pc + 1) ls (.inl (ab_ii (x.toInt - y.toInt)) :: st) h) : ab_WG p l e s m args below meth c n D cT b0 b L xs n0 s0 d E pc ls (.inl y :: .inl x :: st) h :=
  fun H locs lsA hl hR hS h1 h2 => lv_isub C0.1 C0.2.1 hdg (by rw [ab_ii_sub]; exact k H locs lsA hl hR hS h1 h2)
theorem ws_imul (C0 : ab_Cx p s m meth c n D cT b0 b L xs n0) {x y : Int32} (hdg : decode (ab_bt n) pc = .ok (.imul, 1)) (k : ab_WG p l e s m args below meth c n D cT b0 b L xs n0 s0 d E (pc + 1) ls (.inl (ab_ii (x.toInt * y.toInt)) :: st) h) : ab_WG p l e s m args below meth c n D cT b0 b L xs n0 s0 d E pc ls (.inl y :: .inl x :: st) h :=
  fun H locs lsA hl hR hS h1 h2 => lv_imul C0.1 C0.2.1 hdg (by rw [ab_ii_mul]; exact k H locs lsA hl hR hS h1 h2)
theorem ws_iand (C0 : ab_Cx p s m meth c n D cT b0 b L xs n0) {x y : Int32} (hdg : decode (ab_bt n) pc = .ok (.iand, 1)) (k : ab_WG p l e s m args below meth c n D cT b0 b L xs n0 s0 d E (pc + 1) ls (.inl (x &&& y) :: st) h) : ab_WG p l e s m args below meth c n D cT b0 b L xs n0 s0 d E pc ls (.inl y :: .inl x :: st) h :=
  fun H locs lsA hl hR hS h1 h2 => lv_iand C0.1 C0.2.1 hdg (k H locs lsA hl hR hS h1 h2)
theorem ws_ishr (C0 : ab_Cx p s m meth c n D cT b0 b L xs n0) {x y : Int32} (hdg : decode (ab_bt n) pc = .ok (.ishr, 1)) (k : ab_WG p l e s m args below meth c n D cT b0 b L xs n0 s0 d E (pc + 1) ls (.inl (x >>> (y &&& 31)) :: st) h) : ab_WG p l e s m args below meth c n D cT b0 b L xs n0 s0 d E pc ls (.inl y :: .inl x :: st) h :=
  fun H locs lsA hl hR hS h1 h2 => lv_ishr C0.1 C0.2.1 hdg (k H locs lsA hl hR hS h1 h2)
theorem ws_iushr (C0 : ab_Cx p s m meth c n D cT b0 b L xs n0) {x y : Int32} (hdg : decode (ab_bt n) pc = .ok (.iushr, 1)) (k : ab_WG p l e s m args below meth c n D cT b0 b L xs n0 s0 d E (pc + 1) ls (.inl ((x.toUInt32 >>> (y.toUInt32 &&& Int32.toUInt32 31)).toInt32) :: st) h) : ab_WG p l e s m args below meth c n D cT b0 b L xs n0 s0 d E pc ls (.inl y :: .inl x :: st) h :=
  fun H locs lsA hl hR hS h1 h2 => lv_iushr C0.1 C0.2.1 hdg rfl (k H locs lsA hl hR hS h1 h2)
theorem ws_ineg (C0 : ab_Cx p s m meth c n D cT b0 b L xs n0) {x : Int32} (hdg : decode (ab_bt n) pc = .ok (.ineg, 1)) (k : ab_WG p l e s m args below meth c n D cT b0 b L xs n0 s0 d E (pc + 1) ls (.inl (ab_ii (- x.toInt)) :: st) h) : ab_WG p l e s m args below meth c n D cT b0 b L xs n0 s0 d E pc ls (.inl x :: st) h :=
  fun H locs lsA hl hR hS h1 h2 => lv_ineg C0.1 C0.2.1 hdg (by rw [ab_ii_neg]; exact k H locs lsA hl hR hS h1 h2)
theorem ab_rem {x y : Int32} (hx : 0 ≤ x.toInt) (hy : 0 < y.toInt) : x - x / y * y = ab_ii (x.toInt % y.toInt) := by
  have ex : x = nI x.toInt.toNat := by
    show x = Int32.ofNat _
    rw [← Int32.ofInt_eq_ofNat]
    rw [Int.toNat_of_nonneg hx, Int32.ofInt_toInt]
  have ey : y = nI y.toInt.toNat := by
    show y = Int32.ofNat _
    rw [← Int32.ofInt_eq_ofNat]
    rw [Int.toNat_of_nonneg (by omega), Int32.ofInt_toInt]
  have bx := Int32.toInt_lt x
  have byy := Int32.toInt_lt y
  have h1 := pk_rem (a := x.toInt.toNat) (d := y.toInt.toNat) (by omega) (by omega) (by omega)
  rw [← ex, ← ey] at h1
  rw [h1]
  show Int32.ofNat _ = Int32.ofInt _
  rw [← Int32.ofInt_eq_ofNat]
  congr 1
  rw [Int.natCast_emod, Int.toNat_of_nonneg hx, Int.toNat_of_nonneg (by omega)]
theorem ws_irem (C0 : ab_Cx p s m meth c n D cT b0 b L xs n0) {x y : Int32} (hdg : decode (ab_bt n) pc = .ok (.irem, 1)) (hxy : 0 ≤ x.toInt ∧ 0 < y.toInt) (k : ab_WG p l e s m args below meth c n D cT b0 b L xs n0 s0 d E (pc + 1) ls (.inl (ab_ii (x.toInt % y.toInt)) :: st) h) : ab_WG p l e s m args below meth c n D cT b0 b L xs n0 s0 d E pc ls (.inl y :: .inl x :: st) h :=
  fun H locs lsA hl hR hS h1 h2 => lv_irem C0.1 C0.2.1 hdg (fun h0 => by have := hxy.2; rw [h0] at this; exact absurd this (by decide)) (by rw [ab_rem hxy.1 hxy.2]; exact k H locs lsA hl hR hS h1 h2)
theorem ws_i2l (C0 : ab_Cx p s m meth c n D cT b0 b L xs n0) {x : Int32} (hdg : decode (ab_bt n) pc = .ok (.i2l, 1)) (k : ab_WG p l e s m args below meth c n D cT b0 b L xs n0 s0 d E (pc + 1) ls (.inr (.inl x.toInt64) :: st) h) : ab_WG p l e s m args below meth c n D cT b0 b L xs n0 s0 d E pc ls (.inl x :: st) h :=
  fun H locs lsA hl hR hS h1 h2 => lv_i2l C0.1 C0.2.1 hdg rfl (k H locs lsA hl hR hS h1 h2)
theorem ws_ladd (C0 : ab_Cx p s m meth c n D cT b0 b L xs n0) {x y : Int64} (hdg : decode (ab_bt n) pc = .ok (.ladd, 1)) (k : ab_WG p l e s m args below meth c n D cT b0 b L xs n0 s0 d E (pc + 1) ls (.inr (.inl (x + y)) :: st) h) : ab_WG p l e s m args below meth c n D cT b0 b L xs n0 s0 d E pc ls (.inr (.inl y) :: .inr (.inl x) :: st) h :=
  fun H locs lsA hl hR hS h1 h2 => lv_ladd C0.1 C0.2.1 hdg (k H locs lsA hl hR hS h1 h2)
theorem ws_lcmp (C0 : ab_Cx p s m meth c n D cT b0 b L xs n0) {x y : Int64} (hdg : decode (ab_bt n) pc = .ok (.lcmp, 1)) (k1 : y < x → ab_WG p l e s m args below meth c n D cT b0 b L xs n0 s0 d E (pc + 1) ls (.inl (ab_ii 1) :: st) h) (k2 : x = y → ab_WG p l e s m args below meth c n D cT b0 b L xs n0 s0 d E (pc + 1) ls (.inl (ab_ii 0) :: st) h) (k3 : x < y → ab_WG p l e s m args below meth c n D cT b0 b L xs n0 s0 d E (pc + 1) ls (.inl (ab_ii (-1)) :: st) h) : ab_WG p l e s m args below meth c n D cT b0 b L xs n0 s0 d E pc ls (.inr (.inl y) :: .inr (.inl x) :: st) h := by
  intro H locs lsA hl hR hS h1 h2
  refine W.lcmp C0.1 C0.2.1 hdg ?_
  unfold lg_cmp
  split
  next hg => exact k1 hg H locs lsA hl hR hS h1 h2
  next hg =>
    split
    next he => exact k2 he H locs lsA hl hR hS h1 h2
    next he =>
      have hlt : x < y := by
        rw [Int64.lt_iff_toInt_lt]
        have g1 : ¬ y.toInt < x.toInt := fun hh => hg (Int64.lt_iff_toInt_lt.mpr hh)
        have g2 : x.toInt ≠ y.toInt := fun hh => he (Int64.toInt_inj.mp hh)
        omega
      exact k3 hlt H locs lsA hl hR hS h1 h2
theorem ws_goto (C0 : ab_Cx p s m meth c n D cT b0 b L xs n0) {off : Int} {tgt : Nat} (hdg : decode (ab_bt n) pc = .ok (.goto off, 3)) (ht : (pc : Int) + off = (tgt : Int)) (k : ab_WG p l e s m args below meth c n D cT b0 b L xs n0 s0 d E tgt ls st h) : ab_WG p l e s m args below meth c n D cT b0 b L xs n0 s0 d E pc ls st h :=
  fun H locs lsA hl hR hS h1 h2 => lv_goto C0.1 C0.2.1 hdg ht (k H locs lsA hl hR hS h1 h2)
theorem ab_c0 : (0 : Int32).toInt = 0 := by decide
theorem ws_icmp_eq (C0 : ab_Cx p s m meth c n D cT b0 b L xs n0) {x y : Int32} {off : Int} {tgt : Nat} (hdg : decode (ab_bt n) pc = .ok (.if_icmp .eq off, 3)) (ht : (pc : Int) + off = (tgt : Int)) (kt : x.toInt = y.toInt → ab_WG p l e s m args below meth c n D cT b0 b L xs n0 s0 d E tgt ls st h) (kf : ¬ x.toInt = y.toInt → ab_WG p l e s m args below meth c n D cT b0 b L xs n0 s0 d E (pc + 3) ls st h) : ab_WG p l e s m args below meth c n D cT b0 b L xs n0 s0 d E pc ls (.inl y :: .inl x :: st) h :=
  fun H locs lsA hl hR hS h1 h2 => lv_icmp_eq C0.1 C0.2.1 hdg ht (fun q => kt (Int32.toInt_inj.mpr q) H locs lsA hl hR hS h1 h2) (fun q => kf (fun hh => q (Int32.toInt_inj.mp hh)) H locs lsA hl hR hS h1 h2)
theorem ws_if_eq (C0 : ab_Cx p s m meth c n D cT b0 b L xs n0) {x : Int32} {off : Int} {tgt : Nat} (hdg : decode (ab_bt n) pc = .ok (.ifCond .eq off, 3)) (ht : (pc : Int) + off = (tgt : Int)) (kt : x.toInt = 0 → ab_WG p l e s m args below meth c n D cT b0 b L xs n0 s0 d E tgt ls st h) (kf : ¬ x.toInt = 0 → ab_WG p l e s m args below meth c n D cT b0 b L xs n0 s0 d E (pc + 3) ls st h) : ab_WG p l e s m args below meth c n D cT b0 b L xs n0 s0 d E pc ls (.inl x :: st) h :=
  fun H locs lsA hl hR hS h1 h2 => lv_if_eq C0.1 C0.2.1 hdg ht (fun q => kt (by rw [← ab_c0]; exact Int32.toInt_inj.mpr q) H locs lsA hl hR hS h1 h2) (fun q => kf (by rw [← ab_c0]; exact fun hh => q (Int32.toInt_inj.mp hh)) H locs lsA hl hR hS h1 h2)
theorem ws_icmp_ne (C0 : ab_Cx p s m meth c n D cT b0 b L xs n0) {x y : Int32} {off : Int} {tgt : Nat} (hdg : decode (ab_bt n) pc = .ok (.if_icmp .ne off, 3)) (ht : (pc : Int) + off = (tgt : Int)) (kt : ¬ x.toInt = y.toInt → ab_WG p l e s m args below meth c n D cT b0 b L xs n0 s0 d E tgt ls st h) (kf : x.toInt = y.toInt → ab_WG p l e s m args below meth c n D cT b0 b L xs n0 s0 d E (pc + 3) ls st h) : ab_WG p l e s m args below meth c n D cT b0 b L xs n0 s0 d E pc ls (.inl y :: .inl x :: st) h :=
  fun H locs lsA hl hR hS h1 h2 => lv_icmp_ne C0.1 C0.2.1 hdg ht (fun q => kt (fun hh => q (Int32.toInt_inj.mp hh)) H locs lsA hl hR hS h1 h2) (fun q => kf (Int32.toInt_inj.mpr q) H locs lsA hl hR hS h1 h2)
theorem ws_if_ne (C0 : ab_Cx p s m meth c n D cT b0 b L xs n0) {x : Int32} {off : Int} {tgt : Nat} (hdg : decode (ab_bt n) pc = .ok (.ifCond .ne off, 3)) (ht : (pc : Int) + off = (tgt : Int)) (kt : ¬ x.toInt = 0 → ab_WG p l e s m args below meth c n D cT b0 b L xs n0 s0 d E tgt ls st h) (kf : x.toInt = 0 → ab_WG p l e s m args below meth c n D cT b0 b L xs n0 s0 d E (pc + 3) ls st h) : ab_WG p l e s m args below meth c n D cT b0 b L xs n0 s0 d E pc ls (.inl x :: st) h :=
  fun H locs lsA hl hR hS h1 h2 => lv_if_ne C0.1 C0.2.1 hdg ht (fun q => kt (by rw [← ab_c0]; exact fun hh => q (Int32.toInt_inj.mp hh)) H locs lsA hl hR hS h1 h2) (fun q => kf (by rw [← ab_c0]; exact Int32.toInt_inj.mpr q) H locs lsA hl hR hS h1 h2)
theorem ws_icmp_lt (C0 : ab_Cx p s m meth c n D cT b0 b L xs n0) {x y : Int32} {off : Int} {tgt : Nat} (hdg : decode (ab_bt n) pc = .ok (.if_icmp .lt off, 3)) (ht : (pc : Int) + off = (tgt : Int)) (kt : x.toInt < y.toInt → ab_WG p l e s m args below meth c n D cT b0 b L xs n0 s0 d E tgt ls st h) (kf : y.toInt ≤ x.toInt → ab_WG p l e s m args below meth c n D cT b0 b L xs n0 s0 d E (pc + 3) ls st h) : ab_WG p l e s m args below meth c n D cT b0 b L xs n0 s0 d E pc ls (.inl y :: .inl x :: st) h :=
  fun H locs lsA hl hR hS h1 h2 => lv_icmp_lt C0.1 C0.2.1 hdg ht (fun q => kt (Int32.lt_iff_toInt_lt.mp q) H locs lsA hl hR hS h1 h2) (fun q => kf (Int.not_lt.mp fun hh => q (Int32.lt_iff_toInt_lt.mpr hh)) H locs lsA hl hR hS h1 h2)
theorem ws_if_lt (C0 : ab_Cx p s m meth c n D cT b0 b L xs n0) {x : Int32} {off : Int} {tgt : Nat} (hdg : decode (ab_bt n) pc = .ok (.ifCond .lt off, 3)) (ht : (pc : Int) + off = (tgt : Int)) (kt : x.toInt < 0 → ab_WG p l e s m args below meth c n D cT b0 b L xs n0 s0 d E tgt ls st h) (kf : 0 ≤ x.toInt → ab_WG p l e s m args below meth c n D cT b0 b L xs n0 s0 d E (pc + 3) ls st h) : ab_WG p l e s m args below meth c n D cT b0 b L xs n0 s0 d E pc ls (.inl x :: st) h :=
  fun H locs lsA hl hR hS h1 h2 => lv_if_lt C0.1 C0.2.1 hdg ht (fun q => kt (by rw [← ab_c0]; exact Int32.lt_iff_toInt_lt.mp q) H locs lsA hl hR hS h1 h2) (fun q => kf (by rw [← ab_c0]; exact Int.not_lt.mp fun hh => q (Int32.lt_iff_toInt_lt.mpr hh)) H locs lsA hl hR hS h1 h2)
theorem ws_icmp_ge (C0 : ab_Cx p s m meth c n D cT b0 b L xs n0) {x y : Int32} {off : Int} {tgt : Nat} (hdg : decode (ab_bt n) pc = .ok (.if_icmp .ge off, 3)) (ht : (pc : Int) + off = (tgt : Int)) (kt : y.toInt ≤ x.toInt → ab_WG p l e s m args below meth c n D cT b0 b L xs n0 s0 d E tgt ls st h) (kf : x.toInt < y.toInt → ab_WG p l e s m args below meth c n D cT b0 b L xs n0 s0 d E (pc + 3) ls st h) : ab_WG p l e s m args below meth c n D cT b0 b L xs n0 s0 d E pc ls (.inl y :: .inl x :: st) h :=
  fun H locs lsA hl hR hS h1 h2 => lv_icmp_ge C0.1 C0.2.1 hdg ht (fun q => kt (Int32.le_iff_toInt_le.mp q) H locs lsA hl hR hS h1 h2) (fun q => kf (Int.not_le.mp fun hh => q (Int32.le_iff_toInt_le.mpr hh)) H locs lsA hl hR hS h1 h2)
theorem ws_if_ge (C0 : ab_Cx p s m meth c n D cT b0 b L xs n0) {x : Int32} {off : Int} {tgt : Nat} (hdg : decode (ab_bt n) pc = .ok (.ifCond .ge off, 3)) (ht : (pc : Int) + off = (tgt : Int)) (kt : 0 ≤ x.toInt → ab_WG p l e s m args below meth c n D cT b0 b L xs n0 s0 d E tgt ls st h) (kf : x.toInt < 0 → ab_WG p l e s m args below meth c n D cT b0 b L xs n0 s0 d E (pc + 3) ls st h) : ab_WG p l e s m args below meth c n D cT b0 b L xs n0 s0 d E pc ls (.inl x :: st) h :=
  fun H locs lsA hl hR hS h1 h2 => lv_if_ge C0.1 C0.2.1 hdg ht (fun q => kt (by rw [← ab_c0]; exact Int32.le_iff_toInt_le.mp q) H locs lsA hl hR hS h1 h2) (fun q => kf (by rw [← ab_c0]; exact Int.not_le.mp fun hh => q (Int32.le_iff_toInt_le.mpr hh)) H locs lsA hl hR hS h1 h2)
theorem ws_icmp_gt (C0 : ab_Cx p s m meth c n D cT b0 b L xs n0) {x y : Int32} {off : Int} {tgt : Nat} (hdg : decode (ab_bt n) pc = .ok (.if_icmp .gt off, 3)) (ht : (pc : Int) + off = (tgt : Int)) (kt : y.toInt < x.toInt → ab_WG p l e s m args below meth c n D cT b0 b L xs n0 s0 d E tgt ls st h) (kf : x.toInt ≤ y.toInt → ab_WG p l e s m args below meth c n D cT b0 b L xs n0 s0 d E (pc + 3) ls st h) : ab_WG p l e s m args below meth c n D cT b0 b L xs n0 s0 d E pc ls (.inl y :: .inl x :: st) h :=
  fun H locs lsA hl hR hS h1 h2 => lv_icmp_gt C0.1 C0.2.1 hdg ht (fun q => kt (Int32.lt_iff_toInt_lt.mp q) H locs lsA hl hR hS h1 h2) (fun q => kf (Int.not_lt.mp fun hh => q (Int32.lt_iff_toInt_lt.mpr hh)) H locs lsA hl hR hS h1 h2)
theorem ws_if_gt (C0 : ab_Cx p s m meth c n D cT b0 b L xs n0) {x : Int32} {off : Int} {tgt : Nat} (hdg : decode (ab_bt n) pc = .ok (.ifCond .gt off, 3)) (ht : (pc : Int) + off = (tgt : Int)) (kt : 0 < x.toInt → ab_WG p l e s m args below meth c n D cT b0 b L xs n0 s0 d E tgt ls st h) (kf : x.toInt ≤ 0 → ab_WG p l e s m args below meth c n D cT b0 b L xs n0 s0 d E (pc + 3) ls st h) : ab_WG p l e s m args below meth c n D cT b0 b L xs n0 s0 d E pc ls (.inl x :: st) h :=
  fun H locs lsA hl hR hS h1 h2 => lv_if_gt C0.1 C0.2.1 hdg ht (fun q => kt (by rw [← ab_c0]; exact Int32.lt_iff_toInt_lt.mp q) H locs lsA hl hR hS h1 h2) (fun q => kf (by rw [← ab_c0]; exact Int.not_lt.mp fun hh => q (Int32.lt_iff_toInt_lt.mpr hh)) H locs lsA hl hR hS h1 h2)
theorem ws_icmp_le (C0 : ab_Cx p s m meth c n D cT b0 b L xs n0) {x y : Int32} {off : Int} {tgt : Nat} (hdg : decode (ab_bt n) pc = .ok (.if_icmp .le off, 3)) (ht : (pc : Int) + off = (tgt : Int)) (kt : x.toInt ≤ y.toInt → ab_WG p l e s m args below meth c n D cT b0 b L xs n0 s0 d E tgt ls st h) (kf : y.toInt < x.toInt → ab_WG p l e s m args below meth c n D cT b0 b L xs n0 s0 d E (pc + 3) ls st h) : ab_WG p l e s m args below meth c n D cT b0 b L xs n0 s0 d E pc ls (.inl y :: .inl x :: st) h :=
  fun H locs lsA hl hR hS h1 h2 => lv_icmp_le C0.1 C0.2.1 hdg ht (fun q => kt (Int32.le_iff_toInt_le.mp q) H locs lsA hl hR hS h1 h2) (fun q => kf (Int.not_le.mp fun hh => q (Int32.le_iff_toInt_le.mpr hh)) H locs lsA hl hR hS h1 h2)
theorem ws_if_le (C0 : ab_Cx p s m meth c n D cT b0 b L xs n0) {x : Int32} {off : Int} {tgt : Nat} (hdg : decode (ab_bt n) pc = .ok (.ifCond .le off, 3)) (ht : (pc : Int) + off = (tgt : Int)) (kt : x.toInt ≤ 0 → ab_WG p l e s m args below meth c n D cT b0 b L xs n0 s0 d E tgt ls st h) (kf : 0 < x.toInt → ab_WG p l e s m args below meth c n D cT b0 b L xs n0 s0 d E (pc + 3) ls st h) : ab_WG p l e s m args below meth c n D cT b0 b L xs n0 s0 d E pc ls (.inl x :: st) h :=
  fun H locs lsA hl hR hS h1 h2 => lv_if_le C0.1 C0.2.1 hdg ht (fun q => kt (by rw [← ab_c0]; exact Int32.le_iff_toInt_le.mp q) H locs lsA hl hR hS h1 h2) (fun q => kf (by rw [← ab_c0]; exact Int.not_le.mp fun hh => q (Int32.le_iff_toInt_le.mpr hh)) H locs lsA hl hR hS h1 h2)
theorem ab_rfmap {x y : Option Nat} (hb : b < b0) (hh : x.map (ab_phi b0 b) = y.map (ab_phi b0 b)) : x = y := by
  cases x <;> cases y <;> simp_all
  exact ab_phi_inj hb hh
theorem ws_acmp_eq (C0 : ab_Cx p s m meth c n D cT b0 b L xs n0) {x y : Option Nat} {off : Int} {tgt : Nat} (hdg : decode (ab_bt n) pc = .ok (.if_acmp .eq off, 3)) (ht : (pc : Int) + off = (tgt : Int)) (kt : x = y → ab_WG p l e s m args below meth c n D cT b0 b L xs n0 s0 d E tgt ls st h) (kf : ¬ x = y → ab_WG p l e s m args below meth c n D cT b0 b L xs n0 s0 d E (pc + 3) ls st h) : ab_WG p l e s m args below meth c n D cT b0 b L xs n0 s0 d E pc ls (.inr (.inr y) :: .inr (.inr x) :: st) h :=
  fun H locs lsA hl hR hS h1 h2 => lv_acmp_eq C0.1 C0.2.1 hdg ht (fun q => kt (ab_rfmap C0.2.2.2.2.2.2.2.2.2.1 q) H locs lsA hl hR hS h1 h2) (fun q => kf (fun hh => q (by rw [hh])) H locs lsA hl hR hS h1 h2)
theorem ws_acmp_ne (C0 : ab_Cx p s m meth c n D cT b0 b L xs n0) {x y : Option Nat} {off : Int} {tgt : Nat} (hdg : decode (ab_bt n) pc = .ok (.if_acmp .ne off, 3)) (ht : (pc : Int) + off = (tgt : Int)) (kt : ¬ x = y → ab_WG p l e s m args below meth c n D cT b0 b L xs n0 s0 d E tgt ls st h) (kf : x = y → ab_WG p l e s m args below meth c n D cT b0 b L xs n0 s0 d E (pc + 3) ls st h) : ab_WG p l e s m args below meth c n D cT b0 b L xs n0 s0 d E pc ls (.inr (.inr y) :: .inr (.inr x) :: st) h :=
  fun H locs lsA hl hR hS h1 h2 => lv_acmp_ne C0.1 C0.2.1 hdg ht (fun q => kt (fun hh => q (by rw [hh])) H locs lsA hl hR hS h1 h2) (fun q => kf (ab_rfmap C0.2.2.2.2.2.2.2.2.2.1 q) H locs lsA hl hR hS h1 h2)
theorem ws_ifnull (C0 : ab_Cx p s m meth c n D cT b0 b L xs n0) {o : Option Nat} {off : Int} {tgt : Nat} (hdg : decode (ab_bt n) pc = .ok (.ifnull off, 3)) (ht : (pc : Int) + off = (tgt : Int)) (kt : o = none → ab_WG p l e s m args below meth c n D cT b0 b L xs n0 s0 d E tgt ls st h) (kf : ∀ a, o = some a → ab_WG p l e s m args below meth c n D cT b0 b L xs n0 s0 d E (pc + 3) ls st h) : ab_WG p l e s m args below meth c n D cT b0 b L xs n0 s0 d E pc ls (.inr (.inr o) :: st) h := by
  intro H locs lsA hl hR hS h1 h2
  cases o with
  | none => exact lv_ifnullN C0.1 C0.2.1 hdg ht (kt rfl H locs lsA hl hR hS h1 h2)
  | some a => exact lv_ifnull C0.1 C0.2.1 hdg (kf a rfl H locs lsA hl hR hS h1 h2)
theorem ws_ifnonnull (C0 : ab_Cx p s m meth c n D cT b0 b L xs n0) {o : Option Nat} {off : Int} {tgt : Nat} (hdg : decode (ab_bt n) pc = .ok (.ifnonnull off, 3)) (ht : (pc : Int) + off = (tgt : Int)) (kt : ∀ a, o = some a → ab_WG p l e s m args below meth c n D cT b0 b L xs n0 s0 d E tgt ls st h) (kf : o = none → ab_WG p l e s m args below meth c n D cT b0 b L xs n0 s0 d E (pc + 3) ls st h) : ab_WG p l e s m args below meth c n D cT b0 b L xs n0 s0 d E pc ls (.inr (.inr o) :: st) h := by
  intro H locs lsA hl hR hS h1 h2
  cases o with
  | none => exact lv_ifnonnullN C0.1 C0.2.1 hdg (kf rfl H locs lsA hl hR hS h1 h2)
  | some a => exact lv_ifnonnull C0.1 C0.2.1 hdg ht (kt a rfl H locs lsA hl hR hS h1 h2)
theorem ws_table (C0 : ab_Cx p s m meth c n D cT b0 b L xs n0) {df lo hi : Int} {offs : Array Int} {len a1 : Nat} {x : Int32} {sw : List (Int × Nat)} {X : Nat → Prop} (hdg : decode (ab_bt n) pc = .ok (.tableswitch df lo hi offs, len)) (hd : (pc : Int) + df = (a1 : Int)) (hn : sw.length = offs.size ∧ hi = lo + offs.size - 1)
    (hsw : ∀ i, i < sw.length → ∃ t o, sw[i]? = some (lo + i, t) ∧ offs[i]? = some o ∧ (pc : Int) + o = (t : Int)) (hX : ∀ t, X t → ab_WG p l e s m args below meth c n D cT b0 b L xs n0 s0 d E t ls st h) (k : ab_sw x.toInt X a1 sw) : ab_WG p l e s m args below meth c n D cT b0 b L xs n0 s0 d E pc ls (.inl x :: st) h := by
  intro H locs lsA hl hR hS h1 h2
  obtain ⟨t, g1, ⟨i, g2, -⟩ | ⟨rfl, g2⟩⟩ := ab_sw_sd k
  · have hi0 : i < sw.length := (List.getElem?_eq_some_iff.mp g2).1
    obtain ⟨t', o, q1, q2, q3⟩ := hsw i hi0
    rw [g2] at q1
    have e1 : x.toInt = lo + i := (congrArg Prod.fst (Option.some.inj q1))
    have e2 : t = t' := (congrArg Prod.snd (Option.some.inj q1))
    subst e2
    refine lv_tableIn C0.1 C0.2.1 hdg (by omega) (by rw [hn.2, ← hn.1]; omega) (by rw [e1, show (lo + (i : Int) - lo).toNat = i by omega]; exact q2) q3 (hX t g1 H locs lsA hl hR hS h1 h2)
  · refine lv_tableOut C0.1 C0.2.1 hdg ?_ hd (hX t g1 H locs lsA hl hR hS h1 h2)
    rcases Int.lt_or_le x.toInt lo with q | q
    · exact Or.inl q
    · rcases Int.lt_or_le hi x.toInt with q' | q'
      · exact Or.inr q'
      · exfalso
        obtain ⟨t', o, q1, q2, q3⟩ := hsw (x.toInt - lo).toNat (by rw [hn.1]; have := hn.2; omega)
        exact g2 _ (List.mem_of_getElem? q1) (by show x.toInt = lo + ((x.toInt - lo).toNat : Int); omega)
theorem ab_lkof {pc a1 : Nat} {df : Int} {x : Int} : ∀ (ps : List (Int × Int)) (sw : List (Int × Nat)), ps.length = sw.length → (∀ i, i < ps.length → ∃ k o t, ps[i]? = some (k, o) ∧ sw[i]? = some (k, t) ∧ (pc : Int) + o = (t : Int)) → (pc : Int) + df = (a1 : Int) → ∀ {X : Nat → Prop}, ab_sw x X a1 sw → ∃ t, X t ∧ (pc : Int) + Op.lookupswitch.offset ps df x = (t : Int)
  | [], [], _, _, hd, X, k => ⟨a1, k, hd⟩
  | [], _ :: _, hl, _, _, _, _ => by cases hl
  | _ :: _, [], hl, _, _, _, _ => by cases hl
  | (k0, o0) :: ps, (k1, t1) :: sw, hl, hs, hd, X, k => by
    obtain ⟨kk, o, t, q1, q2, q3⟩ := hs 0 (by simp)
    simp at q1 q2
    obtain ⟨rfl, rfl⟩ := q1
    obtain ⟨rfl, rfl⟩ := q2
    rw [Op.lookupswitch.offset_cons]
    by_cases hx : x = k1
    · rw [if_pos hx.symm]
      exact ⟨t1, k.1 hx, q3⟩
    · rw [if_neg (fun hh => hx hh.symm)]
      exact ab_lkof ps sw (by simpa using hl) (fun i hi => by have := hs (i + 1) (by simpa using hi); simpa using this) hd (k.2 hx)
theorem ws_lookup (C0 : ab_Cx p s m meth c n D cT b0 b L xs n0) {df : Int} {ps : Array (Int × Int)} {len a1 : Nat} {x : Int32} {sw : List (Int × Nat)} {X : Nat → Prop} (hdg : decode (ab_bt n) pc = .ok (.lookupswitch df ps, len)) (hp : (ps.toList.zip (ps.toList.drop 1)).all (fun (a, next) => a.1 < next.1) = true) (hd : (pc : Int) + df = (a1 : Int)) (hn : ps.toList.length = sw.length)
    (hsw : ∀ i, i < ps.toList.length → ∃ k o t, ps.toList[i]? = some (k, o) ∧ sw[i]? = some (k, t) ∧ (pc : Int) + o = (t : Int)) (hX : ∀ t, X t → ab_WG p l e s m args below meth c n D cT b0 b L xs n0 s0 d E t ls st h) (k : ab_sw x.toInt X a1 sw) : ab_WG p l e s m args below meth c n D cT b0 b L xs n0 s0 d E pc ls (.inl x :: st) h := by
  intro H locs lsA hl hR hS h1 h2
  obtain ⟨t, g1, g2⟩ := ab_lkof ps.toList sw hn hsw hd k
  exact lv_lookup C0.1 C0.2.1 hdg hp rfl g2 (hX t g1 H locs lsA hl hR hS h1 h2)
end AB1
end
section
/-! ===== rules: the heap (own text) ===== -/
theorem ab_Nw_warm {w : Jvm.Cond} (h : ab_okw w = true) {u U : State} (hW : u.WarmedH U.vm) (hZ : va_Nw w u) : va_Nw w U := by
  by_cases hg : goodWord w = true
  · exact word_at hW (good_of_word hg) hZ
  · unfold ab_okw at h
    rw [Bool.or_eq_true] at h
    rcases h with h | h
    · exact absurd h hg
    · split at h
      · exact va_Nw.warmM hW hZ
      · exact va_Nw.warmF hW hZ
      · exact va_AO.moved hW.alike hZ
      · cases h
theorem ab_KV.warm {D : va_G} {cT : Nat → ClassId} {u U : State} (h : ab_KV D cT u) (hW : u.WarmedH U.vm) : ab_KV D cT U :=
  ⟨fun w hw ho => ab_Nw_warm ho hW (h.1 w hw ho), va_K.moved hW.alike h.2⟩
section AB2
variable {p : Program} {l : Launch} {e : Env} {s : State} {m : MethodId} {args : Array Value} {below : List Frame} {meth : Method} {c : Code} {n : Nat} {D : va_G} {cT : Nat → ClassId} {b0 b L : Nat} {xs : Nat → Int32} {n0 s0 d : Nat} {E : State → Prop} {pc : Nat} {ls : ab_L} {st : List ab_V} {h : ab_H} {H : Heap}
theorem ab_ws_len : (ab_ws b0 b cT h).length = h.2.1 := by simp [ab_ws]
theorem ab_ws_at {a : Nat} (ha : a < h.2.1) : (ab_ws b0 b cT h)[a]? = some (b0 + a, ab_ce b0 b cT (h.1 a)) := by
  simp [ab_ws, ha]
theorem ab_ws_of {k : Nat} {q : Nat × va_E} (hk : (ab_ws b0 b cT h)[k]? = some q) : k < h.2.1 ∧ q = (b0 + k, ab_ce b0 b cT (h.1 k)) := by
  have hl : k < (ab_ws b0 b cT h).length := (List.getElem?_eq_some_iff.mp hk).1
  rw [ab_ws_len] at hl
  rw [ab_ws_at hl] at hk
  exact ⟨hl, (Option.some.inj hk).symm⟩
theorem ab_ws_D : va_D (ab_A b0) (ab_ws b0 b cT h) := by
  refine ⟨fun i j p q hp hq he => ?_, fun k q hq => ?_⟩
  · obtain ⟨-, rfl⟩ := ab_ws_of hp
    obtain ⟨-, rfl⟩ := ab_ws_of hq
    exact Nat.add_left_cancel he
  · obtain ⟨-, rfl⟩ := ab_ws_of hq
    exact Nat.le_add_right _ _
theorem ab_up_self {α : Type} (f : Nat → α) (k : Nat) (v : α) : ab_up f k v k = v := by simp [ab_up]
theorem ab_up_ne {α : Type} (f : Nat → α) {k j : Nat} (v : α) (h : j ≠ k) : ab_up f k v j = f j := by
  unfold ab_up
  rw [show Nat.beq j k = false from by
    cases e : Nat.beq j k with
    | false => rfl
    | true => exact absurd (Nat.eq_of_beq_eq_true e) h]
  rfl
theorem ab_ws_set {a : Nat} {x : ab_C} (ha : a < h.2.1) : (ab_ws b0 b cT h).set a (b0 + a, ab_ce b0 b cT x) = ab_ws b0 b cT (ab_set h a x) := by
  apply List.ext_getElem?
  intro k
  by_cases hk : k < h.2.1
  · rw [ab_ws_at (h := ab_set h a x) hk]
    by_cases e : k = a
    · subst e
      rw [List.getElem?_set_self (by rw [ab_ws_len]; exact ha)]
      show _ = some (_, ab_ce b0 b cT (ab_up h.1 k x k))
      rw [ab_up_self]
    · rw [List.getElem?_set_ne (Ne.symm e), ab_ws_at hk]
      show _ = some (_, ab_ce b0 b cT (ab_up h.1 a x k))
      rw [ab_up_ne _ _ e]
  · rw [List.getElem?_eq_none (by simp [ab_ws_len]; omega), List.getElem?_eq_none (by rw [ab_ws_len]; show h.2.1 ≤ k; omega)]
theorem ab_Rl_sz (hR : ab_Rl D cT b0 b L xs h H) : H.size = b0 + h.2.1 := hR.1
theorem ab_Rl_P (hR : ab_Rl D cT b0 b L xs h H) : va_P D ab_cl (ab_ws b0 b cT h) H := hR.2.2.2.2.2.2
theorem ab_lt {a : Nat} (hR : ab_Rl D cT b0 b L xs h H) (h1 : a ≠ ab_scr) (h2 : h.1 a ≠ ab_ob 999 []) : a < h.2.1 := by
  rcases Nat.lt_or_ge a h.2.1 with q | q
  · exact q
  · exact absurd (hR.2.2.2.2.1 a q h1) h2
theorem ab_ob_real {a ci : Nat} {fs : List ab_V} (hR : ab_Rl D cT b0 b L xs h H) (hc : h.1 a = ab_ob ci fs) (h9 : ci ≠ 999) : a ≠ ab_scr ∧ a < h.2.1 := by
  have h1 : a ≠ ab_scr := fun e => by
    rw [e, hR.2.2.2.1] at hc
    cases hc
  exact ⟨h1, ab_lt hR h1 (fun e => by rw [hc] at e; cases e; exact h9 rfl)⟩
theorem ab_ra_real {a t k : Nat} {f : Nat → Option Nat} (hR : ab_Rl D cT b0 b L xs h H) (hc : h.1 a = ab_ra t k f) : a ≠ ab_scr ∧ a < h.2.1 := by
  have h1 : a ≠ ab_scr := fun e => by
    rw [e, hR.2.2.2.1] at hc
    cases hc
  exact ⟨h1, ab_lt hR h1 (fun e => by rw [hc] at e; cases e)⟩
theorem ab_ia_real {a t k : Nat} {f : Nat → Int32} (hR : ab_Rl D cT b0 b L xs h H) (hc : h.1 a = ab_ia t k f) (h9 : t ≠ 9) : a ≠ ab_scr ∧ a < h.2.1 := by
  have h1 : a ≠ ab_scr := fun e => by
    rw [e, hR.2.2.2.1] at hc
    cases hc
    exact h9 rfl
  exact ⟨h1, ab_lt hR h1 (fun e => by rw [hc] at e; cases e)⟩
theorem ab_Rl_set {a : Nat} {x : ab_C} {H1 : Heap} (hR : ab_Rl D cT b0 b L xs h H) (ha : a < h.2.1) (hv : ab_vt x) (hz : H1.size = H.size) (hP : va_P D ab_cl ((ab_ws b0 b cT h).set a (b0 + a, ab_ce b0 b cT x)) H1) : ab_Rl D cT b0 b L xs (ab_set h a x) H1 := by
  obtain ⟨r1, r2, r3, r4, r5, r6, r7⟩ := hR
  have hs : a ≠ ab_scr := by have h9 : ab_CM < ab_scr := by decide
                             omega
  refine ⟨by rw [hz]; exact r1, r2, r3, ?_, ?_, ?_, ?_⟩
  · show ab_up h.1 a x ab_scr = _
    rw [ab_up_ne _ _ (Ne.symm hs)]
    exact r4
  · intro k hk hks
    show ab_up h.1 a x k = _
    have hk' : h.2.1 ≤ k := hk
    rw [ab_up_ne _ _ (by omega)]
    exact r5 k hk hks
  · intro k hk
    show ab_vt (ab_up h.1 a x k)
    by_cases e : k = a
    · subst e; rw [ab_up_self]; exact hv
    · rw [ab_up_ne _ _ e]; exact r6 k hk
  · rw [← ab_ws_set ha]
    exact hP
theorem ab_Rl_new {x : ab_C} {k : Nat} {H1 : Heap} (hR : ab_Rl D cT b0 b L xs h H) (hc : h.2.1 < ab_CM) (hk : h.2.2 + k ≤ ab_SM) (hv : ab_vt x) (hz : H1.size = b0 + h.2.1 + 1) (ho : ∀ q, q < b0 + h.2.1 → H1[q]? = H[q]?) (hP : va_at D ab_cl (b0 + h.2.1, ab_ce b0 b cT x) H1) : ab_Rl D cT b0 b L xs (ab_new h x k) H1 := by
  obtain ⟨r1, r2, r3, r4, r5, r6, r7⟩ := hR
  have hs : h.2.1 ≠ ab_scr := by have h9 : ab_CM < ab_scr := by decide
                                 omega
  refine ⟨by rw [hz]; rfl, hc, hk, ?_, ?_, ?_, ?_⟩
  · show ab_up h.1 h.2.1 x ab_scr = _
    rw [ab_up_ne _ _ (Ne.symm hs)]
    exact r4
  · intro j hj hjs
    have hj' : h.2.1 + 1 ≤ j := hj
    show ab_up h.1 h.2.1 x j = _
    rw [ab_up_ne _ _ (by omega)]
    exact r5 j (by omega) hjs
  · intro j hj
    have hj' : j < h.2.1 + 1 := hj
    show ab_vt (ab_up h.1 h.2.1 x j)
    by_cases e : j = h.2.1
    · subst e; rw [ab_up_self]; exact hv
    · rw [ab_up_ne _ _ e]; exact r6 j (by omega)
  · intro j q hq
    obtain ⟨hj, rfl⟩ := ab_ws_of hq
    have hj' : j < h.2.1 + 1 := hj
    show va_at D ab_cl (b0 + j, ab_ce b0 b cT (ab_up h.1 h.2.1 x j)) H1
    by_cases e : j = h.2.1
    · subst e; rw [ab_up_self]; exact hP
    · rw [ab_up_ne _ _ e]
      exact (r7 j _ (ab_ws_at (by omega))).kept (ho _ (by show b0 + j < _; omega))
theorem ws_tsC (C0 : ab_Cx p s m meth c n D cT b0 b L xs n0) {ci : Nat} {q : vw_C} (hc : ab_cl[ci]? = some q) : ∀ w ∈ u_ws q.1 q.2.1 q.2.2, w.before args s = true := by
  intro w hw
  have h1 := C0.2.2.2.2.2.1.1 w (ab_inC ci q hc w hw)
  obtain ⟨k, -, rfl⟩ := List.mem_map.mp hw
  refine va_Nw.use ?_ (h1 ?_)
  · unfold u_lay
    split <;> rfl
  · unfold u_lay
    split <;> rfl
theorem ws_getfield (C0 : ab_Cx p s m meth c n D cT b0 b L xs n0) {ci k0 i a : Nat} {q : vw_C} {fs : List ab_V} {v : ab_V} (hc : ab_cl[ci]? = some q) (hk : k0 < q.2.2) (h9 : ci ≠ 999) (hw : Jvm.Cond.fieldLink (ab_nm n).cls i (q.2.1 k0).1 (q.2.1 k0).2.1 (q.2.1 k0).2.2.1 ∈ lw_tbl ∨ ∃ host, Jvm.Cond.fieldLinkNest (ab_nm n).cls i (q.2.1 k0).1 (q.2.1 k0).2.1 (q.2.1 k0).2.2.1 host ∈ lw_tbl)
    (hdg : decode (ab_bt n) pc = .ok (.getfield i, 3)) (ho : h.1 a = ab_ob ci fs) (hv : fs[k0]? = some v) (k : ab_WG p l e s m args below meth c n D cT b0 b L xs n0 s0 d E (pc + 3) ls (v :: st) h) : ab_WG p l e s m args below meth c n D cT b0 b L xs n0 s0 d E pc ls (.inr (.inr (some a)) :: st) h := by
  intro H locs lsA hl hR hS h1 h2
  obtain ⟨g1, g2⟩ := ab_ob_real hR ho h9
  have hat : (ab_ws b0 b cT h)[a]? = some (b0 + a, .inr (ci, fs.map (ab_pv b0 b))) := by rw [ab_ws_at g2, ho]; rfl
  have hv' : (fs.map (ab_pv b0 b))[k0]? = some (ab_pv b0 b v) := by simp [hv]
  obtain ⟨C, T, N⟩ := q
  show W p l e _ s m args below meth c H locs _ _ E (F0 m pc lsA (.ref (ab_phi b0 b a) :: st.map (ab_pv b0 b)))
  rw [ab_phi_ne g1]
  rcases hw with hw | ⟨host, hw⟩
  · exact va_get (Ts := u_ws C T N) C0.1 C0.2.1 (ws_tsC C0 hc) (fun _ h => h) C0.2.2.2.2.1 C0.2.2.2.2.2.1.2 (ab_Rl_P hR) a hat hc k0 hk (ws_tw C0 hw rfl) (fun _ h => h) hv' hdg (k H locs lsA hl hR hS h1 h2)
  · exact va_getN (Ts := u_ws C T N) C0.1 C0.2.1 (ws_tsC C0 hc) (fun _ h => h) C0.2.2.2.2.1 C0.2.2.2.2.2.1.2 (ab_Rl_P hR) a hat hc k0 hk (ws_tw C0 hw rfl) (fun _ h => h) hv' hdg (k H locs lsA hl hR hS h1 h2)
def ab_tyc : FieldType → Nat
  | .int => 0
  | .boolean => 1
  | .object _ => 2
  | .array _ => 2
  | _ => 9
theorem ab_toInt01 {x : Int32} (h : x.toInt = 0 ∨ x.toInt = 1) : x = 0 ∨ x = 1 := by
  rcases h with h | h
  · exact Or.inl (Int32.toInt_inj.mp (h.trans ab_c0.symm))
  · exact Or.inr (Int32.toInt_inj.mp (h.trans (by decide)))
theorem ab_fitok {ty : FieldType} {v : ab_V} (hf : ab_fit (ab_tyc ty) v) : narrow ty (ab_pv b0 b v) = ab_pv b0 b v ∧ fits ty (ab_pv b0 b v) = true := by
  cases ty <;> match v, hf with
    | .inl x, hf => first | exact hf.elim | exact ⟨rfl, rfl⟩ | (rcases ab_toInt01 hf with rfl | rfl <;> exact ⟨rfl, rfl⟩)
    | .inr (.inl x), hf => exact hf.elim
    | .inr (.inr none), hf => first | exact hf.elim | exact ⟨rfl, rfl⟩
    | .inr (.inr (some a)), hf => first | exact hf.elim | exact ⟨rfl, rfl⟩
theorem ab_szP {ws : va_W} {A : Nat → Prop} {H0 H1 : Heap} {locs : List Loc} (hS : va_S A H0 H1 locs) : va_S A H0 H1 locs := hS
end AB2
end
section
/-! ===== rules: stores, new cells, ends (own text) ===== -/
section AB3
variable {p : Program} {l : Launch} {e : Env} {s : State} {m : MethodId} {args : Array Value} {below : List Frame} {meth : Method} {c : Code} {n : Nat} {D : va_G} {cT : Nat → ClassId} {b0 b L : Nat} {xs : Nat → Int32} {n0 s0 d : Nat} {E : State → Prop} {pc : Nat} {ls : ab_L} {st : List ab_V} {h : ab_H} {H : Heap}
theorem ab_pv_ref {a : Nat} (h1 : a ≠ ab_scr) : ab_pv b0 b (.inr (.inr (some a))) = .ref (b0 + a) := by
  show va_rf (some (ab_phi b0 b a)) = _
  rw [ab_phi_ne h1]
  rfl
theorem ws_putfield (C0 : ab_Cx p s m meth c n D cT b0 b L xs n0) {ci k0 i a : Nat} {q : vw_C} {fs : List ab_V} {v : ab_V} (hc : ab_cl[ci]? = some q) (hk : k0 < q.2.2) (h9 : ci ≠ 999) (hw : Jvm.Cond.fieldLink (ab_nm n).cls i (q.2.1 k0).1 (q.2.1 k0).2.1 (q.2.1 k0).2.2.1 ∈ lw_tbl) (hfin : (q.2.1 k0).2.2.2 = false ∨ ((q.2.1 k0).2.2.2 = true ∧ (ab_nm n).name = "<init>" ∧ (q.2.1 k0).1 = (ab_nm n).cls))
    (hdg : decode (ab_bt n) pc = .ok (.putfield i, 3)) (ho : h.1 a = ab_ob ci fs) (hl0 : k0 < fs.length) (hf : ab_fit (ab_tyc (ab_ty ci k0)) v) (k : ab_WG p l e s m args below meth c n D cT b0 b L xs n0 s0 d E (pc + 3) ls st (ab_set h a (ab_ob ci (fs.set k0 v)))) : ab_WG p l e s m args below meth c n D cT b0 b L xs n0 s0 d E pc ls (v :: .inr (.inr (some a)) :: st) h := by
  intro H locs lsA hl hR hS h1 h2
  obtain ⟨g1, g2⟩ := ab_ob_real hR ho h9
  have hat : (ab_ws b0 b cT h)[a]? = some (b0 + a, .inr (ci, fs.map (ab_pv b0 b))) := by rw [ab_ws_at g2, ho]; rfl
  have hP := ab_Rl_P hR
  have hK := C0.2.2.2.2.2.1.2
  have hts := ws_tsC (args := args) C0 hc
  have hty := ab_tyC ci q hc k0 hk
  obtain ⟨hn9, hfit⟩ := ab_fitok (b0 := b0) (b := b) hf
  have hap := va_apart (own := (ab_nm n).cls) (args := args) hts (fun _ h => h) (ab_ty ci) (ab_tyC ci q hc) (ab_nmC ci q hc) hK (ci := ci) (by rw [hc])
  have hnew : ∀ H' : Heap, va_at D ab_cl (b0 + a, .inr (ci, (fs.map (ab_pv b0 b)).set k0 (ab_pv b0 b v))) H' → H'.size = H.size → (∀ x, x ≠ b0 + a → H'[x]? = H[x]?) → ab_Rl D cT b0 b L xs (ab_set h a (ab_ob ci (fs.set k0 v))) H' := by
    intro H' e1 e2 e3
    refine ab_Rl_set hR g2 trivial e2 ?_
    have e4 : (.inr (ci, (fs.map (ab_pv b0 b)).set k0 (ab_pv b0 b v)) : va_E) = ab_ce b0 b cT (ab_ob ci (fs.set k0 v)) := by
      show _ = Sum.inr (ci, (fs.set k0 v).map (ab_pv b0 b))
      rw [List.map_set]
    rw [← e4]
    exact hP.set ab_ws_D hat e1 e3
  obtain ⟨r, r1, cell, q1, q2, q3, q4⟩ := hP a _ hat
  have hr : r = q := Option.some.inj (r1.symm.trans hc)
  subst hr
  obtain ⟨hSl, hfc, kC, hkC, hkind⟩ := hK.1 ci _ hc
  obtain ⟨cf, kf, fi, f, hi, hsl⟩ := hSl k0 hk
  have hlay := hts _ (u_in_lay hk)
  have hst := (u_facts hfc hkC (u_lays hts (fun _ h => h) hk) hi).1
  have hdone : ∀ H' : Heap, H'[b0 + a]? = some (cell.setSlot f.slot (ab_pv b0 b v)) → H'.size = H.size → (∀ x, x ≠ b0 + a → H'[x]? = H[x]?) → W p l e (ab_room d n0 s0) s m args below meth c H' (locs ++ [⟨b0 + a, f.slot⟩]) (h.2.1 - n0) (h.2.2 - s0) E (F0 m (pc + 3) lsA (st.map (ab_pv b0 b))) := by
    intro H' e1 e2 e3
    rw [hsl] at e1
    have hat' : va_at D ab_cl (b0 + a, .inr (ci, (fs.map (ab_pv b0 b)).set k0 (ab_pv b0 b v))) H' := ⟨_, hc, t_OB.to (V := updV (vp_V (fs.map (ab_pv b0 b))) k0 (ab_pv b0 b v)) ⟨_, e1, q2, q3, t_set q4 hap hk _⟩ (fun j _ => vp_updV_set (by simpa using hl0) _ j)⟩
    exact k H' _ lsA hl (hnew H' hat' e2 e3) (hS.put e2 e3 (Nat.le_add_right _ _)) h1 h2
  show W p l e _ s m args below meth c H locs _ _ E (F0 m pc lsA (ab_pv b0 b v :: ab_pv b0 b (.inr (.inr (some a))) :: st.map (ab_pv b0 b)))
  rw [ab_pv_ref g1]
  rcases hfin with hfin | ⟨hfin, hin, hdecl⟩
  · unfold u_lay at hlay
    rw [if_neg (by rw [hfin]; decide)] at hlay
    have h6 := u_store hfc hkC hkind hlay hi hty hn9 hfit
    exact W.putK C0.1 C0.2.1 (f := f) ⟨C0.2.2.2.2.1, ws_tw C0 hw rfl, ⟨_, _, _, hi⟩, hst⟩ (by rw [q2]; exact h6) q1 q3 (by rw [hsl]; exact k2_hasslot (q4 k0 hk)) rfl rfl hdg hdone
  · unfold u_lay at hlay
    rw [if_pos hfin] at hlay
    have hcf : m.cls = cf := by
      obtain ⟨_, _, c', _, _, _, -, -, hf', -, -, -, hown2, -⟩ := Cond.laysFinal_spec hlay
      have e1 : c' = cf := by have := hi.symm.trans hf'; simp at this; exact this.1.symm
      rw [hdecl] at hown2
      rw [← e1]; exact Option.some.inj (C0.2.2.2.2.1.symm.trans hown2)
    have h6 := u_fits hfc hkC hkind (Or.inr hlay) hi hty hn9 hfit
    exact W.putFinK C0.1 C0.2.1 C0.2.2.2.2.1 (ws_tw C0 hw rfl) hi hst hcf (C0.2.2.2.2.2.2.2.1.trans hin) (by rw [q2]; exact h6) q1 q3 (by rw [hsl]; exact k2_hasslot (q4 k0 hk)) rfl rfl hdg hdone
theorem ab_vin {x : Int32} {N : Nat} (hx : 0 ≤ x.toInt ∧ x.toInt < N) : vp_in x N := vp_in_iff.mpr hx
theorem ws_iaload (C0 : ab_Cx p s m meth c n D cT b0 b L xs n0) {t N a : Nat} {f : Nat → Int32} {x : Int32} (hdg : decode (ab_bt n) pc = .ok (.iaload, 1)) (ho : h.1 a = ab_ia t N f) (ht : t = 0 ∨ t = 9) (hx : 0 ≤ x.toInt ∧ x.toInt < N) (k : ab_WG p l e s m args below meth c n D cT b0 b L xs n0 s0 d E (pc + 1) ls (.inl (f x.toInt.toNat) :: st) h) : ab_WG p l e s m args below meth c n D cT b0 b L xs n0 s0 d E pc ls (.inl x :: .inr (.inr (some a)) :: st) h := by
  intro H locs lsA hl hR hS h1 h2
  by_cases ha : a = ab_scr
  · subst ha
    rw [hR.2.2.2.1] at ho
    cases ho
    show W p l e _ s m args below meth c H locs _ _ E (F0 m pc lsA (.int x :: .ref (ab_phi b0 b ab_scr) :: st.map (ab_pv b0 b)))
    rw [ab_phi_scr]
    have hsz := C0.2.2.2.2.2.2.2.2.1
    have hbl := C0.2.2.2.2.2.2.2.2.2.1
    exact va_sld C0.1 C0.2.1 C0.2.2.2.2.2.2.2.2.2.2 (by rw [hsz]; exact Nat.lt_of_lt_of_le hbl (Nat.le_add_right _ _)) (Nat.not_le.mpr hbl) hS (ab_vin hx) hdg (k H locs lsA hl hR hS h1 h2)
  · have g2 : a < h.2.1 := ab_lt hR ha (fun e => by rw [ho] at e; cases e)
    have ht0 : t = 0 := by
      have h3 := hR.2.2.2.2.2.1 a g2
      rw [ho] at h3
      rcases ht with ht | ht
      · exact ht
      · subst ht
        rcases h3 with h3 | h3 <;> cases h3
    subst ht0
    have hat : (ab_ws b0 b cT h)[a]? = some (b0 + a, .inl (cT 0, N, .inl f)) := by rw [ab_ws_at g2, ho]; rfl
    show W p l e _ s m args below meth c H locs _ _ E (F0 m pc lsA (.int x :: ab_pv b0 b (.inr (.inr (some a))) :: st.map (ab_pv b0 b)))
    rw [ab_pv_ref ha]
    exact va_iald C0.1 C0.2.1 C0.2.2.2.2.2.1.2 (ab_Rl_P hR) a 0 hat rfl (ab_vin hx) hdg (k H locs lsA hl hR hS h1 h2)
theorem ws_baload (C0 : ab_Cx p s m meth c n D cT b0 b L xs n0) {N a : Nat} {f : Nat → Int32} {x : Int32} (hdg : decode (ab_bt n) pc = .ok (.baload, 1)) (ho : h.1 a = ab_ia 1 N f) (hx : 0 ≤ x.toInt ∧ x.toInt < N) (k : ab_WG p l e s m args below meth c n D cT b0 b L xs n0 s0 d E (pc + 1) ls (.inl (f x.toInt.toNat) :: st) h) : ab_WG p l e s m args below meth c n D cT b0 b L xs n0 s0 d E pc ls (.inl x :: .inr (.inr (some a)) :: st) h := by
  intro H locs lsA hl hR hS h1 h2
  obtain ⟨ha, g2⟩ := ab_ia_real hR ho (by decide)
  have hat : (ab_ws b0 b cT h)[a]? = some (b0 + a, .inl (cT 1, N, .inl f)) := by rw [ab_ws_at g2, ho]; rfl
  show W p l e _ s m args below meth c H locs _ _ E (F0 m pc lsA (.int x :: ab_pv b0 b (.inr (.inr (some a))) :: st.map (ab_pv b0 b)))
  rw [ab_pv_ref ha]
  exact va_zald C0.1 C0.2.1 C0.2.2.2.2.2.1.2 (ab_Rl_P hR) a 1 hat rfl (ab_vin hx) hdg (k H locs lsA hl hR hS h1 h2)
theorem ab_ecC {t : Nat} (h3 : t = 2 ∨ t = 3 ∨ t = 4) : ∃ q : vw_C, ab_cl[ab_ec t]? = some q ∧ (ab_tys cT)[t]? = some (cT t, .object q.1) ∧ ab_ec t ≠ 999 := by
  rcases h3 with rfl | rfl | rfl <;> exact ⟨_, rfl, rfl, by decide⟩
theorem ws_aaload (C0 : ab_Cx p s m meth c n D cT b0 b L xs n0) {t N a : Nat} {f : Nat → Option Nat} {x : Int32} (hdg : decode (ab_bt n) pc = .ok (.aaload, 1)) (ho : h.1 a = ab_ra t N f) (hx : 0 ≤ x.toInt ∧ x.toInt < N) (k : ab_WG p l e s m args below meth c n D cT b0 b L xs n0 s0 d E (pc + 1) ls (.inr (.inr (f x.toInt.toNat)) :: st) h) : ab_WG p l e s m args below meth c n D cT b0 b L xs n0 s0 d E pc ls (.inl x :: .inr (.inr (some a)) :: st) h := by
  intro H locs lsA hl hR hS h1 h2
  obtain ⟨ha, g2⟩ := ab_ra_real hR ho
  have h3 := hR.2.2.2.2.2.1 a g2
  rw [ho] at h3
  obtain ⟨q, q1, q2, -⟩ := ab_ecC (cT := cT) h3
  have hat : (ab_ws b0 b cT h)[a]? = some (b0 + a, .inl (cT t, N, .inr (.inr (.inr (.inr (fun j => (f j).map (ab_phi b0 b))))))) := by rw [ab_ws_at g2, ho]; rfl
  show W p l e _ s m args below meth c H locs _ _ E (F0 m pc lsA (.int x :: ab_pv b0 b (.inr (.inr (some a))) :: st.map (ab_pv b0 b)))
  rw [ab_pv_ref ha]
  exact va_aldq C0.1 C0.2.1 C0.2.2.2.2.2.1.2 (ab_Rl_P hR) a t hat q2 (ab_vin hx) hdg (k H locs lsA hl hR hS h1 h2)
theorem ab_vin2 {x : Int32} {N : Nat} {f : Nat → Value} {cI : ClassId} (hx : 0 ≤ x.toInt ∧ x.toInt < N) : ¬ (x < 0 ∨ (arrV cI N f).slots.size ≤ x.toNatClampNeg) := by
  rw [arrV_size]
  exact ab_vin hx
theorem ab_upV (f : Nat → Int32) (k : Nat) (x : Int32) : (fun j => Value.int (ab_up f k x j)) = updV (fun j => .int (f j)) k (.int x) := by
  funext j
  by_cases hj : j = k
  · subst hj; simp [updV, ab_up_self]
  · simp [updV, ab_up_ne _ _ hj, hj]
theorem ab_upR (f : Nat → Option Nat) (g : Nat → Nat) (k : Nat) (x : Option Nat) : (fun j => va_rf ((ab_up f k x j).map g)) = updV (fun j => va_rf ((f j).map g)) k (va_rf (x.map g)) := by
  funext j
  by_cases hj : j = k
  · subst hj; simp [updV, ab_up_self]
  · simp [updV, ab_up_ne _ _ hj, hj]
theorem ws_iastore (C0 : ab_Cx p s m meth c n D cT b0 b L xs n0) {N a : Nat} {f : Nat → Int32} {x y : Int32} (hdg : decode (ab_bt n) pc = .ok (.iastore, 1)) (ho : h.1 a = ab_ia 0 N f) (hx : 0 ≤ x.toInt ∧ x.toInt < N) (k : ab_WG p l e s m args below meth c n D cT b0 b L xs n0 s0 d E (pc + 1) ls st (ab_set h a (ab_ia 0 N (ab_up f x.toInt.toNat y)))) : ab_WG p l e s m args below meth c n D cT b0 b L xs n0 s0 d E pc ls (.inl y :: .inl x :: .inr (.inr (some a)) :: st) h := by
  intro H locs lsA hl hR hS h1 h2
  obtain ⟨ha, g2⟩ := ab_ia_real hR ho (by decide)
  have hat : (ab_ws b0 b cT h)[a]? = some (b0 + a, .inl (cT 0, N, .inl f)) := by rw [ab_ws_at g2, ho]; rfl
  have hP := ab_Rl_P hR
  show W p l e _ s m args below meth c H locs _ _ E (F0 m pc lsA (.int y :: .int x :: ab_pv b0 b (.inr (.inr (some a))) :: st.map (ab_pv b0 b)))
  rw [ab_pv_ref ha]
  refine W.iast C0.1 C0.2.1 (hP a _ hat) ((C0.2.2.2.2.2.1.2.2 0 _ rfl).1 N (fun j => .int (f j))) (fun q => by cases q) (ab_vin2 hx) rfl rfl hdg fun H1 e1 z oq => ?_
  refine k H1 _ lsA hl (ab_Rl_set hR g2 (Or.inl rfl) z (hP.set ab_ws_D hat ?_ oq)) (hS.put z oq (Nat.le_add_right _ _)) h1 h2
  show H1[b0 + a]? = some (vp_cell (cT 0) (N, .inl (ab_up f x.toInt.toNat y)))
  rw [e1, vp_cell_i, vp_cell_i, arrV_store, ab_upV]
  rfl
theorem ab_n01 {x : Int32} (h : x.toInt = 0 ∨ x.toInt = 1) : narrow .boolean (.int x) = .int x := by
  rcases ab_toInt01 h with rfl | rfl <;> rfl
theorem ws_bastore (C0 : ab_Cx p s m meth c n D cT b0 b L xs n0) {N a : Nat} {f : Nat → Int32} {x y : Int32} (hdg : decode (ab_bt n) pc = .ok (.bastore, 1)) (ho : h.1 a = ab_ia 1 N f) (hx : 0 ≤ x.toInt ∧ x.toInt < N) (hy : y.toInt = 0 ∨ y.toInt = 1) (k : ab_WG p l e s m args below meth c n D cT b0 b L xs n0 s0 d E (pc + 1) ls st (ab_set h a (ab_ia 1 N (ab_up f x.toInt.toNat y)))) : ab_WG p l e s m args below meth c n D cT b0 b L xs n0 s0 d E pc ls (.inl y :: .inl x :: .inr (.inr (some a)) :: st) h := by
  intro H locs lsA hl hR hS h1 h2
  obtain ⟨ha, g2⟩ := ab_ia_real hR ho (by decide)
  have hat : (ab_ws b0 b cT h)[a]? = some (b0 + a, .inl (cT 1, N, .inl f)) := by rw [ab_ws_at g2, ho]; rfl
  have hP := ab_Rl_P hR
  show W p l e _ s m args below meth c H locs _ _ E (F0 m pc lsA (.int y :: .int x :: ab_pv b0 b (.inr (.inr (some a))) :: st.map (ab_pv b0 b)))
  rw [ab_pv_ref ha]
  refine W.zast C0.1 C0.2.1 (hP a _ hat) ((C0.2.2.2.2.2.1.2.2 1 _ rfl).1 N (fun j => .int (f j))) (fun q => by cases q) (ab_vin2 hx) rfl rfl hdg fun H1 e1 z oq => ?_
  refine k H1 _ lsA hl (ab_Rl_set hR g2 (Or.inr rfl) z (hP.set ab_ws_D hat ?_ oq)) (hS.put z oq (Nat.le_add_right _ _)) h1 h2
  show H1[b0 + a]? = some (vp_cell (cT 1) (N, .inl (ab_up f x.toInt.toNat y)))
  rw [e1, ab_n01 hy, vp_cell_i, vp_cell_i, arrV_store, ab_upV]
  rfl
theorem ws_aastore (C0 : ab_Cx p s m meth c n D cT b0 b L xs n0) {t N a : Nat} {f : Nat → Option Nat} {x : Int32} {v : Option Nat} (hdg : decode (ab_bt n) pc = .ok (.aastore, 1)) (ho : h.1 a = ab_ra t N f) (hx : 0 ≤ x.toInt ∧ x.toInt < N) (hv : ∀ w, v = some w → ∃ fs, h.1 w = ab_ob (ab_ec t) fs) (k : ab_WG p l e s m args below meth c n D cT b0 b L xs n0 s0 d E (pc + 1) ls st (ab_set h a (ab_ra t N (ab_up f x.toInt.toNat v)))) : ab_WG p l e s m args below meth c n D cT b0 b L xs n0 s0 d E pc ls (.inr (.inr v) :: .inl x :: .inr (.inr (some a)) :: st) h := by
  intro H locs lsA hl hR hS h1 h2
  obtain ⟨ha, g2⟩ := ab_ra_real hR ho
  have h3 := hR.2.2.2.2.2.1 a g2
  rw [ho] at h3
  obtain ⟨q, q1, q2, q9⟩ := ab_ecC (cT := cT) h3
  have hat : (ab_ws b0 b cT h)[a]? = some (b0 + a, .inl (cT t, N, .inr (.inr (.inr (.inr (fun j => (f j).map (ab_phi b0 b))))))) := by rw [ab_ws_at g2, ho]; rfl
  have hP := ab_Rl_P hR
  have hK := C0.2.2.2.2.2.1.2
  have hdone : ∀ H1 : Heap, H1[b0 + a]? = some ((arrV (cT t) N (fun j => va_rf ((f j).map (ab_phi b0 b)))).setSlot x.toNatClampNeg (va_rf (v.map (ab_phi b0 b)))) → H1.size = H.size → (∀ q, q ≠ b0 + a → H1[q]? = H[q]?) → W p l e (ab_room d n0 s0) s m args below meth c H1 (locs ++ [⟨b0 + a, x.toNatClampNeg⟩]) (h.2.1 - n0) (h.2.2 - s0) E (F0 m (pc + 1) lsA (st.map (ab_pv b0 b))) := by
    intro H1 e1 z oq
    refine k H1 _ lsA hl (ab_Rl_set hR g2 h3 z (hP.set ab_ws_D hat ?_ oq)) (hS.put z oq (Nat.le_add_right _ _)) h1 h2
    show H1[b0 + a]? = some (vp_cell (cT t) (N, .inr (.inr (.inr (.inr (fun j => (ab_up f x.toInt.toNat v j).map (ab_phi b0 b)))))))
    rw [e1, vp_cell_q, arrV_store, ab_upR]
    rfl
  show W p l e _ s m args below meth c H locs _ _ E (F0 m pc lsA (ab_pv b0 b (.inr (.inr v)) :: .int x :: ab_pv b0 b (.inr (.inr (some a))) :: st.map (ab_pv b0 b)))
  rw [ab_pv_ref ha]
  cases v with
  | none => exact va_WaastN (C := q.1) C0.1 C0.2.1 (hP a _ hat) ((hK.2 t _ q2).1 N (fun j => va_rf ((f j).map (ab_phi b0 b)))) (fun h => by cases h) (ab_vin2 hx) rfl rfl hdg hdone
  | some w =>
    obtain ⟨fs, hw⟩ := hv w rfl
    obtain ⟨gw1, gw2⟩ := ab_ob_real hR hw q9
    have hatw : (ab_ws b0 b cT h)[w]? = some (b0 + w, .inr (ab_ec t, fs.map (ab_pv b0 b))) := by rw [ab_ws_at gw2, hw]; rfl
    obtain ⟨r', hr', cellV, k1, k2, k3, -⟩ := hP w _ hatw
    have hcls := (hK.1 _ q q1).2
    obtain ⟨kA, comp, j1, j2, j3, -⟩ := (hK.2 t _ q2).2
    have hcomp : comp = D.1 (ab_ec t) := Option.some.inj (j3.symm.trans hcls.1)
    subst hcomp
    obtain ⟨kC, hkC, -⟩ := hcls.2
    have hin := ab_vin2 (cI := cT t) (f := fun j => va_rf ((f j).map (ab_phi b0 b))) hx
    have e9 : va_rf ((some w).map (ab_phi b0 b)) = .ref (b0 + w) := ab_pv_ref gw1
    rw [e9] at hdone
    rw [ab_pv_ref gw1]
    exact W.aast C0.1 C0.2.1 (hP a _ hat) (fun q h => by cases h) (fun h => by cases h) j1 j2 rfl hkC ⟨fun q => hin (Or.inl q), Nat.not_le.mp fun q => hin (Or.inr q)⟩ k1 (fun q h => by rw [k3] at h; cases h) (by rw [k2]; exact hkC) (by rw [k2]; exact va_assign hcls) rfl rfl hdg hdone
theorem ws_arraylength (C0 : ab_Cx p s m meth c n D cT b0 b L xs n0) {N a : Nat} (hdg : decode (ab_bt n) pc = .ok (.arraylength, 1)) (ho : ab_len (h.1 a) = some N) (k : ab_WG p l e s m args below meth c n D cT b0 b L xs n0 s0 d E (pc + 1) ls (.inl (ab_ii (N : Int)) :: st) h) : ab_WG p l e s m args below meth c n D cT b0 b L xs n0 s0 d E pc ls (.inr (.inr (some a)) :: st) h := by
  intro H locs lsA hl hR hS h1 h2
  by_cases ha : a = ab_scr
  · subst ha
    rw [hR.2.2.2.1] at ho
    cases ho
    show W p l e _ s m args below meth c H locs _ _ E (F0 m pc lsA (.ref (ab_phi b0 b ab_scr) :: st.map (ab_pv b0 b)))
    rw [ab_phi_scr]
    have hsz := C0.2.2.2.2.2.2.2.2.1
    have hbl := C0.2.2.2.2.2.2.2.2.2.1
    exact va_slen C0.1 C0.2.1 C0.2.2.2.2.2.2.2.2.2.2 (by rw [hsz]; exact Nat.lt_of_lt_of_le hbl (Nat.le_add_right _ _)) (Nat.not_le.mpr hbl) hS hdg (k H locs lsA hl hR hS h1 h2)
  · have g2 : a < h.2.1 := ab_lt hR ha (fun e => by rw [e] at ho; cases ho)
    have h3 := hR.2.2.2.2.2.1 a g2
    show W p l e _ s m args below meth c H locs _ _ E (F0 m pc lsA (ab_pv b0 b (.inr (.inr (some a))) :: st.map (ab_pv b0 b)))
    rw [ab_pv_ref ha]
    have hat := ab_ws_at (b0 := b0) (b := b) (cT := cT) g2
    generalize h.1 a = x at ho h3 hat
    match x, ho, h3 with
    | .inl (t, k1, f), ho, h3 =>
      cases ho
      rcases h3 with rfl | rfl
      · exact va_alen C0.1 C0.2.1 C0.2.2.2.2.2.1.2 (ab_Rl_P hR) a 0 hat rfl rfl hdg (k H locs lsA hl hR hS h1 h2)
      · exact va_alen C0.1 C0.2.1 C0.2.2.2.2.2.1.2 (ab_Rl_P hR) a 1 hat rfl rfl hdg (k H locs lsA hl hR hS h1 h2)
    | .inr (.inl (t, k1, f)), ho, h3 =>
      cases ho
      obtain ⟨q, q1, q2, -⟩ := ab_ecC (cT := cT) h3
      exact va_alen C0.1 C0.2.1 C0.2.2.2.2.2.1.2 (ab_Rl_P hR) a t hat q2 rfl hdg (k H locs lsA hl hR hS h1 h2)
end AB3
end
section
/-! ===== rules: new cells, ends (own text) ===== -/
section AB4
variable {p : Program} {l : Launch} {e : Env} {s : State} {m : MethodId} {args : Array Value} {below : List Frame} {meth : Method} {c : Code} {n : Nat} {D : va_G} {cT : Nat → ClassId} {b0 b L : Nat} {xs : Nat → Int32} {n0 s0 d : Nat} {E : State → Prop} {pc : Nat} {ls : ab_L} {st : List ab_V} {h : ab_H} {H : Heap}
theorem ab_sc (h1 : n0 ≤ h.2.1) (h2 : s0 ≤ h.2.2) {k : Nat} (hc : h.2.1 < ab_CM) (hs : h.2.2 + k ≤ ab_SM) : (h.2.1 - n0) + 1 ≤ (ab_room d n0 s0).cells ∧ (h.2.2 - s0) + k ≤ (ab_room d n0 s0).slots := by
  have hc' : h.2.1 < 600000 := hc
  have hs' : h.2.2 + k ≤ 7302250 := hs
  show (h.2.1 - n0) + 1 ≤ 600000 - n0 ∧ (h.2.2 - s0) + k ≤ 7302250 - s0
  omega
theorem ab_scr_gt (hc : h.2.1 < ab_CM) : h.2.1 ≠ ab_scr := by
  have h9 : ab_CM < ab_scr := by decide
  omega
theorem ws_new (C0 : ab_Cx p s m meth c n D cT b0 b L xs n0) {ci N i : Nat} {q : vw_C} (hc : ab_cl[ci]? = some q) (hN : q.2.2 = N) (hw1 : Jvm.Cond.classLink (ab_nm n).cls i q.1 ∈ lw_tbl) (hw2 : Jvm.Cond.instantiable q.1 N ∈ lw_tbl) (hw3 : Jvm.Cond.initialized q.1 ∈ lw_tbl)
    (hdg : decode (ab_bt n) pc = .ok (.new i, 3)) (hr : h.2.1 < ab_CM ∧ h.2.2 + N ≤ ab_SM) (k : ab_WG p l e s m args below meth c n D cT b0 b L xs n0 s0 d E (pc + 3) ls (.inr (.inr (some h.2.1)) :: st) (ab_new h (ab_ob ci (ab_df ci)) N)) : ab_WG p l e s m args below meth c n D cT b0 b L xs n0 s0 d E pc ls st h := by
  intro H locs lsA hl hR hS h1 h2
  subst hN
  have hK := C0.2.2.2.2.2.1.2
  have hKn := hK.1 ci _ hc
  obtain ⟨r1, r2⟩ := ab_sc (d := d) h1 h2 hr.1 hr.2
  refine W.newcK C0.1 C0.2.1 C0.2.2.2.2.1 (ws_tw C0 hw1 rfl) (ws_tw C0 hw2 rfl) (ws_tw C0 hw3 rfl) rfl hdg r1 r2 hKn.2.1 hR.1 fun H1 kC hkC e1 z1 o1 => ?_
  have hat : va_at D ab_cl (b0 + h.2.1, ab_ce b0 b cT (ab_ob ci (ab_df ci))) H1 := ⟨_, hc, (u_born (ab_ty ci) (ws_tsC (args := args) C0 hc) (fun _ h => h) hKn hkC e1 (ab_tyC ci q hc)).to (ab_dfC (f := ab_pv b0 b) rfl rfl ci q hc)⟩
  have hk := k H1 locs lsA hl (ab_Rl_new hR hr.1 hr.2 trivial z1 (fun x hx => o1 x hx) hat) ⟨Nat.le_trans hS.1 (by rw [z1, hR.1]; omega), fun x h3 h4 => (o1 x (by rw [← hR.1]; exact Nat.lt_of_lt_of_le h3 hS.1)).trans (hS.2.1 x h3 h4), hS.2.2⟩ (Nat.le_succ_of_le h1) (Nat.le_trans h2 (Nat.le_add_right _ _))
  have e2 : (ab_new h (ab_ob ci (ab_df ci)) q.2.2).2.1 - n0 = h.2.1 - n0 + 1 := by show h.2.1 + 1 - n0 = _; omega
  have e3 : (ab_new h (ab_ob ci (ab_df ci)) q.2.2).2.2 - s0 = h.2.2 - s0 + q.2.2 := by show h.2.2 + q.2.2 - s0 = _; omega
  rw [e2, e3] at hk
  have e4 : ab_pv b0 b (.inr (.inr (some h.2.1))) = .ref (b0 + h.2.1) := ab_pv_ref (ab_scr_gt hr.1)
  rw [List.map_cons, e4] at hk
  exact hk
theorem ab_nat_i {x : Int32} (hx : 0 ≤ x.toInt) : ¬ x < 0 := fun hh => by
  have := Int32.lt_iff_toInt_lt.mp hh
  rw [ab_c0] at this
  omega
theorem ws_newarr (C0 : ab_Cx p s m meth c n D cT b0 b L xs n0) {ty : ArrayType} {t : Nat} {x : Int32} (ht : (t = 0 ∧ ty = .int) ∨ (t = 1 ∧ ty = .boolean)) (hw : Jvm.Cond.arrayClass (newarray.typeOf ty) ∈ lw_tbl)
    (hdg : decode (ab_bt n) pc = .ok (.newarray ty, 2)) (hr : 0 ≤ x.toInt ∧ h.2.1 < ab_CM ∧ h.2.2 + x.toInt.toNat ≤ ab_SM) (k : ab_WG p l e s m args below meth c n D cT b0 b L xs n0 s0 d E (pc + 2) ls (.inr (.inr (some h.2.1)) :: st) (ab_new h (ab_ia t x.toInt.toNat (fun _ => 0)) x.toInt.toNat)) : ab_WG p l e s m args below meth c n D cT b0 b L xs n0 s0 d E pc ls (.inl x :: st) h := by
  intro H locs lsA hl hR hS h1 h2
  have hK := C0.2.2.2.2.2.1.2
  obtain ⟨r1, r2⟩ := ab_sc (d := d) h1 h2 hr.2.1 hr.2.2
  have hlim : x.toInt.toNat ≤ 7302250 := Nat.le_trans (Nat.le_add_left _ _) hr.2.2
  have hcb : componentBytes (newarray.typeOf ty) ≤ 8 := by rcases ht with ⟨-, rfl⟩ | ⟨-, rfl⟩ <;> decide
  have hwb : (Jvm.Cond.arrayClass (newarray.typeOf ty)).before args s = true := C0.2.2.2.2.2.1.1 _ hw (by rcases ht with ⟨-, rfl⟩ | ⟨-, rfl⟩ <;> rfl)
  refine va_newaK (N := x.toInt.toNat) C0.1 C0.2.1 hwb rfl hdg rfl (ab_nat_i hr.1) rfl (by
    have := Nat.mul_le_mul hlim hcb
    omega) r1 r2 hR.1 fun H1 cA e1 z1 o1 hAr hNm => ?_
  have hcA : cA = cT t := by
    rcases ht with ⟨rfl, rfl⟩ | ⟨rfl, rfl⟩
    · exact Option.some.inj (hNm.symm.trans (hK.2 0 _ rfl).2)
    · exact Option.some.inj (hNm.symm.trans (hK.2 1 _ rfl).2)
  subst hcA
  have hat : va_at D ab_cl (b0 + h.2.1, ab_ce b0 b cT (ab_ia t x.toInt.toNat (fun _ => 0))) H1 := by
    show H1[b0 + h.2.1]? = some (vp_cell (cT t) (x.toInt.toNat, .inl (fun _ => 0)))
    rw [e1, vp_cell_i]
    rcases ht with ⟨-, rfl⟩ | ⟨-, rfl⟩ <;> rfl
  have hvt : ab_vt (ab_ia t x.toInt.toNat (fun _ => 0)) := by rcases ht with ⟨rfl, -⟩ | ⟨rfl, -⟩ <;> simp [ab_vt]
  have hk := k H1 locs lsA hl (ab_Rl_new hR hr.2.1 hr.2.2 hvt z1 (fun x hx => o1 x hx) hat) ⟨Nat.le_trans hS.1 (by rw [z1, hR.1]; omega), fun x h3 h4 => (o1 x (by rw [← hR.1]; exact Nat.lt_of_lt_of_le h3 hS.1)).trans (hS.2.1 x h3 h4), hS.2.2⟩ (Nat.le_succ_of_le h1) (Nat.le_trans h2 (Nat.le_add_right _ _))
  have e2 : (ab_new h (ab_ia t x.toInt.toNat (fun _ => 0)) x.toInt.toNat).2.1 - n0 = h.2.1 - n0 + 1 := by show h.2.1 + 1 - n0 = _; omega
  have e3 : (ab_new h (ab_ia t x.toInt.toNat (fun _ => 0)) x.toInt.toNat).2.2 - s0 = h.2.2 - s0 + x.toInt.toNat := by show h.2.2 + _ - s0 = _; omega
  rw [e2, e3] at hk
  have e4 : ab_pv b0 b (.inr (.inr (some h.2.1))) = .ref (b0 + h.2.1) := ab_pv_ref (ab_scr_gt hr.2.1)
  rw [List.map_cons, e4] at hk
  exact hk
theorem ws_anewarr (C0 : ab_Cx p s m meth c n D cT b0 b L xs n0) {i t : Nat} {x : Int32} {q : vw_C} (h3 : t = 2 ∨ t = 3 ∨ t = 4) (hq : ab_cl[ab_ec t]? = some q) (hw1 : Jvm.Cond.classLink (ab_nm n).cls i q.1 ∈ lw_tbl) (hw2 : Jvm.Cond.arrayOver (.object q.1) ∈ lw_tbl)
    (hdg : decode (ab_bt n) pc = .ok (.anewarray i, 3)) (hr : 0 ≤ x.toInt ∧ h.2.1 < ab_CM ∧ h.2.2 + x.toInt.toNat ≤ ab_SM) (k : ab_WG p l e s m args below meth c n D cT b0 b L xs n0 s0 d E (pc + 3) ls (.inr (.inr (some h.2.1)) :: st) (ab_new h (ab_ra t x.toInt.toNat (fun _ => none)) x.toInt.toNat)) : ab_WG p l e s m args below meth c n D cT b0 b L xs n0 s0 d E pc ls (.inl x :: st) h := by
  intro H locs lsA hl hR hS h1 h2
  have hK := C0.2.2.2.2.2.1.2
  obtain ⟨r1, r2⟩ := ab_sc (d := d) h1 h2 hr.2.1 hr.2.2
  have hlim : x.toInt.toNat ≤ 7302250 := Nat.le_trans (Nat.le_add_left _ _) hr.2.2
  obtain ⟨q', q1, q2, -⟩ := ab_ecC (cT := cT) h3
  have hqq : q' = q := Option.some.inj (q1.symm.trans hq)
  subst hqq
  have hov : (Jvm.Cond.arrayOver (.object q'.1)).before args s = true := C0.2.2.2.2.2.1.1 _ hw2 rfl
  refine W.anew C0.1 C0.2.1 C0.2.2.2.2.1 (ws_tw C0 hw1 rfl) hov rfl hdg rfl (ab_nat_i hr.1) (by show x.toInt.toNat * 4 ≤ _; omega) r1 r2 fun cA kA comp f1 f2 f3 f4 => ?_
  have hcA : cA = cT t := by
    obtain ⟨_, _, _, _, _, j4⟩ := (hK.2 t _ q2).2
    exact Option.some.inj (f1.symm.trans j4)
  subst hcA
  generalize hH1 : H.push ({ cls := cT t, slots := Array.replicate x.toNatClampNeg .null, vm := .none } : Cell) = H1
  have z1 : H1.size = b0 + h.2.1 + 1 := by rw [← hH1, Array.size_push, hR.1]
  have e1 : H1[b0 + h.2.1]? = some (arrV (cT t) x.toNatClampNeg (fun _ => .null)) := by rw [← hH1, ← hR.1, Array.getElem?_push_size, ← arrV_new]
  have o1 : ∀ y : Nat, y < b0 + h.2.1 → H1[y]? = H[y]? := fun y hy => by rw [← hH1, Array.getElem?_push, if_neg (by rw [hR.1]; exact Nat.ne_of_lt hy)]
  have hat : va_at D ab_cl (b0 + h.2.1, ab_ce b0 b cT (ab_ra t x.toInt.toNat (fun _ => none))) H1 := by
    show H1[b0 + h.2.1]? = some (vp_cell (cT t) (x.toInt.toNat, .inr (.inr (.inr (.inr (fun j => (none : Option Nat).map (ab_phi b0 b)))))))
    rw [e1, vp_cell_q]
    rfl
  have hk := k H1 locs lsA hl (ab_Rl_new hR hr.2.1 hr.2.2 h3 z1 (fun x hx => o1 x hx) hat) ⟨Nat.le_trans hS.1 (by rw [z1, hR.1]; omega), fun x h3 h4 => (o1 x (by rw [← hR.1]; exact Nat.lt_of_lt_of_le h3 hS.1)).trans (hS.2.1 x h3 h4), hS.2.2⟩ (Nat.le_succ_of_le h1) (Nat.le_trans h2 (Nat.le_add_right _ _))
  have e2 : (ab_new h (ab_ra t x.toInt.toNat (fun _ => none)) x.toInt.toNat).2.1 - n0 = h.2.1 - n0 + 1 := by show h.2.1 + 1 - n0 = _; omega
  have e3 : (ab_new h (ab_ra t x.toInt.toNat (fun _ => none)) x.toInt.toNat).2.2 - s0 = h.2.2 - s0 + x.toInt.toNat := by show h.2.2 + _ - s0 = _; omega
  rw [e2, e3] at hk
  have e4 : ab_pv b0 b (.inr (.inr (some h.2.1))) = .ref (b0 + h.2.1) := ab_pv_ref (ab_scr_gt hr.2.1)
  rw [List.map_cons, e4, ← hR.1] at hk
  exact hk
theorem ab_mono {R : Room} {locs : List Loc} {cells slots : Nat} {Q Q' : State → Prop} {g : JFrame} (k : W p l e R s m args below meth c H locs cells slots Q' g) (hQ : ∀ t, Q' t → Q t) : W p l e R s m args below meth c H locs cells slots Q g := by
  intro T hT X
  obtain ⟨t, a, q⟩ := k T hT X
  exact ⟨t, a, hQ t q⟩
theorem ab_ret {Q : ab_Q} {r : Option ab_V} {locs : List Loc} (hR : ab_Rl D cT b0 b L xs h H) (hS : va_S (ab_A b0) s.heap H locs) (h1 : n0 ≤ h.2.1) (h2 : s0 ≤ h.2.2) (hQ : Q r h) (t : State) (ht : t.heap = H) : ab_Qm Q D cT b0 b L xs n0 s0 (h.2.1 - n0) (h.2.2 - s0) args s (.returned (r.map (ab_pv b0 b))) t :=
  ⟨r, h, rfl, by rw [ht]; exact hR, by omega, by omega, hQ, hS.F ht⟩
theorem ws_ireturn (C0 : ab_Cx p s m meth c n D cT b0 b L xs n0) {Q : ab_Q} {t : Nat} {x : Int32} (hE : E = ab_En below args s Q D cT b0 b L xs n0 s0) (hrt : (t = 0 ∧ ab_rt n = some .int) ∨ (t = 1 ∧ ab_rt n = some .boolean)) (hdg : decode (ab_bt n) pc = .ok (.ireturn, 1)) (hf : ab_fit t (.inl x)) (hQ : Q (some (.inl x)) h) : ab_WG p l e s m args below meth c n D cT b0 b L xs n0 s0 d E pc ls [.inl x] h := by
  subst hE
  intro H locs lsA hl hR hS h1 h2
  have hlk := C0.2.2.2.2.2.2.1
  rcases hrt with ⟨rfl, hrt⟩ | ⟨rfl, hrt⟩
  · exact ab_mono (W.zret (ty := .int) (free := ab_A b0) (v := x) C0.1 C0.2.1 (C0.2.2.1.trans hrt) rfl (fun t ht hW => ab_ret (args := args) hR hS h1 h2 hQ t ht) hS.2.2 hdg hlk) (fun t ht => ⟨_, _, ht⟩)
  · exact ab_mono (W.zret (ty := .boolean) (free := ab_A b0) (v := x) C0.1 C0.2.1 (C0.2.2.1.trans hrt) (ab_n01 hf) (fun t ht hW => ab_ret (args := args) hR hS h1 h2 hQ t ht) hS.2.2 hdg hlk) (fun t ht => ⟨_, _, ht⟩)
theorem ws_lreturn (C0 : ab_Cx p s m meth c n D cT b0 b L xs n0) {Q : ab_Q} {x : Int64} (hE : E = ab_En below args s Q D cT b0 b L xs n0 s0) (hrt : ab_rt n = some .long) (hdg : decode (ab_bt n) pc = .ok (.lreturn, 1)) (hQ : Q (some (.inr (.inl x))) h) : ab_WG p l e s m args below meth c n D cT b0 b L xs n0 s0 d E pc ls [.inr (.inl x)] h := by
  subst hE
  intro H locs lsA hl hR hS h1 h2
  have hlk := C0.2.2.2.2.2.2.1
  exact ab_mono (W.lret (free := ab_A b0) (v := x) C0.1 C0.2.1 (C0.2.2.1.trans hrt) (fun t ht hW => ab_ret (args := args) hR hS h1 h2 hQ t ht) hS.2.2 hdg hlk) (fun t ht => ⟨_, _, ht⟩)
theorem ws_areturn (C0 : ab_Cx p s m meth c n D cT b0 b L xs n0) {Q : ab_Q} {o : Option Nat} (hE : E = ab_En below args s Q D cT b0 b L xs n0 s0) (hrt : ∃ ty, ab_rt n = some ty ∧ ((∃ n, ty = .object n) ∨ ∃ t, ty = .array t)) (hdg : decode (ab_bt n) pc = .ok (.areturn, 1)) (hQ : Q (some (.inr (.inr o))) h) : ab_WG p l e s m args below meth c n D cT b0 b L xs n0 s0 d E pc ls [.inr (.inr o)] h := by
  subst hE
  intro H locs lsA hl hR hS h1 h2
  have hlk := C0.2.2.2.2.2.2.1
  obtain ⟨ty, hrt, hty⟩ := hrt
  exact ab_mono (W.aret (free := ab_A b0) (v := ab_pv b0 b (.inr (.inr o))) C0.1 C0.2.1 (C0.2.2.1.trans hrt) hty (va_rf_or _) (fun t ht hW => ab_ret (args := args) hR hS h1 h2 hQ t ht) hS.2.2 hdg hlk) (fun t ht => ⟨_, _, ht⟩)
theorem ws_vreturn (C0 : ab_Cx p s m meth c n D cT b0 b L xs n0) {Q : ab_Q} (hE : E = ab_En below args s Q D cT b0 b L xs n0 s0) (hrt : ab_rt n = none) (hdg : decode (ab_bt n) pc = .ok (.return_, 1)) (hQ : Q none h) : ab_WG p l e s m args below meth c n D cT b0 b L xs n0 s0 d E pc ls [] h := by
  subst hE
  intro H locs lsA hl hR hS h1 h2
  have hlk := C0.2.2.2.2.2.2.1
  exact ab_mono (W.vret (free := ab_A b0) C0.1 C0.2.1 (C0.2.2.1.trans hrt) (fun t ht hW => ab_ret (args := args) hR hS h1 h2 hQ t ht) hS.2.2 hdg hlk) (fun t ht => ⟨_, _, ht⟩)
theorem ws_objinit (C0 : ab_Cx p s m meth c n D cT b0 b L xs n0) {i a : Nat} (hd1 : 1 ≤ d) (hd2 : d ≤ 2048) (hst : ab_cats st ≤ 8) (hw1 : Jvm.Cond.methodLink (ab_nm n).cls i Lib.objectInit ∈ lw_tbl) (hw2 : Jvm.Cond.instanceMethod Lib.objectInit ∈ lw_tbl) (hw3 : Jvm.Cond.code Lib.objectInit ⟨#[0xb1]⟩ 1 none ∈ lw_tbl) (hdg : decode (ab_bt n) pc = .ok (.invokespecial i, 3)) (k : ab_WG p l e s m args below meth c n D cT b0 b L xs n0 s0 d E (pc + 3) ls st h) : ab_WG p l e s m args below meth c n D cT b0 b L xs n0 s0 d E pc ls (.inr (.inr (some a)) :: st) h := by
  intro H locs lsA hl hR hS h1 h2
  have h8 := lv_room (m := m) (pc := pc) (ls := lsA) (rest := []) (st := st.map (ab_pv b0 b)) (by rw [ab_cats_pv]; exact hst)
  refine W.objInit C0.1 C0.2.1 C0.2.2.2.2.1 (ws_tw C0 hw1 rfl) (ws_tw C0 hw2 rfl) (ws_tw C0 hw3 rfl) rfl (hl.1.trans C0.2.2.2.1.symm) rfl hdg hd1 ?_ (k H locs lsA hl hR hS h1 h2)
  have h9 : 40 * (2048 - d) ≤ 81880 := by omega
  show _ ≤ 84000 - 40 * (2048 - d)
  exact Nat.le_trans (Nat.add_le_add_right h8 12) (by omega)
end AB4
end
section
/-! ===== rules: calls (own text) ===== -/
section AB5
variable {p : Program} {l : Launch} {e : Env} {s : State} {m : MethodId} {args : Array Value} {below : List Frame} {meth : Method} {c : Code} {n : Nat} {D : va_G} {cT : Nat → ClassId} {b0 b L : Nat} {xs : Nat → Int32} {n0 s0 d : Nat} {E : State → Prop} {pc : Nat} {ls : ab_L} {st : List ab_V} {h : ab_H} {H : Heap}
/-- what a called method must have in the tables -/
def ab_okM (y : Nat) : Prop := Jvm.Cond.code (ab_nm y) (ab_bt y) (ab_ml y) (ab_rt y) ∈ lw_tbl ∧ Jvm.Cond.initialized (ab_nm y).cls ∈ lw_tbl ∧ ab_ml y ≤ 21 ∧ (ab_nm y).cls ≠ "java/lang/invoke/MethodHandle" ∧ (ab_nm y).cls ≠ "java/lang/invoke/VarHandle"
def ab_Pre (D : va_G) (cT : Nat → ClassId) (b0 b L : Nat) (xs : Nat → Int32) (n0 s0 : Nat) (as : List ab_V) (h : ab_H) : Pt → Array Value → Prop := fun A a => A.cells = h.2.1 - n0 ∧ A.slots = h.2.2 - s0 ∧ ab_Pc D cT b0 b L xs as h a A.U
def ab_Pst (Q : ab_Q) (D : va_G) (cT : Nat → ClassId) (b0 b L : Nat) (xs : Nat → Int32) (h : ab_H) : Pt → Array Value → Option Value → Pt → Prop := fun A _ v B =>
  ∃ (r : Option ab_V) (h' : ab_H) (Lc : List Loc), v = r.map (ab_pv b0 b) ∧ ab_Rl D cT b0 b L xs h' B.U.heap ∧ Q r h' ∧ va_F (ab_A b0) A.U B.U ∧ B.locs = A.locs ++ Lc ∧ (∀ q ∈ Lc, ab_A b0 q.base) ∧ h.2.1 ≤ h'.2.1 ∧ h.2.2 ≤ h'.2.2 ∧ B.cells = A.cells + (h'.2.1 - h.2.1) ∧ B.slots = A.slots + (h'.2.2 - h.2.2)
theorem ab_X_moved {U U' : State} (hvm : U.vm.Alike U'.vm) (hh : U'.heap = U.heap) (hX : va_X b L xs U U.heap) : va_X b L xs U' U'.heap := by
  rw [hh]
  exact hX.moved hvm
theorem ab_back {y : Nat} {as : List ab_V} {Q : ab_Q} (hM : ab_CT d y as h Q) (hd : d + 1 ≤ 2048) (hy : ab_okM y) (hn0 : n0 ≤ h.2.1) (hs0 : s0 ≤ h.2.2) (hcm : h.2.1 ≤ ab_CM) (hsm : h.2.2 ≤ ab_SM) :
    Back l (ab_room (d + 1) n0 s0) p e below s args (ab_nm y) 3 8 (ab_Pre D cT b0 b L xs n0 s0 as h) (ab_Pst Q D cT b0 b L xs h) := by
  obtain ⟨w1, w2, w3, w4, w5⟩ := hy
  have hcm' : h.2.1 ≤ 600000 := hcm
  have hsm' : h.2.2 ≤ 7302250 := hsm
  refine Back.of_free (bytes := ab_bt y) (maxL := ab_ml y) (ret := ab_rt y) (E := fun a st o t L9 k9 n9 => (∀ q ∈ L9, ab_A b0 q.base) ∧ ab_Qm Q D cT b0 b L xs h.2.1 h.2.2 k9 n9 a st o t) (hM (by omega) l D cT b0 b L xs) (Nat.le_refl _) ?_ ?_ ?_ (fun _ _ _ _ _ _ _ _ _ => trivial) ?_ ?_
  · show 8 + (ab_ml y + 11) + (84000 - 40 * (2048 - d)) ≤ 84000 - 40 * (2048 - (d + 1))
    omega
  · intro m meth c A a X hp
    obtain ⟨hc, hs, -, hKV, -⟩ := hp
    have hcode : (Jvm.Cond.code (ab_nm y) (ab_bt y) (ab_ml y) (ab_rt y)).before a A.U = true := va_Nw.use rfl (hKV.1 _ w1 rfl)
    refine ⟨atoms_intro fun w hw => ?_, hcode, va_Nw.use rfl (hKV.1 _ w2 rfl), ?_, ?_⟩
    · rw [List.mem_singleton.mp hw]; exact hcode
    · rw [hc]; show h.2.1 - n0 + (600000 - h.2.1) ≤ 600000 - n0; omega
    · rw [hs]; show h.2.2 - s0 + (7302250 - h.2.2) ≤ 7302250 - s0; omega
  · intro m meth c A a g mk X hp
    obtain ⟨-, -, ha, hKV, hR, hb, hX⟩ := hp
    exact ⟨ha, ab_KV.warm (U := A.U.calling g mk a) hKV (State.WarmedH.refl A.U), hR, hb, ab_X_moved (U' := A.U.calling g mk a) (Vm.Alike.refl A.U.vm) rfl hX⟩
  · intro a st o t hq
    obtain ⟨mc, ms, Lc, hF, hL, hq⟩ := hq
    exact ⟨Lc, mc, ms, hF, hL, hq⟩
  · intro m meth c A a g mk v t L9 k9 n9 X hp hq hF hE
    obtain ⟨hL, r, h', hv, hR, e1, e2, hQ, hz, ho⟩ := hE
    refine ⟨r, h', L9, Outcome.returned.inj hv, hR, hQ, ⟨hz, ho⟩, rfl, hL, by omega, by omega, ?_, ?_⟩
    · show A.cells + k9 = A.cells + (h'.2.1 - h.2.1); omega
    · show A.slots + n9 = A.slots + (h'.2.2 - h.2.2); omega
/-- what comes behind a call -/
theorem ab_after (C0 : ab_Cx p s m meth c n D cT b0 b L xs n0) {Q : ab_Q} {y i : Nat} {as rest : List ab_V} {ins : Instr} (hdg : decode (ab_bt n) pc = .ok (ins, 3)) (hk : ∀ r h', Q r h' → ab_WG p l e s m args below meth c n D cT b0 b L xs n0 s0 (d + 1) E (pc + 3) ls (ab_push r rest) h') {locs : List Loc} {lsA : Array Slot} (hl : lv_has lsA (ab_ml n) (ab_pl b0 b ls)) (hR : ab_Rl D cT b0 b L xs h H) (hS : va_S (ab_A b0) s.heap H locs) (h1 : n0 ≤ h.2.1) (h2 : s0 ≤ h.2.2) {st0 : List Value}
    (hrun : ∀ T : State, T.heap = H → Stand p l e (ab_room (d + 1) n0 s0) s m args below meth c T locs (h.2.1 - n0) (h.2.2 - s0) → ∃ (v : Option Value) (vm₁ : Vm) (B : Pt), s.WarmedH vm₁ ∧ Stand p l e (ab_room (d + 1) n0 s0) s m args below meth c B.U B.locs B.cells B.slots ∧ ab_Pst Q D cT b0 b L xs h ⟨T.setVm vm₁, locs, h.2.1 - n0, h.2.2 - s0⟩ (as.map (ab_pv b0 b)).toArray v B ∧ ∀ target, Steps p.tables e below (B.U.setTop { F0 m pc lsA st0 with pc := pc + 3, stack := v.toList ++ rest.map (ab_pv b0 b) }) target → Steps p.tables e below (T.setTop (F0 m pc lsA st0)) target) :
    W p l e (ab_room (d + 1) n0 s0) s m args below meth c H locs (h.2.1 - n0) (h.2.2 - s0) E (F0 m pc lsA st0) := by
  intro T hT X
  obtain ⟨v, vm₁, ⟨U', l2, c2, s2⟩, hW₁, X', ⟨r, h', Lc, hv, hR', hQ, hF, e1, hL, e3, e4, e5, e6⟩, hsteps⟩ := hrun T hT X
  dsimp only [Pt.U, Pt.locs, Pt.cells, Pt.slots] at X' hR' hF e1 e5 e6 hsteps
  subst hv; subst e1; subst e5; subst e6
  have hst : (r.map (ab_pv b0 b)).toList ++ rest.map (ab_pv b0 b) = (ab_push r rest).map (ab_pv b0 b) := by
    cases r <;> rfl
  rw [hst] at hsteps
  have hS' : va_S (ab_A b0) s.heap U'.heap (locs ++ Lc) := by
    have hz : H.size ≤ U'.heap.size := by rw [← hT]; exact hF.1
    refine ⟨Nat.le_trans hS.1 hz, fun q g1 g2 => ?_, fun q hq => ?_⟩
    · have g3 := hF.2 q (by show q < T.heap.size; rw [hT]; exact Nat.lt_of_lt_of_le g1 hS.1) g2
      rw [g3]
      show T.heap[q]? = _
      rw [hT]
      exact hS.2.1 q g1 g2
    · rcases List.mem_append.mp hq with g | g
      · exact hS.2.2 q g
      · exact hL q g
  have hc9 : h.2.1 - n0 + (h'.2.1 - h.2.1) = h'.2.1 - n0 := by omega
  have hs9 : h.2.2 - s0 + (h'.2.2 - h.2.2) = h'.2.2 - s0 := by omega
  rw [hc9, hs9] at X'
  obtain ⟨t, a1, b1⟩ := hk r h' hQ U'.heap (locs ++ Lc) lsA hl hR' hS' (by omega) (by omega) U' rfl X'
  exact ⟨t, hsteps t a1, b1⟩
theorem ab_pre (C0 : ab_Cx p s m meth c n D cT b0 b L xs n0) {as : List ab_V} (hR : ab_Rl D cT b0 b L xs h H) {locs : List Loc} (hS : va_S (ab_A b0) s.heap H locs) {T : State} (hT : T.heap = H) {vm₁ : Vm} (hW : s.WarmedH vm₁) : ab_Pre D cT b0 b L xs n0 s0 as h ⟨T.setVm vm₁, locs, h.2.1 - n0, h.2.2 - s0⟩ (as.map (ab_pv b0 b)).toArray := by
  refine ⟨rfl, rfl, rfl, ab_KV.warm (U := T.setVm vm₁) C0.2.2.2.2.2.1 hW, by show ab_Rl _ _ _ _ _ _ _ T.heap; rw [hT]; exact hR, C0.2.2.2.2.2.2.2.2.2.1, ?_⟩
  have hX := C0.2.2.2.2.2.2.2.2.2.2
  have hsz := C0.2.2.2.2.2.2.2.2.1
  have hbl := C0.2.2.2.2.2.2.2.2.2.1
  show va_X b L xs (T.setVm vm₁) T.heap
  have h1 := (hX.moved (U := T.setVm vm₁) hW.alike)
  rw [hT]
  exact h1.kept (hS.2.1 b (by rw [hsz]; exact Nat.lt_of_lt_of_le hbl (Nat.le_add_right _ _)) (Nat.not_le.mpr hbl))
theorem ab_W8 {st rest : List ab_V} {lsA : Array Slot} {st0 : List Value} (hr : ab_cats rest ≤ 8) : 2 * (F0 m pc lsA st0).monitorRoom + ((rest.map (ab_pv b0 b)).map fun v => v.category).sum ≤ 8 :=
  lv_room (by rw [ab_cats_pv]; exact hr)
/-- the words of a call: by its own link or a nest mate's -/
def ab_lk (n i y : Nat) : Prop := Jvm.Cond.methodLink (ab_nm n).cls i (ab_nm y) ∈ lw_tbl ∨ ∃ host, Jvm.Cond.methodLinkNest (ab_nm n).cls i (ab_nm y) host ∈ lw_tbl
theorem ws_static (C0 : ab_Cx p s m meth c n D cT b0 b L xs n0) {Q : ab_Q} {y i : Nat} {as rest : List ab_V} (hd : d + 1 ≤ 2048) (hy : ab_okM y) (hlk : ab_lk n i y) (hw : Jvm.Cond.static (ab_nm y) ∈ lw_tbl) (hlen : (parseMethodDescriptor (ab_nm y).desc).map (fun d => d.parameters.length) = some as.length) (hr : ab_cats rest ≤ 8)
    (hdg : decode (ab_bt n) pc = .ok (.invokestatic i, 3)) (hst : st = as.reverse ++ rest) (hM : ab_CT d y as h Q) (hk : ∀ r h', Q r h' → ab_WG p l e s m args below meth c n D cT b0 b L xs n0 s0 (d + 1) E (pc + 3) ls (ab_push r rest) h') : ab_WG p l e s m args below meth c n D cT b0 b L xs n0 s0 (d + 1) E pc ls st h := by
  intro H locs lsA hl hR hS h1 h2
  have hB := ab_back (p := p) (l := l) (e := e) (s := s) (args := args) (below := below) (D := D) (cT := cT) (b0 := b0) (b := b) (L := L) (xs := xs) (n0 := n0) (s0 := s0) hM hd hy h1 h2 hR.2.1 hR.2.2.1
  have hlen' : ∀ sig, parseMethodDescriptor (ab_nm y).desc = some sig → (as.map (ab_pv b0 b)).length = sig.parameters.length := fun sig hs => by
    rw [hs] at hlen
    rw [List.length_map]
    exact (Option.some.inj hlen).symm
  have hstack : st.map (ab_pv b0 b) = (as.map (ab_pv b0 b)).reverse ++ rest.map (ab_pv b0 b) := by rw [hst, List.map_append, List.map_reverse]
  refine ab_after (y := y) (i := i) (as := as) C0 hdg hk hl hR hS h1 h2 fun T hT X => ?_
  rcases hlk with hlk | ⟨host, hlk⟩
  · exact callS X C0.1 (bytes := ab_bt y) (maxL := ab_ml y) (ret := ab_rt y) C0.2.2.2.2.1 (ws_tw C0 hlk rfl) (ws_tw C0 hw rfl) (ws_tw C0 hy.2.1 rfl) (ws_tw C0 hy.1 rfl) hy.2.2.2 hB rfl (hl.1.trans C0.2.2.2.1.symm) hlen' hstack (ab_W8 (st := st) hr) (by rw [C0.2.1]; exact hdg) (fun vm₁ hW => ab_pre C0 hR hS hT hW)
  · exact va_callSN X C0.1 (bytes := ab_bt y) (maxL := ab_ml y) (ret := ab_rt y) C0.2.2.2.2.1 (ws_tw C0 hlk rfl) (ws_tw C0 hw rfl) (ws_tw C0 hy.2.1 rfl) (ws_tw C0 hy.1 rfl) hy.2.2.2 hB rfl (hl.1.trans C0.2.2.2.1.symm) hlen' hstack (ab_W8 (st := st) hr) (by rw [C0.2.1]; exact hdg) (fun vm₁ hW => ab_pre C0 hR hS hT hW)
theorem ws_virtual (C0 : ab_Cx p s m meth c n D cT b0 b L xs n0) {Q : ab_Q} {y i ci a : Nat} {q : vw_C} {fs : List ab_V} {as rest : List ab_V} (hd : d + 1 ≤ 2048) (hy : ab_okM y) (hlk : ab_lk n i y) (hw1 : Jvm.Cond.instanceMethod (ab_nm y) ∈ lw_tbl) (hw2 : Jvm.Cond.selects q.1 (ab_nm y) (ab_nm y) ∈ lw_tbl) (hc : ab_cl[ci]? = some q) (h9 : ci ≠ 999) (hlen : (parseMethodDescriptor (ab_nm y).desc).map (fun d => d.parameters.length) = some as.length) (hr : ab_cats rest ≤ 8)
    (hdg : decode (ab_bt n) pc = .ok (.invokevirtual i, 3)) (hst : st = as.reverse ++ .inr (.inr (some a)) :: rest) (ho : h.1 a = ab_ob ci fs) (hM : ab_CT d y (.inr (.inr (some a)) :: as) h Q) (hk : ∀ r h', Q r h' → ab_WG p l e s m args below meth c n D cT b0 b L xs n0 s0 (d + 1) E (pc + 3) ls (ab_push r rest) h') : ab_WG p l e s m args below meth c n D cT b0 b L xs n0 s0 (d + 1) E pc ls st h := by
  intro H locs lsA hl hR hS h1 h2
  have hB := ab_back (p := p) (l := l) (e := e) (s := s) (args := args) (below := below) (D := D) (cT := cT) (b0 := b0) (b := b) (L := L) (xs := xs) (n0 := n0) (s0 := s0) hM hd hy h1 h2 hR.2.1 hR.2.2.1
  obtain ⟨g1, g2⟩ := ab_ob_real hR ho h9
  have hat : (ab_ws b0 b cT h)[a]? = some (b0 + a, .inr (ci, fs.map (ab_pv b0 b))) := by rw [ab_ws_at g2, ho]; rfl
  have hlen' : ∀ sig, parseMethodDescriptor (ab_nm y).desc = some sig → (as.map (ab_pv b0 b)).length = sig.parameters.length := fun sig hs => by
    rw [hs] at hlen
    rw [List.length_map]
    exact (Option.some.inj hlen).symm
  have hstack : st.map (ab_pv b0 b) = (as.map (ab_pv b0 b)).reverse ++ .ref (b0 + a) :: rest.map (ab_pv b0 b) := by rw [hst, List.map_append, List.map_reverse, List.map_cons, ab_pv_ref g1]
  have hav : ((.inr (.inr (some a)) :: as : List ab_V).map (ab_pv b0 b)).toArray = (Value.ref (b0 + a) :: as.map (ab_pv b0 b)).toArray := by rw [List.map_cons, ab_pv_ref g1]
  refine ab_after (y := y) (i := i) (as := .inr (.inr (some a)) :: as) C0 hdg hk hl hR hS h1 h2 fun T hT X => ?_
  obtain ⟨cellB, hcB, hoB, hclB⟩ := va_recv C0.2.2.2.2.2.1.2 (ab_Rl_P hR) hc hat
  rw [hav]
  have hpre : ∀ vm₁, s.WarmedH vm₁ → ab_Pre D cT b0 b L xs n0 s0 (.inr (.inr (some a)) :: as) h ⟨T.setVm vm₁, locs, h.2.1 - n0, h.2.2 - s0⟩ (Value.ref (b0 + a) :: as.map (ab_pv b0 b)).toArray := fun vm₁ hW => by rw [← hav]; exact ab_pre C0 hR hS hT hW
  rcases hlk with hlk | ⟨host, hlk⟩
  · exact callV X C0.1 (C := q.1) (bytes := ab_bt y) (maxL := ab_ml y) (ret := ab_rt y) C0.2.2.2.2.1 (ws_tw C0 hlk rfl) (ws_tw C0 hw1 rfl) (ws_tw C0 hw2 rfl) (ws_tw C0 hy.1 rfl) hy.2.2.2 hB (by rw [hT]; exact hcB) hoB hclB rfl (hl.1.trans C0.2.2.2.1.symm) hlen' hstack (ab_W8 (st := st) hr) (by rw [C0.2.1]; exact hdg) hpre
  · exact va_callVN X C0.1 (C := q.1) (bytes := ab_bt y) (maxL := ab_ml y) (ret := ab_rt y) C0.2.2.2.2.1 (ws_tw C0 hlk rfl) (ws_tw C0 hw1 rfl) (ws_tw C0 hw2 rfl) (ws_tw C0 hy.1 rfl) hy.2.2.2 hB (by rw [hT]; exact hcB) hoB hclB rfl (hl.1.trans C0.2.2.2.1.symm) hlen' hstack (ab_W8 (st := st) hr) (by rw [C0.2.1]; exact hdg) hpre
theorem ws_special (C0 : ab_Cx p s m meth c n D cT b0 b L xs n0) {Q : ab_Q} {y i a : Nat} {as rest : List ab_V} (hd : d + 1 ≤ 2048) (hy : ab_okM y) (hlk : ab_lk n i y) (hnm : (ab_nm y).name = "<init>") (hrt : ab_rt y = none) (hw1 : Jvm.Cond.instanceMethod (ab_nm y) ∈ lw_tbl) (hlen : (parseMethodDescriptor (ab_nm y).desc).map (fun d => d.parameters.length) = some as.length) (hr : ab_cats rest ≤ 8)
    (hdg : decode (ab_bt n) pc = .ok (.invokespecial i, 3)) (hst : st = as.reverse ++ .inr (.inr (some a)) :: rest) (hM : ab_CT d y (.inr (.inr (some a)) :: as) h Q) (hk : ∀ r h', Q r h' → ab_WG p l e s m args below meth c n D cT b0 b L xs n0 s0 (d + 1) E (pc + 3) ls (ab_push r rest) h') : ab_WG p l e s m args below meth c n D cT b0 b L xs n0 s0 (d + 1) E pc ls st h := by
  intro H locs lsA hl hR hS h1 h2
  have hB := ab_back (p := p) (l := l) (e := e) (s := s) (args := args) (below := below) (D := D) (cT := cT) (b0 := b0) (b := b) (L := L) (xs := xs) (n0 := n0) (s0 := s0) hM hd hy h1 h2 hR.2.1 hR.2.2.1
  have hlen' : ∀ sig, parseMethodDescriptor (ab_nm y).desc = some sig → (as.map (ab_pv b0 b)).length = sig.parameters.length := fun sig hs => by
    rw [hs] at hlen
    rw [List.length_map]
    exact (Option.some.inj hlen).symm
  have e0 : ab_pv b0 b (.inr (.inr (some a))) = .ref (ab_phi b0 b a) := rfl
  have hstack : st.map (ab_pv b0 b) = (as.map (ab_pv b0 b)).reverse ++ .ref (ab_phi b0 b a) :: rest.map (ab_pv b0 b) := by rw [hst, List.map_append, List.map_reverse, List.map_cons, e0]
  have hav : ((.inr (.inr (some a)) :: as : List ab_V).map (ab_pv b0 b)).toArray = (Value.ref (ab_phi b0 b a) :: as.map (ab_pv b0 b)).toArray := by rw [List.map_cons, e0]
  have hcode : Jvm.Cond.code (ab_nm y) (ab_bt y) (ab_ml y) none ∈ lw_tbl := by have h3 := hy.1; rw [hrt] at h3; exact h3
  refine ab_after (y := y) (i := i) (as := .inr (.inr (some a)) :: as) C0 hdg hk hl hR hS h1 h2 fun T hT X => ?_
  rw [hav]
  have hpre : ∀ vm₁, s.WarmedH vm₁ → ab_Pre D cT b0 b L xs n0 s0 (.inr (.inr (some a)) :: as) h ⟨T.setVm vm₁, locs, h.2.1 - n0, h.2.2 - s0⟩ (Value.ref (ab_phi b0 b a) :: as.map (ab_pv b0 b)).toArray := fun vm₁ hW => by rw [← hav]; exact ab_pre C0 hR hS hT hW
  rcases hlk with hlk | ⟨host, hlk⟩
  · exact callI X C0.1 (bytes := ab_bt y) (maxL := ab_ml y) C0.2.2.2.2.1 hnm (ws_tw C0 hlk rfl) (ws_tw C0 hw1 rfl) (ws_tw C0 hcode rfl) hy.2.2.2 hB rfl (hl.1.trans C0.2.2.2.1.symm) hlen' hstack (ab_W8 (st := st) hr) (by rw [C0.2.1]; exact hdg) hpre
  · exact va_callIN X C0.1 (bytes := ab_bt y) (maxL := ab_ml y) C0.2.2.2.2.1 hnm (ws_tw C0 hlk rfl) (ws_tw C0 hw1 rfl) (ws_tw C0 hcode rfl) hy.2.2.2 hB rfl (hl.1.trans C0.2.2.2.1.symm) hlen' hstack (ab_W8 (st := st) hr) (by rw [C0.2.1]; exact hdg) hpre
end AB5
end
section
/-! ===== the walk: what a list of instructions asks, and that it is enough (own text) ===== -/
def ab_in (w : Jvm.Cond) : Bool := decide (w ∈ lw_tbl)
def ab_lkB (n i y : Nat) : Bool := ab_in (.methodLink (ab_nm n).cls i (ab_nm y)) || ab_in (.methodLinkNest (ab_nm n).cls i (ab_nm y) "NestedFoci")
def ab_okB (y : Nat) : Bool := ab_in (.code (ab_nm y) (ab_bt y) (ab_ml y) (ab_rt y)) && ab_in (.initialized (ab_nm y).cls) && decide (ab_ml y ≤ 21) && decide ((ab_nm y).cls ≠ "java/lang/invoke/MethodHandle") && decide ((ab_nm y).cls ≠ "java/lang/invoke/VarHandle")
def ab_np (y : Nat) : Option Nat := (parseMethodDescriptor (ab_nm y).desc).map (fun d => d.parameters.length)
def ab_ck (n pc : Nat) (ins : Instr) (len a1 a2 : Nat) (sw : List (Int × Nat)) : Bool := match ins with
  | .iconst _ | .lconst _ | .aconst_null | .iload_n _ | .lload_n _ | .aload_n _ | .dup | .dup2 | .pop | .pop2 | .iadd | .isub | .imul | .irem | .ineg | .iand | .ishr | .iushr | .i2l | .ladd | .lcmp | .iaload | .baload | .aaload | .iastore | .bastore | .aastore | .arraylength => len == 1
  | .bipush z => len == 2 && decide ((Int8.ofInt z).toInt32 = ab_ii z)
  | .sipush z => len == 3 && decide ((Int16.ofInt z).toInt32 = ab_ii z)
  | .ldc i => len == 2 && ab_in (.constant (ab_nm n).cls i (ab_ii (ab_z sw)))
  | .ldc2_w i => len == 3 && ab_in (.constantLong (ab_nm n).cls i (Int64.ofInt (ab_z sw)))
  | .iload _ | .lload _ | .aload _ => len == 2
  | .istore i | .astore i => len == 2 && decide (i < ab_ml n)
  | .istore_n i | .astore_n i => len == 1 && decide ((i : Nat) < ab_ml n)
  | .lstore i => len == 2 && decide (i + 1 < ab_ml n)
  | .lstore_n i => len == 1 && decide ((i : Nat) + 1 < ab_ml n)
  | .iinc i _ => len == 3 && decide (i < ab_ml n)
  | .goto off | .ifCond _ off | .if_icmp _ off | .if_acmp _ off | .ifnull off | .ifnonnull off => len == 3 && decide ((pc : Int) + off = (a1 : Int))
  | .tableswitch df lo hi offs => decide ((pc : Int) + df = (a1 : Int)) && decide (sw.length = offs.size ∧ hi = lo + offs.size - 1) && (List.range sw.length).all (fun i => match sw[i]?, offs[i]? with
    | some (k, t), some o => decide (k = lo + i) && decide ((pc : Int) + o = (t : Int))
    | _, _ => false)
  | .lookupswitch df ps => (ps.toList.zip (ps.toList.drop 1)).all (fun (a, next) => a.1 < next.1) && decide ((pc : Int) + df = (a1 : Int)) && decide (ps.toList.length = sw.length) && (List.range ps.toList.length).all (fun i => match ps.toList[i]?, sw[i]? with
    | some (k, o), some (k', t) => decide (k = k') && decide ((pc : Int) + o = (t : Int))
    | _, _ => false)
  | .ireturn => len == 1 && decide ((a1 = 0 ∧ ab_rt n = some .int) ∨ (a1 = 1 ∧ ab_rt n = some .boolean))
  | .lreturn => len == 1 && decide (ab_rt n = some .long)
  | .areturn => len == 1 && (match ab_rt n with
    | some (.object _) => true
    | some (.array _) => true
    | _ => false)
  | .return_ => len == 1 && decide (ab_rt n = none)
  | .getfield i => len == 3 && (match ab_cl[a1]? with
    | some (_, T, N) => decide (a2 < N) && decide (a1 ≠ 999) && (ab_in (.fieldLink (ab_nm n).cls i (T a2).1 (T a2).2.1 (T a2).2.2.1) || ab_in (.fieldLinkNest (ab_nm n).cls i (T a2).1 (T a2).2.1 (T a2).2.2.1 "NestedFoci"))
    | none => false)
  | .putfield i => len == 3 && (match ab_cl[a1]? with
    | some (_, T, N) => decide (a2 < N) && decide (a1 ≠ 999) && ab_in (.fieldLink (ab_nm n).cls i (T a2).1 (T a2).2.1 (T a2).2.2.1) && decide ((T a2).2.2.2 = false ∨ ((T a2).2.2.2 = true ∧ (ab_nm n).name = "<init>" ∧ (T a2).1 = (ab_nm n).cls)) && decide (ab_tyc (ab_ty a1 a2) = (ab_z sw).toNat)
    | none => false)
  | .new i => len == 3 && (match ab_cl[a1]? with
    | some (C, _, N) => decide (N = a2) && ab_in (.classLink (ab_nm n).cls i C) && ab_in (.instantiable C a2) && ab_in (.initialized C)
    | none => false)
  | .newarray ty => len == 2 && decide ((a1 = 0 ∧ ty = .int) ∨ (a1 = 1 ∧ ty = .boolean)) && ab_in (.arrayClass (newarray.typeOf ty))
  | .anewarray i => len == 3 && decide (a1 = 2 ∨ a1 = 3 ∨ a1 = 4) && (match ab_cl[ab_ec a1]? with
    | some (C, _, _) => ab_in (.classLink (ab_nm n).cls i C) && ab_in (.arrayOver (.object C))
    | none => false)
  | .invokestatic i => len == 3 && ab_okB a1 && ab_lkB n i a1 && ab_in (.static (ab_nm a1)) && decide (ab_np a1 = some a2)
  | .invokevirtual i => len == 3 && ab_okB a1 && ab_lkB n i a1 && ab_in (.instanceMethod (ab_nm a1)) && decide (ab_np a1 = some (a2 - 1) ∧ 1 ≤ a2 ∧ (ab_z sw).toNat ≠ 999) && (match ab_cl[(ab_z sw).toNat]? with
    | some (C, _, _) => ab_in (.selects C (ab_nm a1) (ab_nm a1))
    | none => false)
  | .invokespecial i => len == 3 && (match Nat.beq a1 999 with
    | true => ab_in (.methodLink (ab_nm n).cls i Lib.objectInit) && ab_in (.instanceMethod Lib.objectInit) && ab_in (.code Lib.objectInit ⟨#[0xb1]⟩ 1 none)
    | false => ab_okB a1 && ab_lkB n i a1 && ab_in (.instanceMethod (ab_nm a1)) && decide (ab_np a1 = some (a2 - 1) ∧ 1 ≤ a2 ∧ (ab_nm a1).name = "<init>" ∧ ab_rt a1 = none))
  | _ => true
def ab_chn (n : Nat) : Nat → List ab_E → Bool
  | _, [] => true
  | pc, (_, pc', ins, len, a1, a2, sw) :: t => decide (pc' = pc) && decide (decode (ab_bt n) pc = .ok (ins, len)) && ab_ck n pc ins len a1 a2 sw && ab_chn n (pc + len) t
theorem ab_in_of {w : Jvm.Cond} (h : ab_in w = true) : w ∈ lw_tbl := of_decide_eq_true h
theorem ab_lk_of {n i y : Nat} (h : ab_lkB n i y = true) : ab_lk n i y := by
  unfold ab_lkB at h
  rw [Bool.or_eq_true] at h
  exact h.elim (fun q => Or.inl (ab_in_of q)) (fun q => Or.inr ⟨_, ab_in_of q⟩)
theorem ab_okM_of {y : Nat} (h : ab_okB y = true) : ab_okM y := by
  unfold ab_okB at h
  simp only [Bool.and_eq_true, decide_eq_true_eq] at h
  obtain ⟨⟨⟨⟨h1, h2⟩, h3⟩, h4⟩, h5⟩ := h
  exact ⟨ab_in_of h1, ab_in_of h2, h3, h4, h5⟩
theorem ab_revrev {as : List ab_V} : (as.reverse ++ []).reverse = as := by simp
section AB6
variable {p : Program} {l : Launch} {e : Env} {s : State} {m : MethodId} {args : Array Value} {below : List Frame} {meth : Method} {c : Code} {n : Nat} {D : va_G} {cT : Nat → ClassId} {b0 b L : Nat} {xs : Nat → Int32} {n0 s0 d : Nat} {E : State → Prop}
theorem ab_if_sd {c : ClassFile.Cond} {x y : Int} {A B : Prop} (h : ab_if c x y A B) : match c with
    | .eq => (x = y → A) ∧ (¬ x = y → B)
    | .ne => (¬ x = y → A) ∧ (x = y → B)
    | .lt => (x < y → A) ∧ (y ≤ x → B)
    | .ge => (y ≤ x → A) ∧ (x < y → B)
    | .gt => (y < x → A) ∧ (x ≤ y → B)
    | .le => (x ≤ y → A) ∧ (y < x → B) := by cases c <;> exact h
set_option maxHeartbeats 8000000 in
theorem ab_stp_sd (C0 : ab_Cx p s m meth c n D cT b0 b L xs n0) (hd : d + 1 ≤ 2048) {Q : ab_Q} {X : ab_J} (hE : E = ab_En below args s Q D cT b0 b L xs n0 s0) (hX : ∀ pc ls st h, X pc ls st h → ab_WG p l e s m args below meth c n D cT b0 b L xs n0 s0 (d + 1) E pc ls st h) {pc len a1 a2 : Nat} {ins : Instr} {sw : List (Int × Nat)} {K : ab_K} {ls : ab_L} {st : List ab_V} {h : ab_H}
    (hdg : decode (ab_bt n) pc = .ok (ins, len)) (hck : ab_ck n pc ins len a1 a2 sw = true) (hK : ∀ ls st h, K ls st h → ab_WG p l e s m args below meth c n D cT b0 b L xs n0 s0 (d + 1) E (pc + len) ls st h) (hgo : ab_stp (ab_CT d) Q X (false, pc, ins, len, a1, a2, sw) K ls st h) : ab_WG p l e s m args below meth c n D cT b0 b L xs n0 s0 (d + 1) E pc ls st h := by
  cases ins
  case iconst z =>
    have e1 : len = 1 := by simpa [ab_ck] using hck
    subst e1
    exact ws_iconst C0 hdg (hK _ _ _ hgo)
  case lconst z =>
    have e1 : len = 1 := by simpa [ab_ck] using hck
    subst e1
    exact ws_lconst C0 hdg (hK _ _ _ hgo)
  case aconst_null =>
    have e1 : len = 1 := by simpa [ab_ck] using hck
    subst e1
    exact ws_null C0 hdg (hK _ _ _ hgo)
  case bipush z =>
    simp only [ab_ck, Bool.and_eq_true, beq_iff_eq, decide_eq_true_eq] at hck
    obtain ⟨rfl, hv⟩ := hck
    exact ws_bipush C0 hdg hv (hK _ _ _ hgo)
  case sipush z =>
    simp only [ab_ck, Bool.and_eq_true, beq_iff_eq, decide_eq_true_eq] at hck
    obtain ⟨rfl, hv⟩ := hck
    exact ws_sipush C0 hdg hv (hK _ _ _ hgo)
  case ldc i =>
    simp only [ab_ck, Bool.and_eq_true, beq_iff_eq, decide_eq_true_eq] at hck
    obtain ⟨rfl, hv⟩ := hck
    exact ws_ldc C0 (ab_in_of hv) hdg (hK _ _ _ hgo)
  case ldc2_w i =>
    simp only [ab_ck, Bool.and_eq_true, beq_iff_eq, decide_eq_true_eq] at hck
    obtain ⟨rfl, hv⟩ := hck
    exact ws_ldc2 C0 (ab_in_of hv) hdg (hK _ _ _ hgo)
  case iload i =>
    have e1 : len = 2 := by simpa [ab_ck] using hck
    subst e1
    obtain ⟨k0, v, hk0, hv⟩ := ab_get_sd hgo
    match v, hv with
    | .inl x, hv => exact ws_iload C0 hdg hk0 (hK _ _ _ hv)
    | .inr (.inl x), hv => exact hv.elim
    | .inr (.inr x), hv => exact hv.elim
  case iload_n i =>
    have e1 : len = 1 := by simpa [ab_ck] using hck
    subst e1
    obtain ⟨k0, v, hk0, hv⟩ := ab_get_sd hgo
    match v, hv with
    | .inl x, hv => exact ws_iload_n C0 hdg hk0 (hK _ _ _ hv)
    | .inr (.inl x), hv => exact hv.elim
    | .inr (.inr x), hv => exact hv.elim
  case lload i =>
    have e1 : len = 2 := by simpa [ab_ck] using hck
    subst e1
    obtain ⟨k0, v, hk0, hv⟩ := ab_get_sd hgo
    match v, hv with
    | .inr (.inl x), hv => exact ws_lload C0 hdg hk0 (hK _ _ _ hv)
    | .inl x, hv => exact hv.elim
    | .inr (.inr x), hv => exact hv.elim
  case lload_n i =>
    have e1 : len = 1 := by simpa [ab_ck] using hck
    subst e1
    obtain ⟨k0, v, hk0, hv⟩ := ab_get_sd hgo
    match v, hv with
    | .inr (.inl x), hv => exact ws_lload_n C0 hdg hk0 (hK _ _ _ hv)
    | .inl x, hv => exact hv.elim
    | .inr (.inr x), hv => exact hv.elim
  case aload i =>
    have e1 : len = 2 := by simpa [ab_ck] using hck
    subst e1
    obtain ⟨k0, v, hk0, hv⟩ := ab_get_sd hgo
    match v, hv with
    | .inr (.inr x), hv => exact ws_aload C0 hdg hk0 (hK _ _ _ hv)
    | .inl x, hv => exact hv.elim
    | .inr (.inl x), hv => exact hv.elim
  case aload_n i =>
    have e1 : len = 1 := by simpa [ab_ck] using hck
    subst e1
    obtain ⟨k0, v, hk0, hv⟩ := ab_get_sd hgo
    match v, hv with
    | .inr (.inr x), hv => exact ws_aload_n C0 hdg hk0 (hK _ _ _ hv)
    | .inl x, hv => exact hv.elim
    | .inr (.inl x), hv => exact hv.elim
  case istore i =>
    simp only [ab_ck, Bool.and_eq_true, beq_iff_eq, decide_eq_true_eq] at hck
    obtain ⟨rfl, hn⟩ := hck
    match st, hgo with
    | .inl x :: r, hgo => exact ws_istore C0 hdg hn (fun lx hx => hK _ _ _ hx) hgo
    | .inr (.inl x) :: r, hgo => exact hgo.elim
    | .inr (.inr x) :: r, hgo => exact hgo.elim
    | [], hgo => exact hgo.elim
  case istore_n i =>
    simp only [ab_ck, Bool.and_eq_true, beq_iff_eq, decide_eq_true_eq] at hck
    obtain ⟨rfl, hn⟩ := hck
    match st, hgo with
    | .inl x :: r, hgo => exact ws_istore_n C0 hdg hn (fun lx hx => hK _ _ _ hx) hgo
    | .inr (.inl x) :: r, hgo => exact hgo.elim
    | .inr (.inr x) :: r, hgo => exact hgo.elim
    | [], hgo => exact hgo.elim
  case astore i =>
    simp only [ab_ck, Bool.and_eq_true, beq_iff_eq, decide_eq_true_eq] at hck
    obtain ⟨rfl, hn⟩ := hck
    match st, hgo with
    | .inr (.inr x) :: r, hgo => exact ws_astore C0 hdg hn (fun lx hx => hK _ _ _ hx) hgo
    | .inl x :: r, hgo => exact hgo.elim
    | .inr (.inl x) :: r, hgo => exact hgo.elim
    | [], hgo => exact hgo.elim
  case astore_n i =>
    simp only [ab_ck, Bool.and_eq_true, beq_iff_eq, decide_eq_true_eq] at hck
    obtain ⟨rfl, hn⟩ := hck
    match st, hgo with
    | .inr (.inr x) :: r, hgo => exact ws_astore_n C0 hdg hn (fun lx hx => hK _ _ _ hx) hgo
    | .inl x :: r, hgo => exact hgo.elim
    | .inr (.inl x) :: r, hgo => exact hgo.elim
    | [], hgo => exact hgo.elim
  case lstore i =>
    simp only [ab_ck, Bool.and_eq_true, beq_iff_eq, decide_eq_true_eq] at hck
    obtain ⟨rfl, hn⟩ := hck
    match st, hgo with
    | .inr (.inl x) :: r, hgo => exact ws_lstore C0 hdg hn (fun lx hx => hK _ _ _ hx) hgo
    | .inl x :: r, hgo => exact hgo.elim
    | .inr (.inr x) :: r, hgo => exact hgo.elim
    | [], hgo => exact hgo.elim
  case lstore_n i =>
    simp only [ab_ck, Bool.and_eq_true, beq_iff_eq, decide_eq_true_eq] at hck
    obtain ⟨rfl, hn⟩ := hck
    match st, hgo with
    | .inr (.inl x) :: r, hgo => exact ws_lstore_n C0 hdg hn (fun lx hx => hK _ _ _ hx) hgo
    | .inl x :: r, hgo => exact hgo.elim
    | .inr (.inr x) :: r, hgo => exact hgo.elim
    | [], hgo => exact hgo.elim
  case iinc i z =>
    simp only [ab_ck, Bool.and_eq_true, beq_iff_eq, decide_eq_true_eq] at hck
    obtain ⟨rfl, hn⟩ := hck
    obtain ⟨k0, v, hk0, hv⟩ := ab_get_sd hgo
    match v, hv with
    | .inl x, hv => exact ws_iinc C0 hdg hk0 hn (fun lx hx => hK _ _ _ hx) hv
    | .inr (.inl x), hv => exact hv.elim
    | .inr (.inr x), hv => exact hv.elim
  case dup =>
    have e1 : len = 1 := by simpa [ab_ck] using hck
    subst e1
    match st, hgo with
    | .inl x :: r, hgo => exact ws_dup C0 rfl hdg (hK _ _ _ hgo)
    | .inr (.inr x) :: r, hgo => exact ws_dup C0 rfl hdg (hK _ _ _ hgo)
    | .inr (.inl x) :: r, hgo => exact hgo.elim
    | [], hgo => exact hgo.elim
  case dup2 =>
    have e1 : len = 1 := by simpa [ab_ck] using hck
    subst e1
    match st, hgo with
    | .inl x :: .inl y :: r, hgo => exact ws_dup2 C0 rfl rfl hdg (hK _ _ _ hgo)
    | .inl x :: .inr (.inr y) :: r, hgo => exact ws_dup2 C0 rfl rfl hdg (hK _ _ _ hgo)
    | .inl x :: .inr (.inl y) :: r, hgo => exact hgo.elim
    | .inl x :: [], hgo => exact hgo.elim
    | .inr (.inr x) :: r, hgo => exact hgo.elim
    | .inr (.inl x) :: r, hgo => exact hgo.elim
    | [], hgo => exact hgo.elim
  case pop =>
    have e1 : len = 1 := by simpa [ab_ck] using hck
    subst e1
    match st, hgo with
    | .inl x :: r, hgo => exact ws_pop C0 rfl hdg (hK _ _ _ hgo)
    | .inr (.inr x) :: r, hgo => exact ws_pop C0 rfl hdg (hK _ _ _ hgo)
    | .inr (.inl x) :: r, hgo => exact hgo.elim
    | [], hgo => exact hgo.elim
  case pop2 =>
    have e1 : len = 1 := by simpa [ab_ck] using hck
    subst e1
    match st, hgo with
    | .inr (.inl x) :: r, hgo => exact ws_pop2 C0 rfl hdg (hK _ _ _ hgo)
    | .inl x :: r, hgo => exact hgo.elim
    | .inr (.inr x) :: r, hgo => exact hgo.elim
    | [], hgo => exact hgo.elim
  case iadd =>
    have e1 : len = 1 := by simpa [ab_ck] using hck
    subst e1
    match st, hgo with
    | .inl y :: .inl x :: r, hgo => exact ws_iadd C0 hdg (hK _ _ _ hgo)
    | .inl y :: .inr (.inl x) :: r, hgo => exact hgo.elim
    | .inl y :: .inr (.inr x) :: r, hgo => exact hgo.elim
    | [.inl y], hgo => exact hgo.elim
    | .inr (.inl y) :: r, hgo => exact hgo.elim
    | .inr (.inr y) :: r, hgo => exact hgo.elim
    | [], hgo => exact hgo.elim
  case isub =>
    have e1 : len = 1 := by simpa [ab_ck] using hck
    subst e1
    match st, hgo with
    | .inl y :: .inl x :: r, hgo => exact ws_isub C0 hdg (hK _ _ _ hgo)
    | .inl y :: .inr (.inl x) :: r, hgo => exact hgo.elim
    | .inl y :: .inr (.inr x) :: r, hgo => exact hgo.elim
    | [.inl y], hgo => exact hgo.elim
    | .inr (.inl y) :: r, hgo => exact hgo.elim
    | .inr (.inr y) :: r, hgo => exact hgo.elim
    | [], hgo => exact hgo.elim
  case imul =>
    have e1 : len = 1 := by simpa [ab_ck] using hck
    subst e1
    match st, hgo with
    | .inl y :: .inl x :: r, hgo => exact ws_imul C0 hdg (hK _ _ _ hgo)
    | .inl y :: .inr (.inl x) :: r, hgo => exact hgo.elim
    | .inl y :: .inr (.inr x) :: r, hgo => exact hgo.elim
    | [.inl y], hgo => exact hgo.elim
    | .inr (.inl y) :: r, hgo => exact hgo.elim
    | .inr (.inr y) :: r, hgo => exact hgo.elim
    | [], hgo => exact hgo.elim
  case iand =>
    have e1 : len = 1 := by simpa [ab_ck] using hck
    subst e1
    match st, hgo with
    | .inl y :: .inl x :: r, hgo => exact ws_iand C0 hdg (hK _ _ _ hgo)
    | .inl y :: .inr (.inl x) :: r, hgo => exact hgo.elim
    | .inl y :: .inr (.inr x) :: r, hgo => exact hgo.elim
    | [.inl y], hgo => exact hgo.elim
    | .inr (.inl y) :: r, hgo => exact hgo.elim
    | .inr (.inr y) :: r, hgo => exact hgo.elim
    | [], hgo => exact hgo.elim
  case ishr =>
    have e1 : len = 1 := by simpa [ab_ck] using hck
    subst e1
    match st, hgo with
    | .inl y :: .inl x :: r, hgo => exact ws_ishr C0 hdg (hK _ _ _ hgo)
    | .inl y :: .inr (.inl x) :: r, hgo => exact hgo.elim
    | .inl y :: .inr (.inr x) :: r, hgo => exact hgo.elim
    | [.inl y], hgo => exact hgo.elim
    | .inr (.inl y) :: r, hgo => exact hgo.elim
    | .inr (.inr y) :: r, hgo => exact hgo.elim
    | [], hgo => exact hgo.elim
  case iushr =>
    have e1 : len = 1 := by simpa [ab_ck] using hck
    subst e1
    match st, hgo with
    | .inl y :: .inl x :: r, hgo => exact ws_iushr C0 hdg (hK _ _ _ hgo)
    | .inl y :: .inr (.inl x) :: r, hgo => exact hgo.elim
    | .inl y :: .inr (.inr x) :: r, hgo => exact hgo.elim
    | [.inl y], hgo => exact hgo.elim
    | .inr (.inl y) :: r, hgo => exact hgo.elim
    | .inr (.inr y) :: r, hgo => exact hgo.elim
    | [], hgo => exact hgo.elim
  case irem =>
    have e1 : len = 1 := by simpa [ab_ck] using hck
    subst e1
    match st, hgo with
    | .inl y :: .inl x :: r, hgo => exact ws_irem C0 hdg hgo.1 (hK _ _ _ hgo.2)
    | .inl y :: .inr (.inl x) :: r, hgo => exact hgo.elim
    | .inl y :: .inr (.inr x) :: r, hgo => exact hgo.elim
    | [.inl y], hgo => exact hgo.elim
    | .inr (.inl y) :: r, hgo => exact hgo.elim
    | .inr (.inr y) :: r, hgo => exact hgo.elim
    | [], hgo => exact hgo.elim
  case ladd =>
    have e1 : len = 1 := by simpa [ab_ck] using hck
    subst e1
    match st, hgo with
    | .inr (.inl y) :: .inr (.inl x) :: r, hgo => exact ws_ladd C0 hdg (hK _ _ _ hgo)
    | .inl y :: r, hgo => exact hgo.elim
    | .inr (.inl y) :: .inl x :: r, hgo => exact hgo.elim
    | .inr (.inl y) :: .inr (.inr x) :: r, hgo => exact hgo.elim
    | [.inr (.inl y)], hgo => exact hgo.elim
    | .inr (.inr y) :: r, hgo => exact hgo.elim
    | [], hgo => exact hgo.elim
  case lcmp =>
    have e1 : len = 1 := by simpa [ab_ck] using hck
    subst e1
    match st, hgo with
    | .inr (.inl y) :: .inr (.inl x) :: r, hgo => exact ws_lcmp C0 hdg (fun q => hK _ _ _ (hgo.1 q)) (fun q => hK _ _ _ (hgo.2.1 q)) (fun q => hK _ _ _ (hgo.2.2 q))
    | .inl y :: r, hgo => exact hgo.elim
    | .inr (.inl y) :: .inl x :: r, hgo => exact hgo.elim
    | .inr (.inl y) :: .inr (.inr x) :: r, hgo => exact hgo.elim
    | [.inr (.inl y)], hgo => exact hgo.elim
    | .inr (.inr y) :: r, hgo => exact hgo.elim
    | [], hgo => exact hgo.elim
  case ineg =>
    have e1 : len = 1 := by simpa [ab_ck] using hck
    subst e1
    match st, hgo with
    | .inl x :: r, hgo => exact ws_ineg C0 hdg (hK _ _ _ hgo)
    | .inr (.inl x) :: r, hgo => exact hgo.elim
    | .inr (.inr x) :: r, hgo => exact hgo.elim
    | [], hgo => exact hgo.elim
  case i2l =>
    have e1 : len = 1 := by simpa [ab_ck] using hck
    subst e1
    match st, hgo with
    | .inl x :: r, hgo => exact ws_i2l C0 hdg (hK _ _ _ hgo)
    | .inr (.inl x) :: r, hgo => exact hgo.elim
    | .inr (.inr x) :: r, hgo => exact hgo.elim
    | [], hgo => exact hgo.elim
  case goto off =>
    simp only [ab_ck, Bool.and_eq_true, beq_iff_eq, decide_eq_true_eq] at hck
    obtain ⟨rfl, ht⟩ := hck
    exact ws_goto C0 hdg ht (hX _ _ _ _ hgo)
  case ifCond cd off =>
    simp only [ab_ck, Bool.and_eq_true, beq_iff_eq, decide_eq_true_eq] at hck
    obtain ⟨rfl, ht⟩ := hck
    match st, hgo with
    | .inl x :: r, hgo =>
      cases cd
      case eq => exact ws_if_eq C0 hdg ht (fun q => hX _ _ _ _ (hgo.1 q)) (fun q => hK _ _ _ (hgo.2 q))
      case ne => exact ws_if_ne C0 hdg ht (fun q => hX _ _ _ _ (hgo.1 q)) (fun q => hK _ _ _ (hgo.2 q))
      case lt => exact ws_if_lt C0 hdg ht (fun q => hX _ _ _ _ (hgo.1 q)) (fun q => hK _ _ _ (hgo.2 q))
      case ge => exact ws_if_ge C0 hdg ht (fun q => hX _ _ _ _ (hgo.1 q)) (fun q => hK _ _ _ (hgo.2 q))
      case gt => exact ws_if_gt C0 hdg ht (fun q => hX _ _ _ _ (hgo.1 q)) (fun q => hK _ _ _ (hgo.2 q))
      case le => exact ws_if_le C0 hdg ht (fun q => hX _ _ _ _ (hgo.1 q)) (fun q => hK _ _ _ (hgo.2 q))
    | .inr (.inl x) :: r, hgo => exact hgo.elim
    | .inr (.inr x) :: r, hgo => exact hgo.elim
    | [], hgo => exact hgo.elim
  case if_icmp cd off =>
    simp only [ab_ck, Bool.and_eq_true, beq_iff_eq, decide_eq_true_eq] at hck
    obtain ⟨rfl, ht⟩ := hck
    match st, hgo with
    | .inl y :: .inl x :: r, hgo => 
      cases cd
      case eq => exact ws_icmp_eq C0 hdg ht (fun q => hX _ _ _ _ (hgo.1 q)) (fun q => hK _ _ _ (hgo.2 q))
      case ne => exact ws_icmp_ne C0 hdg ht (fun q => hX _ _ _ _ (hgo.1 q)) (fun q => hK _ _ _ (hgo.2 q))
      case lt => exact ws_icmp_lt C0 hdg ht (fun q => hX _ _ _ _ (hgo.1 q)) (fun q => hK _ _ _ (hgo.2 q))
      case ge => exact ws_icmp_ge C0 hdg ht (fun q => hX _ _ _ _ (hgo.1 q)) (fun q => hK _ _ _ (hgo.2 q))
      case gt => exact ws_icmp_gt C0 hdg ht (fun q => hX _ _ _ _ (hgo.1 q)) (fun q => hK _ _ _ (hgo.2 q))
      case le => exact ws_icmp_le C0 hdg ht (fun q => hX _ _ _ _ (hgo.1 q)) (fun q => hK _ _ _ (hgo.2 q))
    | .inl y :: .inr (.inl x) :: r, hgo => exact hgo.elim
    | .inl y :: .inr (.inr x) :: r, hgo => exact hgo.elim
    | [.inl y], hgo => exact hgo.elim
    | .inr (.inl y) :: r, hgo => exact hgo.elim
    | .inr (.inr y) :: r, hgo => exact hgo.elim
    | [], hgo => exact hgo.elim
  case if_acmp cd off =>
    simp only [ab_ck, Bool.and_eq_true, beq_iff_eq, decide_eq_true_eq] at hck
    obtain ⟨rfl, ht⟩ := hck
    cases cd
    case eq =>
      match st, hgo with
      | .inr (.inr y) :: .inr (.inr x) :: r, hgo => exact ws_acmp_eq C0 hdg ht (fun q => hX _ _ _ _ (hgo.1 q)) (fun q => hK _ _ _ (hgo.2 q))
      | .inl y :: r, hgo => exact hgo.elim
      | .inr (.inl y) :: r, hgo => exact hgo.elim
      | .inr (.inr y) :: .inl x :: r, hgo => exact hgo.elim
      | .inr (.inr y) :: .inr (.inl x) :: r, hgo => exact hgo.elim
      | [.inr (.inr y)], hgo => exact hgo.elim
      | [], hgo => exact hgo.elim
    case ne =>
      match st, hgo with
      | .inr (.inr y) :: .inr (.inr x) :: r, hgo => exact ws_acmp_ne C0 hdg ht (fun q => hX _ _ _ _ (hgo.1 q)) (fun q => hK _ _ _ (hgo.2 q))
      | .inl y :: r, hgo => exact hgo.elim
      | .inr (.inl y) :: r, hgo => exact hgo.elim
      | .inr (.inr y) :: .inl x :: r, hgo => exact hgo.elim
      | .inr (.inr y) :: .inr (.inl x) :: r, hgo => exact hgo.elim
      | [.inr (.inr y)], hgo => exact hgo.elim
      | [], hgo => exact hgo.elim
  case ifnull off =>
    simp only [ab_ck, Bool.and_eq_true, beq_iff_eq, decide_eq_true_eq] at hck
    obtain ⟨rfl, ht⟩ := hck
    match st, hgo with
    | .inr (.inr x) :: r, hgo => exact ws_ifnull C0 hdg ht (fun q => by subst q; exact hX _ _ _ _ hgo) (fun a q => by subst q; exact hK _ _ _ hgo)
    | .inl x :: r, hgo => exact hgo.elim
    | .inr (.inl x) :: r, hgo => exact hgo.elim
    | [], hgo => exact hgo.elim
  case ifnonnull off =>
    simp only [ab_ck, Bool.and_eq_true, beq_iff_eq, decide_eq_true_eq] at hck
    obtain ⟨rfl, ht⟩ := hck
    match st, hgo with
    | .inr (.inr x) :: r, hgo => exact ws_ifnonnull C0 hdg ht (fun a q => by subst q; exact hX _ _ _ _ hgo) (fun q => by subst q; exact hK _ _ _ hgo)
    | .inl x :: r, hgo => exact hgo.elim
    | .inr (.inl x) :: r, hgo => exact hgo.elim
    | [], hgo => exact hgo.elim
  case tableswitch df lo hi offs =>
    simp only [ab_ck, Bool.and_eq_true, decide_eq_true_eq] at hck
    obtain ⟨⟨hd1, hn⟩, hall⟩ := hck
    have hsw : ∀ i, i < sw.length → ∃ t o, sw[i]? = some (lo + i, t) ∧ offs[i]? = some o ∧ (pc : Int) + o = (t : Int) := fun i hi0 => by
      have h1 := List.all_eq_true.mp hall i (List.mem_range.mpr hi0)
      split at h1
      next k t o g1 g2 =>
        simp only [Bool.and_eq_true, decide_eq_true_eq] at h1
        exact ⟨t, o, by rw [g1, h1.1], g2, h1.2⟩
      next => cases h1
    match st, hgo with
    | .inl x :: r, hgo => exact ws_table C0 hdg hd1 hn hsw (fun t ht => hX _ _ _ _ ht) hgo
    | .inr (.inl x) :: r, hgo => exact hgo.elim
    | .inr (.inr x) :: r, hgo => exact hgo.elim
    | [], hgo => exact hgo.elim
  case lookupswitch df ps =>
    simp only [ab_ck, Bool.and_eq_true, decide_eq_true_eq] at hck
    obtain ⟨⟨⟨hp, hd1⟩, hn⟩, hall⟩ := hck
    have hsw : ∀ i, i < ps.toList.length → ∃ k o t, ps.toList[i]? = some (k, o) ∧ sw[i]? = some (k, t) ∧ (pc : Int) + o = (t : Int) := fun i hi0 => by
      have h1 := List.all_eq_true.mp hall i (List.mem_range.mpr hi0)
      split at h1
      next k o k' t g1 g2 =>
        simp only [Bool.and_eq_true, decide_eq_true_eq] at h1
        exact ⟨k, o, t, g1, by rw [g2, h1.1], h1.2⟩
      next => cases h1
    match st, hgo with
    | .inl x :: r, hgo => exact ws_lookup C0 hdg hp hd1 hn hsw (fun t ht => hX _ _ _ _ ht) hgo
    | .inr (.inl x) :: r, hgo => exact hgo.elim
    | .inr (.inr x) :: r, hgo => exact hgo.elim
    | [], hgo => exact hgo.elim
  case ireturn =>
    simp only [ab_ck, Bool.and_eq_true, beq_iff_eq, decide_eq_true_eq] at hck
    obtain ⟨rfl, hrt⟩ := hck
    match st, hgo with
    | [.inl x], hgo => exact ws_ireturn C0 hE hrt hdg hgo.1 hgo.2
    | .inl x :: y :: r, hgo => exact hgo.elim
    | .inr (.inl x) :: r, hgo => exact hgo.elim
    | .inr (.inr x) :: r, hgo => exact hgo.elim
    | [], hgo => exact hgo.elim
  case lreturn =>
    simp only [ab_ck, Bool.and_eq_true, beq_iff_eq, decide_eq_true_eq] at hck
    obtain ⟨rfl, hrt⟩ := hck
    match st, hgo with
    | [.inr (.inl x)], hgo => exact ws_lreturn C0 hE hrt hdg hgo
    | .inr (.inl x) :: y :: r, hgo => exact hgo.elim
    | .inl x :: r, hgo => exact hgo.elim
    | .inr (.inr x) :: r, hgo => exact hgo.elim
    | [], hgo => exact hgo.elim
  case areturn =>
    simp only [ab_ck, Bool.and_eq_true, beq_iff_eq] at hck
    obtain ⟨rfl, hrt⟩ := hck
    have hrt2 : ∃ ty, ab_rt n = some ty ∧ ((∃ n, ty = .object n) ∨ ∃ t, ty = .array t) := by
      split at hrt
      next q g => exact ⟨_, g, Or.inl ⟨_, rfl⟩⟩
      next q g => exact ⟨_, g, Or.inr ⟨_, rfl⟩⟩
      next => cases hrt
    match st, hgo with
    | [.inr (.inr x)], hgo => exact ws_areturn C0 hE hrt2 hdg hgo
    | .inr (.inr x) :: y :: r, hgo => exact hgo.elim
    | .inl x :: r, hgo => exact hgo.elim
    | .inr (.inl x) :: r, hgo => exact hgo.elim
    | [], hgo => exact hgo.elim
  case return_ =>
    simp only [ab_ck, Bool.and_eq_true, beq_iff_eq, decide_eq_true_eq] at hck
    obtain ⟨rfl, hrt⟩ := hck
    match st, hgo with
    | [], hgo => exact ws_vreturn C0 hE hrt hdg hgo
    | x :: r, hgo => exact hgo.elim
  case getfield i =>
    simp only [ab_ck, Bool.and_eq_true, beq_iff_eq] at hck
    obtain ⟨rfl, hck⟩ := hck
    match st, hgo with
    | .inr (.inr (some a)) :: r, hgo =>
      obtain ⟨fs, w, ho, hv, hg⟩ := hgo
      split at hck
      next C T N hc =>
        simp only [Bool.and_eq_true, decide_eq_true_eq, Bool.or_eq_true] at hck
        obtain ⟨⟨hk, h9⟩, hw⟩ := hck
        exact ws_getfield C0 hc hk h9 (hw.elim (fun q => Or.inl (ab_in_of q)) (fun q => Or.inr ⟨_, ab_in_of q⟩)) hdg ho hv (hK _ _ _ hg)
      next => cases hck
    | .inr (.inr none) :: r, hgo => exact hgo.elim
    | .inl x :: r, hgo => exact hgo.elim
    | .inr (.inl x) :: r, hgo => exact hgo.elim
    | [], hgo => exact hgo.elim
  case putfield i =>
    simp only [ab_ck, Bool.and_eq_true, beq_iff_eq] at hck
    obtain ⟨rfl, hck⟩ := hck
    match st, hgo with
    | v :: .inr (.inr (some a)) :: r, hgo =>
      obtain ⟨fs, ho, hl0, hf, hg⟩ := hgo
      split at hck
      next C T N hc =>
        simp only [Bool.and_eq_true, decide_eq_true_eq] at hck
        obtain ⟨⟨⟨⟨hk, h9⟩, hw⟩, hfin⟩, hty⟩ := hck
        exact ws_putfield C0 hc hk h9 (ab_in_of hw) hfin hdg ho hl0 (by rw [hty]; exact hf) (hK _ _ _ hg)
      next => cases hck
    | v :: .inr (.inr none) :: r, hgo => exact hgo.elim
    | v :: .inl x :: r, hgo => exact hgo.elim
    | v :: .inr (.inl x) :: r, hgo => exact hgo.elim
    | [v], hgo => exact hgo.elim
    | [], hgo => exact hgo.elim
  case iaload =>
    have e1 : len = 1 := by simpa [ab_ck] using hck
    subst e1
    match st, hgo with
    | .inl x :: .inr (.inr (some a)) :: r, hgo =>
      obtain ⟨t, N, f, ho, ht, hx, hg⟩ := hgo
      exact ws_iaload C0 hdg ho ht hx (hK _ _ _ hg)
    | .inl x :: .inr (.inr none) :: r, hgo => exact hgo.elim
    | .inl x :: .inl y :: r, hgo => exact hgo.elim
    | .inl x :: .inr (.inl y) :: r, hgo => exact hgo.elim
    | [.inl x], hgo => exact hgo.elim
    | .inr (.inl x) :: r, hgo => exact hgo.elim
    | .inr (.inr x) :: r, hgo => exact hgo.elim
    | [], hgo => exact hgo.elim
  case baload =>
    have e1 : len = 1 := by simpa [ab_ck] using hck
    subst e1
    match st, hgo with
    | .inl x :: .inr (.inr (some a)) :: r, hgo =>
      obtain ⟨N, f, ho, hx, hg⟩ := hgo
      exact ws_baload C0 hdg ho hx (hK _ _ _ hg)
    | .inl x :: .inr (.inr none) :: r, hgo => exact hgo.elim
    | .inl x :: .inl y :: r, hgo => exact hgo.elim
    | .inl x :: .inr (.inl y) :: r, hgo => exact hgo.elim
    | [.inl x], hgo => exact hgo.elim
    | .inr (.inl x) :: r, hgo => exact hgo.elim
    | .inr (.inr x) :: r, hgo => exact hgo.elim
    | [], hgo => exact hgo.elim
  case aaload =>
    have e1 : len = 1 := by simpa [ab_ck] using hck
    subst e1
    match st, hgo with
    | .inl x :: .inr (.inr (some a)) :: r, hgo =>
      obtain ⟨t, N, f, ho, hx, hg⟩ := hgo
      exact ws_aaload C0 hdg ho hx (hK _ _ _ hg)
    | .inl x :: .inr (.inr none) :: r, hgo => exact hgo.elim
    | .inl x :: .inl y :: r, hgo => exact hgo.elim
    | .inl x :: .inr (.inl y) :: r, hgo => exact hgo.elim
    | [.inl x], hgo => exact hgo.elim
    | .inr (.inl x) :: r, hgo => exact hgo.elim
    | .inr (.inr x) :: r, hgo => exact hgo.elim
    | [], hgo => exact hgo.elim
  case iastore =>
    have e1 : len = 1 := by simpa [ab_ck] using hck
    subst e1
    match st, hgo with
    | .inl y :: .inl x :: .inr (.inr (some a)) :: r, hgo =>
      obtain ⟨N, f, ho, hx, hg⟩ := hgo
      exact ws_iastore C0 hdg ho hx (hK _ _ _ hg)
    | .inl y :: .inl x :: .inr (.inr none) :: r, hgo => exact hgo.elim
    | .inl y :: .inl x :: .inl z :: r, hgo => exact hgo.elim
    | .inl y :: .inl x :: .inr (.inl z) :: r, hgo => exact hgo.elim
    | .inl y :: [.inl x], hgo => exact hgo.elim
    | .inl y :: .inr (.inl x) :: r, hgo => exact hgo.elim
    | .inl y :: .inr (.inr x) :: r, hgo => exact hgo.elim
    | [.inl y], hgo => exact hgo.elim
    | .inr (.inl y) :: r, hgo => exact hgo.elim
    | .inr (.inr y) :: r, hgo => exact hgo.elim
    | [], hgo => exact hgo.elim
  case bastore =>
    have e1 : len = 1 := by simpa [ab_ck] using hck
    subst e1
    match st, hgo with
    | .inl y :: .inl x :: .inr (.inr (some a)) :: r, hgo =>
      obtain ⟨N, f, ho, hx, hy, hg⟩ := hgo
      exact ws_bastore C0 hdg ho hx hy (hK _ _ _ hg)
    | .inl y :: .inl x :: .inr (.inr none) :: r, hgo => exact hgo.elim
    | .inl y :: .inl x :: .inl z :: r, hgo => exact hgo.elim
    | .inl y :: .inl x :: .inr (.inl z) :: r, hgo => exact hgo.elim
    | .inl y :: [.inl x], hgo => exact hgo.elim
    | .inl y :: .inr (.inl x) :: r, hgo => exact hgo.elim
    | .inl y :: .inr (.inr x) :: r, hgo => exact hgo.elim
    | [.inl y], hgo => exact hgo.elim
    | .inr (.inl y) :: r, hgo => exact hgo.elim
    | .inr (.inr y) :: r, hgo => exact hgo.elim
    | [], hgo => exact hgo.elim
  case aastore =>
    have e1 : len = 1 := by simpa [ab_ck] using hck
    subst e1
    match st, hgo with
    | .inr (.inr y) :: .inl x :: .inr (.inr (some a)) :: r, hgo =>
      obtain ⟨t, N, f, ho, hx, hv, hg⟩ := hgo
      exact ws_aastore C0 hdg ho hx hv (hK _ _ _ hg)
    | .inr (.inr y) :: .inl x :: .inr (.inr none) :: r, hgo => exact hgo.elim
    | .inr (.inr y) :: .inl x :: .inl z :: r, hgo => exact hgo.elim
    | .inr (.inr y) :: .inl x :: .inr (.inl z) :: r, hgo => exact hgo.elim
    | .inr (.inr y) :: [.inl x], hgo => exact hgo.elim
    | .inr (.inr y) :: .inr (.inl x) :: r, hgo => exact hgo.elim
    | .inr (.inr y) :: .inr (.inr x) :: r, hgo => exact hgo.elim
    | [.inr (.inr y)], hgo => exact hgo.elim
    | .inl y :: r, hgo => exact hgo.elim
    | .inr (.inl y) :: r, hgo => exact hgo.elim
    | [], hgo => exact hgo.elim
  case arraylength =>
    have e1 : len = 1 := by simpa [ab_ck] using hck
    subst e1
    match st, hgo with
    | .inr (.inr (some a)) :: r, hgo =>
      obtain ⟨N, ho, hg⟩ := hgo
      exact ws_arraylength C0 hdg ho (hK _ _ _ hg)
    | .inr (.inr none) :: r, hgo => exact hgo.elim
    | .inl x :: r, hgo => exact hgo.elim
    | .inr (.inl x) :: r, hgo => exact hgo.elim
    | [], hgo => exact hgo.elim
  case new i =>
    simp only [ab_ck, Bool.and_eq_true, beq_iff_eq] at hck
    obtain ⟨rfl, hck⟩ := hck
    split at hck
    next C T N hc =>
      simp only [Bool.and_eq_true, decide_eq_true_eq] at hck
      obtain ⟨⟨⟨hN, hw1⟩, hw2⟩, hw3⟩ := hck
      exact ws_new C0 hc hN (ab_in_of hw1) (ab_in_of hw2) (ab_in_of hw3) hdg hgo.1 (hK _ _ _ hgo.2)
    next => cases hck
  case newarray ty =>
    simp only [ab_ck, Bool.and_eq_true, beq_iff_eq, decide_eq_true_eq] at hck
    obtain ⟨⟨rfl, ht⟩, hw⟩ := hck
    match st, hgo with
    | .inl x :: r, hgo => exact ws_newarr C0 ht (ab_in_of hw) hdg hgo.1 (hK _ _ _ hgo.2)
    | .inr (.inl x) :: r, hgo => exact hgo.elim
    | .inr (.inr x) :: r, hgo => exact hgo.elim
    | [], hgo => exact hgo.elim
  case anewarray i =>
    simp only [ab_ck, Bool.and_eq_true, beq_iff_eq, decide_eq_true_eq] at hck
    obtain ⟨⟨rfl, h3⟩, hck⟩ := hck
    split at hck
    next C T N hc =>
      simp only [Bool.and_eq_true] at hck
      match st, hgo with
      | .inl x :: r, hgo => exact ws_anewarr C0 h3 hc (ab_in_of hck.1) (ab_in_of hck.2) hdg hgo.1 (hK _ _ _ hgo.2)
      | .inr (.inl x) :: r, hgo => exact hgo.elim
      | .inr (.inr x) :: r, hgo => exact hgo.elim
      | [], hgo => exact hgo.elim
    next => cases hck
  case invokestatic i =>
    simp only [ab_ck, Bool.and_eq_true, beq_iff_eq, decide_eq_true_eq] at hck
    obtain ⟨⟨⟨⟨rfl, h1⟩, h2⟩, h3⟩, h4⟩ := hck
    obtain ⟨as, rest, hl, hst, hg⟩ := ab_pop_sd hgo
    split at hg
    next hble =>
      exact ws_static C0 hd (ab_okM_of h1) (ab_lk_of h2) (ab_in_of h3) (by rw [List.append_nil, List.length_reverse, hl]; exact h4) (Nat.le_of_ble_eq_true hble) hdg (by rw [ab_revrev]; exact hst) hg (fun r h' hq => hK _ _ _ hq)
    next => exact hg.elim
  case invokevirtual i =>
    simp only [ab_ck, Bool.and_eq_true, beq_iff_eq, decide_eq_true_eq] at hck
    obtain ⟨⟨⟨⟨⟨rfl, h1⟩, h2⟩, h3⟩, h4, h5, h6⟩, hck⟩ := hck
    obtain ⟨as, rest, hl, hst, hg⟩ := ab_pop_sd hgo
    split at hck
    next C T N hc =>
      split at hg
      next hble =>
        split at hg
        next a t he =>
          obtain ⟨fs, ho, hg⟩ := hg
          have he2 : as = t.reverse ++ [.inr (.inr (some a))] := by
            have := congrArg List.reverse he
            simpa using this
          have hlt : t.length = a2 - 1 := by
            rw [he2] at hl
            simp at hl
            omega
          refine ws_virtual (a := a) (as := t) (rest := rest) C0 hd (ab_okM_of h1) (ab_lk_of h2) (ab_in_of h3) (ab_in_of hck) hc h6 (by rw [hlt]; exact h4) (Nat.le_of_ble_eq_true hble) hdg (by rw [hst, he2]; simp) ho ?_ (fun r h' hq => hK _ _ _ hq)
          rw [← he]
          exact hg
        next => exact hg.elim
      next => exact hg.elim
    next => cases hck
  case invokespecial i =>
    simp only [ab_ck, Bool.and_eq_true, beq_iff_eq] at hck
    obtain ⟨rfl, hck⟩ := hck
    have hgo : ab_sp (ab_CT d) a1 a2 K ls st h := hgo
    unfold ab_sp at hgo
    split at hck
    next hb =>
      rw [hb] at hgo
      simp only [Bool.and_eq_true] at hck
      obtain ⟨⟨g1, g2⟩, g3⟩ := hck
      have hgo : ab_oi K ls st h := hgo
      unfold ab_oi at hgo
      split at hgo
      next a r =>
        split at hgo
        next hble => exact ws_objinit C0 (Nat.le_add_left _ _) hd (Nat.le_of_ble_eq_true hble) (ab_in_of g1) (ab_in_of g2) (ab_in_of g3) hdg (hK _ _ _ hgo)
        next => exact hgo.elim
      next => exact hgo.elim
    next hb =>
      rw [hb] at hgo
      simp only [Bool.and_eq_true, decide_eq_true_eq] at hck
      obtain ⟨⟨⟨h1, h2⟩, h3⟩, h4, h5, h6, h7⟩ := hck
      obtain ⟨as, rest, hl, hst, hg⟩ := ab_pop_sd hgo
      split at hg
      next hble =>
        split at hg
        next a t he =>
          have he2 : as = t.reverse ++ [.inr (.inr (some a))] := by
            have := congrArg List.reverse he
            simpa using this
          have hlt : t.length = a2 - 1 := by
            rw [he2] at hl
            simp at hl
            omega
          refine ws_special (a := a) (as := t) (rest := rest) C0 hd (ab_okM_of h1) (ab_lk_of h2) h6 h7 (ab_in_of h3) (by rw [hlt]; exact h4) (Nat.le_of_ble_eq_true hble) hdg (by rw [hst, he2]; simp) ?_ (fun r h' hq => hK _ _ _ hq)
          rw [← he]
          exact hg
        next => exact hg.elim
      next => exact hg.elim
  all_goals exact hgo.elim
theorem ab_go_sd (C0 : ab_Cx p s m meth c n D cT b0 b L xs n0) (hd : d + 1 ≤ 2048) {Q : ab_Q} {X : ab_J} (hE : E = ab_En below args s Q D cT b0 b L xs n0 s0) (hX : ∀ pc ls st h, X pc ls st h → ab_WG p l e s m args below meth c n D cT b0 b L xs n0 s0 (d + 1) E pc ls st h) :
    ∀ (code : List ab_E) (pc : Nat) (ls : ab_L) (st : List ab_V) (h : ab_H), ab_chn n pc code = true → ab_go (ab_CT d) Q X code ls st h → ab_WG p l e s m args below meth c n D cT b0 b L xs n0 s0 (d + 1) E pc ls st h := by
  intro code
  induction code with
  | nil => intro pc ls st h _ hgo; exact hgo.elim
  | cons q t ih =>
    intro pc ls st h hch hgo
    obtain ⟨mk, pc', ins, len, a1, a2, sw⟩ := q
    unfold ab_chn at hch
    simp only [Bool.and_eq_true, decide_eq_true_eq] at hch
    obtain ⟨⟨⟨rfl, hdg⟩, hck⟩, hch⟩ := hch
    cases mk with
    | true => exact hX _ _ _ _ hgo
    | false => exact ab_stp_sd C0 hd hE hX hdg hck (fun ls st h hg => ih _ ls st h hch hg) hgo
end AB6
end
section
theorem i_vc : Claimed_1_1 ∧ Claimed_1_2 := sorry
end
