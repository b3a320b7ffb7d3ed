-- ===== PART A: goes FIRST, ahead of the names: the tables' words, and 'selects' of the private methods out of them =====
/-- a private method of a class that the tables say can be made, by its rows of tables_1 -/
def lw_okq (q : MethodName × Nat) : Prop := (q.1.cls ≠ "java/lang/invoke/MethodHandle" ∧ q.1.cls ≠ "java/lang/invoke/VarHandle") ∧ Cond.instantiable q.1.cls q.2 ∈ tables_1 ∧ Cond.privateMethod q.1 ∈ tables_1 ∧ Cond.instanceMethod q.1 ∈ tables_1
theorem lw_p0 : lw_okq (⟨"NestedFoci$ThingReader", "readOne", "(I)LNestedFoci$Thing;"⟩, 1) := ⟨⟨by decide +kernel, by decide +kernel⟩, List.mem_of_getElem? (i := 45) (by decide +kernel), List.mem_of_getElem? (i := 279) (by decide +kernel), List.mem_of_getElem? (i := 280) (by decide +kernel)⟩
theorem lw_p1 : lw_okq (⟨"NestedFoci$ThingReader", "readPair", "(I)LNestedFoci$Thing;"⟩, 1) := ⟨⟨by decide +kernel, by decide +kernel⟩, List.mem_of_getElem? (i := 45) (by decide +kernel), List.mem_of_getElem? (i := 295) (by decide +kernel), List.mem_of_getElem? (i := 296) (by decide +kernel)⟩
theorem lw_p2 : lw_okq (⟨"NestedFoci$Parts", "insert", "(IILNestedFoci$Thing;)V"⟩, 3) := ⟨⟨by decide +kernel, by decide +kernel⟩, List.mem_of_getElem? (i := 321) (by decide +kernel), List.mem_of_getElem? (i := 342) (by decide +kernel), List.mem_of_getElem? (i := 343) (by decide +kernel)⟩
theorem lw_p3 : lw_okq (⟨"NestedFoci$ThingReader", "readMany", "(III)LNestedFoci$Thing;"⟩, 1) := ⟨⟨by decide +kernel, by decide +kernel⟩, List.mem_of_getElem? (i := 45) (by decide +kernel), List.mem_of_getElem? (i := 351) (by decide +kernel), List.mem_of_getElem? (i := 352) (by decide +kernel)⟩
theorem lw_p4 : lw_okq (⟨"NestedFoci$ThingReader", "readNewKey", "(LNestedFoci$Parts;)I"⟩, 1) := ⟨⟨by decide +kernel, by decide +kernel⟩, List.mem_of_getElem? (i := 45) (by decide +kernel), List.mem_of_getElem? (i := 359) (by decide +kernel), List.mem_of_getElem? (i := 360) (by decide +kernel)⟩
theorem lw_p5 : lw_okq (⟨"NestedFoci$Parts", "placeOf", "(I)I"⟩, 3) := ⟨⟨by decide +kernel, by decide +kernel⟩, List.mem_of_getElem? (i := 321) (by decide +kernel), List.mem_of_getElem? (i := 371) (by decide +kernel), List.mem_of_getElem? (i := 372) (by decide +kernel)⟩
theorem lw_p6 : lw_okq (⟨"NestedFoci$ThingReader", "readTagged", "(I)LNestedFoci$Thing;"⟩, 1) := ⟨⟨by decide +kernel, by decide +kernel⟩, List.mem_of_getElem? (i := 45) (by decide +kernel), List.mem_of_getElem? (i := 380) (by decide +kernel), List.mem_of_getElem? (i := 381) (by decide +kernel)⟩
theorem lw_p7 : lw_okq (⟨"NestedFoci$PathReader", "readStep", "()I"⟩, 3) := ⟨⟨by decide +kernel, by decide +kernel⟩, List.mem_of_getElem? (i := 55) (by decide +kernel), List.mem_of_getElem? (i := 430) (by decide +kernel), List.mem_of_getElem? (i := 431) (by decide +kernel)⟩
theorem lw_p8 : lw_okq (⟨"NestedFoci$PathReader", "readSide", "()I"⟩, 3) := ⟨⟨by decide +kernel, by decide +kernel⟩, List.mem_of_getElem? (i := 55) (by decide +kernel), List.mem_of_getElem? (i := 436) (by decide +kernel), List.mem_of_getElem? (i := 437) (by decide +kernel)⟩
theorem lw_p9 : lw_okq (⟨"NestedFoci$PathReader", "closed", "(II)I"⟩, 3) := ⟨⟨by decide +kernel, by decide +kernel⟩, List.mem_of_getElem? (i := 55) (by decide +kernel), List.mem_of_getElem? (i := 444) (by decide +kernel), List.mem_of_getElem? (i := 445) (by decide +kernel)⟩
theorem lw_p10 : lw_okq (⟨"NestedFoci$Path", "sign", "(I)I"⟩, 2) := ⟨⟨by decide +kernel, by decide +kernel⟩, List.mem_of_getElem? (i := 202) (by decide +kernel), List.mem_of_getElem? (i := 471) (by decide +kernel), List.mem_of_getElem? (i := 472) (by decide +kernel)⟩
theorem lw_p11 : lw_okq (⟨"NestedFoci$Path", "word", "(I)I"⟩, 2) := ⟨⟨by decide +kernel, by decide +kernel⟩, List.mem_of_getElem? (i := 202) (by decide +kernel), List.mem_of_getElem? (i := 475) (by decide +kernel), List.mem_of_getElem? (i := 476) (by decide +kernel)⟩
theorem lw_p12 : lw_okq (⟨"NestedFoci", "held", "(I)LNestedFoci$Thing;"⟩, 12) := ⟨⟨by decide +kernel, by decide +kernel⟩, List.mem_of_getElem? (i := 17) (by decide +kernel), List.mem_of_getElem? (i := 488) (by decide +kernel), List.mem_of_getElem? (i := 489) (by decide +kernel)⟩
theorem lw_p13 : lw_okq (⟨"NestedFoci$Changer", "changeWithin", "(LNestedFoci$Thing;II)LNestedFoci$Thing;"⟩, 7) := ⟨⟨by decide +kernel, by decide +kernel⟩, List.mem_of_getElem? (i := 85) (by decide +kernel), List.mem_of_getElem? (i := 500) (by decide +kernel), List.mem_of_getElem? (i := 501) (by decide +kernel)⟩
theorem lw_p14 : lw_okq (⟨"NestedFoci$Changer", "changeFocus", "(LNestedFoci$Thing;)LNestedFoci$Thing;"⟩, 7) := ⟨⟨by decide +kernel, by decide +kernel⟩, List.mem_of_getElem? (i := 85) (by decide +kernel), List.mem_of_getElem? (i := 505) (by decide +kernel), List.mem_of_getElem? (i := 506) (by decide +kernel)⟩
theorem lw_p15 : lw_okq (⟨"NestedFoci$Changer", "makeNumberOf", "(LNestedFoci$Thing;I)LNestedFoci$Thing;"⟩, 7) := ⟨⟨by decide +kernel, by decide +kernel⟩, List.mem_of_getElem? (i := 85) (by decide +kernel), List.mem_of_getElem? (i := 509) (by decide +kernel), List.mem_of_getElem? (i := 510) (by decide +kernel)⟩
def lw_privs_1 : List (MethodName × Nat) := [(⟨"NestedFoci$ThingReader", "readOne", "(I)LNestedFoci$Thing;"⟩, 1), (⟨"NestedFoci$ThingReader", "readPair", "(I)LNestedFoci$Thing;"⟩, 1), (⟨"NestedFoci$Parts", "insert", "(IILNestedFoci$Thing;)V"⟩, 3), (⟨"NestedFoci$ThingReader", "readMany", "(III)LNestedFoci$Thing;"⟩, 1), (⟨"NestedFoci$ThingReader", "readNewKey", "(LNestedFoci$Parts;)I"⟩, 1), (⟨"NestedFoci$Parts", "placeOf", "(I)I"⟩, 3), (⟨"NestedFoci$ThingReader", "readTagged", "(I)LNestedFoci$Thing;"⟩, 1), (⟨"NestedFoci$PathReader", "readStep", "()I"⟩, 3), (⟨"NestedFoci$PathReader", "readSide", "()I"⟩, 3), (⟨"NestedFoci$PathReader", "closed", "(II)I"⟩, 3), (⟨"NestedFoci$Path", "sign", "(I)I"⟩, 2), (⟨"NestedFoci$Path", "word", "(I)I"⟩, 2), (⟨"NestedFoci", "held", "(I)LNestedFoci$Thing;"⟩, 12), (⟨"NestedFoci$Changer", "changeWithin", "(LNestedFoci$Thing;II)LNestedFoci$Thing;"⟩, 7), (⟨"NestedFoci$Changer", "changeFocus", "(LNestedFoci$Thing;)LNestedFoci$Thing;"⟩, 7), (⟨"NestedFoci$Changer", "makeNumberOf", "(LNestedFoci$Thing;I)LNestedFoci$Thing;"⟩, 7)]
theorem lw_r1 : ∀ q ∈ lw_privs_1, lw_okq q := List.forall_mem_cons.mpr ⟨lw_p0, List.forall_mem_cons.mpr ⟨lw_p1, List.forall_mem_cons.mpr ⟨lw_p2, List.forall_mem_cons.mpr ⟨lw_p3, List.forall_mem_cons.mpr ⟨lw_p4, List.forall_mem_cons.mpr ⟨lw_p5, List.forall_mem_cons.mpr ⟨lw_p6, List.forall_mem_cons.mpr ⟨lw_p7, List.forall_mem_cons.mpr ⟨lw_p8, List.forall_mem_cons.mpr ⟨lw_p9, List.forall_mem_cons.mpr ⟨lw_p10, List.forall_mem_cons.mpr ⟨lw_p11, List.forall_mem_cons.mpr ⟨lw_p12, List.forall_mem_cons.mpr ⟨lw_p13, List.forall_mem_cons.mpr ⟨lw_p14, List.forall_mem_cons.mpr ⟨lw_p15, fun _ h => absurd h List.not_mem_nil⟩⟩⟩⟩⟩⟩⟩⟩⟩⟩⟩⟩⟩⟩⟩⟩
theorem lw_p16 : lw_okq (⟨"NestedFoci$Changer", "make", "(II[LNestedFoci$Thing;LNestedFoci$Thing;)LNestedFoci$Thing;"⟩, 7) := ⟨⟨by decide +kernel, by decide +kernel⟩, List.mem_of_getElem? (i := 85) (by decide +kernel), List.mem_of_getElem? (i := 514) (by decide +kernel), List.mem_of_getElem? (i := 515) (by decide +kernel)⟩
theorem lw_p17 : lw_okq (⟨"NestedFoci$Changer", "mayMake", "()Z"⟩, 7) := ⟨⟨by decide +kernel, by decide +kernel⟩, List.mem_of_getElem? (i := 85) (by decide +kernel), List.mem_of_getElem? (i := 518) (by decide +kernel), List.mem_of_getElem? (i := 519) (by decide +kernel)⟩
theorem lw_p18 : lw_okq (⟨"NestedFoci$Changer", "changeOrder", "(LNestedFoci$Thing;)LNestedFoci$Thing;"⟩, 7) := ⟨⟨by decide +kernel, by decide +kernel⟩, List.mem_of_getElem? (i := 85) (by decide +kernel), List.mem_of_getElem? (i := 527) (by decide +kernel), List.mem_of_getElem? (i := 528) (by decide +kernel)⟩
theorem lw_p19 : lw_okq (⟨"NestedFoci$Changer", "makeAround", "(LNestedFoci$Thing;[LNestedFoci$Thing;)LNestedFoci$Thing;"⟩, 7) := ⟨⟨by decide +kernel, by decide +kernel⟩, List.mem_of_getElem? (i := 85) (by decide +kernel), List.mem_of_getElem? (i := 542) (by decide +kernel), List.mem_of_getElem? (i := 543) (by decide +kernel)⟩
theorem lw_p20 : lw_okq (⟨"NestedFoci", "focusAt", "(III)LNestedFoci$Thing;"⟩, 12) := ⟨⟨by decide +kernel, by decide +kernel⟩, List.mem_of_getElem? (i := 17) (by decide +kernel), List.mem_of_getElem? (i := 612) (by decide +kernel), List.mem_of_getElem? (i := 613) (by decide +kernel)⟩
theorem lw_p21 : lw_okq (⟨"NestedFoci$Foci", "findWithin", "(LNestedFoci$Thing;LNestedFoci$Path;II)V"⟩, 3) := ⟨⟨by decide +kernel, by decide +kernel⟩, List.mem_of_getElem? (i := 113) (by decide +kernel), List.mem_of_getElem? (i := 620) (by decide +kernel), List.mem_of_getElem? (i := 621) (by decide +kernel)⟩
theorem lw_p22 : lw_okq (⟨"NestedFoci$Foci", "add", "(LNestedFoci$Thing;)V"⟩, 3) := ⟨⟨by decide +kernel, by decide +kernel⟩, List.mem_of_getElem? (i := 113) (by decide +kernel), List.mem_of_getElem? (i := 625) (by decide +kernel), List.mem_of_getElem? (i := 626) (by decide +kernel)⟩
theorem lw_p23 : lw_okq (⟨"NestedFoci$Foci", "isLikeOneAhead", "(I)Z"⟩, 3) := ⟨⟨by decide +kernel, by decide +kernel⟩, List.mem_of_getElem? (i := 113) (by decide +kernel), List.mem_of_getElem? (i := 691) (by decide +kernel), List.mem_of_getElem? (i := 692) (by decide +kernel)⟩
theorem lw_p24 : lw_okq (⟨"NestedFoci$Difference", "findWithin", "(LNestedFoci$Thing;LNestedFoci$Thing;II)V"⟩, 2) := ⟨⟨by decide +kernel, by decide +kernel⟩, List.mem_of_getElem? (i := 131) (by decide +kernel), List.mem_of_getElem? (i := 742) (by decide +kernel), List.mem_of_getElem? (i := 743) (by decide +kernel)⟩
theorem lw_p25 : lw_okq (⟨"NestedFoci$Difference", "add", "(I)V"⟩, 2) := ⟨⟨by decide +kernel, by decide +kernel⟩, List.mem_of_getElem? (i := 131) (by decide +kernel), List.mem_of_getElem? (i := 751) (by decide +kernel), List.mem_of_getElem? (i := 752) (by decide +kernel)⟩
theorem lw_p26 : lw_okq (⟨"NestedFoci", "allNodes", "()I"⟩, 12) := ⟨⟨by decide +kernel, by decide +kernel⟩, List.mem_of_getElem? (i := 17) (by decide +kernel), List.mem_of_getElem? (i := 778) (by decide +kernel), List.mem_of_getElem? (i := 779) (by decide +kernel)⟩
theorem lw_p27 : lw_okq (⟨"NestedFociModel", "number", "(I)I"⟩, 41) := ⟨⟨by decide +kernel, by decide +kernel⟩, List.mem_of_getElem? (i := 798) (by decide +kernel), List.mem_of_getElem? (i := 805) (by decide +kernel), List.mem_of_getElem? (i := 806) (by decide +kernel)⟩
theorem lw_p28 : lw_okq (⟨"NestedFociModel", "begins", "(III)I"⟩, 41) := ⟨⟨by decide +kernel, by decide +kernel⟩, List.mem_of_getElem? (i := 798) (by decide +kernel), List.mem_of_getElem? (i := 809) (by decide +kernel), List.mem_of_getElem? (i := 810) (by decide +kernel)⟩
theorem lw_p29 : lw_okq (⟨"NestedFociModel", "ends", "(I)I"⟩, 41) := ⟨⟨by decide +kernel, by decide +kernel⟩, List.mem_of_getElem? (i := 798) (by decide +kernel), List.mem_of_getElem? (i := 813) (by decide +kernel), List.mem_of_getElem? (i := 814) (by decide +kernel)⟩
theorem lw_p30 : lw_okq (⟨"NestedFociModel", "reads", "(I)I"⟩, 41) := ⟨⟨by decide +kernel, by decide +kernel⟩, List.mem_of_getElem? (i := 798) (by decide +kernel), List.mem_of_getElem? (i := 955) (by decide +kernel), List.mem_of_getElem? (i := 956) (by decide +kernel)⟩
theorem lw_p31 : lw_okq (⟨"NestedFociModel", "here", "()I"⟩, 41) := ⟨⟨by decide +kernel, by decide +kernel⟩, List.mem_of_getElem? (i := 798) (by decide +kernel), List.mem_of_getElem? (i := 959) (by decide +kernel), List.mem_of_getElem? (i := 960) (by decide +kernel)⟩
def lw_privs_2 : List (MethodName × Nat) := [(⟨"NestedFoci$Changer", "make", "(II[LNestedFoci$Thing;LNestedFoci$Thing;)LNestedFoci$Thing;"⟩, 7), (⟨"NestedFoci$Changer", "mayMake", "()Z"⟩, 7), (⟨"NestedFoci$Changer", "changeOrder", "(LNestedFoci$Thing;)LNestedFoci$Thing;"⟩, 7), (⟨"NestedFoci$Changer", "makeAround", "(LNestedFoci$Thing;[LNestedFoci$Thing;)LNestedFoci$Thing;"⟩, 7), (⟨"NestedFoci", "focusAt", "(III)LNestedFoci$Thing;"⟩, 12), (⟨"NestedFoci$Foci", "findWithin", "(LNestedFoci$Thing;LNestedFoci$Path;II)V"⟩, 3), (⟨"NestedFoci$Foci", "add", "(LNestedFoci$Thing;)V"⟩, 3), (⟨"NestedFoci$Foci", "isLikeOneAhead", "(I)Z"⟩, 3), (⟨"NestedFoci$Difference", "findWithin", "(LNestedFoci$Thing;LNestedFoci$Thing;II)V"⟩, 2), (⟨"NestedFoci$Difference", "add", "(I)V"⟩, 2), (⟨"NestedFoci", "allNodes", "()I"⟩, 12), (⟨"NestedFociModel", "number", "(I)I"⟩, 41), (⟨"NestedFociModel", "begins", "(III)I"⟩, 41), (⟨"NestedFociModel", "ends", "(I)I"⟩, 41), (⟨"NestedFociModel", "reads", "(I)I"⟩, 41), (⟨"NestedFociModel", "here", "()I"⟩, 41)]
theorem lw_r2 : ∀ q ∈ lw_privs_2, lw_okq q := List.forall_mem_cons.mpr ⟨lw_p16, List.forall_mem_cons.mpr ⟨lw_p17, List.forall_mem_cons.mpr ⟨lw_p18, List.forall_mem_cons.mpr ⟨lw_p19, List.forall_mem_cons.mpr ⟨lw_p20, List.forall_mem_cons.mpr ⟨lw_p21, List.forall_mem_cons.mpr ⟨lw_p22, List.forall_mem_cons.mpr ⟨lw_p23, List.forall_mem_cons.mpr ⟨lw_p24, List.forall_mem_cons.mpr ⟨lw_p25, List.forall_mem_cons.mpr ⟨lw_p26, List.forall_mem_cons.mpr ⟨lw_p27, List.forall_mem_cons.mpr ⟨lw_p28, List.forall_mem_cons.mpr ⟨lw_p29, List.forall_mem_cons.mpr ⟨lw_p30, List.forall_mem_cons.mpr ⟨lw_p31, fun _ h => absurd h List.not_mem_nil⟩⟩⟩⟩⟩⟩⟩⟩⟩⟩⟩⟩⟩⟩⟩⟩
theorem lw_p32 : lw_okq (⟨"NestedFociModel", "isFault", "()Z"⟩, 41) := ⟨⟨by decide +kernel, by decide +kernel⟩, List.mem_of_getElem? (i := 798) (by decide +kernel), List.mem_of_getElem? (i := 963) (by decide +kernel), List.mem_of_getElem? (i := 964) (by decide +kernel)⟩
theorem lw_p33 : lw_okq (⟨"NestedFociModel", "fails", "(I)V"⟩, 41) := ⟨⟨by decide +kernel, by decide +kernel⟩, List.mem_of_getElem? (i := 798) (by decide +kernel), List.mem_of_getElem? (i := 967) (by decide +kernel), List.mem_of_getElem? (i := 968) (by decide +kernel)⟩
theorem lw_p34 : lw_okq (⟨"NestedFociModel", "adds", "(III)V"⟩, 41) := ⟨⟨by decide +kernel, by decide +kernel⟩, List.mem_of_getElem? (i := 798) (by decide +kernel), List.mem_of_getElem? (i := 971) (by decide +kernel), List.mem_of_getElem? (i := 972) (by decide +kernel)⟩
theorem lw_p35 : lw_okq (⟨"NestedFociModel", "one", "(II)I"⟩, 41) := ⟨⟨by decide +kernel, by decide +kernel⟩, List.mem_of_getElem? (i := 798) (by decide +kernel), List.mem_of_getElem? (i := 975) (by decide +kernel), List.mem_of_getElem? (i := 976) (by decide +kernel)⟩
theorem lw_p36 : lw_okq (⟨"NestedFociModel", "readsAll", "(III)V"⟩, 41) := ⟨⟨by decide +kernel, by decide +kernel⟩, List.mem_of_getElem? (i := 798) (by decide +kernel), List.mem_of_getElem? (i := 979) (by decide +kernel), List.mem_of_getElem? (i := 980) (by decide +kernel)⟩
theorem lw_p37 : lw_okq (⟨"NestedFociModel", "isHere", "(I)Z"⟩, 41) := ⟨⟨by decide +kernel, by decide +kernel⟩, List.mem_of_getElem? (i := 798) (by decide +kernel), List.mem_of_getElem? (i := 983) (by decide +kernel), List.mem_of_getElem? (i := 984) (by decide +kernel)⟩
theorem lw_p38 : lw_okq (⟨"NestedFociModel", "readsEntry", "(II)I"⟩, 41) := ⟨⟨by decide +kernel, by decide +kernel⟩, List.mem_of_getElem? (i := 798) (by decide +kernel), List.mem_of_getElem? (i := 987) (by decide +kernel), List.mem_of_getElem? (i := 988) (by decide +kernel)⟩
theorem lw_p39 : lw_okq (⟨"NestedFociModel", "letters", "()I"⟩, 41) := ⟨⟨by decide +kernel, by decide +kernel⟩, List.mem_of_getElem? (i := 798) (by decide +kernel), List.mem_of_getElem? (i := 991) (by decide +kernel), List.mem_of_getElem? (i := 992) (by decide +kernel)⟩
theorem lw_p40 : lw_okq (⟨"NestedFociModel", "hasKey", "(II)Z"⟩, 41) := ⟨⟨by decide +kernel, by decide +kernel⟩, List.mem_of_getElem? (i := 798) (by decide +kernel), List.mem_of_getElem? (i := 995) (by decide +kernel), List.mem_of_getElem? (i := 996) (by decide +kernel)⟩
theorem lw_p41 : lw_okq (⟨"NestedFociModel", "puts", "(III)V"⟩, 41) := ⟨⟨by decide +kernel, by decide +kernel⟩, List.mem_of_getElem? (i := 798) (by decide +kernel), List.mem_of_getElem? (i := 999) (by decide +kernel), List.mem_of_getElem? (i := 1000) (by decide +kernel)⟩
theorem lw_p42 : lw_okq (⟨"NestedFociModel", "signed", "()I"⟩, 41) := ⟨⟨by decide +kernel, by decide +kernel⟩, List.mem_of_getElem? (i := 798) (by decide +kernel), List.mem_of_getElem? (i := 1003) (by decide +kernel), List.mem_of_getElem? (i := 1004) (by decide +kernel)⟩
theorem lw_p43 : lw_okq (⟨"NestedFociModel", "digits", "(I)I"⟩, 41) := ⟨⟨by decide +kernel, by decide +kernel⟩, List.mem_of_getElem? (i := 798) (by decide +kernel), List.mem_of_getElem? (i := 1007) (by decide +kernel), List.mem_of_getElem? (i := 1008) (by decide +kernel)⟩
theorem lw_p44 : lw_okq (⟨"NestedFociModel", "becomes", "(II)V"⟩, 41) := ⟨⟨by decide +kernel, by decide +kernel⟩, List.mem_of_getElem? (i := 798) (by decide +kernel), List.mem_of_getElem? (i := 1011) (by decide +kernel), List.mem_of_getElem? (i := 1012) (by decide +kernel)⟩
theorem lw_p45 : lw_okq (⟨"NestedFociModel", "readsStep", "()V"⟩, 41) := ⟨⟨by decide +kernel, by decide +kernel⟩, List.mem_of_getElem? (i := 798) (by decide +kernel), List.mem_of_getElem? (i := 1022) (by decide +kernel), List.mem_of_getElem? (i := 1023) (by decide +kernel)⟩
theorem lw_p46 : lw_okq (⟨"NestedFociModel", "comesOf", "(IIII)I"⟩, 41) := ⟨⟨by decide +kernel, by decide +kernel⟩, List.mem_of_getElem? (i := 798) (by decide +kernel), List.mem_of_getElem? (i := 1034) (by decide +kernel), List.mem_of_getElem? (i := 1035) (by decide +kernel)⟩
theorem lw_p47 : lw_okq (⟨"NestedFociModel", "goesOver", "(II)I"⟩, 41) := ⟨⟨by decide +kernel, by decide +kernel⟩, List.mem_of_getElem? (i := 798) (by decide +kernel), List.mem_of_getElem? (i := 1038) (by decide +kernel), List.mem_of_getElem? (i := 1039) (by decide +kernel)⟩
def lw_privs_3 : List (MethodName × Nat) := [(⟨"NestedFociModel", "isFault", "()Z"⟩, 41), (⟨"NestedFociModel", "fails", "(I)V"⟩, 41), (⟨"NestedFociModel", "adds", "(III)V"⟩, 41), (⟨"NestedFociModel", "one", "(II)I"⟩, 41), (⟨"NestedFociModel", "readsAll", "(III)V"⟩, 41), (⟨"NestedFociModel", "isHere", "(I)Z"⟩, 41), (⟨"NestedFociModel", "readsEntry", "(II)I"⟩, 41), (⟨"NestedFociModel", "letters", "()I"⟩, 41), (⟨"NestedFociModel", "hasKey", "(II)Z"⟩, 41), (⟨"NestedFociModel", "puts", "(III)V"⟩, 41), (⟨"NestedFociModel", "signed", "()I"⟩, 41), (⟨"NestedFociModel", "digits", "(I)I"⟩, 41), (⟨"NestedFociModel", "becomes", "(II)V"⟩, 41), (⟨"NestedFociModel", "readsStep", "()V"⟩, 41), (⟨"NestedFociModel", "comesOf", "(IIII)I"⟩, 41), (⟨"NestedFociModel", "goesOver", "(II)I"⟩, 41)]
theorem lw_r3 : ∀ q ∈ lw_privs_3, lw_okq q := List.forall_mem_cons.mpr ⟨lw_p32, List.forall_mem_cons.mpr ⟨lw_p33, List.forall_mem_cons.mpr ⟨lw_p34, List.forall_mem_cons.mpr ⟨lw_p35, List.forall_mem_cons.mpr ⟨lw_p36, List.forall_mem_cons.mpr ⟨lw_p37, List.forall_mem_cons.mpr ⟨lw_p38, List.forall_mem_cons.mpr ⟨lw_p39, List.forall_mem_cons.mpr ⟨lw_p40, List.forall_mem_cons.mpr ⟨lw_p41, List.forall_mem_cons.mpr ⟨lw_p42, List.forall_mem_cons.mpr ⟨lw_p43, List.forall_mem_cons.mpr ⟨lw_p44, List.forall_mem_cons.mpr ⟨lw_p45, List.forall_mem_cons.mpr ⟨lw_p46, List.forall_mem_cons.mpr ⟨lw_p47, fun _ h => absurd h List.not_mem_nil⟩⟩⟩⟩⟩⟩⟩⟩⟩⟩⟩⟩⟩⟩⟩⟩
theorem lw_p48 : lw_okq (⟨"NestedFociModel", "became", "(I)I"⟩, 41) := ⟨⟨by decide +kernel, by decide +kernel⟩, List.mem_of_getElem? (i := 798) (by decide +kernel), List.mem_of_getElem? (i := 1042) (by decide +kernel), List.mem_of_getElem? (i := 1043) (by decide +kernel)⟩
theorem lw_p49 : lw_okq (⟨"NestedFociModel", "numbered", "(I)I"⟩, 41) := ⟨⟨by decide +kernel, by decide +kernel⟩, List.mem_of_getElem? (i := 798) (by decide +kernel), List.mem_of_getElem? (i := 1046) (by decide +kernel), List.mem_of_getElem? (i := 1047) (by decide +kernel)⟩
theorem lw_p50 : lw_okq (⟨"NestedFociModel", "makes", "()Z"⟩, 41) := ⟨⟨by decide +kernel, by decide +kernel⟩, List.mem_of_getElem? (i := 798) (by decide +kernel), List.mem_of_getElem? (i := 1050) (by decide +kernel), List.mem_of_getElem? (i := 1051) (by decide +kernel)⟩
theorem lw_p51 : lw_okq (⟨"NestedFociModel", "around", "(III)I"⟩, 41) := ⟨⟨by decide +kernel, by decide +kernel⟩, List.mem_of_getElem? (i := 798) (by decide +kernel), List.mem_of_getElem? (i := 1054) (by decide +kernel), List.mem_of_getElem? (i := 1055) (by decide +kernel)⟩
theorem lw_p52 : lw_okq (⟨"NestedFociModel", "changed", "(I)I"⟩, 41) := ⟨⟨by decide +kernel, by decide +kernel⟩, List.mem_of_getElem? (i := 798) (by decide +kernel), List.mem_of_getElem? (i := 1058) (by decide +kernel), List.mem_of_getElem? (i := 1059) (by decide +kernel)⟩
theorem lw_p53 : lw_okq (⟨"NestedFociModel", "copyOf", "(I)I"⟩, 41) := ⟨⟨by decide +kernel, by decide +kernel⟩, List.mem_of_getElem? (i := 798) (by decide +kernel), List.mem_of_getElem? (i := 1062) (by decide +kernel), List.mem_of_getElem? (i := 1063) (by decide +kernel)⟩
theorem lw_p54 : lw_okq (⟨"NestedFociModel", "compared", "(II)I"⟩, 41) := ⟨⟨by decide +kernel, by decide +kernel⟩, List.mem_of_getElem? (i := 798) (by decide +kernel), List.mem_of_getElem? (i := 1066) (by decide +kernel), List.mem_of_getElem? (i := 1067) (by decide +kernel)⟩
theorem lw_p55 : lw_okq (⟨"NestedFociModel", "isItself", "(II)Z"⟩, 41) := ⟨⟨by decide +kernel, by decide +kernel⟩, List.mem_of_getElem? (i := 798) (by decide +kernel), List.mem_of_getElem? (i := 1070) (by decide +kernel), List.mem_of_getElem? (i := 1071) (by decide +kernel)⟩
theorem lw_p56 : lw_okq (⟨"NestedFociModel", "isPart", "(III)Z"⟩, 41) := ⟨⟨by decide +kernel, by decide +kernel⟩, List.mem_of_getElem? (i := 798) (by decide +kernel), List.mem_of_getElem? (i := 1074) (by decide +kernel), List.mem_of_getElem? (i := 1075) (by decide +kernel)⟩
theorem lw_p57 : lw_okq (⟨"NestedFociModel", "nextStep", "(I)I"⟩, 41) := ⟨⟨by decide +kernel, by decide +kernel⟩, List.mem_of_getElem? (i := 798) (by decide +kernel), List.mem_of_getElem? (i := 1078) (by decide +kernel), List.mem_of_getElem? (i := 1079) (by decide +kernel)⟩
theorem lw_p58 : lw_okq (⟨"NestedFociModel", "isFull", "(I)Z"⟩, 41) := ⟨⟨by decide +kernel, by decide +kernel⟩, List.mem_of_getElem? (i := 798) (by decide +kernel), List.mem_of_getElem? (i := 1082) (by decide +kernel), List.mem_of_getElem? (i := 1083) (by decide +kernel)⟩
theorem lw_p59 : lw_okq (⟨"NestedFociModel", "looksFor", "(II)V"⟩, 41) := ⟨⟨by decide +kernel, by decide +kernel⟩, List.mem_of_getElem? (i := 798) (by decide +kernel), List.mem_of_getElem? (i := 1094) (by decide +kernel), List.mem_of_getElem? (i := 1095) (by decide +kernel)⟩
theorem lw_p60 : lw_okq (⟨"NestedFociModel", "goes", "(II)V"⟩, 41) := ⟨⟨by decide +kernel, by decide +kernel⟩, List.mem_of_getElem? (i := 798) (by decide +kernel), List.mem_of_getElem? (i := 1098) (by decide +kernel), List.mem_of_getElem? (i := 1099) (by decide +kernel)⟩
theorem lw_p61 : lw_okq (⟨"NestedFociModel", "focusOf", "(III)I"⟩, 41) := ⟨⟨by decide +kernel, by decide +kernel⟩, List.mem_of_getElem? (i := 798) (by decide +kernel), List.mem_of_getElem? (i := 1110) (by decide +kernel), List.mem_of_getElem? (i := 1111) (by decide +kernel)⟩
theorem lw_p62 : lw_okq (⟨"NestedFociModel", "sumOf", "(I)J"⟩, 41) := ⟨⟨by decide +kernel, by decide +kernel⟩, List.mem_of_getElem? (i := 798) (by decide +kernel), List.mem_of_getElem? (i := 1123) (by decide +kernel), List.mem_of_getElem? (i := 1124) (by decide +kernel)⟩
theorem lw_p63 : lw_okq (⟨"NestedFociModel", "isNew", "(I)Z"⟩, 41) := ⟨⟨by decide +kernel, by decide +kernel⟩, List.mem_of_getElem? (i := 798) (by decide +kernel), List.mem_of_getElem? (i := 1127) (by decide +kernel), List.mem_of_getElem? (i := 1128) (by decide +kernel)⟩
def lw_privs_4 : List (MethodName × Nat) := [(⟨"NestedFociModel", "became", "(I)I"⟩, 41), (⟨"NestedFociModel", "numbered", "(I)I"⟩, 41), (⟨"NestedFociModel", "makes", "()Z"⟩, 41), (⟨"NestedFociModel", "around", "(III)I"⟩, 41), (⟨"NestedFociModel", "changed", "(I)I"⟩, 41), (⟨"NestedFociModel", "copyOf", "(I)I"⟩, 41), (⟨"NestedFociModel", "compared", "(II)I"⟩, 41), (⟨"NestedFociModel", "isItself", "(II)Z"⟩, 41), (⟨"NestedFociModel", "isPart", "(III)Z"⟩, 41), (⟨"NestedFociModel", "nextStep", "(I)I"⟩, 41), (⟨"NestedFociModel", "isFull", "(I)Z"⟩, 41), (⟨"NestedFociModel", "looksFor", "(II)V"⟩, 41), (⟨"NestedFociModel", "goes", "(II)V"⟩, 41), (⟨"NestedFociModel", "focusOf", "(III)I"⟩, 41), (⟨"NestedFociModel", "sumOf", "(I)J"⟩, 41), (⟨"NestedFociModel", "isNew", "(I)Z"⟩, 41)]
theorem lw_r4 : ∀ q ∈ lw_privs_4, lw_okq q := List.forall_mem_cons.mpr ⟨lw_p48, List.forall_mem_cons.mpr ⟨lw_p49, List.forall_mem_cons.mpr ⟨lw_p50, List.forall_mem_cons.mpr ⟨lw_p51, List.forall_mem_cons.mpr ⟨lw_p52, List.forall_mem_cons.mpr ⟨lw_p53, List.forall_mem_cons.mpr ⟨lw_p54, List.forall_mem_cons.mpr ⟨lw_p55, List.forall_mem_cons.mpr ⟨lw_p56, List.forall_mem_cons.mpr ⟨lw_p57, List.forall_mem_cons.mpr ⟨lw_p58, List.forall_mem_cons.mpr ⟨lw_p59, List.forall_mem_cons.mpr ⟨lw_p60, List.forall_mem_cons.mpr ⟨lw_p61, List.forall_mem_cons.mpr ⟨lw_p62, List.forall_mem_cons.mpr ⟨lw_p63, fun _ h => absurd h List.not_mem_nil⟩⟩⟩⟩⟩⟩⟩⟩⟩⟩⟩⟩⟩⟩⟩⟩
theorem lw_p64 : lw_okq (⟨"NestedFociModel", "orderedBy", "(III)I"⟩, 41) := ⟨⟨by decide +kernel, by decide +kernel⟩, List.mem_of_getElem? (i := 798) (by decide +kernel), List.mem_of_getElem? (i := 1135) (by decide +kernel), List.mem_of_getElem? (i := 1136) (by decide +kernel)⟩
theorem lw_p65 : lw_okq (⟨"NestedFociModel", "marks", "(I)V"⟩, 41) := ⟨⟨by decide +kernel, by decide +kernel⟩, List.mem_of_getElem? (i := 798) (by decide +kernel), List.mem_of_getElem? (i := 1147) (by decide +kernel), List.mem_of_getElem? (i := 1148) (by decide +kernel)⟩
theorem lw_p66 : lw_okq (⟨"NestedFociModel", "sharedIn", "(I)I"⟩, 41) := ⟨⟨by decide +kernel, by decide +kernel⟩, List.mem_of_getElem? (i := 798) (by decide +kernel), List.mem_of_getElem? (i := 1151) (by decide +kernel), List.mem_of_getElem? (i := 1152) (by decide +kernel)⟩
theorem lw_p67 : lw_okq (⟨"NestedFociModel", "differsIn", "(III)V"⟩, 41) := ⟨⟨by decide +kernel, by decide +kernel⟩, List.mem_of_getElem? (i := 798) (by decide +kernel), List.mem_of_getElem? (i := 1159) (by decide +kernel), List.mem_of_getElem? (i := 1160) (by decide +kernel)⟩
theorem lw_p68 : lw_okq (⟨"NestedFociModel", "isLikeBuilt", "(II)Z"⟩, 41) := ⟨⟨by decide +kernel, by decide +kernel⟩, List.mem_of_getElem? (i := 798) (by decide +kernel), List.mem_of_getElem? (i := 1163) (by decide +kernel), List.mem_of_getElem? (i := 1164) (by decide +kernel)⟩
theorem lw_p69 : lw_okq (⟨"NestedFociModel", "allNodes", "()I"⟩, 41) := ⟨⟨by decide +kernel, by decide +kernel⟩, List.mem_of_getElem? (i := 798) (by decide +kernel), List.mem_of_getElem? (i := 1175) (by decide +kernel), List.mem_of_getElem? (i := 1176) (by decide +kernel)⟩
def lw_privs_5 : List (MethodName × Nat) := [(⟨"NestedFociModel", "orderedBy", "(III)I"⟩, 41), (⟨"NestedFociModel", "marks", "(I)V"⟩, 41), (⟨"NestedFociModel", "sharedIn", "(I)I"⟩, 41), (⟨"NestedFociModel", "differsIn", "(III)V"⟩, 41), (⟨"NestedFociModel", "isLikeBuilt", "(II)Z"⟩, 41), (⟨"NestedFociModel", "allNodes", "()I"⟩, 41)]
theorem lw_r5 : ∀ q ∈ lw_privs_5, lw_okq q := List.forall_mem_cons.mpr ⟨lw_p64, List.forall_mem_cons.mpr ⟨lw_p65, List.forall_mem_cons.mpr ⟨lw_p66, List.forall_mem_cons.mpr ⟨lw_p67, List.forall_mem_cons.mpr ⟨lw_p68, List.forall_mem_cons.mpr ⟨lw_p69, fun _ h => absurd h List.not_mem_nil⟩⟩⟩⟩⟩⟩
def lw_privs : List (MethodName × Nat) := lw_privs_1 ++ (lw_privs_2 ++ (lw_privs_3 ++ (lw_privs_4 ++ (lw_privs_5))))
def lw_tbl : List Cond := k2_sels lw_privs ++ tables_1
theorem lw_privs_ok : ∀ q ∈ lw_privs, lw_okq q := by
  show ∀ q ∈ lw_privs_1 ++ (lw_privs_2 ++ (lw_privs_3 ++ (lw_privs_4 ++ (lw_privs_5)))), lw_okq q
  exact List.forall_mem_append.mpr ⟨lw_r1, List.forall_mem_append.mpr ⟨lw_r2, List.forall_mem_append.mpr ⟨lw_r3, List.forall_mem_append.mpr ⟨lw_r4, lw_r5⟩⟩⟩⟩
/-! ===== names: classes, fields, methods (out of claim/NAMES.whole.lean.txt) ===== -/
def RX0 : String := "NestedFoci$Changer"
def TX0 : u_T := fun k => match k with
  | 0 => ("NestedFoci$Changer", "made", "LNestedFoci$Tally;", true)
  | 1 => ("NestedFoci$Changer", "path", "LNestedFoci$Path;", false)
  | 2 => ("NestedFoci$Changer", "how", "I", false)
  | 3 => ("NestedFoci$Changer", "n", "I", false)
  | 4 => ("NestedFoci$Changer", "given", "LNestedFoci$Thing;", false)
  | 5 => ("NestedFoci$Changer", "focusCount", "I", false)
  | _ => ("NestedFoci$Changer", "isSpent", "Z", false)
def tyX0 : Nat → FieldType := fun k => match k with
  | 0 => .object "NestedFoci$Tally"
  | 1 => .object "NestedFoci$Path"
  | 2 => .int
  | 3 => .int
  | 4 => .object "NestedFoci$Thing"
  | 5 => .int
  | _ => .boolean
abbrev wsX00 : List Cond := u_ws RX0 TX0 7
theorem nmX0 : ∀ a, a < 7 → ∀ b, b < 7 → a ≠ b → (TX0 a).2.1 ≠ (TX0 b).2.1 := by decide +kernel
theorem tyX0_ok : ∀ k, k < 7 → parseFieldDescriptor (TX0 k).2.2.1 = some (tyX0 k) := by decide +kernel
abbrev cX0_init : ByteArray := prog_2_method_1_code
def yX0_init : MethodName := ⟨RX0, "<init>", "(LNestedFoci$Tally;)V"⟩
abbrev cX0_change : ByteArray := prog_2_method_2_code
def yX0_change : MethodName := ⟨RX0, "change", "(LNestedFoci$Thing;LNestedFoci$Path;IILNestedFoci$Thing;)LNestedFoci$Thing;"⟩
abbrev cX0_focusCount : ByteArray := prog_2_method_3_code
def yX0_focusCount : MethodName := ⟨RX0, "focusCount", "()I"⟩
abbrev cX0_changeWithin : ByteArray := prog_2_method_4_code
def yX0_changeWithin : MethodName := ⟨RX0, "changeWithin", "(LNestedFoci$Thing;II)LNestedFoci$Thing;"⟩
abbrev cX0_changeFocus : ByteArray := prog_2_method_5_code
def yX0_changeFocus : MethodName := ⟨RX0, "changeFocus", "(LNestedFoci$Thing;)LNestedFoci$Thing;"⟩
abbrev cX0_changeOrder : ByteArray := prog_2_method_6_code
def yX0_changeOrder : MethodName := ⟨RX0, "changeOrder", "(LNestedFoci$Thing;)LNestedFoci$Thing;"⟩
abbrev cX0_makeNumberOf : ByteArray := prog_2_method_7_code
def yX0_makeNumberOf : MethodName := ⟨RX0, "makeNumberOf", "(LNestedFoci$Thing;I)LNestedFoci$Thing;"⟩
abbrev cX0_make : ByteArray := prog_2_method_8_code
def yX0_make : MethodName := ⟨RX0, "make", "(II[LNestedFoci$Thing;LNestedFoci$Thing;)LNestedFoci$Thing;"⟩
abbrev cX0_makeAround : ByteArray := prog_2_method_9_code
def yX0_makeAround : MethodName := ⟨RX0, "makeAround", "(LNestedFoci$Thing;[LNestedFoci$Thing;)LNestedFoci$Thing;"⟩
abbrev cX0_mayMake : ByteArray := prog_2_method_10_code
def yX0_mayMake : MethodName := ⟨RX0, "mayMake", "()Z"⟩
abbrev cX0_justOne : ByteArray := prog_2_method_11_code
def yX0_justOne : MethodName := ⟨RX0, "justOne", "(LNestedFoci$Thing;)[LNestedFoci$Thing;"⟩
abbrev cX0_reversed : ByteArray := prog_2_method_12_code
def yX0_reversed : MethodName := ⟨RX0, "reversed", "(LNestedFoci$Thing;)[LNestedFoci$Thing;"⟩
abbrev cX0_turned : ByteArray := prog_2_method_13_code
def yX0_turned : MethodName := ⟨RX0, "turned", "(LNestedFoci$Thing;)[LNestedFoci$Thing;"⟩
abbrev cX0_sorted : ByteArray := prog_2_method_14_code
def yX0_sorted : MethodName := ⟨RX0, "sorted", "(LNestedFoci$Thing;)[LNestedFoci$Thing;"⟩
def RX1 : String := "NestedFoci$Difference"
def TX1 : u_T := fun k => match k with
  | 0 => ("NestedFoci$Difference", "places", "[I", true)
  | _ => ("NestedFoci$Difference", "size", "I", false)
def tyX1 : Nat → FieldType := fun k => match k with
  | 0 => .array .int
  | _ => .int
abbrev wsX10 : List Cond := u_ws RX1 TX1 2
theorem nmX1 : ∀ a, a < 2 → ∀ b, b < 2 → a ≠ b → (TX1 a).2.1 ≠ (TX1 b).2.1 := by decide +kernel
theorem tyX1_ok : ∀ k, k < 2 → parseFieldDescriptor (TX1 k).2.2.1 = some (tyX1 k) := by decide +kernel
abbrev cX1_init : ByteArray := prog_3_method_1_code
def yX1_init : MethodName := ⟨RX1, "<init>", "()V"⟩
abbrev cX1_find : ByteArray := prog_3_method_2_code
def yX1_find : MethodName := ⟨RX1, "find", "(LNestedFoci$Thing;LNestedFoci$Thing;)V"⟩
abbrev cX1_findWithin : ByteArray := prog_3_method_3_code
def yX1_findWithin : MethodName := ⟨RX1, "findWithin", "(LNestedFoci$Thing;LNestedFoci$Thing;II)V"⟩
abbrev cX1_add : ByteArray := prog_3_method_4_code
def yX1_add : MethodName := ⟨RX1, "add", "(I)V"⟩
abbrev cX1_size : ByteArray := prog_3_method_5_code
def yX1_size : MethodName := ⟨RX1, "size", "()I"⟩
abbrev cX1_place : ByteArray := prog_3_method_6_code
def yX1_place : MethodName := ⟨RX1, "place", "(I)I"⟩
def RX2 : String := "NestedFoci$Foci"
def TX2 : u_T := fun k => match k with
  | 0 => ("NestedFoci$Foci", "found", "[LNestedFoci$Thing;", true)
  | 1 => ("NestedFoci$Foci", "places", "[I", true)
  | _ => ("NestedFoci$Foci", "size", "I", false)
def tyX2 : Nat → FieldType := fun k => match k with
  | 0 => .array (.object "NestedFoci$Thing")
  | 1 => .array .int
  | _ => .int
abbrev wsX20 : List Cond := u_ws RX2 TX2 3
theorem nmX2 : ∀ a, a < 3 → ∀ b, b < 3 → a ≠ b → (TX2 a).2.1 ≠ (TX2 b).2.1 := by decide +kernel
theorem tyX2_ok : ∀ k, k < 3 → parseFieldDescriptor (TX2 k).2.2.1 = some (tyX2 k) := by decide +kernel
abbrev cX2_init : ByteArray := prog_4_method_1_code
def yX2_init : MethodName := ⟨RX2, "<init>", "()V"⟩
abbrev cX2_find : ByteArray := prog_4_method_2_code
def yX2_find : MethodName := ⟨RX2, "find", "(LNestedFoci$Thing;LNestedFoci$Path;)V"⟩
abbrev cX2_findWithin : ByteArray := prog_4_method_3_code
def yX2_findWithin : MethodName := ⟨RX2, "findWithin", "(LNestedFoci$Thing;LNestedFoci$Path;II)V"⟩
abbrev cX2_add : ByteArray := prog_4_method_4_code
def yX2_add : MethodName := ⟨RX2, "add", "(LNestedFoci$Thing;)V"⟩
abbrev cX2_size : ByteArray := prog_4_method_5_code
def yX2_size : MethodName := ⟨RX2, "size", "()I"⟩
abbrev cX2_isEmpty : ByteArray := prog_4_method_6_code
def yX2_isEmpty : MethodName := ⟨RX2, "isEmpty", "()Z"⟩
abbrev cX2_at : ByteArray := prog_4_method_7_code
def yX2_at : MethodName := ⟨RX2, "at", "(I)LNestedFoci$Thing;"⟩
abbrev cX2_sum : ByteArray := prog_4_method_8_code
def yX2_sum : MethodName := ⟨RX2, "sum", "()J"⟩
abbrev cX2_numbersWithin : ByteArray := prog_4_method_9_code
def yX2_numbersWithin : MethodName := ⟨RX2, "numbersWithin", "(LNestedFoci$Thing;I)J"⟩
abbrev cX2_greatest : ByteArray := prog_4_method_10_code
def yX2_greatest : MethodName := ⟨RX2, "greatest", "()I"⟩
abbrev cX2_least : ByteArray := prog_4_method_11_code
def yX2_least : MethodName := ⟨RX2, "least", "()I"⟩
abbrev cX2_unlike : ByteArray := prog_4_method_12_code
def yX2_unlike : MethodName := ⟨RX2, "unlike", "()I"⟩
abbrev cX2_isLikeOneAhead : ByteArray := prog_4_method_13_code
def yX2_isLikeOneAhead : MethodName := ⟨RX2, "isLikeOneAhead", "(I)Z"⟩
abbrev cX2_height : ByteArray := prog_4_method_14_code
def yX2_height : MethodName := ⟨RX2, "height", "()I"⟩
abbrev cX2_nodes : ByteArray := prog_4_method_15_code
def yX2_nodes : MethodName := ⟨RX2, "nodes", "()I"⟩
abbrev cX2_areAllAlike : ByteArray := prog_4_method_16_code
def yX2_areAllAlike : MethodName := ⟨RX2, "areAllAlike", "(LNestedFoci$Thing;)Z"⟩
abbrev cX2_sorted : ByteArray := prog_4_method_17_code
def yX2_sorted : MethodName := ⟨RX2, "sorted", "(II)I"⟩
abbrev cX2_isAhead : ByteArray := prog_4_method_18_code
def yX2_isAhead : MethodName := ⟨RX2, "isAhead", "(LNestedFoci$Thing;LNestedFoci$Thing;I)Z"⟩
def RX3 : String := "NestedFoci$Parts"
def TX3 : u_T := fun k => match k with
  | 0 => ("NestedFoci$Parts", "keys", "[I", true)
  | 1 => ("NestedFoci$Parts", "parts", "[LNestedFoci$Thing;", true)
  | _ => ("NestedFoci$Parts", "size", "I", false)
def tyX3 : Nat → FieldType := fun k => match k with
  | 0 => .array .int
  | 1 => .array (.object "NestedFoci$Thing")
  | _ => .int
abbrev wsX30 : List Cond := u_ws RX3 TX3 3
theorem nmX3 : ∀ a, a < 3 → ∀ b, b < 3 → a ≠ b → (TX3 a).2.1 ≠ (TX3 b).2.1 := by decide +kernel
theorem tyX3_ok : ∀ k, k < 3 → parseFieldDescriptor (TX3 k).2.2.1 = some (tyX3 k) := by decide +kernel
abbrev cX3_init : ByteArray := prog_5_method_1_code
def yX3_init : MethodName := ⟨RX3, "<init>", "()V"⟩
abbrev cX3_add : ByteArray := prog_5_method_2_code
def yX3_add : MethodName := ⟨RX3, "add", "(ILNestedFoci$Thing;)V"⟩
abbrev cX3_hasKey : ByteArray := prog_5_method_3_code
def yX3_hasKey : MethodName := ⟨RX3, "hasKey", "(I)Z"⟩
abbrev cX3_putByKey : ByteArray := prog_5_method_4_code
def yX3_putByKey : MethodName := ⟨RX3, "putByKey", "(ILNestedFoci$Thing;)V"⟩
abbrev cX3_together : ByteArray := prog_5_method_5_code
def yX3_together : MethodName := ⟨RX3, "together", "(I)LNestedFoci$Thing;"⟩
abbrev cX3_placeOf : ByteArray := prog_5_method_6_code
def yX3_placeOf : MethodName := ⟨RX3, "placeOf", "(I)I"⟩
abbrev cX3_insert : ByteArray := prog_5_method_7_code
def yX3_insert : MethodName := ⟨RX3, "insert", "(IILNestedFoci$Thing;)V"⟩
def RX4 : String := "NestedFoci$Path"
def TX4 : u_T := fun k => match k with
  | 0 => ("NestedFoci$Path", "signs", "[I", true)
  | _ => ("NestedFoci$Path", "words", "[I", true)
def tyX4 : Nat → FieldType := fun k => match k with
  | 0 => .array .int
  | _ => .array .int
abbrev wsX40 : List Cond := u_ws RX4 TX4 2
theorem nmX4 : ∀ a, a < 2 → ∀ b, b < 2 → a ≠ b → (TX4 a).2.1 ≠ (TX4 b).2.1 := by decide +kernel
theorem tyX4_ok : ∀ k, k < 2 → parseFieldDescriptor (TX4 k).2.2.1 = some (tyX4 k) := by decide +kernel
abbrev cX4_init : ByteArray := prog_6_method_1_code
def yX4_init : MethodName := ⟨RX4, "<init>", "([I[I)V"⟩
abbrev cX4_size : ByteArray := prog_6_method_2_code
def yX4_size : MethodName := ⟨RX4, "size", "()I"⟩
abbrev cX4_goingOnBy : ByteArray := prog_6_method_3_code
def yX4_goingOnBy : MethodName := ⟨RX4, "goingOnBy", "(LNestedFoci$Path;)LNestedFoci$Path;"⟩
abbrev cX4_keeps : ByteArray := prog_6_method_4_code
def yX4_keeps : MethodName := ⟨RX4, "keeps", "(ILNestedFoci$Thing;)Z"⟩
abbrev cX4_enters : ByteArray := prog_6_method_5_code
def yX4_enters : MethodName := ⟨RX4, "enters", "(ILNestedFoci$Thing;I)Z"⟩
abbrev cX4_stepWithin : ByteArray := prog_6_method_6_code
def yX4_stepWithin : MethodName := ⟨RX4, "stepWithin", "(I)I"⟩
abbrev cX4_sign : ByteArray := prog_6_method_7_code
def yX4_sign : MethodName := ⟨RX4, "sign", "(I)I"⟩
abbrev cX4_word : ByteArray := prog_6_method_8_code
def yX4_word : MethodName := ⟨RX4, "word", "(I)I"⟩
def RX5 : String := "NestedFoci$PathReader"
def TX5 : u_T := fun k => match k with
  | 0 => ("NestedFoci$PathReader", "tape", "LNestedFoci$Tape;", true)
  | 1 => ("NestedFoci$PathReader", "signs", "[I", true)
  | _ => ("NestedFoci$PathReader", "words", "[I", true)
def tyX5 : Nat → FieldType := fun k => match k with
  | 0 => .object "NestedFoci$Tape"
  | 1 => .array .int
  | _ => .array .int
abbrev wsX50 : List Cond := u_ws RX5 TX5 3
theorem nmX5 : ∀ a, a < 3 → ∀ b, b < 3 → a ≠ b → (TX5 a).2.1 ≠ (TX5 b).2.1 := by decide +kernel
theorem tyX5_ok : ∀ k, k < 3 → parseFieldDescriptor (TX5 k).2.2.1 = some (tyX5 k) := by decide +kernel
abbrev cX5_init : ByteArray := prog_7_method_1_code
def yX5_init : MethodName := ⟨RX5, "<init>", "(LNestedFoci$Tape;)V"⟩
abbrev cX5_readWhole : ByteArray := prog_7_method_2_code
def yX5_readWhole : MethodName := ⟨RX5, "readWhole", "()LNestedFoci$Path;"⟩
abbrev cX5_readStep : ByteArray := prog_7_method_3_code
def yX5_readStep : MethodName := ⟨RX5, "readStep", "()I"⟩
abbrev cX5_readSide : ByteArray := prog_7_method_4_code
def yX5_readSide : MethodName := ⟨RX5, "readSide", "()I"⟩
abbrev cX5_closed : ByteArray := prog_7_method_5_code
def yX5_closed : MethodName := ⟨RX5, "closed", "(II)I"⟩
abbrev cX5_firstOf : ByteArray := prog_7_method_6_code
def yX5_firstOf : MethodName := ⟨RX5, "firstOf", "([II)[I"⟩
def RX6 : String := "NestedFoci$Shelf"
def TX6 : u_T := fun k => match k with
  | 0 => ("NestedFoci$Shelf", "old", "[LNestedFoci$Thing;", true)
  | 1 => ("NestedFoci$Shelf", "olds", "I", false)
  | _ => ("NestedFoci$Shelf", "held", "LNestedFoci$Thing;", false)
def tyX6 : Nat → FieldType := fun k => match k with
  | 0 => .array (.object "NestedFoci$Thing")
  | 1 => .int
  | _ => .object "NestedFoci$Thing"
abbrev wsX60 : List Cond := u_ws RX6 TX6 3
theorem nmX6 : ∀ a, a < 3 → ∀ b, b < 3 → a ≠ b → (TX6 a).2.1 ≠ (TX6 b).2.1 := by decide +kernel
theorem tyX6_ok : ∀ k, k < 3 → parseFieldDescriptor (TX6 k).2.2.1 = some (tyX6 k) := by decide +kernel
abbrev cX6_init : ByteArray := prog_8_method_1_code
def yX6_init : MethodName := ⟨RX6, "<init>", "(LNestedFoci$Thing;)V"⟩
abbrev cX6_held : ByteArray := prog_8_method_2_code
def yX6_held : MethodName := ⟨RX6, "held", "()LNestedFoci$Thing;"⟩
abbrev cX6_oldCount : ByteArray := prog_8_method_3_code
def yX6_oldCount : MethodName := ⟨RX6, "oldCount", "()I"⟩
abbrev cX6_become : ByteArray := prog_8_method_4_code
def yX6_become : MethodName := ⟨RX6, "become", "(LNestedFoci$Thing;)V"⟩
abbrev cX6_becomeLastOld : ByteArray := prog_8_method_5_code
def yX6_becomeLastOld : MethodName := ⟨RX6, "becomeLastOld", "()V"⟩
abbrev cX6_restart : ByteArray := prog_8_method_6_code
def yX6_restart : MethodName := ⟨RX6, "restart", "(LNestedFoci$Thing;)V"⟩
def RX7 : String := "NestedFoci$Tally"
def TX7 : u_T := fun k => match k with
  | _ => ("NestedFoci$Tally", "sum", "I", false)
def tyX7 : Nat → FieldType := fun k => match k with
  | _ => .int
abbrev wsX70 : List Cond := u_ws RX7 TX7 1
theorem nmX7 : ∀ a, a < 1 → ∀ b, b < 1 → a ≠ b → (TX7 a).2.1 ≠ (TX7 b).2.1 := by decide +kernel
theorem tyX7_ok : ∀ k, k < 1 → parseFieldDescriptor (TX7 k).2.2.1 = some (tyX7 k) := by decide +kernel
abbrev cX7_init : ByteArray := prog_9_method_1_code
def yX7_init : MethodName := ⟨RX7, "<init>", "()V"⟩
abbrev cX7_sum : ByteArray := prog_9_method_2_code
def yX7_sum : MethodName := ⟨RX7, "sum", "()I"⟩
abbrev cX7_hasRoomFor : ByteArray := prog_9_method_3_code
def yX7_hasRoomFor : MethodName := ⟨RX7, "hasRoomFor", "(I)Z"⟩
abbrev cX7_adds : ByteArray := prog_9_method_4_code
def yX7_adds : MethodName := ⟨RX7, "adds", "(I)Z"⟩
def RX8 : String := "NestedFoci$Tape"
def TX8 : u_T := fun k => match k with
  | 0 => ("NestedFoci$Tape", "bytes", "[I", true)
  | 1 => ("NestedFoci$Tape", "size", "I", false)
  | 2 => ("NestedFoci$Tape", "at", "I", false)
  | _ => ("NestedFoci$Tape", "fault", "I", false)
def tyX8 : Nat → FieldType := fun k => match k with
  | 0 => .array .int
  | 1 => .int
  | 2 => .int
  | _ => .int
abbrev wsX80 : List Cond := u_ws RX8 TX8 4
theorem nmX8 : ∀ a, a < 4 → ∀ b, b < 4 → a ≠ b → (TX8 a).2.1 ≠ (TX8 b).2.1 := by decide +kernel
theorem tyX8_ok : ∀ k, k < 4 → parseFieldDescriptor (TX8 k).2.2.1 = some (tyX8 k) := by decide +kernel
abbrev cX8_init : ByteArray := prog_10_method_1_code
def yX8_init : MethodName := ⟨RX8, "<init>", "()V"⟩
abbrev cX8_size : ByteArray := prog_10_method_2_code
def yX8_size : MethodName := ⟨RX8, "size", "()I"⟩
abbrev cX8_add : ByteArray := prog_10_method_3_code
def yX8_add : MethodName := ⟨RX8, "add", "(I)V"⟩
abbrev cX8_clear : ByteArray := prog_10_method_4_code
def yX8_clear : MethodName := ⟨RX8, "clear", "()V"⟩
abbrev cX8_rewind : ByteArray := prog_10_method_5_code
def yX8_rewind : MethodName := ⟨RX8, "rewind", "()V"⟩
abbrev cX8_at : ByteArray := prog_10_method_6_code
def yX8_at : MethodName := ⟨RX8, "at", "()I"⟩
abbrev cX8_fault : ByteArray := prog_10_method_7_code
def yX8_fault : MethodName := ⟨RX8, "fault", "()I"⟩
abbrev cX8_isFaulty : ByteArray := prog_10_method_8_code
def yX8_isFaulty : MethodName := ⟨RX8, "isFaulty", "()Z"⟩
abbrev cX8_isAtEnd : ByteArray := prog_10_method_9_code
def yX8_isAtEnd : MethodName := ⟨RX8, "isAtEnd", "()Z"⟩
abbrev cX8_fail : ByteArray := prog_10_method_10_code
def yX8_fail : MethodName := ⟨RX8, "fail", "(I)V"⟩
abbrev cX8_next : ByteArray := prog_10_method_11_code
def yX8_next : MethodName := ⟨RX8, "next", "()I"⟩
abbrev cX8_step : ByteArray := prog_10_method_12_code
def yX8_step : MethodName := ⟨RX8, "step", "()V"⟩
abbrev cX8_takes : ByteArray := prog_10_method_13_code
def yX8_takes : MethodName := ⟨RX8, "takes", "(I)Z"⟩
abbrev cX8_needs : ByteArray := prog_10_method_14_code
def yX8_needs : MethodName := ⟨RX8, "needs", "(I)V"⟩
abbrev cX8_digits : ByteArray := prog_10_method_15_code
def yX8_digits : MethodName := ⟨RX8, "digits", "(I)I"⟩
abbrev cX8_signedNumber : ByteArray := prog_10_method_16_code
def yX8_signedNumber : MethodName := ⟨RX8, "signedNumber", "()I"⟩
abbrev cX8_letters : ByteArray := prog_10_method_17_code
def yX8_letters : MethodName := ⟨RX8, "letters", "()I"⟩
def RX9 : String := "NestedFoci$Thing"
def TX9 : u_T := fun k => match k with
  | 0 => ("NestedFoci$Thing", "kind", "I", true)
  | 1 => ("NestedFoci$Thing", "word", "I", true)
  | 2 => ("NestedFoci$Thing", "nodes", "I", true)
  | 3 => ("NestedFoci$Thing", "height", "I", true)
  | 4 => ("NestedFoci$Thing", "keys", "[I", true)
  | _ => ("NestedFoci$Thing", "parts", "[LNestedFoci$Thing;", true)
def tyX9 : Nat → FieldType := fun k => match k with
  | 0 => .int
  | 1 => .int
  | 2 => .int
  | 3 => .int
  | 4 => .array .int
  | _ => .array (.object "NestedFoci$Thing")
abbrev wsX90 : List Cond := u_ws RX9 TX9 6
theorem nmX9 : ∀ a, a < 6 → ∀ b, b < 6 → a ≠ b → (TX9 a).2.1 ≠ (TX9 b).2.1 := by decide +kernel
theorem tyX9_ok : ∀ k, k < 6 → parseFieldDescriptor (TX9 k).2.2.1 = some (tyX9 k) := by decide +kernel
abbrev cX9_init : ByteArray := prog_11_method_1_code
def yX9_init : MethodName := ⟨RX9, "<init>", "(II[I[LNestedFoci$Thing;)V"⟩
abbrev cX9_size : ByteArray := prog_11_method_2_code
def yX9_size : MethodName := ⟨RX9, "size", "()I"⟩
abbrev cX9_part : ByteArray := prog_11_method_3_code
def yX9_part : MethodName := ⟨RX9, "part", "(I)LNestedFoci$Thing;"⟩
abbrev cX9_copyOfParts : ByteArray := prog_11_method_4_code
def yX9_copyOfParts : MethodName := ⟨RX9, "copyOfParts", "()[LNestedFoci$Thing;"⟩
abbrev cX9_letters : ByteArray := prog_11_method_5_code
def yX9_letters : MethodName := ⟨RX9, "letters", "(I)I"⟩
abbrev cX9_isTooMuch : ByteArray := prog_11_method_6_code
def yX9_isTooMuch : MethodName := ⟨RX9, "isTooMuch", "()Z"⟩
abbrev cX9_isFramedLike : ByteArray := prog_11_method_7_code
def yX9_isFramedLike : MethodName := ⟨RX9, "isFramedLike", "(LNestedFoci$Thing;)Z"⟩
abbrev cX9_areAlike : ByteArray := prog_11_method_8_code
def yX9_areAlike : MethodName := ⟨RX9, "areAlike", "(LNestedFoci$Thing;LNestedFoci$Thing;)Z"⟩
abbrev cX9_compare : ByteArray := prog_11_method_9_code
def yX9_compare : MethodName := ⟨RX9, "compare", "(LNestedFoci$Thing;LNestedFoci$Thing;I)I"⟩
abbrev cX9_holds : ByteArray := prog_11_method_10_code
def yX9_holds : MethodName := ⟨RX9, "holds", "(LNestedFoci$Thing;LNestedFoci$Thing;I)Z"⟩
def RX10 : String := "NestedFoci$ThingReader"
def TX10 : u_T := fun k => match k with
  | _ => ("NestedFoci$ThingReader", "tape", "LNestedFoci$Tape;", true)
def tyX10 : Nat → FieldType := fun k => match k with
  | _ => .object "NestedFoci$Tape"
abbrev wsX100 : List Cond := u_ws RX10 TX10 1
theorem nmX10 : ∀ a, a < 1 → ∀ b, b < 1 → a ≠ b → (TX10 a).2.1 ≠ (TX10 b).2.1 := by decide +kernel
theorem tyX10_ok : ∀ k, k < 1 → parseFieldDescriptor (TX10 k).2.2.1 = some (tyX10 k) := by decide +kernel
abbrev cX10_init : ByteArray := prog_12_method_1_code
def yX10_init : MethodName := ⟨RX10, "<init>", "(LNestedFoci$Tape;)V"⟩
abbrev cX10_readWhole : ByteArray := prog_12_method_2_code
def yX10_readWhole : MethodName := ⟨RX10, "readWhole", "()LNestedFoci$Thing;"⟩
abbrev cX10_readOne : ByteArray := prog_12_method_3_code
def yX10_readOne : MethodName := ⟨RX10, "readOne", "(I)LNestedFoci$Thing;"⟩
abbrev cX10_readPair : ByteArray := prog_12_method_4_code
def yX10_readPair : MethodName := ⟨RX10, "readPair", "(I)LNestedFoci$Thing;"⟩
abbrev cX10_readTagged : ByteArray := prog_12_method_5_code
def yX10_readTagged : MethodName := ⟨RX10, "readTagged", "(I)LNestedFoci$Thing;"⟩
abbrev cX10_readMany : ByteArray := prog_12_method_6_code
def yX10_readMany : MethodName := ⟨RX10, "readMany", "(III)LNestedFoci$Thing;"⟩
abbrev cX10_readNewKey : ByteArray := prog_12_method_7_code
def yX10_readNewKey : MethodName := ⟨RX10, "readNewKey", "(LNestedFoci$Parts;)I"⟩
def RX11 : String := "NestedFoci"
def TX11 : u_T := fun k => match k with
  | 0 => ("NestedFoci", "tape", "LNestedFoci$Tape;", true)
  | 1 => ("NestedFoci", "thingReader", "LNestedFoci$ThingReader;", true)
  | 2 => ("NestedFoci", "pathReader", "LNestedFoci$PathReader;", true)
  | 3 => ("NestedFoci", "shelves", "[LNestedFoci$Shelf;", true)
  | 4 => ("NestedFoci", "paths", "[LNestedFoci$Path;", true)
  | 5 => ("NestedFoci", "made", "LNestedFoci$Tally;", true)
  | 6 => ("NestedFoci", "changer", "LNestedFoci$Changer;", true)
  | 7 => ("NestedFoci", "foci", "LNestedFoci$Foci;", true)
  | 8 => ("NestedFoci", "difference", "LNestedFoci$Difference;", true)
  | 9 => ("NestedFoci", "keptThings", "[LNestedFoci$Thing;", true)
  | 10 => ("NestedFoci", "keptPaths", "[LNestedFoci$Path;", true)
  | _ => ("NestedFoci", "isKept", "Z", false)
def tyX11 : Nat → FieldType := fun k => match k with
  | 0 => .object "NestedFoci$Tape"
  | 1 => .object "NestedFoci$ThingReader"
  | 2 => .object "NestedFoci$PathReader"
  | 3 => .array (.object "NestedFoci$Shelf")
  | 4 => .array (.object "NestedFoci$Path")
  | 5 => .object "NestedFoci$Tally"
  | 6 => .object "NestedFoci$Changer"
  | 7 => .object "NestedFoci$Foci"
  | 8 => .object "NestedFoci$Difference"
  | 9 => .array (.object "NestedFoci$Thing")
  | 10 => .array (.object "NestedFoci$Path")
  | _ => .boolean
abbrev wsX110 : List Cond := u_ws RX11 TX11 12
theorem nmX11 : ∀ a, a < 12 → ∀ b, b < 12 → a ≠ b → (TX11 a).2.1 ≠ (TX11 b).2.1 := by decide +kernel
theorem tyX11_ok : ∀ k, k < 12 → parseFieldDescriptor (TX11 k).2.2.1 = some (tyX11 k) := by decide +kernel
abbrev cX11_init : ByteArray := prog_1_method_1_code
def yX11_init : MethodName := ⟨RX11, "<init>", "()V"⟩
abbrev cX11_feed : ByteArray := prog_1_method_2_code
def yX11_feed : MethodName := ⟨RX11, "feed", "(II)I"⟩
abbrev cX11_thing : ByteArray := prog_1_method_3_code
def yX11_thing : MethodName := ⟨RX11, "thing", "(I)I"⟩
abbrev cX11_path : ByteArray := prog_1_method_4_code
def yX11_path : MethodName := ⟨RX11, "path", "(I)I"⟩
abbrev cX11_join : ByteArray := prog_1_method_5_code
def yX11_join : MethodName := ⟨RX11, "join", "(II)I"⟩
abbrev cX11_over : ByteArray := prog_1_method_6_code
def yX11_over : MethodName := ⟨RX11, "over", "(IIIII)I"⟩
abbrev cX11_put : ByteArray := prog_1_method_7_code
def yX11_put : MethodName := ⟨RX11, "put", "(IIIII)I"⟩
abbrev cX11_take : ByteArray := prog_1_method_8_code
def yX11_take : MethodName := ⟨RX11, "take", "(IIII)I"⟩
abbrev cX11_undo : ByteArray := prog_1_method_9_code
def yX11_undo : MethodName := ⟨RX11, "undo", "(I)I"⟩
abbrev cX11_look : ByteArray := prog_1_method_10_code
def yX11_look : MethodName := ⟨RX11, "look", "(IIII)J"⟩
abbrev cX11_key : ByteArray := prog_1_method_11_code
def yX11_key : MethodName := ⟨RX11, "key", "(IIII)I"⟩
abbrev cX11_fold : ByteArray := prog_1_method_12_code
def yX11_fold : MethodName := ⟨RX11, "fold", "(III)J"⟩
abbrev cX11_best : ByteArray := prog_1_method_13_code
def yX11_best : MethodName := ⟨RX11, "best", "(IIII)I"⟩
abbrev cX11_order : ByteArray := prog_1_method_14_code
def yX11_order : MethodName := ⟨RX11, "order", "(II)I"⟩
abbrev cX11_shared : ByteArray := prog_1_method_15_code
def yX11_shared : MethodName := ⟨RX11, "shared", "(II)I"⟩
abbrev cX11_differ : ByteArray := prog_1_method_16_code
def yX11_differ : MethodName := ⟨RX11, "differ", "(III)I"⟩
abbrev cX11_fit : ByteArray := prog_1_method_17_code
def yX11_fit : MethodName := ⟨RX11, "fit", "(III)I"⟩
abbrev cX11_image : ByteArray := prog_1_method_18_code
def yX11_image : MethodName := ⟨RX11, "image", "()I"⟩
abbrev cX11_back : ByteArray := prog_1_method_19_code
def yX11_back : MethodName := ⟨RX11, "back", "()I"⟩
abbrev cX11_count : ByteArray := prog_1_method_20_code
def yX11_count : MethodName := ⟨RX11, "count", "(I)I"⟩
abbrev cX11_isShelf : ByteArray := prog_1_method_21_code
def yX11_isShelf : MethodName := ⟨RX11, "isShelf", "(I)Z"⟩
abbrev cX11_isPath : ByteArray := prog_1_method_22_code
def yX11_isPath : MethodName := ⟨RX11, "isPath", "(I)Z"⟩
abbrev cX11_isHow : ByteArray := prog_1_method_23_code
def yX11_isHow : MethodName := ⟨RX11, "isHow", "(II)Z"⟩
abbrev cX11_held : ByteArray := prog_1_method_24_code
def yX11_held : MethodName := ⟨RX11, "held", "(I)LNestedFoci$Thing;"⟩
abbrev cX11_focusAt : ByteArray := prog_1_method_25_code
def yX11_focusAt : MethodName := ⟨RX11, "focusAt", "(III)LNestedFoci$Thing;"⟩
abbrev cX11_allNodes : ByteArray := prog_1_method_26_code
def yX11_allNodes : MethodName := ⟨RX11, "allNodes", "()I"⟩
abbrev cX11_ofTwo : ByteArray := prog_1_method_27_code
def yX11_ofTwo : MethodName := ⟨RX11, "ofTwo", "(ILNestedFoci$Thing;LNestedFoci$Thing;)LNestedFoci$Thing;"⟩
abbrev cX11_withKey : ByteArray := prog_1_method_28_code
def yX11_withKey : MethodName := ⟨RX11, "withKey", "(LNestedFoci$Thing;ILNestedFoci$Thing;)LNestedFoci$Thing;"⟩
abbrev cX11_sharedNodes : ByteArray := prog_1_method_29_code
def yX11_sharedNodes : MethodName := ⟨RX11, "sharedNodes", "(LNestedFoci$Thing;LNestedFoci$Thing;I)I"⟩
def RX12 : String := "NestedFociModel"
def TX12 : u_T := fun k => match k with
  | 0 => ("NestedFociModel", "thrown", "I", false)
  | 1 => ("NestedFociModel", "kind", "[I", true)
  | 2 => ("NestedFociModel", "worth", "[I", true)
  | 3 => ("NestedFociModel", "size", "[I", true)
  | 4 => ("NestedFociModel", "nodes", "[I", true)
  | 5 => ("NestedFociModel", "height", "[I", true)
  | 6 => ("NestedFociModel", "part", "[I", true)
  | 7 => ("NestedFociModel", "keyOf", "[I", true)
  | 8 => ("NestedFociModel", "things", "I", false)
  | 9 => ("NestedFociModel", "made", "I", false)
  | 10 => ("NestedFociModel", "shelf", "[I", true)
  | 11 => ("NestedFociModel", "past", "[I", true)
  | 12 => ("NestedFociModel", "pastMany", "[I", true)
  | 13 => ("NestedFociModel", "step", "[I", true)
  | 14 => ("NestedFociModel", "stepWorth", "[I", true)
  | 15 => ("NestedFociModel", "steps", "[I", true)
  | 16 => ("NestedFociModel", "imageShelf", "[I", true)
  | 17 => ("NestedFociModel", "imageStep", "[I", true)
  | 18 => ("NestedFociModel", "imageWorth", "[I", true)
  | 19 => ("NestedFociModel", "imageSteps", "[I", true)
  | 20 => ("NestedFociModel", "hasImage", "Z", false)
  | 21 => ("NestedFociModel", "tape", "[I", true)
  | 22 => ("NestedFociModel", "taped", "I", false)
  | 23 => ("NestedFociModel", "spot", "I", false)
  | 24 => ("NestedFociModel", "fault", "I", false)
  | 25 => ("NestedFociModel", "readMany", "I", false)
  | 26 => ("NestedFociModel", "readStep", "I", false)
  | 27 => ("NestedFociModel", "readWorth", "I", false)
  | 28 => ("NestedFociModel", "newStep", "[I", true)
  | 29 => ("NestedFociModel", "newWorth", "[I", true)
  | 30 => ("NestedFociModel", "focus", "[I", true)
  | 31 => ("NestedFociModel", "foci", "I", false)
  | 32 => ("NestedFociModel", "going", "I", false)
  | 33 => ("NestedFociModel", "how", "I", false)
  | 34 => ("NestedFociModel", "howWorth", "I", false)
  | 35 => ("NestedFociModel", "overs", "I", false)
  | 36 => ("NestedFociModel", "isMade", "Z", false)
  | 37 => ("NestedFociModel", "isThere", "[Z", true)
  | 38 => ("NestedFociModel", "differs", "I", false)
  | 39 => ("NestedFociModel", "differsWanted", "I", false)
  | _ => ("NestedFociModel", "differsAt", "I", false)
def tyX12 : Nat → FieldType := fun k => match k with
  | 0 => .int
  | 1 => .array .int
  | 2 => .array .int
  | 3 => .array .int
  | 4 => .array .int
  | 5 => .array .int
  | 6 => .array .int
  | 7 => .array .int
  | 8 => .int
  | 9 => .int
  | 10 => .array .int
  | 11 => .array .int
  | 12 => .array .int
  | 13 => .array .int
  | 14 => .array .int
  | 15 => .array .int
  | 16 => .array .int
  | 17 => .array .int
  | 18 => .array .int
  | 19 => .array .int
  | 20 => .boolean
  | 21 => .array .int
  | 22 => .int
  | 23 => .int
  | 24 => .int
  | 25 => .int
  | 26 => .int
  | 27 => .int
  | 28 => .array .int
  | 29 => .array .int
  | 30 => .array .int
  | 31 => .int
  | 32 => .int
  | 33 => .int
  | 34 => .int
  | 35 => .int
  | 36 => .boolean
  | 37 => .array .boolean
  | 38 => .int
  | 39 => .int
  | _ => .int
abbrev wsX120 : List Cond := u_ws RX12 TX12 41
theorem nmX12 : ∀ a, a < 41 → ∀ b, b < 41 → a ≠ b → (TX12 a).2.1 ≠ (TX12 b).2.1 := by decide +kernel
theorem tyX12_ok : ∀ k, k < 41 → parseFieldDescriptor (TX12 k).2.2.1 = some (tyX12 k) := by decide +kernel
abbrev cX12_init : ByteArray := prog_14_method_1_code
def yX12_init : MethodName := ⟨RX12, "<init>", "()V"⟩
abbrev cX12_in : ByteArray := prog_14_method_3_code
def yX12_in : MethodName := ⟨RX12, "in", "(III)Z"⟩
abbrev cX12_isShelf : ByteArray := prog_14_method_4_code
def yX12_isShelf : MethodName := ⟨RX12, "isShelf", "(I)Z"⟩
abbrev cX12_isPath : ByteArray := prog_14_method_5_code
def yX12_isPath : MethodName := ⟨RX12, "isPath", "(I)Z"⟩
abbrev cX12_begins : ByteArray := prog_14_method_6_code
def yX12_begins : MethodName := ⟨RX12, "begins", "(III)I"⟩
abbrev cX12_ends : ByteArray := prog_14_method_7_code
def yX12_ends : MethodName := ⟨RX12, "ends", "(I)I"⟩
abbrev cX12_number : ByteArray := prog_14_method_8_code
def yX12_number : MethodName := ⟨RX12, "number", "(I)I"⟩
abbrev cX12_isFull : ByteArray := prog_14_method_9_code
def yX12_isFull : MethodName := ⟨RX12, "isFull", "(I)Z"⟩
abbrev cX12_compared : ByteArray := prog_14_method_10_code
def yX12_compared : MethodName := ⟨RX12, "compared", "(II)I"⟩
abbrev cX12_becomes : ByteArray := prog_14_method_11_code
def yX12_becomes : MethodName := ⟨RX12, "becomes", "(II)V"⟩
abbrev cX12_feed : ByteArray := prog_14_method_12_code
def yX12_feed : MethodName := ⟨RX12, "feed", "(II)I"⟩
abbrev cX12_here : ByteArray := prog_14_method_13_code
def yX12_here : MethodName := ⟨RX12, "here", "()I"⟩
abbrev cX12_fails : ByteArray := prog_14_method_14_code
def yX12_fails : MethodName := ⟨RX12, "fails", "(I)V"⟩
abbrev cX12_isFault : ByteArray := prog_14_method_15_code
def yX12_isFault : MethodName := ⟨RX12, "isFault", "()Z"⟩
abbrev cX12_one : ByteArray := prog_14_method_16_code
def yX12_one : MethodName := ⟨RX12, "one", "(II)I"⟩
abbrev cX12_isHere : ByteArray := prog_14_method_17_code
def yX12_isHere : MethodName := ⟨RX12, "isHere", "(I)Z"⟩
abbrev cX12_digits : ByteArray := prog_14_method_18_code
def yX12_digits : MethodName := ⟨RX12, "digits", "(I)I"⟩
abbrev cX12_signed : ByteArray := prog_14_method_19_code
def yX12_signed : MethodName := ⟨RX12, "signed", "()I"⟩
abbrev cX12_letters : ByteArray := prog_14_method_20_code
def yX12_letters : MethodName := ⟨RX12, "letters", "()I"⟩
abbrev cX12_adds : ByteArray := prog_14_method_21_code
def yX12_adds : MethodName := ⟨RX12, "adds", "(III)V"⟩
abbrev cX12_puts : ByteArray := prog_14_method_22_code
def yX12_puts : MethodName := ⟨RX12, "puts", "(III)V"⟩
abbrev cX12_hasKey : ByteArray := prog_14_method_23_code
def yX12_hasKey : MethodName := ⟨RX12, "hasKey", "(II)Z"⟩
abbrev cX12_readsEntry : ByteArray := prog_14_method_24_code
def yX12_readsEntry : MethodName := ⟨RX12, "readsEntry", "(II)I"⟩
abbrev cX12_readsAll : ByteArray := prog_14_method_25_code
def yX12_readsAll : MethodName := ⟨RX12, "readsAll", "(III)V"⟩
abbrev cX12_reads : ByteArray := prog_14_method_26_code
def yX12_reads : MethodName := ⟨RX12, "reads", "(I)I"⟩
abbrev cX12_thing : ByteArray := prog_14_method_27_code
def yX12_thing : MethodName := ⟨RX12, "thing", "(I)I"⟩
abbrev cX12_readsStep : ByteArray := prog_14_method_28_code
def yX12_readsStep : MethodName := ⟨RX12, "readsStep", "()V"⟩
abbrev cX12_path : ByteArray := prog_14_method_29_code
def yX12_path : MethodName := ⟨RX12, "path", "(I)I"⟩
abbrev cX12_join : ByteArray := prog_14_method_30_code
def yX12_join : MethodName := ⟨RX12, "join", "(II)I"⟩
abbrev cX12_isItself : ByteArray := prog_14_method_31_code
def yX12_isItself : MethodName := ⟨RX12, "isItself", "(II)Z"⟩
abbrev cX12_isPart : ByteArray := prog_14_method_32_code
def yX12_isPart : MethodName := ⟨RX12, "isPart", "(III)Z"⟩
abbrev cX12_nextStep : ByteArray := prog_14_method_33_code
def yX12_nextStep : MethodName := ⟨RX12, "nextStep", "(I)I"⟩
abbrev cX12_goes : ByteArray := prog_14_method_34_code
def yX12_goes : MethodName := ⟨RX12, "goes", "(II)V"⟩
abbrev cX12_looksFor : ByteArray := prog_14_method_35_code
def yX12_looksFor : MethodName := ⟨RX12, "looksFor", "(II)V"⟩
abbrev cX12_makes : ByteArray := prog_14_method_36_code
def yX12_makes : MethodName := ⟨RX12, "makes", "()Z"⟩
abbrev cX12_numbered : ByteArray := prog_14_method_37_code
def yX12_numbered : MethodName := ⟨RX12, "numbered", "(I)I"⟩
abbrev cX12_copyOf : ByteArray := prog_14_method_38_code
def yX12_copyOf : MethodName := ⟨RX12, "copyOf", "(I)I"⟩
abbrev cX12_changed : ByteArray := prog_14_method_39_code
def yX12_changed : MethodName := ⟨RX12, "changed", "(I)I"⟩
abbrev cX12_around : ByteArray := prog_14_method_40_code
def yX12_around : MethodName := ⟨RX12, "around", "(III)I"⟩
abbrev cX12_became : ByteArray := prog_14_method_41_code
def yX12_became : MethodName := ⟨RX12, "became", "(I)I"⟩
abbrev cX12_goesOver : ByteArray := prog_14_method_42_code
def yX12_goesOver : MethodName := ⟨RX12, "goesOver", "(II)I"⟩
abbrev cX12_comesOf : ByteArray := prog_14_method_43_code
def yX12_comesOf : MethodName := ⟨RX12, "comesOf", "(IIII)I"⟩
abbrev cX12_over : ByteArray := prog_14_method_44_code
def yX12_over : MethodName := ⟨RX12, "over", "(IIIII)I"⟩
abbrev cX12_put : ByteArray := prog_14_method_45_code
def yX12_put : MethodName := ⟨RX12, "put", "(IIIII)I"⟩
abbrev cX12_take : ByteArray := prog_14_method_46_code
def yX12_take : MethodName := ⟨RX12, "take", "(IIII)I"⟩
abbrev cX12_undo : ByteArray := prog_14_method_47_code
def yX12_undo : MethodName := ⟨RX12, "undo", "(I)I"⟩
abbrev cX12_focusOf : ByteArray := prog_14_method_48_code
def yX12_focusOf : MethodName := ⟨RX12, "focusOf", "(III)I"⟩
abbrev cX12_look : ByteArray := prog_14_method_49_code
def yX12_look : MethodName := ⟨RX12, "look", "(IIII)J"⟩
abbrev cX12_key : ByteArray := prog_14_method_50_code
def yX12_key : MethodName := ⟨RX12, "key", "(IIII)I"⟩
abbrev cX12_sumOf : ByteArray := prog_14_method_51_code
def yX12_sumOf : MethodName := ⟨RX12, "sumOf", "(I)J"⟩
abbrev cX12_isNew : ByteArray := prog_14_method_52_code
def yX12_isNew : MethodName := ⟨RX12, "isNew", "(I)Z"⟩
abbrev cX12_fold : ByteArray := prog_14_method_53_code
def yX12_fold : MethodName := ⟨RX12, "fold", "(III)J"⟩
abbrev cX12_orderedBy : ByteArray := prog_14_method_54_code
def yX12_orderedBy : MethodName := ⟨RX12, "orderedBy", "(III)I"⟩
abbrev cX12_best : ByteArray := prog_14_method_55_code
def yX12_best : MethodName := ⟨RX12, "best", "(IIII)I"⟩
abbrev cX12_order : ByteArray := prog_14_method_56_code
def yX12_order : MethodName := ⟨RX12, "order", "(II)I"⟩
abbrev cX12_marks : ByteArray := prog_14_method_57_code
def yX12_marks : MethodName := ⟨RX12, "marks", "(I)V"⟩
abbrev cX12_sharedIn : ByteArray := prog_14_method_58_code
def yX12_sharedIn : MethodName := ⟨RX12, "sharedIn", "(I)I"⟩
abbrev cX12_shared : ByteArray := prog_14_method_59_code
def yX12_shared : MethodName := ⟨RX12, "shared", "(II)I"⟩
abbrev cX12_isLikeBuilt : ByteArray := prog_14_method_60_code
def yX12_isLikeBuilt : MethodName := ⟨RX12, "isLikeBuilt", "(II)Z"⟩
abbrev cX12_differsIn : ByteArray := prog_14_method_61_code
def yX12_differsIn : MethodName := ⟨RX12, "differsIn", "(III)V"⟩
abbrev cX12_differ : ByteArray := prog_14_method_62_code
def yX12_differ : MethodName := ⟨RX12, "differ", "(III)I"⟩
abbrev cX12_fit : ByteArray := prog_14_method_63_code
def yX12_fit : MethodName := ⟨RX12, "fit", "(III)I"⟩
abbrev cX12_allNodes : ByteArray := prog_14_method_64_code
def yX12_allNodes : MethodName := ⟨RX12, "allNodes", "()I"⟩
abbrev cX12_image : ByteArray := prog_14_method_65_code
def yX12_image : MethodName := ⟨RX12, "image", "()I"⟩
abbrev cX12_back : ByteArray := prog_14_method_66_code
def yX12_back : MethodName := ⟨RX12, "back", "()I"⟩
abbrev cX12_count : ByteArray := prog_14_method_67_code
def yX12_count : MethodName := ⟨RX12, "count", "(I)I"⟩
def RJ6 : String := "java/lang/Integer"
def TJ6 : u_T := fun k => match k with
  | _ => ("", "", "", false)
def tyJ6 : Nat → FieldType := fun k => match k with
  | _ => .int
abbrev wsJ60 : List Cond := u_ws RJ6 TJ6 0
theorem nmJ6 : ∀ a, a < 0 → ∀ b, b < 0 → a ≠ b → (TJ6 a).2.1 ≠ (TJ6 b).2.1 := by decide +kernel
theorem tyJ6_ok : ∀ k, k < 0 → parseFieldDescriptor (TJ6 k).2.2.1 = some (tyJ6 k) := by decide +kernel
abbrev cJ6_compare_7cf53 : ByteArray := prog_15_method_40_code
def yJ6_compare_7cf53 : MethodName := ⟨RJ6, "compare", "(II)I"⟩
def RJ9 : String := "java/lang/Math"
def TJ9 : u_T := fun k => match k with
  | _ => ("", "", "", false)
def tyJ9 : Nat → FieldType := fun k => match k with
  | _ => .int
abbrev wsJ90 : List Cond := u_ws RJ9 TJ9 0
theorem nmJ9 : ∀ a, a < 0 → ∀ b, b < 0 → a ≠ b → (TJ9 a).2.1 ≠ (TJ9 b).2.1 := by decide +kernel
theorem tyJ9_ok : ∀ k, k < 0 → parseFieldDescriptor (TJ9 k).2.2.1 = some (tyJ9 k) := by decide +kernel
abbrev cJ9_max_7cf53 : ByteArray := prog_16_method_65_code
def yJ9_max_7cf53 : MethodName := ⟨RJ9, "max", "(II)I"⟩
abbrev cJ9_min_7cf53 : ByteArray := prog_16_method_69_code
def yJ9_min_7cf53 : MethodName := ⟨RJ9, "min", "(II)I"⟩
def RL : String := "NestedFociLaw"
abbrev cL_law : ByteArray := code
def yL_law : MethodName := ⟨RL, "law", "([I)Z"⟩

abbrev ab_cl : List vw_C := [(RX0, TX0, 7), (RX1, TX1, 2), (RX2, TX2, 3), (RX3, TX3, 3), (RX4, TX4, 2), (RX5, TX5, 3), (RX6, TX6, 3), (RX7, TX7, 1), (RX8, TX8, 4), (RX9, TX9, 6), (RX10, TX10, 1), (RX11, TX11, 12), (RX12, TX12, 41)]
set_option maxRecDepth 100000 in
theorem inX0 : ∀ w ∈ wsX00, w ∈ lw_tbl := by decide +kernel
set_option maxRecDepth 100000 in
theorem inX1 : ∀ w ∈ wsX10, w ∈ lw_tbl := by decide +kernel
set_option maxRecDepth 100000 in
theorem inX2 : ∀ w ∈ wsX20, w ∈ lw_tbl := by decide +kernel
set_option maxRecDepth 100000 in
theorem inX3 : ∀ w ∈ wsX30, w ∈ lw_tbl := by decide +kernel
set_option maxRecDepth 100000 in
theorem inX4 : ∀ w ∈ wsX40, w ∈ lw_tbl := by decide +kernel
set_option maxRecDepth 100000 in
theorem inX5 : ∀ w ∈ wsX50, w ∈ lw_tbl := by decide +kernel
set_option maxRecDepth 100000 in
theorem inX6 : ∀ w ∈ wsX60, w ∈ lw_tbl := by decide +kernel
set_option maxRecDepth 100000 in
theorem inX7 : ∀ w ∈ wsX70, w ∈ lw_tbl := by decide +kernel
set_option maxRecDepth 100000 in
theorem inX8 : ∀ w ∈ wsX80, w ∈ lw_tbl := by decide +kernel
set_option maxRecDepth 100000 in
theorem inX9 : ∀ w ∈ wsX90, w ∈ lw_tbl := by decide +kernel
set_option maxRecDepth 100000 in
theorem inX10 : ∀ w ∈ wsX100, w ∈ lw_tbl := by decide +kernel
set_option maxRecDepth 100000 in
theorem inX11 : ∀ w ∈ wsX110, w ∈ lw_tbl := by decide +kernel
set_option maxRecDepth 100000 in
theorem inX12 : ∀ w ∈ wsX120, w ∈ lw_tbl := by decide +kernel
abbrev ab_V : Type := Int32 ⊕ Int64 ⊕ Option Nat
/-- array tags: 0 int[], 1 boolean[], then the element classes by their numbers -/
def ab_ec : Nat → Nat := fun t => match t with
  | 2 => 4
  | 3 => 6
  | 4 => 9
  | _ => 99
abbrev ab_tys (cT : Nat → ClassId) : List (ClassId × FieldType) := [(cT 0, .int), (cT 1, .boolean), (cT 2, .object RX4), (cT 3, .object RX6), (cT 4, .object RX9)]
def ab_df : Nat → List ab_V := fun c => match c with
  | 0 => [.inr (.inr none), .inr (.inr none), .inl 0, .inl 0, .inr (.inr none), .inl 0, .inl 0]
  | 1 => [.inr (.inr none), .inl 0]
  | 2 => [.inr (.inr none), .inr (.inr none), .inl 0]
  | 3 => [.inr (.inr none), .inr (.inr none), .inl 0]
  | 4 => [.inr (.inr none), .inr (.inr none)]
  | 5 => [.inr (.inr none), .inr (.inr none), .inr (.inr none)]
  | 6 => [.inr (.inr none), .inl 0, .inr (.inr none)]
  | 7 => [.inl 0]
  | 8 => [.inr (.inr none), .inl 0, .inl 0, .inl 0]
  | 9 => [.inl 0, .inl 0, .inl 0, .inl 0, .inr (.inr none), .inr (.inr none)]
  | 10 => [.inr (.inr none)]
  | 11 => [.inr (.inr none), .inr (.inr none), .inr (.inr none), .inr (.inr none), .inr (.inr none), .inr (.inr none), .inr (.inr none), .inr (.inr none), .inr (.inr none), .inr (.inr none), .inr (.inr none), .inl 0]
  | 12 => [.inl 0, .inr (.inr none), .inr (.inr none), .inr (.inr none), .inr (.inr none), .inr (.inr none), .inr (.inr none), .inr (.inr none), .inl 0, .inl 0, .inr (.inr none), .inr (.inr none), .inr (.inr none), .inr (.inr none), .inr (.inr none), .inr (.inr none), .inr (.inr none), .inr (.inr none), .inr (.inr none), .inr (.inr none), .inl 0, .inr (.inr none), .inl 0, .inl 0, .inl 0, .inl 0, .inl 0, .inl 0, .inr (.inr none), .inr (.inr none), .inr (.inr none), .inl 0, .inl 0, .inl 0, .inl 0, .inl 0, .inl 0, .inr (.inr none), .inl 0, .inl 0, .inl 0]
  | _ => []
def ab_ty : Nat → Nat → FieldType := fun c => match c with
  | 0 => tyX0
  | 1 => tyX1
  | 2 => tyX2
  | 3 => tyX3
  | 4 => tyX4
  | 5 => tyX5
  | 6 => tyX6
  | 7 => tyX7
  | 8 => tyX8
  | 9 => tyX9
  | 10 => tyX10
  | 11 => tyX11
  | 12 => tyX12
  | _ => fun _ => .int
theorem ab_cl_of {P : Nat → vw_C → Prop} (h0 : P 0 (RX0, TX0, 7)) (h1 : P 1 (RX1, TX1, 2)) (h2 : P 2 (RX2, TX2, 3)) (h3 : P 3 (RX3, TX3, 3)) (h4 : P 4 (RX4, TX4, 2)) (h5 : P 5 (RX5, TX5, 3)) (h6 : P 6 (RX6, TX6, 3)) (h7 : P 7 (RX7, TX7, 1)) (h8 : P 8 (RX8, TX8, 4)) (h9 : P 9 (RX9, TX9, 6)) (h10 : P 10 (RX10, TX10, 1)) (h11 : P 11 (RX11, TX11, 12)) (h12 : P 12 (RX12, TX12, 41)) : ∀ (c : Nat) (q : vw_C), ab_cl[c]? = some q → P c q := by
  intro c q h
  have hl : c < 13 := (List.getElem?_eq_some_iff.mp h).1
  match c, hl, h with
  | 0, _, h => cases h; exact h0
  | 1, _, h => cases h; exact h1
  | 2, _, h => cases h; exact h2
  | 3, _, h => cases h; exact h3
  | 4, _, h => cases h; exact h4
  | 5, _, h => cases h; exact h5
  | 6, _, h => cases h; exact h6
  | 7, _, h => cases h; exact h7
  | 8, _, h => cases h; exact h8
  | 9, _, h => cases h; exact h9
  | 10, _, h => cases h; exact h10
  | 11, _, h => cases h; exact h11
  | 12, _, h => cases h; exact h12
theorem ab_inC : ∀ (c : Nat) (q : vw_C), ab_cl[c]? = some q → ∀ w ∈ u_ws q.1 q.2.1 q.2.2, w ∈ lw_tbl := ab_cl_of inX0 inX1 inX2 inX3 inX4 inX5 inX6 inX7 inX8 inX9 inX10 inX11 inX12
theorem ab_tyC : ∀ (c : Nat) (q : vw_C), ab_cl[c]? = some q → ∀ k, k < q.2.2 → parseFieldDescriptor (q.2.1 k).2.2.1 = some (ab_ty c k) := ab_cl_of tyX0_ok tyX1_ok tyX2_ok tyX3_ok tyX4_ok tyX5_ok tyX6_ok tyX7_ok tyX8_ok tyX9_ok tyX10_ok tyX11_ok tyX12_ok
theorem ab_nmC : ∀ (c : Nat) (q : vw_C), ab_cl[c]? = some q → ∀ x, x < q.2.2 → ∀ y, y < q.2.2 → x ≠ y → (q.2.1 x).2.1 ≠ (q.2.1 y).2.1 := ab_cl_of nmX0 nmX1 nmX2 nmX3 nmX4 nmX5 nmX6 nmX7 nmX8 nmX9 nmX10 nmX11 nmX12
theorem ab_df0 {f : ab_V → Value} (h1 : f (.inl 0) = .int 0) (h2 : f (.inr (.inr none)) = .null) : ∀ k, k < 7 → defaultValue (tyX0 k) = vp_V ((ab_df 0).map f) k := by
  intro k hk
  match k, hk with
  | 0, _ => exact h2.symm
  | 1, _ => exact h2.symm
  | 2, _ => exact h1.symm
  | 3, _ => exact h1.symm
  | 4, _ => exact h2.symm
  | 5, _ => exact h1.symm
  | 6, _ => exact h1.symm
  | k + 7, hk => exact absurd hk (by omega)
theorem ab_df1 {f : ab_V → Value} (h1 : f (.inl 0) = .int 0) (h2 : f (.inr (.inr none)) = .null) : ∀ k, k < 2 → defaultValue (tyX1 k) = vp_V ((ab_df 1).map f) k := by
  intro k hk
  match k, hk with
  | 0, _ => exact h2.symm
  | 1, _ => exact h1.symm
  | k + 2, hk => exact absurd hk (by omega)
theorem ab_df2 {f : ab_V → Value} (h1 : f (.inl 0) = .int 0) (h2 : f (.inr (.inr none)) = .null) : ∀ k, k < 3 → defaultValue (tyX2 k) = vp_V ((ab_df 2).map f) k := by
  intro k hk
  match k, hk with
  | 0, _ => exact h2.symm
  | 1, _ => exact h2.symm
  | 2, _ => exact h1.symm
  | k + 3, hk => exact absurd hk (by omega)
theorem ab_df3 {f : ab_V → Value} (h1 : f (.inl 0) = .int 0) (h2 : f (.inr (.inr none)) = .null) : ∀ k, k < 3 → defaultValue (tyX3 k) = vp_V ((ab_df 3).map f) k := by
  intro k hk
  match k, hk with
  | 0, _ => exact h2.symm
  | 1, _ => exact h2.symm
  | 2, _ => exact h1.symm
  | k + 3, hk => exact absurd hk (by omega)
theorem ab_df4 {f : ab_V → Value} (h1 : f (.inl 0) = .int 0) (h2 : f (.inr (.inr none)) = .null) : ∀ k, k < 2 → defaultValue (tyX4 k) = vp_V ((ab_df 4).map f) k := by
  intro k hk
  match k, hk with
  | 0, _ => exact h2.symm
  | 1, _ => exact h2.symm
  | k + 2, hk => exact absurd hk (by omega)
theorem ab_df5 {f : ab_V → Value} (h1 : f (.inl 0) = .int 0) (h2 : f (.inr (.inr none)) = .null) : ∀ k, k < 3 → defaultValue (tyX5 k) = vp_V ((ab_df 5).map f) k := by
  intro k hk
  match k, hk with
  | 0, _ => exact h2.symm
  | 1, _ => exact h2.symm
  | 2, _ => exact h2.symm
  | k + 3, hk => exact absurd hk (by omega)
theorem ab_df6 {f : ab_V → Value} (h1 : f (.inl 0) = .int 0) (h2 : f (.inr (.inr none)) = .null) : ∀ k, k < 3 → defaultValue (tyX6 k) = vp_V ((ab_df 6).map f) k := by
  intro k hk
  match k, hk with
  | 0, _ => exact h2.symm
  | 1, _ => exact h1.symm
  | 2, _ => exact h2.symm
  | k + 3, hk => exact absurd hk (by omega)
theorem ab_df7 {f : ab_V → Value} (h1 : f (.inl 0) = .int 0) (h2 : f (.inr (.inr none)) = .null) : ∀ k, k < 1 → defaultValue (tyX7 k) = vp_V ((ab_df 7).map f) k := by
  intro k hk
  match k, hk with
  | 0, _ => exact h1.symm
  | k + 1, hk => exact absurd hk (by omega)
theorem ab_df8 {f : ab_V → Value} (h1 : f (.inl 0) = .int 0) (h2 : f (.inr (.inr none)) = .null) : ∀ k, k < 4 → defaultValue (tyX8 k) = vp_V ((ab_df 8).map f) k := by
  intro k hk
  match k, hk with
  | 0, _ => exact h2.symm
  | 1, _ => exact h1.symm
  | 2, _ => exact h1.symm
  | 3, _ => exact h1.symm
  | k + 4, hk => exact absurd hk (by omega)
theorem ab_df9 {f : ab_V → Value} (h1 : f (.inl 0) = .int 0) (h2 : f (.inr (.inr none)) = .null) : ∀ k, k < 6 → defaultValue (tyX9 k) = vp_V ((ab_df 9).map f) k := by
  intro k hk
  match k, hk with
  | 0, _ => exact h1.symm
  | 1, _ => exact h1.symm
  | 2, _ => exact h1.symm
  | 3, _ => exact h1.symm
  | 4, _ => exact h2.symm
  | 5, _ => exact h2.symm
  | k + 6, hk => exact absurd hk (by omega)
theorem ab_df10 {f : ab_V → Value} (h1 : f (.inl 0) = .int 0) (h2 : f (.inr (.inr none)) = .null) : ∀ k, k < 1 → defaultValue (tyX10 k) = vp_V ((ab_df 10).map f) k := by
  intro k hk
  match k, hk with
  | 0, _ => exact h2.symm
  | k + 1, hk => exact absurd hk (by omega)
theorem ab_df11 {f : ab_V → Value} (h1 : f (.inl 0) = .int 0) (h2 : f (.inr (.inr none)) = .null) : ∀ k, k < 12 → defaultValue (tyX11 k) = vp_V ((ab_df 11).map f) k := by
  intro k hk
  match k, hk with
  | 0, _ => exact h2.symm
  | 1, _ => exact h2.symm
  | 2, _ => exact h2.symm
  | 3, _ => exact h2.symm
  | 4, _ => exact h2.symm
  | 5, _ => exact h2.symm
  | 6, _ => exact h2.symm
  | 7, _ => exact h2.symm
  | 8, _ => exact h2.symm
  | 9, _ => exact h2.symm
  | 10, _ => exact h2.symm
  | 11, _ => exact h1.symm
  | k + 12, hk => exact absurd hk (by omega)
theorem ab_df12 {f : ab_V → Value} (h1 : f (.inl 0) = .int 0) (h2 : f (.inr (.inr none)) = .null) : ∀ k, k < 41 → defaultValue (tyX12 k) = vp_V ((ab_df 12).map f) k := by
  intro k hk
  match k, hk with
  | 0, _ => exact h1.symm
  | 1, _ => exact h2.symm
  | 2, _ => exact h2.symm
  | 3, _ => exact h2.symm
  | 4, _ => exact h2.symm
  | 5, _ => exact h2.symm
  | 6, _ => exact h2.symm
  | 7, _ => exact h2.symm
  | 8, _ => exact h1.symm
  | 9, _ => exact h1.symm
  | 10, _ => exact h2.symm
  | 11, _ => exact h2.symm
  | 12, _ => exact h2.symm
  | 13, _ => exact h2.symm
  | 14, _ => exact h2.symm
  | 15, _ => exact h2.symm
  | 16, _ => exact h2.symm
  | 17, _ => exact h2.symm
  | 18, _ => exact h2.symm
  | 19, _ => exact h2.symm
  | 20, _ => exact h1.symm
  | 21, _ => exact h2.symm
  | 22, _ => exact h1.symm
  | 23, _ => exact h1.symm
  | 24, _ => exact h1.symm
  | 25, _ => exact h1.symm
  | 26, _ => exact h1.symm
  | 27, _ => exact h1.symm
  | 28, _ => exact h2.symm
  | 29, _ => exact h2.symm
  | 30, _ => exact h2.symm
  | 31, _ => exact h1.symm
  | 32, _ => exact h1.symm
  | 33, _ => exact h1.symm
  | 34, _ => exact h1.symm
  | 35, _ => exact h1.symm
  | 36, _ => exact h1.symm
  | 37, _ => exact h2.symm
  | 38, _ => exact h1.symm
  | 39, _ => exact h1.symm
  | 40, _ => exact h1.symm
  | k + 41, hk => exact absurd hk (by omega)
theorem ab_dfC {f : ab_V → Value} (h1 : f (.inl 0) = .int 0) (h2 : f (.inr (.inr none)) = .null) : ∀ (c : Nat) (q : vw_C), ab_cl[c]? = some q → ∀ k, k < q.2.2 → defaultValue (ab_ty c k) = vp_V ((ab_df c).map f) k := ab_cl_of (ab_df0 h1 h2) (ab_df1 h1 h2) (ab_df2 h1 h2) (ab_df3 h1 h2) (ab_df4 h1 h2) (ab_df5 h1 h2) (ab_df6 h1 h2) (ab_df7 h1 h2) (ab_df8 h1 h2) (ab_df9 h1 h2) (ab_df10 h1 h2) (ab_df11 h1 h2) (ab_df12 h1 h2)
theorem ab_dlC : ∀ (c : Nat) (q : vw_C), ab_cl[c]? = some q → (ab_df c).length = q.2.2 := ab_cl_of rfl rfl rfl rfl rfl rfl rfl rfl rfl rfl rfl rfl rfl
