/-! ===== the words of the tables, by their places ===== -/
theorem ab_tb1 : ∀ w ∈ tables_1_1, w ∈ lw_tbl := fun w h => List.mem_append_right _ (show w ∈ tables_1 from List.mem_append_left _ h)
theorem ab_tb2 : ∀ w ∈ tables_1_2, w ∈ lw_tbl := fun w h => List.mem_append_right _ (show w ∈ tables_1 from List.mem_append_right _ (List.mem_append_left _ h))
theorem ab_tb3 : ∀ w ∈ tables_1_3, w ∈ lw_tbl := fun w h => List.mem_append_right _ (show w ∈ tables_1 from List.mem_append_right _ (List.mem_append_right _ (List.mem_append_left _ h)))
theorem ab_tb4 : ∀ w ∈ tables_1_4, w ∈ lw_tbl := fun w h => List.mem_append_right _ (show w ∈ tables_1 from List.mem_append_right _ (List.mem_append_right _ (List.mem_append_right _ (List.mem_append_left _ h))))
theorem ab_tb5 : ∀ w ∈ tables_1_5, w ∈ lw_tbl := fun w h => List.mem_append_right _ (show w ∈ tables_1 from List.mem_append_right _ (List.mem_append_right _ (List.mem_append_right _ (List.mem_append_right _ (h)))))
theorem ab_pv1 : ∀ w ∈ k2_sels lw_privs_1, w ∈ lw_tbl := fun w h => by
  obtain ⟨q, hq, rfl⟩ := List.mem_map.mp h
  exact List.mem_append_left _ (List.mem_map.mpr ⟨q, (show q ∈ lw_privs from List.mem_append_left _ hq), rfl⟩)
theorem ab_pv2 : ∀ w ∈ k2_sels lw_privs_2, w ∈ lw_tbl := fun w h => by
  obtain ⟨q, hq, rfl⟩ := List.mem_map.mp h
  exact List.mem_append_left _ (List.mem_map.mpr ⟨q, (show q ∈ lw_privs from List.mem_append_right _ (List.mem_append_left _ hq)), rfl⟩)
theorem ab_pv3 : ∀ w ∈ k2_sels lw_privs_3, w ∈ lw_tbl := fun w h => by
  obtain ⟨q, hq, rfl⟩ := List.mem_map.mp h
  exact List.mem_append_left _ (List.mem_map.mpr ⟨q, (show q ∈ lw_privs from List.mem_append_right _ (List.mem_append_right _ (List.mem_append_left _ hq))), rfl⟩)
theorem ab_pv4 : ∀ w ∈ k2_sels lw_privs_4, w ∈ lw_tbl := fun w h => by
  obtain ⟨q, hq, rfl⟩ := List.mem_map.mp h
  exact List.mem_append_left _ (List.mem_map.mpr ⟨q, (show q ∈ lw_privs from List.mem_append_right _ (List.mem_append_right _ (List.mem_append_right _ (List.mem_append_left _ hq)))), rfl⟩)
theorem ab_pv5 : ∀ w ∈ k2_sels lw_privs_5, w ∈ lw_tbl := fun w h => by
  obtain ⟨q, hq, rfl⟩ := List.mem_map.mp h
  exact List.mem_append_left _ (List.mem_map.mpr ⟨q, (show q ∈ lw_privs from List.mem_append_right _ (List.mem_append_right _ (List.mem_append_right _ (List.mem_append_right _ (hq))))), rfl⟩)
set_option maxRecDepth 100000 in
theorem wd_0 : (Jvm.Cond.methodLink "NestedFoci$Changer" (3 : Nat) ({ cls := "java/lang/Object", name := "<init>", desc := "()V" } : Jvm.MethodName)) ∈ lw_tbl := ab_tb1 _ (List.mem_of_getElem? (i := 89) rfl)
set_option maxRecDepth 100000 in
theorem wd_1 : (Jvm.Cond.instanceMethod ({ cls := "java/lang/Object", name := "<init>", desc := "()V" } : Jvm.MethodName)) ∈ lw_tbl := ab_tb1 _ (List.mem_of_getElem? (i := 22) rfl)
set_option maxRecDepth 100000 in
theorem wd_2 : (Jvm.Cond.code ({ cls := "java/lang/Object", name := "<init>", desc := "()V" } : Jvm.MethodName) object_method_1_code (1 : Nat) (Option.none : Option Jvm.ClassFile.FieldType)) ∈ lw_tbl := ab_tb1 _ (List.mem_of_getElem? (i := 23) rfl)
set_option maxRecDepth 100000 in
theorem wd_3 : (Jvm.Cond.fieldLink "NestedFoci$Changer" (9 : Nat) "NestedFoci$Changer" "made" "LNestedFoci$Tally;") ∈ lw_tbl := ab_tb1 _ (List.mem_of_getElem? (i := 90) rfl)
set_option maxRecDepth 100000 in
theorem wd_4 : (Jvm.Cond.fieldLink "NestedFoci$Changer" (15 : Nat) "NestedFoci$Changer" "path" "LNestedFoci$Path;") ∈ lw_tbl := ab_tb1 _ (List.mem_of_getElem? (i := 91) rfl)
set_option maxRecDepth 100000 in
theorem wd_5 : (Jvm.Cond.fieldLink "NestedFoci$Changer" (19 : Nat) "NestedFoci$Changer" "how" "I") ∈ lw_tbl := ab_tb1 _ (List.mem_of_getElem? (i := 92) rfl)
set_option maxRecDepth 100000 in
theorem wd_6 : (Jvm.Cond.fieldLink "NestedFoci$Changer" (23 : Nat) "NestedFoci$Changer" "n" "I") ∈ lw_tbl := ab_tb1 _ (List.mem_of_getElem? (i := 93) rfl)
set_option maxRecDepth 100000 in
theorem wd_7 : (Jvm.Cond.fieldLink "NestedFoci$Changer" (26 : Nat) "NestedFoci$Changer" "given" "LNestedFoci$Thing;") ∈ lw_tbl := ab_tb1 _ (List.mem_of_getElem? (i := 94) rfl)
set_option maxRecDepth 100000 in
theorem wd_8 : (Jvm.Cond.fieldLink "NestedFoci$Changer" (30 : Nat) "NestedFoci$Changer" "focusCount" "I") ∈ lw_tbl := ab_tb1 _ (List.mem_of_getElem? (i := 95) rfl)
set_option maxRecDepth 100000 in
theorem wd_9 : (Jvm.Cond.fieldLink "NestedFoci$Changer" (33 : Nat) "NestedFoci$Changer" "isSpent" "Z") ∈ lw_tbl := ab_tb1 _ (List.mem_of_getElem? (i := 96) rfl)
set_option maxRecDepth 100000 in
theorem wd_10 : (Jvm.Cond.methodLink "NestedFoci$Changer" (37 : Nat) ({ cls := "NestedFoci$Changer", name := "changeWithin", desc := "(LNestedFoci$Thing;II)LNestedFoci$Thing;" } : Jvm.MethodName)) ∈ lw_tbl := ab_tb3 _ (List.mem_of_getElem? (i := 19) rfl)
set_option maxRecDepth 100000 in
theorem wd_11 : (Jvm.Cond.instanceMethod ({ cls := "NestedFoci$Changer", name := "changeWithin", desc := "(LNestedFoci$Thing;II)LNestedFoci$Thing;" } : Jvm.MethodName)) ∈ lw_tbl := ab_tb3 _ (List.mem_of_getElem? (i := 21) rfl)
set_option maxRecDepth 100000 in
theorem wd_12 : (Jvm.Cond.selects "NestedFoci$Changer" ({ cls := "NestedFoci$Changer", name := "changeWithin", desc := "(LNestedFoci$Thing;II)LNestedFoci$Thing;" } : Jvm.MethodName) ({ cls := "NestedFoci$Changer", name := "changeWithin", desc := "(LNestedFoci$Thing;II)LNestedFoci$Thing;" } : Jvm.MethodName)) ∈ lw_tbl := ab_pv1 _ (List.mem_of_getElem? (i := 13) rfl)
set_option maxRecDepth 100000 in
theorem wd_13 : (Jvm.Cond.methodLink "NestedFoci$Changer" (41 : Nat) ({ cls := "NestedFoci$Path", name := "size", desc := "()I" } : Jvm.MethodName)) ∈ lw_tbl := ab_tb3 _ (List.mem_of_getElem? (i := 23) rfl)
set_option maxRecDepth 100000 in
theorem wd_14 : (Jvm.Cond.instanceMethod ({ cls := "NestedFoci$Path", name := "size", desc := "()I" } : Jvm.MethodName)) ∈ lw_tbl := ab_tb2 _ (List.mem_of_getElem? (i := 215) rfl)
set_option maxRecDepth 100000 in
theorem wd_15 : (Jvm.Cond.selects "NestedFoci$Path" ({ cls := "NestedFoci$Path", name := "size", desc := "()I" } : Jvm.MethodName) ({ cls := "NestedFoci$Path", name := "size", desc := "()I" } : Jvm.MethodName)) ∈ lw_tbl := ab_tb2 _ (List.mem_of_getElem? (i := 216) rfl)
set_option maxRecDepth 100000 in
theorem wd_16 : (Jvm.Cond.methodLink "NestedFoci$Changer" (47 : Nat) ({ cls := "NestedFoci$Changer", name := "changeFocus", desc := "(LNestedFoci$Thing;)LNestedFoci$Thing;" } : Jvm.MethodName)) ∈ lw_tbl := ab_tb3 _ (List.mem_of_getElem? (i := 24) rfl)
set_option maxRecDepth 100000 in
theorem wd_17 : (Jvm.Cond.instanceMethod ({ cls := "NestedFoci$Changer", name := "changeFocus", desc := "(LNestedFoci$Thing;)LNestedFoci$Thing;" } : Jvm.MethodName)) ∈ lw_tbl := ab_tb3 _ (List.mem_of_getElem? (i := 26) rfl)
set_option maxRecDepth 100000 in
theorem wd_18 : (Jvm.Cond.selects "NestedFoci$Changer" ({ cls := "NestedFoci$Changer", name := "changeFocus", desc := "(LNestedFoci$Thing;)LNestedFoci$Thing;" } : Jvm.MethodName) ({ cls := "NestedFoci$Changer", name := "changeFocus", desc := "(LNestedFoci$Thing;)LNestedFoci$Thing;" } : Jvm.MethodName)) ∈ lw_tbl := ab_pv1 _ (List.mem_of_getElem? (i := 14) rfl)
set_option maxRecDepth 100000 in
theorem wd_19 : (Jvm.Cond.methodLink "NestedFoci$Changer" (51 : Nat) ({ cls := "NestedFoci$Path", name := "keeps", desc := "(ILNestedFoci$Thing;)Z" } : Jvm.MethodName)) ∈ lw_tbl := ab_tb3 _ (List.mem_of_getElem? (i := 90) rfl)
set_option maxRecDepth 100000 in
theorem wd_20 : (Jvm.Cond.instanceMethod ({ cls := "NestedFoci$Path", name := "keeps", desc := "(ILNestedFoci$Thing;)Z" } : Jvm.MethodName)) ∈ lw_tbl := ab_tb3 _ (List.mem_of_getElem? (i := 91) rfl)
set_option maxRecDepth 100000 in
theorem wd_21 : (Jvm.Cond.selects "NestedFoci$Path" ({ cls := "NestedFoci$Path", name := "keeps", desc := "(ILNestedFoci$Thing;)Z" } : Jvm.MethodName) ({ cls := "NestedFoci$Path", name := "keeps", desc := "(ILNestedFoci$Thing;)Z" } : Jvm.MethodName)) ∈ lw_tbl := ab_tb3 _ (List.mem_of_getElem? (i := 92) rfl)
set_option maxRecDepth 100000 in
theorem wd_22 : (Jvm.Cond.methodLink "NestedFoci$Changer" (55 : Nat) ({ cls := "NestedFoci$Thing", name := "size", desc := "()I" } : Jvm.MethodName)) ∈ lw_tbl := ab_tb3 _ (List.mem_of_getElem? (i := 53) rfl)
set_option maxRecDepth 100000 in
theorem wd_23 : (Jvm.Cond.instanceMethod ({ cls := "NestedFoci$Thing", name := "size", desc := "()I" } : Jvm.MethodName)) ∈ lw_tbl := ab_tb3 _ (List.mem_of_getElem? (i := 54) rfl)
set_option maxRecDepth 100000 in
theorem wd_24 : (Jvm.Cond.selects "NestedFoci$Thing" ({ cls := "NestedFoci$Thing", name := "size", desc := "()I" } : Jvm.MethodName) ({ cls := "NestedFoci$Thing", name := "size", desc := "()I" } : Jvm.MethodName)) ∈ lw_tbl := ab_tb3 _ (List.mem_of_getElem? (i := 55) rfl)
set_option maxRecDepth 100000 in
theorem wd_25 : (Jvm.Cond.methodLink "NestedFoci$Changer" (58 : Nat) ({ cls := "NestedFoci$Path", name := "enters", desc := "(ILNestedFoci$Thing;I)Z" } : Jvm.MethodName)) ∈ lw_tbl := ab_tb3 _ (List.mem_of_getElem? (i := 94) rfl)
set_option maxRecDepth 100000 in
theorem wd_26 : (Jvm.Cond.instanceMethod ({ cls := "NestedFoci$Path", name := "enters", desc := "(ILNestedFoci$Thing;I)Z" } : Jvm.MethodName)) ∈ lw_tbl := ab_tb3 _ (List.mem_of_getElem? (i := 95) rfl)
set_option maxRecDepth 100000 in
theorem wd_27 : (Jvm.Cond.selects "NestedFoci$Path" ({ cls := "NestedFoci$Path", name := "enters", desc := "(ILNestedFoci$Thing;I)Z" } : Jvm.MethodName) ({ cls := "NestedFoci$Path", name := "enters", desc := "(ILNestedFoci$Thing;I)Z" } : Jvm.MethodName)) ∈ lw_tbl := ab_tb3 _ (List.mem_of_getElem? (i := 96) rfl)
set_option maxRecDepth 100000 in
theorem wd_28 : (Jvm.Cond.methodLink "NestedFoci$Changer" (62 : Nat) ({ cls := "NestedFoci$Thing", name := "part", desc := "(I)LNestedFoci$Thing;" } : Jvm.MethodName)) ∈ lw_tbl := ab_tb3 _ (List.mem_of_getElem? (i := 57) rfl)
set_option maxRecDepth 100000 in
theorem wd_29 : (Jvm.Cond.instanceMethod ({ cls := "NestedFoci$Thing", name := "part", desc := "(I)LNestedFoci$Thing;" } : Jvm.MethodName)) ∈ lw_tbl := ab_tb3 _ (List.mem_of_getElem? (i := 58) rfl)
set_option maxRecDepth 100000 in
theorem wd_30 : (Jvm.Cond.selects "NestedFoci$Thing" ({ cls := "NestedFoci$Thing", name := "part", desc := "(I)LNestedFoci$Thing;" } : Jvm.MethodName) ({ cls := "NestedFoci$Thing", name := "part", desc := "(I)LNestedFoci$Thing;" } : Jvm.MethodName)) ∈ lw_tbl := ab_tb3 _ (List.mem_of_getElem? (i := 59) rfl)
set_option maxRecDepth 100000 in
theorem wd_31 : (Jvm.Cond.methodLink "NestedFoci$Changer" (66 : Nat) ({ cls := "NestedFoci$Path", name := "stepWithin", desc := "(I)I" } : Jvm.MethodName)) ∈ lw_tbl := ab_tb3 _ (List.mem_of_getElem? (i := 99) rfl)
set_option maxRecDepth 100000 in
theorem wd_32 : (Jvm.Cond.instanceMethod ({ cls := "NestedFoci$Path", name := "stepWithin", desc := "(I)I" } : Jvm.MethodName)) ∈ lw_tbl := ab_tb3 _ (List.mem_of_getElem? (i := 100) rfl)
set_option maxRecDepth 100000 in
theorem wd_33 : (Jvm.Cond.selects "NestedFoci$Path" ({ cls := "NestedFoci$Path", name := "stepWithin", desc := "(I)I" } : Jvm.MethodName) ({ cls := "NestedFoci$Path", name := "stepWithin", desc := "(I)I" } : Jvm.MethodName)) ∈ lw_tbl := ab_tb3 _ (List.mem_of_getElem? (i := 101) rfl)
set_option maxRecDepth 100000 in
theorem wd_34 : (Jvm.Cond.methodLink "NestedFoci$Changer" (70 : Nat) ({ cls := "NestedFoci$Thing", name := "copyOfParts", desc := "()[LNestedFoci$Thing;" } : Jvm.MethodName)) ∈ lw_tbl := ab_tb3 _ (List.mem_of_getElem? (i := 68) rfl)
set_option maxRecDepth 100000 in
theorem wd_35 : (Jvm.Cond.instanceMethod ({ cls := "NestedFoci$Thing", name := "copyOfParts", desc := "()[LNestedFoci$Thing;" } : Jvm.MethodName)) ∈ lw_tbl := ab_tb3 _ (List.mem_of_getElem? (i := 69) rfl)
set_option maxRecDepth 100000 in
theorem wd_36 : (Jvm.Cond.selects "NestedFoci$Thing" ({ cls := "NestedFoci$Thing", name := "copyOfParts", desc := "()[LNestedFoci$Thing;" } : Jvm.MethodName) ({ cls := "NestedFoci$Thing", name := "copyOfParts", desc := "()[LNestedFoci$Thing;" } : Jvm.MethodName)) ∈ lw_tbl := ab_tb3 _ (List.mem_of_getElem? (i := 70) rfl)
set_option maxRecDepth 100000 in
theorem wd_37 : (Jvm.Cond.methodLink "NestedFoci$Changer" (74 : Nat) ({ cls := "NestedFoci$Changer", name := "makeAround", desc := "(LNestedFoci$Thing;[LNestedFoci$Thing;)LNestedFoci$Thing;" } : Jvm.MethodName)) ∈ lw_tbl := ab_tb3 _ (List.mem_of_getElem? (i := 61) rfl)
set_option maxRecDepth 100000 in
theorem wd_38 : (Jvm.Cond.instanceMethod ({ cls := "NestedFoci$Changer", name := "makeAround", desc := "(LNestedFoci$Thing;[LNestedFoci$Thing;)LNestedFoci$Thing;" } : Jvm.MethodName)) ∈ lw_tbl := ab_tb3 _ (List.mem_of_getElem? (i := 63) rfl)
set_option maxRecDepth 100000 in
theorem wd_39 : (Jvm.Cond.selects "NestedFoci$Changer" ({ cls := "NestedFoci$Changer", name := "makeAround", desc := "(LNestedFoci$Thing;[LNestedFoci$Thing;)LNestedFoci$Thing;" } : Jvm.MethodName) ({ cls := "NestedFoci$Changer", name := "makeAround", desc := "(LNestedFoci$Thing;[LNestedFoci$Thing;)LNestedFoci$Thing;" } : Jvm.MethodName)) ∈ lw_tbl := ab_pv2 _ (List.mem_of_getElem? (i := 3) rfl)
set_option maxRecDepth 100000 in
theorem wd_40 : (Jvm.Cond.fieldLink "NestedFoci$Changer" (78 : Nat) "NestedFoci$Thing" "word" "I") ∈ lw_tbl := ab_tb1 _ (List.mem_of_getElem? (i := 160) rfl)
set_option maxRecDepth 100000 in
theorem wd_41 : (Jvm.Cond.methodLink "NestedFoci$Changer" (81 : Nat) ({ cls := "NestedFoci$Changer", name := "makeNumberOf", desc := "(LNestedFoci$Thing;I)LNestedFoci$Thing;" } : Jvm.MethodName)) ∈ lw_tbl := ab_tb3 _ (List.mem_of_getElem? (i := 28) rfl)
set_option maxRecDepth 100000 in
theorem wd_42 : (Jvm.Cond.instanceMethod ({ cls := "NestedFoci$Changer", name := "makeNumberOf", desc := "(LNestedFoci$Thing;I)LNestedFoci$Thing;" } : Jvm.MethodName)) ∈ lw_tbl := ab_tb3 _ (List.mem_of_getElem? (i := 30) rfl)
set_option maxRecDepth 100000 in
theorem wd_43 : (Jvm.Cond.selects "NestedFoci$Changer" ({ cls := "NestedFoci$Changer", name := "makeNumberOf", desc := "(LNestedFoci$Thing;I)LNestedFoci$Thing;" } : Jvm.MethodName) ({ cls := "NestedFoci$Changer", name := "makeNumberOf", desc := "(LNestedFoci$Thing;I)LNestedFoci$Thing;" } : Jvm.MethodName)) ∈ lw_tbl := ab_pv1 _ (List.mem_of_getElem? (i := 15) rfl)
set_option maxRecDepth 100000 in
theorem wd_44 : (Jvm.Cond.classLink "NestedFoci$Changer" (56 : Nat) "NestedFoci$Thing") ∈ lw_tbl := ab_tb3 _ (List.mem_of_getElem? (i := 32) rfl)
set_option maxRecDepth 100000 in
theorem wd_45 : (Jvm.Cond.arrayOver (Jvm.ClassFile.FieldType.object "NestedFoci$Thing")) ∈ lw_tbl := ab_tb1 _ (List.mem_of_getElem? (i := 119) rfl)
set_option maxRecDepth 100000 in
theorem wd_46 : (Jvm.Cond.methodLink "NestedFoci$Changer" (85 : Nat) ({ cls := "NestedFoci$Changer", name := "make", desc := "(II[LNestedFoci$Thing;LNestedFoci$Thing;)LNestedFoci$Thing;" } : Jvm.MethodName)) ∈ lw_tbl := ab_tb3 _ (List.mem_of_getElem? (i := 33) rfl)
set_option maxRecDepth 100000 in
theorem wd_47 : (Jvm.Cond.instanceMethod ({ cls := "NestedFoci$Changer", name := "make", desc := "(II[LNestedFoci$Thing;LNestedFoci$Thing;)LNestedFoci$Thing;" } : Jvm.MethodName)) ∈ lw_tbl := ab_tb3 _ (List.mem_of_getElem? (i := 35) rfl)
set_option maxRecDepth 100000 in
theorem wd_48 : (Jvm.Cond.selects "NestedFoci$Changer" ({ cls := "NestedFoci$Changer", name := "make", desc := "(II[LNestedFoci$Thing;LNestedFoci$Thing;)LNestedFoci$Thing;" } : Jvm.MethodName) ({ cls := "NestedFoci$Changer", name := "make", desc := "(II[LNestedFoci$Thing;LNestedFoci$Thing;)LNestedFoci$Thing;" } : Jvm.MethodName)) ∈ lw_tbl := ab_pv2 _ (List.mem_of_getElem? (i := 0) rfl)
set_option maxRecDepth 100000 in
theorem wd_49 : (Jvm.Cond.methodLink "NestedFoci$Changer" (89 : Nat) ({ cls := "NestedFoci$Changer", name := "justOne", desc := "(LNestedFoci$Thing;)[LNestedFoci$Thing;" } : Jvm.MethodName)) ∈ lw_tbl := ab_tb3 _ (List.mem_of_getElem? (i := 43) rfl)
set_option maxRecDepth 100000 in
theorem wd_50 : (Jvm.Cond.static ({ cls := "NestedFoci$Changer", name := "justOne", desc := "(LNestedFoci$Thing;)[LNestedFoci$Thing;" } : Jvm.MethodName)) ∈ lw_tbl := ab_tb3 _ (List.mem_of_getElem? (i := 44) rfl)
set_option maxRecDepth 100000 in
theorem wd_51 : (Jvm.Cond.methodLink "NestedFoci$Changer" (93 : Nat) ({ cls := "NestedFoci$Changer", name := "changeOrder", desc := "(LNestedFoci$Thing;)LNestedFoci$Thing;" } : Jvm.MethodName)) ∈ lw_tbl := ab_tb3 _ (List.mem_of_getElem? (i := 46) rfl)
set_option maxRecDepth 100000 in
theorem wd_52 : (Jvm.Cond.instanceMethod ({ cls := "NestedFoci$Changer", name := "changeOrder", desc := "(LNestedFoci$Thing;)LNestedFoci$Thing;" } : Jvm.MethodName)) ∈ lw_tbl := ab_tb3 _ (List.mem_of_getElem? (i := 48) rfl)
set_option maxRecDepth 100000 in
theorem wd_53 : (Jvm.Cond.selects "NestedFoci$Changer" ({ cls := "NestedFoci$Changer", name := "changeOrder", desc := "(LNestedFoci$Thing;)LNestedFoci$Thing;" } : Jvm.MethodName) ({ cls := "NestedFoci$Changer", name := "changeOrder", desc := "(LNestedFoci$Thing;)LNestedFoci$Thing;" } : Jvm.MethodName)) ∈ lw_tbl := ab_pv2 _ (List.mem_of_getElem? (i := 2) rfl)
set_option maxRecDepth 100000 in
theorem wd_54 : (Jvm.Cond.fieldLink "NestedFoci$Changer" (96 : Nat) "NestedFoci$Thing" "kind" "I") ∈ lw_tbl := ab_tb1 _ (List.mem_of_getElem? (i := 155) rfl)
set_option maxRecDepth 100000 in
theorem wd_55 : (Jvm.Cond.methodLink "NestedFoci$Changer" (99 : Nat) ({ cls := "NestedFoci$Changer", name := "reversed", desc := "(LNestedFoci$Thing;)[LNestedFoci$Thing;" } : Jvm.MethodName)) ∈ lw_tbl := ab_tb3 _ (List.mem_of_getElem? (i := 50) rfl)
set_option maxRecDepth 100000 in
theorem wd_56 : (Jvm.Cond.static ({ cls := "NestedFoci$Changer", name := "reversed", desc := "(LNestedFoci$Thing;)[LNestedFoci$Thing;" } : Jvm.MethodName)) ∈ lw_tbl := ab_tb3 _ (List.mem_of_getElem? (i := 51) rfl)
set_option maxRecDepth 100000 in
theorem wd_57 : (Jvm.Cond.methodLink "NestedFoci$Changer" (102 : Nat) ({ cls := "NestedFoci$Changer", name := "sorted", desc := "(LNestedFoci$Thing;)[LNestedFoci$Thing;" } : Jvm.MethodName)) ∈ lw_tbl := ab_tb3 _ (List.mem_of_getElem? (i := 65) rfl)
set_option maxRecDepth 100000 in
theorem wd_58 : (Jvm.Cond.static ({ cls := "NestedFoci$Changer", name := "sorted", desc := "(LNestedFoci$Thing;)[LNestedFoci$Thing;" } : Jvm.MethodName)) ∈ lw_tbl := ab_tb3 _ (List.mem_of_getElem? (i := 66) rfl)
set_option maxRecDepth 100000 in
theorem wd_59 : (Jvm.Cond.methodLink "NestedFoci$Changer" (105 : Nat) ({ cls := "NestedFoci$Changer", name := "turned", desc := "(LNestedFoci$Thing;)[LNestedFoci$Thing;" } : Jvm.MethodName)) ∈ lw_tbl := ab_tb3 _ (List.mem_of_getElem? (i := 87) rfl)
set_option maxRecDepth 100000 in
theorem wd_60 : (Jvm.Cond.static ({ cls := "NestedFoci$Changer", name := "turned", desc := "(LNestedFoci$Thing;)[LNestedFoci$Thing;" } : Jvm.MethodName)) ∈ lw_tbl := ab_tb3 _ (List.mem_of_getElem? (i := 88) rfl)
set_option maxRecDepth 100000 in
theorem wd_61 : (Jvm.Cond.methodLink "NestedFoci$Changer" (108 : Nat) ({ cls := "NestedFoci$Changer", name := "mayMake", desc := "()Z" } : Jvm.MethodName)) ∈ lw_tbl := ab_tb3 _ (List.mem_of_getElem? (i := 37) rfl)
set_option maxRecDepth 100000 in
theorem wd_62 : (Jvm.Cond.instanceMethod ({ cls := "NestedFoci$Changer", name := "mayMake", desc := "()Z" } : Jvm.MethodName)) ∈ lw_tbl := ab_tb3 _ (List.mem_of_getElem? (i := 39) rfl)
set_option maxRecDepth 100000 in
theorem wd_63 : (Jvm.Cond.selects "NestedFoci$Changer" ({ cls := "NestedFoci$Changer", name := "mayMake", desc := "()Z" } : Jvm.MethodName) ({ cls := "NestedFoci$Changer", name := "mayMake", desc := "()Z" } : Jvm.MethodName)) ∈ lw_tbl := ab_pv2 _ (List.mem_of_getElem? (i := 1) rfl)
set_option maxRecDepth 100000 in
theorem wd_64 : (Jvm.Cond.instantiable "NestedFoci$Thing" (6 : Nat)) ∈ lw_tbl := ab_tb1 _ (List.mem_of_getElem? (i := 145) rfl)
set_option maxRecDepth 100000 in
theorem wd_65 : (Jvm.Cond.initialized "NestedFoci$Thing") ∈ lw_tbl := ab_tb1 _ (List.mem_of_getElem? (i := 10) rfl)
set_option maxRecDepth 100000 in
theorem wd_66 : (Jvm.Cond.arrayClass Jvm.ClassFile.FieldType.int) ∈ lw_tbl := ab_tb1 _ (List.mem_of_getElem? (i := 43) rfl)
set_option maxRecDepth 100000 in
theorem wd_67 : (Jvm.Cond.methodLink "NestedFoci$Changer" (112 : Nat) ({ cls := "NestedFoci$Thing", name := "<init>", desc := "(II[I[LNestedFoci$Thing;)V" } : Jvm.MethodName)) ∈ lw_tbl := ab_tb3 _ (List.mem_of_getElem? (i := 42) rfl)
set_option maxRecDepth 100000 in
theorem wd_68 : (Jvm.Cond.instanceMethod ({ cls := "NestedFoci$Thing", name := "<init>", desc := "(II[I[LNestedFoci$Thing;)V" } : Jvm.MethodName)) ∈ lw_tbl := ab_tb1 _ (List.mem_of_getElem? (i := 147) rfl)
set_option maxRecDepth 100000 in
theorem wd_69 : (Jvm.Cond.fieldLinkNest "NestedFoci$Changer" (115 : Nat) "NestedFoci$Thing" "keys" "[I" "NestedFoci") ∈ lw_tbl := ab_tb1 _ (List.mem_of_getElem? (i := 172) rfl)
set_option maxRecDepth 100000 in
theorem wd_70 : (Jvm.Cond.methodLink "NestedFoci$Changer" (119 : Nat) ({ cls := "NestedFoci$Tally", name := "adds", desc := "(I)Z" } : Jvm.MethodName)) ∈ lw_tbl := ab_tb3 _ (List.mem_of_getElem? (i := 41) rfl)
set_option maxRecDepth 100000 in
theorem wd_71 : (Jvm.Cond.instanceMethod ({ cls := "NestedFoci$Tally", name := "adds", desc := "(I)Z" } : Jvm.MethodName)) ∈ lw_tbl := ab_tb2 _ (List.mem_of_getElem? (i := 167) rfl)
set_option maxRecDepth 100000 in
theorem wd_72 : (Jvm.Cond.selects "NestedFoci$Tally" ({ cls := "NestedFoci$Tally", name := "adds", desc := "(I)Z" } : Jvm.MethodName) ({ cls := "NestedFoci$Tally", name := "adds", desc := "(I)Z" } : Jvm.MethodName)) ∈ lw_tbl := ab_tb2 _ (List.mem_of_getElem? (i := 168) rfl)
set_option maxRecDepth 100000 in
theorem wd_73 : (Jvm.Cond.methodLinkNest "NestedFoci$Changer" (125 : Nat) ({ cls := "NestedFoci$Thing", name := "compare", desc := "(LNestedFoci$Thing;LNestedFoci$Thing;I)I" } : Jvm.MethodName) "NestedFoci") ∈ lw_tbl := ab_tb3 _ (List.mem_of_getElem? (i := 73) rfl)
set_option maxRecDepth 100000 in
theorem wd_74 : (Jvm.Cond.static ({ cls := "NestedFoci$Thing", name := "compare", desc := "(LNestedFoci$Thing;LNestedFoci$Thing;I)I" } : Jvm.MethodName)) ∈ lw_tbl := ab_tb3 _ (List.mem_of_getElem? (i := 74) rfl)
set_option maxRecDepth 100000 in
theorem wd_75 : (Jvm.Cond.methodLink "NestedFoci$Difference" (3 : Nat) ({ cls := "java/lang/Object", name := "<init>", desc := "()V" } : Jvm.MethodName)) ∈ lw_tbl := ab_tb1 _ (List.mem_of_getElem? (i := 135) rfl)
set_option maxRecDepth 100000 in
theorem wd_76 : (Jvm.Cond.fieldLink "NestedFoci$Difference" (9 : Nat) "NestedFoci$Difference" "places" "[I") ∈ lw_tbl := ab_tb1 _ (List.mem_of_getElem? (i := 136) rfl)
set_option maxRecDepth 100000 in
theorem wd_77 : (Jvm.Cond.fieldLink "NestedFoci$Difference" (15 : Nat) "NestedFoci$Difference" "size" "I") ∈ lw_tbl := ab_tb1 _ (List.mem_of_getElem? (i := 137) rfl)
set_option maxRecDepth 100000 in
theorem wd_78 : (Jvm.Cond.methodLink "NestedFoci$Difference" (19 : Nat) ({ cls := "NestedFoci$Difference", name := "findWithin", desc := "(LNestedFoci$Thing;LNestedFoci$Thing;II)V" } : Jvm.MethodName)) ∈ lw_tbl := ab_tb4 _ (List.mem_of_getElem? (i := 21) rfl)
set_option maxRecDepth 100000 in
theorem wd_79 : (Jvm.Cond.instanceMethod ({ cls := "NestedFoci$Difference", name := "findWithin", desc := "(LNestedFoci$Thing;LNestedFoci$Thing;II)V" } : Jvm.MethodName)) ∈ lw_tbl := ab_tb4 _ (List.mem_of_getElem? (i := 23) rfl)
set_option maxRecDepth 100000 in
theorem wd_80 : (Jvm.Cond.selects "NestedFoci$Difference" ({ cls := "NestedFoci$Difference", name := "findWithin", desc := "(LNestedFoci$Thing;LNestedFoci$Thing;II)V" } : Jvm.MethodName) ({ cls := "NestedFoci$Difference", name := "findWithin", desc := "(LNestedFoci$Thing;LNestedFoci$Thing;II)V" } : Jvm.MethodName)) ∈ lw_tbl := ab_pv2 _ (List.mem_of_getElem? (i := 8) rfl)
set_option maxRecDepth 100000 in
theorem wd_81 : (Jvm.Cond.methodLink "NestedFoci$Difference" (23 : Nat) ({ cls := "NestedFoci$Thing", name := "areAlike", desc := "(LNestedFoci$Thing;LNestedFoci$Thing;)Z" } : Jvm.MethodName)) ∈ lw_tbl := ab_tb4 _ (List.mem_of_getElem? (i := 25) rfl)
set_option maxRecDepth 100000 in
theorem wd_82 : (Jvm.Cond.static ({ cls := "NestedFoci$Thing", name := "areAlike", desc := "(LNestedFoci$Thing;LNestedFoci$Thing;)Z" } : Jvm.MethodName)) ∈ lw_tbl := ab_tb3 _ (List.mem_of_getElem? (i := 215) rfl)
set_option maxRecDepth 100000 in
theorem wd_83 : (Jvm.Cond.methodLink "NestedFoci$Difference" (29 : Nat) ({ cls := "NestedFoci$Thing", name := "isFramedLike", desc := "(LNestedFoci$Thing;)Z" } : Jvm.MethodName)) ∈ lw_tbl := ab_tb4 _ (List.mem_of_getElem? (i := 26) rfl)
set_option maxRecDepth 100000 in
theorem wd_84 : (Jvm.Cond.instanceMethod ({ cls := "NestedFoci$Thing", name := "isFramedLike", desc := "(LNestedFoci$Thing;)Z" } : Jvm.MethodName)) ∈ lw_tbl := ab_tb4 _ (List.mem_of_getElem? (i := 27) rfl)
set_option maxRecDepth 100000 in
theorem wd_85 : (Jvm.Cond.selects "NestedFoci$Thing" ({ cls := "NestedFoci$Thing", name := "isFramedLike", desc := "(LNestedFoci$Thing;)Z" } : Jvm.MethodName) ({ cls := "NestedFoci$Thing", name := "isFramedLike", desc := "(LNestedFoci$Thing;)Z" } : Jvm.MethodName)) ∈ lw_tbl := ab_tb4 _ (List.mem_of_getElem? (i := 28) rfl)
set_option maxRecDepth 100000 in
theorem wd_86 : (Jvm.Cond.methodLink "NestedFoci$Difference" (33 : Nat) ({ cls := "NestedFoci$Difference", name := "add", desc := "(I)V" } : Jvm.MethodName)) ∈ lw_tbl := ab_tb4 _ (List.mem_of_getElem? (i := 30) rfl)
set_option maxRecDepth 100000 in
theorem wd_87 : (Jvm.Cond.instanceMethod ({ cls := "NestedFoci$Difference", name := "add", desc := "(I)V" } : Jvm.MethodName)) ∈ lw_tbl := ab_tb4 _ (List.mem_of_getElem? (i := 32) rfl)
set_option maxRecDepth 100000 in
theorem wd_88 : (Jvm.Cond.selects "NestedFoci$Difference" ({ cls := "NestedFoci$Difference", name := "add", desc := "(I)V" } : Jvm.MethodName) ({ cls := "NestedFoci$Difference", name := "add", desc := "(I)V" } : Jvm.MethodName)) ∈ lw_tbl := ab_pv2 _ (List.mem_of_getElem? (i := 9) rfl)
set_option maxRecDepth 100000 in
theorem wd_89 : (Jvm.Cond.methodLink "NestedFoci$Difference" (37 : Nat) ({ cls := "NestedFoci$Thing", name := "size", desc := "()I" } : Jvm.MethodName)) ∈ lw_tbl := ab_tb4 _ (List.mem_of_getElem? (i := 34) rfl)
set_option maxRecDepth 100000 in
theorem wd_90 : (Jvm.Cond.methodLink "NestedFoci$Difference" (40 : Nat) ({ cls := "NestedFoci$Thing", name := "part", desc := "(I)LNestedFoci$Thing;" } : Jvm.MethodName)) ∈ lw_tbl := ab_tb4 _ (List.mem_of_getElem? (i := 35) rfl)
set_option maxRecDepth 100000 in
theorem wd_91 : (Jvm.Cond.fieldLink "NestedFoci$Difference" (44 : Nat) "NestedFoci$Thing" "nodes" "I") ∈ lw_tbl := ab_tb1 _ (List.mem_of_getElem? (i := 165) rfl)
set_option maxRecDepth 100000 in
theorem wd_92 : (Jvm.Cond.methodLink "NestedFoci$Foci" (3 : Nat) ({ cls := "java/lang/Object", name := "<init>", desc := "()V" } : Jvm.MethodName)) ∈ lw_tbl := ab_tb1 _ (List.mem_of_getElem? (i := 117) rfl)
set_option maxRecDepth 100000 in
theorem wd_93 : (Jvm.Cond.classLink "NestedFoci$Foci" (9 : Nat) "NestedFoci$Thing") ∈ lw_tbl := ab_tb1 _ (List.mem_of_getElem? (i := 118) rfl)
set_option maxRecDepth 100000 in
theorem wd_94 : (Jvm.Cond.fieldLink "NestedFoci$Foci" (11 : Nat) "NestedFoci$Foci" "found" "[LNestedFoci$Thing;") ∈ lw_tbl := ab_tb1 _ (List.mem_of_getElem? (i := 120) rfl)
set_option maxRecDepth 100000 in
theorem wd_95 : (Jvm.Cond.fieldLink "NestedFoci$Foci" (17 : Nat) "NestedFoci$Foci" "places" "[I") ∈ lw_tbl := ab_tb1 _ (List.mem_of_getElem? (i := 121) rfl)
set_option maxRecDepth 100000 in
theorem wd_96 : (Jvm.Cond.fieldLink "NestedFoci$Foci" (21 : Nat) "NestedFoci$Foci" "size" "I") ∈ lw_tbl := ab_tb1 _ (List.mem_of_getElem? (i := 122) rfl)
set_option maxRecDepth 100000 in
theorem wd_97 : (Jvm.Cond.methodLink "NestedFoci$Foci" (25 : Nat) ({ cls := "NestedFoci$Foci", name := "findWithin", desc := "(LNestedFoci$Thing;LNestedFoci$Path;II)V" } : Jvm.MethodName)) ∈ lw_tbl := ab_tb3 _ (List.mem_of_getElem? (i := 139) rfl)
set_option maxRecDepth 100000 in
theorem wd_98 : (Jvm.Cond.instanceMethod ({ cls := "NestedFoci$Foci", name := "findWithin", desc := "(LNestedFoci$Thing;LNestedFoci$Path;II)V" } : Jvm.MethodName)) ∈ lw_tbl := ab_tb3 _ (List.mem_of_getElem? (i := 141) rfl)
set_option maxRecDepth 100000 in
theorem wd_99 : (Jvm.Cond.selects "NestedFoci$Foci" ({ cls := "NestedFoci$Foci", name := "findWithin", desc := "(LNestedFoci$Thing;LNestedFoci$Path;II)V" } : Jvm.MethodName) ({ cls := "NestedFoci$Foci", name := "findWithin", desc := "(LNestedFoci$Thing;LNestedFoci$Path;II)V" } : Jvm.MethodName)) ∈ lw_tbl := ab_pv2 _ (List.mem_of_getElem? (i := 5) rfl)
set_option maxRecDepth 100000 in
theorem wd_100 : (Jvm.Cond.methodLink "NestedFoci$Foci" (29 : Nat) ({ cls := "NestedFoci$Path", name := "size", desc := "()I" } : Jvm.MethodName)) ∈ lw_tbl := ab_tb3 _ (List.mem_of_getElem? (i := 143) rfl)
set_option maxRecDepth 100000 in
theorem wd_101 : (Jvm.Cond.methodLink "NestedFoci$Foci" (34 : Nat) ({ cls := "NestedFoci$Foci", name := "add", desc := "(LNestedFoci$Thing;)V" } : Jvm.MethodName)) ∈ lw_tbl := ab_tb3 _ (List.mem_of_getElem? (i := 144) rfl)
set_option maxRecDepth 100000 in
theorem wd_102 : (Jvm.Cond.instanceMethod ({ cls := "NestedFoci$Foci", name := "add", desc := "(LNestedFoci$Thing;)V" } : Jvm.MethodName)) ∈ lw_tbl := ab_tb3 _ (List.mem_of_getElem? (i := 146) rfl)
set_option maxRecDepth 100000 in
theorem wd_103 : (Jvm.Cond.selects "NestedFoci$Foci" ({ cls := "NestedFoci$Foci", name := "add", desc := "(LNestedFoci$Thing;)V" } : Jvm.MethodName) ({ cls := "NestedFoci$Foci", name := "add", desc := "(LNestedFoci$Thing;)V" } : Jvm.MethodName)) ∈ lw_tbl := ab_pv2 _ (List.mem_of_getElem? (i := 6) rfl)
set_option maxRecDepth 100000 in
theorem wd_104 : (Jvm.Cond.methodLink "NestedFoci$Foci" (38 : Nat) ({ cls := "NestedFoci$Path", name := "keeps", desc := "(ILNestedFoci$Thing;)Z" } : Jvm.MethodName)) ∈ lw_tbl := ab_tb3 _ (List.mem_of_getElem? (i := 148) rfl)
set_option maxRecDepth 100000 in
theorem wd_105 : (Jvm.Cond.methodLink "NestedFoci$Foci" (42 : Nat) ({ cls := "NestedFoci$Thing", name := "size", desc := "()I" } : Jvm.MethodName)) ∈ lw_tbl := ab_tb3 _ (List.mem_of_getElem? (i := 149) rfl)
set_option maxRecDepth 100000 in
theorem wd_106 : (Jvm.Cond.methodLink "NestedFoci$Foci" (43 : Nat) ({ cls := "NestedFoci$Path", name := "enters", desc := "(ILNestedFoci$Thing;I)Z" } : Jvm.MethodName)) ∈ lw_tbl := ab_tb3 _ (List.mem_of_getElem? (i := 150) rfl)
set_option maxRecDepth 100000 in
theorem wd_107 : (Jvm.Cond.methodLink "NestedFoci$Foci" (47 : Nat) ({ cls := "NestedFoci$Thing", name := "part", desc := "(I)LNestedFoci$Thing;" } : Jvm.MethodName)) ∈ lw_tbl := ab_tb3 _ (List.mem_of_getElem? (i := 151) rfl)
set_option maxRecDepth 100000 in
theorem wd_108 : (Jvm.Cond.methodLink "NestedFoci$Foci" (51 : Nat) ({ cls := "NestedFoci$Path", name := "stepWithin", desc := "(I)I" } : Jvm.MethodName)) ∈ lw_tbl := ab_tb3 _ (List.mem_of_getElem? (i := 152) rfl)
set_option maxRecDepth 100000 in
theorem wd_109 : (Jvm.Cond.methodLink "NestedFoci$Foci" (55 : Nat) ({ cls := "NestedFoci$Foci", name := "numbersWithin", desc := "(LNestedFoci$Thing;I)J" } : Jvm.MethodName)) ∈ lw_tbl := ab_tb3 _ (List.mem_of_getElem? (i := 190) rfl)
set_option maxRecDepth 100000 in
theorem wd_110 : (Jvm.Cond.static ({ cls := "NestedFoci$Foci", name := "numbersWithin", desc := "(LNestedFoci$Thing;I)J" } : Jvm.MethodName)) ∈ lw_tbl := ab_tb3 _ (List.mem_of_getElem? (i := 191) rfl)
set_option maxRecDepth 100000 in
theorem wd_111 : (Jvm.Cond.fieldLink "NestedFoci$Foci" (59 : Nat) "NestedFoci$Thing" "kind" "I") ∈ lw_tbl := ab_tb1 _ (List.mem_of_getElem? (i := 157) rfl)
set_option maxRecDepth 100000 in
theorem wd_112 : (Jvm.Cond.fieldLink "NestedFoci$Foci" (62 : Nat) "NestedFoci$Thing" "word" "I") ∈ lw_tbl := ab_tb1 _ (List.mem_of_getElem? (i := 161) rfl)
set_option maxRecDepth 100000 in
theorem wd_113 : (Jvm.Cond.methodLinkNest "NestedFoci$Foci" (65 : Nat) ({ cls := "NestedFoci$Thing", name := "compare", desc := "(LNestedFoci$Thing;LNestedFoci$Thing;I)I" } : Jvm.MethodName) "NestedFoci") ∈ lw_tbl := ab_tb3 _ (List.mem_of_getElem? (i := 201) rfl)
set_option maxRecDepth 100000 in
theorem wd_114 : (Jvm.Cond.methodLink "NestedFoci$Foci" (69 : Nat) ({ cls := "NestedFoci$Foci", name := "isLikeOneAhead", desc := "(I)Z" } : Jvm.MethodName)) ∈ lw_tbl := ab_tb3 _ (List.mem_of_getElem? (i := 210) rfl)
set_option maxRecDepth 100000 in
theorem wd_115 : (Jvm.Cond.instanceMethod ({ cls := "NestedFoci$Foci", name := "isLikeOneAhead", desc := "(I)Z" } : Jvm.MethodName)) ∈ lw_tbl := ab_tb3 _ (List.mem_of_getElem? (i := 212) rfl)
set_option maxRecDepth 100000 in
theorem wd_116 : (Jvm.Cond.selects "NestedFoci$Foci" ({ cls := "NestedFoci$Foci", name := "isLikeOneAhead", desc := "(I)Z" } : Jvm.MethodName) ({ cls := "NestedFoci$Foci", name := "isLikeOneAhead", desc := "(I)Z" } : Jvm.MethodName)) ∈ lw_tbl := ab_pv2 _ (List.mem_of_getElem? (i := 7) rfl)
set_option maxRecDepth 100000 in
theorem wd_117 : (Jvm.Cond.methodLink "NestedFoci$Foci" (73 : Nat) ({ cls := "NestedFoci$Thing", name := "areAlike", desc := "(LNestedFoci$Thing;LNestedFoci$Thing;)Z" } : Jvm.MethodName)) ∈ lw_tbl := ab_tb3 _ (List.mem_of_getElem? (i := 214) rfl)
set_option maxRecDepth 100000 in
theorem wd_118 : (Jvm.Cond.fieldLink "NestedFoci$Foci" (77 : Nat) "NestedFoci$Thing" "height" "I") ∈ lw_tbl := ab_tb1 _ (List.mem_of_getElem? (i := 170) rfl)
set_option maxRecDepth 100000 in
theorem wd_119 : (Jvm.Cond.methodLink "NestedFoci$Foci" (80 : Nat) ({ cls := "java/lang/Math", name := "max", desc := "(II)I" } : Jvm.MethodName)) ∈ lw_tbl := ab_tb3 _ (List.mem_of_getElem? (i := 221) rfl)
set_option maxRecDepth 100000 in
theorem wd_120 : (Jvm.Cond.static ({ cls := "java/lang/Math", name := "max", desc := "(II)I" } : Jvm.MethodName)) ∈ lw_tbl := ab_tb1 _ (List.mem_of_getElem? (i := 151) rfl)
set_option maxRecDepth 100000 in
theorem wd_121 : (Jvm.Cond.fieldLink "NestedFoci$Foci" (86 : Nat) "NestedFoci$Thing" "nodes" "I") ∈ lw_tbl := ab_tb1 _ (List.mem_of_getElem? (i := 167) rfl)
set_option maxRecDepth 100000 in
theorem wd_122 : (Jvm.Cond.methodLink "NestedFoci$Foci" (89 : Nat) ({ cls := "NestedFoci$Foci", name := "isAhead", desc := "(LNestedFoci$Thing;LNestedFoci$Thing;I)Z" } : Jvm.MethodName)) ∈ lw_tbl := ab_tb3 _ (List.mem_of_getElem? (i := 234) rfl)
set_option maxRecDepth 100000 in
theorem wd_123 : (Jvm.Cond.static ({ cls := "NestedFoci$Foci", name := "isAhead", desc := "(LNestedFoci$Thing;LNestedFoci$Thing;I)Z" } : Jvm.MethodName)) ∈ lw_tbl := ab_tb3 _ (List.mem_of_getElem? (i := 235) rfl)
set_option maxRecDepth 100000 in
theorem wd_124 : (Jvm.Cond.methodLink "NestedFoci$Parts" (3 : Nat) ({ cls := "java/lang/Object", name := "<init>", desc := "()V" } : Jvm.MethodName)) ∈ lw_tbl := ab_tb2 _ (List.mem_of_getElem? (i := 85) rfl)
set_option maxRecDepth 100000 in
theorem wd_125 : (Jvm.Cond.fieldLink "NestedFoci$Parts" (9 : Nat) "NestedFoci$Parts" "keys" "[I") ∈ lw_tbl := ab_tb2 _ (List.mem_of_getElem? (i := 87) rfl)
set_option maxRecDepth 100000 in
theorem wd_126 : (Jvm.Cond.classLink "NestedFoci$Parts" (15 : Nat) "NestedFoci$Thing") ∈ lw_tbl := ab_tb2 _ (List.mem_of_getElem? (i := 86) rfl)
set_option maxRecDepth 100000 in
theorem wd_127 : (Jvm.Cond.fieldLink "NestedFoci$Parts" (17 : Nat) "NestedFoci$Parts" "parts" "[LNestedFoci$Thing;") ∈ lw_tbl := ab_tb2 _ (List.mem_of_getElem? (i := 88) rfl)
set_option maxRecDepth 100000 in
theorem wd_128 : (Jvm.Cond.fieldLink "NestedFoci$Parts" (21 : Nat) "NestedFoci$Parts" "size" "I") ∈ lw_tbl := ab_tb2 _ (List.mem_of_getElem? (i := 89) rfl)
set_option maxRecDepth 100000 in
theorem wd_129 : (Jvm.Cond.methodLink "NestedFoci$Parts" (25 : Nat) ({ cls := "NestedFoci$Parts", name := "insert", desc := "(IILNestedFoci$Thing;)V" } : Jvm.MethodName)) ∈ lw_tbl := ab_tb2 _ (List.mem_of_getElem? (i := 101) rfl)
set_option maxRecDepth 100000 in
theorem wd_130 : (Jvm.Cond.instanceMethod ({ cls := "NestedFoci$Parts", name := "insert", desc := "(IILNestedFoci$Thing;)V" } : Jvm.MethodName)) ∈ lw_tbl := ab_tb2 _ (List.mem_of_getElem? (i := 103) rfl)
set_option maxRecDepth 100000 in
theorem wd_131 : (Jvm.Cond.selects "NestedFoci$Parts" ({ cls := "NestedFoci$Parts", name := "insert", desc := "(IILNestedFoci$Thing;)V" } : Jvm.MethodName) ({ cls := "NestedFoci$Parts", name := "insert", desc := "(IILNestedFoci$Thing;)V" } : Jvm.MethodName)) ∈ lw_tbl := ab_pv1 _ (List.mem_of_getElem? (i := 2) rfl)
set_option maxRecDepth 100000 in
theorem wd_132 : (Jvm.Cond.methodLink "NestedFoci$Parts" (29 : Nat) ({ cls := "NestedFoci$Parts", name := "placeOf", desc := "(I)I" } : Jvm.MethodName)) ∈ lw_tbl := ab_tb2 _ (List.mem_of_getElem? (i := 130) rfl)
set_option maxRecDepth 100000 in
theorem wd_133 : (Jvm.Cond.instanceMethod ({ cls := "NestedFoci$Parts", name := "placeOf", desc := "(I)I" } : Jvm.MethodName)) ∈ lw_tbl := ab_tb2 _ (List.mem_of_getElem? (i := 132) rfl)
set_option maxRecDepth 100000 in
theorem wd_134 : (Jvm.Cond.selects "NestedFoci$Parts" ({ cls := "NestedFoci$Parts", name := "placeOf", desc := "(I)I" } : Jvm.MethodName) ({ cls := "NestedFoci$Parts", name := "placeOf", desc := "(I)I" } : Jvm.MethodName)) ∈ lw_tbl := ab_pv1 _ (List.mem_of_getElem? (i := 5) rfl)
set_option maxRecDepth 100000 in
theorem wd_135 : (Jvm.Cond.methodLink "NestedFoci$Parts" (33 : Nat) ({ cls := "NestedFoci$Thing", name := "<init>", desc := "(II[I[LNestedFoci$Thing;)V" } : Jvm.MethodName)) ∈ lw_tbl := ab_tb2 _ (List.mem_of_getElem? (i := 109) rfl)
set_option maxRecDepth 100000 in
theorem wd_136 : (Jvm.Cond.methodLink "NestedFoci$Path" (3 : Nat) ({ cls := "java/lang/Object", name := "<init>", desc := "()V" } : Jvm.MethodName)) ∈ lw_tbl := ab_tb1 _ (List.mem_of_getElem? (i := 206) rfl)
set_option maxRecDepth 100000 in
theorem wd_137 : (Jvm.Cond.fieldLink "NestedFoci$Path" (9 : Nat) "NestedFoci$Path" "signs" "[I") ∈ lw_tbl := ab_tb1 _ (List.mem_of_getElem? (i := 207) rfl)
set_option maxRecDepth 100000 in
theorem wd_138 : (Jvm.Cond.fieldLink "NestedFoci$Path" (15 : Nat) "NestedFoci$Path" "words" "[I") ∈ lw_tbl := ab_tb1 _ (List.mem_of_getElem? (i := 208) rfl)
set_option maxRecDepth 100000 in
theorem wd_139 : (Jvm.Cond.methodLink "NestedFoci$Path" (18 : Nat) ({ cls := "java/lang/Math", name := "min", desc := "(II)I" } : Jvm.MethodName)) ∈ lw_tbl := ab_tb2 _ (List.mem_of_getElem? (i := 218) rfl)
set_option maxRecDepth 100000 in
theorem wd_140 : (Jvm.Cond.static ({ cls := "java/lang/Math", name := "min", desc := "(II)I" } : Jvm.MethodName)) ∈ lw_tbl := ab_tb2 _ (List.mem_of_getElem? (i := 219) rfl)
set_option maxRecDepth 100000 in
theorem wd_141 : (Jvm.Cond.methodLink "NestedFoci$Path" (24 : Nat) ({ cls := "NestedFoci$Path", name := "size", desc := "()I" } : Jvm.MethodName)) ∈ lw_tbl := ab_tb2 _ (List.mem_of_getElem? (i := 229) rfl)
set_option maxRecDepth 100000 in
theorem wd_142 : (Jvm.Cond.methodLink "NestedFoci$Path" (28 : Nat) ({ cls := "NestedFoci$Path", name := "sign", desc := "(I)I" } : Jvm.MethodName)) ∈ lw_tbl := ab_tb2 _ (List.mem_of_getElem? (i := 230) rfl)
set_option maxRecDepth 100000 in
theorem wd_143 : (Jvm.Cond.instanceMethod ({ cls := "NestedFoci$Path", name := "sign", desc := "(I)I" } : Jvm.MethodName)) ∈ lw_tbl := ab_tb2 _ (List.mem_of_getElem? (i := 232) rfl)
set_option maxRecDepth 100000 in
theorem wd_144 : (Jvm.Cond.selects "NestedFoci$Path" ({ cls := "NestedFoci$Path", name := "sign", desc := "(I)I" } : Jvm.MethodName) ({ cls := "NestedFoci$Path", name := "sign", desc := "(I)I" } : Jvm.MethodName)) ∈ lw_tbl := ab_pv1 _ (List.mem_of_getElem? (i := 10) rfl)
set_option maxRecDepth 100000 in
theorem wd_145 : (Jvm.Cond.methodLink "NestedFoci$Path" (32 : Nat) ({ cls := "NestedFoci$Path", name := "word", desc := "(I)I" } : Jvm.MethodName)) ∈ lw_tbl := ab_tb2 _ (List.mem_of_getElem? (i := 234) rfl)
set_option maxRecDepth 100000 in
theorem wd_146 : (Jvm.Cond.instanceMethod ({ cls := "NestedFoci$Path", name := "word", desc := "(I)I" } : Jvm.MethodName)) ∈ lw_tbl := ab_tb2 _ (List.mem_of_getElem? (i := 236) rfl)
set_option maxRecDepth 100000 in
theorem wd_147 : (Jvm.Cond.selects "NestedFoci$Path" ({ cls := "NestedFoci$Path", name := "word", desc := "(I)I" } : Jvm.MethodName) ({ cls := "NestedFoci$Path", name := "word", desc := "(I)I" } : Jvm.MethodName)) ∈ lw_tbl := ab_pv1 _ (List.mem_of_getElem? (i := 11) rfl)
set_option maxRecDepth 100000 in
theorem wd_148 : (Jvm.Cond.classLink "NestedFoci$Path" (10 : Nat) "NestedFoci$Path") ∈ lw_tbl := ab_tb2 _ (List.mem_of_getElem? (i := 238) rfl)
set_option maxRecDepth 100000 in
theorem wd_149 : (Jvm.Cond.instantiable "NestedFoci$Path" (2 : Nat)) ∈ lw_tbl := ab_tb1 _ (List.mem_of_getElem? (i := 202) rfl)
set_option maxRecDepth 100000 in
theorem wd_150 : (Jvm.Cond.initialized "NestedFoci$Path") ∈ lw_tbl := ab_tb1 _ (List.mem_of_getElem? (i := 12) rfl)
set_option maxRecDepth 100000 in
theorem wd_151 : (Jvm.Cond.methodLink "NestedFoci$Path" (35 : Nat) ({ cls := "NestedFoci$Path", name := "<init>", desc := "([I[I)V" } : Jvm.MethodName)) ∈ lw_tbl := ab_tb2 _ (List.mem_of_getElem? (i := 239) rfl)
set_option maxRecDepth 100000 in
theorem wd_152 : (Jvm.Cond.instanceMethod ({ cls := "NestedFoci$Path", name := "<init>", desc := "([I[I)V" } : Jvm.MethodName)) ∈ lw_tbl := ab_tb1 _ (List.mem_of_getElem? (i := 204) rfl)
set_option maxRecDepth 100000 in
theorem wd_153 : (Jvm.Cond.fieldLink "NestedFoci$Path" (38 : Nat) "NestedFoci$Thing" "nodes" "I") ∈ lw_tbl := ab_tb1 _ (List.mem_of_getElem? (i := 166) rfl)
set_option maxRecDepth 100000 in
theorem wd_154 : (Jvm.Cond.fieldLink "NestedFoci$Path" (44 : Nat) "NestedFoci$Thing" "kind" "I") ∈ lw_tbl := ab_tb1 _ (List.mem_of_getElem? (i := 154) rfl)
set_option maxRecDepth 100000 in
theorem wd_155 : (Jvm.Cond.fieldLink "NestedFoci$Path" (47 : Nat) "NestedFoci$Thing" "word" "I") ∈ lw_tbl := ab_tb1 _ (List.mem_of_getElem? (i := 159) rfl)
set_option maxRecDepth 100000 in
theorem wd_156 : (Jvm.Cond.methodLink "NestedFoci$Path" (49 : Nat) ({ cls := "NestedFoci$Thing", name := "letters", desc := "(I)I" } : Jvm.MethodName)) ∈ lw_tbl := ab_tb3 _ (List.mem_of_getElem? (i := 98) rfl)
set_option maxRecDepth 100000 in
theorem wd_157 : (Jvm.Cond.instanceMethod ({ cls := "NestedFoci$Thing", name := "letters", desc := "(I)I" } : Jvm.MethodName)) ∈ lw_tbl := ab_tb3 _ (List.mem_of_getElem? (i := 82) rfl)
set_option maxRecDepth 100000 in
theorem wd_158 : (Jvm.Cond.selects "NestedFoci$Thing" ({ cls := "NestedFoci$Thing", name := "letters", desc := "(I)I" } : Jvm.MethodName) ({ cls := "NestedFoci$Thing", name := "letters", desc := "(I)I" } : Jvm.MethodName)) ∈ lw_tbl := ab_tb3 _ (List.mem_of_getElem? (i := 83) rfl)
set_option maxRecDepth 100000 in
theorem wd_159 : (Jvm.Cond.methodLink "NestedFoci$PathReader" (3 : Nat) ({ cls := "java/lang/Object", name := "<init>", desc := "()V" } : Jvm.MethodName)) ∈ lw_tbl := ab_tb1 _ (List.mem_of_getElem? (i := 59) rfl)
set_option maxRecDepth 100000 in
theorem wd_160 : (Jvm.Cond.fieldLink "NestedFoci$PathReader" (9 : Nat) "NestedFoci$PathReader" "signs" "[I") ∈ lw_tbl := ab_tb1 _ (List.mem_of_getElem? (i := 61) rfl)
set_option maxRecDepth 100000 in
theorem wd_161 : (Jvm.Cond.fieldLink "NestedFoci$PathReader" (15 : Nat) "NestedFoci$PathReader" "words" "[I") ∈ lw_tbl := ab_tb1 _ (List.mem_of_getElem? (i := 62) rfl)
set_option maxRecDepth 100000 in
theorem wd_162 : (Jvm.Cond.fieldLink "NestedFoci$PathReader" (18 : Nat) "NestedFoci$PathReader" "tape" "LNestedFoci$Tape;") ∈ lw_tbl := ab_tb1 _ (List.mem_of_getElem? (i := 60) rfl)
set_option maxRecDepth 100000 in
theorem wd_163 : (Jvm.Cond.methodLink "NestedFoci$PathReader" (22 : Nat) ({ cls := "NestedFoci$Tape", name := "rewind", desc := "()V" } : Jvm.MethodName)) ∈ lw_tbl := ab_tb2 _ (List.mem_of_getElem? (i := 185) rfl)
set_option maxRecDepth 100000 in
theorem wd_164 : (Jvm.Cond.instanceMethod ({ cls := "NestedFoci$Tape", name := "rewind", desc := "()V" } : Jvm.MethodName)) ∈ lw_tbl := ab_tb2 _ (List.mem_of_getElem? (i := 35) rfl)
set_option maxRecDepth 100000 in
theorem wd_165 : (Jvm.Cond.selects "NestedFoci$Tape" ({ cls := "NestedFoci$Tape", name := "rewind", desc := "()V" } : Jvm.MethodName) ({ cls := "NestedFoci$Tape", name := "rewind", desc := "()V" } : Jvm.MethodName)) ∈ lw_tbl := ab_tb2 _ (List.mem_of_getElem? (i := 36) rfl)
set_option maxRecDepth 100000 in
theorem wd_166 : (Jvm.Cond.methodLink "NestedFoci$PathReader" (27 : Nat) ({ cls := "NestedFoci$Tape", name := "isAtEnd", desc := "()Z" } : Jvm.MethodName)) ∈ lw_tbl := ab_tb2 _ (List.mem_of_getElem? (i := 186) rfl)
set_option maxRecDepth 100000 in
theorem wd_167 : (Jvm.Cond.instanceMethod ({ cls := "NestedFoci$Tape", name := "isAtEnd", desc := "()Z" } : Jvm.MethodName)) ∈ lw_tbl := ab_tb2 _ (List.mem_of_getElem? (i := 155) rfl)
set_option maxRecDepth 100000 in
theorem wd_168 : (Jvm.Cond.selects "NestedFoci$Tape" ({ cls := "NestedFoci$Tape", name := "isAtEnd", desc := "()Z" } : Jvm.MethodName) ({ cls := "NestedFoci$Tape", name := "isAtEnd", desc := "()Z" } : Jvm.MethodName)) ∈ lw_tbl := ab_tb2 _ (List.mem_of_getElem? (i := 156) rfl)
set_option maxRecDepth 100000 in
theorem wd_169 : (Jvm.Cond.methodLink "NestedFoci$PathReader" (31 : Nat) ({ cls := "NestedFoci$Tape", name := "isFaulty", desc := "()Z" } : Jvm.MethodName)) ∈ lw_tbl := ab_tb2 _ (List.mem_of_getElem? (i := 187) rfl)
set_option maxRecDepth 100000 in
theorem wd_170 : (Jvm.Cond.instanceMethod ({ cls := "NestedFoci$Tape", name := "isFaulty", desc := "()Z" } : Jvm.MethodName)) ∈ lw_tbl := ab_tb2 _ (List.mem_of_getElem? (i := 74) rfl)
set_option maxRecDepth 100000 in
theorem wd_171 : (Jvm.Cond.selects "NestedFoci$Tape" ({ cls := "NestedFoci$Tape", name := "isFaulty", desc := "()Z" } : Jvm.MethodName) ({ cls := "NestedFoci$Tape", name := "isFaulty", desc := "()Z" } : Jvm.MethodName)) ∈ lw_tbl := ab_tb2 _ (List.mem_of_getElem? (i := 75) rfl)
set_option maxRecDepth 100000 in
theorem wd_172 : (Jvm.Cond.methodLink "NestedFoci$PathReader" (34 : Nat) ({ cls := "NestedFoci$Tape", name := "next", desc := "()I" } : Jvm.MethodName)) ∈ lw_tbl := ab_tb2 _ (List.mem_of_getElem? (i := 188) rfl)
set_option maxRecDepth 100000 in
theorem wd_173 : (Jvm.Cond.instanceMethod ({ cls := "NestedFoci$Tape", name := "next", desc := "()I" } : Jvm.MethodName)) ∈ lw_tbl := ab_tb2 _ (List.mem_of_getElem? (i := 51) rfl)
set_option maxRecDepth 100000 in
theorem wd_174 : (Jvm.Cond.selects "NestedFoci$Tape" ({ cls := "NestedFoci$Tape", name := "next", desc := "()I" } : Jvm.MethodName) ({ cls := "NestedFoci$Tape", name := "next", desc := "()I" } : Jvm.MethodName)) ∈ lw_tbl := ab_tb2 _ (List.mem_of_getElem? (i := 52) rfl)
set_option maxRecDepth 100000 in
theorem wd_175 : (Jvm.Cond.methodLink "NestedFoci$PathReader" (38 : Nat) ({ cls := "NestedFoci$PathReader", name := "readStep", desc := "()I" } : Jvm.MethodName)) ∈ lw_tbl := ab_tb2 _ (List.mem_of_getElem? (i := 189) rfl)
set_option maxRecDepth 100000 in
theorem wd_176 : (Jvm.Cond.instanceMethod ({ cls := "NestedFoci$PathReader", name := "readStep", desc := "()I" } : Jvm.MethodName)) ∈ lw_tbl := ab_tb2 _ (List.mem_of_getElem? (i := 191) rfl)
set_option maxRecDepth 100000 in
theorem wd_177 : (Jvm.Cond.selects "NestedFoci$PathReader" ({ cls := "NestedFoci$PathReader", name := "readStep", desc := "()I" } : Jvm.MethodName) ({ cls := "NestedFoci$PathReader", name := "readStep", desc := "()I" } : Jvm.MethodName)) ∈ lw_tbl := ab_pv1 _ (List.mem_of_getElem? (i := 7) rfl)
set_option maxRecDepth 100000 in
theorem wd_178 : (Jvm.Cond.methodLink "NestedFoci$PathReader" (41 : Nat) ({ cls := "NestedFoci$Tape", name := "at", desc := "()I" } : Jvm.MethodName)) ∈ lw_tbl := ab_tb2 _ (List.mem_of_getElem? (i := 193) rfl)
set_option maxRecDepth 100000 in
theorem wd_179 : (Jvm.Cond.instanceMethod ({ cls := "NestedFoci$Tape", name := "at", desc := "()I" } : Jvm.MethodName)) ∈ lw_tbl := ab_tb2 _ (List.mem_of_getElem? (i := 43) rfl)
set_option maxRecDepth 100000 in
theorem wd_180 : (Jvm.Cond.selects "NestedFoci$Tape" ({ cls := "NestedFoci$Tape", name := "at", desc := "()I" } : Jvm.MethodName) ({ cls := "NestedFoci$Tape", name := "at", desc := "()I" } : Jvm.MethodName)) ∈ lw_tbl := ab_tb2 _ (List.mem_of_getElem? (i := 44) rfl)
set_option maxRecDepth 100000 in
theorem wd_181 : (Jvm.Cond.methodLink "NestedFoci$PathReader" (44 : Nat) ({ cls := "NestedFoci$Tape", name := "fail", desc := "(I)V" } : Jvm.MethodName)) ∈ lw_tbl := ab_tb2 _ (List.mem_of_getElem? (i := 208) rfl)
set_option maxRecDepth 100000 in
theorem wd_182 : (Jvm.Cond.instanceMethod ({ cls := "NestedFoci$Tape", name := "fail", desc := "(I)V" } : Jvm.MethodName)) ∈ lw_tbl := ab_tb2 _ (List.mem_of_getElem? (i := 47) rfl)
set_option maxRecDepth 100000 in
theorem wd_183 : (Jvm.Cond.selects "NestedFoci$Tape" ({ cls := "NestedFoci$Tape", name := "fail", desc := "(I)V" } : Jvm.MethodName) ({ cls := "NestedFoci$Tape", name := "fail", desc := "(I)V" } : Jvm.MethodName)) ∈ lw_tbl := ab_tb2 _ (List.mem_of_getElem? (i := 48) rfl)
set_option maxRecDepth 100000 in
theorem wd_184 : (Jvm.Cond.classLink "NestedFoci$PathReader" (48 : Nat) "NestedFoci$Path") ∈ lw_tbl := ab_tb2 _ (List.mem_of_getElem? (i := 209) rfl)
set_option maxRecDepth 100000 in
theorem wd_185 : (Jvm.Cond.methodLink "NestedFoci$PathReader" (50 : Nat) ({ cls := "NestedFoci$PathReader", name := "firstOf", desc := "([II)[I" } : Jvm.MethodName)) ∈ lw_tbl := ab_tb2 _ (List.mem_of_getElem? (i := 210) rfl)
set_option maxRecDepth 100000 in
theorem wd_186 : (Jvm.Cond.static ({ cls := "NestedFoci$PathReader", name := "firstOf", desc := "([II)[I" } : Jvm.MethodName)) ∈ lw_tbl := ab_tb2 _ (List.mem_of_getElem? (i := 211) rfl)
set_option maxRecDepth 100000 in
theorem wd_187 : (Jvm.Cond.methodLink "NestedFoci$PathReader" (54 : Nat) ({ cls := "NestedFoci$Path", name := "<init>", desc := "([I[I)V" } : Jvm.MethodName)) ∈ lw_tbl := ab_tb2 _ (List.mem_of_getElem? (i := 213) rfl)
set_option maxRecDepth 100000 in
theorem wd_188 : (Jvm.Cond.methodLink "NestedFoci$PathReader" (57 : Nat) ({ cls := "NestedFoci$Tape", name := "step", desc := "()V" } : Jvm.MethodName)) ∈ lw_tbl := ab_tb2 _ (List.mem_of_getElem? (i := 194) rfl)
set_option maxRecDepth 100000 in
theorem wd_189 : (Jvm.Cond.instanceMethod ({ cls := "NestedFoci$Tape", name := "step", desc := "()V" } : Jvm.MethodName)) ∈ lw_tbl := ab_tb2 _ (List.mem_of_getElem? (i := 59) rfl)
set_option maxRecDepth 100000 in
theorem wd_190 : (Jvm.Cond.selects "NestedFoci$Tape" ({ cls := "NestedFoci$Tape", name := "step", desc := "()V" } : Jvm.MethodName) ({ cls := "NestedFoci$Tape", name := "step", desc := "()V" } : Jvm.MethodName)) ∈ lw_tbl := ab_tb2 _ (List.mem_of_getElem? (i := 60) rfl)
set_option maxRecDepth 100000 in
theorem wd_191 : (Jvm.Cond.methodLink "NestedFoci$PathReader" (60 : Nat) ({ cls := "NestedFoci$PathReader", name := "readSide", desc := "()I" } : Jvm.MethodName)) ∈ lw_tbl := ab_tb2 _ (List.mem_of_getElem? (i := 195) rfl)
set_option maxRecDepth 100000 in
theorem wd_192 : (Jvm.Cond.instanceMethod ({ cls := "NestedFoci$PathReader", name := "readSide", desc := "()I" } : Jvm.MethodName)) ∈ lw_tbl := ab_tb2 _ (List.mem_of_getElem? (i := 197) rfl)
set_option maxRecDepth 100000 in
theorem wd_193 : (Jvm.Cond.selects "NestedFoci$PathReader" ({ cls := "NestedFoci$PathReader", name := "readSide", desc := "()I" } : Jvm.MethodName) ({ cls := "NestedFoci$PathReader", name := "readSide", desc := "()I" } : Jvm.MethodName)) ∈ lw_tbl := ab_pv1 _ (List.mem_of_getElem? (i := 8) rfl)
set_option maxRecDepth 100000 in
theorem wd_194 : (Jvm.Cond.methodLink "NestedFoci$PathReader" (63 : Nat) ({ cls := "NestedFoci$Tape", name := "digits", desc := "(I)I" } : Jvm.MethodName)) ∈ lw_tbl := ab_tb2 _ (List.mem_of_getElem? (i := 201) rfl)
set_option maxRecDepth 100000 in
theorem wd_195 : (Jvm.Cond.instanceMethod ({ cls := "NestedFoci$Tape", name := "digits", desc := "(I)I" } : Jvm.MethodName)) ∈ lw_tbl := ab_tb2 _ (List.mem_of_getElem? (i := 144) rfl)
set_option maxRecDepth 100000 in
theorem wd_196 : (Jvm.Cond.selects "NestedFoci$Tape" ({ cls := "NestedFoci$Tape", name := "digits", desc := "(I)I" } : Jvm.MethodName) ({ cls := "NestedFoci$Tape", name := "digits", desc := "(I)I" } : Jvm.MethodName)) ∈ lw_tbl := ab_tb2 _ (List.mem_of_getElem? (i := 145) rfl)
set_option maxRecDepth 100000 in
theorem wd_197 : (Jvm.Cond.methodLink "NestedFoci$PathReader" (67 : Nat) ({ cls := "NestedFoci$Tape", name := "letters", desc := "()I" } : Jvm.MethodName)) ∈ lw_tbl := ab_tb2 _ (List.mem_of_getElem? (i := 202) rfl)
set_option maxRecDepth 100000 in
theorem wd_198 : (Jvm.Cond.instanceMethod ({ cls := "NestedFoci$Tape", name := "letters", desc := "()I" } : Jvm.MethodName)) ∈ lw_tbl := ab_tb2 _ (List.mem_of_getElem? (i := 123) rfl)
set_option maxRecDepth 100000 in
theorem wd_199 : (Jvm.Cond.selects "NestedFoci$Tape" ({ cls := "NestedFoci$Tape", name := "letters", desc := "()I" } : Jvm.MethodName) ({ cls := "NestedFoci$Tape", name := "letters", desc := "()I" } : Jvm.MethodName)) ∈ lw_tbl := ab_tb2 _ (List.mem_of_getElem? (i := 124) rfl)
set_option maxRecDepth 100000 in
theorem wd_200 : (Jvm.Cond.methodLink "NestedFoci$PathReader" (70 : Nat) ({ cls := "NestedFoci$PathReader", name := "closed", desc := "(II)I" } : Jvm.MethodName)) ∈ lw_tbl := ab_tb2 _ (List.mem_of_getElem? (i := 203) rfl)
set_option maxRecDepth 100000 in
theorem wd_201 : (Jvm.Cond.instanceMethod ({ cls := "NestedFoci$PathReader", name := "closed", desc := "(II)I" } : Jvm.MethodName)) ∈ lw_tbl := ab_tb2 _ (List.mem_of_getElem? (i := 205) rfl)
set_option maxRecDepth 100000 in
theorem wd_202 : (Jvm.Cond.selects "NestedFoci$PathReader" ({ cls := "NestedFoci$PathReader", name := "closed", desc := "(II)I" } : Jvm.MethodName) ({ cls := "NestedFoci$PathReader", name := "closed", desc := "(II)I" } : Jvm.MethodName)) ∈ lw_tbl := ab_pv1 _ (List.mem_of_getElem? (i := 9) rfl)
set_option maxRecDepth 100000 in
theorem wd_203 : (Jvm.Cond.methodLink "NestedFoci$PathReader" (74 : Nat) ({ cls := "NestedFoci$Tape", name := "signedNumber", desc := "()I" } : Jvm.MethodName)) ∈ lw_tbl := ab_tb2 _ (List.mem_of_getElem? (i := 207) rfl)
set_option maxRecDepth 100000 in
theorem wd_204 : (Jvm.Cond.instanceMethod ({ cls := "NestedFoci$Tape", name := "signedNumber", desc := "()I" } : Jvm.MethodName)) ∈ lw_tbl := ab_tb2 _ (List.mem_of_getElem? (i := 150) rfl)
set_option maxRecDepth 100000 in
theorem wd_205 : (Jvm.Cond.selects "NestedFoci$Tape" ({ cls := "NestedFoci$Tape", name := "signedNumber", desc := "()I" } : Jvm.MethodName) ({ cls := "NestedFoci$Tape", name := "signedNumber", desc := "()I" } : Jvm.MethodName)) ∈ lw_tbl := ab_tb2 _ (List.mem_of_getElem? (i := 151) rfl)
set_option maxRecDepth 100000 in
theorem wd_206 : (Jvm.Cond.methodLink "NestedFoci$PathReader" (77 : Nat) ({ cls := "NestedFoci$Tape", name := "takes", desc := "(I)Z" } : Jvm.MethodName)) ∈ lw_tbl := ab_tb2 _ (List.mem_of_getElem? (i := 199) rfl)
set_option maxRecDepth 100000 in
theorem wd_207 : (Jvm.Cond.instanceMethod ({ cls := "NestedFoci$Tape", name := "takes", desc := "(I)Z" } : Jvm.MethodName)) ∈ lw_tbl := ab_tb2 _ (List.mem_of_getElem? (i := 67) rfl)
set_option maxRecDepth 100000 in
theorem wd_208 : (Jvm.Cond.selects "NestedFoci$Tape" ({ cls := "NestedFoci$Tape", name := "takes", desc := "(I)Z" } : Jvm.MethodName) ({ cls := "NestedFoci$Tape", name := "takes", desc := "(I)Z" } : Jvm.MethodName)) ∈ lw_tbl := ab_tb2 _ (List.mem_of_getElem? (i := 68) rfl)
set_option maxRecDepth 100000 in
theorem wd_209 : (Jvm.Cond.methodLink "NestedFoci$PathReader" (81 : Nat) ({ cls := "NestedFoci$Tape", name := "needs", desc := "(I)V" } : Jvm.MethodName)) ∈ lw_tbl := ab_tb2 _ (List.mem_of_getElem? (i := 200) rfl)
set_option maxRecDepth 100000 in
theorem wd_210 : (Jvm.Cond.instanceMethod ({ cls := "NestedFoci$Tape", name := "needs", desc := "(I)V" } : Jvm.MethodName)) ∈ lw_tbl := ab_tb2 _ (List.mem_of_getElem? (i := 63) rfl)
set_option maxRecDepth 100000 in
theorem wd_211 : (Jvm.Cond.selects "NestedFoci$Tape" ({ cls := "NestedFoci$Tape", name := "needs", desc := "(I)V" } : Jvm.MethodName) ({ cls := "NestedFoci$Tape", name := "needs", desc := "(I)V" } : Jvm.MethodName)) ∈ lw_tbl := ab_tb2 _ (List.mem_of_getElem? (i := 64) rfl)
set_option maxRecDepth 100000 in
theorem wd_212 : (Jvm.Cond.methodLink "NestedFoci$Shelf" (3 : Nat) ({ cls := "java/lang/Object", name := "<init>", desc := "()V" } : Jvm.MethodName)) ∈ lw_tbl := ab_tb1 _ (List.mem_of_getElem? (i := 190) rfl)
set_option maxRecDepth 100000 in
theorem wd_213 : (Jvm.Cond.classLink "NestedFoci$Shelf" (9 : Nat) "NestedFoci$Thing") ∈ lw_tbl := ab_tb1 _ (List.mem_of_getElem? (i := 191) rfl)
set_option maxRecDepth 100000 in
theorem wd_214 : (Jvm.Cond.fieldLink "NestedFoci$Shelf" (11 : Nat) "NestedFoci$Shelf" "old" "[LNestedFoci$Thing;") ∈ lw_tbl := ab_tb1 _ (List.mem_of_getElem? (i := 192) rfl)
set_option maxRecDepth 100000 in
theorem wd_215 : (Jvm.Cond.fieldLink "NestedFoci$Shelf" (17 : Nat) "NestedFoci$Shelf" "olds" "I") ∈ lw_tbl := ab_tb1 _ (List.mem_of_getElem? (i := 193) rfl)
set_option maxRecDepth 100000 in
theorem wd_216 : (Jvm.Cond.fieldLink "NestedFoci$Shelf" (21 : Nat) "NestedFoci$Shelf" "held" "LNestedFoci$Thing;") ∈ lw_tbl := ab_tb1 _ (List.mem_of_getElem? (i := 194) rfl)
set_option maxRecDepth 100000 in
theorem wd_217 : (Jvm.Cond.methodLink "NestedFoci$Tally" (3 : Nat) ({ cls := "java/lang/Object", name := "<init>", desc := "()V" } : Jvm.MethodName)) ∈ lw_tbl := ab_tb1 _ (List.mem_of_getElem? (i := 79) rfl)
set_option maxRecDepth 100000 in
theorem wd_218 : (Jvm.Cond.fieldLink "NestedFoci$Tally" (9 : Nat) "NestedFoci$Tally" "sum" "I") ∈ lw_tbl := ab_tb1 _ (List.mem_of_getElem? (i := 80) rfl)
set_option maxRecDepth 100000 in
theorem wd_219 : (Jvm.Cond.methodLink "NestedFoci$Tape" (3 : Nat) ({ cls := "java/lang/Object", name := "<init>", desc := "()V" } : Jvm.MethodName)) ∈ lw_tbl := ab_tb1 _ (List.mem_of_getElem? (i := 29) rfl)
set_option maxRecDepth 100000 in
theorem wd_220 : (Jvm.Cond.fieldLink "NestedFoci$Tape" (9 : Nat) "NestedFoci$Tape" "bytes" "[I") ∈ lw_tbl := ab_tb1 _ (List.mem_of_getElem? (i := 30) rfl)
set_option maxRecDepth 100000 in
theorem wd_221 : (Jvm.Cond.fieldLink "NestedFoci$Tape" (15 : Nat) "NestedFoci$Tape" "size" "I") ∈ lw_tbl := ab_tb1 _ (List.mem_of_getElem? (i := 31) rfl)
set_option maxRecDepth 100000 in
theorem wd_222 : (Jvm.Cond.fieldLink "NestedFoci$Tape" (19 : Nat) "NestedFoci$Tape" "at" "I") ∈ lw_tbl := ab_tb1 _ (List.mem_of_getElem? (i := 32) rfl)
set_option maxRecDepth 100000 in
theorem wd_223 : (Jvm.Cond.fieldLink "NestedFoci$Tape" (22 : Nat) "NestedFoci$Tape" "fault" "I") ∈ lw_tbl := ab_tb1 _ (List.mem_of_getElem? (i := 33) rfl)
set_option maxRecDepth 100000 in
theorem wd_224 : (Jvm.Cond.methodLink "NestedFoci$Tape" (25 : Nat) ({ cls := "NestedFoci$Tape", name := "next", desc := "()I" } : Jvm.MethodName)) ∈ lw_tbl := ab_tb2 _ (List.mem_of_getElem? (i := 70) rfl)
set_option maxRecDepth 100000 in
theorem wd_225 : (Jvm.Cond.methodLink "NestedFoci$Tape" (29 : Nat) ({ cls := "NestedFoci$Tape", name := "step", desc := "()V" } : Jvm.MethodName)) ∈ lw_tbl := ab_tb2 _ (List.mem_of_getElem? (i := 71) rfl)
set_option maxRecDepth 100000 in
theorem wd_226 : (Jvm.Cond.methodLink "NestedFoci$Tape" (32 : Nat) ({ cls := "NestedFoci$Tape", name := "takes", desc := "(I)Z" } : Jvm.MethodName)) ∈ lw_tbl := ab_tb2 _ (List.mem_of_getElem? (i := 66) rfl)
set_option maxRecDepth 100000 in
theorem wd_227 : (Jvm.Cond.methodLink "NestedFoci$Tape" (36 : Nat) ({ cls := "NestedFoci$Tape", name := "fail", desc := "(I)V" } : Jvm.MethodName)) ∈ lw_tbl := ab_tb2 _ (List.mem_of_getElem? (i := 72) rfl)
set_option maxRecDepth 100000 in
theorem wd_228 : (Jvm.Cond.methodLink "NestedFoci$Tape" (40 : Nat) ({ cls := "NestedFoci$Tape", name := "digits", desc := "(I)I" } : Jvm.MethodName)) ∈ lw_tbl := ab_tb2 _ (List.mem_of_getElem? (i := 153) rfl)
set_option maxRecDepth 100000 in
theorem wd_229 : (Jvm.Cond.methodLink "NestedFoci$Thing" (3 : Nat) ({ cls := "java/lang/Object", name := "<init>", desc := "()V" } : Jvm.MethodName)) ∈ lw_tbl := ab_tb1 _ (List.mem_of_getElem? (i := 149) rfl)
set_option maxRecDepth 100000 in
theorem wd_230 : (Jvm.Cond.fieldLink "NestedFoci$Thing" (9 : Nat) "NestedFoci$Thing" "kind" "I") ∈ lw_tbl := ab_tb1 _ (List.mem_of_getElem? (i := 153) rfl)
set_option maxRecDepth 100000 in
theorem wd_231 : (Jvm.Cond.fieldLink "NestedFoci$Thing" (15 : Nat) "NestedFoci$Thing" "word" "I") ∈ lw_tbl := ab_tb1 _ (List.mem_of_getElem? (i := 158) rfl)
set_option maxRecDepth 100000 in
theorem wd_232 : (Jvm.Cond.fieldLink "NestedFoci$Thing" (18 : Nat) "NestedFoci$Thing" "keys" "[I") ∈ lw_tbl := ab_tb1 _ (List.mem_of_getElem? (i := 171) rfl)
set_option maxRecDepth 100000 in
theorem wd_233 : (Jvm.Cond.fieldLink "NestedFoci$Thing" (22 : Nat) "NestedFoci$Thing" "parts" "[LNestedFoci$Thing;") ∈ lw_tbl := ab_tb1 _ (List.mem_of_getElem? (i := 173) rfl)
set_option maxRecDepth 100000 in
theorem wd_234 : (Jvm.Cond.fieldLink "NestedFoci$Thing" (26 : Nat) "NestedFoci$Thing" "nodes" "I") ∈ lw_tbl := ab_tb1 _ (List.mem_of_getElem? (i := 163) rfl)
set_option maxRecDepth 100000 in
theorem wd_235 : (Jvm.Cond.fieldLink "NestedFoci$Thing" (29 : Nat) "NestedFoci$Thing" "height" "I") ∈ lw_tbl := ab_tb1 _ (List.mem_of_getElem? (i := 168) rfl)
set_option maxRecDepth 100000 in
theorem wd_236 : (Jvm.Cond.methodLink "NestedFoci$Thing" (32 : Nat) ({ cls := "java/lang/Math", name := "max", desc := "(II)I" } : Jvm.MethodName)) ∈ lw_tbl := ab_tb1 _ (List.mem_of_getElem? (i := 150) rfl)
set_option maxRecDepth 100000 in
theorem wd_237 : (Jvm.Cond.classLink "NestedFoci$Thing" (10 : Nat) "NestedFoci$Thing") ∈ lw_tbl := ab_tb3 _ (List.mem_of_getElem? (i := 72) rfl)
set_option maxRecDepth 100000 in
theorem wd_238 : (Jvm.Cond.methodLink "NestedFoci$Thing" (38 : Nat) ({ cls := "NestedFoci$Thing", name := "size", desc := "()I" } : Jvm.MethodName)) ∈ lw_tbl := ab_tb3 _ (List.mem_of_getElem? (i := 79) rfl)
set_option maxRecDepth 100000 in
theorem wd_239 : (Jvm.Cond.methodLink "NestedFoci$Thing" (42 : Nat) ({ cls := "NestedFoci$Thing", name := "letters", desc := "(I)I" } : Jvm.MethodName)) ∈ lw_tbl := ab_tb3 _ (List.mem_of_getElem? (i := 81) rfl)
set_option maxRecDepth 100000 in
theorem wd_240 : (Jvm.Cond.methodLink "NestedFoci$Thing" (46 : Nat) ({ cls := "NestedFoci$Thing", name := "compare", desc := "(LNestedFoci$Thing;LNestedFoci$Thing;I)I" } : Jvm.MethodName)) ∈ lw_tbl := ab_tb3 _ (List.mem_of_getElem? (i := 86) rfl)
set_option maxRecDepth 100000 in
theorem wd_241 : (Jvm.Cond.methodLink "NestedFoci$Thing" (50 : Nat) ({ cls := "java/lang/Integer", name := "compare", desc := "(II)I" } : Jvm.MethodName)) ∈ lw_tbl := ab_tb3 _ (List.mem_of_getElem? (i := 76) rfl)
set_option maxRecDepth 100000 in
theorem wd_242 : (Jvm.Cond.static ({ cls := "java/lang/Integer", name := "compare", desc := "(II)I" } : Jvm.MethodName)) ∈ lw_tbl := ab_tb3 _ (List.mem_of_getElem? (i := 77) rfl)
set_option maxRecDepth 100000 in
theorem wd_243 : (Jvm.Cond.methodLink "NestedFoci$Thing" (54 : Nat) ({ cls := "java/lang/Math", name := "min", desc := "(II)I" } : Jvm.MethodName)) ∈ lw_tbl := ab_tb3 _ (List.mem_of_getElem? (i := 80) rfl)
set_option maxRecDepth 100000 in
theorem wd_244 : (Jvm.Cond.methodLink "NestedFoci$Thing" (57 : Nat) ({ cls := "NestedFoci$Thing", name := "part", desc := "(I)LNestedFoci$Thing;" } : Jvm.MethodName)) ∈ lw_tbl := ab_tb3 _ (List.mem_of_getElem? (i := 85) rfl)
set_option maxRecDepth 100000 in
theorem wd_245 : (Jvm.Cond.methodLink "NestedFoci$Thing" (61 : Nat) ({ cls := "NestedFoci$Thing", name := "holds", desc := "(LNestedFoci$Thing;LNestedFoci$Thing;I)Z" } : Jvm.MethodName)) ∈ lw_tbl := ab_tb4 _ (List.mem_of_getElem? (i := 12) rfl)
set_option maxRecDepth 100000 in
theorem wd_246 : (Jvm.Cond.static ({ cls := "NestedFoci$Thing", name := "holds", desc := "(LNestedFoci$Thing;LNestedFoci$Thing;I)Z" } : Jvm.MethodName)) ∈ lw_tbl := ab_tb4 _ (List.mem_of_getElem? (i := 10) rfl)
set_option maxRecDepth 100000 in
theorem wd_247 : (Jvm.Cond.methodLink "NestedFoci$ThingReader" (3 : Nat) ({ cls := "java/lang/Object", name := "<init>", desc := "()V" } : Jvm.MethodName)) ∈ lw_tbl := ab_tb1 _ (List.mem_of_getElem? (i := 49) rfl)
set_option maxRecDepth 100000 in
theorem wd_248 : (Jvm.Cond.fieldLink "NestedFoci$ThingReader" (9 : Nat) "NestedFoci$ThingReader" "tape" "LNestedFoci$Tape;") ∈ lw_tbl := ab_tb1 _ (List.mem_of_getElem? (i := 50) rfl)
set_option maxRecDepth 100000 in
theorem wd_249 : (Jvm.Cond.methodLink "NestedFoci$ThingReader" (15 : Nat) ({ cls := "NestedFoci$Tape", name := "rewind", desc := "()V" } : Jvm.MethodName)) ∈ lw_tbl := ab_tb2 _ (List.mem_of_getElem? (i := 34) rfl)
set_option maxRecDepth 100000 in
theorem wd_250 : (Jvm.Cond.methodLink "NestedFoci$ThingReader" (20 : Nat) ({ cls := "NestedFoci$ThingReader", name := "readOne", desc := "(I)LNestedFoci$Thing;" } : Jvm.MethodName)) ∈ lw_tbl := ab_tb2 _ (List.mem_of_getElem? (i := 38) rfl)
set_option maxRecDepth 100000 in
theorem wd_251 : (Jvm.Cond.instanceMethod ({ cls := "NestedFoci$ThingReader", name := "readOne", desc := "(I)LNestedFoci$Thing;" } : Jvm.MethodName)) ∈ lw_tbl := ab_tb2 _ (List.mem_of_getElem? (i := 40) rfl)
set_option maxRecDepth 100000 in
theorem wd_252 : (Jvm.Cond.selects "NestedFoci$ThingReader" ({ cls := "NestedFoci$ThingReader", name := "readOne", desc := "(I)LNestedFoci$Thing;" } : Jvm.MethodName) ({ cls := "NestedFoci$ThingReader", name := "readOne", desc := "(I)LNestedFoci$Thing;" } : Jvm.MethodName)) ∈ lw_tbl := ab_pv1 _ (List.mem_of_getElem? (i := 0) rfl)
set_option maxRecDepth 100000 in
theorem wd_253 : (Jvm.Cond.methodLink "NestedFoci$ThingReader" (24 : Nat) ({ cls := "NestedFoci$Tape", name := "isAtEnd", desc := "()Z" } : Jvm.MethodName)) ∈ lw_tbl := ab_tb2 _ (List.mem_of_getElem? (i := 154) rfl)
set_option maxRecDepth 100000 in
theorem wd_254 : (Jvm.Cond.methodLink "NestedFoci$ThingReader" (28 : Nat) ({ cls := "NestedFoci$Tape", name := "at", desc := "()I" } : Jvm.MethodName)) ∈ lw_tbl := ab_tb2 _ (List.mem_of_getElem? (i := 42) rfl)
set_option maxRecDepth 100000 in
theorem wd_255 : (Jvm.Cond.methodLink "NestedFoci$ThingReader" (32 : Nat) ({ cls := "NestedFoci$Tape", name := "fail", desc := "(I)V" } : Jvm.MethodName)) ∈ lw_tbl := ab_tb2 _ (List.mem_of_getElem? (i := 46) rfl)
set_option maxRecDepth 100000 in
theorem wd_256 : (Jvm.Cond.methodLink "NestedFoci$ThingReader" (36 : Nat) ({ cls := "NestedFoci$Tape", name := "isFaulty", desc := "()Z" } : Jvm.MethodName)) ∈ lw_tbl := ab_tb2 _ (List.mem_of_getElem? (i := 73) rfl)
set_option maxRecDepth 100000 in
theorem wd_257 : (Jvm.Cond.methodLink "NestedFoci$ThingReader" (39 : Nat) ({ cls := "NestedFoci$Tape", name := "next", desc := "()I" } : Jvm.MethodName)) ∈ lw_tbl := ab_tb2 _ (List.mem_of_getElem? (i := 50) rfl)
set_option maxRecDepth 100000 in
theorem wd_258 : (Jvm.Cond.methodLink "NestedFoci$ThingReader" (42 : Nat) ({ cls := "NestedFoci$ThingReader", name := "readPair", desc := "(I)LNestedFoci$Thing;" } : Jvm.MethodName)) ∈ lw_tbl := ab_tb2 _ (List.mem_of_getElem? (i := 54) rfl)
set_option maxRecDepth 100000 in
theorem wd_259 : (Jvm.Cond.instanceMethod ({ cls := "NestedFoci$ThingReader", name := "readPair", desc := "(I)LNestedFoci$Thing;" } : Jvm.MethodName)) ∈ lw_tbl := ab_tb2 _ (List.mem_of_getElem? (i := 56) rfl)
set_option maxRecDepth 100000 in
theorem wd_260 : (Jvm.Cond.selects "NestedFoci$ThingReader" ({ cls := "NestedFoci$ThingReader", name := "readPair", desc := "(I)LNestedFoci$Thing;" } : Jvm.MethodName) ({ cls := "NestedFoci$ThingReader", name := "readPair", desc := "(I)LNestedFoci$Thing;" } : Jvm.MethodName)) ∈ lw_tbl := ab_pv1 _ (List.mem_of_getElem? (i := 1) rfl)
set_option maxRecDepth 100000 in
theorem wd_261 : (Jvm.Cond.methodLink "NestedFoci$ThingReader" (45 : Nat) ({ cls := "NestedFoci$ThingReader", name := "readMany", desc := "(III)LNestedFoci$Thing;" } : Jvm.MethodName)) ∈ lw_tbl := ab_tb2 _ (List.mem_of_getElem? (i := 110) rfl)
set_option maxRecDepth 100000 in
theorem wd_262 : (Jvm.Cond.instanceMethod ({ cls := "NestedFoci$ThingReader", name := "readMany", desc := "(III)LNestedFoci$Thing;" } : Jvm.MethodName)) ∈ lw_tbl := ab_tb2 _ (List.mem_of_getElem? (i := 112) rfl)
set_option maxRecDepth 100000 in
theorem wd_263 : (Jvm.Cond.selects "NestedFoci$ThingReader" ({ cls := "NestedFoci$ThingReader", name := "readMany", desc := "(III)LNestedFoci$Thing;" } : Jvm.MethodName) ({ cls := "NestedFoci$ThingReader", name := "readMany", desc := "(III)LNestedFoci$Thing;" } : Jvm.MethodName)) ∈ lw_tbl := ab_pv1 _ (List.mem_of_getElem? (i := 3) rfl)
set_option maxRecDepth 100000 in
theorem wd_264 : (Jvm.Cond.methodLink "NestedFoci$ThingReader" (49 : Nat) ({ cls := "NestedFoci$ThingReader", name := "readTagged", desc := "(I)LNestedFoci$Thing;" } : Jvm.MethodName)) ∈ lw_tbl := ab_tb2 _ (List.mem_of_getElem? (i := 139) rfl)
set_option maxRecDepth 100000 in
theorem wd_265 : (Jvm.Cond.instanceMethod ({ cls := "NestedFoci$ThingReader", name := "readTagged", desc := "(I)LNestedFoci$Thing;" } : Jvm.MethodName)) ∈ lw_tbl := ab_tb2 _ (List.mem_of_getElem? (i := 141) rfl)
set_option maxRecDepth 100000 in
theorem wd_266 : (Jvm.Cond.selects "NestedFoci$ThingReader" ({ cls := "NestedFoci$ThingReader", name := "readTagged", desc := "(I)LNestedFoci$Thing;" } : Jvm.MethodName) ({ cls := "NestedFoci$ThingReader", name := "readTagged", desc := "(I)LNestedFoci$Thing;" } : Jvm.MethodName)) ∈ lw_tbl := ab_pv1 _ (List.mem_of_getElem? (i := 6) rfl)
set_option maxRecDepth 100000 in
theorem wd_267 : (Jvm.Cond.methodLink "NestedFoci$ThingReader" (52 : Nat) ({ cls := "NestedFoci$Tape", name := "signedNumber", desc := "()I" } : Jvm.MethodName)) ∈ lw_tbl := ab_tb2 _ (List.mem_of_getElem? (i := 149) rfl)
set_option maxRecDepth 100000 in
theorem wd_268 : (Jvm.Cond.classLink "NestedFoci$ThingReader" (55 : Nat) "NestedFoci$Thing") ∈ lw_tbl := ab_tb2 _ (List.mem_of_getElem? (i := 147) rfl)
set_option maxRecDepth 100000 in
theorem wd_269 : (Jvm.Cond.methodLink "NestedFoci$ThingReader" (57 : Nat) ({ cls := "NestedFoci$Thing", name := "<init>", desc := "(II[I[LNestedFoci$Thing;)V" } : Jvm.MethodName)) ∈ lw_tbl := ab_tb2 _ (List.mem_of_getElem? (i := 148) rfl)
set_option maxRecDepth 100000 in
theorem wd_270 : (Jvm.Cond.methodLink "NestedFoci$ThingReader" (60 : Nat) ({ cls := "NestedFoci$Tape", name := "step", desc := "()V" } : Jvm.MethodName)) ∈ lw_tbl := ab_tb2 _ (List.mem_of_getElem? (i := 58) rfl)
set_option maxRecDepth 100000 in
theorem wd_271 : (Jvm.Cond.methodLink "NestedFoci$ThingReader" (63 : Nat) ({ cls := "NestedFoci$Tape", name := "needs", desc := "(I)V" } : Jvm.MethodName)) ∈ lw_tbl := ab_tb2 _ (List.mem_of_getElem? (i := 62) rfl)
set_option maxRecDepth 100000 in
theorem wd_272 : (Jvm.Cond.methodLinkNest "NestedFoci$ThingReader" (66 : Nat) ({ cls := "NestedFoci", name := "ofTwo", desc := "(ILNestedFoci$Thing;LNestedFoci$Thing;)LNestedFoci$Thing;" } : Jvm.MethodName) "NestedFoci") ∈ lw_tbl := ab_tb2 _ (List.mem_of_getElem? (i := 77) rfl)
set_option maxRecDepth 100000 in
theorem wd_273 : (Jvm.Cond.static ({ cls := "NestedFoci", name := "ofTwo", desc := "(ILNestedFoci$Thing;LNestedFoci$Thing;)LNestedFoci$Thing;" } : Jvm.MethodName)) ∈ lw_tbl := ab_tb2 _ (List.mem_of_getElem? (i := 78) rfl)
set_option maxRecDepth 100000 in
theorem wd_274 : (Jvm.Cond.methodLink "NestedFoci$ThingReader" (70 : Nat) ({ cls := "NestedFoci$Tape", name := "digits", desc := "(I)I" } : Jvm.MethodName)) ∈ lw_tbl := ab_tb2 _ (List.mem_of_getElem? (i := 143) rfl)
set_option maxRecDepth 100000 in
theorem wd_275 : (Jvm.Cond.classLink "NestedFoci$ThingReader" (74 : Nat) "NestedFoci$Parts") ∈ lw_tbl := ab_tb2 _ (List.mem_of_getElem? (i := 114) rfl)
set_option maxRecDepth 100000 in
theorem wd_276 : (Jvm.Cond.instantiable "NestedFoci$Parts" (3 : Nat)) ∈ lw_tbl := ab_tb2 _ (List.mem_of_getElem? (i := 81) rfl)
set_option maxRecDepth 100000 in
theorem wd_277 : (Jvm.Cond.initialized "NestedFoci$Parts") ∈ lw_tbl := ab_tb1 _ (List.mem_of_getElem? (i := 14) rfl)
set_option maxRecDepth 100000 in
theorem wd_278 : (Jvm.Cond.methodLinkNest "NestedFoci$ThingReader" (76 : Nat) ({ cls := "NestedFoci$Parts", name := "<init>", desc := "()V" } : Jvm.MethodName) "NestedFoci") ∈ lw_tbl := ab_tb2 _ (List.mem_of_getElem? (i := 115) rfl)
set_option maxRecDepth 100000 in
theorem wd_279 : (Jvm.Cond.instanceMethod ({ cls := "NestedFoci$Parts", name := "<init>", desc := "()V" } : Jvm.MethodName)) ∈ lw_tbl := ab_tb2 _ (List.mem_of_getElem? (i := 83) rfl)
set_option maxRecDepth 100000 in
theorem wd_280 : (Jvm.Cond.methodLink "NestedFoci$ThingReader" (77 : Nat) ({ cls := "NestedFoci$Tape", name := "takes", desc := "(I)Z" } : Jvm.MethodName)) ∈ lw_tbl := ab_tb2 _ (List.mem_of_getElem? (i := 116) rfl)
set_option maxRecDepth 100000 in
theorem wd_281 : (Jvm.Cond.methodLink "NestedFoci$ThingReader" (81 : Nat) ({ cls := "NestedFoci$Parts", name := "together", desc := "(I)LNestedFoci$Thing;" } : Jvm.MethodName)) ∈ lw_tbl := ab_tb2 _ (List.mem_of_getElem? (i := 117) rfl)
set_option maxRecDepth 100000 in
theorem wd_282 : (Jvm.Cond.instanceMethod ({ cls := "NestedFoci$Parts", name := "together", desc := "(I)LNestedFoci$Thing;" } : Jvm.MethodName)) ∈ lw_tbl := ab_tb2 _ (List.mem_of_getElem? (i := 106) rfl)
set_option maxRecDepth 100000 in
theorem wd_283 : (Jvm.Cond.selects "NestedFoci$Parts" ({ cls := "NestedFoci$Parts", name := "together", desc := "(I)LNestedFoci$Thing;" } : Jvm.MethodName) ({ cls := "NestedFoci$Parts", name := "together", desc := "(I)LNestedFoci$Thing;" } : Jvm.MethodName)) ∈ lw_tbl := ab_tb2 _ (List.mem_of_getElem? (i := 107) rfl)
set_option maxRecDepth 100000 in
theorem wd_284 : (Jvm.Cond.methodLink "NestedFoci$ThingReader" (84 : Nat) ({ cls := "NestedFoci$ThingReader", name := "readNewKey", desc := "(LNestedFoci$Parts;)I" } : Jvm.MethodName)) ∈ lw_tbl := ab_tb2 _ (List.mem_of_getElem? (i := 118) rfl)
set_option maxRecDepth 100000 in
theorem wd_285 : (Jvm.Cond.instanceMethod ({ cls := "NestedFoci$ThingReader", name := "readNewKey", desc := "(LNestedFoci$Parts;)I" } : Jvm.MethodName)) ∈ lw_tbl := ab_tb2 _ (List.mem_of_getElem? (i := 120) rfl)
set_option maxRecDepth 100000 in
theorem wd_286 : (Jvm.Cond.selects "NestedFoci$ThingReader" ({ cls := "NestedFoci$ThingReader", name := "readNewKey", desc := "(LNestedFoci$Parts;)I" } : Jvm.MethodName) ({ cls := "NestedFoci$ThingReader", name := "readNewKey", desc := "(LNestedFoci$Parts;)I" } : Jvm.MethodName)) ∈ lw_tbl := ab_pv1 _ (List.mem_of_getElem? (i := 4) rfl)
set_option maxRecDepth 100000 in
theorem wd_287 : (Jvm.Cond.methodLink "NestedFoci$ThingReader" (88 : Nat) ({ cls := "NestedFoci$Parts", name := "putByKey", desc := "(ILNestedFoci$Thing;)V" } : Jvm.MethodName)) ∈ lw_tbl := ab_tb2 _ (List.mem_of_getElem? (i := 134) rfl)
set_option maxRecDepth 100000 in
theorem wd_288 : (Jvm.Cond.instanceMethod ({ cls := "NestedFoci$Parts", name := "putByKey", desc := "(ILNestedFoci$Thing;)V" } : Jvm.MethodName)) ∈ lw_tbl := ab_tb2 _ (List.mem_of_getElem? (i := 135) rfl)
set_option maxRecDepth 100000 in
theorem wd_289 : (Jvm.Cond.selects "NestedFoci$Parts" ({ cls := "NestedFoci$Parts", name := "putByKey", desc := "(ILNestedFoci$Thing;)V" } : Jvm.MethodName) ({ cls := "NestedFoci$Parts", name := "putByKey", desc := "(ILNestedFoci$Thing;)V" } : Jvm.MethodName)) ∈ lw_tbl := ab_tb2 _ (List.mem_of_getElem? (i := 136) rfl)
set_option maxRecDepth 100000 in
theorem wd_290 : (Jvm.Cond.methodLink "NestedFoci$ThingReader" (92 : Nat) ({ cls := "NestedFoci$Parts", name := "add", desc := "(ILNestedFoci$Thing;)V" } : Jvm.MethodName)) ∈ lw_tbl := ab_tb2 _ (List.mem_of_getElem? (i := 138) rfl)
set_option maxRecDepth 100000 in
theorem wd_291 : (Jvm.Cond.instanceMethod ({ cls := "NestedFoci$Parts", name := "add", desc := "(ILNestedFoci$Thing;)V" } : Jvm.MethodName)) ∈ lw_tbl := ab_tb2 _ (List.mem_of_getElem? (i := 98) rfl)
set_option maxRecDepth 100000 in
theorem wd_292 : (Jvm.Cond.selects "NestedFoci$Parts" ({ cls := "NestedFoci$Parts", name := "add", desc := "(ILNestedFoci$Thing;)V" } : Jvm.MethodName) ({ cls := "NestedFoci$Parts", name := "add", desc := "(ILNestedFoci$Thing;)V" } : Jvm.MethodName)) ∈ lw_tbl := ab_tb2 _ (List.mem_of_getElem? (i := 99) rfl)
set_option maxRecDepth 100000 in
theorem wd_293 : (Jvm.Cond.methodLink "NestedFoci$ThingReader" (95 : Nat) ({ cls := "NestedFoci$Tape", name := "letters", desc := "()I" } : Jvm.MethodName)) ∈ lw_tbl := ab_tb2 _ (List.mem_of_getElem? (i := 122) rfl)
set_option maxRecDepth 100000 in
theorem wd_294 : (Jvm.Cond.methodLink "NestedFoci$ThingReader" (98 : Nat) ({ cls := "NestedFoci$Parts", name := "hasKey", desc := "(I)Z" } : Jvm.MethodName)) ∈ lw_tbl := ab_tb2 _ (List.mem_of_getElem? (i := 126) rfl)
set_option maxRecDepth 100000 in
theorem wd_295 : (Jvm.Cond.instanceMethod ({ cls := "NestedFoci$Parts", name := "hasKey", desc := "(I)Z" } : Jvm.MethodName)) ∈ lw_tbl := ab_tb2 _ (List.mem_of_getElem? (i := 127) rfl)
set_option maxRecDepth 100000 in
theorem wd_296 : (Jvm.Cond.selects "NestedFoci$Parts" ({ cls := "NestedFoci$Parts", name := "hasKey", desc := "(I)Z" } : Jvm.MethodName) ({ cls := "NestedFoci$Parts", name := "hasKey", desc := "(I)Z" } : Jvm.MethodName)) ∈ lw_tbl := ab_tb2 _ (List.mem_of_getElem? (i := 128) rfl)
set_option maxRecDepth 100000 in
theorem wd_297 : (Jvm.Cond.methodLink "NestedFoci" (3 : Nat) ({ cls := "java/lang/Object", name := "<init>", desc := "()V" } : Jvm.MethodName)) ∈ lw_tbl := ab_tb1 _ (List.mem_of_getElem? (i := 21) rfl)
set_option maxRecDepth 100000 in
theorem wd_298 : (Jvm.Cond.classLink "NestedFoci" (9 : Nat) "NestedFoci$Tape") ∈ lw_tbl := ab_tb1 _ (List.mem_of_getElem? (i := 24) rfl)
set_option maxRecDepth 100000 in
theorem wd_299 : (Jvm.Cond.instantiable "NestedFoci$Tape" (4 : Nat)) ∈ lw_tbl := ab_tb1 _ (List.mem_of_getElem? (i := 25) rfl)
set_option maxRecDepth 100000 in
theorem wd_300 : (Jvm.Cond.initialized "NestedFoci$Tape") ∈ lw_tbl := ab_tb1 _ (List.mem_of_getElem? (i := 2) rfl)
set_option maxRecDepth 100000 in
theorem wd_301 : (Jvm.Cond.methodLinkNest "NestedFoci" (11 : Nat) ({ cls := "NestedFoci$Tape", name := "<init>", desc := "()V" } : Jvm.MethodName) "NestedFoci") ∈ lw_tbl := ab_tb1 _ (List.mem_of_getElem? (i := 26) rfl)
set_option maxRecDepth 100000 in
theorem wd_302 : (Jvm.Cond.instanceMethod ({ cls := "NestedFoci$Tape", name := "<init>", desc := "()V" } : Jvm.MethodName)) ∈ lw_tbl := ab_tb1 _ (List.mem_of_getElem? (i := 27) rfl)
set_option maxRecDepth 100000 in
theorem wd_303 : (Jvm.Cond.fieldLink "NestedFoci" (12 : Nat) "NestedFoci" "tape" "LNestedFoci$Tape;") ∈ lw_tbl := ab_tb1 _ (List.mem_of_getElem? (i := 214) rfl)
set_option maxRecDepth 100000 in
theorem wd_304 : (Jvm.Cond.classLink "NestedFoci" (18 : Nat) "NestedFoci$ThingReader") ∈ lw_tbl := ab_tb1 _ (List.mem_of_getElem? (i := 44) rfl)
set_option maxRecDepth 100000 in
theorem wd_305 : (Jvm.Cond.instantiable "NestedFoci$ThingReader" (1 : Nat)) ∈ lw_tbl := ab_tb1 _ (List.mem_of_getElem? (i := 45) rfl)
set_option maxRecDepth 100000 in
theorem wd_306 : (Jvm.Cond.initialized "NestedFoci$ThingReader") ∈ lw_tbl := ab_tb1 _ (List.mem_of_getElem? (i := 3) rfl)
set_option maxRecDepth 100000 in
theorem wd_307 : (Jvm.Cond.methodLink "NestedFoci" (20 : Nat) ({ cls := "NestedFoci$ThingReader", name := "<init>", desc := "(LNestedFoci$Tape;)V" } : Jvm.MethodName)) ∈ lw_tbl := ab_tb1 _ (List.mem_of_getElem? (i := 46) rfl)
set_option maxRecDepth 100000 in
theorem wd_308 : (Jvm.Cond.instanceMethod ({ cls := "NestedFoci$ThingReader", name := "<init>", desc := "(LNestedFoci$Tape;)V" } : Jvm.MethodName)) ∈ lw_tbl := ab_tb1 _ (List.mem_of_getElem? (i := 47) rfl)
set_option maxRecDepth 100000 in
theorem wd_309 : (Jvm.Cond.fieldLink "NestedFoci" (23 : Nat) "NestedFoci" "thingReader" "LNestedFoci$ThingReader;") ∈ lw_tbl := ab_tb1 _ (List.mem_of_getElem? (i := 215) rfl)
set_option maxRecDepth 100000 in
theorem wd_310 : (Jvm.Cond.classLink "NestedFoci" (27 : Nat) "NestedFoci$PathReader") ∈ lw_tbl := ab_tb1 _ (List.mem_of_getElem? (i := 54) rfl)
set_option maxRecDepth 100000 in
theorem wd_311 : (Jvm.Cond.instantiable "NestedFoci$PathReader" (3 : Nat)) ∈ lw_tbl := ab_tb1 _ (List.mem_of_getElem? (i := 55) rfl)
set_option maxRecDepth 100000 in
theorem wd_312 : (Jvm.Cond.initialized "NestedFoci$PathReader") ∈ lw_tbl := ab_tb1 _ (List.mem_of_getElem? (i := 4) rfl)
set_option maxRecDepth 100000 in
theorem wd_313 : (Jvm.Cond.methodLink "NestedFoci" (29 : Nat) ({ cls := "NestedFoci$PathReader", name := "<init>", desc := "(LNestedFoci$Tape;)V" } : Jvm.MethodName)) ∈ lw_tbl := ab_tb1 _ (List.mem_of_getElem? (i := 56) rfl)
set_option maxRecDepth 100000 in
theorem wd_314 : (Jvm.Cond.instanceMethod ({ cls := "NestedFoci$PathReader", name := "<init>", desc := "(LNestedFoci$Tape;)V" } : Jvm.MethodName)) ∈ lw_tbl := ab_tb1 _ (List.mem_of_getElem? (i := 57) rfl)
set_option maxRecDepth 100000 in
theorem wd_315 : (Jvm.Cond.fieldLink "NestedFoci" (30 : Nat) "NestedFoci" "pathReader" "LNestedFoci$PathReader;") ∈ lw_tbl := ab_tb1 _ (List.mem_of_getElem? (i := 216) rfl)
set_option maxRecDepth 100000 in
theorem wd_316 : (Jvm.Cond.classLink "NestedFoci" (34 : Nat) "NestedFoci$Shelf") ∈ lw_tbl := ab_tb1 _ (List.mem_of_getElem? (i := 70) rfl)
set_option maxRecDepth 100000 in
theorem wd_317 : (Jvm.Cond.arrayOver (Jvm.ClassFile.FieldType.object "NestedFoci$Shelf")) ∈ lw_tbl := ab_tb1 _ (List.mem_of_getElem? (i := 71) rfl)
set_option maxRecDepth 100000 in
theorem wd_318 : (Jvm.Cond.fieldLink "NestedFoci" (36 : Nat) "NestedFoci" "shelves" "[LNestedFoci$Shelf;") ∈ lw_tbl := ab_tb1 _ (List.mem_of_getElem? (i := 217) rfl)
set_option maxRecDepth 100000 in
theorem wd_319 : (Jvm.Cond.classLink "NestedFoci" (40 : Nat) "NestedFoci$Path") ∈ lw_tbl := ab_tb1 _ (List.mem_of_getElem? (i := 72) rfl)
set_option maxRecDepth 100000 in
theorem wd_320 : (Jvm.Cond.arrayOver (Jvm.ClassFile.FieldType.object "NestedFoci$Path")) ∈ lw_tbl := ab_tb1 _ (List.mem_of_getElem? (i := 73) rfl)
set_option maxRecDepth 100000 in
theorem wd_321 : (Jvm.Cond.fieldLink "NestedFoci" (42 : Nat) "NestedFoci" "paths" "[LNestedFoci$Path;") ∈ lw_tbl := ab_tb1 _ (List.mem_of_getElem? (i := 218) rfl)
set_option maxRecDepth 100000 in
theorem wd_322 : (Jvm.Cond.classLink "NestedFoci" (46 : Nat) "NestedFoci$Tally") ∈ lw_tbl := ab_tb1 _ (List.mem_of_getElem? (i := 74) rfl)
set_option maxRecDepth 100000 in
theorem wd_323 : (Jvm.Cond.instantiable "NestedFoci$Tally" (1 : Nat)) ∈ lw_tbl := ab_tb1 _ (List.mem_of_getElem? (i := 75) rfl)
set_option maxRecDepth 100000 in
theorem wd_324 : (Jvm.Cond.initialized "NestedFoci$Tally") ∈ lw_tbl := ab_tb1 _ (List.mem_of_getElem? (i := 5) rfl)
set_option maxRecDepth 100000 in
theorem wd_325 : (Jvm.Cond.methodLinkNest "NestedFoci" (48 : Nat) ({ cls := "NestedFoci$Tally", name := "<init>", desc := "()V" } : Jvm.MethodName) "NestedFoci") ∈ lw_tbl := ab_tb1 _ (List.mem_of_getElem? (i := 76) rfl)
set_option maxRecDepth 100000 in
theorem wd_326 : (Jvm.Cond.instanceMethod ({ cls := "NestedFoci$Tally", name := "<init>", desc := "()V" } : Jvm.MethodName)) ∈ lw_tbl := ab_tb1 _ (List.mem_of_getElem? (i := 77) rfl)
set_option maxRecDepth 100000 in
theorem wd_327 : (Jvm.Cond.fieldLink "NestedFoci" (49 : Nat) "NestedFoci" "made" "LNestedFoci$Tally;") ∈ lw_tbl := ab_tb1 _ (List.mem_of_getElem? (i := 219) rfl)
set_option maxRecDepth 100000 in
theorem wd_328 : (Jvm.Cond.classLink "NestedFoci" (53 : Nat) "NestedFoci$Changer") ∈ lw_tbl := ab_tb1 _ (List.mem_of_getElem? (i := 84) rfl)
set_option maxRecDepth 100000 in
theorem wd_329 : (Jvm.Cond.instantiable "NestedFoci$Changer" (7 : Nat)) ∈ lw_tbl := ab_tb1 _ (List.mem_of_getElem? (i := 85) rfl)
set_option maxRecDepth 100000 in
theorem wd_330 : (Jvm.Cond.initialized "NestedFoci$Changer") ∈ lw_tbl := ab_tb1 _ (List.mem_of_getElem? (i := 6) rfl)
set_option maxRecDepth 100000 in
theorem wd_331 : (Jvm.Cond.methodLink "NestedFoci" (55 : Nat) ({ cls := "NestedFoci$Changer", name := "<init>", desc := "(LNestedFoci$Tally;)V" } : Jvm.MethodName)) ∈ lw_tbl := ab_tb1 _ (List.mem_of_getElem? (i := 86) rfl)
set_option maxRecDepth 100000 in
theorem wd_332 : (Jvm.Cond.instanceMethod ({ cls := "NestedFoci$Changer", name := "<init>", desc := "(LNestedFoci$Tally;)V" } : Jvm.MethodName)) ∈ lw_tbl := ab_tb1 _ (List.mem_of_getElem? (i := 87) rfl)
set_option maxRecDepth 100000 in
theorem wd_333 : (Jvm.Cond.fieldLink "NestedFoci" (58 : Nat) "NestedFoci" "changer" "LNestedFoci$Changer;") ∈ lw_tbl := ab_tb1 _ (List.mem_of_getElem? (i := 220) rfl)
set_option maxRecDepth 100000 in
theorem wd_334 : (Jvm.Cond.classLink "NestedFoci" (62 : Nat) "NestedFoci$Foci") ∈ lw_tbl := ab_tb1 _ (List.mem_of_getElem? (i := 112) rfl)
set_option maxRecDepth 100000 in
theorem wd_335 : (Jvm.Cond.instantiable "NestedFoci$Foci" (3 : Nat)) ∈ lw_tbl := ab_tb1 _ (List.mem_of_getElem? (i := 113) rfl)
set_option maxRecDepth 100000 in
theorem wd_336 : (Jvm.Cond.initialized "NestedFoci$Foci") ∈ lw_tbl := ab_tb1 _ (List.mem_of_getElem? (i := 7) rfl)
set_option maxRecDepth 100000 in
theorem wd_337 : (Jvm.Cond.methodLinkNest "NestedFoci" (64 : Nat) ({ cls := "NestedFoci$Foci", name := "<init>", desc := "()V" } : Jvm.MethodName) "NestedFoci") ∈ lw_tbl := ab_tb1 _ (List.mem_of_getElem? (i := 114) rfl)
set_option maxRecDepth 100000 in
theorem wd_338 : (Jvm.Cond.instanceMethod ({ cls := "NestedFoci$Foci", name := "<init>", desc := "()V" } : Jvm.MethodName)) ∈ lw_tbl := ab_tb1 _ (List.mem_of_getElem? (i := 115) rfl)
set_option maxRecDepth 100000 in
theorem wd_339 : (Jvm.Cond.fieldLink "NestedFoci" (65 : Nat) "NestedFoci" "foci" "LNestedFoci$Foci;") ∈ lw_tbl := ab_tb1 _ (List.mem_of_getElem? (i := 221) rfl)
set_option maxRecDepth 100000 in
theorem wd_340 : (Jvm.Cond.classLink "NestedFoci" (69 : Nat) "NestedFoci$Difference") ∈ lw_tbl := ab_tb1 _ (List.mem_of_getElem? (i := 130) rfl)
set_option maxRecDepth 100000 in
theorem wd_341 : (Jvm.Cond.instantiable "NestedFoci$Difference" (2 : Nat)) ∈ lw_tbl := ab_tb1 _ (List.mem_of_getElem? (i := 131) rfl)
set_option maxRecDepth 100000 in
theorem wd_342 : (Jvm.Cond.initialized "NestedFoci$Difference") ∈ lw_tbl := ab_tb1 _ (List.mem_of_getElem? (i := 8) rfl)
set_option maxRecDepth 100000 in
theorem wd_343 : (Jvm.Cond.methodLinkNest "NestedFoci" (71 : Nat) ({ cls := "NestedFoci$Difference", name := "<init>", desc := "()V" } : Jvm.MethodName) "NestedFoci") ∈ lw_tbl := ab_tb1 _ (List.mem_of_getElem? (i := 132) rfl)
set_option maxRecDepth 100000 in
theorem wd_344 : (Jvm.Cond.instanceMethod ({ cls := "NestedFoci$Difference", name := "<init>", desc := "()V" } : Jvm.MethodName)) ∈ lw_tbl := ab_tb1 _ (List.mem_of_getElem? (i := 133) rfl)
set_option maxRecDepth 100000 in
theorem wd_345 : (Jvm.Cond.fieldLink "NestedFoci" (72 : Nat) "NestedFoci" "difference" "LNestedFoci$Difference;") ∈ lw_tbl := ab_tb1 _ (List.mem_of_getElem? (i := 222) rfl)
set_option maxRecDepth 100000 in
theorem wd_346 : (Jvm.Cond.classLink "NestedFoci" (76 : Nat) "NestedFoci$Thing") ∈ lw_tbl := ab_tb1 _ (List.mem_of_getElem? (i := 143) rfl)
set_option maxRecDepth 100000 in
theorem wd_347 : (Jvm.Cond.fieldLink "NestedFoci" (78 : Nat) "NestedFoci" "keptThings" "[LNestedFoci$Thing;") ∈ lw_tbl := ab_tb1 _ (List.mem_of_getElem? (i := 223) rfl)
set_option maxRecDepth 100000 in
theorem wd_348 : (Jvm.Cond.fieldLink "NestedFoci" (82 : Nat) "NestedFoci" "keptPaths" "[LNestedFoci$Path;") ∈ lw_tbl := ab_tb1 _ (List.mem_of_getElem? (i := 224) rfl)
set_option maxRecDepth 100000 in
theorem wd_349 : (Jvm.Cond.fieldLink "NestedFoci" (85 : Nat) "NestedFoci" "isKept" "Z") ∈ lw_tbl := ab_tb1 _ (List.mem_of_getElem? (i := 225) rfl)
set_option maxRecDepth 100000 in
theorem wd_350 : (Jvm.Cond.instantiable "NestedFoci$Shelf" (3 : Nat)) ∈ lw_tbl := ab_tb1 _ (List.mem_of_getElem? (i := 144) rfl)
set_option maxRecDepth 100000 in
theorem wd_351 : (Jvm.Cond.initialized "NestedFoci$Shelf") ∈ lw_tbl := ab_tb1 _ (List.mem_of_getElem? (i := 9) rfl)
set_option maxRecDepth 100000 in
theorem wd_352 : (Jvm.Cond.methodLink "NestedFoci" (89 : Nat) ({ cls := "NestedFoci$Thing", name := "<init>", desc := "(II[I[LNestedFoci$Thing;)V" } : Jvm.MethodName)) ∈ lw_tbl := ab_tb1 _ (List.mem_of_getElem? (i := 146) rfl)
set_option maxRecDepth 100000 in
theorem wd_353 : (Jvm.Cond.methodLink "NestedFoci" (92 : Nat) ({ cls := "NestedFoci$Shelf", name := "<init>", desc := "(LNestedFoci$Thing;)V" } : Jvm.MethodName)) ∈ lw_tbl := ab_tb1 _ (List.mem_of_getElem? (i := 187) rfl)
set_option maxRecDepth 100000 in
theorem wd_354 : (Jvm.Cond.instanceMethod ({ cls := "NestedFoci$Shelf", name := "<init>", desc := "(LNestedFoci$Thing;)V" } : Jvm.MethodName)) ∈ lw_tbl := ab_tb1 _ (List.mem_of_getElem? (i := 188) rfl)
set_option maxRecDepth 100000 in
theorem wd_355 : (Jvm.Cond.methodLink "NestedFoci" (95 : Nat) ({ cls := "NestedFoci$Path", name := "<init>", desc := "([I[I)V" } : Jvm.MethodName)) ∈ lw_tbl := ab_tb1 _ (List.mem_of_getElem? (i := 203) rfl)
set_option maxRecDepth 100000 in
theorem wd_356 : (Jvm.Cond.methodLink "NestedFoci" (98 : Nat) ({ cls := "NestedFoci$Tape", name := "size", desc := "()I" } : Jvm.MethodName)) ∈ lw_tbl := ab_tb2 _ (List.mem_of_getElem? (i := 15) rfl)
set_option maxRecDepth 100000 in
theorem wd_357 : (Jvm.Cond.instanceMethod ({ cls := "NestedFoci$Tape", name := "size", desc := "()I" } : Jvm.MethodName)) ∈ lw_tbl := ab_tb2 _ (List.mem_of_getElem? (i := 16) rfl)
set_option maxRecDepth 100000 in
theorem wd_358 : (Jvm.Cond.selects "NestedFoci$Tape" ({ cls := "NestedFoci$Tape", name := "size", desc := "()I" } : Jvm.MethodName) ({ cls := "NestedFoci$Tape", name := "size", desc := "()I" } : Jvm.MethodName)) ∈ lw_tbl := ab_tb2 _ (List.mem_of_getElem? (i := 17) rfl)
set_option maxRecDepth 100000 in
theorem wd_359 : (Jvm.Cond.methodLink "NestedFoci" (102 : Nat) ({ cls := "NestedFoci$Tape", name := "add", desc := "(I)V" } : Jvm.MethodName)) ∈ lw_tbl := ab_tb2 _ (List.mem_of_getElem? (i := 19) rfl)
set_option maxRecDepth 100000 in
theorem wd_360 : (Jvm.Cond.instanceMethod ({ cls := "NestedFoci$Tape", name := "add", desc := "(I)V" } : Jvm.MethodName)) ∈ lw_tbl := ab_tb2 _ (List.mem_of_getElem? (i := 20) rfl)
set_option maxRecDepth 100000 in
theorem wd_361 : (Jvm.Cond.selects "NestedFoci$Tape" ({ cls := "NestedFoci$Tape", name := "add", desc := "(I)V" } : Jvm.MethodName) ({ cls := "NestedFoci$Tape", name := "add", desc := "(I)V" } : Jvm.MethodName)) ∈ lw_tbl := ab_tb2 _ (List.mem_of_getElem? (i := 21) rfl)
set_option maxRecDepth 100000 in
theorem wd_362 : (Jvm.Cond.methodLink "NestedFoci" (106 : Nat) ({ cls := "NestedFoci", name := "isShelf", desc := "(I)Z" } : Jvm.MethodName)) ∈ lw_tbl := ab_tb2 _ (List.mem_of_getElem? (i := 27) rfl)
set_option maxRecDepth 100000 in
theorem wd_363 : (Jvm.Cond.static ({ cls := "NestedFoci", name := "isShelf", desc := "(I)Z" } : Jvm.MethodName)) ∈ lw_tbl := ab_tb2 _ (List.mem_of_getElem? (i := 28) rfl)
set_option maxRecDepth 100000 in
theorem wd_364 : (Jvm.Cond.methodLink "NestedFoci" (110 : Nat) ({ cls := "NestedFoci$ThingReader", name := "readWhole", desc := "()LNestedFoci$Thing;" } : Jvm.MethodName)) ∈ lw_tbl := ab_tb2 _ (List.mem_of_getElem? (i := 30) rfl)
set_option maxRecDepth 100000 in
theorem wd_365 : (Jvm.Cond.instanceMethod ({ cls := "NestedFoci$ThingReader", name := "readWhole", desc := "()LNestedFoci$Thing;" } : Jvm.MethodName)) ∈ lw_tbl := ab_tb2 _ (List.mem_of_getElem? (i := 31) rfl)
set_option maxRecDepth 100000 in
theorem wd_366 : (Jvm.Cond.selects "NestedFoci$ThingReader" ({ cls := "NestedFoci$ThingReader", name := "readWhole", desc := "()LNestedFoci$Thing;" } : Jvm.MethodName) ({ cls := "NestedFoci$ThingReader", name := "readWhole", desc := "()LNestedFoci$Thing;" } : Jvm.MethodName)) ∈ lw_tbl := ab_tb2 _ (List.mem_of_getElem? (i := 32) rfl)
set_option maxRecDepth 100000 in
theorem wd_367 : (Jvm.Cond.methodLink "NestedFoci" (114 : Nat) ({ cls := "NestedFoci$Tape", name := "fault", desc := "()I" } : Jvm.MethodName)) ∈ lw_tbl := ab_tb2 _ (List.mem_of_getElem? (i := 158) rfl)
set_option maxRecDepth 100000 in
theorem wd_368 : (Jvm.Cond.instanceMethod ({ cls := "NestedFoci$Tape", name := "fault", desc := "()I" } : Jvm.MethodName)) ∈ lw_tbl := ab_tb2 _ (List.mem_of_getElem? (i := 159) rfl)
set_option maxRecDepth 100000 in
theorem wd_369 : (Jvm.Cond.selects "NestedFoci$Tape" ({ cls := "NestedFoci$Tape", name := "fault", desc := "()I" } : Jvm.MethodName) ({ cls := "NestedFoci$Tape", name := "fault", desc := "()I" } : Jvm.MethodName)) ∈ lw_tbl := ab_tb2 _ (List.mem_of_getElem? (i := 160) rfl)
set_option maxRecDepth 100000 in
theorem wd_370 : (Jvm.Cond.methodLink "NestedFoci" (117 : Nat) ({ cls := "NestedFoci$Tape", name := "clear", desc := "()V" } : Jvm.MethodName)) ∈ lw_tbl := ab_tb2 _ (List.mem_of_getElem? (i := 162) rfl)
set_option maxRecDepth 100000 in
theorem wd_371 : (Jvm.Cond.instanceMethod ({ cls := "NestedFoci$Tape", name := "clear", desc := "()V" } : Jvm.MethodName)) ∈ lw_tbl := ab_tb2 _ (List.mem_of_getElem? (i := 163) rfl)
set_option maxRecDepth 100000 in
theorem wd_372 : (Jvm.Cond.selects "NestedFoci$Tape" ({ cls := "NestedFoci$Tape", name := "clear", desc := "()V" } : Jvm.MethodName) ({ cls := "NestedFoci$Tape", name := "clear", desc := "()V" } : Jvm.MethodName)) ∈ lw_tbl := ab_tb2 _ (List.mem_of_getElem? (i := 164) rfl)
set_option maxRecDepth 100000 in
theorem wd_373 : (Jvm.Cond.fieldLink "NestedFoci" (120 : Nat) "NestedFoci$Thing" "nodes" "I") ∈ lw_tbl := ab_tb1 _ (List.mem_of_getElem? (i := 164) rfl)
set_option maxRecDepth 100000 in
theorem wd_374 : (Jvm.Cond.methodLink "NestedFoci" (124 : Nat) ({ cls := "NestedFoci$Tally", name := "adds", desc := "(I)Z" } : Jvm.MethodName)) ∈ lw_tbl := ab_tb2 _ (List.mem_of_getElem? (i := 166) rfl)
set_option maxRecDepth 100000 in
theorem wd_375 : (Jvm.Cond.methodLink "NestedFoci" (127 : Nat) ({ cls := "NestedFoci$Shelf", name := "become", desc := "(LNestedFoci$Thing;)V" } : Jvm.MethodName)) ∈ lw_tbl := ab_tb2 _ (List.mem_of_getElem? (i := 170) rfl)
set_option maxRecDepth 100000 in
theorem wd_376 : (Jvm.Cond.instanceMethod ({ cls := "NestedFoci$Shelf", name := "become", desc := "(LNestedFoci$Thing;)V" } : Jvm.MethodName)) ∈ lw_tbl := ab_tb2 _ (List.mem_of_getElem? (i := 171) rfl)
set_option maxRecDepth 100000 in
theorem wd_377 : (Jvm.Cond.selects "NestedFoci$Shelf" ({ cls := "NestedFoci$Shelf", name := "become", desc := "(LNestedFoci$Thing;)V" } : Jvm.MethodName) ({ cls := "NestedFoci$Shelf", name := "become", desc := "(LNestedFoci$Thing;)V" } : Jvm.MethodName)) ∈ lw_tbl := ab_tb2 _ (List.mem_of_getElem? (i := 172) rfl)
set_option maxRecDepth 100000 in
theorem wd_378 : (Jvm.Cond.methodLink "NestedFoci" (130 : Nat) ({ cls := "NestedFoci", name := "isPath", desc := "(I)Z" } : Jvm.MethodName)) ∈ lw_tbl := ab_tb2 _ (List.mem_of_getElem? (i := 178) rfl)
set_option maxRecDepth 100000 in
theorem wd_379 : (Jvm.Cond.static ({ cls := "NestedFoci", name := "isPath", desc := "(I)Z" } : Jvm.MethodName)) ∈ lw_tbl := ab_tb2 _ (List.mem_of_getElem? (i := 179) rfl)
set_option maxRecDepth 100000 in
theorem wd_380 : (Jvm.Cond.methodLink "NestedFoci" (133 : Nat) ({ cls := "NestedFoci$PathReader", name := "readWhole", desc := "()LNestedFoci$Path;" } : Jvm.MethodName)) ∈ lw_tbl := ab_tb2 _ (List.mem_of_getElem? (i := 181) rfl)
set_option maxRecDepth 100000 in
theorem wd_381 : (Jvm.Cond.instanceMethod ({ cls := "NestedFoci$PathReader", name := "readWhole", desc := "()LNestedFoci$Path;" } : Jvm.MethodName)) ∈ lw_tbl := ab_tb2 _ (List.mem_of_getElem? (i := 182) rfl)
set_option maxRecDepth 100000 in
theorem wd_382 : (Jvm.Cond.selects "NestedFoci$PathReader" ({ cls := "NestedFoci$PathReader", name := "readWhole", desc := "()LNestedFoci$Path;" } : Jvm.MethodName) ({ cls := "NestedFoci$PathReader", name := "readWhole", desc := "()LNestedFoci$Path;" } : Jvm.MethodName)) ∈ lw_tbl := ab_tb2 _ (List.mem_of_getElem? (i := 183) rfl)
set_option maxRecDepth 100000 in
theorem wd_383 : (Jvm.Cond.methodLink "NestedFoci" (136 : Nat) ({ cls := "NestedFoci$Path", name := "size", desc := "()I" } : Jvm.MethodName)) ∈ lw_tbl := ab_tb2 _ (List.mem_of_getElem? (i := 214) rfl)
set_option maxRecDepth 100000 in
theorem wd_384 : (Jvm.Cond.methodLink "NestedFoci" (137 : Nat) ({ cls := "NestedFoci$Path", name := "goingOnBy", desc := "(LNestedFoci$Path;)LNestedFoci$Path;" } : Jvm.MethodName)) ∈ lw_tbl := ab_tb2 _ (List.mem_of_getElem? (i := 225) rfl)
set_option maxRecDepth 100000 in
theorem wd_385 : (Jvm.Cond.instanceMethod ({ cls := "NestedFoci$Path", name := "goingOnBy", desc := "(LNestedFoci$Path;)LNestedFoci$Path;" } : Jvm.MethodName)) ∈ lw_tbl := ab_tb2 _ (List.mem_of_getElem? (i := 226) rfl)
set_option maxRecDepth 100000 in
theorem wd_386 : (Jvm.Cond.selects "NestedFoci$Path" ({ cls := "NestedFoci$Path", name := "goingOnBy", desc := "(LNestedFoci$Path;)LNestedFoci$Path;" } : Jvm.MethodName) ({ cls := "NestedFoci$Path", name := "goingOnBy", desc := "(LNestedFoci$Path;)LNestedFoci$Path;" } : Jvm.MethodName)) ∈ lw_tbl := ab_tb2 _ (List.mem_of_getElem? (i := 227) rfl)
set_option maxRecDepth 100000 in
theorem wd_387 : (Jvm.Cond.methodLink "NestedFoci" (141 : Nat) ({ cls := "NestedFoci", name := "isHow", desc := "(II)Z" } : Jvm.MethodName)) ∈ lw_tbl := ab_tb3 _ (List.mem_of_getElem? (i := 4) rfl)
set_option maxRecDepth 100000 in
theorem wd_388 : (Jvm.Cond.static ({ cls := "NestedFoci", name := "isHow", desc := "(II)Z" } : Jvm.MethodName)) ∈ lw_tbl := ab_tb3 _ (List.mem_of_getElem? (i := 5) rfl)
set_option maxRecDepth 100000 in
theorem wd_389 : (Jvm.Cond.methodLink "NestedFoci" (145 : Nat) ({ cls := "NestedFoci", name := "held", desc := "(I)LNestedFoci$Thing;" } : Jvm.MethodName)) ∈ lw_tbl := ab_tb3 _ (List.mem_of_getElem? (i := 7) rfl)
set_option maxRecDepth 100000 in
theorem wd_390 : (Jvm.Cond.instanceMethod ({ cls := "NestedFoci", name := "held", desc := "(I)LNestedFoci$Thing;" } : Jvm.MethodName)) ∈ lw_tbl := ab_tb3 _ (List.mem_of_getElem? (i := 9) rfl)
set_option maxRecDepth 100000 in
theorem wd_391 : (Jvm.Cond.selects "NestedFoci" ({ cls := "NestedFoci", name := "held", desc := "(I)LNestedFoci$Thing;" } : Jvm.MethodName) ({ cls := "NestedFoci", name := "held", desc := "(I)LNestedFoci$Thing;" } : Jvm.MethodName)) ∈ lw_tbl := ab_pv1 _ (List.mem_of_getElem? (i := 12) rfl)
set_option maxRecDepth 100000 in
theorem wd_392 : (Jvm.Cond.methodLink "NestedFoci" (149 : Nat) ({ cls := "NestedFoci$Changer", name := "change", desc := "(LNestedFoci$Thing;LNestedFoci$Path;IILNestedFoci$Thing;)LNestedFoci$Thing;" } : Jvm.MethodName)) ∈ lw_tbl := ab_tb3 _ (List.mem_of_getElem? (i := 15) rfl)
set_option maxRecDepth 100000 in
theorem wd_393 : (Jvm.Cond.instanceMethod ({ cls := "NestedFoci$Changer", name := "change", desc := "(LNestedFoci$Thing;LNestedFoci$Path;IILNestedFoci$Thing;)LNestedFoci$Thing;" } : Jvm.MethodName)) ∈ lw_tbl := ab_tb3 _ (List.mem_of_getElem? (i := 16) rfl)
set_option maxRecDepth 100000 in
theorem wd_394 : (Jvm.Cond.selects "NestedFoci$Changer" ({ cls := "NestedFoci$Changer", name := "change", desc := "(LNestedFoci$Thing;LNestedFoci$Path;IILNestedFoci$Thing;)LNestedFoci$Thing;" } : Jvm.MethodName) ({ cls := "NestedFoci$Changer", name := "change", desc := "(LNestedFoci$Thing;LNestedFoci$Path;IILNestedFoci$Thing;)LNestedFoci$Thing;" } : Jvm.MethodName)) ∈ lw_tbl := ab_tb3 _ (List.mem_of_getElem? (i := 17) rfl)
set_option maxRecDepth 100000 in
theorem wd_395 : (Jvm.Cond.methodLink "NestedFoci" (153 : Nat) ({ cls := "NestedFoci$Thing", name := "isTooMuch", desc := "()Z" } : Jvm.MethodName)) ∈ lw_tbl := ab_tb3 _ (List.mem_of_getElem? (i := 103) rfl)
set_option maxRecDepth 100000 in
theorem wd_396 : (Jvm.Cond.instanceMethod ({ cls := "NestedFoci$Thing", name := "isTooMuch", desc := "()Z" } : Jvm.MethodName)) ∈ lw_tbl := ab_tb3 _ (List.mem_of_getElem? (i := 104) rfl)
set_option maxRecDepth 100000 in
theorem wd_397 : (Jvm.Cond.selects "NestedFoci$Thing" ({ cls := "NestedFoci$Thing", name := "isTooMuch", desc := "()Z" } : Jvm.MethodName) ({ cls := "NestedFoci$Thing", name := "isTooMuch", desc := "()Z" } : Jvm.MethodName)) ∈ lw_tbl := ab_tb3 _ (List.mem_of_getElem? (i := 105) rfl)
set_option maxRecDepth 100000 in
theorem wd_398 : (Jvm.Cond.methodLink "NestedFoci" (157 : Nat) ({ cls := "NestedFoci$Changer", name := "focusCount", desc := "()I" } : Jvm.MethodName)) ∈ lw_tbl := ab_tb3 _ (List.mem_of_getElem? (i := 107) rfl)
set_option maxRecDepth 100000 in
theorem wd_399 : (Jvm.Cond.instanceMethod ({ cls := "NestedFoci$Changer", name := "focusCount", desc := "()I" } : Jvm.MethodName)) ∈ lw_tbl := ab_tb3 _ (List.mem_of_getElem? (i := 108) rfl)
set_option maxRecDepth 100000 in
theorem wd_400 : (Jvm.Cond.selects "NestedFoci$Changer" ({ cls := "NestedFoci$Changer", name := "focusCount", desc := "()I" } : Jvm.MethodName) ({ cls := "NestedFoci$Changer", name := "focusCount", desc := "()I" } : Jvm.MethodName)) ∈ lw_tbl := ab_tb3 _ (List.mem_of_getElem? (i := 109) rfl)
set_option maxRecDepth 100000 in
theorem wd_401 : (Jvm.Cond.fieldLink "NestedFoci" (160 : Nat) "NestedFoci$Thing" "kind" "I") ∈ lw_tbl := ab_tb1 _ (List.mem_of_getElem? (i := 156) rfl)
set_option maxRecDepth 100000 in
theorem wd_402 : (Jvm.Cond.methodLink "NestedFoci" (163 : Nat) ({ cls := "NestedFoci$Tally", name := "hasRoomFor", desc := "(I)Z" } : Jvm.MethodName)) ∈ lw_tbl := ab_tb3 _ (List.mem_of_getElem? (i := 115) rfl)
set_option maxRecDepth 100000 in
theorem wd_403 : (Jvm.Cond.instanceMethod ({ cls := "NestedFoci$Tally", name := "hasRoomFor", desc := "(I)Z" } : Jvm.MethodName)) ∈ lw_tbl := ab_tb3 _ (List.mem_of_getElem? (i := 116) rfl)
set_option maxRecDepth 100000 in
theorem wd_404 : (Jvm.Cond.selects "NestedFoci$Tally" ({ cls := "NestedFoci$Tally", name := "hasRoomFor", desc := "(I)Z" } : Jvm.MethodName) ({ cls := "NestedFoci$Tally", name := "hasRoomFor", desc := "(I)Z" } : Jvm.MethodName)) ∈ lw_tbl := ab_tb3 _ (List.mem_of_getElem? (i := 117) rfl)
set_option maxRecDepth 100000 in
theorem wd_405 : (Jvm.Cond.methodLink "NestedFoci" (166 : Nat) ({ cls := "NestedFoci", name := "withKey", desc := "(LNestedFoci$Thing;ILNestedFoci$Thing;)LNestedFoci$Thing;" } : Jvm.MethodName)) ∈ lw_tbl := ab_tb3 _ (List.mem_of_getElem? (i := 119) rfl)
set_option maxRecDepth 100000 in
theorem wd_406 : (Jvm.Cond.static ({ cls := "NestedFoci", name := "withKey", desc := "(LNestedFoci$Thing;ILNestedFoci$Thing;)LNestedFoci$Thing;" } : Jvm.MethodName)) ∈ lw_tbl := ab_tb3 _ (List.mem_of_getElem? (i := 120) rfl)
set_option maxRecDepth 100000 in
theorem wd_407 : (Jvm.Cond.methodLink "NestedFoci" (170 : Nat) ({ cls := "NestedFoci", name := "ofTwo", desc := "(ILNestedFoci$Thing;LNestedFoci$Thing;)LNestedFoci$Thing;" } : Jvm.MethodName)) ∈ lw_tbl := ab_tb3 _ (List.mem_of_getElem? (i := 126) rfl)
set_option maxRecDepth 100000 in
theorem wd_408 : (Jvm.Cond.methodLink "NestedFoci" (174 : Nat) ({ cls := "NestedFoci", name := "focusAt", desc := "(III)LNestedFoci$Thing;" } : Jvm.MethodName)) ∈ lw_tbl := ab_tb3 _ (List.mem_of_getElem? (i := 131) rfl)
set_option maxRecDepth 100000 in
theorem wd_409 : (Jvm.Cond.instanceMethod ({ cls := "NestedFoci", name := "focusAt", desc := "(III)LNestedFoci$Thing;" } : Jvm.MethodName)) ∈ lw_tbl := ab_tb3 _ (List.mem_of_getElem? (i := 133) rfl)
set_option maxRecDepth 100000 in
theorem wd_410 : (Jvm.Cond.selects "NestedFoci" ({ cls := "NestedFoci", name := "focusAt", desc := "(III)LNestedFoci$Thing;" } : Jvm.MethodName) ({ cls := "NestedFoci", name := "focusAt", desc := "(III)LNestedFoci$Thing;" } : Jvm.MethodName)) ∈ lw_tbl := ab_pv2 _ (List.mem_of_getElem? (i := 4) rfl)
set_option maxRecDepth 100000 in
theorem wd_411 : (Jvm.Cond.methodLink "NestedFoci" (178 : Nat) ({ cls := "NestedFoci$Shelf", name := "oldCount", desc := "()I" } : Jvm.MethodName)) ∈ lw_tbl := ab_tb3 _ (List.mem_of_getElem? (i := 165) rfl)
set_option maxRecDepth 100000 in
theorem wd_412 : (Jvm.Cond.instanceMethod ({ cls := "NestedFoci$Shelf", name := "oldCount", desc := "()I" } : Jvm.MethodName)) ∈ lw_tbl := ab_tb3 _ (List.mem_of_getElem? (i := 166) rfl)
set_option maxRecDepth 100000 in
theorem wd_413 : (Jvm.Cond.selects "NestedFoci$Shelf" ({ cls := "NestedFoci$Shelf", name := "oldCount", desc := "()I" } : Jvm.MethodName) ({ cls := "NestedFoci$Shelf", name := "oldCount", desc := "()I" } : Jvm.MethodName)) ∈ lw_tbl := ab_tb3 _ (List.mem_of_getElem? (i := 167) rfl)
set_option maxRecDepth 100000 in
theorem wd_414 : (Jvm.Cond.methodLink "NestedFoci" (181 : Nat) ({ cls := "NestedFoci$Shelf", name := "becomeLastOld", desc := "()V" } : Jvm.MethodName)) ∈ lw_tbl := ab_tb3 _ (List.mem_of_getElem? (i := 169) rfl)
set_option maxRecDepth 100000 in
theorem wd_415 : (Jvm.Cond.instanceMethod ({ cls := "NestedFoci$Shelf", name := "becomeLastOld", desc := "()V" } : Jvm.MethodName)) ∈ lw_tbl := ab_tb3 _ (List.mem_of_getElem? (i := 170) rfl)
set_option maxRecDepth 100000 in
theorem wd_416 : (Jvm.Cond.selects "NestedFoci$Shelf" ({ cls := "NestedFoci$Shelf", name := "becomeLastOld", desc := "()V" } : Jvm.MethodName) ({ cls := "NestedFoci$Shelf", name := "becomeLastOld", desc := "()V" } : Jvm.MethodName)) ∈ lw_tbl := ab_tb3 _ (List.mem_of_getElem? (i := 171) rfl)
set_option maxRecDepth 100000 in
theorem wd_417 : (Jvm.Cond.constantLong "NestedFoci" (184 : Nat) (-9223372036854775808 : Int64)) ∈ lw_tbl := ab_tb3 _ (List.mem_of_getElem? (i := 177) rfl)
set_option maxRecDepth 100000 in
theorem wd_418 : (Jvm.Cond.fieldLink "NestedFoci" (186 : Nat) "NestedFoci$Thing" "word" "I") ∈ lw_tbl := ab_tb1 _ (List.mem_of_getElem? (i := 162) rfl)
set_option maxRecDepth 100000 in
theorem wd_419 : (Jvm.Cond.methodLink "NestedFoci" (189 : Nat) ({ cls := "NestedFoci$Thing", name := "size", desc := "()I" } : Jvm.MethodName)) ∈ lw_tbl := ab_tb3 _ (List.mem_of_getElem? (i := 122) rfl)
set_option maxRecDepth 100000 in
theorem wd_420 : (Jvm.Cond.fieldLink "NestedFoci" (190 : Nat) "NestedFoci$Thing" "height" "I") ∈ lw_tbl := ab_tb1 _ (List.mem_of_getElem? (i := 169) rfl)
set_option maxRecDepth 100000 in
theorem wd_421 : (Jvm.Cond.methodLink "NestedFoci" (193 : Nat) ({ cls := "NestedFoci$Thing", name := "letters", desc := "(I)I" } : Jvm.MethodName)) ∈ lw_tbl := ab_tb3 _ (List.mem_of_getElem? (i := 123) rfl)
set_option maxRecDepth 100000 in
theorem wd_422 : (Jvm.Cond.methodLink "NestedFoci" (197 : Nat) ({ cls := "NestedFoci$Foci", name := "find", desc := "(LNestedFoci$Thing;LNestedFoci$Path;)V" } : Jvm.MethodName)) ∈ lw_tbl := ab_tb3 _ (List.mem_of_getElem? (i := 135) rfl)
set_option maxRecDepth 100000 in
theorem wd_423 : (Jvm.Cond.instanceMethod ({ cls := "NestedFoci$Foci", name := "find", desc := "(LNestedFoci$Thing;LNestedFoci$Path;)V" } : Jvm.MethodName)) ∈ lw_tbl := ab_tb3 _ (List.mem_of_getElem? (i := 136) rfl)
set_option maxRecDepth 100000 in
theorem wd_424 : (Jvm.Cond.selects "NestedFoci$Foci" ({ cls := "NestedFoci$Foci", name := "find", desc := "(LNestedFoci$Thing;LNestedFoci$Path;)V" } : Jvm.MethodName) ({ cls := "NestedFoci$Foci", name := "find", desc := "(LNestedFoci$Thing;LNestedFoci$Path;)V" } : Jvm.MethodName)) ∈ lw_tbl := ab_tb3 _ (List.mem_of_getElem? (i := 137) rfl)
set_option maxRecDepth 100000 in
theorem wd_425 : (Jvm.Cond.methodLink "NestedFoci" (201 : Nat) ({ cls := "NestedFoci$Foci", name := "size", desc := "()I" } : Jvm.MethodName)) ∈ lw_tbl := ab_tb3 _ (List.mem_of_getElem? (i := 153) rfl)
set_option maxRecDepth 100000 in
theorem wd_426 : (Jvm.Cond.instanceMethod ({ cls := "NestedFoci$Foci", name := "size", desc := "()I" } : Jvm.MethodName)) ∈ lw_tbl := ab_tb3 _ (List.mem_of_getElem? (i := 154) rfl)
set_option maxRecDepth 100000 in
theorem wd_427 : (Jvm.Cond.selects "NestedFoci$Foci" ({ cls := "NestedFoci$Foci", name := "size", desc := "()I" } : Jvm.MethodName) ({ cls := "NestedFoci$Foci", name := "size", desc := "()I" } : Jvm.MethodName)) ∈ lw_tbl := ab_tb3 _ (List.mem_of_getElem? (i := 155) rfl)
set_option maxRecDepth 100000 in
theorem wd_428 : (Jvm.Cond.methodLink "NestedFoci" (202 : Nat) ({ cls := "NestedFoci$Foci", name := "sum", desc := "()J" } : Jvm.MethodName)) ∈ lw_tbl := ab_tb3 _ (List.mem_of_getElem? (i := 186) rfl)
set_option maxRecDepth 100000 in
theorem wd_429 : (Jvm.Cond.instanceMethod ({ cls := "NestedFoci$Foci", name := "sum", desc := "()J" } : Jvm.MethodName)) ∈ lw_tbl := ab_tb3 _ (List.mem_of_getElem? (i := 187) rfl)
set_option maxRecDepth 100000 in
theorem wd_430 : (Jvm.Cond.selects "NestedFoci$Foci" ({ cls := "NestedFoci$Foci", name := "sum", desc := "()J" } : Jvm.MethodName) ({ cls := "NestedFoci$Foci", name := "sum", desc := "()J" } : Jvm.MethodName)) ∈ lw_tbl := ab_tb3 _ (List.mem_of_getElem? (i := 188) rfl)
set_option maxRecDepth 100000 in
theorem wd_431 : (Jvm.Cond.methodLink "NestedFoci" (206 : Nat) ({ cls := "NestedFoci$Foci", name := "isEmpty", desc := "()Z" } : Jvm.MethodName)) ∈ lw_tbl := ab_tb3 _ (List.mem_of_getElem? (i := 193) rfl)
set_option maxRecDepth 100000 in
theorem wd_432 : (Jvm.Cond.instanceMethod ({ cls := "NestedFoci$Foci", name := "isEmpty", desc := "()Z" } : Jvm.MethodName)) ∈ lw_tbl := ab_tb3 _ (List.mem_of_getElem? (i := 194) rfl)
set_option maxRecDepth 100000 in
theorem wd_433 : (Jvm.Cond.selects "NestedFoci$Foci" ({ cls := "NestedFoci$Foci", name := "isEmpty", desc := "()Z" } : Jvm.MethodName) ({ cls := "NestedFoci$Foci", name := "isEmpty", desc := "()Z" } : Jvm.MethodName)) ∈ lw_tbl := ab_tb3 _ (List.mem_of_getElem? (i := 195) rfl)
set_option maxRecDepth 100000 in
theorem wd_434 : (Jvm.Cond.methodLink "NestedFoci" (209 : Nat) ({ cls := "NestedFoci$Foci", name := "greatest", desc := "()I" } : Jvm.MethodName)) ∈ lw_tbl := ab_tb3 _ (List.mem_of_getElem? (i := 197) rfl)
set_option maxRecDepth 100000 in
theorem wd_435 : (Jvm.Cond.instanceMethod ({ cls := "NestedFoci$Foci", name := "greatest", desc := "()I" } : Jvm.MethodName)) ∈ lw_tbl := ab_tb3 _ (List.mem_of_getElem? (i := 198) rfl)
set_option maxRecDepth 100000 in
theorem wd_436 : (Jvm.Cond.selects "NestedFoci$Foci" ({ cls := "NestedFoci$Foci", name := "greatest", desc := "()I" } : Jvm.MethodName) ({ cls := "NestedFoci$Foci", name := "greatest", desc := "()I" } : Jvm.MethodName)) ∈ lw_tbl := ab_tb3 _ (List.mem_of_getElem? (i := 199) rfl)
set_option maxRecDepth 100000 in
theorem wd_437 : (Jvm.Cond.methodLink "NestedFoci" (212 : Nat) ({ cls := "NestedFoci$Foci", name := "least", desc := "()I" } : Jvm.MethodName)) ∈ lw_tbl := ab_tb3 _ (List.mem_of_getElem? (i := 202) rfl)
set_option maxRecDepth 100000 in
theorem wd_438 : (Jvm.Cond.instanceMethod ({ cls := "NestedFoci$Foci", name := "least", desc := "()I" } : Jvm.MethodName)) ∈ lw_tbl := ab_tb3 _ (List.mem_of_getElem? (i := 203) rfl)
set_option maxRecDepth 100000 in
theorem wd_439 : (Jvm.Cond.selects "NestedFoci$Foci" ({ cls := "NestedFoci$Foci", name := "least", desc := "()I" } : Jvm.MethodName) ({ cls := "NestedFoci$Foci", name := "least", desc := "()I" } : Jvm.MethodName)) ∈ lw_tbl := ab_tb3 _ (List.mem_of_getElem? (i := 204) rfl)
set_option maxRecDepth 100000 in
theorem wd_440 : (Jvm.Cond.methodLink "NestedFoci" (215 : Nat) ({ cls := "NestedFoci$Foci", name := "unlike", desc := "()I" } : Jvm.MethodName)) ∈ lw_tbl := ab_tb3 _ (List.mem_of_getElem? (i := 206) rfl)
set_option maxRecDepth 100000 in
theorem wd_441 : (Jvm.Cond.instanceMethod ({ cls := "NestedFoci$Foci", name := "unlike", desc := "()I" } : Jvm.MethodName)) ∈ lw_tbl := ab_tb3 _ (List.mem_of_getElem? (i := 207) rfl)
set_option maxRecDepth 100000 in
theorem wd_442 : (Jvm.Cond.selects "NestedFoci$Foci" ({ cls := "NestedFoci$Foci", name := "unlike", desc := "()I" } : Jvm.MethodName) ({ cls := "NestedFoci$Foci", name := "unlike", desc := "()I" } : Jvm.MethodName)) ∈ lw_tbl := ab_tb3 _ (List.mem_of_getElem? (i := 208) rfl)
set_option maxRecDepth 100000 in
theorem wd_443 : (Jvm.Cond.methodLink "NestedFoci" (218 : Nat) ({ cls := "NestedFoci$Foci", name := "height", desc := "()I" } : Jvm.MethodName)) ∈ lw_tbl := ab_tb3 _ (List.mem_of_getElem? (i := 217) rfl)
set_option maxRecDepth 100000 in
theorem wd_444 : (Jvm.Cond.instanceMethod ({ cls := "NestedFoci$Foci", name := "height", desc := "()I" } : Jvm.MethodName)) ∈ lw_tbl := ab_tb3 _ (List.mem_of_getElem? (i := 218) rfl)
set_option maxRecDepth 100000 in
theorem wd_445 : (Jvm.Cond.selects "NestedFoci$Foci" ({ cls := "NestedFoci$Foci", name := "height", desc := "()I" } : Jvm.MethodName) ({ cls := "NestedFoci$Foci", name := "height", desc := "()I" } : Jvm.MethodName)) ∈ lw_tbl := ab_tb3 _ (List.mem_of_getElem? (i := 219) rfl)
set_option maxRecDepth 100000 in
theorem wd_446 : (Jvm.Cond.methodLink "NestedFoci" (220 : Nat) ({ cls := "NestedFoci$Foci", name := "nodes", desc := "()I" } : Jvm.MethodName)) ∈ lw_tbl := ab_tb3 _ (List.mem_of_getElem? (i := 222) rfl)
set_option maxRecDepth 100000 in
theorem wd_447 : (Jvm.Cond.instanceMethod ({ cls := "NestedFoci$Foci", name := "nodes", desc := "()I" } : Jvm.MethodName)) ∈ lw_tbl := ab_tb3 _ (List.mem_of_getElem? (i := 223) rfl)
set_option maxRecDepth 100000 in
theorem wd_448 : (Jvm.Cond.selects "NestedFoci$Foci" ({ cls := "NestedFoci$Foci", name := "nodes", desc := "()I" } : Jvm.MethodName) ({ cls := "NestedFoci$Foci", name := "nodes", desc := "()I" } : Jvm.MethodName)) ∈ lw_tbl := ab_tb3 _ (List.mem_of_getElem? (i := 224) rfl)
set_option maxRecDepth 100000 in
theorem wd_449 : (Jvm.Cond.methodLink "NestedFoci" (222 : Nat) ({ cls := "NestedFoci$Foci", name := "sorted", desc := "(II)I" } : Jvm.MethodName)) ∈ lw_tbl := ab_tb3 _ (List.mem_of_getElem? (i := 230) rfl)
set_option maxRecDepth 100000 in
theorem wd_450 : (Jvm.Cond.instanceMethod ({ cls := "NestedFoci$Foci", name := "sorted", desc := "(II)I" } : Jvm.MethodName)) ∈ lw_tbl := ab_tb3 _ (List.mem_of_getElem? (i := 231) rfl)
set_option maxRecDepth 100000 in
theorem wd_451 : (Jvm.Cond.selects "NestedFoci$Foci" ({ cls := "NestedFoci$Foci", name := "sorted", desc := "(II)I" } : Jvm.MethodName) ({ cls := "NestedFoci$Foci", name := "sorted", desc := "(II)I" } : Jvm.MethodName)) ∈ lw_tbl := ab_tb3 _ (List.mem_of_getElem? (i := 232) rfl)
set_option maxRecDepth 100000 in
theorem wd_452 : (Jvm.Cond.methodLinkNest "NestedFoci" (226 : Nat) ({ cls := "NestedFoci$Thing", name := "compare", desc := "(LNestedFoci$Thing;LNestedFoci$Thing;I)I" } : Jvm.MethodName) "NestedFoci") ∈ lw_tbl := ab_tb4 _ (List.mem_of_getElem? (i := 1) rfl)
set_option maxRecDepth 100000 in
theorem wd_453 : (Jvm.Cond.methodLink "NestedFoci" (230 : Nat) ({ cls := "NestedFoci", name := "sharedNodes", desc := "(LNestedFoci$Thing;LNestedFoci$Thing;I)I" } : Jvm.MethodName)) ∈ lw_tbl := ab_tb4 _ (List.mem_of_getElem? (i := 6) rfl)
set_option maxRecDepth 100000 in
theorem wd_454 : (Jvm.Cond.static ({ cls := "NestedFoci", name := "sharedNodes", desc := "(LNestedFoci$Thing;LNestedFoci$Thing;I)I" } : Jvm.MethodName)) ∈ lw_tbl := ab_tb4 _ (List.mem_of_getElem? (i := 7) rfl)
set_option maxRecDepth 100000 in
theorem wd_455 : (Jvm.Cond.methodLink "NestedFoci" (233 : Nat) ({ cls := "NestedFoci$Difference", name := "find", desc := "(LNestedFoci$Thing;LNestedFoci$Thing;)V" } : Jvm.MethodName)) ∈ lw_tbl := ab_tb4 _ (List.mem_of_getElem? (i := 17) rfl)
set_option maxRecDepth 100000 in
theorem wd_456 : (Jvm.Cond.instanceMethod ({ cls := "NestedFoci$Difference", name := "find", desc := "(LNestedFoci$Thing;LNestedFoci$Thing;)V" } : Jvm.MethodName)) ∈ lw_tbl := ab_tb4 _ (List.mem_of_getElem? (i := 18) rfl)
set_option maxRecDepth 100000 in
theorem wd_457 : (Jvm.Cond.selects "NestedFoci$Difference" ({ cls := "NestedFoci$Difference", name := "find", desc := "(LNestedFoci$Thing;LNestedFoci$Thing;)V" } : Jvm.MethodName) ({ cls := "NestedFoci$Difference", name := "find", desc := "(LNestedFoci$Thing;LNestedFoci$Thing;)V" } : Jvm.MethodName)) ∈ lw_tbl := ab_tb4 _ (List.mem_of_getElem? (i := 19) rfl)
set_option maxRecDepth 100000 in
theorem wd_458 : (Jvm.Cond.methodLink "NestedFoci" (236 : Nat) ({ cls := "NestedFoci$Difference", name := "size", desc := "()I" } : Jvm.MethodName)) ∈ lw_tbl := ab_tb4 _ (List.mem_of_getElem? (i := 36) rfl)
set_option maxRecDepth 100000 in
theorem wd_459 : (Jvm.Cond.instanceMethod ({ cls := "NestedFoci$Difference", name := "size", desc := "()I" } : Jvm.MethodName)) ∈ lw_tbl := ab_tb4 _ (List.mem_of_getElem? (i := 37) rfl)
set_option maxRecDepth 100000 in
theorem wd_460 : (Jvm.Cond.selects "NestedFoci$Difference" ({ cls := "NestedFoci$Difference", name := "size", desc := "()I" } : Jvm.MethodName) ({ cls := "NestedFoci$Difference", name := "size", desc := "()I" } : Jvm.MethodName)) ∈ lw_tbl := ab_tb4 _ (List.mem_of_getElem? (i := 38) rfl)
set_option maxRecDepth 100000 in
theorem wd_461 : (Jvm.Cond.methodLink "NestedFoci" (237 : Nat) ({ cls := "NestedFoci$Difference", name := "place", desc := "(I)I" } : Jvm.MethodName)) ∈ lw_tbl := ab_tb4 _ (List.mem_of_getElem? (i := 40) rfl)
set_option maxRecDepth 100000 in
theorem wd_462 : (Jvm.Cond.instanceMethod ({ cls := "NestedFoci$Difference", name := "place", desc := "(I)I" } : Jvm.MethodName)) ∈ lw_tbl := ab_tb4 _ (List.mem_of_getElem? (i := 41) rfl)
set_option maxRecDepth 100000 in
theorem wd_463 : (Jvm.Cond.selects "NestedFoci$Difference" ({ cls := "NestedFoci$Difference", name := "place", desc := "(I)I" } : Jvm.MethodName) ({ cls := "NestedFoci$Difference", name := "place", desc := "(I)I" } : Jvm.MethodName)) ∈ lw_tbl := ab_tb4 _ (List.mem_of_getElem? (i := 42) rfl)
set_option maxRecDepth 100000 in
theorem wd_464 : (Jvm.Cond.methodLink "NestedFoci" (240 : Nat) ({ cls := "NestedFoci$Foci", name := "areAllAlike", desc := "(LNestedFoci$Thing;)Z" } : Jvm.MethodName)) ∈ lw_tbl := ab_tb4 _ (List.mem_of_getElem? (i := 48) rfl)
set_option maxRecDepth 100000 in
theorem wd_465 : (Jvm.Cond.instanceMethod ({ cls := "NestedFoci$Foci", name := "areAllAlike", desc := "(LNestedFoci$Thing;)Z" } : Jvm.MethodName)) ∈ lw_tbl := ab_tb4 _ (List.mem_of_getElem? (i := 49) rfl)
set_option maxRecDepth 100000 in
theorem wd_466 : (Jvm.Cond.selects "NestedFoci$Foci" ({ cls := "NestedFoci$Foci", name := "areAllAlike", desc := "(LNestedFoci$Thing;)Z" } : Jvm.MethodName) ({ cls := "NestedFoci$Foci", name := "areAllAlike", desc := "(LNestedFoci$Thing;)Z" } : Jvm.MethodName)) ∈ lw_tbl := ab_tb4 _ (List.mem_of_getElem? (i := 50) rfl)
set_option maxRecDepth 100000 in
theorem wd_467 : (Jvm.Cond.methodLink "NestedFoci" (244 : Nat) ({ cls := "NestedFoci$Thing", name := "areAlike", desc := "(LNestedFoci$Thing;LNestedFoci$Thing;)Z" } : Jvm.MethodName)) ∈ lw_tbl := ab_tb4 _ (List.mem_of_getElem? (i := 52) rfl)
set_option maxRecDepth 100000 in
theorem wd_468 : (Jvm.Cond.methodLink "NestedFoci" (248 : Nat) ({ cls := "NestedFoci", name := "allNodes", desc := "()I" } : Jvm.MethodName)) ∈ lw_tbl := ab_tb4 _ (List.mem_of_getElem? (i := 57) rfl)
set_option maxRecDepth 100000 in
theorem wd_469 : (Jvm.Cond.instanceMethod ({ cls := "NestedFoci", name := "allNodes", desc := "()I" } : Jvm.MethodName)) ∈ lw_tbl := ab_tb4 _ (List.mem_of_getElem? (i := 59) rfl)
set_option maxRecDepth 100000 in
theorem wd_470 : (Jvm.Cond.selects "NestedFoci" ({ cls := "NestedFoci", name := "allNodes", desc := "()I" } : Jvm.MethodName) ({ cls := "NestedFoci", name := "allNodes", desc := "()I" } : Jvm.MethodName)) ∈ lw_tbl := ab_pv2 _ (List.mem_of_getElem? (i := 10) rfl)
set_option maxRecDepth 100000 in
theorem wd_471 : (Jvm.Cond.methodLink "NestedFoci" (251 : Nat) ({ cls := "NestedFoci$Shelf", name := "restart", desc := "(LNestedFoci$Thing;)V" } : Jvm.MethodName)) ∈ lw_tbl := ab_tb4 _ (List.mem_of_getElem? (i := 65) rfl)
set_option maxRecDepth 100000 in
theorem wd_472 : (Jvm.Cond.instanceMethod ({ cls := "NestedFoci$Shelf", name := "restart", desc := "(LNestedFoci$Thing;)V" } : Jvm.MethodName)) ∈ lw_tbl := ab_tb4 _ (List.mem_of_getElem? (i := 66) rfl)
set_option maxRecDepth 100000 in
theorem wd_473 : (Jvm.Cond.selects "NestedFoci$Shelf" ({ cls := "NestedFoci$Shelf", name := "restart", desc := "(LNestedFoci$Thing;)V" } : Jvm.MethodName) ({ cls := "NestedFoci$Shelf", name := "restart", desc := "(LNestedFoci$Thing;)V" } : Jvm.MethodName)) ∈ lw_tbl := ab_tb4 _ (List.mem_of_getElem? (i := 67) rfl)
set_option maxRecDepth 100000 in
theorem wd_474 : (Jvm.Cond.methodLink "NestedFoci" (254 : Nat) ({ cls := "NestedFoci$Tally", name := "sum", desc := "()I" } : Jvm.MethodName)) ∈ lw_tbl := ab_tb4 _ (List.mem_of_getElem? (i := 73) rfl)
set_option maxRecDepth 100000 in
theorem wd_475 : (Jvm.Cond.instanceMethod ({ cls := "NestedFoci$Tally", name := "sum", desc := "()I" } : Jvm.MethodName)) ∈ lw_tbl := ab_tb4 _ (List.mem_of_getElem? (i := 74) rfl)
set_option maxRecDepth 100000 in
theorem wd_476 : (Jvm.Cond.selects "NestedFoci$Tally" ({ cls := "NestedFoci$Tally", name := "sum", desc := "()I" } : Jvm.MethodName) ({ cls := "NestedFoci$Tally", name := "sum", desc := "()I" } : Jvm.MethodName)) ∈ lw_tbl := ab_tb4 _ (List.mem_of_getElem? (i := 75) rfl)
set_option maxRecDepth 100000 in
theorem wd_477 : (Jvm.Cond.methodLink "NestedFoci" (256 : Nat) ({ cls := "NestedFoci$Shelf", name := "held", desc := "()LNestedFoci$Thing;" } : Jvm.MethodName)) ∈ lw_tbl := ab_tb3 _ (List.mem_of_getElem? (i := 11) rfl)
set_option maxRecDepth 100000 in
theorem wd_478 : (Jvm.Cond.instanceMethod ({ cls := "NestedFoci$Shelf", name := "held", desc := "()LNestedFoci$Thing;" } : Jvm.MethodName)) ∈ lw_tbl := ab_tb3 _ (List.mem_of_getElem? (i := 12) rfl)
set_option maxRecDepth 100000 in
theorem wd_479 : (Jvm.Cond.selects "NestedFoci$Shelf" ({ cls := "NestedFoci$Shelf", name := "held", desc := "()LNestedFoci$Thing;" } : Jvm.MethodName) ({ cls := "NestedFoci$Shelf", name := "held", desc := "()LNestedFoci$Thing;" } : Jvm.MethodName)) ∈ lw_tbl := ab_tb3 _ (List.mem_of_getElem? (i := 13) rfl)
set_option maxRecDepth 100000 in
theorem wd_480 : (Jvm.Cond.methodLink "NestedFoci" (258 : Nat) ({ cls := "NestedFoci$Foci", name := "at", desc := "(I)LNestedFoci$Thing;" } : Jvm.MethodName)) ∈ lw_tbl := ab_tb3 _ (List.mem_of_getElem? (i := 157) rfl)
set_option maxRecDepth 100000 in
theorem wd_481 : (Jvm.Cond.instanceMethod ({ cls := "NestedFoci$Foci", name := "at", desc := "(I)LNestedFoci$Thing;" } : Jvm.MethodName)) ∈ lw_tbl := ab_tb3 _ (List.mem_of_getElem? (i := 158) rfl)
set_option maxRecDepth 100000 in
theorem wd_482 : (Jvm.Cond.selects "NestedFoci$Foci" ({ cls := "NestedFoci$Foci", name := "at", desc := "(I)LNestedFoci$Thing;" } : Jvm.MethodName) ({ cls := "NestedFoci$Foci", name := "at", desc := "(I)LNestedFoci$Thing;" } : Jvm.MethodName)) ∈ lw_tbl := ab_tb3 _ (List.mem_of_getElem? (i := 159) rfl)
set_option maxRecDepth 100000 in
theorem wd_483 : (Jvm.Cond.classLink "NestedFoci" (261 : Nat) "NestedFoci$Parts") ∈ lw_tbl := ab_tb2 _ (List.mem_of_getElem? (i := 80) rfl)
set_option maxRecDepth 100000 in
theorem wd_484 : (Jvm.Cond.methodLinkNest "NestedFoci" (263 : Nat) ({ cls := "NestedFoci$Parts", name := "<init>", desc := "()V" } : Jvm.MethodName) "NestedFoci") ∈ lw_tbl := ab_tb2 _ (List.mem_of_getElem? (i := 82) rfl)
set_option maxRecDepth 100000 in
theorem wd_485 : (Jvm.Cond.methodLink "NestedFoci" (264 : Nat) ({ cls := "NestedFoci$Parts", name := "add", desc := "(ILNestedFoci$Thing;)V" } : Jvm.MethodName)) ∈ lw_tbl := ab_tb2 _ (List.mem_of_getElem? (i := 97) rfl)
set_option maxRecDepth 100000 in
theorem wd_486 : (Jvm.Cond.methodLink "NestedFoci" (267 : Nat) ({ cls := "NestedFoci$Parts", name := "together", desc := "(I)LNestedFoci$Thing;" } : Jvm.MethodName)) ∈ lw_tbl := ab_tb2 _ (List.mem_of_getElem? (i := 105) rfl)
set_option maxRecDepth 100000 in
theorem wd_487 : (Jvm.Cond.methodLink "NestedFoci" (270 : Nat) ({ cls := "NestedFoci$Thing", name := "part", desc := "(I)LNestedFoci$Thing;" } : Jvm.MethodName)) ∈ lw_tbl := ab_tb3 _ (List.mem_of_getElem? (i := 124) rfl)
set_option maxRecDepth 100000 in
theorem wd_488 : (Jvm.Cond.methodLink "NestedFoci" (273 : Nat) ({ cls := "NestedFoci$Parts", name := "putByKey", desc := "(ILNestedFoci$Thing;)V" } : Jvm.MethodName)) ∈ lw_tbl := ab_tb3 _ (List.mem_of_getElem? (i := 125) rfl)
set_option maxRecDepth 100000 in
theorem wd_489 : (Jvm.Cond.methodLinkNest "NestedFoci" (276 : Nat) ({ cls := "NestedFoci$Thing", name := "holds", desc := "(LNestedFoci$Thing;LNestedFoci$Thing;I)Z" } : Jvm.MethodName) "NestedFoci") ∈ lw_tbl := ab_tb4 _ (List.mem_of_getElem? (i := 9) rfl)
set_option maxRecDepth 100000 in
theorem wd_490 : (Jvm.Cond.methodLink "NestedFociModel" (1 : Nat) ({ cls := "java/lang/Object", name := "<init>", desc := "()V" } : Jvm.MethodName)) ∈ lw_tbl := ab_tb4 _ (List.mem_of_getElem? (i := 82) rfl)
set_option maxRecDepth 100000 in
theorem wd_491 : (Jvm.Cond.fieldLink "NestedFociModel" (9 : Nat) "NestedFociModel" "kind" "[I") ∈ lw_tbl := ab_tb4 _ (List.mem_of_getElem? (i := 96) rfl)
set_option maxRecDepth 100000 in
theorem wd_492 : (Jvm.Cond.fieldLink "NestedFociModel" (13 : Nat) "NestedFociModel" "worth" "[I") ∈ lw_tbl := ab_tb4 _ (List.mem_of_getElem? (i := 97) rfl)
set_option maxRecDepth 100000 in
theorem wd_493 : (Jvm.Cond.fieldLink "NestedFociModel" (16 : Nat) "NestedFociModel" "size" "[I") ∈ lw_tbl := ab_tb4 _ (List.mem_of_getElem? (i := 98) rfl)
set_option maxRecDepth 100000 in
theorem wd_494 : (Jvm.Cond.fieldLink "NestedFociModel" (19 : Nat) "NestedFociModel" "nodes" "[I") ∈ lw_tbl := ab_tb4 _ (List.mem_of_getElem? (i := 99) rfl)
set_option maxRecDepth 100000 in
theorem wd_495 : (Jvm.Cond.fieldLink "NestedFociModel" (22 : Nat) "NestedFociModel" "height" "[I") ∈ lw_tbl := ab_tb4 _ (List.mem_of_getElem? (i := 100) rfl)
set_option maxRecDepth 100000 in
theorem wd_496 : (Jvm.Cond.constant "NestedFociModel" (25 : Nat) (37440 : Int32)) ∈ lw_tbl := ab_tb4 _ (List.mem_of_getElem? (i := 83) rfl)
set_option maxRecDepth 100000 in
theorem wd_497 : (Jvm.Cond.fieldLink "NestedFociModel" (26 : Nat) "NestedFociModel" "part" "[I") ∈ lw_tbl := ab_tb4 _ (List.mem_of_getElem? (i := 101) rfl)
set_option maxRecDepth 100000 in
theorem wd_498 : (Jvm.Cond.fieldLink "NestedFociModel" (29 : Nat) "NestedFociModel" "keyOf" "[I") ∈ lw_tbl := ab_tb4 _ (List.mem_of_getElem? (i := 102) rfl)
set_option maxRecDepth 100000 in
theorem wd_499 : (Jvm.Cond.fieldLink "NestedFociModel" (32 : Nat) "NestedFociModel" "shelf" "[I") ∈ lw_tbl := ab_tb4 _ (List.mem_of_getElem? (i := 105) rfl)
set_option maxRecDepth 100000 in
theorem wd_500 : (Jvm.Cond.fieldLink "NestedFociModel" (35 : Nat) "NestedFociModel" "past" "[I") ∈ lw_tbl := ab_tb4 _ (List.mem_of_getElem? (i := 106) rfl)
set_option maxRecDepth 100000 in
theorem wd_501 : (Jvm.Cond.fieldLink "NestedFociModel" (38 : Nat) "NestedFociModel" "pastMany" "[I") ∈ lw_tbl := ab_tb4 _ (List.mem_of_getElem? (i := 107) rfl)
set_option maxRecDepth 100000 in
theorem wd_502 : (Jvm.Cond.fieldLink "NestedFociModel" (41 : Nat) "NestedFociModel" "step" "[I") ∈ lw_tbl := ab_tb4 _ (List.mem_of_getElem? (i := 108) rfl)
set_option maxRecDepth 100000 in
theorem wd_503 : (Jvm.Cond.fieldLink "NestedFociModel" (44 : Nat) "NestedFociModel" "stepWorth" "[I") ∈ lw_tbl := ab_tb4 _ (List.mem_of_getElem? (i := 109) rfl)
set_option maxRecDepth 100000 in
theorem wd_504 : (Jvm.Cond.fieldLink "NestedFociModel" (47 : Nat) "NestedFociModel" "steps" "[I") ∈ lw_tbl := ab_tb4 _ (List.mem_of_getElem? (i := 110) rfl)
set_option maxRecDepth 100000 in
theorem wd_505 : (Jvm.Cond.fieldLink "NestedFociModel" (50 : Nat) "NestedFociModel" "imageShelf" "[I") ∈ lw_tbl := ab_tb4 _ (List.mem_of_getElem? (i := 111) rfl)
set_option maxRecDepth 100000 in
theorem wd_506 : (Jvm.Cond.fieldLink "NestedFociModel" (53 : Nat) "NestedFociModel" "imageStep" "[I") ∈ lw_tbl := ab_tb4 _ (List.mem_of_getElem? (i := 112) rfl)
set_option maxRecDepth 100000 in
theorem wd_507 : (Jvm.Cond.fieldLink "NestedFociModel" (56 : Nat) "NestedFociModel" "imageWorth" "[I") ∈ lw_tbl := ab_tb4 _ (List.mem_of_getElem? (i := 113) rfl)
set_option maxRecDepth 100000 in
theorem wd_508 : (Jvm.Cond.fieldLink "NestedFociModel" (59 : Nat) "NestedFociModel" "imageSteps" "[I") ∈ lw_tbl := ab_tb4 _ (List.mem_of_getElem? (i := 114) rfl)
set_option maxRecDepth 100000 in
theorem wd_509 : (Jvm.Cond.fieldLink "NestedFociModel" (62 : Nat) "NestedFociModel" "tape" "[I") ∈ lw_tbl := ab_tb4 _ (List.mem_of_getElem? (i := 116) rfl)
set_option maxRecDepth 100000 in
theorem wd_510 : (Jvm.Cond.fieldLink "NestedFociModel" (65 : Nat) "NestedFociModel" "newStep" "[I") ∈ lw_tbl := ab_tb4 _ (List.mem_of_getElem? (i := 123) rfl)
set_option maxRecDepth 100000 in
theorem wd_511 : (Jvm.Cond.fieldLink "NestedFociModel" (68 : Nat) "NestedFociModel" "newWorth" "[I") ∈ lw_tbl := ab_tb4 _ (List.mem_of_getElem? (i := 124) rfl)
set_option maxRecDepth 100000 in
theorem wd_512 : (Jvm.Cond.fieldLink "NestedFociModel" (71 : Nat) "NestedFociModel" "focus" "[I") ∈ lw_tbl := ab_tb4 _ (List.mem_of_getElem? (i := 125) rfl)
set_option maxRecDepth 100000 in
theorem wd_513 : (Jvm.Cond.arrayClass Jvm.ClassFile.FieldType.boolean) ∈ lw_tbl := ab_tb4 _ (List.mem_of_getElem? (i := 219) rfl)
set_option maxRecDepth 100000 in
theorem wd_514 : (Jvm.Cond.fieldLink "NestedFociModel" (74 : Nat) "NestedFociModel" "isThere" "[Z") ∈ lw_tbl := ab_tb4 _ (List.mem_of_getElem? (i := 132) rfl)
set_option maxRecDepth 100000 in
theorem wd_515 : (Jvm.Cond.methodLink "NestedFociModel" (78 : Nat) ({ cls := "NestedFociModel", name := "number", desc := "(I)I" } : Jvm.MethodName)) ∈ lw_tbl := ab_tb4 _ (List.mem_of_getElem? (i := 84) rfl)
set_option maxRecDepth 100000 in
theorem wd_516 : (Jvm.Cond.instanceMethod ({ cls := "NestedFociModel", name := "number", desc := "(I)I" } : Jvm.MethodName)) ∈ lw_tbl := ab_tb4 _ (List.mem_of_getElem? (i := 86) rfl)
set_option maxRecDepth 100000 in
theorem wd_517 : (Jvm.Cond.selects "NestedFociModel" ({ cls := "NestedFociModel", name := "number", desc := "(I)I" } : Jvm.MethodName) ({ cls := "NestedFociModel", name := "number", desc := "(I)I" } : Jvm.MethodName)) ∈ lw_tbl := ab_pv2 _ (List.mem_of_getElem? (i := 11) rfl)
set_option maxRecDepth 100000 in
theorem wd_518 : (Jvm.Cond.methodLink "NestedFociModel" (86 : Nat) ({ cls := "NestedFociModel", name := "in", desc := "(III)Z" } : Jvm.MethodName)) ∈ lw_tbl := ab_tb4 _ (List.mem_of_getElem? (i := 224) rfl)
set_option maxRecDepth 100000 in
theorem wd_519 : (Jvm.Cond.static ({ cls := "NestedFociModel", name := "in", desc := "(III)Z" } : Jvm.MethodName)) ∈ lw_tbl := ab_tb4 _ (List.mem_of_getElem? (i := 225) rfl)
set_option maxRecDepth 100000 in
theorem wd_520 : (Jvm.Cond.fieldLink "NestedFociModel" (90 : Nat) "NestedFociModel" "things" "I") ∈ lw_tbl := ab_tb4 _ (List.mem_of_getElem? (i := 103) rfl)
set_option maxRecDepth 100000 in
theorem wd_521 : (Jvm.Cond.methodLink "NestedFociModel" (93 : Nat) ({ cls := "NestedFociModel", name := "begins", desc := "(III)I" } : Jvm.MethodName)) ∈ lw_tbl := ab_tb4 _ (List.mem_of_getElem? (i := 88) rfl)
set_option maxRecDepth 100000 in
theorem wd_522 : (Jvm.Cond.instanceMethod ({ cls := "NestedFociModel", name := "begins", desc := "(III)I" } : Jvm.MethodName)) ∈ lw_tbl := ab_tb4 _ (List.mem_of_getElem? (i := 90) rfl)
set_option maxRecDepth 100000 in
theorem wd_523 : (Jvm.Cond.selects "NestedFociModel" ({ cls := "NestedFociModel", name := "begins", desc := "(III)I" } : Jvm.MethodName) ({ cls := "NestedFociModel", name := "begins", desc := "(III)I" } : Jvm.MethodName)) ∈ lw_tbl := ab_pv2 _ (List.mem_of_getElem? (i := 12) rfl)
set_option maxRecDepth 100000 in
theorem wd_524 : (Jvm.Cond.methodLink "NestedFociModel" (97 : Nat) ({ cls := "NestedFociModel", name := "ends", desc := "(I)I" } : Jvm.MethodName)) ∈ lw_tbl := ab_tb4 _ (List.mem_of_getElem? (i := 92) rfl)
set_option maxRecDepth 100000 in
theorem wd_525 : (Jvm.Cond.instanceMethod ({ cls := "NestedFociModel", name := "ends", desc := "(I)I" } : Jvm.MethodName)) ∈ lw_tbl := ab_tb4 _ (List.mem_of_getElem? (i := 94) rfl)
set_option maxRecDepth 100000 in
theorem wd_526 : (Jvm.Cond.selects "NestedFociModel" ({ cls := "NestedFociModel", name := "ends", desc := "(I)I" } : Jvm.MethodName) ({ cls := "NestedFociModel", name := "ends", desc := "(I)I" } : Jvm.MethodName)) ∈ lw_tbl := ab_pv2 _ (List.mem_of_getElem? (i := 13) rfl)
set_option maxRecDepth 100000 in
theorem wd_527 : (Jvm.Cond.methodLink "NestedFociModel" (100 : Nat) ({ cls := "NestedFociModel", name := "compared", desc := "(II)I" } : Jvm.MethodName)) ∈ lw_tbl := ab_tb5 _ (List.mem_of_getElem? (i := 105) rfl)
set_option maxRecDepth 100000 in
theorem wd_528 : (Jvm.Cond.instanceMethod ({ cls := "NestedFociModel", name := "compared", desc := "(II)I" } : Jvm.MethodName)) ∈ lw_tbl := ab_tb5 _ (List.mem_of_getElem? (i := 107) rfl)
set_option maxRecDepth 100000 in
theorem wd_529 : (Jvm.Cond.selects "NestedFociModel" ({ cls := "NestedFociModel", name := "compared", desc := "(II)I" } : Jvm.MethodName) ({ cls := "NestedFociModel", name := "compared", desc := "(II)I" } : Jvm.MethodName)) ∈ lw_tbl := ab_pv4 _ (List.mem_of_getElem? (i := 6) rfl)
set_option maxRecDepth 100000 in
theorem wd_530 : (Jvm.Cond.fieldLink "NestedFociModel" (104 : Nat) "NestedFociModel" "taped" "I") ∈ lw_tbl := ab_tb4 _ (List.mem_of_getElem? (i := 117) rfl)
set_option maxRecDepth 100000 in
theorem wd_531 : (Jvm.Cond.fieldLink "NestedFociModel" (107 : Nat) "NestedFociModel" "spot" "I") ∈ lw_tbl := ab_tb4 _ (List.mem_of_getElem? (i := 118) rfl)
set_option maxRecDepth 100000 in
theorem wd_532 : (Jvm.Cond.fieldLink "NestedFociModel" (110 : Nat) "NestedFociModel" "fault" "I") ∈ lw_tbl := ab_tb4 _ (List.mem_of_getElem? (i := 119) rfl)
set_option maxRecDepth 100000 in
theorem wd_533 : (Jvm.Cond.methodLink "NestedFociModel" (113 : Nat) ({ cls := "NestedFociModel", name := "here", desc := "()I" } : Jvm.MethodName)) ∈ lw_tbl := ab_tb4 _ (List.mem_of_getElem? (i := 238) rfl)
set_option maxRecDepth 100000 in
theorem wd_534 : (Jvm.Cond.instanceMethod ({ cls := "NestedFociModel", name := "here", desc := "()I" } : Jvm.MethodName)) ∈ lw_tbl := ab_tb5 _ (List.mem_of_getElem? (i := 0) rfl)
set_option maxRecDepth 100000 in
theorem wd_535 : (Jvm.Cond.selects "NestedFociModel" ({ cls := "NestedFociModel", name := "here", desc := "()I" } : Jvm.MethodName) ({ cls := "NestedFociModel", name := "here", desc := "()I" } : Jvm.MethodName)) ∈ lw_tbl := ab_pv2 _ (List.mem_of_getElem? (i := 15) rfl)
set_option maxRecDepth 100000 in
theorem wd_536 : (Jvm.Cond.methodLink "NestedFociModel" (117 : Nat) ({ cls := "NestedFociModel", name := "isFault", desc := "()Z" } : Jvm.MethodName)) ∈ lw_tbl := ab_tb5 _ (List.mem_of_getElem? (i := 2) rfl)
set_option maxRecDepth 100000 in
theorem wd_537 : (Jvm.Cond.instanceMethod ({ cls := "NestedFociModel", name := "isFault", desc := "()Z" } : Jvm.MethodName)) ∈ lw_tbl := ab_tb5 _ (List.mem_of_getElem? (i := 4) rfl)
set_option maxRecDepth 100000 in
theorem wd_538 : (Jvm.Cond.selects "NestedFociModel" ({ cls := "NestedFociModel", name := "isFault", desc := "()Z" } : Jvm.MethodName) ({ cls := "NestedFociModel", name := "isFault", desc := "()Z" } : Jvm.MethodName)) ∈ lw_tbl := ab_pv3 _ (List.mem_of_getElem? (i := 0) rfl)
set_option maxRecDepth 100000 in
theorem wd_539 : (Jvm.Cond.methodLink "NestedFociModel" (121 : Nat) ({ cls := "NestedFociModel", name := "fails", desc := "(I)V" } : Jvm.MethodName)) ∈ lw_tbl := ab_tb5 _ (List.mem_of_getElem? (i := 6) rfl)
set_option maxRecDepth 100000 in
theorem wd_540 : (Jvm.Cond.instanceMethod ({ cls := "NestedFociModel", name := "fails", desc := "(I)V" } : Jvm.MethodName)) ∈ lw_tbl := ab_tb5 _ (List.mem_of_getElem? (i := 8) rfl)
set_option maxRecDepth 100000 in
theorem wd_541 : (Jvm.Cond.selects "NestedFociModel" ({ cls := "NestedFociModel", name := "fails", desc := "(I)V" } : Jvm.MethodName) ({ cls := "NestedFociModel", name := "fails", desc := "(I)V" } : Jvm.MethodName)) ∈ lw_tbl := ab_pv3 _ (List.mem_of_getElem? (i := 1) rfl)
set_option maxRecDepth 100000 in
theorem wd_542 : (Jvm.Cond.methodLink "NestedFociModel" (125 : Nat) ({ cls := "NestedFociModel", name := "one", desc := "(II)I" } : Jvm.MethodName)) ∈ lw_tbl := ab_tb5 _ (List.mem_of_getElem? (i := 14) rfl)
set_option maxRecDepth 100000 in
theorem wd_543 : (Jvm.Cond.instanceMethod ({ cls := "NestedFociModel", name := "one", desc := "(II)I" } : Jvm.MethodName)) ∈ lw_tbl := ab_tb5 _ (List.mem_of_getElem? (i := 16) rfl)
set_option maxRecDepth 100000 in
theorem wd_544 : (Jvm.Cond.selects "NestedFociModel" ({ cls := "NestedFociModel", name := "one", desc := "(II)I" } : Jvm.MethodName) ({ cls := "NestedFociModel", name := "one", desc := "(II)I" } : Jvm.MethodName)) ∈ lw_tbl := ab_pv3 _ (List.mem_of_getElem? (i := 3) rfl)
set_option maxRecDepth 100000 in
theorem wd_545 : (Jvm.Cond.methodLink "NestedFociModel" (128 : Nat) ({ cls := "NestedFociModel", name := "isHere", desc := "(I)Z" } : Jvm.MethodName)) ∈ lw_tbl := ab_tb5 _ (List.mem_of_getElem? (i := 22) rfl)
set_option maxRecDepth 100000 in
theorem wd_546 : (Jvm.Cond.instanceMethod ({ cls := "NestedFociModel", name := "isHere", desc := "(I)Z" } : Jvm.MethodName)) ∈ lw_tbl := ab_tb5 _ (List.mem_of_getElem? (i := 24) rfl)
set_option maxRecDepth 100000 in
theorem wd_547 : (Jvm.Cond.selects "NestedFociModel" ({ cls := "NestedFociModel", name := "isHere", desc := "(I)Z" } : Jvm.MethodName) ({ cls := "NestedFociModel", name := "isHere", desc := "(I)Z" } : Jvm.MethodName)) ∈ lw_tbl := ab_pv3 _ (List.mem_of_getElem? (i := 5) rfl)
set_option maxRecDepth 100000 in
theorem wd_548 : (Jvm.Cond.methodLink "NestedFociModel" (132 : Nat) ({ cls := "NestedFociModel", name := "digits", desc := "(I)I" } : Jvm.MethodName)) ∈ lw_tbl := ab_tb5 _ (List.mem_of_getElem? (i := 46) rfl)
set_option maxRecDepth 100000 in
theorem wd_549 : (Jvm.Cond.instanceMethod ({ cls := "NestedFociModel", name := "digits", desc := "(I)I" } : Jvm.MethodName)) ∈ lw_tbl := ab_tb5 _ (List.mem_of_getElem? (i := 48) rfl)
set_option maxRecDepth 100000 in
theorem wd_550 : (Jvm.Cond.selects "NestedFociModel" ({ cls := "NestedFociModel", name := "digits", desc := "(I)I" } : Jvm.MethodName) ({ cls := "NestedFociModel", name := "digits", desc := "(I)I" } : Jvm.MethodName)) ∈ lw_tbl := ab_pv3 _ (List.mem_of_getElem? (i := 11) rfl)
set_option maxRecDepth 100000 in
theorem wd_551 : (Jvm.Cond.methodLink "NestedFociModel" (135 : Nat) ({ cls := "NestedFociModel", name := "letters", desc := "()I" } : Jvm.MethodName)) ∈ lw_tbl := ab_tb5 _ (List.mem_of_getElem? (i := 30) rfl)
set_option maxRecDepth 100000 in
theorem wd_552 : (Jvm.Cond.instanceMethod ({ cls := "NestedFociModel", name := "letters", desc := "()I" } : Jvm.MethodName)) ∈ lw_tbl := ab_tb5 _ (List.mem_of_getElem? (i := 32) rfl)
set_option maxRecDepth 100000 in
theorem wd_553 : (Jvm.Cond.selects "NestedFociModel" ({ cls := "NestedFociModel", name := "letters", desc := "()I" } : Jvm.MethodName) ({ cls := "NestedFociModel", name := "letters", desc := "()I" } : Jvm.MethodName)) ∈ lw_tbl := ab_pv3 _ (List.mem_of_getElem? (i := 7) rfl)
set_option maxRecDepth 100000 in
theorem wd_554 : (Jvm.Cond.methodLink "NestedFociModel" (138 : Nat) ({ cls := "NestedFociModel", name := "hasKey", desc := "(II)Z" } : Jvm.MethodName)) ∈ lw_tbl := ab_tb5 _ (List.mem_of_getElem? (i := 34) rfl)
set_option maxRecDepth 100000 in
theorem wd_555 : (Jvm.Cond.instanceMethod ({ cls := "NestedFociModel", name := "hasKey", desc := "(II)Z" } : Jvm.MethodName)) ∈ lw_tbl := ab_tb5 _ (List.mem_of_getElem? (i := 36) rfl)
set_option maxRecDepth 100000 in
theorem wd_556 : (Jvm.Cond.selects "NestedFociModel" ({ cls := "NestedFociModel", name := "hasKey", desc := "(II)Z" } : Jvm.MethodName) ({ cls := "NestedFociModel", name := "hasKey", desc := "(II)Z" } : Jvm.MethodName)) ∈ lw_tbl := ab_pv3 _ (List.mem_of_getElem? (i := 8) rfl)
set_option maxRecDepth 100000 in
theorem wd_557 : (Jvm.Cond.methodLink "NestedFociModel" (142 : Nat) ({ cls := "NestedFociModel", name := "reads", desc := "(I)I" } : Jvm.MethodName)) ∈ lw_tbl := ab_tb4 _ (List.mem_of_getElem? (i := 234) rfl)
set_option maxRecDepth 100000 in
theorem wd_558 : (Jvm.Cond.instanceMethod ({ cls := "NestedFociModel", name := "reads", desc := "(I)I" } : Jvm.MethodName)) ∈ lw_tbl := ab_tb4 _ (List.mem_of_getElem? (i := 236) rfl)
set_option maxRecDepth 100000 in
theorem wd_559 : (Jvm.Cond.selects "NestedFociModel" ({ cls := "NestedFociModel", name := "reads", desc := "(I)I" } : Jvm.MethodName) ({ cls := "NestedFociModel", name := "reads", desc := "(I)I" } : Jvm.MethodName)) ∈ lw_tbl := ab_pv2 _ (List.mem_of_getElem? (i := 14) rfl)
set_option maxRecDepth 100000 in
theorem wd_560 : (Jvm.Cond.methodLink "NestedFociModel" (145 : Nat) ({ cls := "NestedFociModel", name := "puts", desc := "(III)V" } : Jvm.MethodName)) ∈ lw_tbl := ab_tb5 _ (List.mem_of_getElem? (i := 38) rfl)
set_option maxRecDepth 100000 in
theorem wd_561 : (Jvm.Cond.instanceMethod ({ cls := "NestedFociModel", name := "puts", desc := "(III)V" } : Jvm.MethodName)) ∈ lw_tbl := ab_tb5 _ (List.mem_of_getElem? (i := 40) rfl)
set_option maxRecDepth 100000 in
theorem wd_562 : (Jvm.Cond.selects "NestedFociModel" ({ cls := "NestedFociModel", name := "puts", desc := "(III)V" } : Jvm.MethodName) ({ cls := "NestedFociModel", name := "puts", desc := "(III)V" } : Jvm.MethodName)) ∈ lw_tbl := ab_pv3 _ (List.mem_of_getElem? (i := 9) rfl)
set_option maxRecDepth 100000 in
theorem wd_563 : (Jvm.Cond.methodLink "NestedFociModel" (149 : Nat) ({ cls := "NestedFociModel", name := "readsEntry", desc := "(II)I" } : Jvm.MethodName)) ∈ lw_tbl := ab_tb5 _ (List.mem_of_getElem? (i := 26) rfl)
set_option maxRecDepth 100000 in
theorem wd_564 : (Jvm.Cond.instanceMethod ({ cls := "NestedFociModel", name := "readsEntry", desc := "(II)I" } : Jvm.MethodName)) ∈ lw_tbl := ab_tb5 _ (List.mem_of_getElem? (i := 28) rfl)
set_option maxRecDepth 100000 in
theorem wd_565 : (Jvm.Cond.selects "NestedFociModel" ({ cls := "NestedFociModel", name := "readsEntry", desc := "(II)I" } : Jvm.MethodName) ({ cls := "NestedFociModel", name := "readsEntry", desc := "(II)I" } : Jvm.MethodName)) ∈ lw_tbl := ab_pv3 _ (List.mem_of_getElem? (i := 6) rfl)
set_option maxRecDepth 100000 in
theorem wd_566 : (Jvm.Cond.methodLink "NestedFociModel" (152 : Nat) ({ cls := "NestedFociModel", name := "adds", desc := "(III)V" } : Jvm.MethodName)) ∈ lw_tbl := ab_tb5 _ (List.mem_of_getElem? (i := 10) rfl)
set_option maxRecDepth 100000 in
theorem wd_567 : (Jvm.Cond.instanceMethod ({ cls := "NestedFociModel", name := "adds", desc := "(III)V" } : Jvm.MethodName)) ∈ lw_tbl := ab_tb5 _ (List.mem_of_getElem? (i := 12) rfl)
set_option maxRecDepth 100000 in
theorem wd_568 : (Jvm.Cond.selects "NestedFociModel" ({ cls := "NestedFociModel", name := "adds", desc := "(III)V" } : Jvm.MethodName) ({ cls := "NestedFociModel", name := "adds", desc := "(III)V" } : Jvm.MethodName)) ∈ lw_tbl := ab_pv3 _ (List.mem_of_getElem? (i := 2) rfl)
set_option maxRecDepth 100000 in
theorem wd_569 : (Jvm.Cond.fieldLink "NestedFociModel" (155 : Nat) "NestedFociModel" "readMany" "I") ∈ lw_tbl := ab_tb4 _ (List.mem_of_getElem? (i := 120) rfl)
set_option maxRecDepth 100000 in
theorem wd_570 : (Jvm.Cond.methodLink "NestedFociModel" (158 : Nat) ({ cls := "NestedFociModel", name := "readsAll", desc := "(III)V" } : Jvm.MethodName)) ∈ lw_tbl := ab_tb5 _ (List.mem_of_getElem? (i := 18) rfl)
set_option maxRecDepth 100000 in
theorem wd_571 : (Jvm.Cond.instanceMethod ({ cls := "NestedFociModel", name := "readsAll", desc := "(III)V" } : Jvm.MethodName)) ∈ lw_tbl := ab_tb5 _ (List.mem_of_getElem? (i := 20) rfl)
set_option maxRecDepth 100000 in
theorem wd_572 : (Jvm.Cond.selects "NestedFociModel" ({ cls := "NestedFociModel", name := "readsAll", desc := "(III)V" } : Jvm.MethodName) ({ cls := "NestedFociModel", name := "readsAll", desc := "(III)V" } : Jvm.MethodName)) ∈ lw_tbl := ab_pv3 _ (List.mem_of_getElem? (i := 4) rfl)
set_option maxRecDepth 100000 in
theorem wd_573 : (Jvm.Cond.methodLink "NestedFociModel" (161 : Nat) ({ cls := "NestedFociModel", name := "signed", desc := "()I" } : Jvm.MethodName)) ∈ lw_tbl := ab_tb5 _ (List.mem_of_getElem? (i := 42) rfl)
set_option maxRecDepth 100000 in
theorem wd_574 : (Jvm.Cond.instanceMethod ({ cls := "NestedFociModel", name := "signed", desc := "()I" } : Jvm.MethodName)) ∈ lw_tbl := ab_tb5 _ (List.mem_of_getElem? (i := 44) rfl)
set_option maxRecDepth 100000 in
theorem wd_575 : (Jvm.Cond.selects "NestedFociModel" ({ cls := "NestedFociModel", name := "signed", desc := "()I" } : Jvm.MethodName) ({ cls := "NestedFociModel", name := "signed", desc := "()I" } : Jvm.MethodName)) ∈ lw_tbl := ab_pv3 _ (List.mem_of_getElem? (i := 10) rfl)
set_option maxRecDepth 100000 in
theorem wd_576 : (Jvm.Cond.methodLink "NestedFociModel" (164 : Nat) ({ cls := "NestedFociModel", name := "isShelf", desc := "(I)Z" } : Jvm.MethodName)) ∈ lw_tbl := ab_tb4 _ (List.mem_of_getElem? (i := 231) rfl)
set_option maxRecDepth 100000 in
theorem wd_577 : (Jvm.Cond.static ({ cls := "NestedFociModel", name := "isShelf", desc := "(I)Z" } : Jvm.MethodName)) ∈ lw_tbl := ab_tb4 _ (List.mem_of_getElem? (i := 232) rfl)
set_option maxRecDepth 100000 in
theorem wd_578 : (Jvm.Cond.fieldLink "NestedFociModel" (167 : Nat) "NestedFociModel" "made" "I") ∈ lw_tbl := ab_tb4 _ (List.mem_of_getElem? (i := 104) rfl)
set_option maxRecDepth 100000 in
theorem wd_579 : (Jvm.Cond.methodLink "NestedFociModel" (170 : Nat) ({ cls := "NestedFociModel", name := "becomes", desc := "(II)V" } : Jvm.MethodName)) ∈ lw_tbl := ab_tb5 _ (List.mem_of_getElem? (i := 50) rfl)
set_option maxRecDepth 100000 in
theorem wd_580 : (Jvm.Cond.instanceMethod ({ cls := "NestedFociModel", name := "becomes", desc := "(II)V" } : Jvm.MethodName)) ∈ lw_tbl := ab_tb5 _ (List.mem_of_getElem? (i := 52) rfl)
set_option maxRecDepth 100000 in
theorem wd_581 : (Jvm.Cond.selects "NestedFociModel" ({ cls := "NestedFociModel", name := "becomes", desc := "(II)V" } : Jvm.MethodName) ({ cls := "NestedFociModel", name := "becomes", desc := "(II)V" } : Jvm.MethodName)) ∈ lw_tbl := ab_pv3 _ (List.mem_of_getElem? (i := 12) rfl)
set_option maxRecDepth 100000 in
theorem wd_582 : (Jvm.Cond.fieldLink "NestedFociModel" (174 : Nat) "NestedFociModel" "readStep" "I") ∈ lw_tbl := ab_tb4 _ (List.mem_of_getElem? (i := 121) rfl)
set_option maxRecDepth 100000 in
theorem wd_583 : (Jvm.Cond.fieldLink "NestedFociModel" (177 : Nat) "NestedFociModel" "readWorth" "I") ∈ lw_tbl := ab_tb4 _ (List.mem_of_getElem? (i := 122) rfl)
set_option maxRecDepth 100000 in
theorem wd_584 : (Jvm.Cond.methodLink "NestedFociModel" (180 : Nat) ({ cls := "NestedFociModel", name := "isPath", desc := "(I)Z" } : Jvm.MethodName)) ∈ lw_tbl := ab_tb5 _ (List.mem_of_getElem? (i := 58) rfl)
set_option maxRecDepth 100000 in
theorem wd_585 : (Jvm.Cond.static ({ cls := "NestedFociModel", name := "isPath", desc := "(I)Z" } : Jvm.MethodName)) ∈ lw_tbl := ab_tb5 _ (List.mem_of_getElem? (i := 59) rfl)
set_option maxRecDepth 100000 in
theorem wd_586 : (Jvm.Cond.methodLink "NestedFociModel" (183 : Nat) ({ cls := "NestedFociModel", name := "readsStep", desc := "()V" } : Jvm.MethodName)) ∈ lw_tbl := ab_tb5 _ (List.mem_of_getElem? (i := 61) rfl)
set_option maxRecDepth 100000 in
theorem wd_587 : (Jvm.Cond.instanceMethod ({ cls := "NestedFociModel", name := "readsStep", desc := "()V" } : Jvm.MethodName)) ∈ lw_tbl := ab_tb5 _ (List.mem_of_getElem? (i := 63) rfl)
set_option maxRecDepth 100000 in
theorem wd_588 : (Jvm.Cond.selects "NestedFociModel" ({ cls := "NestedFociModel", name := "readsStep", desc := "()V" } : Jvm.MethodName) ({ cls := "NestedFociModel", name := "readsStep", desc := "()V" } : Jvm.MethodName)) ∈ lw_tbl := ab_pv3 _ (List.mem_of_getElem? (i := 13) rfl)
set_option maxRecDepth 100000 in
theorem wd_589 : (Jvm.Cond.fieldLink "NestedFociModel" (186 : Nat) "NestedFociModel" "going" "I") ∈ lw_tbl := ab_tb4 _ (List.mem_of_getElem? (i := 127) rfl)
set_option maxRecDepth 100000 in
theorem wd_590 : (Jvm.Cond.fieldLink "NestedFociModel" (189 : Nat) "NestedFociModel" "foci" "I") ∈ lw_tbl := ab_tb4 _ (List.mem_of_getElem? (i := 126) rfl)
set_option maxRecDepth 100000 in
theorem wd_591 : (Jvm.Cond.methodLink "NestedFociModel" (192 : Nat) ({ cls := "NestedFociModel", name := "isItself", desc := "(II)Z" } : Jvm.MethodName)) ∈ lw_tbl := ab_tb5 _ (List.mem_of_getElem? (i := 109) rfl)
set_option maxRecDepth 100000 in
theorem wd_592 : (Jvm.Cond.instanceMethod ({ cls := "NestedFociModel", name := "isItself", desc := "(II)Z" } : Jvm.MethodName)) ∈ lw_tbl := ab_tb5 _ (List.mem_of_getElem? (i := 111) rfl)
set_option maxRecDepth 100000 in
theorem wd_593 : (Jvm.Cond.selects "NestedFociModel" ({ cls := "NestedFociModel", name := "isItself", desc := "(II)Z" } : Jvm.MethodName) ({ cls := "NestedFociModel", name := "isItself", desc := "(II)Z" } : Jvm.MethodName)) ∈ lw_tbl := ab_pv4 _ (List.mem_of_getElem? (i := 7) rfl)
set_option maxRecDepth 100000 in
theorem wd_594 : (Jvm.Cond.methodLink "NestedFociModel" (195 : Nat) ({ cls := "NestedFociModel", name := "goes", desc := "(II)V" } : Jvm.MethodName)) ∈ lw_tbl := ab_tb5 _ (List.mem_of_getElem? (i := 137) rfl)
set_option maxRecDepth 100000 in
theorem wd_595 : (Jvm.Cond.instanceMethod ({ cls := "NestedFociModel", name := "goes", desc := "(II)V" } : Jvm.MethodName)) ∈ lw_tbl := ab_tb5 _ (List.mem_of_getElem? (i := 139) rfl)
set_option maxRecDepth 100000 in
theorem wd_596 : (Jvm.Cond.selects "NestedFociModel" ({ cls := "NestedFociModel", name := "goes", desc := "(II)V" } : Jvm.MethodName) ({ cls := "NestedFociModel", name := "goes", desc := "(II)V" } : Jvm.MethodName)) ∈ lw_tbl := ab_pv4 _ (List.mem_of_getElem? (i := 12) rfl)
set_option maxRecDepth 100000 in
theorem wd_597 : (Jvm.Cond.methodLink "NestedFociModel" (198 : Nat) ({ cls := "NestedFociModel", name := "isPart", desc := "(III)Z" } : Jvm.MethodName)) ∈ lw_tbl := ab_tb5 _ (List.mem_of_getElem? (i := 113) rfl)
set_option maxRecDepth 100000 in
theorem wd_598 : (Jvm.Cond.instanceMethod ({ cls := "NestedFociModel", name := "isPart", desc := "(III)Z" } : Jvm.MethodName)) ∈ lw_tbl := ab_tb5 _ (List.mem_of_getElem? (i := 115) rfl)
set_option maxRecDepth 100000 in
theorem wd_599 : (Jvm.Cond.selects "NestedFociModel" ({ cls := "NestedFociModel", name := "isPart", desc := "(III)Z" } : Jvm.MethodName) ({ cls := "NestedFociModel", name := "isPart", desc := "(III)Z" } : Jvm.MethodName)) ∈ lw_tbl := ab_pv4 _ (List.mem_of_getElem? (i := 8) rfl)
set_option maxRecDepth 100000 in
theorem wd_600 : (Jvm.Cond.methodLink "NestedFociModel" (201 : Nat) ({ cls := "NestedFociModel", name := "nextStep", desc := "(I)I" } : Jvm.MethodName)) ∈ lw_tbl := ab_tb5 _ (List.mem_of_getElem? (i := 117) rfl)
set_option maxRecDepth 100000 in
theorem wd_601 : (Jvm.Cond.instanceMethod ({ cls := "NestedFociModel", name := "nextStep", desc := "(I)I" } : Jvm.MethodName)) ∈ lw_tbl := ab_tb5 _ (List.mem_of_getElem? (i := 119) rfl)
set_option maxRecDepth 100000 in
theorem wd_602 : (Jvm.Cond.selects "NestedFociModel" ({ cls := "NestedFociModel", name := "nextStep", desc := "(I)I" } : Jvm.MethodName) ({ cls := "NestedFociModel", name := "nextStep", desc := "(I)I" } : Jvm.MethodName)) ∈ lw_tbl := ab_pv4 _ (List.mem_of_getElem? (i := 9) rfl)
set_option maxRecDepth 100000 in
theorem wd_603 : (Jvm.Cond.fieldLink "NestedFociModel" (204 : Nat) "NestedFociModel" "isMade" "Z") ∈ lw_tbl := ab_tb4 _ (List.mem_of_getElem? (i := 131) rfl)
set_option maxRecDepth 100000 in
theorem wd_604 : (Jvm.Cond.methodLink "NestedFociModel" (208 : Nat) ({ cls := "NestedFociModel", name := "makes", desc := "()Z" } : Jvm.MethodName)) ∈ lw_tbl := ab_tb5 _ (List.mem_of_getElem? (i := 89) rfl)
set_option maxRecDepth 100000 in
theorem wd_605 : (Jvm.Cond.instanceMethod ({ cls := "NestedFociModel", name := "makes", desc := "()Z" } : Jvm.MethodName)) ∈ lw_tbl := ab_tb5 _ (List.mem_of_getElem? (i := 91) rfl)
set_option maxRecDepth 100000 in
theorem wd_606 : (Jvm.Cond.selects "NestedFociModel" ({ cls := "NestedFociModel", name := "makes", desc := "()Z" } : Jvm.MethodName) ({ cls := "NestedFociModel", name := "makes", desc := "()Z" } : Jvm.MethodName)) ∈ lw_tbl := ab_pv4 _ (List.mem_of_getElem? (i := 2) rfl)
set_option maxRecDepth 100000 in
theorem wd_607 : (Jvm.Cond.methodLink "NestedFociModel" (211 : Nat) ({ cls := "NestedFociModel", name := "copyOf", desc := "(I)I" } : Jvm.MethodName)) ∈ lw_tbl := ab_tb5 _ (List.mem_of_getElem? (i := 101) rfl)
set_option maxRecDepth 100000 in
theorem wd_608 : (Jvm.Cond.instanceMethod ({ cls := "NestedFociModel", name := "copyOf", desc := "(I)I" } : Jvm.MethodName)) ∈ lw_tbl := ab_tb5 _ (List.mem_of_getElem? (i := 103) rfl)
set_option maxRecDepth 100000 in
theorem wd_609 : (Jvm.Cond.selects "NestedFociModel" ({ cls := "NestedFociModel", name := "copyOf", desc := "(I)I" } : Jvm.MethodName) ({ cls := "NestedFociModel", name := "copyOf", desc := "(I)I" } : Jvm.MethodName)) ∈ lw_tbl := ab_pv4 _ (List.mem_of_getElem? (i := 5) rfl)
set_option maxRecDepth 100000 in
theorem wd_610 : (Jvm.Cond.fieldLink "NestedFociModel" (214 : Nat) "NestedFociModel" "how" "I") ∈ lw_tbl := ab_tb4 _ (List.mem_of_getElem? (i := 128) rfl)
set_option maxRecDepth 100000 in
theorem wd_611 : (Jvm.Cond.fieldLink "NestedFociModel" (217 : Nat) "NestedFociModel" "overs" "I") ∈ lw_tbl := ab_tb4 _ (List.mem_of_getElem? (i := 130) rfl)
set_option maxRecDepth 100000 in
theorem wd_612 : (Jvm.Cond.fieldLink "NestedFociModel" (220 : Nat) "NestedFociModel" "howWorth" "I") ∈ lw_tbl := ab_tb4 _ (List.mem_of_getElem? (i := 129) rfl)
set_option maxRecDepth 100000 in
theorem wd_613 : (Jvm.Cond.methodLink "NestedFociModel" (223 : Nat) ({ cls := "NestedFociModel", name := "numbered", desc := "(I)I" } : Jvm.MethodName)) ∈ lw_tbl := ab_tb5 _ (List.mem_of_getElem? (i := 85) rfl)
set_option maxRecDepth 100000 in
theorem wd_614 : (Jvm.Cond.instanceMethod ({ cls := "NestedFociModel", name := "numbered", desc := "(I)I" } : Jvm.MethodName)) ∈ lw_tbl := ab_tb5 _ (List.mem_of_getElem? (i := 87) rfl)
set_option maxRecDepth 100000 in
theorem wd_615 : (Jvm.Cond.selects "NestedFociModel" ({ cls := "NestedFociModel", name := "numbered", desc := "(I)I" } : Jvm.MethodName) ({ cls := "NestedFociModel", name := "numbered", desc := "(I)I" } : Jvm.MethodName)) ∈ lw_tbl := ab_pv4 _ (List.mem_of_getElem? (i := 1) rfl)
set_option maxRecDepth 100000 in
theorem wd_616 : (Jvm.Cond.methodLink "NestedFociModel" (226 : Nat) ({ cls := "NestedFociModel", name := "around", desc := "(III)I" } : Jvm.MethodName)) ∈ lw_tbl := ab_tb5 _ (List.mem_of_getElem? (i := 93) rfl)
set_option maxRecDepth 100000 in
theorem wd_617 : (Jvm.Cond.instanceMethod ({ cls := "NestedFociModel", name := "around", desc := "(III)I" } : Jvm.MethodName)) ∈ lw_tbl := ab_tb5 _ (List.mem_of_getElem? (i := 95) rfl)
set_option maxRecDepth 100000 in
theorem wd_618 : (Jvm.Cond.selects "NestedFociModel" ({ cls := "NestedFociModel", name := "around", desc := "(III)I" } : Jvm.MethodName) ({ cls := "NestedFociModel", name := "around", desc := "(III)I" } : Jvm.MethodName)) ∈ lw_tbl := ab_pv4 _ (List.mem_of_getElem? (i := 3) rfl)
set_option maxRecDepth 100000 in
theorem wd_619 : (Jvm.Cond.methodLink "NestedFociModel" (229 : Nat) ({ cls := "NestedFociModel", name := "changed", desc := "(I)I" } : Jvm.MethodName)) ∈ lw_tbl := ab_tb5 _ (List.mem_of_getElem? (i := 97) rfl)
set_option maxRecDepth 100000 in
theorem wd_620 : (Jvm.Cond.instanceMethod ({ cls := "NestedFociModel", name := "changed", desc := "(I)I" } : Jvm.MethodName)) ∈ lw_tbl := ab_tb5 _ (List.mem_of_getElem? (i := 99) rfl)
set_option maxRecDepth 100000 in
theorem wd_621 : (Jvm.Cond.selects "NestedFociModel" ({ cls := "NestedFociModel", name := "changed", desc := "(I)I" } : Jvm.MethodName) ({ cls := "NestedFociModel", name := "changed", desc := "(I)I" } : Jvm.MethodName)) ∈ lw_tbl := ab_pv4 _ (List.mem_of_getElem? (i := 4) rfl)
set_option maxRecDepth 100000 in
theorem wd_622 : (Jvm.Cond.methodLink "NestedFociModel" (232 : Nat) ({ cls := "NestedFociModel", name := "became", desc := "(I)I" } : Jvm.MethodName)) ∈ lw_tbl := ab_tb5 _ (List.mem_of_getElem? (i := 81) rfl)
set_option maxRecDepth 100000 in
theorem wd_623 : (Jvm.Cond.instanceMethod ({ cls := "NestedFociModel", name := "became", desc := "(I)I" } : Jvm.MethodName)) ∈ lw_tbl := ab_tb5 _ (List.mem_of_getElem? (i := 83) rfl)
set_option maxRecDepth 100000 in
theorem wd_624 : (Jvm.Cond.selects "NestedFociModel" ({ cls := "NestedFociModel", name := "became", desc := "(I)I" } : Jvm.MethodName) ({ cls := "NestedFociModel", name := "became", desc := "(I)I" } : Jvm.MethodName)) ∈ lw_tbl := ab_pv4 _ (List.mem_of_getElem? (i := 0) rfl)
set_option maxRecDepth 100000 in
theorem wd_625 : (Jvm.Cond.methodLink "NestedFociModel" (235 : Nat) ({ cls := "NestedFociModel", name := "goesOver", desc := "(II)I" } : Jvm.MethodName)) ∈ lw_tbl := ab_tb5 _ (List.mem_of_getElem? (i := 77) rfl)
set_option maxRecDepth 100000 in
theorem wd_626 : (Jvm.Cond.instanceMethod ({ cls := "NestedFociModel", name := "goesOver", desc := "(II)I" } : Jvm.MethodName)) ∈ lw_tbl := ab_tb5 _ (List.mem_of_getElem? (i := 79) rfl)
set_option maxRecDepth 100000 in
theorem wd_627 : (Jvm.Cond.selects "NestedFociModel" ({ cls := "NestedFociModel", name := "goesOver", desc := "(II)I" } : Jvm.MethodName) ({ cls := "NestedFociModel", name := "goesOver", desc := "(II)I" } : Jvm.MethodName)) ∈ lw_tbl := ab_pv3 _ (List.mem_of_getElem? (i := 15) rfl)
set_option maxRecDepth 100000 in
theorem wd_628 : (Jvm.Cond.methodLink "NestedFociModel" (238 : Nat) ({ cls := "NestedFociModel", name := "comesOf", desc := "(IIII)I" } : Jvm.MethodName)) ∈ lw_tbl := ab_tb5 _ (List.mem_of_getElem? (i := 73) rfl)
set_option maxRecDepth 100000 in
theorem wd_629 : (Jvm.Cond.instanceMethod ({ cls := "NestedFociModel", name := "comesOf", desc := "(IIII)I" } : Jvm.MethodName)) ∈ lw_tbl := ab_tb5 _ (List.mem_of_getElem? (i := 75) rfl)
set_option maxRecDepth 100000 in
theorem wd_630 : (Jvm.Cond.selects "NestedFociModel" ({ cls := "NestedFociModel", name := "comesOf", desc := "(IIII)I" } : Jvm.MethodName) ({ cls := "NestedFociModel", name := "comesOf", desc := "(IIII)I" } : Jvm.MethodName)) ∈ lw_tbl := ab_pv3 _ (List.mem_of_getElem? (i := 14) rfl)
set_option maxRecDepth 100000 in
theorem wd_631 : (Jvm.Cond.methodLink "NestedFociModel" (242 : Nat) ({ cls := "NestedFociModel", name := "isFull", desc := "(I)Z" } : Jvm.MethodName)) ∈ lw_tbl := ab_tb5 _ (List.mem_of_getElem? (i := 121) rfl)
set_option maxRecDepth 100000 in
theorem wd_632 : (Jvm.Cond.instanceMethod ({ cls := "NestedFociModel", name := "isFull", desc := "(I)Z" } : Jvm.MethodName)) ∈ lw_tbl := ab_tb5 _ (List.mem_of_getElem? (i := 123) rfl)
set_option maxRecDepth 100000 in
theorem wd_633 : (Jvm.Cond.selects "NestedFociModel" ({ cls := "NestedFociModel", name := "isFull", desc := "(I)Z" } : Jvm.MethodName) ({ cls := "NestedFociModel", name := "isFull", desc := "(I)Z" } : Jvm.MethodName)) ∈ lw_tbl := ab_pv4 _ (List.mem_of_getElem? (i := 10) rfl)
set_option maxRecDepth 100000 in
theorem wd_634 : (Jvm.Cond.methodLink "NestedFociModel" (245 : Nat) ({ cls := "NestedFociModel", name := "looksFor", desc := "(II)V" } : Jvm.MethodName)) ∈ lw_tbl := ab_tb5 _ (List.mem_of_getElem? (i := 133) rfl)
set_option maxRecDepth 100000 in
theorem wd_635 : (Jvm.Cond.instanceMethod ({ cls := "NestedFociModel", name := "looksFor", desc := "(II)V" } : Jvm.MethodName)) ∈ lw_tbl := ab_tb5 _ (List.mem_of_getElem? (i := 135) rfl)
set_option maxRecDepth 100000 in
theorem wd_636 : (Jvm.Cond.selects "NestedFociModel" ({ cls := "NestedFociModel", name := "looksFor", desc := "(II)V" } : Jvm.MethodName) ({ cls := "NestedFociModel", name := "looksFor", desc := "(II)V" } : Jvm.MethodName)) ∈ lw_tbl := ab_pv4 _ (List.mem_of_getElem? (i := 11) rfl)
set_option maxRecDepth 100000 in
theorem wd_637 : (Jvm.Cond.methodLink "NestedFociModel" (248 : Nat) ({ cls := "NestedFociModel", name := "focusOf", desc := "(III)I" } : Jvm.MethodName)) ∈ lw_tbl := ab_tb5 _ (List.mem_of_getElem? (i := 149) rfl)
set_option maxRecDepth 100000 in
theorem wd_638 : (Jvm.Cond.instanceMethod ({ cls := "NestedFociModel", name := "focusOf", desc := "(III)I" } : Jvm.MethodName)) ∈ lw_tbl := ab_tb5 _ (List.mem_of_getElem? (i := 151) rfl)
set_option maxRecDepth 100000 in
theorem wd_639 : (Jvm.Cond.selects "NestedFociModel" ({ cls := "NestedFociModel", name := "focusOf", desc := "(III)I" } : Jvm.MethodName) ({ cls := "NestedFociModel", name := "focusOf", desc := "(III)I" } : Jvm.MethodName)) ∈ lw_tbl := ab_pv4 _ (List.mem_of_getElem? (i := 13) rfl)
set_option maxRecDepth 100000 in
theorem wd_640 : (Jvm.Cond.constantLong "NestedFociModel" (251 : Nat) (-9223372036854775808 : Int64)) ∈ lw_tbl := ab_tb5 _ (List.mem_of_getElem? (i := 153) rfl)
set_option maxRecDepth 100000 in
theorem wd_641 : (Jvm.Cond.methodLink "NestedFociModel" (253 : Nat) ({ cls := "NestedFociModel", name := "sumOf", desc := "(I)J" } : Jvm.MethodName)) ∈ lw_tbl := ab_tb5 _ (List.mem_of_getElem? (i := 162) rfl)
set_option maxRecDepth 100000 in
theorem wd_642 : (Jvm.Cond.instanceMethod ({ cls := "NestedFociModel", name := "sumOf", desc := "(I)J" } : Jvm.MethodName)) ∈ lw_tbl := ab_tb5 _ (List.mem_of_getElem? (i := 164) rfl)
set_option maxRecDepth 100000 in
theorem wd_643 : (Jvm.Cond.selects "NestedFociModel" ({ cls := "NestedFociModel", name := "sumOf", desc := "(I)J" } : Jvm.MethodName) ({ cls := "NestedFociModel", name := "sumOf", desc := "(I)J" } : Jvm.MethodName)) ∈ lw_tbl := ab_pv4 _ (List.mem_of_getElem? (i := 14) rfl)
set_option maxRecDepth 100000 in
theorem wd_644 : (Jvm.Cond.methodLink "NestedFociModel" (257 : Nat) ({ cls := "NestedFociModel", name := "isNew", desc := "(I)Z" } : Jvm.MethodName)) ∈ lw_tbl := ab_tb5 _ (List.mem_of_getElem? (i := 166) rfl)
set_option maxRecDepth 100000 in
theorem wd_645 : (Jvm.Cond.instanceMethod ({ cls := "NestedFociModel", name := "isNew", desc := "(I)Z" } : Jvm.MethodName)) ∈ lw_tbl := ab_tb5 _ (List.mem_of_getElem? (i := 168) rfl)
set_option maxRecDepth 100000 in
theorem wd_646 : (Jvm.Cond.selects "NestedFociModel" ({ cls := "NestedFociModel", name := "isNew", desc := "(I)Z" } : Jvm.MethodName) ({ cls := "NestedFociModel", name := "isNew", desc := "(I)Z" } : Jvm.MethodName)) ∈ lw_tbl := ab_pv4 _ (List.mem_of_getElem? (i := 15) rfl)
set_option maxRecDepth 100000 in
theorem wd_647 : (Jvm.Cond.methodLink "NestedFociModel" (260 : Nat) ({ cls := "NestedFociModel", name := "orderedBy", desc := "(III)I" } : Jvm.MethodName)) ∈ lw_tbl := ab_tb5 _ (List.mem_of_getElem? (i := 174) rfl)
set_option maxRecDepth 100000 in
theorem wd_648 : (Jvm.Cond.instanceMethod ({ cls := "NestedFociModel", name := "orderedBy", desc := "(III)I" } : Jvm.MethodName)) ∈ lw_tbl := ab_tb5 _ (List.mem_of_getElem? (i := 176) rfl)
set_option maxRecDepth 100000 in
theorem wd_649 : (Jvm.Cond.selects "NestedFociModel" ({ cls := "NestedFociModel", name := "orderedBy", desc := "(III)I" } : Jvm.MethodName) ({ cls := "NestedFociModel", name := "orderedBy", desc := "(III)I" } : Jvm.MethodName)) ∈ lw_tbl := ab_pv5 _ (List.mem_of_getElem? (i := 0) rfl)
set_option maxRecDepth 100000 in
theorem wd_650 : (Jvm.Cond.methodLink "NestedFociModel" (263 : Nat) ({ cls := "NestedFociModel", name := "marks", desc := "(I)V" } : Jvm.MethodName)) ∈ lw_tbl := ab_tb5 _ (List.mem_of_getElem? (i := 186) rfl)
set_option maxRecDepth 100000 in
theorem wd_651 : (Jvm.Cond.instanceMethod ({ cls := "NestedFociModel", name := "marks", desc := "(I)V" } : Jvm.MethodName)) ∈ lw_tbl := ab_tb5 _ (List.mem_of_getElem? (i := 188) rfl)
set_option maxRecDepth 100000 in
theorem wd_652 : (Jvm.Cond.selects "NestedFociModel" ({ cls := "NestedFociModel", name := "marks", desc := "(I)V" } : Jvm.MethodName) ({ cls := "NestedFociModel", name := "marks", desc := "(I)V" } : Jvm.MethodName)) ∈ lw_tbl := ab_pv5 _ (List.mem_of_getElem? (i := 1) rfl)
set_option maxRecDepth 100000 in
theorem wd_653 : (Jvm.Cond.methodLink "NestedFociModel" (266 : Nat) ({ cls := "NestedFociModel", name := "sharedIn", desc := "(I)I" } : Jvm.MethodName)) ∈ lw_tbl := ab_tb5 _ (List.mem_of_getElem? (i := 190) rfl)
set_option maxRecDepth 100000 in
theorem wd_654 : (Jvm.Cond.instanceMethod ({ cls := "NestedFociModel", name := "sharedIn", desc := "(I)I" } : Jvm.MethodName)) ∈ lw_tbl := ab_tb5 _ (List.mem_of_getElem? (i := 192) rfl)
set_option maxRecDepth 100000 in
theorem wd_655 : (Jvm.Cond.selects "NestedFociModel" ({ cls := "NestedFociModel", name := "sharedIn", desc := "(I)I" } : Jvm.MethodName) ({ cls := "NestedFociModel", name := "sharedIn", desc := "(I)I" } : Jvm.MethodName)) ∈ lw_tbl := ab_pv5 _ (List.mem_of_getElem? (i := 2) rfl)
set_option maxRecDepth 100000 in
theorem wd_656 : (Jvm.Cond.methodLink "NestedFociModel" (269 : Nat) ({ cls := "NestedFociModel", name := "isLikeBuilt", desc := "(II)Z" } : Jvm.MethodName)) ∈ lw_tbl := ab_tb5 _ (List.mem_of_getElem? (i := 202) rfl)
set_option maxRecDepth 100000 in
theorem wd_657 : (Jvm.Cond.instanceMethod ({ cls := "NestedFociModel", name := "isLikeBuilt", desc := "(II)Z" } : Jvm.MethodName)) ∈ lw_tbl := ab_tb5 _ (List.mem_of_getElem? (i := 204) rfl)
set_option maxRecDepth 100000 in
theorem wd_658 : (Jvm.Cond.selects "NestedFociModel" ({ cls := "NestedFociModel", name := "isLikeBuilt", desc := "(II)Z" } : Jvm.MethodName) ({ cls := "NestedFociModel", name := "isLikeBuilt", desc := "(II)Z" } : Jvm.MethodName)) ∈ lw_tbl := ab_pv5 _ (List.mem_of_getElem? (i := 4) rfl)
set_option maxRecDepth 100000 in
theorem wd_659 : (Jvm.Cond.fieldLink "NestedFociModel" (272 : Nat) "NestedFociModel" "differs" "I") ∈ lw_tbl := ab_tb4 _ (List.mem_of_getElem? (i := 133) rfl)
set_option maxRecDepth 100000 in
theorem wd_660 : (Jvm.Cond.fieldLink "NestedFociModel" (275 : Nat) "NestedFociModel" "differsWanted" "I") ∈ lw_tbl := ab_tb4 _ (List.mem_of_getElem? (i := 134) rfl)
set_option maxRecDepth 100000 in
theorem wd_661 : (Jvm.Cond.fieldLink "NestedFociModel" (278 : Nat) "NestedFociModel" "differsAt" "I") ∈ lw_tbl := ab_tb4 _ (List.mem_of_getElem? (i := 135) rfl)
set_option maxRecDepth 100000 in
theorem wd_662 : (Jvm.Cond.methodLink "NestedFociModel" (281 : Nat) ({ cls := "NestedFociModel", name := "differsIn", desc := "(III)V" } : Jvm.MethodName)) ∈ lw_tbl := ab_tb5 _ (List.mem_of_getElem? (i := 198) rfl)
set_option maxRecDepth 100000 in
theorem wd_663 : (Jvm.Cond.instanceMethod ({ cls := "NestedFociModel", name := "differsIn", desc := "(III)V" } : Jvm.MethodName)) ∈ lw_tbl := ab_tb5 _ (List.mem_of_getElem? (i := 200) rfl)
set_option maxRecDepth 100000 in
theorem wd_664 : (Jvm.Cond.selects "NestedFociModel" ({ cls := "NestedFociModel", name := "differsIn", desc := "(III)V" } : Jvm.MethodName) ({ cls := "NestedFociModel", name := "differsIn", desc := "(III)V" } : Jvm.MethodName)) ∈ lw_tbl := ab_pv5 _ (List.mem_of_getElem? (i := 3) rfl)
set_option maxRecDepth 100000 in
theorem wd_665 : (Jvm.Cond.fieldLink "NestedFociModel" (284 : Nat) "NestedFociModel" "hasImage" "Z") ∈ lw_tbl := ab_tb4 _ (List.mem_of_getElem? (i := 115) rfl)
set_option maxRecDepth 100000 in
theorem wd_666 : (Jvm.Cond.methodLink "NestedFociModel" (287 : Nat) ({ cls := "NestedFociModel", name := "allNodes", desc := "()I" } : Jvm.MethodName)) ∈ lw_tbl := ab_tb5 _ (List.mem_of_getElem? (i := 214) rfl)
set_option maxRecDepth 100000 in
theorem wd_667 : (Jvm.Cond.instanceMethod ({ cls := "NestedFociModel", name := "allNodes", desc := "()I" } : Jvm.MethodName)) ∈ lw_tbl := ab_tb5 _ (List.mem_of_getElem? (i := 216) rfl)
set_option maxRecDepth 100000 in
theorem wd_668 : (Jvm.Cond.selects "NestedFociModel" ({ cls := "NestedFociModel", name := "allNodes", desc := "()I" } : Jvm.MethodName) ({ cls := "NestedFociModel", name := "allNodes", desc := "()I" } : Jvm.MethodName)) ∈ lw_tbl := ab_pv5 _ (List.mem_of_getElem? (i := 5) rfl)
set_option maxRecDepth 100000 in
theorem wd_669 : (Jvm.Cond.classLink "NestedFociLaw" (7 : Nat) "NestedFoci") ∈ lw_tbl := ab_tb1 _ (List.mem_of_getElem? (i := 16) rfl)
set_option maxRecDepth 100000 in
theorem wd_670 : (Jvm.Cond.instantiable "NestedFoci" (12 : Nat)) ∈ lw_tbl := ab_tb1 _ (List.mem_of_getElem? (i := 17) rfl)
set_option maxRecDepth 100000 in
theorem wd_671 : (Jvm.Cond.initialized "NestedFoci") ∈ lw_tbl := ab_tb1 _ (List.mem_of_getElem? (i := 1) rfl)
set_option maxRecDepth 100000 in
theorem wd_672 : (Jvm.Cond.methodLink "NestedFociLaw" (9 : Nat) ({ cls := "NestedFoci", name := "<init>", desc := "()V" } : Jvm.MethodName)) ∈ lw_tbl := ab_tb1 _ (List.mem_of_getElem? (i := 18) rfl)
set_option maxRecDepth 100000 in
theorem wd_673 : (Jvm.Cond.instanceMethod ({ cls := "NestedFoci", name := "<init>", desc := "()V" } : Jvm.MethodName)) ∈ lw_tbl := ab_tb1 _ (List.mem_of_getElem? (i := 19) rfl)
set_option maxRecDepth 100000 in
theorem wd_674 : (Jvm.Cond.classLink "NestedFociLaw" (10 : Nat) "NestedFociModel") ∈ lw_tbl := ab_tb4 _ (List.mem_of_getElem? (i := 77) rfl)
set_option maxRecDepth 100000 in
theorem wd_675 : (Jvm.Cond.instantiable "NestedFociModel" (41 : Nat)) ∈ lw_tbl := ab_tb4 _ (List.mem_of_getElem? (i := 78) rfl)
set_option maxRecDepth 100000 in
theorem wd_676 : (Jvm.Cond.initialized "NestedFociModel") ∈ lw_tbl := ab_tb1 _ (List.mem_of_getElem? (i := 13) rfl)
set_option maxRecDepth 100000 in
theorem wd_677 : (Jvm.Cond.methodLink "NestedFociLaw" (12 : Nat) ({ cls := "NestedFociModel", name := "<init>", desc := "()V" } : Jvm.MethodName)) ∈ lw_tbl := ab_tb4 _ (List.mem_of_getElem? (i := 79) rfl)
set_option maxRecDepth 100000 in
theorem wd_678 : (Jvm.Cond.instanceMethod ({ cls := "NestedFociModel", name := "<init>", desc := "()V" } : Jvm.MethodName)) ∈ lw_tbl := ab_tb4 _ (List.mem_of_getElem? (i := 80) rfl)
set_option maxRecDepth 100000 in
theorem wd_679 : (Jvm.Cond.methodLink "NestedFociLaw" (13 : Nat) ({ cls := "NestedFoci", name := "feed", desc := "(II)I" } : Jvm.MethodName)) ∈ lw_tbl := ab_tb2 _ (List.mem_of_getElem? (i := 11) rfl)
set_option maxRecDepth 100000 in
theorem wd_680 : (Jvm.Cond.instanceMethod ({ cls := "NestedFoci", name := "feed", desc := "(II)I" } : Jvm.MethodName)) ∈ lw_tbl := ab_tb2 _ (List.mem_of_getElem? (i := 12) rfl)
set_option maxRecDepth 100000 in
theorem wd_681 : (Jvm.Cond.selects "NestedFoci" ({ cls := "NestedFoci", name := "feed", desc := "(II)I" } : Jvm.MethodName) ({ cls := "NestedFoci", name := "feed", desc := "(II)I" } : Jvm.MethodName)) ∈ lw_tbl := ab_tb2 _ (List.mem_of_getElem? (i := 13) rfl)
set_option maxRecDepth 100000 in
theorem wd_682 : (Jvm.Cond.methodLink "NestedFociLaw" (17 : Nat) ({ cls := "NestedFociModel", name := "feed", desc := "(II)I" } : Jvm.MethodName)) ∈ lw_tbl := ab_tb4 _ (List.mem_of_getElem? (i := 220) rfl)
set_option maxRecDepth 100000 in
theorem wd_683 : (Jvm.Cond.instanceMethod ({ cls := "NestedFociModel", name := "feed", desc := "(II)I" } : Jvm.MethodName)) ∈ lw_tbl := ab_tb4 _ (List.mem_of_getElem? (i := 221) rfl)
set_option maxRecDepth 100000 in
theorem wd_684 : (Jvm.Cond.selects "NestedFociModel" ({ cls := "NestedFociModel", name := "feed", desc := "(II)I" } : Jvm.MethodName) ({ cls := "NestedFociModel", name := "feed", desc := "(II)I" } : Jvm.MethodName)) ∈ lw_tbl := ab_tb4 _ (List.mem_of_getElem? (i := 222) rfl)
set_option maxRecDepth 100000 in
theorem wd_685 : (Jvm.Cond.methodLink "NestedFociLaw" (18 : Nat) ({ cls := "NestedFoci", name := "thing", desc := "(I)I" } : Jvm.MethodName)) ∈ lw_tbl := ab_tb2 _ (List.mem_of_getElem? (i := 23) rfl)
set_option maxRecDepth 100000 in
theorem wd_686 : (Jvm.Cond.instanceMethod ({ cls := "NestedFoci", name := "thing", desc := "(I)I" } : Jvm.MethodName)) ∈ lw_tbl := ab_tb2 _ (List.mem_of_getElem? (i := 24) rfl)
set_option maxRecDepth 100000 in
theorem wd_687 : (Jvm.Cond.selects "NestedFoci" ({ cls := "NestedFoci", name := "thing", desc := "(I)I" } : Jvm.MethodName) ({ cls := "NestedFoci", name := "thing", desc := "(I)I" } : Jvm.MethodName)) ∈ lw_tbl := ab_tb2 _ (List.mem_of_getElem? (i := 25) rfl)
set_option maxRecDepth 100000 in
theorem wd_688 : (Jvm.Cond.methodLink "NestedFociLaw" (22 : Nat) ({ cls := "NestedFociModel", name := "thing", desc := "(I)I" } : Jvm.MethodName)) ∈ lw_tbl := ab_tb4 _ (List.mem_of_getElem? (i := 227) rfl)
set_option maxRecDepth 100000 in
theorem wd_689 : (Jvm.Cond.instanceMethod ({ cls := "NestedFociModel", name := "thing", desc := "(I)I" } : Jvm.MethodName)) ∈ lw_tbl := ab_tb4 _ (List.mem_of_getElem? (i := 228) rfl)
set_option maxRecDepth 100000 in
theorem wd_690 : (Jvm.Cond.selects "NestedFociModel" ({ cls := "NestedFociModel", name := "thing", desc := "(I)I" } : Jvm.MethodName) ({ cls := "NestedFociModel", name := "thing", desc := "(I)I" } : Jvm.MethodName)) ∈ lw_tbl := ab_tb4 _ (List.mem_of_getElem? (i := 229) rfl)
set_option maxRecDepth 100000 in
theorem wd_691 : (Jvm.Cond.methodLink "NestedFociLaw" (23 : Nat) ({ cls := "NestedFoci", name := "path", desc := "(I)I" } : Jvm.MethodName)) ∈ lw_tbl := ab_tb2 _ (List.mem_of_getElem? (i := 174) rfl)
set_option maxRecDepth 100000 in
theorem wd_692 : (Jvm.Cond.instanceMethod ({ cls := "NestedFoci", name := "path", desc := "(I)I" } : Jvm.MethodName)) ∈ lw_tbl := ab_tb2 _ (List.mem_of_getElem? (i := 175) rfl)
set_option maxRecDepth 100000 in
theorem wd_693 : (Jvm.Cond.selects "NestedFoci" ({ cls := "NestedFoci", name := "path", desc := "(I)I" } : Jvm.MethodName) ({ cls := "NestedFoci", name := "path", desc := "(I)I" } : Jvm.MethodName)) ∈ lw_tbl := ab_tb2 _ (List.mem_of_getElem? (i := 176) rfl)
set_option maxRecDepth 100000 in
theorem wd_694 : (Jvm.Cond.methodLink "NestedFociLaw" (26 : Nat) ({ cls := "NestedFociModel", name := "path", desc := "(I)I" } : Jvm.MethodName)) ∈ lw_tbl := ab_tb5 _ (List.mem_of_getElem? (i := 54) rfl)
set_option maxRecDepth 100000 in
theorem wd_695 : (Jvm.Cond.instanceMethod ({ cls := "NestedFociModel", name := "path", desc := "(I)I" } : Jvm.MethodName)) ∈ lw_tbl := ab_tb5 _ (List.mem_of_getElem? (i := 55) rfl)
set_option maxRecDepth 100000 in
theorem wd_696 : (Jvm.Cond.selects "NestedFociModel" ({ cls := "NestedFociModel", name := "path", desc := "(I)I" } : Jvm.MethodName) ({ cls := "NestedFociModel", name := "path", desc := "(I)I" } : Jvm.MethodName)) ∈ lw_tbl := ab_tb5 _ (List.mem_of_getElem? (i := 56) rfl)
set_option maxRecDepth 100000 in
theorem wd_697 : (Jvm.Cond.methodLink "NestedFociLaw" (27 : Nat) ({ cls := "NestedFoci", name := "join", desc := "(II)I" } : Jvm.MethodName)) ∈ lw_tbl := ab_tb2 _ (List.mem_of_getElem? (i := 221) rfl)
set_option maxRecDepth 100000 in
theorem wd_698 : (Jvm.Cond.instanceMethod ({ cls := "NestedFoci", name := "join", desc := "(II)I" } : Jvm.MethodName)) ∈ lw_tbl := ab_tb2 _ (List.mem_of_getElem? (i := 222) rfl)
set_option maxRecDepth 100000 in
theorem wd_699 : (Jvm.Cond.selects "NestedFoci" ({ cls := "NestedFoci", name := "join", desc := "(II)I" } : Jvm.MethodName) ({ cls := "NestedFoci", name := "join", desc := "(II)I" } : Jvm.MethodName)) ∈ lw_tbl := ab_tb2 _ (List.mem_of_getElem? (i := 223) rfl)
set_option maxRecDepth 100000 in
theorem wd_700 : (Jvm.Cond.methodLink "NestedFociLaw" (30 : Nat) ({ cls := "NestedFociModel", name := "join", desc := "(II)I" } : Jvm.MethodName)) ∈ lw_tbl := ab_tb5 _ (List.mem_of_getElem? (i := 65) rfl)
set_option maxRecDepth 100000 in
theorem wd_701 : (Jvm.Cond.instanceMethod ({ cls := "NestedFociModel", name := "join", desc := "(II)I" } : Jvm.MethodName)) ∈ lw_tbl := ab_tb5 _ (List.mem_of_getElem? (i := 66) rfl)
set_option maxRecDepth 100000 in
theorem wd_702 : (Jvm.Cond.selects "NestedFociModel" ({ cls := "NestedFociModel", name := "join", desc := "(II)I" } : Jvm.MethodName) ({ cls := "NestedFociModel", name := "join", desc := "(II)I" } : Jvm.MethodName)) ∈ lw_tbl := ab_tb5 _ (List.mem_of_getElem? (i := 67) rfl)
set_option maxRecDepth 100000 in
theorem wd_703 : (Jvm.Cond.methodLink "NestedFociLaw" (31 : Nat) ({ cls := "NestedFoci", name := "over", desc := "(IIIII)I" } : Jvm.MethodName)) ∈ lw_tbl := ab_tb3 _ (List.mem_of_getElem? (i := 0) rfl)
set_option maxRecDepth 100000 in
theorem wd_704 : (Jvm.Cond.instanceMethod ({ cls := "NestedFoci", name := "over", desc := "(IIIII)I" } : Jvm.MethodName)) ∈ lw_tbl := ab_tb3 _ (List.mem_of_getElem? (i := 1) rfl)
set_option maxRecDepth 100000 in
theorem wd_705 : (Jvm.Cond.selects "NestedFoci" ({ cls := "NestedFoci", name := "over", desc := "(IIIII)I" } : Jvm.MethodName) ({ cls := "NestedFoci", name := "over", desc := "(IIIII)I" } : Jvm.MethodName)) ∈ lw_tbl := ab_tb3 _ (List.mem_of_getElem? (i := 2) rfl)
set_option maxRecDepth 100000 in
theorem wd_706 : (Jvm.Cond.methodLink "NestedFociLaw" (35 : Nat) ({ cls := "NestedFociModel", name := "over", desc := "(IIIII)I" } : Jvm.MethodName)) ∈ lw_tbl := ab_tb5 _ (List.mem_of_getElem? (i := 69) rfl)
set_option maxRecDepth 100000 in
theorem wd_707 : (Jvm.Cond.instanceMethod ({ cls := "NestedFociModel", name := "over", desc := "(IIIII)I" } : Jvm.MethodName)) ∈ lw_tbl := ab_tb5 _ (List.mem_of_getElem? (i := 70) rfl)
set_option maxRecDepth 100000 in
theorem wd_708 : (Jvm.Cond.selects "NestedFociModel" ({ cls := "NestedFociModel", name := "over", desc := "(IIIII)I" } : Jvm.MethodName) ({ cls := "NestedFociModel", name := "over", desc := "(IIIII)I" } : Jvm.MethodName)) ∈ lw_tbl := ab_tb5 _ (List.mem_of_getElem? (i := 71) rfl)
set_option maxRecDepth 100000 in
theorem wd_709 : (Jvm.Cond.methodLink "NestedFociLaw" (36 : Nat) ({ cls := "NestedFoci", name := "put", desc := "(IIIII)I" } : Jvm.MethodName)) ∈ lw_tbl := ab_tb3 _ (List.mem_of_getElem? (i := 111) rfl)
set_option maxRecDepth 100000 in
theorem wd_710 : (Jvm.Cond.instanceMethod ({ cls := "NestedFoci", name := "put", desc := "(IIIII)I" } : Jvm.MethodName)) ∈ lw_tbl := ab_tb3 _ (List.mem_of_getElem? (i := 112) rfl)
set_option maxRecDepth 100000 in
theorem wd_711 : (Jvm.Cond.selects "NestedFoci" ({ cls := "NestedFoci", name := "put", desc := "(IIIII)I" } : Jvm.MethodName) ({ cls := "NestedFoci", name := "put", desc := "(IIIII)I" } : Jvm.MethodName)) ∈ lw_tbl := ab_tb3 _ (List.mem_of_getElem? (i := 113) rfl)
set_option maxRecDepth 100000 in
theorem wd_712 : (Jvm.Cond.methodLink "NestedFociLaw" (39 : Nat) ({ cls := "NestedFociModel", name := "put", desc := "(IIIII)I" } : Jvm.MethodName)) ∈ lw_tbl := ab_tb5 _ (List.mem_of_getElem? (i := 125) rfl)
set_option maxRecDepth 100000 in
theorem wd_713 : (Jvm.Cond.instanceMethod ({ cls := "NestedFociModel", name := "put", desc := "(IIIII)I" } : Jvm.MethodName)) ∈ lw_tbl := ab_tb5 _ (List.mem_of_getElem? (i := 126) rfl)
set_option maxRecDepth 100000 in
theorem wd_714 : (Jvm.Cond.selects "NestedFociModel" ({ cls := "NestedFociModel", name := "put", desc := "(IIIII)I" } : Jvm.MethodName) ({ cls := "NestedFociModel", name := "put", desc := "(IIIII)I" } : Jvm.MethodName)) ∈ lw_tbl := ab_tb5 _ (List.mem_of_getElem? (i := 127) rfl)
set_option maxRecDepth 100000 in
theorem wd_715 : (Jvm.Cond.methodLink "NestedFociLaw" (40 : Nat) ({ cls := "NestedFoci", name := "take", desc := "(IIII)I" } : Jvm.MethodName)) ∈ lw_tbl := ab_tb3 _ (List.mem_of_getElem? (i := 127) rfl)
set_option maxRecDepth 100000 in
theorem wd_716 : (Jvm.Cond.instanceMethod ({ cls := "NestedFoci", name := "take", desc := "(IIII)I" } : Jvm.MethodName)) ∈ lw_tbl := ab_tb3 _ (List.mem_of_getElem? (i := 128) rfl)
set_option maxRecDepth 100000 in
theorem wd_717 : (Jvm.Cond.selects "NestedFoci" ({ cls := "NestedFoci", name := "take", desc := "(IIII)I" } : Jvm.MethodName) ({ cls := "NestedFoci", name := "take", desc := "(IIII)I" } : Jvm.MethodName)) ∈ lw_tbl := ab_tb3 _ (List.mem_of_getElem? (i := 129) rfl)
set_option maxRecDepth 100000 in
theorem wd_718 : (Jvm.Cond.methodLink "NestedFociLaw" (44 : Nat) ({ cls := "NestedFociModel", name := "take", desc := "(IIII)I" } : Jvm.MethodName)) ∈ lw_tbl := ab_tb5 _ (List.mem_of_getElem? (i := 129) rfl)
set_option maxRecDepth 100000 in
theorem wd_719 : (Jvm.Cond.instanceMethod ({ cls := "NestedFociModel", name := "take", desc := "(IIII)I" } : Jvm.MethodName)) ∈ lw_tbl := ab_tb5 _ (List.mem_of_getElem? (i := 130) rfl)
set_option maxRecDepth 100000 in
theorem wd_720 : (Jvm.Cond.selects "NestedFociModel" ({ cls := "NestedFociModel", name := "take", desc := "(IIII)I" } : Jvm.MethodName) ({ cls := "NestedFociModel", name := "take", desc := "(IIII)I" } : Jvm.MethodName)) ∈ lw_tbl := ab_tb5 _ (List.mem_of_getElem? (i := 131) rfl)
set_option maxRecDepth 100000 in
theorem wd_721 : (Jvm.Cond.methodLink "NestedFociLaw" (45 : Nat) ({ cls := "NestedFoci", name := "undo", desc := "(I)I" } : Jvm.MethodName)) ∈ lw_tbl := ab_tb3 _ (List.mem_of_getElem? (i := 161) rfl)
set_option maxRecDepth 100000 in
theorem wd_722 : (Jvm.Cond.instanceMethod ({ cls := "NestedFoci", name := "undo", desc := "(I)I" } : Jvm.MethodName)) ∈ lw_tbl := ab_tb3 _ (List.mem_of_getElem? (i := 162) rfl)
set_option maxRecDepth 100000 in
theorem wd_723 : (Jvm.Cond.selects "NestedFoci" ({ cls := "NestedFoci", name := "undo", desc := "(I)I" } : Jvm.MethodName) ({ cls := "NestedFoci", name := "undo", desc := "(I)I" } : Jvm.MethodName)) ∈ lw_tbl := ab_tb3 _ (List.mem_of_getElem? (i := 163) rfl)
set_option maxRecDepth 100000 in
theorem wd_724 : (Jvm.Cond.methodLink "NestedFociLaw" (48 : Nat) ({ cls := "NestedFociModel", name := "undo", desc := "(I)I" } : Jvm.MethodName)) ∈ lw_tbl := ab_tb5 _ (List.mem_of_getElem? (i := 141) rfl)
set_option maxRecDepth 100000 in
theorem wd_725 : (Jvm.Cond.instanceMethod ({ cls := "NestedFociModel", name := "undo", desc := "(I)I" } : Jvm.MethodName)) ∈ lw_tbl := ab_tb5 _ (List.mem_of_getElem? (i := 142) rfl)
set_option maxRecDepth 100000 in
theorem wd_726 : (Jvm.Cond.selects "NestedFociModel" ({ cls := "NestedFociModel", name := "undo", desc := "(I)I" } : Jvm.MethodName) ({ cls := "NestedFociModel", name := "undo", desc := "(I)I" } : Jvm.MethodName)) ∈ lw_tbl := ab_tb5 _ (List.mem_of_getElem? (i := 143) rfl)
set_option maxRecDepth 100000 in
theorem wd_727 : (Jvm.Cond.methodLink "NestedFociLaw" (49 : Nat) ({ cls := "NestedFoci", name := "look", desc := "(IIII)J" } : Jvm.MethodName)) ∈ lw_tbl := ab_tb3 _ (List.mem_of_getElem? (i := 173) rfl)
set_option maxRecDepth 100000 in
theorem wd_728 : (Jvm.Cond.instanceMethod ({ cls := "NestedFoci", name := "look", desc := "(IIII)J" } : Jvm.MethodName)) ∈ lw_tbl := ab_tb3 _ (List.mem_of_getElem? (i := 174) rfl)
set_option maxRecDepth 100000 in
theorem wd_729 : (Jvm.Cond.selects "NestedFoci" ({ cls := "NestedFoci", name := "look", desc := "(IIII)J" } : Jvm.MethodName) ({ cls := "NestedFoci", name := "look", desc := "(IIII)J" } : Jvm.MethodName)) ∈ lw_tbl := ab_tb3 _ (List.mem_of_getElem? (i := 175) rfl)
set_option maxRecDepth 100000 in
theorem wd_730 : (Jvm.Cond.methodLink "NestedFociLaw" (53 : Nat) ({ cls := "NestedFociModel", name := "look", desc := "(IIII)J" } : Jvm.MethodName)) ∈ lw_tbl := ab_tb5 _ (List.mem_of_getElem? (i := 145) rfl)
set_option maxRecDepth 100000 in
theorem wd_731 : (Jvm.Cond.instanceMethod ({ cls := "NestedFociModel", name := "look", desc := "(IIII)J" } : Jvm.MethodName)) ∈ lw_tbl := ab_tb5 _ (List.mem_of_getElem? (i := 146) rfl)
set_option maxRecDepth 100000 in
theorem wd_732 : (Jvm.Cond.selects "NestedFociModel" ({ cls := "NestedFociModel", name := "look", desc := "(IIII)J" } : Jvm.MethodName) ({ cls := "NestedFociModel", name := "look", desc := "(IIII)J" } : Jvm.MethodName)) ∈ lw_tbl := ab_tb5 _ (List.mem_of_getElem? (i := 147) rfl)
set_option maxRecDepth 100000 in
theorem wd_733 : (Jvm.Cond.methodLink "NestedFociLaw" (54 : Nat) ({ cls := "NestedFoci", name := "key", desc := "(IIII)I" } : Jvm.MethodName)) ∈ lw_tbl := ab_tb3 _ (List.mem_of_getElem? (i := 178) rfl)
set_option maxRecDepth 100000 in
theorem wd_734 : (Jvm.Cond.instanceMethod ({ cls := "NestedFoci", name := "key", desc := "(IIII)I" } : Jvm.MethodName)) ∈ lw_tbl := ab_tb3 _ (List.mem_of_getElem? (i := 179) rfl)
set_option maxRecDepth 100000 in
theorem wd_735 : (Jvm.Cond.selects "NestedFoci" ({ cls := "NestedFoci", name := "key", desc := "(IIII)I" } : Jvm.MethodName) ({ cls := "NestedFoci", name := "key", desc := "(IIII)I" } : Jvm.MethodName)) ∈ lw_tbl := ab_tb3 _ (List.mem_of_getElem? (i := 180) rfl)
set_option maxRecDepth 100000 in
theorem wd_736 : (Jvm.Cond.methodLink "NestedFociLaw" (57 : Nat) ({ cls := "NestedFociModel", name := "key", desc := "(IIII)I" } : Jvm.MethodName)) ∈ lw_tbl := ab_tb5 _ (List.mem_of_getElem? (i := 154) rfl)
set_option maxRecDepth 100000 in
theorem wd_737 : (Jvm.Cond.instanceMethod ({ cls := "NestedFociModel", name := "key", desc := "(IIII)I" } : Jvm.MethodName)) ∈ lw_tbl := ab_tb5 _ (List.mem_of_getElem? (i := 155) rfl)
set_option maxRecDepth 100000 in
theorem wd_738 : (Jvm.Cond.selects "NestedFociModel" ({ cls := "NestedFociModel", name := "key", desc := "(IIII)I" } : Jvm.MethodName) ({ cls := "NestedFociModel", name := "key", desc := "(IIII)I" } : Jvm.MethodName)) ∈ lw_tbl := ab_tb5 _ (List.mem_of_getElem? (i := 156) rfl)
set_option maxRecDepth 100000 in
theorem wd_739 : (Jvm.Cond.methodLink "NestedFociLaw" (58 : Nat) ({ cls := "NestedFoci", name := "fold", desc := "(III)J" } : Jvm.MethodName)) ∈ lw_tbl := ab_tb3 _ (List.mem_of_getElem? (i := 182) rfl)
set_option maxRecDepth 100000 in
theorem wd_740 : (Jvm.Cond.instanceMethod ({ cls := "NestedFoci", name := "fold", desc := "(III)J" } : Jvm.MethodName)) ∈ lw_tbl := ab_tb3 _ (List.mem_of_getElem? (i := 183) rfl)
set_option maxRecDepth 100000 in
theorem wd_741 : (Jvm.Cond.selects "NestedFoci" ({ cls := "NestedFoci", name := "fold", desc := "(III)J" } : Jvm.MethodName) ({ cls := "NestedFoci", name := "fold", desc := "(III)J" } : Jvm.MethodName)) ∈ lw_tbl := ab_tb3 _ (List.mem_of_getElem? (i := 184) rfl)
set_option maxRecDepth 100000 in
theorem wd_742 : (Jvm.Cond.methodLink "NestedFociLaw" (62 : Nat) ({ cls := "NestedFociModel", name := "fold", desc := "(III)J" } : Jvm.MethodName)) ∈ lw_tbl := ab_tb5 _ (List.mem_of_getElem? (i := 158) rfl)
set_option maxRecDepth 100000 in
theorem wd_743 : (Jvm.Cond.instanceMethod ({ cls := "NestedFociModel", name := "fold", desc := "(III)J" } : Jvm.MethodName)) ∈ lw_tbl := ab_tb5 _ (List.mem_of_getElem? (i := 159) rfl)
set_option maxRecDepth 100000 in
theorem wd_744 : (Jvm.Cond.selects "NestedFociModel" ({ cls := "NestedFociModel", name := "fold", desc := "(III)J" } : Jvm.MethodName) ({ cls := "NestedFociModel", name := "fold", desc := "(III)J" } : Jvm.MethodName)) ∈ lw_tbl := ab_tb5 _ (List.mem_of_getElem? (i := 160) rfl)
set_option maxRecDepth 100000 in
theorem wd_745 : (Jvm.Cond.methodLink "NestedFociLaw" (63 : Nat) ({ cls := "NestedFoci", name := "best", desc := "(IIII)I" } : Jvm.MethodName)) ∈ lw_tbl := ab_tb3 _ (List.mem_of_getElem? (i := 226) rfl)
set_option maxRecDepth 100000 in
theorem wd_746 : (Jvm.Cond.instanceMethod ({ cls := "NestedFoci", name := "best", desc := "(IIII)I" } : Jvm.MethodName)) ∈ lw_tbl := ab_tb3 _ (List.mem_of_getElem? (i := 227) rfl)
set_option maxRecDepth 100000 in
theorem wd_747 : (Jvm.Cond.selects "NestedFoci" ({ cls := "NestedFoci", name := "best", desc := "(IIII)I" } : Jvm.MethodName) ({ cls := "NestedFoci", name := "best", desc := "(IIII)I" } : Jvm.MethodName)) ∈ lw_tbl := ab_tb3 _ (List.mem_of_getElem? (i := 228) rfl)
set_option maxRecDepth 100000 in
theorem wd_748 : (Jvm.Cond.methodLink "NestedFociLaw" (66 : Nat) ({ cls := "NestedFociModel", name := "best", desc := "(IIII)I" } : Jvm.MethodName)) ∈ lw_tbl := ab_tb5 _ (List.mem_of_getElem? (i := 170) rfl)
set_option maxRecDepth 100000 in
theorem wd_749 : (Jvm.Cond.instanceMethod ({ cls := "NestedFociModel", name := "best", desc := "(IIII)I" } : Jvm.MethodName)) ∈ lw_tbl := ab_tb5 _ (List.mem_of_getElem? (i := 171) rfl)
set_option maxRecDepth 100000 in
theorem wd_750 : (Jvm.Cond.selects "NestedFociModel" ({ cls := "NestedFociModel", name := "best", desc := "(IIII)I" } : Jvm.MethodName) ({ cls := "NestedFociModel", name := "best", desc := "(IIII)I" } : Jvm.MethodName)) ∈ lw_tbl := ab_tb5 _ (List.mem_of_getElem? (i := 172) rfl)
set_option maxRecDepth 100000 in
theorem wd_751 : (Jvm.Cond.methodLink "NestedFociLaw" (67 : Nat) ({ cls := "NestedFoci", name := "order", desc := "(II)I" } : Jvm.MethodName)) ∈ lw_tbl := ab_tb3 _ (List.mem_of_getElem? (i := 237) rfl)
set_option maxRecDepth 100000 in
theorem wd_752 : (Jvm.Cond.instanceMethod ({ cls := "NestedFoci", name := "order", desc := "(II)I" } : Jvm.MethodName)) ∈ lw_tbl := ab_tb3 _ (List.mem_of_getElem? (i := 238) rfl)
set_option maxRecDepth 100000 in
theorem wd_753 : (Jvm.Cond.selects "NestedFoci" ({ cls := "NestedFoci", name := "order", desc := "(II)I" } : Jvm.MethodName) ({ cls := "NestedFoci", name := "order", desc := "(II)I" } : Jvm.MethodName)) ∈ lw_tbl := ab_tb3 _ (List.mem_of_getElem? (i := 239) rfl)
set_option maxRecDepth 100000 in
theorem wd_754 : (Jvm.Cond.methodLink "NestedFociLaw" (70 : Nat) ({ cls := "NestedFociModel", name := "order", desc := "(II)I" } : Jvm.MethodName)) ∈ lw_tbl := ab_tb5 _ (List.mem_of_getElem? (i := 178) rfl)
set_option maxRecDepth 100000 in
theorem wd_755 : (Jvm.Cond.instanceMethod ({ cls := "NestedFociModel", name := "order", desc := "(II)I" } : Jvm.MethodName)) ∈ lw_tbl := ab_tb5 _ (List.mem_of_getElem? (i := 179) rfl)
set_option maxRecDepth 100000 in
theorem wd_756 : (Jvm.Cond.selects "NestedFociModel" ({ cls := "NestedFociModel", name := "order", desc := "(II)I" } : Jvm.MethodName) ({ cls := "NestedFociModel", name := "order", desc := "(II)I" } : Jvm.MethodName)) ∈ lw_tbl := ab_tb5 _ (List.mem_of_getElem? (i := 180) rfl)
set_option maxRecDepth 100000 in
theorem wd_757 : (Jvm.Cond.methodLink "NestedFociLaw" (71 : Nat) ({ cls := "NestedFoci", name := "shared", desc := "(II)I" } : Jvm.MethodName)) ∈ lw_tbl := ab_tb4 _ (List.mem_of_getElem? (i := 2) rfl)
set_option maxRecDepth 100000 in
theorem wd_758 : (Jvm.Cond.instanceMethod ({ cls := "NestedFoci", name := "shared", desc := "(II)I" } : Jvm.MethodName)) ∈ lw_tbl := ab_tb4 _ (List.mem_of_getElem? (i := 3) rfl)
set_option maxRecDepth 100000 in
theorem wd_759 : (Jvm.Cond.selects "NestedFoci" ({ cls := "NestedFoci", name := "shared", desc := "(II)I" } : Jvm.MethodName) ({ cls := "NestedFoci", name := "shared", desc := "(II)I" } : Jvm.MethodName)) ∈ lw_tbl := ab_tb4 _ (List.mem_of_getElem? (i := 4) rfl)
set_option maxRecDepth 100000 in
theorem wd_760 : (Jvm.Cond.methodLink "NestedFociLaw" (74 : Nat) ({ cls := "NestedFociModel", name := "shared", desc := "(II)I" } : Jvm.MethodName)) ∈ lw_tbl := ab_tb5 _ (List.mem_of_getElem? (i := 182) rfl)
set_option maxRecDepth 100000 in
theorem wd_761 : (Jvm.Cond.instanceMethod ({ cls := "NestedFociModel", name := "shared", desc := "(II)I" } : Jvm.MethodName)) ∈ lw_tbl := ab_tb5 _ (List.mem_of_getElem? (i := 183) rfl)
set_option maxRecDepth 100000 in
theorem wd_762 : (Jvm.Cond.selects "NestedFociModel" ({ cls := "NestedFociModel", name := "shared", desc := "(II)I" } : Jvm.MethodName) ({ cls := "NestedFociModel", name := "shared", desc := "(II)I" } : Jvm.MethodName)) ∈ lw_tbl := ab_tb5 _ (List.mem_of_getElem? (i := 184) rfl)
set_option maxRecDepth 100000 in
theorem wd_763 : (Jvm.Cond.methodLink "NestedFociLaw" (75 : Nat) ({ cls := "NestedFoci", name := "differ", desc := "(III)I" } : Jvm.MethodName)) ∈ lw_tbl := ab_tb4 _ (List.mem_of_getElem? (i := 13) rfl)
set_option maxRecDepth 100000 in
theorem wd_764 : (Jvm.Cond.instanceMethod ({ cls := "NestedFoci", name := "differ", desc := "(III)I" } : Jvm.MethodName)) ∈ lw_tbl := ab_tb4 _ (List.mem_of_getElem? (i := 14) rfl)
set_option maxRecDepth 100000 in
theorem wd_765 : (Jvm.Cond.selects "NestedFoci" ({ cls := "NestedFoci", name := "differ", desc := "(III)I" } : Jvm.MethodName) ({ cls := "NestedFoci", name := "differ", desc := "(III)I" } : Jvm.MethodName)) ∈ lw_tbl := ab_tb4 _ (List.mem_of_getElem? (i := 15) rfl)
set_option maxRecDepth 100000 in
theorem wd_766 : (Jvm.Cond.methodLink "NestedFociLaw" (79 : Nat) ({ cls := "NestedFociModel", name := "differ", desc := "(III)I" } : Jvm.MethodName)) ∈ lw_tbl := ab_tb5 _ (List.mem_of_getElem? (i := 194) rfl)
set_option maxRecDepth 100000 in
theorem wd_767 : (Jvm.Cond.instanceMethod ({ cls := "NestedFociModel", name := "differ", desc := "(III)I" } : Jvm.MethodName)) ∈ lw_tbl := ab_tb5 _ (List.mem_of_getElem? (i := 195) rfl)
set_option maxRecDepth 100000 in
theorem wd_768 : (Jvm.Cond.selects "NestedFociModel" ({ cls := "NestedFociModel", name := "differ", desc := "(III)I" } : Jvm.MethodName) ({ cls := "NestedFociModel", name := "differ", desc := "(III)I" } : Jvm.MethodName)) ∈ lw_tbl := ab_tb5 _ (List.mem_of_getElem? (i := 196) rfl)
set_option maxRecDepth 100000 in
theorem wd_769 : (Jvm.Cond.methodLink "NestedFociLaw" (80 : Nat) ({ cls := "NestedFoci", name := "fit", desc := "(III)I" } : Jvm.MethodName)) ∈ lw_tbl := ab_tb4 _ (List.mem_of_getElem? (i := 44) rfl)
set_option maxRecDepth 100000 in
theorem wd_770 : (Jvm.Cond.instanceMethod ({ cls := "NestedFoci", name := "fit", desc := "(III)I" } : Jvm.MethodName)) ∈ lw_tbl := ab_tb4 _ (List.mem_of_getElem? (i := 45) rfl)
set_option maxRecDepth 100000 in
theorem wd_771 : (Jvm.Cond.selects "NestedFoci" ({ cls := "NestedFoci", name := "fit", desc := "(III)I" } : Jvm.MethodName) ({ cls := "NestedFoci", name := "fit", desc := "(III)I" } : Jvm.MethodName)) ∈ lw_tbl := ab_tb4 _ (List.mem_of_getElem? (i := 46) rfl)
set_option maxRecDepth 100000 in
theorem wd_772 : (Jvm.Cond.methodLink "NestedFociLaw" (83 : Nat) ({ cls := "NestedFociModel", name := "fit", desc := "(III)I" } : Jvm.MethodName)) ∈ lw_tbl := ab_tb5 _ (List.mem_of_getElem? (i := 206) rfl)
set_option maxRecDepth 100000 in
theorem wd_773 : (Jvm.Cond.instanceMethod ({ cls := "NestedFociModel", name := "fit", desc := "(III)I" } : Jvm.MethodName)) ∈ lw_tbl := ab_tb5 _ (List.mem_of_getElem? (i := 207) rfl)
set_option maxRecDepth 100000 in
theorem wd_774 : (Jvm.Cond.selects "NestedFociModel" ({ cls := "NestedFociModel", name := "fit", desc := "(III)I" } : Jvm.MethodName) ({ cls := "NestedFociModel", name := "fit", desc := "(III)I" } : Jvm.MethodName)) ∈ lw_tbl := ab_tb5 _ (List.mem_of_getElem? (i := 208) rfl)
set_option maxRecDepth 100000 in
theorem wd_775 : (Jvm.Cond.methodLink "NestedFociLaw" (84 : Nat) ({ cls := "NestedFoci", name := "image", desc := "()I" } : Jvm.MethodName)) ∈ lw_tbl := ab_tb4 _ (List.mem_of_getElem? (i := 53) rfl)
set_option maxRecDepth 100000 in
theorem wd_776 : (Jvm.Cond.instanceMethod ({ cls := "NestedFoci", name := "image", desc := "()I" } : Jvm.MethodName)) ∈ lw_tbl := ab_tb4 _ (List.mem_of_getElem? (i := 54) rfl)
set_option maxRecDepth 100000 in
theorem wd_777 : (Jvm.Cond.selects "NestedFoci" ({ cls := "NestedFoci", name := "image", desc := "()I" } : Jvm.MethodName) ({ cls := "NestedFoci", name := "image", desc := "()I" } : Jvm.MethodName)) ∈ lw_tbl := ab_tb4 _ (List.mem_of_getElem? (i := 55) rfl)
set_option maxRecDepth 100000 in
theorem wd_778 : (Jvm.Cond.methodLink "NestedFociLaw" (88 : Nat) ({ cls := "NestedFociModel", name := "image", desc := "()I" } : Jvm.MethodName)) ∈ lw_tbl := ab_tb5 _ (List.mem_of_getElem? (i := 210) rfl)
set_option maxRecDepth 100000 in
theorem wd_779 : (Jvm.Cond.instanceMethod ({ cls := "NestedFociModel", name := "image", desc := "()I" } : Jvm.MethodName)) ∈ lw_tbl := ab_tb5 _ (List.mem_of_getElem? (i := 211) rfl)
set_option maxRecDepth 100000 in
theorem wd_780 : (Jvm.Cond.selects "NestedFociModel" ({ cls := "NestedFociModel", name := "image", desc := "()I" } : Jvm.MethodName) ({ cls := "NestedFociModel", name := "image", desc := "()I" } : Jvm.MethodName)) ∈ lw_tbl := ab_tb5 _ (List.mem_of_getElem? (i := 212) rfl)
set_option maxRecDepth 100000 in
theorem wd_781 : (Jvm.Cond.methodLink "NestedFociLaw" (89 : Nat) ({ cls := "NestedFoci", name := "back", desc := "()I" } : Jvm.MethodName)) ∈ lw_tbl := ab_tb4 _ (List.mem_of_getElem? (i := 61) rfl)
set_option maxRecDepth 100000 in
theorem wd_782 : (Jvm.Cond.instanceMethod ({ cls := "NestedFoci", name := "back", desc := "()I" } : Jvm.MethodName)) ∈ lw_tbl := ab_tb4 _ (List.mem_of_getElem? (i := 62) rfl)
set_option maxRecDepth 100000 in
theorem wd_783 : (Jvm.Cond.selects "NestedFoci" ({ cls := "NestedFoci", name := "back", desc := "()I" } : Jvm.MethodName) ({ cls := "NestedFoci", name := "back", desc := "()I" } : Jvm.MethodName)) ∈ lw_tbl := ab_tb4 _ (List.mem_of_getElem? (i := 63) rfl)
set_option maxRecDepth 100000 in
theorem wd_784 : (Jvm.Cond.methodLink "NestedFociLaw" (92 : Nat) ({ cls := "NestedFociModel", name := "back", desc := "()I" } : Jvm.MethodName)) ∈ lw_tbl := ab_tb5 _ (List.mem_of_getElem? (i := 218) rfl)
set_option maxRecDepth 100000 in
theorem wd_785 : (Jvm.Cond.instanceMethod ({ cls := "NestedFociModel", name := "back", desc := "()I" } : Jvm.MethodName)) ∈ lw_tbl := ab_tb5 _ (List.mem_of_getElem? (i := 219) rfl)
set_option maxRecDepth 100000 in
theorem wd_786 : (Jvm.Cond.selects "NestedFociModel" ({ cls := "NestedFociModel", name := "back", desc := "()I" } : Jvm.MethodName) ({ cls := "NestedFociModel", name := "back", desc := "()I" } : Jvm.MethodName)) ∈ lw_tbl := ab_tb5 _ (List.mem_of_getElem? (i := 220) rfl)
set_option maxRecDepth 100000 in
theorem wd_787 : (Jvm.Cond.methodLink "NestedFociLaw" (93 : Nat) ({ cls := "NestedFoci", name := "count", desc := "(I)I" } : Jvm.MethodName)) ∈ lw_tbl := ab_tb4 _ (List.mem_of_getElem? (i := 69) rfl)
set_option maxRecDepth 100000 in
theorem wd_788 : (Jvm.Cond.instanceMethod ({ cls := "NestedFoci", name := "count", desc := "(I)I" } : Jvm.MethodName)) ∈ lw_tbl := ab_tb4 _ (List.mem_of_getElem? (i := 70) rfl)
set_option maxRecDepth 100000 in
theorem wd_789 : (Jvm.Cond.selects "NestedFoci" ({ cls := "NestedFoci", name := "count", desc := "(I)I" } : Jvm.MethodName) ({ cls := "NestedFoci", name := "count", desc := "(I)I" } : Jvm.MethodName)) ∈ lw_tbl := ab_tb4 _ (List.mem_of_getElem? (i := 71) rfl)
set_option maxRecDepth 100000 in
theorem wd_790 : (Jvm.Cond.methodLink "NestedFociLaw" (96 : Nat) ({ cls := "NestedFociModel", name := "count", desc := "(I)I" } : Jvm.MethodName)) ∈ lw_tbl := ab_tb5 _ (List.mem_of_getElem? (i := 222) rfl)
set_option maxRecDepth 100000 in
theorem wd_791 : (Jvm.Cond.instanceMethod ({ cls := "NestedFociModel", name := "count", desc := "(I)I" } : Jvm.MethodName)) ∈ lw_tbl := ab_tb5 _ (List.mem_of_getElem? (i := 223) rfl)
set_option maxRecDepth 100000 in
theorem wd_792 : (Jvm.Cond.selects "NestedFociModel" ({ cls := "NestedFociModel", name := "count", desc := "(I)I" } : Jvm.MethodName) ({ cls := "NestedFociModel", name := "count", desc := "(I)I" } : Jvm.MethodName)) ∈ lw_tbl := ab_tb5 _ (List.mem_of_getElem? (i := 224) rfl)
set_option maxRecDepth 100000 in
theorem wd_793 : (Jvm.Cond.code ({ cls := "NestedFoci$Changer", name := "<init>", desc := "(LNestedFoci$Tally;)V" } : Jvm.MethodName) prog_2_method_1_code (2 : Nat) (Option.none : Option Jvm.ClassFile.FieldType)) ∈ lw_tbl := ab_tb1 _ (List.mem_of_getElem? (i := 88) rfl)
set_option maxRecDepth 100000 in
theorem wd_794 : (Jvm.Cond.code ({ cls := "NestedFoci$Changer", name := "change", desc := "(LNestedFoci$Thing;LNestedFoci$Path;IILNestedFoci$Thing;)LNestedFoci$Thing;" } : Jvm.MethodName) prog_2_method_2_code (7 : Nat) (Option.some (Jvm.ClassFile.FieldType.object "NestedFoci$Thing"))) ∈ lw_tbl := ab_tb3 _ (List.mem_of_getElem? (i := 18) rfl)
set_option maxRecDepth 100000 in
theorem wd_795 : (Jvm.Cond.code ({ cls := "NestedFoci$Changer", name := "focusCount", desc := "()I" } : Jvm.MethodName) prog_2_method_3_code (1 : Nat) (Option.some Jvm.ClassFile.FieldType.int)) ∈ lw_tbl := ab_tb3 _ (List.mem_of_getElem? (i := 110) rfl)
set_option maxRecDepth 100000 in
theorem wd_796 : (Jvm.Cond.code ({ cls := "NestedFoci$Changer", name := "changeWithin", desc := "(LNestedFoci$Thing;II)LNestedFoci$Thing;" } : Jvm.MethodName) prog_2_method_4_code (8 : Nat) (Option.some (Jvm.ClassFile.FieldType.object "NestedFoci$Thing"))) ∈ lw_tbl := ab_tb3 _ (List.mem_of_getElem? (i := 22) rfl)
set_option maxRecDepth 100000 in
theorem wd_797 : (Jvm.Cond.code ({ cls := "NestedFoci$Changer", name := "changeFocus", desc := "(LNestedFoci$Thing;)LNestedFoci$Thing;" } : Jvm.MethodName) prog_2_method_5_code (4 : Nat) (Option.some (Jvm.ClassFile.FieldType.object "NestedFoci$Thing"))) ∈ lw_tbl := ab_tb3 _ (List.mem_of_getElem? (i := 27) rfl)
set_option maxRecDepth 100000 in
theorem wd_798 : (Jvm.Cond.code ({ cls := "NestedFoci$Changer", name := "changeOrder", desc := "(LNestedFoci$Thing;)LNestedFoci$Thing;" } : Jvm.MethodName) prog_2_method_6_code (2 : Nat) (Option.some (Jvm.ClassFile.FieldType.object "NestedFoci$Thing"))) ∈ lw_tbl := ab_tb3 _ (List.mem_of_getElem? (i := 49) rfl)
set_option maxRecDepth 100000 in
theorem wd_799 : (Jvm.Cond.code ({ cls := "NestedFoci$Changer", name := "makeNumberOf", desc := "(LNestedFoci$Thing;I)LNestedFoci$Thing;" } : Jvm.MethodName) prog_2_method_7_code (3 : Nat) (Option.some (Jvm.ClassFile.FieldType.object "NestedFoci$Thing"))) ∈ lw_tbl := ab_tb3 _ (List.mem_of_getElem? (i := 31) rfl)
set_option maxRecDepth 100000 in
theorem wd_800 : (Jvm.Cond.code ({ cls := "NestedFoci$Changer", name := "make", desc := "(II[LNestedFoci$Thing;LNestedFoci$Thing;)LNestedFoci$Thing;" } : Jvm.MethodName) prog_2_method_8_code (5 : Nat) (Option.some (Jvm.ClassFile.FieldType.object "NestedFoci$Thing"))) ∈ lw_tbl := ab_tb3 _ (List.mem_of_getElem? (i := 36) rfl)
set_option maxRecDepth 100000 in
theorem wd_801 : (Jvm.Cond.code ({ cls := "NestedFoci$Changer", name := "makeAround", desc := "(LNestedFoci$Thing;[LNestedFoci$Thing;)LNestedFoci$Thing;" } : Jvm.MethodName) prog_2_method_9_code (3 : Nat) (Option.some (Jvm.ClassFile.FieldType.object "NestedFoci$Thing"))) ∈ lw_tbl := ab_tb3 _ (List.mem_of_getElem? (i := 64) rfl)
set_option maxRecDepth 100000 in
theorem wd_802 : (Jvm.Cond.code ({ cls := "NestedFoci$Changer", name := "mayMake", desc := "()Z" } : Jvm.MethodName) prog_2_method_10_code (1 : Nat) (Option.some Jvm.ClassFile.FieldType.boolean)) ∈ lw_tbl := ab_tb3 _ (List.mem_of_getElem? (i := 40) rfl)
set_option maxRecDepth 100000 in
theorem wd_803 : (Jvm.Cond.code ({ cls := "NestedFoci$Changer", name := "justOne", desc := "(LNestedFoci$Thing;)[LNestedFoci$Thing;" } : Jvm.MethodName) prog_2_method_11_code (2 : Nat) (Option.some (Jvm.ClassFile.FieldType.array (Jvm.ClassFile.FieldType.object "NestedFoci$Thing")))) ∈ lw_tbl := ab_tb3 _ (List.mem_of_getElem? (i := 45) rfl)
set_option maxRecDepth 100000 in
theorem wd_804 : (Jvm.Cond.code ({ cls := "NestedFoci$Changer", name := "reversed", desc := "(LNestedFoci$Thing;)[LNestedFoci$Thing;" } : Jvm.MethodName) prog_2_method_12_code (4 : Nat) (Option.some (Jvm.ClassFile.FieldType.array (Jvm.ClassFile.FieldType.object "NestedFoci$Thing")))) ∈ lw_tbl := ab_tb3 _ (List.mem_of_getElem? (i := 52) rfl)
set_option maxRecDepth 100000 in
theorem wd_805 : (Jvm.Cond.code ({ cls := "NestedFoci$Changer", name := "turned", desc := "(LNestedFoci$Thing;)[LNestedFoci$Thing;" } : Jvm.MethodName) prog_2_method_13_code (4 : Nat) (Option.some (Jvm.ClassFile.FieldType.array (Jvm.ClassFile.FieldType.object "NestedFoci$Thing")))) ∈ lw_tbl := ab_tb3 _ (List.mem_of_getElem? (i := 89) rfl)
set_option maxRecDepth 100000 in
theorem wd_806 : (Jvm.Cond.code ({ cls := "NestedFoci$Changer", name := "sorted", desc := "(LNestedFoci$Thing;)[LNestedFoci$Thing;" } : Jvm.MethodName) prog_2_method_14_code (5 : Nat) (Option.some (Jvm.ClassFile.FieldType.array (Jvm.ClassFile.FieldType.object "NestedFoci$Thing")))) ∈ lw_tbl := ab_tb3 _ (List.mem_of_getElem? (i := 67) rfl)
set_option maxRecDepth 100000 in
theorem wd_807 : (Jvm.Cond.code ({ cls := "NestedFoci$Difference", name := "<init>", desc := "()V" } : Jvm.MethodName) prog_3_method_1_code (1 : Nat) (Option.none : Option Jvm.ClassFile.FieldType)) ∈ lw_tbl := ab_tb1 _ (List.mem_of_getElem? (i := 134) rfl)
set_option maxRecDepth 100000 in
theorem wd_808 : (Jvm.Cond.code ({ cls := "NestedFoci$Difference", name := "find", desc := "(LNestedFoci$Thing;LNestedFoci$Thing;)V" } : Jvm.MethodName) prog_3_method_2_code (3 : Nat) (Option.none : Option Jvm.ClassFile.FieldType)) ∈ lw_tbl := ab_tb4 _ (List.mem_of_getElem? (i := 20) rfl)
set_option maxRecDepth 100000 in
theorem wd_809 : (Jvm.Cond.code ({ cls := "NestedFoci$Difference", name := "findWithin", desc := "(LNestedFoci$Thing;LNestedFoci$Thing;II)V" } : Jvm.MethodName) prog_3_method_3_code (8 : Nat) (Option.none : Option Jvm.ClassFile.FieldType)) ∈ lw_tbl := ab_tb4 _ (List.mem_of_getElem? (i := 24) rfl)
set_option maxRecDepth 100000 in
theorem wd_810 : (Jvm.Cond.code ({ cls := "NestedFoci$Difference", name := "add", desc := "(I)V" } : Jvm.MethodName) prog_3_method_4_code (2 : Nat) (Option.none : Option Jvm.ClassFile.FieldType)) ∈ lw_tbl := ab_tb4 _ (List.mem_of_getElem? (i := 33) rfl)
set_option maxRecDepth 100000 in
theorem wd_811 : (Jvm.Cond.code ({ cls := "NestedFoci$Difference", name := "size", desc := "()I" } : Jvm.MethodName) prog_3_method_5_code (1 : Nat) (Option.some Jvm.ClassFile.FieldType.int)) ∈ lw_tbl := ab_tb4 _ (List.mem_of_getElem? (i := 39) rfl)
set_option maxRecDepth 100000 in
theorem wd_812 : (Jvm.Cond.code ({ cls := "NestedFoci$Difference", name := "place", desc := "(I)I" } : Jvm.MethodName) prog_3_method_6_code (2 : Nat) (Option.some Jvm.ClassFile.FieldType.int)) ∈ lw_tbl := ab_tb4 _ (List.mem_of_getElem? (i := 43) rfl)
set_option maxRecDepth 100000 in
theorem wd_813 : (Jvm.Cond.code ({ cls := "NestedFoci$Foci", name := "<init>", desc := "()V" } : Jvm.MethodName) prog_4_method_1_code (1 : Nat) (Option.none : Option Jvm.ClassFile.FieldType)) ∈ lw_tbl := ab_tb1 _ (List.mem_of_getElem? (i := 116) rfl)
set_option maxRecDepth 100000 in
theorem wd_814 : (Jvm.Cond.code ({ cls := "NestedFoci$Foci", name := "find", desc := "(LNestedFoci$Thing;LNestedFoci$Path;)V" } : Jvm.MethodName) prog_4_method_2_code (3 : Nat) (Option.none : Option Jvm.ClassFile.FieldType)) ∈ lw_tbl := ab_tb3 _ (List.mem_of_getElem? (i := 138) rfl)
set_option maxRecDepth 100000 in
theorem wd_815 : (Jvm.Cond.code ({ cls := "NestedFoci$Foci", name := "findWithin", desc := "(LNestedFoci$Thing;LNestedFoci$Path;II)V" } : Jvm.MethodName) prog_4_method_3_code (6 : Nat) (Option.none : Option Jvm.ClassFile.FieldType)) ∈ lw_tbl := ab_tb3 _ (List.mem_of_getElem? (i := 142) rfl)
set_option maxRecDepth 100000 in
theorem wd_816 : (Jvm.Cond.code ({ cls := "NestedFoci$Foci", name := "add", desc := "(LNestedFoci$Thing;)V" } : Jvm.MethodName) prog_4_method_4_code (2 : Nat) (Option.none : Option Jvm.ClassFile.FieldType)) ∈ lw_tbl := ab_tb3 _ (List.mem_of_getElem? (i := 147) rfl)
set_option maxRecDepth 100000 in
theorem wd_817 : (Jvm.Cond.code ({ cls := "NestedFoci$Foci", name := "size", desc := "()I" } : Jvm.MethodName) prog_4_method_5_code (1 : Nat) (Option.some Jvm.ClassFile.FieldType.int)) ∈ lw_tbl := ab_tb3 _ (List.mem_of_getElem? (i := 156) rfl)
set_option maxRecDepth 100000 in
theorem wd_818 : (Jvm.Cond.code ({ cls := "NestedFoci$Foci", name := "isEmpty", desc := "()Z" } : Jvm.MethodName) prog_4_method_6_code (1 : Nat) (Option.some Jvm.ClassFile.FieldType.boolean)) ∈ lw_tbl := ab_tb3 _ (List.mem_of_getElem? (i := 196) rfl)
set_option maxRecDepth 100000 in
theorem wd_819 : (Jvm.Cond.code ({ cls := "NestedFoci$Foci", name := "at", desc := "(I)LNestedFoci$Thing;" } : Jvm.MethodName) prog_4_method_7_code (2 : Nat) (Option.some (Jvm.ClassFile.FieldType.object "NestedFoci$Thing"))) ∈ lw_tbl := ab_tb3 _ (List.mem_of_getElem? (i := 160) rfl)
set_option maxRecDepth 100000 in
theorem wd_820 : (Jvm.Cond.code ({ cls := "NestedFoci$Foci", name := "sum", desc := "()J" } : Jvm.MethodName) prog_4_method_8_code (4 : Nat) (Option.some Jvm.ClassFile.FieldType.long)) ∈ lw_tbl := ab_tb3 _ (List.mem_of_getElem? (i := 189) rfl)
set_option maxRecDepth 100000 in
theorem wd_821 : (Jvm.Cond.code ({ cls := "NestedFoci$Foci", name := "numbersWithin", desc := "(LNestedFoci$Thing;I)J" } : Jvm.MethodName) prog_4_method_9_code (5 : Nat) (Option.some Jvm.ClassFile.FieldType.long)) ∈ lw_tbl := ab_tb3 _ (List.mem_of_getElem? (i := 192) rfl)
set_option maxRecDepth 100000 in
theorem wd_822 : (Jvm.Cond.code ({ cls := "NestedFoci$Foci", name := "greatest", desc := "()I" } : Jvm.MethodName) prog_4_method_10_code (3 : Nat) (Option.some Jvm.ClassFile.FieldType.int)) ∈ lw_tbl := ab_tb3 _ (List.mem_of_getElem? (i := 200) rfl)
set_option maxRecDepth 100000 in
theorem wd_823 : (Jvm.Cond.code ({ cls := "NestedFoci$Foci", name := "least", desc := "()I" } : Jvm.MethodName) prog_4_method_11_code (3 : Nat) (Option.some Jvm.ClassFile.FieldType.int)) ∈ lw_tbl := ab_tb3 _ (List.mem_of_getElem? (i := 205) rfl)
set_option maxRecDepth 100000 in
theorem wd_824 : (Jvm.Cond.code ({ cls := "NestedFoci$Foci", name := "unlike", desc := "()I" } : Jvm.MethodName) prog_4_method_12_code (3 : Nat) (Option.some Jvm.ClassFile.FieldType.int)) ∈ lw_tbl := ab_tb3 _ (List.mem_of_getElem? (i := 209) rfl)
set_option maxRecDepth 100000 in
theorem wd_825 : (Jvm.Cond.code ({ cls := "NestedFoci$Foci", name := "isLikeOneAhead", desc := "(I)Z" } : Jvm.MethodName) prog_4_method_13_code (3 : Nat) (Option.some Jvm.ClassFile.FieldType.boolean)) ∈ lw_tbl := ab_tb3 _ (List.mem_of_getElem? (i := 213) rfl)
set_option maxRecDepth 100000 in
theorem wd_826 : (Jvm.Cond.code ({ cls := "NestedFoci$Foci", name := "height", desc := "()I" } : Jvm.MethodName) prog_4_method_14_code (3 : Nat) (Option.some Jvm.ClassFile.FieldType.int)) ∈ lw_tbl := ab_tb3 _ (List.mem_of_getElem? (i := 220) rfl)
set_option maxRecDepth 100000 in
theorem wd_827 : (Jvm.Cond.code ({ cls := "NestedFoci$Foci", name := "nodes", desc := "()I" } : Jvm.MethodName) prog_4_method_15_code (3 : Nat) (Option.some Jvm.ClassFile.FieldType.int)) ∈ lw_tbl := ab_tb3 _ (List.mem_of_getElem? (i := 225) rfl)
set_option maxRecDepth 100000 in
theorem wd_828 : (Jvm.Cond.code ({ cls := "NestedFoci$Foci", name := "areAllAlike", desc := "(LNestedFoci$Thing;)Z" } : Jvm.MethodName) prog_4_method_16_code (3 : Nat) (Option.some Jvm.ClassFile.FieldType.boolean)) ∈ lw_tbl := ab_tb4 _ (List.mem_of_getElem? (i := 51) rfl)
set_option maxRecDepth 100000 in
theorem wd_829 : (Jvm.Cond.code ({ cls := "NestedFoci$Foci", name := "sorted", desc := "(II)I" } : Jvm.MethodName) prog_4_method_17_code (5 : Nat) (Option.some Jvm.ClassFile.FieldType.int)) ∈ lw_tbl := ab_tb3 _ (List.mem_of_getElem? (i := 233) rfl)
set_option maxRecDepth 100000 in
theorem wd_830 : (Jvm.Cond.code ({ cls := "NestedFoci$Foci", name := "isAhead", desc := "(LNestedFoci$Thing;LNestedFoci$Thing;I)Z" } : Jvm.MethodName) prog_4_method_18_code (3 : Nat) (Option.some Jvm.ClassFile.FieldType.boolean)) ∈ lw_tbl := ab_tb3 _ (List.mem_of_getElem? (i := 236) rfl)
set_option maxRecDepth 100000 in
theorem wd_831 : (Jvm.Cond.code ({ cls := "NestedFoci$Parts", name := "<init>", desc := "()V" } : Jvm.MethodName) prog_5_method_1_code (1 : Nat) (Option.none : Option Jvm.ClassFile.FieldType)) ∈ lw_tbl := ab_tb2 _ (List.mem_of_getElem? (i := 84) rfl)
set_option maxRecDepth 100000 in
theorem wd_832 : (Jvm.Cond.code ({ cls := "NestedFoci$Parts", name := "add", desc := "(ILNestedFoci$Thing;)V" } : Jvm.MethodName) prog_5_method_2_code (3 : Nat) (Option.none : Option Jvm.ClassFile.FieldType)) ∈ lw_tbl := ab_tb2 _ (List.mem_of_getElem? (i := 100) rfl)
set_option maxRecDepth 100000 in
theorem wd_833 : (Jvm.Cond.code ({ cls := "NestedFoci$Parts", name := "hasKey", desc := "(I)Z" } : Jvm.MethodName) prog_5_method_3_code (3 : Nat) (Option.some Jvm.ClassFile.FieldType.boolean)) ∈ lw_tbl := ab_tb2 _ (List.mem_of_getElem? (i := 129) rfl)
set_option maxRecDepth 100000 in
theorem wd_834 : (Jvm.Cond.code ({ cls := "NestedFoci$Parts", name := "putByKey", desc := "(ILNestedFoci$Thing;)V" } : Jvm.MethodName) prog_5_method_4_code (4 : Nat) (Option.none : Option Jvm.ClassFile.FieldType)) ∈ lw_tbl := ab_tb2 _ (List.mem_of_getElem? (i := 137) rfl)
set_option maxRecDepth 100000 in
theorem wd_835 : (Jvm.Cond.code ({ cls := "NestedFoci$Parts", name := "together", desc := "(I)LNestedFoci$Thing;" } : Jvm.MethodName) prog_5_method_5_code (5 : Nat) (Option.some (Jvm.ClassFile.FieldType.object "NestedFoci$Thing"))) ∈ lw_tbl := ab_tb2 _ (List.mem_of_getElem? (i := 108) rfl)
set_option maxRecDepth 100000 in
theorem wd_836 : (Jvm.Cond.code ({ cls := "NestedFoci$Parts", name := "placeOf", desc := "(I)I" } : Jvm.MethodName) prog_5_method_6_code (3 : Nat) (Option.some Jvm.ClassFile.FieldType.int)) ∈ lw_tbl := ab_tb2 _ (List.mem_of_getElem? (i := 133) rfl)
set_option maxRecDepth 100000 in
theorem wd_837 : (Jvm.Cond.code ({ cls := "NestedFoci$Parts", name := "insert", desc := "(IILNestedFoci$Thing;)V" } : Jvm.MethodName) prog_5_method_7_code (5 : Nat) (Option.none : Option Jvm.ClassFile.FieldType)) ∈ lw_tbl := ab_tb2 _ (List.mem_of_getElem? (i := 104) rfl)
set_option maxRecDepth 100000 in
theorem wd_838 : (Jvm.Cond.code ({ cls := "NestedFoci$Path", name := "<init>", desc := "([I[I)V" } : Jvm.MethodName) prog_6_method_1_code (3 : Nat) (Option.none : Option Jvm.ClassFile.FieldType)) ∈ lw_tbl := ab_tb1 _ (List.mem_of_getElem? (i := 205) rfl)
set_option maxRecDepth 100000 in
theorem wd_839 : (Jvm.Cond.code ({ cls := "NestedFoci$Path", name := "size", desc := "()I" } : Jvm.MethodName) prog_6_method_2_code (1 : Nat) (Option.some Jvm.ClassFile.FieldType.int)) ∈ lw_tbl := ab_tb2 _ (List.mem_of_getElem? (i := 217) rfl)
set_option maxRecDepth 100000 in
theorem wd_840 : (Jvm.Cond.code ({ cls := "NestedFoci$Path", name := "goingOnBy", desc := "(LNestedFoci$Path;)LNestedFoci$Path;" } : Jvm.MethodName) prog_6_method_3_code (6 : Nat) (Option.some (Jvm.ClassFile.FieldType.object "NestedFoci$Path"))) ∈ lw_tbl := ab_tb2 _ (List.mem_of_getElem? (i := 228) rfl)
set_option maxRecDepth 100000 in
theorem wd_841 : (Jvm.Cond.code ({ cls := "NestedFoci$Path", name := "keeps", desc := "(ILNestedFoci$Thing;)Z" } : Jvm.MethodName) prog_6_method_4_code (3 : Nat) (Option.some Jvm.ClassFile.FieldType.boolean)) ∈ lw_tbl := ab_tb3 _ (List.mem_of_getElem? (i := 93) rfl)
set_option maxRecDepth 100000 in
theorem wd_842 : (Jvm.Cond.code ({ cls := "NestedFoci$Path", name := "enters", desc := "(ILNestedFoci$Thing;I)Z" } : Jvm.MethodName) prog_6_method_5_code (4 : Nat) (Option.some Jvm.ClassFile.FieldType.boolean)) ∈ lw_tbl := ab_tb3 _ (List.mem_of_getElem? (i := 97) rfl)
set_option maxRecDepth 100000 in
theorem wd_843 : (Jvm.Cond.code ({ cls := "NestedFoci$Path", name := "stepWithin", desc := "(I)I" } : Jvm.MethodName) prog_6_method_6_code (2 : Nat) (Option.some Jvm.ClassFile.FieldType.int)) ∈ lw_tbl := ab_tb3 _ (List.mem_of_getElem? (i := 102) rfl)
set_option maxRecDepth 100000 in
theorem wd_844 : (Jvm.Cond.code ({ cls := "NestedFoci$Path", name := "sign", desc := "(I)I" } : Jvm.MethodName) prog_6_method_7_code (2 : Nat) (Option.some Jvm.ClassFile.FieldType.int)) ∈ lw_tbl := ab_tb2 _ (List.mem_of_getElem? (i := 233) rfl)
set_option maxRecDepth 100000 in
theorem wd_845 : (Jvm.Cond.code ({ cls := "NestedFoci$Path", name := "word", desc := "(I)I" } : Jvm.MethodName) prog_6_method_8_code (2 : Nat) (Option.some Jvm.ClassFile.FieldType.int)) ∈ lw_tbl := ab_tb2 _ (List.mem_of_getElem? (i := 237) rfl)
set_option maxRecDepth 100000 in
theorem wd_846 : (Jvm.Cond.code ({ cls := "NestedFoci$PathReader", name := "<init>", desc := "(LNestedFoci$Tape;)V" } : Jvm.MethodName) prog_7_method_1_code (2 : Nat) (Option.none : Option Jvm.ClassFile.FieldType)) ∈ lw_tbl := ab_tb1 _ (List.mem_of_getElem? (i := 58) rfl)
set_option maxRecDepth 100000 in
theorem wd_847 : (Jvm.Cond.code ({ cls := "NestedFoci$PathReader", name := "readWhole", desc := "()LNestedFoci$Path;" } : Jvm.MethodName) prog_7_method_2_code (2 : Nat) (Option.some (Jvm.ClassFile.FieldType.object "NestedFoci$Path"))) ∈ lw_tbl := ab_tb2 _ (List.mem_of_getElem? (i := 184) rfl)
set_option maxRecDepth 100000 in
theorem wd_848 : (Jvm.Cond.code ({ cls := "NestedFoci$PathReader", name := "readStep", desc := "()I" } : Jvm.MethodName) prog_7_method_3_code (3 : Nat) (Option.some Jvm.ClassFile.FieldType.int)) ∈ lw_tbl := ab_tb2 _ (List.mem_of_getElem? (i := 192) rfl)
set_option maxRecDepth 100000 in
theorem wd_849 : (Jvm.Cond.code ({ cls := "NestedFoci$PathReader", name := "readSide", desc := "()I" } : Jvm.MethodName) prog_7_method_4_code (1 : Nat) (Option.some Jvm.ClassFile.FieldType.int)) ∈ lw_tbl := ab_tb2 _ (List.mem_of_getElem? (i := 198) rfl)
set_option maxRecDepth 100000 in
theorem wd_850 : (Jvm.Cond.code ({ cls := "NestedFoci$PathReader", name := "closed", desc := "(II)I" } : Jvm.MethodName) prog_7_method_5_code (3 : Nat) (Option.some Jvm.ClassFile.FieldType.int)) ∈ lw_tbl := ab_tb2 _ (List.mem_of_getElem? (i := 206) rfl)
set_option maxRecDepth 100000 in
theorem wd_851 : (Jvm.Cond.code ({ cls := "NestedFoci$PathReader", name := "firstOf", desc := "([II)[I" } : Jvm.MethodName) prog_7_method_6_code (4 : Nat) (Option.some (Jvm.ClassFile.FieldType.array Jvm.ClassFile.FieldType.int))) ∈ lw_tbl := ab_tb2 _ (List.mem_of_getElem? (i := 212) rfl)
set_option maxRecDepth 100000 in
theorem wd_852 : (Jvm.Cond.code ({ cls := "NestedFoci$Shelf", name := "<init>", desc := "(LNestedFoci$Thing;)V" } : Jvm.MethodName) prog_8_method_1_code (2 : Nat) (Option.none : Option Jvm.ClassFile.FieldType)) ∈ lw_tbl := ab_tb1 _ (List.mem_of_getElem? (i := 189) rfl)
set_option maxRecDepth 100000 in
theorem wd_853 : (Jvm.Cond.code ({ cls := "NestedFoci$Shelf", name := "held", desc := "()LNestedFoci$Thing;" } : Jvm.MethodName) prog_8_method_2_code (1 : Nat) (Option.some (Jvm.ClassFile.FieldType.object "NestedFoci$Thing"))) ∈ lw_tbl := ab_tb3 _ (List.mem_of_getElem? (i := 14) rfl)
set_option maxRecDepth 100000 in
theorem wd_854 : (Jvm.Cond.code ({ cls := "NestedFoci$Shelf", name := "oldCount", desc := "()I" } : Jvm.MethodName) prog_8_method_3_code (1 : Nat) (Option.some Jvm.ClassFile.FieldType.int)) ∈ lw_tbl := ab_tb3 _ (List.mem_of_getElem? (i := 168) rfl)
set_option maxRecDepth 100000 in
theorem wd_855 : (Jvm.Cond.code ({ cls := "NestedFoci$Shelf", name := "become", desc := "(LNestedFoci$Thing;)V" } : Jvm.MethodName) prog_8_method_4_code (3 : Nat) (Option.none : Option Jvm.ClassFile.FieldType)) ∈ lw_tbl := ab_tb2 _ (List.mem_of_getElem? (i := 173) rfl)
set_option maxRecDepth 100000 in
theorem wd_856 : (Jvm.Cond.code ({ cls := "NestedFoci$Shelf", name := "becomeLastOld", desc := "()V" } : Jvm.MethodName) prog_8_method_5_code (1 : Nat) (Option.none : Option Jvm.ClassFile.FieldType)) ∈ lw_tbl := ab_tb3 _ (List.mem_of_getElem? (i := 172) rfl)
set_option maxRecDepth 100000 in
theorem wd_857 : (Jvm.Cond.code ({ cls := "NestedFoci$Shelf", name := "restart", desc := "(LNestedFoci$Thing;)V" } : Jvm.MethodName) prog_8_method_6_code (2 : Nat) (Option.none : Option Jvm.ClassFile.FieldType)) ∈ lw_tbl := ab_tb4 _ (List.mem_of_getElem? (i := 68) rfl)
set_option maxRecDepth 100000 in
theorem wd_858 : (Jvm.Cond.code ({ cls := "NestedFoci$Tally", name := "<init>", desc := "()V" } : Jvm.MethodName) prog_9_method_1_code (1 : Nat) (Option.none : Option Jvm.ClassFile.FieldType)) ∈ lw_tbl := ab_tb1 _ (List.mem_of_getElem? (i := 78) rfl)
set_option maxRecDepth 100000 in
theorem wd_859 : (Jvm.Cond.code ({ cls := "NestedFoci$Tally", name := "sum", desc := "()I" } : Jvm.MethodName) prog_9_method_2_code (1 : Nat) (Option.some Jvm.ClassFile.FieldType.int)) ∈ lw_tbl := ab_tb4 _ (List.mem_of_getElem? (i := 76) rfl)
set_option maxRecDepth 100000 in
theorem wd_860 : (Jvm.Cond.code ({ cls := "NestedFoci$Tally", name := "hasRoomFor", desc := "(I)Z" } : Jvm.MethodName) prog_9_method_3_code (2 : Nat) (Option.some Jvm.ClassFile.FieldType.boolean)) ∈ lw_tbl := ab_tb3 _ (List.mem_of_getElem? (i := 118) rfl)
set_option maxRecDepth 100000 in
theorem wd_861 : (Jvm.Cond.code ({ cls := "NestedFoci$Tally", name := "adds", desc := "(I)Z" } : Jvm.MethodName) prog_9_method_4_code (2 : Nat) (Option.some Jvm.ClassFile.FieldType.boolean)) ∈ lw_tbl := ab_tb2 _ (List.mem_of_getElem? (i := 169) rfl)
set_option maxRecDepth 100000 in
theorem wd_862 : (Jvm.Cond.code ({ cls := "NestedFoci$Tape", name := "<init>", desc := "()V" } : Jvm.MethodName) prog_10_method_1_code (1 : Nat) (Option.none : Option Jvm.ClassFile.FieldType)) ∈ lw_tbl := ab_tb1 _ (List.mem_of_getElem? (i := 28) rfl)
set_option maxRecDepth 100000 in
theorem wd_863 : (Jvm.Cond.code ({ cls := "NestedFoci$Tape", name := "size", desc := "()I" } : Jvm.MethodName) prog_10_method_2_code (1 : Nat) (Option.some Jvm.ClassFile.FieldType.int)) ∈ lw_tbl := ab_tb2 _ (List.mem_of_getElem? (i := 18) rfl)
set_option maxRecDepth 100000 in
theorem wd_864 : (Jvm.Cond.code ({ cls := "NestedFoci$Tape", name := "add", desc := "(I)V" } : Jvm.MethodName) prog_10_method_3_code (2 : Nat) (Option.none : Option Jvm.ClassFile.FieldType)) ∈ lw_tbl := ab_tb2 _ (List.mem_of_getElem? (i := 22) rfl)
set_option maxRecDepth 100000 in
theorem wd_865 : (Jvm.Cond.code ({ cls := "NestedFoci$Tape", name := "clear", desc := "()V" } : Jvm.MethodName) prog_10_method_4_code (1 : Nat) (Option.none : Option Jvm.ClassFile.FieldType)) ∈ lw_tbl := ab_tb2 _ (List.mem_of_getElem? (i := 165) rfl)
set_option maxRecDepth 100000 in
theorem wd_866 : (Jvm.Cond.code ({ cls := "NestedFoci$Tape", name := "rewind", desc := "()V" } : Jvm.MethodName) prog_10_method_5_code (1 : Nat) (Option.none : Option Jvm.ClassFile.FieldType)) ∈ lw_tbl := ab_tb2 _ (List.mem_of_getElem? (i := 37) rfl)
set_option maxRecDepth 100000 in
theorem wd_867 : (Jvm.Cond.code ({ cls := "NestedFoci$Tape", name := "at", desc := "()I" } : Jvm.MethodName) prog_10_method_6_code (1 : Nat) (Option.some Jvm.ClassFile.FieldType.int)) ∈ lw_tbl := ab_tb2 _ (List.mem_of_getElem? (i := 45) rfl)
set_option maxRecDepth 100000 in
theorem wd_868 : (Jvm.Cond.code ({ cls := "NestedFoci$Tape", name := "fault", desc := "()I" } : Jvm.MethodName) prog_10_method_7_code (1 : Nat) (Option.some Jvm.ClassFile.FieldType.int)) ∈ lw_tbl := ab_tb2 _ (List.mem_of_getElem? (i := 161) rfl)
set_option maxRecDepth 100000 in
theorem wd_869 : (Jvm.Cond.code ({ cls := "NestedFoci$Tape", name := "isFaulty", desc := "()Z" } : Jvm.MethodName) prog_10_method_8_code (1 : Nat) (Option.some Jvm.ClassFile.FieldType.boolean)) ∈ lw_tbl := ab_tb2 _ (List.mem_of_getElem? (i := 76) rfl)
set_option maxRecDepth 100000 in
theorem wd_870 : (Jvm.Cond.code ({ cls := "NestedFoci$Tape", name := "isAtEnd", desc := "()Z" } : Jvm.MethodName) prog_10_method_9_code (1 : Nat) (Option.some Jvm.ClassFile.FieldType.boolean)) ∈ lw_tbl := ab_tb2 _ (List.mem_of_getElem? (i := 157) rfl)
set_option maxRecDepth 100000 in
theorem wd_871 : (Jvm.Cond.code ({ cls := "NestedFoci$Tape", name := "fail", desc := "(I)V" } : Jvm.MethodName) prog_10_method_10_code (2 : Nat) (Option.none : Option Jvm.ClassFile.FieldType)) ∈ lw_tbl := ab_tb2 _ (List.mem_of_getElem? (i := 49) rfl)
set_option maxRecDepth 100000 in
theorem wd_872 : (Jvm.Cond.code ({ cls := "NestedFoci$Tape", name := "next", desc := "()I" } : Jvm.MethodName) prog_10_method_11_code (1 : Nat) (Option.some Jvm.ClassFile.FieldType.int)) ∈ lw_tbl := ab_tb2 _ (List.mem_of_getElem? (i := 53) rfl)
set_option maxRecDepth 100000 in
theorem wd_873 : (Jvm.Cond.code ({ cls := "NestedFoci$Tape", name := "step", desc := "()V" } : Jvm.MethodName) prog_10_method_12_code (1 : Nat) (Option.none : Option Jvm.ClassFile.FieldType)) ∈ lw_tbl := ab_tb2 _ (List.mem_of_getElem? (i := 61) rfl)
set_option maxRecDepth 100000 in
theorem wd_874 : (Jvm.Cond.code ({ cls := "NestedFoci$Tape", name := "takes", desc := "(I)Z" } : Jvm.MethodName) prog_10_method_13_code (2 : Nat) (Option.some Jvm.ClassFile.FieldType.boolean)) ∈ lw_tbl := ab_tb2 _ (List.mem_of_getElem? (i := 69) rfl)
set_option maxRecDepth 100000 in
theorem wd_875 : (Jvm.Cond.code ({ cls := "NestedFoci$Tape", name := "needs", desc := "(I)V" } : Jvm.MethodName) prog_10_method_14_code (2 : Nat) (Option.none : Option Jvm.ClassFile.FieldType)) ∈ lw_tbl := ab_tb2 _ (List.mem_of_getElem? (i := 65) rfl)
set_option maxRecDepth 100000 in
theorem wd_876 : (Jvm.Cond.code ({ cls := "NestedFoci$Tape", name := "digits", desc := "(I)I" } : Jvm.MethodName) prog_10_method_15_code (4 : Nat) (Option.some Jvm.ClassFile.FieldType.int)) ∈ lw_tbl := ab_tb2 _ (List.mem_of_getElem? (i := 146) rfl)
set_option maxRecDepth 100000 in
theorem wd_877 : (Jvm.Cond.code ({ cls := "NestedFoci$Tape", name := "signedNumber", desc := "()I" } : Jvm.MethodName) prog_10_method_16_code (3 : Nat) (Option.some Jvm.ClassFile.FieldType.int)) ∈ lw_tbl := ab_tb2 _ (List.mem_of_getElem? (i := 152) rfl)
set_option maxRecDepth 100000 in
theorem wd_878 : (Jvm.Cond.code ({ cls := "NestedFoci$Tape", name := "letters", desc := "()I" } : Jvm.MethodName) prog_10_method_17_code (3 : Nat) (Option.some Jvm.ClassFile.FieldType.int)) ∈ lw_tbl := ab_tb2 _ (List.mem_of_getElem? (i := 125) rfl)
set_option maxRecDepth 100000 in
theorem wd_879 : (Jvm.Cond.code ({ cls := "NestedFoci$Thing", name := "<init>", desc := "(II[I[LNestedFoci$Thing;)V" } : Jvm.MethodName) prog_11_method_1_code (11 : Nat) (Option.none : Option Jvm.ClassFile.FieldType)) ∈ lw_tbl := ab_tb1 _ (List.mem_of_getElem? (i := 148) rfl)
set_option maxRecDepth 100000 in
theorem wd_880 : (Jvm.Cond.code ({ cls := "NestedFoci$Thing", name := "size", desc := "()I" } : Jvm.MethodName) prog_11_method_2_code (1 : Nat) (Option.some Jvm.ClassFile.FieldType.int)) ∈ lw_tbl := ab_tb3 _ (List.mem_of_getElem? (i := 56) rfl)
set_option maxRecDepth 100000 in
theorem wd_881 : (Jvm.Cond.code ({ cls := "NestedFoci$Thing", name := "part", desc := "(I)LNestedFoci$Thing;" } : Jvm.MethodName) prog_11_method_3_code (2 : Nat) (Option.some (Jvm.ClassFile.FieldType.object "NestedFoci$Thing"))) ∈ lw_tbl := ab_tb3 _ (List.mem_of_getElem? (i := 60) rfl)
set_option maxRecDepth 100000 in
theorem wd_882 : (Jvm.Cond.code ({ cls := "NestedFoci$Thing", name := "copyOfParts", desc := "()[LNestedFoci$Thing;" } : Jvm.MethodName) prog_11_method_4_code (3 : Nat) (Option.some (Jvm.ClassFile.FieldType.array (Jvm.ClassFile.FieldType.object "NestedFoci$Thing")))) ∈ lw_tbl := ab_tb3 _ (List.mem_of_getElem? (i := 71) rfl)
set_option maxRecDepth 100000 in
theorem wd_883 : (Jvm.Cond.code ({ cls := "NestedFoci$Thing", name := "letters", desc := "(I)I" } : Jvm.MethodName) prog_11_method_5_code (2 : Nat) (Option.some Jvm.ClassFile.FieldType.int)) ∈ lw_tbl := ab_tb3 _ (List.mem_of_getElem? (i := 84) rfl)
set_option maxRecDepth 100000 in
theorem wd_884 : (Jvm.Cond.code ({ cls := "NestedFoci$Thing", name := "isTooMuch", desc := "()Z" } : Jvm.MethodName) prog_11_method_6_code (1 : Nat) (Option.some Jvm.ClassFile.FieldType.boolean)) ∈ lw_tbl := ab_tb3 _ (List.mem_of_getElem? (i := 106) rfl)
set_option maxRecDepth 100000 in
theorem wd_885 : (Jvm.Cond.code ({ cls := "NestedFoci$Thing", name := "isFramedLike", desc := "(LNestedFoci$Thing;)Z" } : Jvm.MethodName) prog_11_method_7_code (3 : Nat) (Option.some Jvm.ClassFile.FieldType.boolean)) ∈ lw_tbl := ab_tb4 _ (List.mem_of_getElem? (i := 29) rfl)
set_option maxRecDepth 100000 in
theorem wd_886 : (Jvm.Cond.code ({ cls := "NestedFoci$Thing", name := "areAlike", desc := "(LNestedFoci$Thing;LNestedFoci$Thing;)Z" } : Jvm.MethodName) prog_11_method_8_code (2 : Nat) (Option.some Jvm.ClassFile.FieldType.boolean)) ∈ lw_tbl := ab_tb3 _ (List.mem_of_getElem? (i := 216) rfl)
set_option maxRecDepth 100000 in
theorem wd_887 : (Jvm.Cond.code ({ cls := "NestedFoci$Thing", name := "compare", desc := "(LNestedFoci$Thing;LNestedFoci$Thing;I)I" } : Jvm.MethodName) prog_11_method_9_code (6 : Nat) (Option.some Jvm.ClassFile.FieldType.int)) ∈ lw_tbl := ab_tb3 _ (List.mem_of_getElem? (i := 75) rfl)
set_option maxRecDepth 100000 in
theorem wd_888 : (Jvm.Cond.code ({ cls := "NestedFoci$Thing", name := "holds", desc := "(LNestedFoci$Thing;LNestedFoci$Thing;I)Z" } : Jvm.MethodName) prog_11_method_10_code (4 : Nat) (Option.some Jvm.ClassFile.FieldType.boolean)) ∈ lw_tbl := ab_tb4 _ (List.mem_of_getElem? (i := 11) rfl)
set_option maxRecDepth 100000 in
theorem wd_889 : (Jvm.Cond.code ({ cls := "NestedFoci$ThingReader", name := "<init>", desc := "(LNestedFoci$Tape;)V" } : Jvm.MethodName) prog_12_method_1_code (2 : Nat) (Option.none : Option Jvm.ClassFile.FieldType)) ∈ lw_tbl := ab_tb1 _ (List.mem_of_getElem? (i := 48) rfl)
set_option maxRecDepth 100000 in
theorem wd_890 : (Jvm.Cond.code ({ cls := "NestedFoci$ThingReader", name := "readWhole", desc := "()LNestedFoci$Thing;" } : Jvm.MethodName) prog_12_method_2_code (2 : Nat) (Option.some (Jvm.ClassFile.FieldType.object "NestedFoci$Thing"))) ∈ lw_tbl := ab_tb2 _ (List.mem_of_getElem? (i := 33) rfl)
set_option maxRecDepth 100000 in
theorem wd_891 : (Jvm.Cond.code ({ cls := "NestedFoci$ThingReader", name := "readOne", desc := "(I)LNestedFoci$Thing;" } : Jvm.MethodName) prog_12_method_3_code (3 : Nat) (Option.some (Jvm.ClassFile.FieldType.object "NestedFoci$Thing"))) ∈ lw_tbl := ab_tb2 _ (List.mem_of_getElem? (i := 41) rfl)
set_option maxRecDepth 100000 in
theorem wd_892 : (Jvm.Cond.code ({ cls := "NestedFoci$ThingReader", name := "readPair", desc := "(I)LNestedFoci$Thing;" } : Jvm.MethodName) prog_12_method_4_code (4 : Nat) (Option.some (Jvm.ClassFile.FieldType.object "NestedFoci$Thing"))) ∈ lw_tbl := ab_tb2 _ (List.mem_of_getElem? (i := 57) rfl)
set_option maxRecDepth 100000 in
theorem wd_893 : (Jvm.Cond.code ({ cls := "NestedFoci$ThingReader", name := "readTagged", desc := "(I)LNestedFoci$Thing;" } : Jvm.MethodName) prog_12_method_5_code (5 : Nat) (Option.some (Jvm.ClassFile.FieldType.object "NestedFoci$Thing"))) ∈ lw_tbl := ab_tb2 _ (List.mem_of_getElem? (i := 142) rfl)
set_option maxRecDepth 100000 in
theorem wd_894 : (Jvm.Cond.code ({ cls := "NestedFoci$ThingReader", name := "readMany", desc := "(III)LNestedFoci$Thing;" } : Jvm.MethodName) prog_12_method_6_code (8 : Nat) (Option.some (Jvm.ClassFile.FieldType.object "NestedFoci$Thing"))) ∈ lw_tbl := ab_tb2 _ (List.mem_of_getElem? (i := 113) rfl)
set_option maxRecDepth 100000 in
theorem wd_895 : (Jvm.Cond.code ({ cls := "NestedFoci$ThingReader", name := "readNewKey", desc := "(LNestedFoci$Parts;)I" } : Jvm.MethodName) prog_12_method_7_code (4 : Nat) (Option.some Jvm.ClassFile.FieldType.int)) ∈ lw_tbl := ab_tb2 _ (List.mem_of_getElem? (i := 121) rfl)
set_option maxRecDepth 100000 in
theorem wd_896 : (Jvm.Cond.code ({ cls := "NestedFoci", name := "<init>", desc := "()V" } : Jvm.MethodName) prog_1_method_1_code (2 : Nat) (Option.none : Option Jvm.ClassFile.FieldType)) ∈ lw_tbl := ab_tb1 _ (List.mem_of_getElem? (i := 20) rfl)
set_option maxRecDepth 100000 in
theorem wd_897 : (Jvm.Cond.code ({ cls := "NestedFoci", name := "feed", desc := "(II)I" } : Jvm.MethodName) prog_1_method_2_code (4 : Nat) (Option.some Jvm.ClassFile.FieldType.int)) ∈ lw_tbl := ab_tb2 _ (List.mem_of_getElem? (i := 14) rfl)
set_option maxRecDepth 100000 in
theorem wd_898 : (Jvm.Cond.code ({ cls := "NestedFoci", name := "thing", desc := "(I)I" } : Jvm.MethodName) prog_1_method_3_code (4 : Nat) (Option.some Jvm.ClassFile.FieldType.int)) ∈ lw_tbl := ab_tb2 _ (List.mem_of_getElem? (i := 26) rfl)
set_option maxRecDepth 100000 in
theorem wd_899 : (Jvm.Cond.code ({ cls := "NestedFoci", name := "path", desc := "(I)I" } : Jvm.MethodName) prog_1_method_4_code (4 : Nat) (Option.some Jvm.ClassFile.FieldType.int)) ∈ lw_tbl := ab_tb2 _ (List.mem_of_getElem? (i := 177) rfl)
set_option maxRecDepth 100000 in
theorem wd_900 : (Jvm.Cond.code ({ cls := "NestedFoci", name := "join", desc := "(II)I" } : Jvm.MethodName) prog_1_method_5_code (3 : Nat) (Option.some Jvm.ClassFile.FieldType.int)) ∈ lw_tbl := ab_tb2 _ (List.mem_of_getElem? (i := 224) rfl)
set_option maxRecDepth 100000 in
theorem wd_901 : (Jvm.Cond.code ({ cls := "NestedFoci", name := "over", desc := "(IIIII)I" } : Jvm.MethodName) prog_1_method_6_code (8 : Nat) (Option.some Jvm.ClassFile.FieldType.int)) ∈ lw_tbl := ab_tb3 _ (List.mem_of_getElem? (i := 3) rfl)
set_option maxRecDepth 100000 in
theorem wd_902 : (Jvm.Cond.code ({ cls := "NestedFoci", name := "put", desc := "(IIIII)I" } : Jvm.MethodName) prog_1_method_7_code (8 : Nat) (Option.some Jvm.ClassFile.FieldType.int)) ∈ lw_tbl := ab_tb3 _ (List.mem_of_getElem? (i := 114) rfl)
set_option maxRecDepth 100000 in
theorem wd_903 : (Jvm.Cond.code ({ cls := "NestedFoci", name := "take", desc := "(IIII)I" } : Jvm.MethodName) prog_1_method_8_code (6 : Nat) (Option.some Jvm.ClassFile.FieldType.int)) ∈ lw_tbl := ab_tb3 _ (List.mem_of_getElem? (i := 130) rfl)
set_option maxRecDepth 100000 in
theorem wd_904 : (Jvm.Cond.code ({ cls := "NestedFoci", name := "undo", desc := "(I)I" } : Jvm.MethodName) prog_1_method_9_code (2 : Nat) (Option.some Jvm.ClassFile.FieldType.int)) ∈ lw_tbl := ab_tb3 _ (List.mem_of_getElem? (i := 164) rfl)
set_option maxRecDepth 100000 in
theorem wd_905 : (Jvm.Cond.code ({ cls := "NestedFoci", name := "look", desc := "(IIII)J" } : Jvm.MethodName) prog_1_method_10_code (6 : Nat) (Option.some Jvm.ClassFile.FieldType.long)) ∈ lw_tbl := ab_tb3 _ (List.mem_of_getElem? (i := 176) rfl)
set_option maxRecDepth 100000 in
theorem wd_906 : (Jvm.Cond.code ({ cls := "NestedFoci", name := "key", desc := "(IIII)I" } : Jvm.MethodName) prog_1_method_11_code (6 : Nat) (Option.some Jvm.ClassFile.FieldType.int)) ∈ lw_tbl := ab_tb3 _ (List.mem_of_getElem? (i := 181) rfl)
set_option maxRecDepth 100000 in
theorem wd_907 : (Jvm.Cond.code ({ cls := "NestedFoci", name := "fold", desc := "(III)J" } : Jvm.MethodName) prog_1_method_12_code (4 : Nat) (Option.some Jvm.ClassFile.FieldType.long)) ∈ lw_tbl := ab_tb3 _ (List.mem_of_getElem? (i := 185) rfl)
set_option maxRecDepth 100000 in
theorem wd_908 : (Jvm.Cond.code ({ cls := "NestedFoci", name := "best", desc := "(IIII)I" } : Jvm.MethodName) prog_1_method_13_code (5 : Nat) (Option.some Jvm.ClassFile.FieldType.int)) ∈ lw_tbl := ab_tb3 _ (List.mem_of_getElem? (i := 229) rfl)
set_option maxRecDepth 100000 in
theorem wd_909 : (Jvm.Cond.code ({ cls := "NestedFoci", name := "order", desc := "(II)I" } : Jvm.MethodName) prog_1_method_14_code (4 : Nat) (Option.some Jvm.ClassFile.FieldType.int)) ∈ lw_tbl := ab_tb4 _ (List.mem_of_getElem? (i := 0) rfl)
set_option maxRecDepth 100000 in
theorem wd_910 : (Jvm.Cond.code ({ cls := "NestedFoci", name := "shared", desc := "(II)I" } : Jvm.MethodName) prog_1_method_15_code (3 : Nat) (Option.some Jvm.ClassFile.FieldType.int)) ∈ lw_tbl := ab_tb4 _ (List.mem_of_getElem? (i := 5) rfl)
set_option maxRecDepth 100000 in
theorem wd_911 : (Jvm.Cond.code ({ cls := "NestedFoci", name := "differ", desc := "(III)I" } : Jvm.MethodName) prog_1_method_16_code (4 : Nat) (Option.some Jvm.ClassFile.FieldType.int)) ∈ lw_tbl := ab_tb4 _ (List.mem_of_getElem? (i := 16) rfl)
set_option maxRecDepth 100000 in
theorem wd_912 : (Jvm.Cond.code ({ cls := "NestedFoci", name := "fit", desc := "(III)I" } : Jvm.MethodName) prog_1_method_17_code (9 : Nat) (Option.some Jvm.ClassFile.FieldType.int)) ∈ lw_tbl := ab_tb4 _ (List.mem_of_getElem? (i := 47) rfl)
set_option maxRecDepth 100000 in
theorem wd_913 : (Jvm.Cond.code ({ cls := "NestedFoci", name := "image", desc := "()I" } : Jvm.MethodName) prog_1_method_18_code (2 : Nat) (Option.some Jvm.ClassFile.FieldType.int)) ∈ lw_tbl := ab_tb4 _ (List.mem_of_getElem? (i := 56) rfl)
set_option maxRecDepth 100000 in
theorem wd_914 : (Jvm.Cond.code ({ cls := "NestedFoci", name := "back", desc := "()I" } : Jvm.MethodName) prog_1_method_19_code (2 : Nat) (Option.some Jvm.ClassFile.FieldType.int)) ∈ lw_tbl := ab_tb4 _ (List.mem_of_getElem? (i := 64) rfl)
set_option maxRecDepth 100000 in
theorem wd_915 : (Jvm.Cond.code ({ cls := "NestedFoci", name := "count", desc := "(I)I" } : Jvm.MethodName) prog_1_method_20_code (2 : Nat) (Option.some Jvm.ClassFile.FieldType.int)) ∈ lw_tbl := ab_tb4 _ (List.mem_of_getElem? (i := 72) rfl)
set_option maxRecDepth 100000 in
theorem wd_916 : (Jvm.Cond.code ({ cls := "NestedFoci", name := "isShelf", desc := "(I)Z" } : Jvm.MethodName) prog_1_method_21_code (1 : Nat) (Option.some Jvm.ClassFile.FieldType.boolean)) ∈ lw_tbl := ab_tb2 _ (List.mem_of_getElem? (i := 29) rfl)
set_option maxRecDepth 100000 in
theorem wd_917 : (Jvm.Cond.code ({ cls := "NestedFoci", name := "isPath", desc := "(I)Z" } : Jvm.MethodName) prog_1_method_22_code (1 : Nat) (Option.some Jvm.ClassFile.FieldType.boolean)) ∈ lw_tbl := ab_tb2 _ (List.mem_of_getElem? (i := 180) rfl)
set_option maxRecDepth 100000 in
theorem wd_918 : (Jvm.Cond.code ({ cls := "NestedFoci", name := "isHow", desc := "(II)Z" } : Jvm.MethodName) prog_1_method_23_code (2 : Nat) (Option.some Jvm.ClassFile.FieldType.boolean)) ∈ lw_tbl := ab_tb3 _ (List.mem_of_getElem? (i := 6) rfl)
set_option maxRecDepth 100000 in
theorem wd_919 : (Jvm.Cond.code ({ cls := "NestedFoci", name := "held", desc := "(I)LNestedFoci$Thing;" } : Jvm.MethodName) prog_1_method_24_code (2 : Nat) (Option.some (Jvm.ClassFile.FieldType.object "NestedFoci$Thing"))) ∈ lw_tbl := ab_tb3 _ (List.mem_of_getElem? (i := 10) rfl)
set_option maxRecDepth 100000 in
theorem wd_920 : (Jvm.Cond.code ({ cls := "NestedFoci", name := "focusAt", desc := "(III)LNestedFoci$Thing;" } : Jvm.MethodName) prog_1_method_25_code (4 : Nat) (Option.some (Jvm.ClassFile.FieldType.object "NestedFoci$Thing"))) ∈ lw_tbl := ab_tb3 _ (List.mem_of_getElem? (i := 134) rfl)
set_option maxRecDepth 100000 in
theorem wd_921 : (Jvm.Cond.code ({ cls := "NestedFoci", name := "allNodes", desc := "()I" } : Jvm.MethodName) prog_1_method_26_code (3 : Nat) (Option.some Jvm.ClassFile.FieldType.int)) ∈ lw_tbl := ab_tb4 _ (List.mem_of_getElem? (i := 60) rfl)
set_option maxRecDepth 100000 in
theorem wd_922 : (Jvm.Cond.code ({ cls := "NestedFoci", name := "ofTwo", desc := "(ILNestedFoci$Thing;LNestedFoci$Thing;)LNestedFoci$Thing;" } : Jvm.MethodName) prog_1_method_27_code (4 : Nat) (Option.some (Jvm.ClassFile.FieldType.object "NestedFoci$Thing"))) ∈ lw_tbl := ab_tb2 _ (List.mem_of_getElem? (i := 79) rfl)
set_option maxRecDepth 100000 in
theorem wd_923 : (Jvm.Cond.code ({ cls := "NestedFoci", name := "withKey", desc := "(LNestedFoci$Thing;ILNestedFoci$Thing;)LNestedFoci$Thing;" } : Jvm.MethodName) prog_1_method_28_code (5 : Nat) (Option.some (Jvm.ClassFile.FieldType.object "NestedFoci$Thing"))) ∈ lw_tbl := ab_tb3 _ (List.mem_of_getElem? (i := 121) rfl)
set_option maxRecDepth 100000 in
theorem wd_924 : (Jvm.Cond.code ({ cls := "NestedFoci", name := "sharedNodes", desc := "(LNestedFoci$Thing;LNestedFoci$Thing;I)I" } : Jvm.MethodName) prog_1_method_29_code (5 : Nat) (Option.some Jvm.ClassFile.FieldType.int)) ∈ lw_tbl := ab_tb4 _ (List.mem_of_getElem? (i := 8) rfl)
set_option maxRecDepth 100000 in
theorem wd_925 : (Jvm.Cond.code ({ cls := "NestedFociModel", name := "<init>", desc := "()V" } : Jvm.MethodName) prog_14_method_1_code (2 : Nat) (Option.none : Option Jvm.ClassFile.FieldType)) ∈ lw_tbl := ab_tb4 _ (List.mem_of_getElem? (i := 81) rfl)
set_option maxRecDepth 100000 in
theorem wd_926 : (Jvm.Cond.code ({ cls := "NestedFociModel", name := "in", desc := "(III)Z" } : Jvm.MethodName) prog_14_method_3_code (3 : Nat) (Option.some Jvm.ClassFile.FieldType.boolean)) ∈ lw_tbl := ab_tb4 _ (List.mem_of_getElem? (i := 226) rfl)
set_option maxRecDepth 100000 in
theorem wd_927 : (Jvm.Cond.code ({ cls := "NestedFociModel", name := "isShelf", desc := "(I)Z" } : Jvm.MethodName) prog_14_method_4_code (1 : Nat) (Option.some Jvm.ClassFile.FieldType.boolean)) ∈ lw_tbl := ab_tb4 _ (List.mem_of_getElem? (i := 233) rfl)
set_option maxRecDepth 100000 in
theorem wd_928 : (Jvm.Cond.code ({ cls := "NestedFociModel", name := "isPath", desc := "(I)Z" } : Jvm.MethodName) prog_14_method_5_code (1 : Nat) (Option.some Jvm.ClassFile.FieldType.boolean)) ∈ lw_tbl := ab_tb5 _ (List.mem_of_getElem? (i := 60) rfl)
set_option maxRecDepth 100000 in
theorem wd_929 : (Jvm.Cond.code ({ cls := "NestedFociModel", name := "begins", desc := "(III)I" } : Jvm.MethodName) prog_14_method_6_code (5 : Nat) (Option.some Jvm.ClassFile.FieldType.int)) ∈ lw_tbl := ab_tb4 _ (List.mem_of_getElem? (i := 91) rfl)
set_option maxRecDepth 100000 in
theorem wd_930 : (Jvm.Cond.code ({ cls := "NestedFociModel", name := "ends", desc := "(I)I" } : Jvm.MethodName) prog_14_method_7_code (6 : Nat) (Option.some Jvm.ClassFile.FieldType.int)) ∈ lw_tbl := ab_tb4 _ (List.mem_of_getElem? (i := 95) rfl)
set_option maxRecDepth 100000 in
theorem wd_931 : (Jvm.Cond.code ({ cls := "NestedFociModel", name := "number", desc := "(I)I" } : Jvm.MethodName) prog_14_method_8_code (2 : Nat) (Option.some Jvm.ClassFile.FieldType.int)) ∈ lw_tbl := ab_tb4 _ (List.mem_of_getElem? (i := 87) rfl)
set_option maxRecDepth 100000 in
theorem wd_932 : (Jvm.Cond.code ({ cls := "NestedFociModel", name := "isFull", desc := "(I)Z" } : Jvm.MethodName) prog_14_method_9_code (2 : Nat) (Option.some Jvm.ClassFile.FieldType.boolean)) ∈ lw_tbl := ab_tb5 _ (List.mem_of_getElem? (i := 124) rfl)
set_option maxRecDepth 100000 in
theorem wd_933 : (Jvm.Cond.code ({ cls := "NestedFociModel", name := "compared", desc := "(II)I" } : Jvm.MethodName) prog_14_method_10_code (5 : Nat) (Option.some Jvm.ClassFile.FieldType.int)) ∈ lw_tbl := ab_tb5 _ (List.mem_of_getElem? (i := 108) rfl)
set_option maxRecDepth 100000 in
theorem wd_934 : (Jvm.Cond.code ({ cls := "NestedFociModel", name := "becomes", desc := "(II)V" } : Jvm.MethodName) prog_14_method_11_code (4 : Nat) (Option.none : Option Jvm.ClassFile.FieldType)) ∈ lw_tbl := ab_tb5 _ (List.mem_of_getElem? (i := 53) rfl)
set_option maxRecDepth 100000 in
theorem wd_935 : (Jvm.Cond.code ({ cls := "NestedFociModel", name := "feed", desc := "(II)I" } : Jvm.MethodName) prog_14_method_12_code (4 : Nat) (Option.some Jvm.ClassFile.FieldType.int)) ∈ lw_tbl := ab_tb4 _ (List.mem_of_getElem? (i := 223) rfl)
set_option maxRecDepth 100000 in
theorem wd_936 : (Jvm.Cond.code ({ cls := "NestedFociModel", name := "here", desc := "()I" } : Jvm.MethodName) prog_14_method_13_code (1 : Nat) (Option.some Jvm.ClassFile.FieldType.int)) ∈ lw_tbl := ab_tb5 _ (List.mem_of_getElem? (i := 1) rfl)
set_option maxRecDepth 100000 in
theorem wd_937 : (Jvm.Cond.code ({ cls := "NestedFociModel", name := "fails", desc := "(I)V" } : Jvm.MethodName) prog_14_method_14_code (2 : Nat) (Option.none : Option Jvm.ClassFile.FieldType)) ∈ lw_tbl := ab_tb5 _ (List.mem_of_getElem? (i := 9) rfl)
set_option maxRecDepth 100000 in
theorem wd_938 : (Jvm.Cond.code ({ cls := "NestedFociModel", name := "isFault", desc := "()Z" } : Jvm.MethodName) prog_14_method_15_code (1 : Nat) (Option.some Jvm.ClassFile.FieldType.boolean)) ∈ lw_tbl := ab_tb5 _ (List.mem_of_getElem? (i := 5) rfl)
set_option maxRecDepth 100000 in
theorem wd_939 : (Jvm.Cond.code ({ cls := "NestedFociModel", name := "one", desc := "(II)I" } : Jvm.MethodName) prog_14_method_16_code (4 : Nat) (Option.some Jvm.ClassFile.FieldType.int)) ∈ lw_tbl := ab_tb5 _ (List.mem_of_getElem? (i := 17) rfl)
set_option maxRecDepth 100000 in
theorem wd_940 : (Jvm.Cond.code ({ cls := "NestedFociModel", name := "isHere", desc := "(I)Z" } : Jvm.MethodName) prog_14_method_17_code (2 : Nat) (Option.some Jvm.ClassFile.FieldType.boolean)) ∈ lw_tbl := ab_tb5 _ (List.mem_of_getElem? (i := 25) rfl)
set_option maxRecDepth 100000 in
theorem wd_941 : (Jvm.Cond.code ({ cls := "NestedFociModel", name := "digits", desc := "(I)I" } : Jvm.MethodName) prog_14_method_18_code (4 : Nat) (Option.some Jvm.ClassFile.FieldType.int)) ∈ lw_tbl := ab_tb5 _ (List.mem_of_getElem? (i := 49) rfl)
set_option maxRecDepth 100000 in
theorem wd_942 : (Jvm.Cond.code ({ cls := "NestedFociModel", name := "signed", desc := "()I" } : Jvm.MethodName) prog_14_method_19_code (1 : Nat) (Option.some Jvm.ClassFile.FieldType.int)) ∈ lw_tbl := ab_tb5 _ (List.mem_of_getElem? (i := 45) rfl)
set_option maxRecDepth 100000 in
theorem wd_943 : (Jvm.Cond.code ({ cls := "NestedFociModel", name := "letters", desc := "()I" } : Jvm.MethodName) prog_14_method_20_code (3 : Nat) (Option.some Jvm.ClassFile.FieldType.int)) ∈ lw_tbl := ab_tb5 _ (List.mem_of_getElem? (i := 33) rfl)
set_option maxRecDepth 100000 in
theorem wd_944 : (Jvm.Cond.code ({ cls := "NestedFociModel", name := "adds", desc := "(III)V" } : Jvm.MethodName) prog_14_method_21_code (4 : Nat) (Option.none : Option Jvm.ClassFile.FieldType)) ∈ lw_tbl := ab_tb5 _ (List.mem_of_getElem? (i := 13) rfl)
set_option maxRecDepth 100000 in
theorem wd_945 : (Jvm.Cond.code ({ cls := "NestedFociModel", name := "puts", desc := "(III)V" } : Jvm.MethodName) prog_14_method_22_code (6 : Nat) (Option.none : Option Jvm.ClassFile.FieldType)) ∈ lw_tbl := ab_tb5 _ (List.mem_of_getElem? (i := 41) rfl)
set_option maxRecDepth 100000 in
theorem wd_946 : (Jvm.Cond.code ({ cls := "NestedFociModel", name := "hasKey", desc := "(II)Z" } : Jvm.MethodName) prog_14_method_23_code (5 : Nat) (Option.some Jvm.ClassFile.FieldType.boolean)) ∈ lw_tbl := ab_tb5 _ (List.mem_of_getElem? (i := 37) rfl)
set_option maxRecDepth 100000 in
theorem wd_947 : (Jvm.Cond.code ({ cls := "NestedFociModel", name := "readsEntry", desc := "(II)I" } : Jvm.MethodName) prog_14_method_24_code (6 : Nat) (Option.some Jvm.ClassFile.FieldType.int)) ∈ lw_tbl := ab_tb5 _ (List.mem_of_getElem? (i := 29) rfl)
set_option maxRecDepth 100000 in
theorem wd_948 : (Jvm.Cond.code ({ cls := "NestedFociModel", name := "readsAll", desc := "(III)V" } : Jvm.MethodName) prog_14_method_25_code (5 : Nat) (Option.none : Option Jvm.ClassFile.FieldType)) ∈ lw_tbl := ab_tb5 _ (List.mem_of_getElem? (i := 21) rfl)
set_option maxRecDepth 100000 in
theorem wd_949 : (Jvm.Cond.code ({ cls := "NestedFociModel", name := "reads", desc := "(I)I" } : Jvm.MethodName) prog_14_method_26_code (4 : Nat) (Option.some Jvm.ClassFile.FieldType.int)) ∈ lw_tbl := ab_tb4 _ (List.mem_of_getElem? (i := 237) rfl)
set_option maxRecDepth 100000 in
theorem wd_950 : (Jvm.Cond.code ({ cls := "NestedFociModel", name := "thing", desc := "(I)I" } : Jvm.MethodName) prog_14_method_27_code (4 : Nat) (Option.some Jvm.ClassFile.FieldType.int)) ∈ lw_tbl := ab_tb4 _ (List.mem_of_getElem? (i := 230) rfl)
set_option maxRecDepth 100000 in
theorem wd_951 : (Jvm.Cond.code ({ cls := "NestedFociModel", name := "readsStep", desc := "()V" } : Jvm.MethodName) prog_14_method_28_code (2 : Nat) (Option.none : Option Jvm.ClassFile.FieldType)) ∈ lw_tbl := ab_tb5 _ (List.mem_of_getElem? (i := 64) rfl)
set_option maxRecDepth 100000 in
theorem wd_952 : (Jvm.Cond.code ({ cls := "NestedFociModel", name := "path", desc := "(I)I" } : Jvm.MethodName) prog_14_method_29_code (4 : Nat) (Option.some Jvm.ClassFile.FieldType.int)) ∈ lw_tbl := ab_tb5 _ (List.mem_of_getElem? (i := 57) rfl)
set_option maxRecDepth 100000 in
theorem wd_953 : (Jvm.Cond.code ({ cls := "NestedFociModel", name := "join", desc := "(II)I" } : Jvm.MethodName) prog_14_method_30_code (5 : Nat) (Option.some Jvm.ClassFile.FieldType.int)) ∈ lw_tbl := ab_tb5 _ (List.mem_of_getElem? (i := 68) rfl)
set_option maxRecDepth 100000 in
theorem wd_954 : (Jvm.Cond.code ({ cls := "NestedFociModel", name := "isItself", desc := "(II)Z" } : Jvm.MethodName) prog_14_method_31_code (4 : Nat) (Option.some Jvm.ClassFile.FieldType.boolean)) ∈ lw_tbl := ab_tb5 _ (List.mem_of_getElem? (i := 112) rfl)
set_option maxRecDepth 100000 in
theorem wd_955 : (Jvm.Cond.code ({ cls := "NestedFociModel", name := "isPart", desc := "(III)Z" } : Jvm.MethodName) prog_14_method_32_code (5 : Nat) (Option.some Jvm.ClassFile.FieldType.boolean)) ∈ lw_tbl := ab_tb5 _ (List.mem_of_getElem? (i := 116) rfl)
set_option maxRecDepth 100000 in
theorem wd_956 : (Jvm.Cond.code ({ cls := "NestedFociModel", name := "nextStep", desc := "(I)I" } : Jvm.MethodName) prog_14_method_33_code (2 : Nat) (Option.some Jvm.ClassFile.FieldType.int)) ∈ lw_tbl := ab_tb5 _ (List.mem_of_getElem? (i := 120) rfl)
set_option maxRecDepth 100000 in
theorem wd_957 : (Jvm.Cond.code ({ cls := "NestedFociModel", name := "goes", desc := "(II)V" } : Jvm.MethodName) prog_14_method_34_code (4 : Nat) (Option.none : Option Jvm.ClassFile.FieldType)) ∈ lw_tbl := ab_tb5 _ (List.mem_of_getElem? (i := 140) rfl)
set_option maxRecDepth 100000 in
theorem wd_958 : (Jvm.Cond.code ({ cls := "NestedFociModel", name := "looksFor", desc := "(II)V" } : Jvm.MethodName) prog_14_method_35_code (3 : Nat) (Option.none : Option Jvm.ClassFile.FieldType)) ∈ lw_tbl := ab_tb5 _ (List.mem_of_getElem? (i := 136) rfl)
set_option maxRecDepth 100000 in
theorem wd_959 : (Jvm.Cond.code ({ cls := "NestedFociModel", name := "makes", desc := "()Z" } : Jvm.MethodName) prog_14_method_36_code (1 : Nat) (Option.some Jvm.ClassFile.FieldType.boolean)) ∈ lw_tbl := ab_tb5 _ (List.mem_of_getElem? (i := 92) rfl)
set_option maxRecDepth 100000 in
theorem wd_960 : (Jvm.Cond.code ({ cls := "NestedFociModel", name := "numbered", desc := "(I)I" } : Jvm.MethodName) prog_14_method_37_code (2 : Nat) (Option.some Jvm.ClassFile.FieldType.int)) ∈ lw_tbl := ab_tb5 _ (List.mem_of_getElem? (i := 88) rfl)
set_option maxRecDepth 100000 in
theorem wd_961 : (Jvm.Cond.code ({ cls := "NestedFociModel", name := "copyOf", desc := "(I)I" } : Jvm.MethodName) prog_14_method_38_code (4 : Nat) (Option.some Jvm.ClassFile.FieldType.int)) ∈ lw_tbl := ab_tb5 _ (List.mem_of_getElem? (i := 104) rfl)
set_option maxRecDepth 100000 in
theorem wd_962 : (Jvm.Cond.code ({ cls := "NestedFociModel", name := "changed", desc := "(I)I" } : Jvm.MethodName) prog_14_method_39_code (7 : Nat) (Option.some Jvm.ClassFile.FieldType.int)) ∈ lw_tbl := ab_tb5 _ (List.mem_of_getElem? (i := 100) rfl)
set_option maxRecDepth 100000 in
theorem wd_963 : (Jvm.Cond.code ({ cls := "NestedFociModel", name := "around", desc := "(III)I" } : Jvm.MethodName) prog_14_method_40_code (5 : Nat) (Option.some Jvm.ClassFile.FieldType.int)) ∈ lw_tbl := ab_tb5 _ (List.mem_of_getElem? (i := 96) rfl)
set_option maxRecDepth 100000 in
theorem wd_964 : (Jvm.Cond.code ({ cls := "NestedFociModel", name := "became", desc := "(I)I" } : Jvm.MethodName) prog_14_method_41_code (5 : Nat) (Option.some Jvm.ClassFile.FieldType.int)) ∈ lw_tbl := ab_tb5 _ (List.mem_of_getElem? (i := 84) rfl)
set_option maxRecDepth 100000 in
theorem wd_965 : (Jvm.Cond.code ({ cls := "NestedFociModel", name := "goesOver", desc := "(II)I" } : Jvm.MethodName) prog_14_method_42_code (7 : Nat) (Option.some Jvm.ClassFile.FieldType.int)) ∈ lw_tbl := ab_tb5 _ (List.mem_of_getElem? (i := 80) rfl)
set_option maxRecDepth 100000 in
theorem wd_966 : (Jvm.Cond.code ({ cls := "NestedFociModel", name := "comesOf", desc := "(IIII)I" } : Jvm.MethodName) prog_14_method_43_code (6 : Nat) (Option.some Jvm.ClassFile.FieldType.int)) ∈ lw_tbl := ab_tb5 _ (List.mem_of_getElem? (i := 76) rfl)
set_option maxRecDepth 100000 in
theorem wd_967 : (Jvm.Cond.code ({ cls := "NestedFociModel", name := "over", desc := "(IIIII)I" } : Jvm.MethodName) prog_14_method_44_code (8 : Nat) (Option.some Jvm.ClassFile.FieldType.int)) ∈ lw_tbl := ab_tb5 _ (List.mem_of_getElem? (i := 72) rfl)
set_option maxRecDepth 100000 in
theorem wd_968 : (Jvm.Cond.code ({ cls := "NestedFociModel", name := "put", desc := "(IIIII)I" } : Jvm.MethodName) prog_14_method_45_code (9 : Nat) (Option.some Jvm.ClassFile.FieldType.int)) ∈ lw_tbl := ab_tb5 _ (List.mem_of_getElem? (i := 128) rfl)
set_option maxRecDepth 100000 in
theorem wd_969 : (Jvm.Cond.code ({ cls := "NestedFociModel", name := "take", desc := "(IIII)I" } : Jvm.MethodName) prog_14_method_46_code (5 : Nat) (Option.some Jvm.ClassFile.FieldType.int)) ∈ lw_tbl := ab_tb5 _ (List.mem_of_getElem? (i := 132) rfl)
set_option maxRecDepth 100000 in
theorem wd_970 : (Jvm.Cond.code ({ cls := "NestedFociModel", name := "undo", desc := "(I)I" } : Jvm.MethodName) prog_14_method_47_code (2 : Nat) (Option.some Jvm.ClassFile.FieldType.int)) ∈ lw_tbl := ab_tb5 _ (List.mem_of_getElem? (i := 144) rfl)
set_option maxRecDepth 100000 in
theorem wd_971 : (Jvm.Cond.code ({ cls := "NestedFociModel", name := "focusOf", desc := "(III)I" } : Jvm.MethodName) prog_14_method_48_code (4 : Nat) (Option.some Jvm.ClassFile.FieldType.int)) ∈ lw_tbl := ab_tb5 _ (List.mem_of_getElem? (i := 152) rfl)
set_option maxRecDepth 100000 in
theorem wd_972 : (Jvm.Cond.code ({ cls := "NestedFociModel", name := "look", desc := "(IIII)J" } : Jvm.MethodName) prog_14_method_49_code (7 : Nat) (Option.some Jvm.ClassFile.FieldType.long)) ∈ lw_tbl := ab_tb5 _ (List.mem_of_getElem? (i := 148) rfl)
set_option maxRecDepth 100000 in
theorem wd_973 : (Jvm.Cond.code ({ cls := "NestedFociModel", name := "key", desc := "(IIII)I" } : Jvm.MethodName) prog_14_method_50_code (6 : Nat) (Option.some Jvm.ClassFile.FieldType.int)) ∈ lw_tbl := ab_tb5 _ (List.mem_of_getElem? (i := 157) rfl)
set_option maxRecDepth 100000 in
theorem wd_974 : (Jvm.Cond.code ({ cls := "NestedFociModel", name := "sumOf", desc := "(I)J" } : Jvm.MethodName) prog_14_method_51_code (5 : Nat) (Option.some Jvm.ClassFile.FieldType.long)) ∈ lw_tbl := ab_tb5 _ (List.mem_of_getElem? (i := 165) rfl)
set_option maxRecDepth 100000 in
theorem wd_975 : (Jvm.Cond.code ({ cls := "NestedFociModel", name := "isNew", desc := "(I)Z" } : Jvm.MethodName) prog_14_method_52_code (4 : Nat) (Option.some Jvm.ClassFile.FieldType.boolean)) ∈ lw_tbl := ab_tb5 _ (List.mem_of_getElem? (i := 169) rfl)
set_option maxRecDepth 100000 in
theorem wd_976 : (Jvm.Cond.code ({ cls := "NestedFociModel", name := "fold", desc := "(III)J" } : Jvm.MethodName) prog_14_method_53_code (11 : Nat) (Option.some Jvm.ClassFile.FieldType.long)) ∈ lw_tbl := ab_tb5 _ (List.mem_of_getElem? (i := 161) rfl)
set_option maxRecDepth 100000 in
theorem wd_977 : (Jvm.Cond.code ({ cls := "NestedFociModel", name := "orderedBy", desc := "(III)I" } : Jvm.MethodName) prog_14_method_54_code (4 : Nat) (Option.some Jvm.ClassFile.FieldType.int)) ∈ lw_tbl := ab_tb5 _ (List.mem_of_getElem? (i := 177) rfl)
set_option maxRecDepth 100000 in
theorem wd_978 : (Jvm.Cond.code ({ cls := "NestedFociModel", name := "best", desc := "(IIII)I" } : Jvm.MethodName) prog_14_method_55_code (9 : Nat) (Option.some Jvm.ClassFile.FieldType.int)) ∈ lw_tbl := ab_tb5 _ (List.mem_of_getElem? (i := 173) rfl)
set_option maxRecDepth 100000 in
theorem wd_979 : (Jvm.Cond.code ({ cls := "NestedFociModel", name := "order", desc := "(II)I" } : Jvm.MethodName) prog_14_method_56_code (3 : Nat) (Option.some Jvm.ClassFile.FieldType.int)) ∈ lw_tbl := ab_tb5 _ (List.mem_of_getElem? (i := 181) rfl)
set_option maxRecDepth 100000 in
theorem wd_980 : (Jvm.Cond.code ({ cls := "NestedFociModel", name := "marks", desc := "(I)V" } : Jvm.MethodName) prog_14_method_57_code (3 : Nat) (Option.none : Option Jvm.ClassFile.FieldType)) ∈ lw_tbl := ab_tb5 _ (List.mem_of_getElem? (i := 189) rfl)
set_option maxRecDepth 100000 in
theorem wd_981 : (Jvm.Cond.code ({ cls := "NestedFociModel", name := "sharedIn", desc := "(I)I" } : Jvm.MethodName) prog_14_method_58_code (4 : Nat) (Option.some Jvm.ClassFile.FieldType.int)) ∈ lw_tbl := ab_tb5 _ (List.mem_of_getElem? (i := 193) rfl)
set_option maxRecDepth 100000 in
theorem wd_982 : (Jvm.Cond.code ({ cls := "NestedFociModel", name := "shared", desc := "(II)I" } : Jvm.MethodName) prog_14_method_59_code (4 : Nat) (Option.some Jvm.ClassFile.FieldType.int)) ∈ lw_tbl := ab_tb5 _ (List.mem_of_getElem? (i := 185) rfl)
set_option maxRecDepth 100000 in
theorem wd_983 : (Jvm.Cond.code ({ cls := "NestedFociModel", name := "isLikeBuilt", desc := "(II)Z" } : Jvm.MethodName) prog_14_method_60_code (5 : Nat) (Option.some Jvm.ClassFile.FieldType.boolean)) ∈ lw_tbl := ab_tb5 _ (List.mem_of_getElem? (i := 205) rfl)
set_option maxRecDepth 100000 in
theorem wd_984 : (Jvm.Cond.code ({ cls := "NestedFociModel", name := "differsIn", desc := "(III)V" } : Jvm.MethodName) prog_14_method_61_code (6 : Nat) (Option.none : Option Jvm.ClassFile.FieldType)) ∈ lw_tbl := ab_tb5 _ (List.mem_of_getElem? (i := 201) rfl)
set_option maxRecDepth 100000 in
theorem wd_985 : (Jvm.Cond.code ({ cls := "NestedFociModel", name := "differ", desc := "(III)I" } : Jvm.MethodName) prog_14_method_62_code (4 : Nat) (Option.some Jvm.ClassFile.FieldType.int)) ∈ lw_tbl := ab_tb5 _ (List.mem_of_getElem? (i := 197) rfl)
set_option maxRecDepth 100000 in
theorem wd_986 : (Jvm.Cond.code ({ cls := "NestedFociModel", name := "fit", desc := "(III)I" } : Jvm.MethodName) prog_14_method_63_code (10 : Nat) (Option.some Jvm.ClassFile.FieldType.int)) ∈ lw_tbl := ab_tb5 _ (List.mem_of_getElem? (i := 209) rfl)
set_option maxRecDepth 100000 in
theorem wd_987 : (Jvm.Cond.code ({ cls := "NestedFociModel", name := "allNodes", desc := "()I" } : Jvm.MethodName) prog_14_method_64_code (3 : Nat) (Option.some Jvm.ClassFile.FieldType.int)) ∈ lw_tbl := ab_tb5 _ (List.mem_of_getElem? (i := 217) rfl)
set_option maxRecDepth 100000 in
theorem wd_988 : (Jvm.Cond.code ({ cls := "NestedFociModel", name := "image", desc := "()I" } : Jvm.MethodName) prog_14_method_65_code (2 : Nat) (Option.some Jvm.ClassFile.FieldType.int)) ∈ lw_tbl := ab_tb5 _ (List.mem_of_getElem? (i := 213) rfl)
set_option maxRecDepth 100000 in
theorem wd_989 : (Jvm.Cond.code ({ cls := "NestedFociModel", name := "back", desc := "()I" } : Jvm.MethodName) prog_14_method_66_code (2 : Nat) (Option.some Jvm.ClassFile.FieldType.int)) ∈ lw_tbl := ab_tb5 _ (List.mem_of_getElem? (i := 221) rfl)
set_option maxRecDepth 100000 in
theorem wd_990 : (Jvm.Cond.code ({ cls := "NestedFociModel", name := "count", desc := "(I)I" } : Jvm.MethodName) prog_14_method_67_code (2 : Nat) (Option.some Jvm.ClassFile.FieldType.int)) ∈ lw_tbl := ab_tb5 _ (List.mem_of_getElem? (i := 225) rfl)
set_option maxRecDepth 100000 in
theorem wd_991 : (Jvm.Cond.code ({ cls := "java/lang/Integer", name := "compare", desc := "(II)I" } : Jvm.MethodName) prog_15_method_40_code (2 : Nat) (Option.some Jvm.ClassFile.FieldType.int)) ∈ lw_tbl := ab_tb3 _ (List.mem_of_getElem? (i := 78) rfl)
set_option maxRecDepth 100000 in
theorem wd_992 : (Jvm.Cond.initialized "java/lang/Integer") ∈ lw_tbl := ab_tb1 _ (List.mem_of_getElem? (i := 15) rfl)
set_option maxRecDepth 100000 in
theorem wd_993 : (Jvm.Cond.code ({ cls := "java/lang/Math", name := "max", desc := "(II)I" } : Jvm.MethodName) prog_16_method_65_code (2 : Nat) (Option.some Jvm.ClassFile.FieldType.int)) ∈ lw_tbl := ab_tb1 _ (List.mem_of_getElem? (i := 152) rfl)
set_option maxRecDepth 100000 in
theorem wd_994 : (Jvm.Cond.initialized "java/lang/Math") ∈ lw_tbl := ab_tb1 _ (List.mem_of_getElem? (i := 11) rfl)
set_option maxRecDepth 100000 in
theorem wd_995 : (Jvm.Cond.code ({ cls := "java/lang/Math", name := "min", desc := "(II)I" } : Jvm.MethodName) prog_16_method_69_code (2 : Nat) (Option.some Jvm.ClassFile.FieldType.int)) ∈ lw_tbl := ab_tb2 _ (List.mem_of_getElem? (i := 220) rfl)
