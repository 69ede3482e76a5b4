-- ===== PART A: goes FIRST, ahead of the names: the tables' words, and 'selects' of the private methods out of them =====
/-- a private method of a class that the tables say can be made, by its rows of tables_1 -/
def lw_okq (q : MethodName × Nat) : Prop := (q.1.cls ≠ "java/lang/invoke/MethodHandle" ∧ q.1.cls ≠ "java/lang/invoke/VarHandle") ∧ Cond.instantiable q.1.cls q.2 ∈ tables_1 ∧ Cond.privateMethod q.1 ∈ tables_1 ∧ Cond.instanceMethod q.1 ∈ tables_1
theorem lw_p0 : lw_okq (⟨"ShoreGuards", "refuse", "(I)I"⟩, 12) := ⟨⟨by decide +kernel, by decide +kernel⟩, List.mem_of_getElem? (i := 26) (by decide +kernel), List.mem_of_getElem? (i := 448) (by decide +kernel), List.mem_of_getElem? (i := 449) (by decide +kernel)⟩
theorem lw_p1 : lw_okq (⟨"ShoreGuards$TextReader", "readLine", "(LShoreGuards$Told;)Z"⟩, 16) := ⟨⟨by decide +kernel, by decide +kernel⟩, List.mem_of_getElem? (i := 50) (by decide +kernel), List.mem_of_getElem? (i := 463) (by decide +kernel), List.mem_of_getElem? (i := 464) (by decide +kernel)⟩
theorem lw_p2 : lw_okq (⟨"ShoreGuards$TextReader", "advance", "()V"⟩, 16) := ⟨⟨by decide +kernel, by decide +kernel⟩, List.mem_of_getElem? (i := 50) (by decide +kernel), List.mem_of_getElem? (i := 467) (by decide +kernel), List.mem_of_getElem? (i := 468) (by decide +kernel)⟩
theorem lw_p3 : lw_okq (⟨"ShoreGuards$TextReader", "isLineWord", "()Z"⟩, 16) := ⟨⟨by decide +kernel, by decide +kernel⟩, List.mem_of_getElem? (i := 50) (by decide +kernel), List.mem_of_getElem? (i := 477) (by decide +kernel), List.mem_of_getElem? (i := 478) (by decide +kernel)⟩
theorem lw_p4 : lw_okq (⟨"ShoreGuards$TextReader", "isWord", "(Ljava/lang/String;)Z"⟩, 16) := ⟨⟨by decide +kernel, by decide +kernel⟩, List.mem_of_getElem? (i := 50) (by decide +kernel), List.mem_of_getElem? (i := 482) (by decide +kernel), List.mem_of_getElem? (i := 483) (by decide +kernel)⟩
theorem lw_p5 : lw_okq (⟨"ShoreGuards$TextReader", "fail", "(I)Z"⟩, 16) := ⟨⟨by decide +kernel, by decide +kernel⟩, List.mem_of_getElem? (i := 50) (by decide +kernel), List.mem_of_getElem? (i := 540) (by decide +kernel), List.mem_of_getElem? (i := 541) (by decide +kernel)⟩
theorem lw_p6 : lw_okq (⟨"ShoreGuards$TextReader", "readBeach", "(LShoreGuards$Told;)Z"⟩, 16) := ⟨⟨by decide +kernel, by decide +kernel⟩, List.mem_of_getElem? (i := 50) (by decide +kernel), List.mem_of_getElem? (i := 544) (by decide +kernel), List.mem_of_getElem? (i := 545) (by decide +kernel)⟩
theorem lw_p7 : lw_okq (⟨"ShoreGuards$TextReader", "labelled", "(Ljava/lang/String;II)Z"⟩, 16) := ⟨⟨by decide +kernel, by decide +kernel⟩, List.mem_of_getElem? (i := 50) (by decide +kernel), List.mem_of_getElem? (i := 549) (by decide +kernel), List.mem_of_getElem? (i := 550) (by decide +kernel)⟩
theorem lw_p8 : lw_okq (⟨"ShoreGuards$TextReader", "wholeValue", "()I"⟩, 16) := ⟨⟨by decide +kernel, by decide +kernel⟩, List.mem_of_getElem? (i := 50) (by decide +kernel), List.mem_of_getElem? (i := 553) (by decide +kernel), List.mem_of_getElem? (i := 554) (by decide +kernel)⟩
theorem lw_p9 : lw_okq (⟨"ShoreGuards$TextReader", "readPerson", "(LShoreGuards$Told;)Z"⟩, 16) := ⟨⟨by decide +kernel, by decide +kernel⟩, List.mem_of_getElem? (i := 50) (by decide +kernel), List.mem_of_getElem? (i := 559) (by decide +kernel), List.mem_of_getElem? (i := 560) (by decide +kernel)⟩
theorem lw_p10 : lw_okq (⟨"ShoreGuards$TextReader", "newName", "(ZI)Z"⟩, 16) := ⟨⟨by decide +kernel, by decide +kernel⟩, List.mem_of_getElem? (i := 50) (by decide +kernel), List.mem_of_getElem? (i := 563) (by decide +kernel), List.mem_of_getElem? (i := 564) (by decide +kernel)⟩
theorem lw_p11 : lw_okq (⟨"ShoreGuards$TextReader", "nameIndex", "()I"⟩, 16) := ⟨⟨by decide +kernel, by decide +kernel⟩, List.mem_of_getElem? (i := 50) (by decide +kernel), List.mem_of_getElem? (i := 567) (by decide +kernel), List.mem_of_getElem? (i := 568) (by decide +kernel)⟩
theorem lw_p12 : lw_okq (⟨"ShoreGuards$TextReader", "isSameText", "(I)Z"⟩, 16) := ⟨⟨by decide +kernel, by decide +kernel⟩, List.mem_of_getElem? (i := 50) (by decide +kernel), List.mem_of_getElem? (i := 571) (by decide +kernel), List.mem_of_getElem? (i := 572) (by decide +kernel)⟩
theorem lw_p13 : lw_okq (⟨"ShoreGuards$TextReader", "kindTold", "()I"⟩, 16) := ⟨⟨by decide +kernel, by decide +kernel⟩, List.mem_of_getElem? (i := 50) (by decide +kernel), List.mem_of_getElem? (i := 575) (by decide +kernel), List.mem_of_getElem? (i := 576) (by decide +kernel)⟩
theorem lw_p14 : lw_okq (⟨"ShoreGuards$TextReader", "readPost", "(LShoreGuards$Told;)Z"⟩, 16) := ⟨⟨by decide +kernel, by decide +kernel⟩, List.mem_of_getElem? (i := 50) (by decide +kernel), List.mem_of_getElem? (i := 586) (by decide +kernel), List.mem_of_getElem? (i := 587) (by decide +kernel)⟩
theorem lw_p15 : lw_okq (⟨"ShoreGuards$TextReader", "readManned", "(LShoreGuards$Told;)Z"⟩, 16) := ⟨⟨by decide +kernel, by decide +kernel⟩, List.mem_of_getElem? (i := 50) (by decide +kernel), List.mem_of_getElem? (i := 591) (by decide +kernel), List.mem_of_getElem? (i := 592) (by decide +kernel)⟩
def lw_privs_1 : List (MethodName × Nat) := [(⟨"ShoreGuards", "refuse", "(I)I"⟩, 12), (⟨"ShoreGuards$TextReader", "readLine", "(LShoreGuards$Told;)Z"⟩, 16), (⟨"ShoreGuards$TextReader", "advance", "()V"⟩, 16), (⟨"ShoreGuards$TextReader", "isLineWord", "()Z"⟩, 16), (⟨"ShoreGuards$TextReader", "isWord", "(Ljava/lang/String;)Z"⟩, 16), (⟨"ShoreGuards$TextReader", "fail", "(I)Z"⟩, 16), (⟨"ShoreGuards$TextReader", "readBeach", "(LShoreGuards$Told;)Z"⟩, 16), (⟨"ShoreGuards$TextReader", "labelled", "(Ljava/lang/String;II)Z"⟩, 16), (⟨"ShoreGuards$TextReader", "wholeValue", "()I"⟩, 16), (⟨"ShoreGuards$TextReader", "readPerson", "(LShoreGuards$Told;)Z"⟩, 16), (⟨"ShoreGuards$TextReader", "newName", "(ZI)Z"⟩, 16), (⟨"ShoreGuards$TextReader", "nameIndex", "()I"⟩, 16), (⟨"ShoreGuards$TextReader", "isSameText", "(I)Z"⟩, 16), (⟨"ShoreGuards$TextReader", "kindTold", "()I"⟩, 16), (⟨"ShoreGuards$TextReader", "readPost", "(LShoreGuards$Told;)Z"⟩, 16), (⟨"ShoreGuards$TextReader", "readManned", "(LShoreGuards$Told;)Z"⟩, 16)]
theorem lw_r1 : ∀ q ∈ lw_privs_1, lw_okq q := List.forall_mem_cons.mpr ⟨lw_p0, List.forall_mem_cons.mpr ⟨lw_p1, List.forall_mem_cons.mpr ⟨lw_p2, List.forall_mem_cons.mpr ⟨lw_p3, List.forall_mem_cons.mpr ⟨lw_p4, List.forall_mem_cons.mpr ⟨lw_p5, List.forall_mem_cons.mpr ⟨lw_p6, List.forall_mem_cons.mpr ⟨lw_p7, List.forall_mem_cons.mpr ⟨lw_p8, List.forall_mem_cons.mpr ⟨lw_p9, List.forall_mem_cons.mpr ⟨lw_p10, List.forall_mem_cons.mpr ⟨lw_p11, List.forall_mem_cons.mpr ⟨lw_p12, List.forall_mem_cons.mpr ⟨lw_p13, List.forall_mem_cons.mpr ⟨lw_p14, List.forall_mem_cons.mpr ⟨lw_p15, fun _ h => absurd h List.not_mem_nil⟩⟩⟩⟩⟩⟩⟩⟩⟩⟩⟩⟩⟩⟩⟩⟩
theorem lw_p16 : lw_okq (⟨"ShoreGuards$TextReader", "toldName", "(Z)Z"⟩, 16) := ⟨⟨by decide +kernel, by decide +kernel⟩, List.mem_of_getElem? (i := 50) (by decide +kernel), List.mem_of_getElem? (i := 595) (by decide +kernel), List.mem_of_getElem? (i := 596) (by decide +kernel)⟩
theorem lw_p17 : lw_okq (⟨"ShoreGuards$TextReader", "readKnows", "(LShoreGuards$Told;)Z"⟩, 16) := ⟨⟨by decide +kernel, by decide +kernel⟩, List.mem_of_getElem? (i := 50) (by decide +kernel), List.mem_of_getElem? (i := 602) (by decide +kernel), List.mem_of_getElem? (i := 603) (by decide +kernel)⟩
theorem lw_p18 : lw_okq (⟨"ShoreGuards$TextReader", "readSign", "(LShoreGuards$Told;I)Z"⟩, 16) := ⟨⟨by decide +kernel, by decide +kernel⟩, List.mem_of_getElem? (i := 50) (by decide +kernel), List.mem_of_getElem? (i := 606) (by decide +kernel), List.mem_of_getElem? (i := 607) (by decide +kernel)⟩
theorem lw_p19 : lw_okq (⟨"ShoreGuards$Shore", "nearIn", "([II)I"⟩, 8) := ⟨⟨by decide +kernel, by decide +kernel⟩, List.mem_of_getElem? (i := 109) (by decide +kernel), List.mem_of_getElem? (i := 622) (by decide +kernel), List.mem_of_getElem? (i := 623) (by decide +kernel)⟩
theorem lw_p20 : lw_okq (⟨"ShoreGuards$Shore", "reachOf", "(I)I"⟩, 8) := ⟨⟨by decide +kernel, by decide +kernel⟩, List.mem_of_getElem? (i := 109) (by decide +kernel), List.mem_of_getElem? (i := 643) (by decide +kernel), List.mem_of_getElem? (i := 644) (by decide +kernel)⟩
theorem lw_p21 : lw_okq (⟨"ShoreGuards", "grant", "(I)I"⟩, 12) := ⟨⟨by decide +kernel, by decide +kernel⟩, List.mem_of_getElem? (i := 26) (by decide +kernel), List.mem_of_getElem? (i := 666) (by decide +kernel), List.mem_of_getElem? (i := 667) (by decide +kernel)⟩
theorem lw_p22 : lw_okq (⟨"ShoreGuards", "isPerson", "(I)Z"⟩, 12) := ⟨⟨by decide +kernel, by decide +kernel⟩, List.mem_of_getElem? (i := 26) (by decide +kernel), List.mem_of_getElem? (i := 682) (by decide +kernel), List.mem_of_getElem? (i := 683) (by decide +kernel)⟩
theorem lw_p23 : lw_okq (⟨"ShoreGuards", "isPost", "(I)Z"⟩, 12) := ⟨⟨by decide +kernel, by decide +kernel⟩, List.mem_of_getElem? (i := 26) (by decide +kernel), List.mem_of_getElem? (i := 706) (by decide +kernel), List.mem_of_getElem? (i := 707) (by decide +kernel)⟩
theorem lw_p24 : lw_okq (⟨"ShoreGuards$Shore", "isCovering", "(I)Z"⟩, 8) := ⟨⟨by decide +kernel, by decide +kernel⟩, List.mem_of_getElem? (i := 109) (by decide +kernel), List.mem_of_getElem? (i := 779) (by decide +kernel), List.mem_of_getElem? (i := 780) (by decide +kernel)⟩
theorem lw_p25 : lw_okq (⟨"ShoreGuards$Alone", "take", "(II)V"⟩, 4) := ⟨⟨by decide +kernel, by decide +kernel⟩, List.mem_of_getElem? (i := 303) (by decide +kernel), List.mem_of_getElem? (i := 828) (by decide +kernel), List.mem_of_getElem? (i := 829) (by decide +kernel)⟩
theorem lw_p26 : lw_okq (⟨"ShoreGuards$Seating", "take", "(I)V"⟩, 4) := ⟨⟨by decide +kernel, by decide +kernel⟩, List.mem_of_getElem? (i := 325) (by decide +kernel), List.mem_of_getElem? (i := 866) (by decide +kernel), List.mem_of_getElem? (i := 867) (by decide +kernel)⟩
theorem lw_p27 : lw_okq (⟨"ShoreGuards$Shore", "sinkersOnTrial", "()I"⟩, 8) := ⟨⟨by decide +kernel, by decide +kernel⟩, List.mem_of_getElem? (i := 109) (by decide +kernel), List.mem_of_getElem? (i := 882) (by decide +kernel), List.mem_of_getElem? (i := 883) (by decide +kernel)⟩
theorem lw_p28 : lw_okq (⟨"ShoreGuards", "grantRatio", "(Z)J"⟩, 12) := ⟨⟨by decide +kernel, by decide +kernel⟩, List.mem_of_getElem? (i := 26) (by decide +kernel), List.mem_of_getElem? (i := 897) (by decide +kernel), List.mem_of_getElem? (i := 898) (by decide +kernel)⟩
theorem lw_p29 : lw_okq (⟨"ShoreGuards$Told", "knownBy", "(I)I"⟩, 16) := ⟨⟨by decide +kernel, by decide +kernel⟩, List.mem_of_getElem? (i := 144) (by decide +kernel), List.mem_of_getElem? (i := 950) (by decide +kernel), List.mem_of_getElem? (i := 951) (by decide +kernel)⟩
theorem lw_p30 : lw_okq (⟨"ShoreGuards$Chance", "drawAfternoon", "(LShoreGuards$Shore;)I"⟩, 2) := ⟨⟨by decide +kernel, by decide +kernel⟩, List.mem_of_getElem? (i := 365) (by decide +kernel), List.mem_of_getElem? (i := 1027) (by decide +kernel), List.mem_of_getElem? (i := 1028) (by decide +kernel)⟩
theorem lw_p31 : lw_okq (⟨"ShoreGuards", "deny", "(I)Z"⟩, 12) := ⟨⟨by decide +kernel, by decide +kernel⟩, List.mem_of_getElem? (i := 26) (by decide +kernel), List.mem_of_getElem? (i := 1046) (by decide +kernel), List.mem_of_getElem? (i := 1047) (by decide +kernel)⟩
def lw_privs_2 : List (MethodName × Nat) := [(⟨"ShoreGuards$TextReader", "toldName", "(Z)Z"⟩, 16), (⟨"ShoreGuards$TextReader", "readKnows", "(LShoreGuards$Told;)Z"⟩, 16), (⟨"ShoreGuards$TextReader", "readSign", "(LShoreGuards$Told;I)Z"⟩, 16), (⟨"ShoreGuards$Shore", "nearIn", "([II)I"⟩, 8), (⟨"ShoreGuards$Shore", "reachOf", "(I)I"⟩, 8), (⟨"ShoreGuards", "grant", "(I)I"⟩, 12), (⟨"ShoreGuards", "isPerson", "(I)Z"⟩, 12), (⟨"ShoreGuards", "isPost", "(I)Z"⟩, 12), (⟨"ShoreGuards$Shore", "isCovering", "(I)Z"⟩, 8), (⟨"ShoreGuards$Alone", "take", "(II)V"⟩, 4), (⟨"ShoreGuards$Seating", "take", "(I)V"⟩, 4), (⟨"ShoreGuards$Shore", "sinkersOnTrial", "()I"⟩, 8), (⟨"ShoreGuards", "grantRatio", "(Z)J"⟩, 12), (⟨"ShoreGuards$Told", "knownBy", "(I)I"⟩, 16), (⟨"ShoreGuards$Chance", "drawAfternoon", "(LShoreGuards$Shore;)I"⟩, 2), (⟨"ShoreGuards", "deny", "(I)Z"⟩, 12)]
theorem lw_r2 : ∀ q ∈ lw_privs_2, lw_okq q := List.forall_mem_cons.mpr ⟨lw_p16, List.forall_mem_cons.mpr ⟨lw_p17, List.forall_mem_cons.mpr ⟨lw_p18, List.forall_mem_cons.mpr ⟨lw_p19, List.forall_mem_cons.mpr ⟨lw_p20, List.forall_mem_cons.mpr ⟨lw_p21, List.forall_mem_cons.mpr ⟨lw_p22, List.forall_mem_cons.mpr ⟨lw_p23, List.forall_mem_cons.mpr ⟨lw_p24, List.forall_mem_cons.mpr ⟨lw_p25, List.forall_mem_cons.mpr ⟨lw_p26, List.forall_mem_cons.mpr ⟨lw_p27, List.forall_mem_cons.mpr ⟨lw_p28, List.forall_mem_cons.mpr ⟨lw_p29, List.forall_mem_cons.mpr ⟨lw_p30, List.forall_mem_cons.mpr ⟨lw_p31, fun _ h => absurd h List.not_mem_nil⟩⟩⟩⟩⟩⟩⟩⟩⟩⟩⟩⟩⟩⟩⟩⟩
theorem lw_p32 : lw_okq (⟨"ShoreGuards", "acted", "()Z"⟩, 12) := ⟨⟨by decide +kernel, by decide +kernel⟩, List.mem_of_getElem? (i := 26) (by decide +kernel), List.mem_of_getElem? (i := 1060) (by decide +kernel), List.mem_of_getElem? (i := 1061) (by decide +kernel)⟩
theorem lw_p33 : lw_okq (⟨"java/lang/Throwable", "fillInStackTrace", "(I)Ljava/lang/Throwable;"⟩, 6) := ⟨⟨by decide +kernel, by decide +kernel⟩, List.mem_of_getElem? (i := 1167) (by decide +kernel), List.mem_of_getElem? (i := 1165) (by decide +kernel), List.mem_of_getElem? (i := 1166) (by decide +kernel)⟩
theorem lw_p34 : lw_okq (⟨"ShoreGuardsModel", "refused", "(I)I"⟩, 29) := ⟨⟨by decide +kernel, by decide +kernel⟩, List.mem_of_getElem? (i := 1192) (by decide +kernel), List.mem_of_getElem? (i := 1298) (by decide +kernel), List.mem_of_getElem? (i := 1299) (by decide +kernel)⟩
theorem lw_p35 : lw_okq (⟨"ShoreGuardsModel", "goesOn", "()V"⟩, 29) := ⟨⟨by decide +kernel, by decide +kernel⟩, List.mem_of_getElem? (i := 1192) (by decide +kernel), List.mem_of_getElem? (i := 1381) (by decide +kernel), List.mem_of_getElem? (i := 1382) (by decide +kernel)⟩
theorem lw_p36 : lw_okq (⟨"ShoreGuardsModel", "byteAt", "(I)I"⟩, 29) := ⟨⟨by decide +kernel, by decide +kernel⟩, List.mem_of_getElem? (i := 1192) (by decide +kernel), List.mem_of_getElem? (i := 1385) (by decide +kernel), List.mem_of_getElem? (i := 1386) (by decide +kernel)⟩
theorem lw_p37 : lw_okq (⟨"ShoreGuardsModel", "readAll", "()V"⟩, 29) := ⟨⟨by decide +kernel, by decide +kernel⟩, List.mem_of_getElem? (i := 1192) (by decide +kernel), List.mem_of_getElem? (i := 1396) (by decide +kernel), List.mem_of_getElem? (i := 1397) (by decide +kernel)⟩
theorem lw_p38 : lw_okq (⟨"ShoreGuardsModel", "readLine", "()V"⟩, 29) := ⟨⟨by decide +kernel, by decide +kernel⟩, List.mem_of_getElem? (i := 1192) (by decide +kernel), List.mem_of_getElem? (i := 1400) (by decide +kernel), List.mem_of_getElem? (i := 1401) (by decide +kernel)⟩
theorem lw_p39 : lw_okq (⟨"ShoreGuardsModel", "isWord", "(Ljava/lang/String;)Z"⟩, 29) := ⟨⟨by decide +kernel, by decide +kernel⟩, List.mem_of_getElem? (i := 1192) (by decide +kernel), List.mem_of_getElem? (i := 1405) (by decide +kernel), List.mem_of_getElem? (i := 1406) (by decide +kernel)⟩
theorem lw_p40 : lw_okq (⟨"ShoreGuardsModel", "readBeach", "()V"⟩, 29) := ⟨⟨by decide +kernel, by decide +kernel⟩, List.mem_of_getElem? (i := 1192) (by decide +kernel), List.mem_of_getElem? (i := 1414) (by decide +kernel), List.mem_of_getElem? (i := 1415) (by decide +kernel)⟩
theorem lw_p41 : lw_okq (⟨"ShoreGuardsModel", "flaw", "(I)V"⟩, 29) := ⟨⟨by decide +kernel, by decide +kernel⟩, List.mem_of_getElem? (i := 1192) (by decide +kernel), List.mem_of_getElem? (i := 1418) (by decide +kernel), List.mem_of_getElem? (i := 1419) (by decide +kernel)⟩
theorem lw_p42 : lw_okq (⟨"ShoreGuardsModel", "readPart", "(Ljava/lang/String;II)I"⟩, 29) := ⟨⟨by decide +kernel, by decide +kernel⟩, List.mem_of_getElem? (i := 1192) (by decide +kernel), List.mem_of_getElem? (i := 1423) (by decide +kernel), List.mem_of_getElem? (i := 1424) (by decide +kernel)⟩
theorem lw_p43 : lw_okq (⟨"ShoreGuardsModel", "needs", "(Ljava/lang/String;)V"⟩, 29) := ⟨⟨by decide +kernel, by decide +kernel⟩, List.mem_of_getElem? (i := 1192) (by decide +kernel), List.mem_of_getElem? (i := 1427) (by decide +kernel), List.mem_of_getElem? (i := 1428) (by decide +kernel)⟩
theorem lw_p44 : lw_okq (⟨"ShoreGuardsModel", "readPerson", "()V"⟩, 29) := ⟨⟨by decide +kernel, by decide +kernel⟩, List.mem_of_getElem? (i := 1192) (by decide +kernel), List.mem_of_getElem? (i := 1437) (by decide +kernel), List.mem_of_getElem? (i := 1438) (by decide +kernel)⟩
theorem lw_p45 : lw_okq (⟨"ShoreGuardsModel", "lineBegins", "(II)V"⟩, 29) := ⟨⟨by decide +kernel, by decide +kernel⟩, List.mem_of_getElem? (i := 1192) (by decide +kernel), List.mem_of_getElem? (i := 1441) (by decide +kernel), List.mem_of_getElem? (i := 1442) (by decide +kernel)⟩
theorem lw_p46 : lw_okq (⟨"ShoreGuardsModel", "readFresh", "()J"⟩, 29) := ⟨⟨by decide +kernel, by decide +kernel⟩, List.mem_of_getElem? (i := 1192) (by decide +kernel), List.mem_of_getElem? (i := 1445) (by decide +kernel), List.mem_of_getElem? (i := 1446) (by decide +kernel)⟩
theorem lw_p47 : lw_okq (⟨"ShoreGuardsModel", "isName", "()Z"⟩, 29) := ⟨⟨by decide +kernel, by decide +kernel⟩, List.mem_of_getElem? (i := 1192) (by decide +kernel), List.mem_of_getElem? (i := 1449) (by decide +kernel), List.mem_of_getElem? (i := 1450) (by decide +kernel)⟩
def lw_privs_3 : List (MethodName × Nat) := [(⟨"ShoreGuards", "acted", "()Z"⟩, 12), (⟨"java/lang/Throwable", "fillInStackTrace", "(I)Ljava/lang/Throwable;"⟩, 6), (⟨"ShoreGuardsModel", "refused", "(I)I"⟩, 29), (⟨"ShoreGuardsModel", "goesOn", "()V"⟩, 29), (⟨"ShoreGuardsModel", "byteAt", "(I)I"⟩, 29), (⟨"ShoreGuardsModel", "readAll", "()V"⟩, 29), (⟨"ShoreGuardsModel", "readLine", "()V"⟩, 29), (⟨"ShoreGuardsModel", "isWord", "(Ljava/lang/String;)Z"⟩, 29), (⟨"ShoreGuardsModel", "readBeach", "()V"⟩, 29), (⟨"ShoreGuardsModel", "flaw", "(I)V"⟩, 29), (⟨"ShoreGuardsModel", "readPart", "(Ljava/lang/String;II)I"⟩, 29), (⟨"ShoreGuardsModel", "needs", "(Ljava/lang/String;)V"⟩, 29), (⟨"ShoreGuardsModel", "readPerson", "()V"⟩, 29), (⟨"ShoreGuardsModel", "lineBegins", "(II)V"⟩, 29), (⟨"ShoreGuardsModel", "readFresh", "()J"⟩, 29), (⟨"ShoreGuardsModel", "isName", "()Z"⟩, 29)]
theorem lw_r3 : ∀ q ∈ lw_privs_3, lw_okq q := List.forall_mem_cons.mpr ⟨lw_p32, List.forall_mem_cons.mpr ⟨lw_p33, List.forall_mem_cons.mpr ⟨lw_p34, List.forall_mem_cons.mpr ⟨lw_p35, List.forall_mem_cons.mpr ⟨lw_p36, List.forall_mem_cons.mpr ⟨lw_p37, List.forall_mem_cons.mpr ⟨lw_p38, List.forall_mem_cons.mpr ⟨lw_p39, List.forall_mem_cons.mpr ⟨lw_p40, List.forall_mem_cons.mpr ⟨lw_p41, List.forall_mem_cons.mpr ⟨lw_p42, List.forall_mem_cons.mpr ⟨lw_p43, List.forall_mem_cons.mpr ⟨lw_p44, List.forall_mem_cons.mpr ⟨lw_p45, List.forall_mem_cons.mpr ⟨lw_p46, List.forall_mem_cons.mpr ⟨lw_p47, fun _ h => absurd h List.not_mem_nil⟩⟩⟩⟩⟩⟩⟩⟩⟩⟩⟩⟩⟩⟩⟩⟩
theorem lw_p48 : lw_okq (⟨"ShoreGuardsModel", "names", "(JII)V"⟩, 29) := ⟨⟨by decide +kernel, by decide +kernel⟩, List.mem_of_getElem? (i := 1192) (by decide +kernel), List.mem_of_getElem? (i := 1469) (by decide +kernel), List.mem_of_getElem? (i := 1470) (by decide +kernel)⟩
theorem lw_p49 : lw_okq (⟨"ShoreGuardsModel", "readPost", "()V"⟩, 29) := ⟨⟨by decide +kernel, by decide +kernel⟩, List.mem_of_getElem? (i := 1192) (by decide +kernel), List.mem_of_getElem? (i := 1473) (by decide +kernel), List.mem_of_getElem? (i := 1474) (by decide +kernel)⟩
theorem lw_p50 : lw_okq (⟨"ShoreGuardsModel", "readManned", "()V"⟩, 29) := ⟨⟨by decide +kernel, by decide +kernel⟩, List.mem_of_getElem? (i := 1192) (by decide +kernel), List.mem_of_getElem? (i := 1478) (by decide +kernel), List.mem_of_getElem? (i := 1479) (by decide +kernel)⟩
theorem lw_p51 : lw_okq (⟨"ShoreGuardsModel", "knownOne", "(I)I"⟩, 29) := ⟨⟨by decide +kernel, by decide +kernel⟩, List.mem_of_getElem? (i := 1192) (by decide +kernel), List.mem_of_getElem? (i := 1482) (by decide +kernel), List.mem_of_getElem? (i := 1483) (by decide +kernel)⟩
theorem lw_p52 : lw_okq (⟨"ShoreGuardsModel", "readKnows", "()V"⟩, 29) := ⟨⟨by decide +kernel, by decide +kernel⟩, List.mem_of_getElem? (i := 1192) (by decide +kernel), List.mem_of_getElem? (i := 1489) (by decide +kernel), List.mem_of_getElem? (i := 1490) (by decide +kernel)⟩
theorem lw_p53 : lw_okq (⟨"ShoreGuardsModel", "readSign", "(I)V"⟩, 29) := ⟨⟨by decide +kernel, by decide +kernel⟩, List.mem_of_getElem? (i := 1192) (by decide +kernel), List.mem_of_getElem? (i := 1493) (by decide +kernel), List.mem_of_getElem? (i := 1494) (by decide +kernel)⟩
theorem lw_p54 : lw_okq (⟨"ShoreGuardsModel", "eatsSemicolon", "()Z"⟩, 29) := ⟨⟨by decide +kernel, by decide +kernel⟩, List.mem_of_getElem? (i := 1192) (by decide +kernel), List.mem_of_getElem? (i := 1497) (by decide +kernel), List.mem_of_getElem? (i := 1498) (by decide +kernel)⟩
theorem lw_p55 : lw_okq (⟨"ShoreGuardsModel", "good", "(I)I"⟩, 29) := ⟨⟨by decide +kernel, by decide +kernel⟩, List.mem_of_getElem? (i := 1192) (by decide +kernel), List.mem_of_getElem? (i := 1501) (by decide +kernel), List.mem_of_getElem? (i := 1502) (by decide +kernel)⟩
theorem lw_p56 : lw_okq (⟨"ShoreGuardsModel", "isPerson", "(I)Z"⟩, 29) := ⟨⟨by decide +kernel, by decide +kernel⟩, List.mem_of_getElem? (i := 1192) (by decide +kernel), List.mem_of_getElem? (i := 1517) (by decide +kernel), List.mem_of_getElem? (i := 1518) (by decide +kernel)⟩
theorem lw_p57 : lw_okq (⟨"ShoreGuardsModel", "works", "()V"⟩, 29) := ⟨⟨by decide +kernel, by decide +kernel⟩, List.mem_of_getElem? (i := 1192) (by decide +kernel), List.mem_of_getElem? (i := 1521) (by decide +kernel), List.mem_of_getElem? (i := 1522) (by decide +kernel)⟩
theorem lw_p58 : lw_okq (⟨"ShoreGuardsModel", "sinksAt", "(I)I"⟩, 29) := ⟨⟨by decide +kernel, by decide +kernel⟩, List.mem_of_getElem? (i := 1192) (by decide +kernel), List.mem_of_getElem? (i := 1525) (by decide +kernel), List.mem_of_getElem? (i := 1526) (by decide +kernel)⟩
theorem lw_p59 : lw_okq (⟨"ShoreGuardsModel", "nearTo", "(I)I"⟩, 29) := ⟨⟨by decide +kernel, by decide +kernel⟩, List.mem_of_getElem? (i := 1192) (by decide +kernel), List.mem_of_getElem? (i := 1529) (by decide +kernel), List.mem_of_getElem? (i := 1530) (by decide +kernel)⟩
theorem lw_p60 : lw_okq (⟨"ShoreGuardsModel", "underAt", "(I)I"⟩, 29) := ⟨⟨by decide +kernel, by decide +kernel⟩, List.mem_of_getElem? (i := 1192) (by decide +kernel), List.mem_of_getElem? (i := 1542) (by decide +kernel), List.mem_of_getElem? (i := 1543) (by decide +kernel)⟩
theorem lw_p61 : lw_okq (⟨"ShoreGuardsModel", "lostAt", "(I)I"⟩, 29) := ⟨⟨by decide +kernel, by decide +kernel⟩, List.mem_of_getElem? (i := 1192) (by decide +kernel), List.mem_of_getElem? (i := 1546) (by decide +kernel), List.mem_of_getElem? (i := 1547) (by decide +kernel)⟩
theorem lw_p62 : lw_okq (⟨"ShoreGuardsModel", "isPost", "(I)Z"⟩, 29) := ⟨⟨by decide +kernel, by decide +kernel⟩, List.mem_of_getElem? (i := 1192) (by decide +kernel), List.mem_of_getElem? (i := 1554) (by decide +kernel), List.mem_of_getElem? (i := 1555) (by decide +kernel)⟩
theorem lw_p63 : lw_okq (⟨"ShoreGuardsModel", "reaches", "(I)I"⟩, 29) := ⟨⟨by decide +kernel, by decide +kernel⟩, List.mem_of_getElem? (i := 1192) (by decide +kernel), List.mem_of_getElem? (i := 1558) (by decide +kernel), List.mem_of_getElem? (i := 1559) (by decide +kernel)⟩
def lw_privs_4 : List (MethodName × Nat) := [(⟨"ShoreGuardsModel", "names", "(JII)V"⟩, 29), (⟨"ShoreGuardsModel", "readPost", "()V"⟩, 29), (⟨"ShoreGuardsModel", "readManned", "()V"⟩, 29), (⟨"ShoreGuardsModel", "knownOne", "(I)I"⟩, 29), (⟨"ShoreGuardsModel", "readKnows", "()V"⟩, 29), (⟨"ShoreGuardsModel", "readSign", "(I)V"⟩, 29), (⟨"ShoreGuardsModel", "eatsSemicolon", "()Z"⟩, 29), (⟨"ShoreGuardsModel", "good", "(I)I"⟩, 29), (⟨"ShoreGuardsModel", "isPerson", "(I)Z"⟩, 29), (⟨"ShoreGuardsModel", "works", "()V"⟩, 29), (⟨"ShoreGuardsModel", "sinksAt", "(I)I"⟩, 29), (⟨"ShoreGuardsModel", "nearTo", "(I)I"⟩, 29), (⟨"ShoreGuardsModel", "underAt", "(I)I"⟩, 29), (⟨"ShoreGuardsModel", "lostAt", "(I)I"⟩, 29), (⟨"ShoreGuardsModel", "isPost", "(I)Z"⟩, 29), (⟨"ShoreGuardsModel", "reaches", "(I)I"⟩, 29)]
theorem lw_r4 : ∀ q ∈ lw_privs_4, lw_okq q := List.forall_mem_cons.mpr ⟨lw_p48, List.forall_mem_cons.mpr ⟨lw_p49, List.forall_mem_cons.mpr ⟨lw_p50, List.forall_mem_cons.mpr ⟨lw_p51, List.forall_mem_cons.mpr ⟨lw_p52, List.forall_mem_cons.mpr ⟨lw_p53, List.forall_mem_cons.mpr ⟨lw_p54, List.forall_mem_cons.mpr ⟨lw_p55, List.forall_mem_cons.mpr ⟨lw_p56, List.forall_mem_cons.mpr ⟨lw_p57, List.forall_mem_cons.mpr ⟨lw_p58, List.forall_mem_cons.mpr ⟨lw_p59, List.forall_mem_cons.mpr ⟨lw_p60, List.forall_mem_cons.mpr ⟨lw_p61, List.forall_mem_cons.mpr ⟨lw_p62, List.forall_mem_cons.mpr ⟨lw_p63, fun _ h => absurd h List.not_mem_nil⟩⟩⟩⟩⟩⟩⟩⟩⟩⟩⟩⟩⟩⟩⟩⟩
theorem lw_p64 : lw_okq (⟨"ShoreGuardsModel", "timeTo", "(II)I"⟩, 29) := ⟨⟨by decide +kernel, by decide +kernel⟩, List.mem_of_getElem? (i := 1192) (by decide +kernel), List.mem_of_getElem? (i := 1562) (by decide +kernel), List.mem_of_getElem? (i := 1563) (by decide +kernel)⟩
theorem lw_p65 : lw_okq (⟨"ShoreGuardsModel", "sinkersNow", "()I"⟩, 29) := ⟨⟨by decide +kernel, by decide +kernel⟩, List.mem_of_getElem? (i := 1192) (by decide +kernel), List.mem_of_getElem? (i := 1574) (by decide +kernel), List.mem_of_getElem? (i := 1575) (by decide +kernel)⟩
theorem lw_p66 : lw_okq (⟨"ShoreGuardsModel", "refusesMinute", "(I)I"⟩, 29) := ⟨⟨by decide +kernel, by decide +kernel⟩, List.mem_of_getElem? (i := 1192) (by decide +kernel), List.mem_of_getElem? (i := 1586) (by decide +kernel), List.mem_of_getElem? (i := 1587) (by decide +kernel)⟩
theorem lw_p67 : lw_okq (⟨"ShoreGuardsModel", "reachedBy", "(I)I"⟩, 29) := ⟨⟨by decide +kernel, by decide +kernel⟩, List.mem_of_getElem? (i := 1192) (by decide +kernel), List.mem_of_getElem? (i := 1602) (by decide +kernel), List.mem_of_getElem? (i := 1603) (by decide +kernel)⟩
theorem lw_p68 : lw_okq (⟨"ShoreGuardsModel", "nearestTo", "(I)I"⟩, 29) := ⟨⟨by decide +kernel, by decide +kernel⟩, List.mem_of_getElem? (i := 1192) (by decide +kernel), List.mem_of_getElem? (i := 1610) (by decide +kernel), List.mem_of_getElem? (i := 1611) (by decide +kernel)⟩
theorem lw_p69 : lw_okq (⟨"ShoreGuardsModel", "areAllReached", "(I)Z"⟩, 29) := ⟨⟨by decide +kernel, by decide +kernel⟩, List.mem_of_getElem? (i := 1192) (by decide +kernel), List.mem_of_getElem? (i := 1618) (by decide +kernel), List.mem_of_getElem? (i := 1619) (by decide +kernel)⟩
theorem lw_p70 : lw_okq (⟨"ShoreGuardsModel", "alones", "(I)I"⟩, 29) := ⟨⟨by decide +kernel, by decide +kernel⟩, List.mem_of_getElem? (i := 1192) (by decide +kernel), List.mem_of_getElem? (i := 1642) (by decide +kernel), List.mem_of_getElem? (i := 1643) (by decide +kernel)⟩
theorem lw_p71 : lw_okq (⟨"ShoreGuardsModel", "freeBehind", "(III)I"⟩, 29) := ⟨⟨by decide +kernel, by decide +kernel⟩, List.mem_of_getElem? (i := 1192) (by decide +kernel), List.mem_of_getElem? (i := 1646) (by decide +kernel), List.mem_of_getElem? (i := 1647) (by decide +kernel)⟩
theorem lw_p72 : lw_okq (⟨"ShoreGuardsModel", "seatsBest", "()I"⟩, 29) := ⟨⟨by decide +kernel, by decide +kernel⟩, List.mem_of_getElem? (i := 1192) (by decide +kernel), List.mem_of_getElem? (i := 1666) (by decide +kernel), List.mem_of_getElem? (i := 1667) (by decide +kernel)⟩
theorem lw_p73 : lw_okq (⟨"ShoreGuardsModel", "unreached", "()I"⟩, 29) := ⟨⟨by decide +kernel, by decide +kernel⟩, List.mem_of_getElem? (i := 1192) (by decide +kernel), List.mem_of_getElem? (i := 1670) (by decide +kernel), List.mem_of_getElem? (i := 1671) (by decide +kernel)⟩
theorem lw_p74 : lw_okq (⟨"ShoreGuardsModel", "nextOrder", "()Z"⟩, 29) := ⟨⟨by decide +kernel, by decide +kernel⟩, List.mem_of_getElem? (i := 1192) (by decide +kernel), List.mem_of_getElem? (i := 1674) (by decide +kernel), List.mem_of_getElem? (i := 1675) (by decide +kernel)⟩
theorem lw_p75 : lw_okq (⟨"ShoreGuardsModel", "swaps", "(II)V"⟩, 29) := ⟨⟨by decide +kernel, by decide +kernel⟩, List.mem_of_getElem? (i := 1192) (by decide +kernel), List.mem_of_getElem? (i := 1678) (by decide +kernel), List.mem_of_getElem? (i := 1679) (by decide +kernel)⟩
theorem lw_p76 : lw_okq (⟨"ShoreGuardsModel", "weightOf", "(I)J"⟩, 29) := ⟨⟨by decide +kernel, by decide +kernel⟩, List.mem_of_getElem? (i := 1192) (by decide +kernel), List.mem_of_getElem? (i := 1694) (by decide +kernel), List.mem_of_getElem? (i := 1695) (by decide +kernel)⟩
theorem lw_p77 : lw_okq (⟨"ShoreGuardsModel", "everybody", "()I"⟩, 29) := ⟨⟨by decide +kernel, by decide +kernel⟩, List.mem_of_getElem? (i := 1192) (by decide +kernel), List.mem_of_getElem? (i := 1698) (by decide +kernel), List.mem_of_getElem? (i := 1699) (by decide +kernel)⟩
theorem lw_p78 : lw_okq (⟨"ShoreGuardsModel", "weightOfAll", "(I)J"⟩, 29) := ⟨⟨by decide +kernel, by decide +kernel⟩, List.mem_of_getElem? (i := 1192) (by decide +kernel), List.mem_of_getElem? (i := 1702) (by decide +kernel), List.mem_of_getElem? (i := 1703) (by decide +kernel)⟩
theorem lw_p79 : lw_okq (⟨"ShoreGuardsModel", "fraction", "(JJZ)J"⟩, 29) := ⟨⟨by decide +kernel, by decide +kernel⟩, List.mem_of_getElem? (i := 1192) (by decide +kernel), List.mem_of_getElem? (i := 1706) (by decide +kernel), List.mem_of_getElem? (i := 1707) (by decide +kernel)⟩
def lw_privs_5 : List (MethodName × Nat) := [(⟨"ShoreGuardsModel", "timeTo", "(II)I"⟩, 29), (⟨"ShoreGuardsModel", "sinkersNow", "()I"⟩, 29), (⟨"ShoreGuardsModel", "refusesMinute", "(I)I"⟩, 29), (⟨"ShoreGuardsModel", "reachedBy", "(I)I"⟩, 29), (⟨"ShoreGuardsModel", "nearestTo", "(I)I"⟩, 29), (⟨"ShoreGuardsModel", "areAllReached", "(I)Z"⟩, 29), (⟨"ShoreGuardsModel", "alones", "(I)I"⟩, 29), (⟨"ShoreGuardsModel", "freeBehind", "(III)I"⟩, 29), (⟨"ShoreGuardsModel", "seatsBest", "()I"⟩, 29), (⟨"ShoreGuardsModel", "unreached", "()I"⟩, 29), (⟨"ShoreGuardsModel", "nextOrder", "()Z"⟩, 29), (⟨"ShoreGuardsModel", "swaps", "(II)V"⟩, 29), (⟨"ShoreGuardsModel", "weightOf", "(I)J"⟩, 29), (⟨"ShoreGuardsModel", "everybody", "()I"⟩, 29), (⟨"ShoreGuardsModel", "weightOfAll", "(I)J"⟩, 29), (⟨"ShoreGuardsModel", "fraction", "(JJZ)J"⟩, 29)]
theorem lw_r5 : ∀ q ∈ lw_privs_5, lw_okq q := List.forall_mem_cons.mpr ⟨lw_p64, List.forall_mem_cons.mpr ⟨lw_p65, List.forall_mem_cons.mpr ⟨lw_p66, List.forall_mem_cons.mpr ⟨lw_p67, List.forall_mem_cons.mpr ⟨lw_p68, List.forall_mem_cons.mpr ⟨lw_p69, List.forall_mem_cons.mpr ⟨lw_p70, List.forall_mem_cons.mpr ⟨lw_p71, List.forall_mem_cons.mpr ⟨lw_p72, List.forall_mem_cons.mpr ⟨lw_p73, List.forall_mem_cons.mpr ⟨lw_p74, List.forall_mem_cons.mpr ⟨lw_p75, List.forall_mem_cons.mpr ⟨lw_p76, List.forall_mem_cons.mpr ⟨lw_p77, List.forall_mem_cons.mpr ⟨lw_p78, List.forall_mem_cons.mpr ⟨lw_p79, fun _ h => absurd h List.not_mem_nil⟩⟩⟩⟩⟩⟩⟩⟩⟩⟩⟩⟩⟩⟩⟩⟩
theorem lw_p80 : lw_okq (⟨"ShoreGuardsModel", "knownBy", "(I)I"⟩, 29) := ⟨⟨by decide +kernel, by decide +kernel⟩, List.mem_of_getElem? (i := 1192) (by decide +kernel), List.mem_of_getElem? (i := 1734) (by decide +kernel), List.mem_of_getElem? (i := 1735) (by decide +kernel)⟩
theorem lw_p81 : lw_okq (⟨"ShoreGuardsModel", "refusesFear", "(I)I"⟩, 29) := ⟨⟨by decide +kernel, by decide +kernel⟩, List.mem_of_getElem? (i := 1192) (by decide +kernel), List.mem_of_getElem? (i := 1746) (by decide +kernel), List.mem_of_getElem? (i := 1747) (by decide +kernel)⟩
theorem lw_p82 : lw_okq (⟨"ShoreGuardsModel", "lostBy", "(I)I"⟩, 29) := ⟨⟨by decide +kernel, by decide +kernel⟩, List.mem_of_getElem? (i := 1192) (by decide +kernel), List.mem_of_getElem? (i := 1750) (by decide +kernel), List.mem_of_getElem? (i := 1751) (by decide +kernel)⟩
theorem lw_p83 : lw_okq (⟨"ShoreGuardsModel", "partOf", "(II)J"⟩, 29) := ⟨⟨by decide +kernel, by decide +kernel⟩, List.mem_of_getElem? (i := 1192) (by decide +kernel), List.mem_of_getElem? (i := 1772) (by decide +kernel), List.mem_of_getElem? (i := 1773) (by decide +kernel)⟩
theorem lw_p84 : lw_okq (⟨"ShoreGuardsModel", "wholeOf", "(I)J"⟩, 29) := ⟨⟨by decide +kernel, by decide +kernel⟩, List.mem_of_getElem? (i := 1192) (by decide +kernel), List.mem_of_getElem? (i := 1776) (by decide +kernel), List.mem_of_getElem? (i := 1777) (by decide +kernel)⟩
theorem lw_p85 : lw_okq (⟨"ShoreGuardsModel", "refusesSeed", "(ZII)I"⟩, 29) := ⟨⟨by decide +kernel, by decide +kernel⟩, List.mem_of_getElem? (i := 1192) (by decide +kernel), List.mem_of_getElem? (i := 1793) (by decide +kernel), List.mem_of_getElem? (i := 1794) (by decide +kernel)⟩
theorem lw_p86 : lw_okq (⟨"ShoreGuardsModel", "afternoonsAll", "(II)V"⟩, 29) := ⟨⟨by decide +kernel, by decide +kernel⟩, List.mem_of_getElem? (i := 1192) (by decide +kernel), List.mem_of_getElem? (i := 1798) (by decide +kernel), List.mem_of_getElem? (i := 1799) (by decide +kernel)⟩
theorem lw_p87 : lw_okq (⟨"ShoreGuardsModel", "changes", "(IZ)Z"⟩, 29) := ⟨⟨by decide +kernel, by decide +kernel⟩, List.mem_of_getElem? (i := 1192) (by decide +kernel), List.mem_of_getElem? (i := 1813) (by decide +kernel), List.mem_of_getElem? (i := 1814) (by decide +kernel)⟩
theorem lw_p88 : lw_okq (⟨"ShoreGuardsModel", "denied", "(I)Z"⟩, 29) := ⟨⟨by decide +kernel, by decide +kernel⟩, List.mem_of_getElem? (i := 1192) (by decide +kernel), List.mem_of_getElem? (i := 1817) (by decide +kernel), List.mem_of_getElem? (i := 1818) (by decide +kernel)⟩
theorem lw_p89 : lw_okq (⟨"ShoreGuardsModel", "remembers", "()V"⟩, 29) := ⟨⟨by decide +kernel, by decide +kernel⟩, List.mem_of_getElem? (i := 1192) (by decide +kernel), List.mem_of_getElem? (i := 1821) (by decide +kernel), List.mem_of_getElem? (i := 1822) (by decide +kernel)⟩
theorem lw_p90 : lw_okq (⟨"ShoreGuardsModel", "granted", "()Z"⟩, 29) := ⟨⟨by decide +kernel, by decide +kernel⟩, List.mem_of_getElem? (i := 1192) (by decide +kernel), List.mem_of_getElem? (i := 1825) (by decide +kernel), List.mem_of_getElem? (i := 1826) (by decide +kernel)⟩
def lw_privs_6 : List (MethodName × Nat) := [(⟨"ShoreGuardsModel", "knownBy", "(I)I"⟩, 29), (⟨"ShoreGuardsModel", "refusesFear", "(I)I"⟩, 29), (⟨"ShoreGuardsModel", "lostBy", "(I)I"⟩, 29), (⟨"ShoreGuardsModel", "partOf", "(II)J"⟩, 29), (⟨"ShoreGuardsModel", "wholeOf", "(I)J"⟩, 29), (⟨"ShoreGuardsModel", "refusesSeed", "(ZII)I"⟩, 29), (⟨"ShoreGuardsModel", "afternoonsAll", "(II)V"⟩, 29), (⟨"ShoreGuardsModel", "changes", "(IZ)Z"⟩, 29), (⟨"ShoreGuardsModel", "denied", "(I)Z"⟩, 29), (⟨"ShoreGuardsModel", "remembers", "()V"⟩, 29), (⟨"ShoreGuardsModel", "granted", "()Z"⟩, 29)]
theorem lw_r6 : ∀ q ∈ lw_privs_6, lw_okq q := List.forall_mem_cons.mpr ⟨lw_p80, List.forall_mem_cons.mpr ⟨lw_p81, List.forall_mem_cons.mpr ⟨lw_p82, List.forall_mem_cons.mpr ⟨lw_p83, List.forall_mem_cons.mpr ⟨lw_p84, List.forall_mem_cons.mpr ⟨lw_p85, List.forall_mem_cons.mpr ⟨lw_p86, List.forall_mem_cons.mpr ⟨lw_p87, List.forall_mem_cons.mpr ⟨lw_p88, List.forall_mem_cons.mpr ⟨lw_p89, List.forall_mem_cons.mpr ⟨lw_p90, fun _ h => absurd h List.not_mem_nil⟩⟩⟩⟩⟩⟩⟩⟩⟩⟩⟩
def lw_privs : List (MethodName × Nat) := lw_privs_1 ++ (lw_privs_2 ++ (lw_privs_3 ++ (lw_privs_4 ++ (lw_privs_5 ++ (lw_privs_6)))))
def lw_tbl : List Cond := k2_sels lw_privs ++ tables_1
theorem lw_privs_ok : ∀ q ∈ lw_privs, lw_okq q := by
  show ∀ q ∈ lw_privs_1 ++ (lw_privs_2 ++ (lw_privs_3 ++ (lw_privs_4 ++ (lw_privs_5 ++ (lw_privs_6))))), lw_okq q
  exact List.forall_mem_append.mpr ⟨lw_r1, List.forall_mem_append.mpr ⟨lw_r2, List.forall_mem_append.mpr ⟨lw_r3, List.forall_mem_append.mpr ⟨lw_r4, List.forall_mem_append.mpr ⟨lw_r5, lw_r6⟩⟩⟩⟩⟩
def RX0 : String := "ShoreGuards$Alone"
def TX0 : u_T := fun k => match k with
  | 0 => ("ShoreGuards$Alone", "best", "[I", true)
  | 1 => ("ShoreGuards$Alone", "row", "[I", true)
  | 2 => ("ShoreGuards$Alone", "most", "I", false)
  | _ => ("ShoreGuards$Alone", "freeBehind", "I", false)
def tyX0 : Nat → FieldType := fun k => match k with
  | 0 => .array .int
  | 1 => .array .int
  | 2 => .int
  | _ => .int
abbrev wsX00 : List Cond := u_ws RX0 TX0 4
theorem nmX0 : ∀ a, a < 4 → ∀ b, b < 4 → a ≠ b → (TX0 a).2.1 ≠ (TX0 b).2.1 := by decide +kernel
theorem tyX0_ok : ∀ k, k < 4 → parseFieldDescriptor (TX0 k).2.2.1 = some (tyX0 k) := by decide +kernel
abbrev cX0_init : ByteArray := prog_2_method_1_code
def yX0_init : MethodName := ⟨RX0, "<init>", "()V"⟩
abbrev cX0_search : ByteArray := prog_2_method_2_code
def yX0_search : MethodName := ⟨RX0, "search", "(LShoreGuards$Shore;I)V"⟩
abbrev cX0_extend : ByteArray := prog_2_method_3_code
def yX0_extend : MethodName := ⟨RX0, "extend", "(LShoreGuards$Alone;LShoreGuards$Shore;IIII)V"⟩
abbrev cX0_take : ByteArray := prog_2_method_4_code
def yX0_take : MethodName := ⟨RX0, "take", "(II)V"⟩
def RX1 : String := "ShoreGuards$Chance"
def TX1 : u_T := fun k => match k with
  | 0 => ("ShoreGuards$Chance", "ways", "[J", true)
  | _ => ("ShoreGuards$Chance", "seed", "I", false)
def tyX1 : Nat → FieldType := fun k => match k with
  | 0 => .array .long
  | _ => .int
abbrev wsX10 : List Cond := u_ws RX1 TX1 2
theorem nmX1 : ∀ a, a < 2 → ∀ b, b < 2 → a ≠ b → (TX1 a).2.1 ≠ (TX1 b).2.1 := by decide +kernel
theorem tyX1_ok : ∀ k, k < 2 → parseFieldDescriptor (TX1 k).2.2.1 = some (tyX1 k) := by decide +kernel
abbrev cX1_init : ByteArray := prog_3_method_1_code
def yX1_init : MethodName := ⟨RX1, "<init>", "()V"⟩
abbrev cX1_nobodyLost : ByteArray := prog_3_method_2_code
def yX1_nobodyLost : MethodName := ⟨RX1, "nobodyLost", "(LShoreGuards$Shore;LShoreGuards$Ratio;)V"⟩
abbrev cX1_soManySink : ByteArray := prog_3_method_3_code
def yX1_soManySink : MethodName := ⟨RX1, "soManySink", "(LShoreGuards$Shore;ILShoreGuards$Ratio;)V"⟩
abbrev cX1_meanLost : ByteArray := prog_3_method_4_code
def yX1_meanLost : MethodName := ⟨RX1, "meanLost", "(LShoreGuards$Shore;LShoreGuards$Ratio;)V"⟩
abbrev cX1_timesLost : ByteArray := prog_3_method_5_code
def yX1_timesLost : MethodName := ⟨RX1, "timesLost", "(LShoreGuards$Shore;III)I"⟩
abbrev cX1_mostAtOnce : ByteArray := prog_3_method_6_code
def yX1_mostAtOnce : MethodName := ⟨RX1, "mostAtOnce", "(LShoreGuards$Shore;II)I"⟩
abbrev cX1_drawAfternoon : ByteArray := prog_3_method_7_code
def yX1_drawAfternoon : MethodName := ⟨RX1, "drawAfternoon", "(LShoreGuards$Shore;)I"⟩
abbrev cX1_isAtRisk : ByteArray := prog_3_method_8_code
def yX1_isAtRisk : MethodName := ⟨RX1, "isAtRisk", "(LShoreGuards$Shore;I)Z"⟩
def RX2 : String := "ShoreGuards$Past"
def TX2 : u_T := fun k => match k with
  | 0 => ("ShoreGuards$Past", "kept", "[LShoreGuards$Scene;", true)
  | 1 => ("ShoreGuards$Past", "pictures", "[LShoreGuards$Scene;", true)
  | 2 => ("ShoreGuards$Past", "newest", "I", false)
  | 3 => ("ShoreGuards$Past", "acts", "I", false)
  | _ => ("ShoreGuards$Past", "images", "I", false)
def tyX2 : Nat → FieldType := fun k => match k with
  | 0 => .array (.object "ShoreGuards$Scene")
  | 1 => .array (.object "ShoreGuards$Scene")
  | 2 => .int
  | 3 => .int
  | _ => .int
abbrev wsX20 : List Cond := u_ws RX2 TX2 5
theorem nmX2 : ∀ a, a < 5 → ∀ b, b < 5 → a ≠ b → (TX2 a).2.1 ≠ (TX2 b).2.1 := by decide +kernel
theorem tyX2_ok : ∀ k, k < 5 → parseFieldDescriptor (TX2 k).2.2.1 = some (tyX2 k) := by decide +kernel
abbrev cX2_init : ByteArray := prog_4_method_1_code
def yX2_init : MethodName := ⟨RX2, "<init>", "()V"⟩
abbrev cX2_forget : ByteArray := prog_4_method_2_code
def yX2_forget : MethodName := ⟨RX2, "forget", "()V"⟩
abbrev cX2_keep : ByteArray := prog_4_method_3_code
def yX2_keep : MethodName := ⟨RX2, "keep", "(LShoreGuards$Scene;)V"⟩
abbrev cX2_takeBack : ByteArray := prog_4_method_4_code
def yX2_takeBack : MethodName := ⟨RX2, "takeBack", "(LShoreGuards$Scene;)Z"⟩
abbrev cX2_keepImage : ByteArray := prog_4_method_5_code
def yX2_keepImage : MethodName := ⟨RX2, "keepImage", "(LShoreGuards$Scene;)I"⟩
abbrev cX2_bringBack : ByteArray := prog_4_method_6_code
def yX2_bringBack : MethodName := ⟨RX2, "bringBack", "(ILShoreGuards$Scene;)Z"⟩
def RX3 : String := "ShoreGuards$Ratio"
def TX3 : u_T := fun k => match k with
  | 0 => ("ShoreGuards$Ratio", "upper", "J", false)
  | _ => ("ShoreGuards$Ratio", "lower", "J", false)
def tyX3 : Nat → FieldType := fun k => match k with
  | 0 => .long
  | _ => .long
abbrev wsX30 : List Cond := u_ws RX3 TX3 2
theorem nmX3 : ∀ a, a < 2 → ∀ b, b < 2 → a ≠ b → (TX3 a).2.1 ≠ (TX3 b).2.1 := by decide +kernel
theorem tyX3_ok : ∀ k, k < 2 → parseFieldDescriptor (TX3 k).2.2.1 = some (tyX3 k) := by decide +kernel
abbrev cX3_init : ByteArray := prog_5_method_1_code
def yX3_init : MethodName := ⟨RX3, "<init>", "()V"⟩
abbrev cX3_reduce : ByteArray := prog_5_method_2_code
def yX3_reduce : MethodName := ⟨RX3, "reduce", "(JJ)V"⟩
abbrev cX3_commonDivisor : ByteArray := prog_5_method_3_code
def yX3_commonDivisor : MethodName := ⟨RX3, "commonDivisor", "(JJ)J"⟩
def RX4 : String := "ShoreGuards$Scene"
def TX4 : u_T := fun k => match k with
  | 0 => ("ShoreGuards$Scene", "place", "[I", true)
  | 1 => ("ShoreGuards$Scene", "manned", "I", false)
  | 2 => ("ShoreGuards$Scene", "lifted", "I", false)
  | _ => ("ShoreGuards$Scene", "minute", "I", false)
def tyX4 : Nat → FieldType := fun k => match k with
  | 0 => .array .int
  | 1 => .int
  | 2 => .int
  | _ => .int
abbrev wsX40 : List Cond := u_ws RX4 TX4 4
theorem nmX4 : ∀ a, a < 4 → ∀ b, b < 4 → a ≠ b → (TX4 a).2.1 ≠ (TX4 b).2.1 := by decide +kernel
theorem tyX4_ok : ∀ k, k < 4 → parseFieldDescriptor (TX4 k).2.2.1 = some (tyX4 k) := by decide +kernel
abbrev cX4_init : ByteArray := prog_6_method_1_code
def yX4_init : MethodName := ⟨RX4, "<init>", "()V"⟩
abbrev cX4_begin : ByteArray := prog_6_method_2_code
def yX4_begin : MethodName := ⟨RX4, "begin", "(LShoreGuards$Told;)V"⟩
abbrev cX4_copy : ByteArray := prog_6_method_3_code
def yX4_copy : MethodName := ⟨RX4, "copy", "(LShoreGuards$Scene;)V"⟩
def RX5 : String := "ShoreGuards$Seating"
def TX5 : u_T := fun k => match k with
  | 0 => ("ShoreGuards$Seating", "best", "[I", true)
  | 1 => ("ShoreGuards$Seating", "row", "[I", true)
  | 2 => ("ShoreGuards$Seating", "badSeats", "[I", true)
  | _ => ("ShoreGuards$Seating", "fewest", "I", false)
def tyX5 : Nat → FieldType := fun k => match k with
  | 0 => .array .int
  | 1 => .array .int
  | 2 => .array .int
  | _ => .int
abbrev wsX50 : List Cond := u_ws RX5 TX5 4
theorem nmX5 : ∀ a, a < 4 → ∀ b, b < 4 → a ≠ b → (TX5 a).2.1 ≠ (TX5 b).2.1 := by decide +kernel
theorem tyX5_ok : ∀ k, k < 4 → parseFieldDescriptor (TX5 k).2.2.1 = some (tyX5 k) := by decide +kernel
abbrev cX5_init : ByteArray := prog_7_method_1_code
def yX5_init : MethodName := ⟨RX5, "<init>", "()V"⟩
abbrev cX5_search : ByteArray := prog_7_method_2_code
def yX5_search : MethodName := ⟨RX5, "search", "(LShoreGuards$Shore;)V"⟩
abbrev cX5_badSeatsOf : ByteArray := prog_7_method_3_code
def yX5_badSeatsOf : MethodName := ⟨RX5, "badSeatsOf", "(LShoreGuards$Shore;I)I"⟩
abbrev cX5_extend : ByteArray := prog_7_method_4_code
def yX5_extend : MethodName := ⟨RX5, "extend", "(LShoreGuards$Seating;IIII)V"⟩
abbrev cX5_take : ByteArray := prog_7_method_5_code
def yX5_take : MethodName := ⟨RX5, "take", "(I)V"⟩
def RX6 : String := "ShoreGuards$Shore"
def TX6 : u_T := fun k => match k with
  | 0 => ("ShoreGuards$Shore", "now", "LShoreGuards$Scene;", true)
  | 1 => ("ShoreGuards$Shore", "nearBits", "[I", true)
  | 2 => ("ShoreGuards$Shore", "sinkAt", "[I", true)
  | 3 => ("ShoreGuards$Shore", "reachBits", "[I", true)
  | 4 => ("ShoreGuards$Shore", "trial", "[I", true)
  | 5 => ("ShoreGuards$Shore", "told", "LShoreGuards$Told;", false)
  | 6 => ("ShoreGuards$Shore", "sinkerBits", "I", false)
  | _ => ("ShoreGuards$Shore", "coveredBits", "I", false)
def tyX6 : Nat → FieldType := fun k => match k with
  | 0 => .object "ShoreGuards$Scene"
  | 1 => .array .int
  | 2 => .array .int
  | 3 => .array .int
  | 4 => .array .int
  | 5 => .object "ShoreGuards$Told"
  | 6 => .int
  | _ => .int
abbrev wsX60 : List Cond := u_ws RX6 TX6 8
theorem nmX6 : ∀ a, a < 8 → ∀ b, b < 8 → a ≠ b → (TX6 a).2.1 ≠ (TX6 b).2.1 := by decide +kernel
theorem tyX6_ok : ∀ k, k < 8 → parseFieldDescriptor (TX6 k).2.2.1 = some (tyX6 k) := by decide +kernel
abbrev cX6_init : ByteArray := prog_8_method_1_code
def yX6_init : MethodName := ⟨RX6, "<init>", "()V"⟩
abbrev cX6_begin : ByteArray := prog_8_method_2_code
def yX6_begin : MethodName := ⟨RX6, "begin", "(LShoreGuards$Told;)V"⟩
abbrev cX6_settle : ByteArray := prog_8_method_3_code
def yX6_settle : MethodName := ⟨RX6, "settle", "()V"⟩
abbrev cX6_nearIn : ByteArray := prog_8_method_4_code
def yX6_nearIn : MethodName := ⟨RX6, "nearIn", "([II)I"⟩
abbrev cX6_reachOf : ByteArray := prog_8_method_5_code
def yX6_reachOf : MethodName := ⟨RX6, "reachOf", "(I)I"⟩
abbrev cX6_ofPerson : ByteArray := prog_8_method_6_code
def yX6_ofPerson : MethodName := ⟨RX6, "ofPerson", "(II)I"⟩
abbrev cX6_ofPost : ByteArray := prog_8_method_7_code
def yX6_ofPost : MethodName := ⟨RX6, "ofPost", "(II)I"⟩
abbrev cX6_timeTo : ByteArray := prog_8_method_8_code
def yX6_timeTo : MethodName := ⟨RX6, "timeTo", "(II)I"⟩
abbrev cX6_reaches : ByteArray := prog_8_method_9_code
def yX6_reaches : MethodName := ⟨RX6, "reaches", "(II)Z"⟩
abbrev cX6_isManned : ByteArray := prog_8_method_10_code
def yX6_isManned : MethodName := ⟨RX6, "isManned", "(I)Z"⟩
abbrev cX6_sinks : ByteArray := prog_8_method_11_code
def yX6_sinks : MethodName := ⟨RX6, "sinks", "(I)Z"⟩
abbrev cX6_isUnder : ByteArray := prog_8_method_12_code
def yX6_isUnder : MethodName := ⟨RX6, "isUnder", "(II)Z"⟩
abbrev cX6_isLost : ByteArray := prog_8_method_13_code
def yX6_isLost : MethodName := ⟨RX6, "isLost", "(II)Z"⟩
abbrev cX6_everybody : ByteArray := prog_8_method_14_code
def yX6_everybody : MethodName := ⟨RX6, "everybody", "()I"⟩
abbrev cX6_firstSinker : ByteArray := prog_8_method_15_code
def yX6_firstSinker : MethodName := ⟨RX6, "firstSinker", "()I"⟩
abbrev cX6_underBits : ByteArray := prog_8_method_16_code
def yX6_underBits : MethodName := ⟨RX6, "underBits", "(I)I"⟩
abbrev cX6_lostBits : ByteArray := prog_8_method_17_code
def yX6_lostBits : MethodName := ⟨RX6, "lostBits", "(I)I"⟩
abbrev cX6_minuteOfMostUnder : ByteArray := prog_8_method_18_code
def yX6_minuteOfMostUnder : MethodName := ⟨RX6, "minuteOfMostUnder", "()I"⟩
abbrev cX6_minuteOfSoMany : ByteArray := prog_8_method_19_code
def yX6_minuteOfSoMany : MethodName := ⟨RX6, "minuteOfSoMany", "(I)I"⟩
abbrev cX6_nearestManned : ByteArray := prog_8_method_20_code
def yX6_nearestManned : MethodName := ⟨RX6, "nearestManned", "(I)I"⟩
abbrev cX6_isCovering : ByteArray := prog_8_method_21_code
def yX6_isCovering : MethodName := ⟨RX6, "isCovering", "(I)Z"⟩
abbrev cX6_fewestPosts : ByteArray := prog_8_method_22_code
def yX6_fewestPosts : MethodName := ⟨RX6, "fewestPosts", "()I"⟩
abbrev cX6_coveringSets : ByteArray := prog_8_method_23_code
def yX6_coveringSets : MethodName := ⟨RX6, "coveringSets", "()I"⟩
abbrev cX6_postOfMostMore : ByteArray := prog_8_method_24_code
def yX6_postOfMostMore : MethodName := ⟨RX6, "postOfMostMore", "()I"⟩
abbrev cX6_placeOfMostReached : ByteArray := prog_8_method_25_code
def yX6_placeOfMostReached : MethodName := ⟨RX6, "placeOfMostReached", "(I)I"⟩
abbrev cX6_leastLimit : ByteArray := prog_8_method_26_code
def yX6_leastLimit : MethodName := ⟨RX6, "leastLimit", "()I"⟩
abbrev cX6_placeOfFewestSinkers : ByteArray := prog_8_method_27_code
def yX6_placeOfFewestSinkers : MethodName := ⟨RX6, "placeOfFewestSinkers", "(I)I"⟩
abbrev cX6_sinkersOnTrial : ByteArray := prog_8_method_28_code
def yX6_sinkersOnTrial : MethodName := ⟨RX6, "sinkersOnTrial", "()I"⟩
def RX7 : String := "ShoreGuards$Signs"
def TX7 : u_T := fun k => match k with
  | 0 => ("ShoreGuards$Signs", "weight", "[J", true)
  | 1 => ("ShoreGuards$Signs", "people", "I", false)
  | _ => ("ShoreGuards$Signs", "total", "J", false)
def tyX7 : Nat → FieldType := fun k => match k with
  | 0 => .array .long
  | 1 => .int
  | _ => .long
abbrev wsX70 : List Cond := u_ws RX7 TX7 3
theorem nmX7 : ∀ a, a < 3 → ∀ b, b < 3 → a ≠ b → (TX7 a).2.1 ≠ (TX7 b).2.1 := by decide +kernel
theorem tyX7_ok : ∀ k, k < 3 → parseFieldDescriptor (TX7 k).2.2.1 = some (tyX7 k) := by decide +kernel
abbrev cX7_init : ByteArray := prog_9_method_1_code
def yX7_init : MethodName := ⟨RX7, "<init>", "()V"⟩
abbrev cX7_weigh : ByteArray := prog_9_method_2_code
def yX7_weigh : MethodName := ⟨RX7, "weigh", "(LShoreGuards$Told;)V"⟩
abbrev cX7_weightIfSinking : ByteArray := prog_9_method_3_code
def yX7_weightIfSinking : MethodName := ⟨RX7, "weightIfSinking", "(LShoreGuards$Told;I)J"⟩
abbrev cX7_weightOf : ByteArray := prog_9_method_4_code
def yX7_weightOf : MethodName := ⟨RX7, "weightOf", "(I)J"⟩
abbrev cX7_heaviest : ByteArray := prog_9_method_5_code
def yX7_heaviest : MethodName := ⟨RX7, "heaviest", "()I"⟩
abbrev cX7_fewestByHalf : ByteArray := prog_9_method_6_code
def yX7_fewestByHalf : MethodName := ⟨RX7, "fewestByHalf", "()I"⟩
def RX8 : String := "ShoreGuards$Tape"
def TX8 : u_T := fun k => match k with
  | 0 => ("ShoreGuards$Tape", "bytes", "[B", true)
  | _ => ("ShoreGuards$Tape", "length", "I", false)
def tyX8 : Nat → FieldType := fun k => match k with
  | 0 => .array .byte
  | _ => .int
abbrev wsX80 : List Cond := u_ws RX8 TX8 2
theorem nmX8 : ∀ a, a < 2 → ∀ b, b < 2 → a ≠ b → (TX8 a).2.1 ≠ (TX8 b).2.1 := by decide +kernel
theorem tyX8_ok : ∀ k, k < 2 → parseFieldDescriptor (TX8 k).2.2.1 = some (tyX8 k) := by decide +kernel
abbrev cX8_init : ByteArray := prog_10_method_1_code
def yX8_init : MethodName := ⟨RX8, "<init>", "()V"⟩
abbrev cX8_hasRoomFor : ByteArray := prog_10_method_2_code
def yX8_hasRoomFor : MethodName := ⟨RX8, "hasRoomFor", "(I)Z"⟩
abbrev cX8_put : ByteArray := prog_10_method_3_code
def yX8_put : MethodName := ⟨RX8, "put", "(I)V"⟩
def RX9 : String := "ShoreGuards$TextReader"
def TX9 : u_T := fun k => match k with
  | 0 => ("ShoreGuards$TextReader", "bytes", "[B", true)
  | 1 => ("ShoreGuards$TextReader", "nameStart", "[I", true)
  | 2 => ("ShoreGuards$TextReader", "nameLength", "[I", true)
  | 3 => ("ShoreGuards$TextReader", "nameNumber", "[I", true)
  | 4 => ("ShoreGuards$TextReader", "nameOfPerson", "[Z", true)
  | 5 => ("ShoreGuards$TextReader", "names", "I", false)
  | 6 => ("ShoreGuards$TextReader", "end", "I", false)
  | 7 => ("ShoreGuards$TextReader", "next", "I", false)
  | 8 => ("ShoreGuards$TextReader", "token", "I", false)
  | 9 => ("ShoreGuards$TextReader", "tokenStart", "I", false)
  | 10 => ("ShoreGuards$TextReader", "tokenLength", "I", false)
  | 11 => ("ShoreGuards$TextReader", "value", "I", false)
  | 12 => ("ShoreGuards$TextReader", "found", "I", false)
  | 13 => ("ShoreGuards$TextReader", "begun", "Z", false)
  | 14 => ("ShoreGuards$TextReader", "fault", "I", false)
  | _ => ("ShoreGuards$TextReader", "faultPlace", "I", false)
def tyX9 : Nat → FieldType := fun k => match k with
  | 0 => .array .byte
  | 1 => .array .int
  | 2 => .array .int
  | 3 => .array .int
  | 4 => .array .boolean
  | 5 => .int
  | 6 => .int
  | 7 => .int
  | 8 => .int
  | 9 => .int
  | 10 => .int
  | 11 => .int
  | 12 => .int
  | 13 => .boolean
  | 14 => .int
  | _ => .int
abbrev wsX90 : List Cond := u_ws RX9 TX9 16
theorem nmX9 : ∀ a, a < 16 → ∀ b, b < 16 → a ≠ b → (TX9 a).2.1 ≠ (TX9 b).2.1 := by decide +kernel
theorem tyX9_ok : ∀ k, k < 16 → parseFieldDescriptor (TX9 k).2.2.1 = some (tyX9 k) := by decide +kernel
abbrev cX9_init : ByteArray := prog_11_method_1_code
def yX9_init : MethodName := ⟨RX9, "<init>", "([B)V"⟩
abbrev cX9_read : ByteArray := prog_11_method_2_code
def yX9_read : MethodName := ⟨RX9, "read", "(ILShoreGuards$Told;)Z"⟩
abbrev cX9_readLine : ByteArray := prog_11_method_3_code
def yX9_readLine : MethodName := ⟨RX9, "readLine", "(LShoreGuards$Told;)Z"⟩
abbrev cX9_readBeach : ByteArray := prog_11_method_4_code
def yX9_readBeach : MethodName := ⟨RX9, "readBeach", "(LShoreGuards$Told;)Z"⟩
abbrev cX9_readPerson : ByteArray := prog_11_method_5_code
def yX9_readPerson : MethodName := ⟨RX9, "readPerson", "(LShoreGuards$Told;)Z"⟩
abbrev cX9_readPost : ByteArray := prog_11_method_6_code
def yX9_readPost : MethodName := ⟨RX9, "readPost", "(LShoreGuards$Told;)Z"⟩
abbrev cX9_readManned : ByteArray := prog_11_method_7_code
def yX9_readManned : MethodName := ⟨RX9, "readManned", "(LShoreGuards$Told;)Z"⟩
abbrev cX9_readKnows : ByteArray := prog_11_method_8_code
def yX9_readKnows : MethodName := ⟨RX9, "readKnows", "(LShoreGuards$Told;)Z"⟩
abbrev cX9_readSign : ByteArray := prog_11_method_9_code
def yX9_readSign : MethodName := ⟨RX9, "readSign", "(LShoreGuards$Told;I)Z"⟩
abbrev cX9_labelled : ByteArray := prog_11_method_10_code
def yX9_labelled : MethodName := ⟨RX9, "labelled", "(Ljava/lang/String;II)Z"⟩
abbrev cX9_newName : ByteArray := prog_11_method_11_code
def yX9_newName : MethodName := ⟨RX9, "newName", "(ZI)Z"⟩
abbrev cX9_toldName : ByteArray := prog_11_method_12_code
def yX9_toldName : MethodName := ⟨RX9, "toldName", "(Z)Z"⟩
abbrev cX9_nameIndex : ByteArray := prog_11_method_13_code
def yX9_nameIndex : MethodName := ⟨RX9, "nameIndex", "()I"⟩
abbrev cX9_isSameText : ByteArray := prog_11_method_14_code
def yX9_isSameText : MethodName := ⟨RX9, "isSameText", "(I)Z"⟩
abbrev cX9_kindTold : ByteArray := prog_11_method_15_code
def yX9_kindTold : MethodName := ⟨RX9, "kindTold", "()I"⟩
abbrev cX9_isLineWord : ByteArray := prog_11_method_16_code
def yX9_isLineWord : MethodName := ⟨RX9, "isLineWord", "()Z"⟩
abbrev cX9_isWord : ByteArray := prog_11_method_17_code
def yX9_isWord : MethodName := ⟨RX9, "isWord", "(Ljava/lang/String;)Z"⟩
abbrev cX9_wholeValue : ByteArray := prog_11_method_18_code
def yX9_wholeValue : MethodName := ⟨RX9, "wholeValue", "()I"⟩
abbrev cX9_advance : ByteArray := prog_11_method_19_code
def yX9_advance : MethodName := ⟨RX9, "advance", "()V"⟩
abbrev cX9_fail : ByteArray := prog_11_method_20_code
def yX9_fail : MethodName := ⟨RX9, "fail", "(I)Z"⟩
abbrev cX9_isLetter : ByteArray := prog_11_method_21_code
def yX9_isLetter : MethodName := ⟨RX9, "isLetter", "(I)Z"⟩
abbrev cX9_isDigit : ByteArray := prog_11_method_22_code
def yX9_isDigit : MethodName := ⟨RX9, "isDigit", "(I)Z"⟩
def RX10 : String := "ShoreGuards$Told"
def TX10 : u_T := fun k => match k with
  | 0 => ("ShoreGuards$Told", "kind", "[I", true)
  | 1 => ("ShoreGuards$Told", "place", "[I", true)
  | 2 => ("ShoreGuards$Told", "thought", "[I", true)
  | 3 => ("ShoreGuards$Told", "by", "[I", true)
  | 4 => ("ShoreGuards$Told", "knows", "[I", true)
  | 5 => ("ShoreGuards$Told", "sign", "[I", true)
  | 6 => ("ShoreGuards$Told", "postPlace", "[I", true)
  | 7 => ("ShoreGuards$Told", "postOff", "[I", true)
  | 8 => ("ShoreGuards$Told", "limit", "I", false)
  | 9 => ("ShoreGuards$Told", "heat", "I", false)
  | 10 => ("ShoreGuards$Told", "slips", "I", false)
  | 11 => ("ShoreGuards$Told", "people", "I", false)
  | 12 => ("ShoreGuards$Told", "posts", "I", false)
  | 13 => ("ShoreGuards$Told", "manned", "I", false)
  | 14 => ("ShoreGuards$Told", "knowings", "I", false)
  | _ => ("ShoreGuards$Told", "signsTold", "I", false)
def tyX10 : Nat → FieldType := fun k => match k with
  | 0 => .array .int
  | 1 => .array .int
  | 2 => .array .int
  | 3 => .array .int
  | 4 => .array .int
  | 5 => .array .int
  | 6 => .array .int
  | 7 => .array .int
  | 8 => .int
  | 9 => .int
  | 10 => .int
  | 11 => .int
  | 12 => .int
  | 13 => .int
  | 14 => .int
  | _ => .int
abbrev wsX100 : List Cond := u_ws RX10 TX10 16
theorem nmX10 : ∀ a, a < 16 → ∀ b, b < 16 → a ≠ b → (TX10 a).2.1 ≠ (TX10 b).2.1 := by decide +kernel
theorem tyX10_ok : ∀ k, k < 16 → parseFieldDescriptor (TX10 k).2.2.1 = some (tyX10 k) := by decide +kernel
abbrev cX10_init : ByteArray := prog_12_method_1_code
def yX10_init : MethodName := ⟨RX10, "<init>", "()V"⟩
abbrev cX10_clear : ByteArray := prog_12_method_2_code
def yX10_clear : MethodName := ⟨RX10, "clear", "()V"⟩
abbrev cX10_count : ByteArray := prog_12_method_3_code
def yX10_count : MethodName := ⟨RX10, "count", "(I)I"⟩
abbrev cX10_sinkMinute : ByteArray := prog_12_method_4_code
def yX10_sinkMinute : MethodName := ⟨RX10, "sinkMinute", "(II)I"⟩
abbrev cX10_fewestTaught : ByteArray := prog_12_method_5_code
def yX10_fewestTaught : MethodName := ⟨RX10, "fewestTaught", "()I"⟩
abbrev cX10_hearersOf : ByteArray := prog_12_method_6_code
def yX10_hearersOf : MethodName := ⟨RX10, "hearersOf", "(I)I"⟩
abbrev cX10_knownBy : ByteArray := prog_12_method_7_code
def yX10_knownBy : MethodName := ⟨RX10, "knownBy", "(I)I"⟩
def RX11 : String := "ShoreGuards"
def TX11 : u_T := fun k => match k with
  | 0 => ("ShoreGuards", "tape", "LShoreGuards$Tape;", true)
  | 1 => ("ShoreGuards", "reader", "LShoreGuards$TextReader;", true)
  | 2 => ("ShoreGuards", "shore", "LShoreGuards$Shore;", true)
  | 3 => ("ShoreGuards", "past", "LShoreGuards$Past;", true)
  | 4 => ("ShoreGuards", "lone", "LShoreGuards$Alone;", true)
  | 5 => ("ShoreGuards", "seating", "LShoreGuards$Seating;", true)
  | 6 => ("ShoreGuards", "signs", "LShoreGuards$Signs;", true)
  | 7 => ("ShoreGuards", "chance", "LShoreGuards$Chance;", true)
  | 8 => ("ShoreGuards", "ratio", "LShoreGuards$Ratio;", true)
  | 9 => ("ShoreGuards", "draft", "LShoreGuards$Told;", false)
  | 10 => ("ShoreGuards", "hasBeach", "Z", false)
  | _ => ("ShoreGuards", "latestTrouble", "I", false)
def tyX11 : Nat → FieldType := fun k => match k with
  | 0 => .object "ShoreGuards$Tape"
  | 1 => .object "ShoreGuards$TextReader"
  | 2 => .object "ShoreGuards$Shore"
  | 3 => .object "ShoreGuards$Past"
  | 4 => .object "ShoreGuards$Alone"
  | 5 => .object "ShoreGuards$Seating"
  | 6 => .object "ShoreGuards$Signs"
  | 7 => .object "ShoreGuards$Chance"
  | 8 => .object "ShoreGuards$Ratio"
  | 9 => .object "ShoreGuards$Told"
  | 10 => .boolean
  | _ => .int
abbrev wsX110 : List Cond := u_ws RX11 TX11 12
theorem nmX11 : ∀ a, a < 12 → ∀ b, b < 12 → a ≠ b → (TX11 a).2.1 ≠ (TX11 b).2.1 := by decide +kernel
theorem tyX11_ok : ∀ k, k < 12 → parseFieldDescriptor (TX11 k).2.2.1 = some (tyX11 k) := by decide +kernel
abbrev cX11_init : ByteArray := prog_1_method_1_code
def yX11_init : MethodName := ⟨RX11, "<init>", "()V"⟩
abbrev cX11_feed : ByteArray := prog_1_method_2_code
def yX11_feed : MethodName := ⟨RX11, "feed", "(IIIII)I"⟩
abbrev cX11_beach : ByteArray := prog_1_method_3_code
def yX11_beach : MethodName := ⟨RX11, "beach", "(I)I"⟩
abbrev cX11_fault : ByteArray := prog_1_method_4_code
def yX11_fault : MethodName := ⟨RX11, "fault", "()I"⟩
abbrev cX11_where : ByteArray := prog_1_method_5_code
def yX11_where : MethodName := ⟨RX11, "where", "()I"⟩
abbrev cX11_person : ByteArray := prog_1_method_6_code
def yX11_person : MethodName := ⟨RX11, "person", "(II)I"⟩
abbrev cX11_post : ByteArray := prog_1_method_7_code
def yX11_post : MethodName := ⟨RX11, "post", "(II)I"⟩
abbrev cX11_time : ByteArray := prog_1_method_8_code
def yX11_time : MethodName := ⟨RX11, "time", "(II)I"⟩
abbrev cX11_sinkers : ByteArray := prog_1_method_9_code
def yX11_sinkers : MethodName := ⟨RX11, "sinkers", "()I"⟩
abbrev cX11_first : ByteArray := prog_1_method_10_code
def yX11_first : MethodName := ⟨RX11, "first", "()I"⟩
abbrev cX11_under : ByteArray := prog_1_method_11_code
def yX11_under : MethodName := ⟨RX11, "under", "(I)I"⟩
abbrev cX11_lost : ByteArray := prog_1_method_12_code
def yX11_lost : MethodName := ⟨RX11, "lost", "(I)I"⟩
abbrev cX11_worstMinute : ByteArray := prog_1_method_13_code
def yX11_worstMinute : MethodName := ⟨RX11, "worstMinute", "()I"⟩
abbrev cX11_reached : ByteArray := prog_1_method_14_code
def yX11_reached : MethodName := ⟨RX11, "reached", "()I"⟩
abbrev cX11_nearest : ByteArray := prog_1_method_15_code
def yX11_nearest : MethodName := ⟨RX11, "nearest", "(I)I"⟩
abbrev cX11_cover : ByteArray := prog_1_method_16_code
def yX11_cover : MethodName := ⟨RX11, "cover", "()I"⟩
abbrev cX11_covers : ByteArray := prog_1_method_17_code
def yX11_covers : MethodName := ⟨RX11, "covers", "()I"⟩
abbrev cX11_bestPost : ByteArray := prog_1_method_18_code
def yX11_bestPost : MethodName := ⟨RX11, "bestPost", "()I"⟩
abbrev cX11_bestPlace : ByteArray := prog_1_method_19_code
def yX11_bestPlace : MethodName := ⟨RX11, "bestPlace", "(I)I"⟩
abbrev cX11_limitFor : ByteArray := prog_1_method_20_code
def yX11_limitFor : MethodName := ⟨RX11, "limitFor", "()I"⟩
abbrev cX11_alone : ByteArray := prog_1_method_21_code
def yX11_alone : MethodName := ⟨RX11, "alone", "(I)I"⟩
abbrev cX11_aloneAt : ByteArray := prog_1_method_22_code
def yX11_aloneAt : MethodName := ⟨RX11, "aloneAt", "(II)I"⟩
abbrev cX11_aloneFree : ByteArray := prog_1_method_23_code
def yX11_aloneFree : MethodName := ⟨RX11, "aloneFree", "(I)I"⟩
abbrev cX11_bestAlone : ByteArray := prog_1_method_24_code
def yX11_bestAlone : MethodName := ⟨RX11, "bestAlone", "()I"⟩
abbrev cX11_seats : ByteArray := prog_1_method_25_code
def yX11_seats : MethodName := ⟨RX11, "seats", "()I"⟩
abbrev cX11_seatOf : ByteArray := prog_1_method_26_code
def yX11_seatOf : MethodName := ⟨RX11, "seatOf", "(I)I"⟩
abbrev cX11_company : ByteArray := prog_1_method_27_code
def yX11_company : MethodName := ⟨RX11, "company", "(I)I"⟩
abbrev cX11_odds : ByteArray := prog_1_method_28_code
def yX11_odds : MethodName := ⟨RX11, "odds", "(IZ)J"⟩
abbrev cX11_likeliest : ByteArray := prog_1_method_29_code
def yX11_likeliest : MethodName := ⟨RX11, "likeliest", "()I"⟩
abbrev cX11_among : ByteArray := prog_1_method_30_code
def yX11_among : MethodName := ⟨RX11, "among", "(IZ)J"⟩
abbrev cX11_suspects : ByteArray := prog_1_method_31_code
def yX11_suspects : MethodName := ⟨RX11, "suspects", "()I"⟩
abbrev cX11_flag : ByteArray := prog_1_method_32_code
def yX11_flag : MethodName := ⟨RX11, "flag", "(I)I"⟩
abbrev cX11_teach : ByteArray := prog_1_method_33_code
def yX11_teach : MethodName := ⟨RX11, "teach", "()I"⟩
abbrev cX11_hears : ByteArray := prog_1_method_34_code
def yX11_hears : MethodName := ⟨RX11, "hears", "(I)I"⟩
abbrev cX11_looks : ByteArray := prog_1_method_35_code
def yX11_looks : MethodName := ⟨RX11, "looks", "(IZZZ)I"⟩
abbrev cX11_rests : ByteArray := prog_1_method_36_code
def yX11_rests : MethodName := ⟨RX11, "rests", "(I)I"⟩
abbrev cX11_rest : ByteArray := prog_1_method_37_code
def yX11_rest : MethodName := ⟨RX11, "rest", "(I)I"⟩
abbrev cX11_safe : ByteArray := prog_1_method_38_code
def yX11_safe : MethodName := ⟨RX11, "safe", "(Z)J"⟩
abbrev cX11_sinking : ByteArray := prog_1_method_39_code
def yX11_sinking : MethodName := ⟨RX11, "sinking", "(IZ)J"⟩
abbrev cX11_mean : ByteArray := prog_1_method_40_code
def yX11_mean : MethodName := ⟨RX11, "mean", "(Z)J"⟩
abbrev cX11_afternoons : ByteArray := prog_1_method_41_code
def yX11_afternoons : MethodName := ⟨RX11, "afternoons", "(III)I"⟩
abbrev cX11_worst : ByteArray := prog_1_method_42_code
def yX11_worst : MethodName := ⟨RX11, "worst", "(II)I"⟩
abbrev cX11_man : ByteArray := prog_1_method_43_code
def yX11_man : MethodName := ⟨RX11, "man", "(I)Z"⟩
abbrev cX11_leave : ByteArray := prog_1_method_44_code
def yX11_leave : MethodName := ⟨RX11, "leave", "(I)Z"⟩
abbrev cX11_seat : ByteArray := prog_1_method_45_code
def yX11_seat : MethodName := ⟨RX11, "seat", "(II)I"⟩
abbrev cX11_minute : ByteArray := prog_1_method_46_code
def yX11_minute : MethodName := ⟨RX11, "minute", "(I)I"⟩
abbrev cX11_lift : ByteArray := prog_1_method_47_code
def yX11_lift : MethodName := ⟨RX11, "lift", "(I)I"⟩
abbrev cX11_undo : ByteArray := prog_1_method_48_code
def yX11_undo : MethodName := ⟨RX11, "undo", "()Z"⟩
abbrev cX11_image : ByteArray := prog_1_method_49_code
def yX11_image : MethodName := ⟨RX11, "image", "()I"⟩
abbrev cX11_back : ByteArray := prog_1_method_50_code
def yX11_back : MethodName := ⟨RX11, "back", "(I)Z"⟩
abbrev cX11_led : ByteArray := prog_1_method_51_code
def yX11_led : MethodName := ⟨RX11, "led", "(I)I"⟩
abbrev cX11_size : ByteArray := prog_1_method_52_code
def yX11_size : MethodName := ⟨RX11, "size", "(I)I"⟩
abbrev cX11_trouble : ByteArray := prog_1_method_53_code
def yX11_trouble : MethodName := ⟨RX11, "trouble", "()I"⟩
abbrev cX11_refuse : ByteArray := prog_1_method_54_code
def yX11_refuse : MethodName := ⟨RX11, "refuse", "(I)I"⟩
abbrev cX11_deny : ByteArray := prog_1_method_55_code
def yX11_deny : MethodName := ⟨RX11, "deny", "(I)Z"⟩
abbrev cX11_grant : ByteArray := prog_1_method_56_code
def yX11_grant : MethodName := ⟨RX11, "grant", "(I)I"⟩
abbrev cX11_grantRatio : ByteArray := prog_1_method_57_code
def yX11_grantRatio : MethodName := ⟨RX11, "grantRatio", "(Z)J"⟩
abbrev cX11_acted : ByteArray := prog_1_method_58_code
def yX11_acted : MethodName := ⟨RX11, "acted", "()Z"⟩
abbrev cX11_isPerson : ByteArray := prog_1_method_59_code
def yX11_isPerson : MethodName := ⟨RX11, "isPerson", "(I)Z"⟩
abbrev cX11_isPost : ByteArray := prog_1_method_60_code
def yX11_isPost : MethodName := ⟨RX11, "isPost", "(I)Z"⟩
abbrev cX11_isAskedMinute : ByteArray := prog_1_method_61_code
def yX11_isAskedMinute : MethodName := ⟨RX11, "isAskedMinute", "(I)Z"⟩
abbrev cX11_isFear : ByteArray := prog_1_method_62_code
def yX11_isFear : MethodName := ⟨RX11, "isFear", "(I)Z"⟩
abbrev cX11_isDraws : ByteArray := prog_1_method_63_code
def yX11_isDraws : MethodName := ⟨RX11, "isDraws", "(II)Z"⟩
abbrev cX11_has : ByteArray := prog_1_method_64_code
def yX11_has : MethodName := ⟨RX11, "has", "(II)Z"⟩
abbrev cX11_gain : ByteArray := prog_1_method_65_code
def yX11_gain : MethodName := ⟨RX11, "gain", "(IZZ)I"⟩
abbrev cX11_isRest : ByteArray := prog_1_method_66_code
def yX11_isRest : MethodName := ⟨RX11, "isRest", "(IZZ)Z"⟩
def RX12 : String := "ShoreGuardsModel$Beach"
def TX12 : u_T := fun k => match k with
  | 0 => ("ShoreGuardsModel$Beach", "limit", "I", false)
  | 1 => ("ShoreGuardsModel$Beach", "heat", "I", false)
  | 2 => ("ShoreGuardsModel$Beach", "slips", "I", false)
  | 3 => ("ShoreGuardsModel$Beach", "people", "I", false)
  | 4 => ("ShoreGuardsModel$Beach", "posts", "I", false)
  | 5 => ("ShoreGuardsModel$Beach", "manned", "I", false)
  | 6 => ("ShoreGuardsModel$Beach", "knowings", "I", false)
  | 7 => ("ShoreGuardsModel$Beach", "signs", "I", false)
  | 8 => ("ShoreGuardsModel$Beach", "names", "I", false)
  | 9 => ("ShoreGuardsModel$Beach", "kind", "[I", true)
  | 10 => ("ShoreGuardsModel$Beach", "at", "[I", true)
  | 11 => ("ShoreGuardsModel$Beach", "thought", "[I", true)
  | 12 => ("ShoreGuardsModel$Beach", "by", "[I", true)
  | 13 => ("ShoreGuardsModel$Beach", "knows", "[I", true)
  | 14 => ("ShoreGuardsModel$Beach", "sign", "[I", true)
  | 15 => ("ShoreGuardsModel$Beach", "post", "[I", true)
  | 16 => ("ShoreGuardsModel$Beach", "off", "[I", true)
  | 17 => ("ShoreGuardsModel$Beach", "name", "[J", true)
  | 18 => ("ShoreGuardsModel$Beach", "nameSort", "[I", true)
  | _ => ("ShoreGuardsModel$Beach", "numberOf", "[I", true)
def tyX12 : Nat → FieldType := fun k => match k with
  | 0 => .int
  | 1 => .int
  | 2 => .int
  | 3 => .int
  | 4 => .int
  | 5 => .int
  | 6 => .int
  | 7 => .int
  | 8 => .int
  | 9 => .array .int
  | 10 => .array .int
  | 11 => .array .int
  | 12 => .array .int
  | 13 => .array .int
  | 14 => .array .int
  | 15 => .array .int
  | 16 => .array .int
  | 17 => .array .long
  | 18 => .array .int
  | _ => .array .int
abbrev wsX120 : List Cond := u_ws RX12 TX12 20
theorem nmX12 : ∀ a, a < 20 → ∀ b, b < 20 → a ≠ b → (TX12 a).2.1 ≠ (TX12 b).2.1 := by decide +kernel
theorem tyX12_ok : ∀ k, k < 20 → parseFieldDescriptor (TX12 k).2.2.1 = some (tyX12 k) := by decide +kernel
abbrev cX12_init : ByteArray := prog_15_method_1_code
def yX12_init : MethodName := ⟨RX12, "<init>", "()V"⟩
abbrev cX12_find : ByteArray := prog_15_method_2_code
def yX12_find : MethodName := ⟨RX12, "find", "(J)I"⟩
def RX13 : String := "ShoreGuardsModel"
def TX13 : u_T := fun k => match k with
  | 0 => ("ShoreGuardsModel", "thrown", "I", false)
  | 1 => ("ShoreGuardsModel", "trouble", "I", false)
  | 2 => ("ShoreGuardsModel", "where", "I", false)
  | 3 => ("ShoreGuardsModel", "beach", "LShoreGuardsModel$Beach;", false)
  | 4 => ("ShoreGuardsModel", "read", "LShoreGuardsModel$Beach;", false)
  | 5 => ("ShoreGuardsModel", "tape", "[B", true)
  | 6 => ("ShoreGuardsModel", "taped", "I", false)
  | 7 => ("ShoreGuardsModel", "size", "I", false)
  | 8 => ("ShoreGuardsModel", "spot", "I", false)
  | 9 => ("ShoreGuardsModel", "sort", "I", false)
  | 10 => ("ShoreGuardsModel", "place", "I", false)
  | 11 => ("ShoreGuardsModel", "number", "I", false)
  | 12 => ("ShoreGuardsModel", "fault", "I", false)
  | 13 => ("ShoreGuardsModel", "wrongAt", "I", false)
  | 14 => ("ShoreGuardsModel", "word", "J", false)
  | 15 => ("ShoreGuardsModel", "v", "[I", true)
  | 16 => ("ShoreGuardsModel", "x", "[I", true)
  | 17 => ("ShoreGuardsModel", "past", "[I", true)
  | 18 => ("ShoreGuardsModel", "kept", "[I", true)
  | 19 => ("ShoreGuardsModel", "acts", "I", false)
  | 20 => ("ShoreGuardsModel", "images", "I", false)
  | 21 => ("ShoreGuardsModel", "row", "[I", true)
  | 22 => ("ShoreGuardsModel", "free", "[I", true)
  | 23 => ("ShoreGuardsModel", "bestRow", "[I", true)
  | 24 => ("ShoreGuardsModel", "bestFree", "I", false)
  | 25 => ("ShoreGuardsModel", "order", "[I", true)
  | 26 => ("ShoreGuardsModel", "bestOrder", "[I", true)
  | 27 => ("ShoreGuardsModel", "lostIn", "[I", true)
  | _ => ("ShoreGuardsModel", "worstNow", "I", false)
def tyX13 : Nat → FieldType := fun k => match k with
  | 0 => .int
  | 1 => .int
  | 2 => .int
  | 3 => .object "ShoreGuardsModel$Beach"
  | 4 => .object "ShoreGuardsModel$Beach"
  | 5 => .array .byte
  | 6 => .int
  | 7 => .int
  | 8 => .int
  | 9 => .int
  | 10 => .int
  | 11 => .int
  | 12 => .int
  | 13 => .int
  | 14 => .long
  | 15 => .array .int
  | 16 => .array .int
  | 17 => .array .int
  | 18 => .array .int
  | 19 => .int
  | 20 => .int
  | 21 => .array .int
  | 22 => .array .int
  | 23 => .array .int
  | 24 => .int
  | 25 => .array .int
  | 26 => .array .int
  | 27 => .array .int
  | _ => .int
abbrev wsX130 : List Cond := u_ws RX13 TX13 29
theorem nmX13 : ∀ a, a < 29 → ∀ b, b < 29 → a ≠ b → (TX13 a).2.1 ≠ (TX13 b).2.1 := by decide +kernel
theorem tyX13_ok : ∀ k, k < 29 → parseFieldDescriptor (TX13 k).2.2.1 = some (tyX13 k) := by decide +kernel
abbrev cX13_init : ByteArray := prog_14_method_1_code
def yX13_init : MethodName := ⟨RX13, "<init>", "()V"⟩
abbrev cX13_thrown : ByteArray := prog_14_method_2_code
def yX13_thrown : MethodName := ⟨RX13, "thrown", "()I"⟩
abbrev cX13_refused : ByteArray := prog_14_method_3_code
def yX13_refused : MethodName := ⟨RX13, "refused", "(I)I"⟩
abbrev cX13_lostBy : ByteArray := prog_14_method_4_code
def yX13_lostBy : MethodName := ⟨RX13, "lostBy", "(I)I"⟩
abbrev cX13_denied : ByteArray := prog_14_method_5_code
def yX13_denied : MethodName := ⟨RX13, "denied", "(I)Z"⟩
abbrev cX13_good : ByteArray := prog_14_method_6_code
def yX13_good : MethodName := ⟨RX13, "good", "(I)I"⟩
abbrev cX13_granted : ByteArray := prog_14_method_7_code
def yX13_granted : MethodName := ⟨RX13, "granted", "()Z"⟩
abbrev cX13_in : ByteArray := prog_14_method_8_code
def yX13_in : MethodName := ⟨RX13, "in", "(III)Z"⟩
abbrev cX13_bit : ByteArray := prog_14_method_9_code
def yX13_bit : MethodName := ⟨RX13, "bit", "(II)Z"⟩
abbrev cX13_bits : ByteArray := prog_14_method_10_code
def yX13_bits : MethodName := ⟨RX13, "bits", "(I)I"⟩
abbrev cX13_off : ByteArray := prog_14_method_11_code
def yX13_off : MethodName := ⟨RX13, "off", "(II)I"⟩
abbrev cX13_common : ByteArray := prog_14_method_12_code
def yX13_common : MethodName := ⟨RX13, "common", "(JJ)J"⟩
abbrev cX13_fraction : ByteArray := prog_14_method_13_code
def yX13_fraction : MethodName := ⟨RX13, "fraction", "(JJZ)J"⟩
abbrev cX13_byteAt : ByteArray := prog_14_method_14_code
def yX13_byteAt : MethodName := ⟨RX13, "byteAt", "(I)I"⟩
abbrev cX13_isLetter : ByteArray := prog_14_method_15_code
def yX13_isLetter : MethodName := ⟨RX13, "isLetter", "(I)Z"⟩
abbrev cX13_isDigit : ByteArray := prog_14_method_16_code
def yX13_isDigit : MethodName := ⟨RX13, "isDigit", "(I)Z"⟩
abbrev cX13_packed : ByteArray := prog_14_method_17_code
def yX13_packed : MethodName := ⟨RX13, "packed", "(Ljava/lang/String;)J"⟩
abbrev cX13_goesOn : ByteArray := prog_14_method_18_code
def yX13_goesOn : MethodName := ⟨RX13, "goesOn", "()V"⟩
abbrev cX13_flaw : ByteArray := prog_14_method_19_code
def yX13_flaw : MethodName := ⟨RX13, "flaw", "(I)V"⟩
abbrev cX13_isWord : ByteArray := prog_14_method_20_code
def yX13_isWord : MethodName := ⟨RX13, "isWord", "(Ljava/lang/String;)Z"⟩
abbrev cX13_eatsSemicolon : ByteArray := prog_14_method_21_code
def yX13_eatsSemicolon : MethodName := ⟨RX13, "eatsSemicolon", "()Z"⟩
abbrev cX13_needs : ByteArray := prog_14_method_22_code
def yX13_needs : MethodName := ⟨RX13, "needs", "(Ljava/lang/String;)V"⟩
abbrev cX13_readPart : ByteArray := prog_14_method_23_code
def yX13_readPart : MethodName := ⟨RX13, "readPart", "(Ljava/lang/String;II)I"⟩
abbrev cX13_isName : ByteArray := prog_14_method_24_code
def yX13_isName : MethodName := ⟨RX13, "isName", "()Z"⟩
abbrev cX13_lineBegins : ByteArray := prog_14_method_25_code
def yX13_lineBegins : MethodName := ⟨RX13, "lineBegins", "(II)V"⟩
abbrev cX13_readFresh : ByteArray := prog_14_method_26_code
def yX13_readFresh : MethodName := ⟨RX13, "readFresh", "()J"⟩
abbrev cX13_names : ByteArray := prog_14_method_27_code
def yX13_names : MethodName := ⟨RX13, "names", "(JII)V"⟩
abbrev cX13_knownOne : ByteArray := prog_14_method_28_code
def yX13_knownOne : MethodName := ⟨RX13, "knownOne", "(I)I"⟩
abbrev cX13_readAll : ByteArray := prog_14_method_29_code
def yX13_readAll : MethodName := ⟨RX13, "readAll", "()V"⟩
abbrev cX13_readLine : ByteArray := prog_14_method_30_code
def yX13_readLine : MethodName := ⟨RX13, "readLine", "()V"⟩
abbrev cX13_readBeach : ByteArray := prog_14_method_31_code
def yX13_readBeach : MethodName := ⟨RX13, "readBeach", "()V"⟩
abbrev cX13_readPerson : ByteArray := prog_14_method_32_code
def yX13_readPerson : MethodName := ⟨RX13, "readPerson", "()V"⟩
abbrev cX13_readPost : ByteArray := prog_14_method_33_code
def yX13_readPost : MethodName := ⟨RX13, "readPost", "()V"⟩
abbrev cX13_readManned : ByteArray := prog_14_method_34_code
def yX13_readManned : MethodName := ⟨RX13, "readManned", "()V"⟩
abbrev cX13_readKnows : ByteArray := prog_14_method_35_code
def yX13_readKnows : MethodName := ⟨RX13, "readKnows", "()V"⟩
abbrev cX13_readSign : ByteArray := prog_14_method_36_code
def yX13_readSign : MethodName := ⟨RX13, "readSign", "(I)V"⟩
abbrev cX13_feed : ByteArray := prog_14_method_37_code
def yX13_feed : MethodName := ⟨RX13, "feed", "(IIIII)I"⟩
abbrev cX13_beach : ByteArray := prog_14_method_38_code
def yX13_beach : MethodName := ⟨RX13, "beach", "(I)I"⟩
abbrev cX13_fault : ByteArray := prog_14_method_39_code
def yX13_fault : MethodName := ⟨RX13, "fault", "()I"⟩
abbrev cX13_where : ByteArray := prog_14_method_40_code
def yX13_where : MethodName := ⟨RX13, "where", "()I"⟩
abbrev cX13_isPerson : ByteArray := prog_14_method_41_code
def yX13_isPerson : MethodName := ⟨RX13, "isPerson", "(I)Z"⟩
abbrev cX13_isPost : ByteArray := prog_14_method_42_code
def yX13_isPost : MethodName := ⟨RX13, "isPost", "(I)Z"⟩
abbrev cX13_works : ByteArray := prog_14_method_43_code
def yX13_works : MethodName := ⟨RX13, "works", "()V"⟩
abbrev cX13_nearTo : ByteArray := prog_14_method_44_code
def yX13_nearTo : MethodName := ⟨RX13, "nearTo", "(I)I"⟩
abbrev cX13_sinksAt : ByteArray := prog_14_method_45_code
def yX13_sinksAt : MethodName := ⟨RX13, "sinksAt", "(I)I"⟩
abbrev cX13_sinkersNow : ByteArray := prog_14_method_46_code
def yX13_sinkersNow : MethodName := ⟨RX13, "sinkersNow", "()I"⟩
abbrev cX13_timeTo : ByteArray := prog_14_method_47_code
def yX13_timeTo : MethodName := ⟨RX13, "timeTo", "(II)I"⟩
abbrev cX13_reaches : ByteArray := prog_14_method_48_code
def yX13_reaches : MethodName := ⟨RX13, "reaches", "(I)I"⟩
abbrev cX13_reachedBy : ByteArray := prog_14_method_49_code
def yX13_reachedBy : MethodName := ⟨RX13, "reachedBy", "(I)I"⟩
abbrev cX13_unreached : ByteArray := prog_14_method_50_code
def yX13_unreached : MethodName := ⟨RX13, "unreached", "()I"⟩
abbrev cX13_underAt : ByteArray := prog_14_method_51_code
def yX13_underAt : MethodName := ⟨RX13, "underAt", "(I)I"⟩
abbrev cX13_lostAt : ByteArray := prog_14_method_52_code
def yX13_lostAt : MethodName := ⟨RX13, "lostAt", "(I)I"⟩
abbrev cX13_orNobody : ByteArray := prog_14_method_53_code
def yX13_orNobody : MethodName := ⟨RX13, "orNobody", "(I)I"⟩
abbrev cX13_person : ByteArray := prog_14_method_54_code
def yX13_person : MethodName := ⟨RX13, "person", "(II)I"⟩
abbrev cX13_post : ByteArray := prog_14_method_55_code
def yX13_post : MethodName := ⟨RX13, "post", "(II)I"⟩
abbrev cX13_time : ByteArray := prog_14_method_56_code
def yX13_time : MethodName := ⟨RX13, "time", "(II)I"⟩
abbrev cX13_sinkers : ByteArray := prog_14_method_57_code
def yX13_sinkers : MethodName := ⟨RX13, "sinkers", "()I"⟩
abbrev cX13_first : ByteArray := prog_14_method_58_code
def yX13_first : MethodName := ⟨RX13, "first", "()I"⟩
abbrev cX13_refusesMinute : ByteArray := prog_14_method_59_code
def yX13_refusesMinute : MethodName := ⟨RX13, "refusesMinute", "(I)I"⟩
abbrev cX13_under : ByteArray := prog_14_method_60_code
def yX13_under : MethodName := ⟨RX13, "under", "(I)I"⟩
abbrev cX13_lost : ByteArray := prog_14_method_61_code
def yX13_lost : MethodName := ⟨RX13, "lost", "(I)I"⟩
abbrev cX13_worstMinute : ByteArray := prog_14_method_62_code
def yX13_worstMinute : MethodName := ⟨RX13, "worstMinute", "()I"⟩
abbrev cX13_reached : ByteArray := prog_14_method_63_code
def yX13_reached : MethodName := ⟨RX13, "reached", "()I"⟩
abbrev cX13_nearestTo : ByteArray := prog_14_method_64_code
def yX13_nearestTo : MethodName := ⟨RX13, "nearestTo", "(I)I"⟩
abbrev cX13_nearest : ByteArray := prog_14_method_65_code
def yX13_nearest : MethodName := ⟨RX13, "nearest", "(I)I"⟩
abbrev cX13_areAllReached : ByteArray := prog_14_method_66_code
def yX13_areAllReached : MethodName := ⟨RX13, "areAllReached", "(I)Z"⟩
abbrev cX13_cover : ByteArray := prog_14_method_67_code
def yX13_cover : MethodName := ⟨RX13, "cover", "()I"⟩
abbrev cX13_covers : ByteArray := prog_14_method_68_code
def yX13_covers : MethodName := ⟨RX13, "covers", "()I"⟩
abbrev cX13_bestPost : ByteArray := prog_14_method_69_code
def yX13_bestPost : MethodName := ⟨RX13, "bestPost", "()I"⟩
abbrev cX13_bestPlace : ByteArray := prog_14_method_70_code
def yX13_bestPlace : MethodName := ⟨RX13, "bestPlace", "(I)I"⟩
abbrev cX13_limitFor : ByteArray := prog_14_method_71_code
def yX13_limitFor : MethodName := ⟨RX13, "limitFor", "()I"⟩
abbrev cX13_freeBehind : ByteArray := prog_14_method_72_code
def yX13_freeBehind : MethodName := ⟨RX13, "freeBehind", "(III)I"⟩
abbrev cX13_alones : ByteArray := prog_14_method_73_code
def yX13_alones : MethodName := ⟨RX13, "alones", "(I)I"⟩
abbrev cX13_alone : ByteArray := prog_14_method_74_code
def yX13_alone : MethodName := ⟨RX13, "alone", "(I)I"⟩
abbrev cX13_aloneAt : ByteArray := prog_14_method_75_code
def yX13_aloneAt : MethodName := ⟨RX13, "aloneAt", "(II)I"⟩
abbrev cX13_aloneFree : ByteArray := prog_14_method_76_code
def yX13_aloneFree : MethodName := ⟨RX13, "aloneFree", "(I)I"⟩
abbrev cX13_bestAlone : ByteArray := prog_14_method_77_code
def yX13_bestAlone : MethodName := ⟨RX13, "bestAlone", "()I"⟩
abbrev cX13_swaps : ByteArray := prog_14_method_78_code
def yX13_swaps : MethodName := ⟨RX13, "swaps", "(II)V"⟩
abbrev cX13_nextOrder : ByteArray := prog_14_method_79_code
def yX13_nextOrder : MethodName := ⟨RX13, "nextOrder", "()Z"⟩
abbrev cX13_seatsBest : ByteArray := prog_14_method_80_code
def yX13_seatsBest : MethodName := ⟨RX13, "seatsBest", "()I"⟩
abbrev cX13_seats : ByteArray := prog_14_method_81_code
def yX13_seats : MethodName := ⟨RX13, "seats", "()I"⟩
abbrev cX13_seatOf : ByteArray := prog_14_method_82_code
def yX13_seatOf : MethodName := ⟨RX13, "seatOf", "(I)I"⟩
abbrev cX13_company : ByteArray := prog_14_method_83_code
def yX13_company : MethodName := ⟨RX13, "company", "(I)I"⟩
abbrev cX13_weightOf : ByteArray := prog_14_method_84_code
def yX13_weightOf : MethodName := ⟨RX13, "weightOf", "(I)J"⟩
abbrev cX13_weightOfAll : ByteArray := prog_14_method_85_code
def yX13_weightOfAll : MethodName := ⟨RX13, "weightOfAll", "(I)J"⟩
abbrev cX13_everybody : ByteArray := prog_14_method_86_code
def yX13_everybody : MethodName := ⟨RX13, "everybody", "()I"⟩
abbrev cX13_odds : ByteArray := prog_14_method_87_code
def yX13_odds : MethodName := ⟨RX13, "odds", "(IZ)J"⟩
abbrev cX13_likeliest : ByteArray := prog_14_method_88_code
def yX13_likeliest : MethodName := ⟨RX13, "likeliest", "()I"⟩
abbrev cX13_among : ByteArray := prog_14_method_89_code
def yX13_among : MethodName := ⟨RX13, "among", "(IZ)J"⟩
abbrev cX13_suspects : ByteArray := prog_14_method_90_code
def yX13_suspects : MethodName := ⟨RX13, "suspects", "()I"⟩
abbrev cX13_flag : ByteArray := prog_14_method_91_code
def yX13_flag : MethodName := ⟨RX13, "flag", "(I)I"⟩
abbrev cX13_knownBy : ByteArray := prog_14_method_92_code
def yX13_knownBy : MethodName := ⟨RX13, "knownBy", "(I)I"⟩
abbrev cX13_teach : ByteArray := prog_14_method_93_code
def yX13_teach : MethodName := ⟨RX13, "teach", "()I"⟩
abbrev cX13_hears : ByteArray := prog_14_method_94_code
def yX13_hears : MethodName := ⟨RX13, "hears", "(I)I"⟩
abbrev cX13_gets : ByteArray := prog_14_method_95_code
def yX13_gets : MethodName := ⟨RX13, "gets", "(IZZ)I"⟩
abbrev cX13_refusesFear : ByteArray := prog_14_method_96_code
def yX13_refusesFear : MethodName := ⟨RX13, "refusesFear", "(I)I"⟩
abbrev cX13_looks : ByteArray := prog_14_method_97_code
def yX13_looks : MethodName := ⟨RX13, "looks", "(IZZZ)I"⟩
abbrev cX13_isRest : ByteArray := prog_14_method_98_code
def yX13_isRest : MethodName := ⟨RX13, "isRest", "(II)Z"⟩
abbrev cX13_rests : ByteArray := prog_14_method_99_code
def yX13_rests : MethodName := ⟨RX13, "rests", "(I)I"⟩
abbrev cX13_rest : ByteArray := prog_14_method_100_code
def yX13_rest : MethodName := ⟨RX13, "rest", "(I)I"⟩
abbrev cX13_wholeOf : ByteArray := prog_14_method_101_code
def yX13_wholeOf : MethodName := ⟨RX13, "wholeOf", "(I)J"⟩
abbrev cX13_partOf : ByteArray := prog_14_method_102_code
def yX13_partOf : MethodName := ⟨RX13, "partOf", "(II)J"⟩
abbrev cX13_safe : ByteArray := prog_14_method_103_code
def yX13_safe : MethodName := ⟨RX13, "safe", "(Z)J"⟩
abbrev cX13_sinking : ByteArray := prog_14_method_104_code
def yX13_sinking : MethodName := ⟨RX13, "sinking", "(IZ)J"⟩
abbrev cX13_mean : ByteArray := prog_14_method_105_code
def yX13_mean : MethodName := ⟨RX13, "mean", "(Z)J"⟩
abbrev cX13_afternoonsAll : ByteArray := prog_14_method_106_code
def yX13_afternoonsAll : MethodName := ⟨RX13, "afternoonsAll", "(II)V"⟩
abbrev cX13_refusesSeed : ByteArray := prog_14_method_107_code
def yX13_refusesSeed : MethodName := ⟨RX13, "refusesSeed", "(ZII)I"⟩
abbrev cX13_afternoons : ByteArray := prog_14_method_108_code
def yX13_afternoons : MethodName := ⟨RX13, "afternoons", "(III)I"⟩
abbrev cX13_worst : ByteArray := prog_14_method_109_code
def yX13_worst : MethodName := ⟨RX13, "worst", "(II)I"⟩
abbrev cX13_remembers : ByteArray := prog_14_method_110_code
def yX13_remembers : MethodName := ⟨RX13, "remembers", "()V"⟩
abbrev cX13_changes : ByteArray := prog_14_method_111_code
def yX13_changes : MethodName := ⟨RX13, "changes", "(IZ)Z"⟩
abbrev cX13_man : ByteArray := prog_14_method_112_code
def yX13_man : MethodName := ⟨RX13, "man", "(I)Z"⟩
abbrev cX13_leave : ByteArray := prog_14_method_113_code
def yX13_leave : MethodName := ⟨RX13, "leave", "(I)Z"⟩
abbrev cX13_seat : ByteArray := prog_14_method_114_code
def yX13_seat : MethodName := ⟨RX13, "seat", "(II)I"⟩
abbrev cX13_minute : ByteArray := prog_14_method_115_code
def yX13_minute : MethodName := ⟨RX13, "minute", "(I)I"⟩
abbrev cX13_lift : ByteArray := prog_14_method_116_code
def yX13_lift : MethodName := ⟨RX13, "lift", "(I)I"⟩
abbrev cX13_undo : ByteArray := prog_14_method_117_code
def yX13_undo : MethodName := ⟨RX13, "undo", "()Z"⟩
abbrev cX13_image : ByteArray := prog_14_method_118_code
def yX13_image : MethodName := ⟨RX13, "image", "()I"⟩
abbrev cX13_back : ByteArray := prog_14_method_119_code
def yX13_back : MethodName := ⟨RX13, "back", "(I)Z"⟩
abbrev cX13_led : ByteArray := prog_14_method_120_code
def yX13_led : MethodName := ⟨RX13, "led", "(I)I"⟩
abbrev cX13_size : ByteArray := prog_14_method_121_code
def yX13_size : MethodName := ⟨RX13, "size", "(I)I"⟩
abbrev cX13_trouble : ByteArray := prog_14_method_122_code
def yX13_trouble : MethodName := ⟨RX13, "trouble", "()I"⟩
def RJx145de : String := "java/io/Serializable"
def TJx145de : u_T := fun k => match k with
  | _ => ("", "", "", false)
def tyJx145de : Nat → FieldType := fun k => match k with
  | _ => .int
abbrev wsJx145de0 : List Cond := u_ws RJx145de TJx145de 0
theorem nmJx145de : ∀ a, a < 0 → ∀ b, b < 0 → a ≠ b → (TJx145de a).2.1 ≠ (TJx145de b).2.1 := by decide +kernel
theorem tyJx145de_ok : ∀ k, k < 0 → parseFieldDescriptor (TJx145de k).2.2.1 = some (tyJx145de k) := by decide +kernel
def RJx9f9b0 : String := "java/lang/CharSequence"
def TJx9f9b0 : u_T := fun k => match k with
  | _ => ("", "", "", false)
def tyJx9f9b0 : Nat → FieldType := fun k => match k with
  | _ => .int
abbrev wsJx9f9b00 : List Cond := u_ws RJx9f9b0 TJx9f9b0 0
theorem nmJx9f9b0 : ∀ a, a < 0 → ∀ b, b < 0 → a ≠ b → (TJx9f9b0 a).2.1 ≠ (TJx9f9b0 b).2.1 := by decide +kernel
theorem tyJx9f9b0_ok : ∀ k, k < 0 → parseFieldDescriptor (TJx9f9b0 k).2.2.1 = some (tyJx9f9b0 k) := by decide +kernel
def RJxb160c : String := "java/lang/Comparable"
def TJxb160c : u_T := fun k => match k with
  | _ => ("", "", "", false)
def tyJxb160c : Nat → FieldType := fun k => match k with
  | _ => .int
abbrev wsJxb160c0 : List Cond := u_ws RJxb160c TJxb160c 0
theorem nmJxb160c : ∀ a, a < 0 → ∀ b, b < 0 → a ≠ b → (TJxb160c a).2.1 ≠ (TJxb160c b).2.1 := by decide +kernel
theorem tyJxb160c_ok : ∀ k, k < 0 → parseFieldDescriptor (TJxb160c k).2.2.1 = some (tyJxb160c k) := by decide +kernel
def RJ6 : String := "java/lang/Integer"
def TJ6 : u_T := fun k => match k with
  | _ => ("", "", "", false)
def tyJ6 : Nat → FieldType := fun k => match k with
  | _ => .int
abbrev wsJ60 : List Cond := u_ws RJ6 TJ6 0
theorem nmJ6 : ∀ a, a < 0 → ∀ b, b < 0 → a ≠ b → (TJ6 a).2.1 ≠ (TJ6 b).2.1 := by decide +kernel
theorem tyJ6_ok : ∀ k, k < 0 → parseFieldDescriptor (TJ6 k).2.2.1 = some (tyJ6 k) := by decide +kernel
abbrev cJ6_bitCount_0f7a4 : ByteArray := prog_20_method_49_code
def yJ6_bitCount_0f7a4 : MethodName := ⟨RJ6, "bitCount", "(I)I"⟩
def RJ9 : String := "java/lang/Math"
def TJ9 : u_T := fun k => match k with
  | _ => ("", "", "", false)
def tyJ9 : Nat → FieldType := fun k => match k with
  | _ => .int
abbrev wsJ90 : List Cond := u_ws RJ9 TJ9 0
theorem nmJ9 : ∀ a, a < 0 → ∀ b, b < 0 → a ≠ b → (TJ9 a).2.1 ≠ (TJ9 b).2.1 := by decide +kernel
theorem tyJ9_ok : ∀ k, k < 0 → parseFieldDescriptor (TJ9 k).2.2.1 = some (tyJ9 k) := by decide +kernel
abbrev cJ9_abs_0f7a4 : ByteArray := prog_21_method_59_code
def yJ9_abs_0f7a4 : MethodName := ⟨RJ9, "abs", "(I)I"⟩
abbrev cJ9_max_7cf53 : ByteArray := prog_21_method_65_code
def yJ9_max_7cf53 : MethodName := ⟨RJ9, "max", "(II)I"⟩
abbrev cJ9_min_7cf53 : ByteArray := prog_21_method_69_code
def yJ9_min_7cf53 : MethodName := ⟨RJ9, "min", "(II)I"⟩
def RJ0 : String := "java/lang/String"
def TJ0 : u_T := fun k => match k with
  | _ => ("", "", "", false)
def tyJ0 : Nat → FieldType := fun k => match k with
  | _ => .int
abbrev wsJ00 : List Cond := u_ws RJ0 TJ0 0
theorem nmJ0 : ∀ a, a < 0 → ∀ b, b < 0 → a ≠ b → (TJ0 a).2.1 ≠ (TJ0 b).2.1 := by decide +kernel
theorem tyJ0_ok : ∀ k, k < 0 → parseFieldDescriptor (TJ0 k).2.2.1 = some (tyJ0 k) := by decide +kernel
abbrev cJ0_length_8abf5 : ByteArray := prog_23_method_54_code
def yJ0_length_8abf5 : MethodName := ⟨RJ0, "length", "()I"⟩
abbrev cJ0_charAt_5068e : ByteArray := prog_23_method_56_code
def yJ0_charAt_5068e : MethodName := ⟨RJ0, "charAt", "(I)C"⟩
abbrev cJ0_coder_7d493 : ByteArray := prog_23_method_152_code
def yJ0_coder_7d493 : MethodName := ⟨RJ0, "coder", "()B"⟩
abbrev cJ0_isLatin1_aae02 : ByteArray := prog_23_method_154_code
def yJ0_isLatin1_aae02 : MethodName := ⟨RJ0, "isLatin1", "()Z"⟩
abbrev cJ0_checkIndex_df160 : ByteArray := prog_23_method_155_code
def yJ0_checkIndex_df160 : MethodName := ⟨RJ0, "checkIndex", "(II)V"⟩
def RJ1 : String := "java/lang/StringLatin1"
def TJ1 : u_T := fun k => match k with
  | _ => ("", "", "", false)
def tyJ1 : Nat → FieldType := fun k => match k with
  | _ => .int
abbrev wsJ10 : List Cond := u_ws RJ1 TJ1 0
theorem nmJ1 : ∀ a, a < 0 → ∀ b, b < 0 → a ≠ b → (TJ1 a).2.1 ≠ (TJ1 b).2.1 := by decide +kernel
theorem tyJ1_ok : ∀ k, k < 0 → parseFieldDescriptor (TJ1 k).2.2.1 = some (tyJ1 k) := by decide +kernel
abbrev cJ1_charAt_3b067 : ByteArray := prog_24_method_2_code
def yJ1_charAt_3b067 : MethodName := ⟨RJ1, "charAt", "([BI)C"⟩
def RJ2 : String := "java/lang/StringUTF16"
def TJ2 : u_T := fun k => match k with
  | _ => ("", "", "", false)
def tyJ2 : Nat → FieldType := fun k => match k with
  | _ => .int
abbrev wsJ20 : List Cond := u_ws RJ2 TJ2 0
theorem nmJ2 : ∀ a, a < 0 → ∀ b, b < 0 → a ≠ b → (TJ2 a).2.1 ≠ (TJ2 b).2.1 := by decide +kernel
theorem tyJ2_ok : ∀ k, k < 0 → parseFieldDescriptor (TJ2 k).2.2.1 = some (tyJ2 k) := by decide +kernel
abbrev cJ2_getChar_3b067 : ByteArray := prog_25_method_5_code
def yJ2_getChar_3b067 : MethodName := ⟨RJ2, "getChar", "([BI)C"⟩
abbrev cJ2_length_9d52b : ByteArray := prog_25_method_6_code
def yJ2_length_9d52b : MethodName := ⟨RJ2, "length", "([B)I"⟩
abbrev cJ2_charAt_3b067 : ByteArray := prog_25_method_83_code
def yJ2_charAt_3b067 : MethodName := ⟨RJ2, "charAt", "([BI)C"⟩
abbrev cJ2_checkIndex_2214a : ByteArray := prog_25_method_91_code
def yJ2_checkIndex_2214a : MethodName := ⟨RJ2, "checkIndex", "(I[B)V"⟩
def RJxfd54e : String := "java/lang/constant/Constable"
def TJxfd54e : u_T := fun k => match k with
  | _ => ("", "", "", false)
def tyJxfd54e : Nat → FieldType := fun k => match k with
  | _ => .int
abbrev wsJxfd54e0 : List Cond := u_ws RJxfd54e TJxfd54e 0
theorem nmJxfd54e : ∀ a, a < 0 → ∀ b, b < 0 → a ≠ b → (TJxfd54e a).2.1 ≠ (TJxfd54e b).2.1 := by decide +kernel
theorem tyJxfd54e_ok : ∀ k, k < 0 → parseFieldDescriptor (TJxfd54e k).2.2.1 = some (tyJxfd54e k) := by decide +kernel
def RJx3cf43 : String := "java/lang/constant/ConstantDesc"
def TJx3cf43 : u_T := fun k => match k with
  | _ => ("", "", "", false)
def tyJx3cf43 : Nat → FieldType := fun k => match k with
  | _ => .int
abbrev wsJx3cf430 : List Cond := u_ws RJx3cf43 TJx3cf43 0
theorem nmJx3cf43 : ∀ a, a < 0 → ∀ b, b < 0 → a ≠ b → (TJx3cf43 a).2.1 ≠ (TJx3cf43 b).2.1 := by decide +kernel
theorem tyJx3cf43_ok : ∀ k, k < 0 → parseFieldDescriptor (TJx3cf43 k).2.2.1 = some (tyJx3cf43 k) := by decide +kernel
def RJ3 : String := "jdk/internal/util/Preconditions"
def TJ3 : u_T := fun k => match k with
  | _ => ("", "", "", false)
def tyJ3 : Nat → FieldType := fun k => match k with
  | _ => .int
abbrev wsJ30 : List Cond := u_ws RJ3 TJ3 0
theorem nmJ3 : ∀ a, a < 0 → ∀ b, b < 0 → a ≠ b → (TJ3 a).2.1 ≠ (TJ3 b).2.1 := by decide +kernel
theorem tyJ3_ok : ∀ k, k < 0 → parseFieldDescriptor (TJ3 k).2.2.1 = some (tyJ3 k) := by decide +kernel
abbrev cJ3_checkIndex_8e157 : ByteArray := prog_30_method_11_code
def yJ3_checkIndex_8e157 : MethodName := ⟨RJ3, "checkIndex", "(IILjava/util/function/BiFunction;)I"⟩
def RL : String := "ShoreGuardsLaw"
abbrev cL_led : ByteArray := method_3_code
def yL_led : MethodName := ⟨RL, "led", "(LShoreGuards;I[J)I"⟩
abbrev cL_law : ByteArray := code
def yL_law : MethodName := ⟨RL, "law", "([I)Z"⟩
