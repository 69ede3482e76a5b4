theorem sX13_135 : jd_sr RX13 135 0 := jd_sr_of RX13 135 0 "beach" 1494 (by decide +kernel) (by decide +kernel)
theorem sX13_137 : jd_sr RX13 137 1 := jd_sr_of RX13 137 1 "person" 1526 (by decide +kernel) (by decide +kernel)
theorem sX13_139 : jd_sr RX13 139 2 := jd_sr_of RX13 139 2 "post" 1543 (by decide +kernel) (by decide +kernel)
theorem sX13_141 : jd_sr RX13 141 3 := jd_sr_of RX13 141 3 "manned" 1544 (by decide +kernel) (by decide +kernel)
theorem sX13_143 : jd_sr RX13 143 4 := jd_sr_of RX13 143 4 "knows" 1545 (by decide +kernel) (by decide +kernel)
theorem sX13_145 : jd_sr RX13 145 5 := jd_sr_of RX13 145 5 "waved" 1546 (by decide +kernel) (by decide +kernel)
theorem sX13_147 : jd_sr RX13 147 6 := jd_sr_of RX13 147 6 "still" 1547 (by decide +kernel) (by decide +kernel)
theorem qX13_isName : Cond.instanceMethod yX13_isName ∈ jd_TB ∧ Cond.selects RX13 yX13_isName yX13_isName ∈ jd_TB ∧ Cond.initialized RX13 ∈ jd_TB ∧ Cond.code yX13_isName cX13_isName 1 (some .boolean) ∈ jd_TB ∧ jd_ds yX13_isName 0 := ⟨jd_mem 1541 (by decide +kernel) (by decide +kernel), jd_mem 47 (by decide +kernel) (by decide +kernel), jd_mem 104 (by decide +kernel) (by decide +kernel), jd_mem 1542 (by decide +kernel) (by decide +kernel), ⟨by decide, by decide, by decide +kernel⟩⟩
theorem lX13_158 : jd_mv RX13 158 13 29 yX13_isName cX13_isName 1 (some .boolean) 0 := ⟨_, _, rfl, by decide, rfl, Or.inl (jd_mem 1539 (by decide +kernel) (by decide +kernel)), qX13_isName.1, qX13_isName.2.1, qX13_isName.2.2.1, qX13_isName.2.2.2.1, qX13_isName.2.2.2.2, by decide⟩
theorem qX12_find : Cond.instanceMethod yX12_find ∈ jd_TB ∧ Cond.selects RX12 yX12_find yX12_find ∈ jd_TB ∧ Cond.initialized RX12 ∈ jd_TB ∧ Cond.code yX12_find cX12_find 4 (some .int) ∈ jd_TB ∧ jd_ds yX12_find 1 := ⟨jd_mem 1549 (by decide +kernel) (by decide +kernel), jd_mem 1550 (by decide +kernel) (by decide +kernel), jd_mem 111 (by decide +kernel) (by decide +kernel), jd_mem 1551 (by decide +kernel) (by decide +kernel), ⟨by decide, by decide, by decide +kernel⟩⟩
theorem lX13_162 : jd_mv RX13 162 12 20 yX12_find cX12_find 4 (some .int) 1 := ⟨_, _, rfl, by decide, rfl, Or.inl (jd_mem 1548 (by decide +kernel) (by decide +kernel)), qX12_find.1, qX12_find.2.1, qX12_find.2.2.1, qX12_find.2.2.2.1, qX12_find.2.2.2.2, by decide⟩
theorem sX13_206 : jd_sr RX13 206 7 := jd_sr_of RX13 206 7 "limit" 1512 (by decide +kernel) (by decide +kernel)
theorem qX13_readPart : Cond.instanceMethod yX13_readPart ∈ jd_TB ∧ Cond.selects RX13 yX13_readPart yX13_readPart ∈ jd_TB ∧ Cond.initialized RX13 ∈ jd_TB ∧ Cond.code yX13_readPart cX13_readPart 5 (some .int) ∈ jd_TB ∧ jd_ds yX13_readPart 3 := ⟨jd_mem 1515 (by decide +kernel) (by decide +kernel), jd_mem 42 (by decide +kernel) (by decide +kernel), jd_mem 104 (by decide +kernel) (by decide +kernel), jd_mem 1516 (by decide +kernel) (by decide +kernel), ⟨by decide, by decide, by decide +kernel⟩⟩
theorem lX13_207 : jd_mv RX13 207 13 29 yX13_readPart cX13_readPart 5 (some .int) 3 := ⟨_, _, rfl, by decide, rfl, Or.inl (jd_mem 1513 (by decide +kernel) (by decide +kernel)), qX13_readPart.1, qX13_readPart.2.1, qX13_readPart.2.2.1, qX13_readPart.2.2.2.1, qX13_readPart.2.2.2.2, by decide⟩
theorem sX13_211 : jd_sr RX13 211 8 := jd_sr_of RX13 211 8 "heat" 1524 (by decide +kernel) (by decide +kernel)
theorem sX13_213 : jd_sr RX13 213 9 := jd_sr_of RX13 213 9 "slips" 1525 (by decide +kernel) (by decide +kernel)
theorem qX13_lineBegins : Cond.instanceMethod yX13_lineBegins ∈ jd_TB ∧ Cond.selects RX13 yX13_lineBegins yX13_lineBegins ∈ jd_TB ∧ Cond.initialized RX13 ∈ jd_TB ∧ Cond.code yX13_lineBegins cX13_lineBegins 3 none ∈ jd_TB ∧ jd_ds yX13_lineBegins 2 := ⟨jd_mem 1533 (by decide +kernel) (by decide +kernel), jd_mem 45 (by decide +kernel) (by decide +kernel), jd_mem 104 (by decide +kernel) (by decide +kernel), jd_mem 1534 (by decide +kernel) (by decide +kernel), ⟨by decide, by decide, by decide +kernel⟩⟩
theorem lX13_219 : jd_mv RX13 219 13 29 yX13_lineBegins cX13_lineBegins 3 none 2 := ⟨_, _, rfl, by decide, rfl, Or.inl (jd_mem 1531 (by decide +kernel) (by decide +kernel)), qX13_lineBegins.1, qX13_lineBegins.2.1, qX13_lineBegins.2.2.1, qX13_lineBegins.2.2.2.1, qX13_lineBegins.2.2.2.2, by decide⟩
theorem qX13_readFresh : Cond.instanceMethod yX13_readFresh ∈ jd_TB ∧ Cond.selects RX13 yX13_readFresh yX13_readFresh ∈ jd_TB ∧ Cond.initialized RX13 ∈ jd_TB ∧ Cond.code yX13_readFresh cX13_readFresh 3 (some .long) ∈ jd_TB ∧ jd_ds yX13_readFresh 0 := ⟨jd_mem 1537 (by decide +kernel) (by decide +kernel), jd_mem 46 (by decide +kernel) (by decide +kernel), jd_mem 104 (by decide +kernel) (by decide +kernel), jd_mem 1538 (by decide +kernel) (by decide +kernel), ⟨by decide, by decide, by decide +kernel⟩⟩
theorem lX13_223 : jd_mv RX13 223 13 29 yX13_readFresh cX13_readFresh 3 (some .long) 0 := ⟨_, _, rfl, by decide, rfl, Or.inl (jd_mem 1535 (by decide +kernel) (by decide +kernel)), qX13_readFresh.1, qX13_readFresh.2.1, qX13_readFresh.2.2.1, qX13_readFresh.2.2.2.1, qX13_readFresh.2.2.2.2, by decide⟩
theorem sX13_227 : jd_sr RX13 227 10 := jd_sr_of RX13 227 10 "reader" 1552 (by decide +kernel) (by decide +kernel)
theorem sX13_229 : jd_sr RX13 229 11 := jd_sr_of RX13 229 11 "talker" 1553 (by decide +kernel) (by decide +kernel)
theorem sX13_231 : jd_sr RX13 231 12 := jd_sr_of RX13 231 12 "sleeper" 1554 (by decide +kernel) (by decide +kernel)
theorem sX13_233 : jd_sr RX13 233 13 := jd_sr_of RX13 233 13 "child" 1555 (by decide +kernel) (by decide +kernel)
theorem sX13_235 : jd_sr RX13 235 14 := jd_sr_of RX13 235 14 "at" 1556 (by decide +kernel) (by decide +kernel)
theorem sX13_237 : jd_sr RX13 237 15 := jd_sr_of RX13 237 15 "thought" 1557 (by decide +kernel) (by decide +kernel)
theorem sX13_239 : jd_sr RX13 239 16 := jd_sr_of RX13 239 16 "by" 1558 (by decide +kernel) (by decide +kernel)
theorem qX13_names : Cond.instanceMethod yX13_names ∈ jd_TB ∧ Cond.selects RX13 yX13_names yX13_names ∈ jd_TB ∧ Cond.initialized RX13 ∈ jd_TB ∧ Cond.code yX13_names cX13_names 5 none ∈ jd_TB ∧ jd_ds yX13_names 3 := ⟨jd_mem 1561 (by decide +kernel) (by decide +kernel), jd_mem 48 (by decide +kernel) (by decide +kernel), jd_mem 104 (by decide +kernel) (by decide +kernel), jd_mem 1562 (by decide +kernel) (by decide +kernel), ⟨by decide, by decide, by decide +kernel⟩⟩
theorem lX13_241 : jd_mv RX13 241 13 29 yX13_names cX13_names 5 none 3 := ⟨_, _, rfl, by decide, rfl, Or.inl (jd_mem 1559 (by decide +kernel) (by decide +kernel)), qX13_names.1, qX13_names.2.1, qX13_names.2.2.1, qX13_names.2.2.2.1, qX13_names.2.2.2.2, by decide⟩
theorem fX13_247 : jd_fn RX13 247 12 10 20 true := ⟨_, _, "ShoreGuardsModel", rfl, by decide, by decide, rfl, rfl, List.mem_of_getElem? (i := 1411) (by decide +kernel)⟩
theorem dX13_isName_0 : decode cX13_isName 0 = .ok (.aload_n 0, 1) := by decide +kernel
theorem dX13_isName_1 : decode cX13_isName 1 = .ok (.getfield 80, 3) := by decide +kernel
theorem dX13_isName_4 : decode cX13_isName 4 = .ok (.iconst 2, 1) := by decide +kernel
theorem dX13_isName_5 : decode cX13_isName 5 = .ok (.if_icmp .ne 39, 3) := by decide +kernel
theorem dX13_isName_8 : decode cX13_isName 8 = .ok (.aload_n 0, 1) := by decide +kernel
theorem dX13_isName_9 : decode cX13_isName 9 = .ok (.ldc 135, 2) := by decide +kernel
theorem dX13_isName_11 : decode cX13_isName 11 = .ok (.invokevirtual 119, 3) := by decide +kernel
theorem dX13_isName_14 : decode cX13_isName 14 = .ok (.ifCond .ne 30, 3) := by decide +kernel
theorem dX13_isName_17 : decode cX13_isName 17 = .ok (.aload_n 0, 1) := by decide +kernel
theorem dX13_isName_18 : decode cX13_isName 18 = .ok (.ldc 137, 2) := by decide +kernel
theorem dX13_isName_20 : decode cX13_isName 20 = .ok (.invokevirtual 119, 3) := by decide +kernel
theorem dX13_isName_23 : decode cX13_isName 23 = .ok (.ifCond .ne 21, 3) := by decide +kernel
theorem dX13_isName_26 : decode cX13_isName 26 = .ok (.aload_n 0, 1) := by decide +kernel
theorem dX13_isName_27 : decode cX13_isName 27 = .ok (.ldc 139, 2) := by decide +kernel
theorem dX13_isName_29 : decode cX13_isName 29 = .ok (.invokevirtual 119, 3) := by decide +kernel
theorem dX13_isName_32 : decode cX13_isName 32 = .ok (.ifCond .ne 12, 3) := by decide +kernel
theorem dX13_isName_35 : decode cX13_isName 35 = .ok (.aload_n 0, 1) := by decide +kernel
theorem dX13_isName_36 : decode cX13_isName 36 = .ok (.ldc 141, 2) := by decide +kernel
theorem dX13_isName_38 : decode cX13_isName 38 = .ok (.invokevirtual 119, 3) := by decide +kernel
theorem dX13_isName_41 : decode cX13_isName 41 = .ok (.ifCond .eq 5, 3) := by decide +kernel
theorem dX13_isName_44 : decode cX13_isName 44 = .ok (.iconst 0, 1) := by decide +kernel
theorem dX13_isName_45 : decode cX13_isName 45 = .ok (.ireturn, 1) := by decide +kernel
theorem dX13_isName_46 : decode cX13_isName 46 = .ok (.aload_n 0, 1) := by decide +kernel
theorem dX13_isName_47 : decode cX13_isName 47 = .ok (.ldc 143, 2) := by decide +kernel
theorem dX13_isName_49 : decode cX13_isName 49 = .ok (.invokevirtual 119, 3) := by decide +kernel
theorem dX13_isName_52 : decode cX13_isName 52 = .ok (.ifCond .ne 25, 3) := by decide +kernel
theorem dX13_isName_55 : decode cX13_isName 55 = .ok (.aload_n 0, 1) := by decide +kernel
theorem dX13_isName_56 : decode cX13_isName 56 = .ok (.ldc 145, 2) := by decide +kernel
theorem dX13_isName_58 : decode cX13_isName 58 = .ok (.invokevirtual 119, 3) := by decide +kernel
theorem dX13_isName_61 : decode cX13_isName 61 = .ok (.ifCond .ne 16, 3) := by decide +kernel
theorem dX13_isName_64 : decode cX13_isName 64 = .ok (.aload_n 0, 1) := by decide +kernel
theorem dX13_isName_65 : decode cX13_isName 65 = .ok (.ldc 147, 2) := by decide +kernel
theorem dX13_isName_67 : decode cX13_isName 67 = .ok (.invokevirtual 119, 3) := by decide +kernel
theorem dX13_isName_70 : decode cX13_isName 70 = .ok (.ifCond .ne 7, 3) := by decide +kernel
theorem dX13_isName_73 : decode cX13_isName 73 = .ok (.iconst 1, 1) := by decide +kernel
theorem dX13_isName_74 : decode cX13_isName 74 = .ok (.goto 4, 3) := by decide +kernel
theorem dX13_isName_77 : decode cX13_isName 77 = .ok (.iconst 0, 1) := by decide +kernel
theorem dX13_isName_78 : decode cX13_isName 78 = .ok (.ireturn, 1) := by decide +kernel
theorem dX13_readFresh_0 : decode cX13_readFresh 0 = .ok (.aload_n 0, 1) := by decide +kernel
theorem dX13_readFresh_1 : decode cX13_readFresh 1 = .ok (.invokevirtual 158, 3) := by decide +kernel
theorem dX13_readFresh_4 : decode cX13_readFresh 4 = .ok (.ifCond .ne 8, 3) := by decide +kernel
theorem dX13_readFresh_7 : decode cX13_readFresh 7 = .ok (.aload_n 0, 1) := by decide +kernel
theorem dX13_readFresh_8 : decode cX13_readFresh 8 = .ok (.iconst 1, 1) := by decide +kernel
theorem dX13_readFresh_9 : decode cX13_readFresh 9 = .ok (.invokevirtual 123, 3) := by decide +kernel
theorem dX13_readFresh_12 : decode cX13_readFresh 12 = .ok (.aload_n 0, 1) := by decide +kernel
theorem dX13_readFresh_13 : decode cX13_readFresh 13 = .ok (.getfield 149, 3) := by decide +kernel
theorem dX13_readFresh_16 : decode cX13_readFresh 16 = .ok (.aload_n 0, 1) := by decide +kernel
theorem dX13_readFresh_17 : decode cX13_readFresh 17 = .ok (.getfield 96, 3) := by decide +kernel
theorem dX13_readFresh_20 : decode cX13_readFresh 20 = .ok (.invokevirtual 162, 3) := by decide +kernel
theorem dX13_readFresh_23 : decode cX13_readFresh 23 = .ok (.iconst (-1), 1) := by decide +kernel
theorem dX13_readFresh_24 : decode cX13_readFresh 24 = .ok (.if_icmp .eq 8, 3) := by decide +kernel
theorem dX13_readFresh_27 : decode cX13_readFresh 27 = .ok (.aload_n 0, 1) := by decide +kernel
theorem dX13_readFresh_28 : decode cX13_readFresh 28 = .ok (.iconst 3, 1) := by decide +kernel
theorem dX13_readFresh_29 : decode cX13_readFresh 29 = .ok (.invokevirtual 123, 3) := by decide +kernel
theorem dX13_readFresh_32 : decode cX13_readFresh 32 = .ok (.aload_n 0, 1) := by decide +kernel
theorem dX13_readFresh_33 : decode cX13_readFresh 33 = .ok (.getfield 96, 3) := by decide +kernel
theorem dX13_readFresh_36 : decode cX13_readFresh 36 = .ok (.lstore_n 1, 1) := by decide +kernel
theorem dX13_readFresh_37 : decode cX13_readFresh 37 = .ok (.aload_n 0, 1) := by decide +kernel
theorem dX13_readFresh_38 : decode cX13_readFresh 38 = .ok (.invokevirtual 116, 3) := by decide +kernel
theorem dX13_readFresh_41 : decode cX13_readFresh 41 = .ok (.lload_n 1, 1) := by decide +kernel
theorem dX13_readFresh_42 : decode cX13_readFresh 42 = .ok (.lreturn, 1) := by decide +kernel
theorem dX13_knownOne_0 : decode cX13_knownOne 0 = .ok (.aload_n 0, 1) := by decide +kernel
theorem dX13_knownOne_1 : decode cX13_knownOne 1 = .ok (.invokevirtual 158, 3) := by decide +kernel
theorem dX13_knownOne_4 : decode cX13_knownOne 4 = .ok (.ifCond .ne 8, 3) := by decide +kernel
theorem dX13_knownOne_7 : decode cX13_knownOne 7 = .ok (.aload_n 0, 1) := by decide +kernel
theorem dX13_knownOne_8 : decode cX13_knownOne 8 = .ok (.iconst 1, 1) := by decide +kernel
theorem dX13_knownOne_9 : decode cX13_knownOne 9 = .ok (.invokevirtual 123, 3) := by decide +kernel
theorem dX13_knownOne_12 : decode cX13_knownOne 12 = .ok (.aload_n 0, 1) := by decide +kernel
theorem dX13_knownOne_13 : decode cX13_knownOne 13 = .ok (.getfield 149, 3) := by decide +kernel
theorem dX13_knownOne_16 : decode cX13_knownOne 16 = .ok (.aload_n 0, 1) := by decide +kernel
theorem dX13_knownOne_17 : decode cX13_knownOne 17 = .ok (.getfield 96, 3) := by decide +kernel
theorem dX13_knownOne_20 : decode cX13_knownOne 20 = .ok (.invokevirtual 162, 3) := by decide +kernel
theorem dX13_knownOne_23 : decode cX13_knownOne 23 = .ok (.istore_n 2, 1) := by decide +kernel
theorem dX13_knownOne_24 : decode cX13_knownOne 24 = .ok (.iload_n 2, 1) := by decide +kernel
theorem dX13_knownOne_25 : decode cX13_knownOne 25 = .ok (.iconst (-1), 1) := by decide +kernel
theorem dX13_knownOne_26 : decode cX13_knownOne 26 = .ok (.if_icmp .eq 16, 3) := by decide +kernel
theorem dX13_knownOne_29 : decode cX13_knownOne 29 = .ok (.aload_n 0, 1) := by decide +kernel
theorem dX13_knownOne_30 : decode cX13_knownOne 30 = .ok (.getfield 149, 3) := by decide +kernel
theorem dX13_knownOne_33 : decode cX13_knownOne 33 = .ok (.getfield 173, 3) := by decide +kernel
theorem dX13_knownOne_36 : decode cX13_knownOne 36 = .ok (.iload_n 2, 1) := by decide +kernel
theorem dX13_knownOne_37 : decode cX13_knownOne 37 = .ok (.iaload, 1) := by decide +kernel
theorem dX13_knownOne_38 : decode cX13_knownOne 38 = .ok (.iload_n 1, 1) := by decide +kernel
theorem dX13_knownOne_39 : decode cX13_knownOne 39 = .ok (.if_icmp .eq 8, 3) := by decide +kernel
theorem dX13_knownOne_42 : decode cX13_knownOne 42 = .ok (.aload_n 0, 1) := by decide +kernel
theorem dX13_knownOne_43 : decode cX13_knownOne 43 = .ok (.iconst 2, 1) := by decide +kernel
theorem dX13_knownOne_44 : decode cX13_knownOne 44 = .ok (.invokevirtual 123, 3) := by decide +kernel
theorem dX13_knownOne_47 : decode cX13_knownOne 47 = .ok (.aload_n 0, 1) := by decide +kernel
theorem dX13_knownOne_48 : decode cX13_knownOne 48 = .ok (.getfield 80, 3) := by decide +kernel
theorem dX13_knownOne_51 : decode cX13_knownOne 51 = .ok (.iconst 5, 1) := by decide +kernel
theorem dX13_knownOne_52 : decode cX13_knownOne 52 = .ok (.if_icmp .ne 7, 3) := by decide +kernel
theorem dX13_knownOne_55 : decode cX13_knownOne 55 = .ok (.iconst 0, 1) := by decide +kernel
theorem dX13_knownOne_56 : decode cX13_knownOne 56 = .ok (.goto 12, 3) := by decide +kernel
theorem dX13_knownOne_59 : decode cX13_knownOne 59 = .ok (.aload_n 0, 1) := by decide +kernel
theorem dX13_knownOne_60 : decode cX13_knownOne 60 = .ok (.getfield 149, 3) := by decide +kernel
theorem dX13_knownOne_63 : decode cX13_knownOne 63 = .ok (.getfield 176, 3) := by decide +kernel
theorem dX13_knownOne_66 : decode cX13_knownOne 66 = .ok (.iload_n 2, 1) := by decide +kernel
theorem dX13_knownOne_67 : decode cX13_knownOne 67 = .ok (.iaload, 1) := by decide +kernel
theorem dX13_knownOne_68 : decode cX13_knownOne 68 = .ok (.ireturn, 1) := by decide +kernel
theorem dX13_readBeach_0 : decode cX13_readBeach 0 = .ok (.aload_n 0, 1) := by decide +kernel
theorem dX13_readBeach_1 : decode cX13_readBeach 1 = .ok (.getfield 149, 3) := by decide +kernel
theorem dX13_readBeach_4 : decode cX13_readBeach 4 = .ok (.getfield 153, 3) := by decide +kernel
theorem dX13_readBeach_7 : decode cX13_readBeach 7 = .ok (.ifCond .le 8, 3) := by decide +kernel
theorem dX13_readBeach_10 : decode cX13_readBeach 10 = .ok (.aload_n 0, 1) := by decide +kernel
theorem dX13_readBeach_11 : decode cX13_readBeach 11 = .ok (.iconst 3, 1) := by decide +kernel
theorem dX13_readBeach_12 : decode cX13_readBeach 12 = .ok (.invokevirtual 123, 3) := by decide +kernel
theorem dX13_readBeach_15 : decode cX13_readBeach 15 = .ok (.aload_n 0, 1) := by decide +kernel
theorem dX13_readBeach_16 : decode cX13_readBeach 16 = .ok (.invokevirtual 116, 3) := by decide +kernel
theorem dX13_readBeach_19 : decode cX13_readBeach 19 = .ok (.aload_n 0, 1) := by decide +kernel
theorem dX13_readBeach_20 : decode cX13_readBeach 20 = .ok (.ldc 206, 2) := by decide +kernel
theorem dX13_readBeach_22 : decode cX13_readBeach 22 = .ok (.iconst 1, 1) := by decide +kernel
theorem dX13_readBeach_23 : decode cX13_readBeach 23 = .ok (.bipush 60, 2) := by decide +kernel
theorem dX13_readBeach_25 : decode cX13_readBeach 25 = .ok (.invokevirtual 207, 3) := by decide +kernel
theorem dX13_readBeach_28 : decode cX13_readBeach 28 = .ok (.istore_n 1, 1) := by decide +kernel
theorem dX13_readBeach_29 : decode cX13_readBeach 29 = .ok (.aload_n 0, 1) := by decide +kernel
theorem dX13_readBeach_30 : decode cX13_readBeach 30 = .ok (.ldc 211, 2) := by decide +kernel
theorem dX13_readBeach_32 : decode cX13_readBeach 32 = .ok (.iconst 0, 1) := by decide +kernel
theorem dX13_readBeach_33 : decode cX13_readBeach 33 = .ok (.bipush 9, 2) := by decide +kernel
theorem dX13_readBeach_35 : decode cX13_readBeach 35 = .ok (.invokevirtual 207, 3) := by decide +kernel
theorem dX13_readBeach_38 : decode cX13_readBeach 38 = .ok (.istore_n 2, 1) := by decide +kernel
theorem dX13_readBeach_39 : decode cX13_readBeach 39 = .ok (.aload_n 0, 1) := by decide +kernel
theorem dX13_readBeach_40 : decode cX13_readBeach 40 = .ok (.ldc 213, 2) := by decide +kernel
theorem dX13_readBeach_42 : decode cX13_readBeach 42 = .ok (.iconst 0, 1) := by decide +kernel
theorem dX13_readBeach_43 : decode cX13_readBeach 43 = .ok (.bipush 100, 2) := by decide +kernel
theorem dX13_readBeach_45 : decode cX13_readBeach 45 = .ok (.invokevirtual 207, 3) := by decide +kernel
theorem dX13_readBeach_48 : decode cX13_readBeach 48 = .ok (.istore_n 3, 1) := by decide +kernel
theorem dX13_readBeach_49 : decode cX13_readBeach 49 = .ok (.aload_n 0, 1) := by decide +kernel
theorem dX13_readBeach_50 : decode cX13_readBeach 50 = .ok (.getfield 80, 3) := by decide +kernel
theorem dX13_readBeach_53 : decode cX13_readBeach 53 = .ok (.iconst 5, 1) := by decide +kernel
theorem dX13_readBeach_54 : decode cX13_readBeach 54 = .ok (.if_icmp .ne 4, 3) := by decide +kernel
theorem dX13_readBeach_57 : decode cX13_readBeach 57 = .ok (.return_, 1) := by decide +kernel
theorem dX13_readBeach_58 : decode cX13_readBeach 58 = .ok (.aload_n 0, 1) := by decide +kernel
theorem dX13_readBeach_59 : decode cX13_readBeach 59 = .ok (.getfield 149, 3) := by decide +kernel
theorem dX13_readBeach_62 : decode cX13_readBeach 62 = .ok (.iload_n 1, 1) := by decide +kernel
theorem dX13_readBeach_63 : decode cX13_readBeach 63 = .ok (.putfield 153, 3) := by decide +kernel
theorem dX13_readBeach_66 : decode cX13_readBeach 66 = .ok (.aload_n 0, 1) := by decide +kernel
theorem dX13_readBeach_67 : decode cX13_readBeach 67 = .ok (.getfield 149, 3) := by decide +kernel
theorem dX13_readBeach_70 : decode cX13_readBeach 70 = .ok (.iload_n 2, 1) := by decide +kernel
theorem dX13_readBeach_71 : decode cX13_readBeach 71 = .ok (.putfield 215, 3) := by decide +kernel
theorem dX13_readBeach_74 : decode cX13_readBeach 74 = .ok (.aload_n 0, 1) := by decide +kernel
theorem dX13_readBeach_75 : decode cX13_readBeach 75 = .ok (.getfield 149, 3) := by decide +kernel
theorem dX13_readBeach_78 : decode cX13_readBeach 78 = .ok (.iload_n 3, 1) := by decide +kernel
theorem dX13_readBeach_79 : decode cX13_readBeach 79 = .ok (.putfield 217, 3) := by decide +kernel
theorem dX13_readBeach_82 : decode cX13_readBeach 82 = .ok (.return_, 1) := by decide +kernel
theorem dX13_readPerson_0 : decode cX13_readPerson 0 = .ok (.aload_n 0, 1) := by decide +kernel
theorem dX13_readPerson_1 : decode cX13_readPerson 1 = .ok (.aload_n 0, 1) := by decide +kernel
theorem dX13_readPerson_2 : decode cX13_readPerson 2 = .ok (.getfield 149, 3) := by decide +kernel
theorem dX13_readPerson_5 : decode cX13_readPerson 5 = .ok (.getfield 185, 3) := by decide +kernel
theorem dX13_readPerson_8 : decode cX13_readPerson 8 = .ok (.bipush 6, 2) := by decide +kernel
theorem dX13_readPerson_10 : decode cX13_readPerson 10 = .ok (.invokevirtual 219, 3) := by decide +kernel
theorem dX13_readPerson_13 : decode cX13_readPerson 13 = .ok (.aload_n 0, 1) := by decide +kernel
theorem dX13_readPerson_14 : decode cX13_readPerson 14 = .ok (.invokevirtual 223, 3) := by decide +kernel
theorem dX13_readPerson_17 : decode cX13_readPerson 17 = .ok (.lstore_n 1, 1) := by decide +kernel
theorem dX13_readPerson_18 : decode cX13_readPerson 18 = .ok (.aload_n 0, 1) := by decide +kernel
theorem dX13_readPerson_19 : decode cX13_readPerson 19 = .ok (.ldc 227, 2) := by decide +kernel
theorem dX13_readPerson_21 : decode cX13_readPerson 21 = .ok (.invokevirtual 119, 3) := by decide +kernel
theorem dX13_readPerson_24 : decode cX13_readPerson 24 = .ok (.ifCond .eq 7, 3) := by decide +kernel
theorem dX13_readPerson_27 : decode cX13_readPerson 27 = .ok (.iconst 0, 1) := by decide +kernel
theorem dX13_readPerson_28 : decode cX13_readPerson 28 = .ok (.goto 43, 3) := by decide +kernel
theorem dX13_readPerson_31 : decode cX13_readPerson 31 = .ok (.aload_n 0, 1) := by decide +kernel
theorem dX13_readPerson_32 : decode cX13_readPerson 32 = .ok (.ldc 229, 2) := by decide +kernel
theorem dX13_readPerson_34 : decode cX13_readPerson 34 = .ok (.invokevirtual 119, 3) := by decide +kernel
theorem dX13_readPerson_37 : decode cX13_readPerson 37 = .ok (.ifCond .eq 7, 3) := by decide +kernel
theorem dX13_readPerson_40 : decode cX13_readPerson 40 = .ok (.iconst 1, 1) := by decide +kernel
theorem dX13_readPerson_41 : decode cX13_readPerson 41 = .ok (.goto 30, 3) := by decide +kernel
theorem dX13_readPerson_44 : decode cX13_readPerson 44 = .ok (.aload_n 0, 1) := by decide +kernel
theorem dX13_readPerson_45 : decode cX13_readPerson 45 = .ok (.ldc 231, 2) := by decide +kernel
theorem dX13_readPerson_47 : decode cX13_readPerson 47 = .ok (.invokevirtual 119, 3) := by decide +kernel
theorem dX13_readPerson_50 : decode cX13_readPerson 50 = .ok (.ifCond .eq 7, 3) := by decide +kernel
theorem dX13_readPerson_53 : decode cX13_readPerson 53 = .ok (.iconst 2, 1) := by decide +kernel
theorem dX13_readPerson_54 : decode cX13_readPerson 54 = .ok (.goto 17, 3) := by decide +kernel
theorem dX13_readPerson_57 : decode cX13_readPerson 57 = .ok (.aload_n 0, 1) := by decide +kernel
theorem dX13_readPerson_58 : decode cX13_readPerson 58 = .ok (.ldc 233, 2) := by decide +kernel
theorem dX13_readPerson_60 : decode cX13_readPerson 60 = .ok (.invokevirtual 119, 3) := by decide +kernel
theorem dX13_readPerson_63 : decode cX13_readPerson 63 = .ok (.ifCond .eq 7, 3) := by decide +kernel
theorem dX13_readPerson_66 : decode cX13_readPerson 66 = .ok (.iconst 3, 1) := by decide +kernel
theorem dX13_readPerson_67 : decode cX13_readPerson 67 = .ok (.goto 4, 3) := by decide +kernel
theorem dX13_readPerson_70 : decode cX13_readPerson 70 = .ok (.iconst (-1), 1) := by decide +kernel
theorem dX13_readPerson_71 : decode cX13_readPerson 71 = .ok (.istore_n 3, 1) := by decide +kernel
theorem dX13_readPerson_72 : decode cX13_readPerson 72 = .ok (.iload_n 3, 1) := by decide +kernel
theorem dX13_readPerson_73 : decode cX13_readPerson 73 = .ok (.iconst (-1), 1) := by decide +kernel
theorem dX13_readPerson_74 : decode cX13_readPerson 74 = .ok (.if_icmp .ne 8, 3) := by decide +kernel
theorem dX13_readPerson_77 : decode cX13_readPerson 77 = .ok (.aload_n 0, 1) := by decide +kernel
theorem dX13_readPerson_78 : decode cX13_readPerson 78 = .ok (.iconst 1, 1) := by decide +kernel
theorem dX13_readPerson_79 : decode cX13_readPerson 79 = .ok (.invokevirtual 123, 3) := by decide +kernel
theorem dX13_readPerson_82 : decode cX13_readPerson 82 = .ok (.aload_n 0, 1) := by decide +kernel
theorem dX13_readPerson_83 : decode cX13_readPerson 83 = .ok (.invokevirtual 116, 3) := by decide +kernel
theorem dX13_readPerson_86 : decode cX13_readPerson 86 = .ok (.aload_n 0, 1) := by decide +kernel
theorem dX13_readPerson_87 : decode cX13_readPerson 87 = .ok (.ldc 235, 2) := by decide +kernel
theorem dX13_readPerson_89 : decode cX13_readPerson 89 = .ok (.iconst 0, 1) := by decide +kernel
theorem dX13_readPerson_90 : decode cX13_readPerson 90 = .ok (.bipush 99, 2) := by decide +kernel
theorem dX13_readPerson_92 : decode cX13_readPerson 92 = .ok (.invokevirtual 207, 3) := by decide +kernel
theorem dX13_readPerson_95 : decode cX13_readPerson 95 = .ok (.istore 4, 2) := by decide +kernel
theorem dX13_readPerson_97 : decode cX13_readPerson 97 = .ok (.aload_n 0, 1) := by decide +kernel
theorem dX13_readPerson_98 : decode cX13_readPerson 98 = .ok (.ldc 237, 2) := by decide +kernel
theorem dX13_readPerson_100 : decode cX13_readPerson 100 = .ok (.iconst 0, 1) := by decide +kernel
theorem dX13_readPerson_101 : decode cX13_readPerson 101 = .ok (.bipush 99, 2) := by decide +kernel
theorem dX13_readPerson_103 : decode cX13_readPerson 103 = .ok (.invokevirtual 207, 3) := by decide +kernel
theorem dX13_readPerson_106 : decode cX13_readPerson 106 = .ok (.istore 5, 2) := by decide +kernel
theorem dX13_readPerson_108 : decode cX13_readPerson 108 = .ok (.aload_n 0, 1) := by decide +kernel
theorem dX13_readPerson_109 : decode cX13_readPerson 109 = .ok (.ldc 239, 2) := by decide +kernel
theorem dX13_readPerson_111 : decode cX13_readPerson 111 = .ok (.iconst 0, 1) := by decide +kernel
theorem dX13_readPerson_112 : decode cX13_readPerson 112 = .ok (.bipush 100, 2) := by decide +kernel
theorem dX13_readPerson_114 : decode cX13_readPerson 114 = .ok (.invokevirtual 207, 3) := by decide +kernel
theorem dX13_readPerson_117 : decode cX13_readPerson 117 = .ok (.istore 6, 2) := by decide +kernel
theorem dX13_readPerson_119 : decode cX13_readPerson 119 = .ok (.aload_n 0, 1) := by decide +kernel
theorem dX13_readPerson_120 : decode cX13_readPerson 120 = .ok (.getfield 80, 3) := by decide +kernel
theorem dX13_readPerson_123 : decode cX13_readPerson 123 = .ok (.iconst 5, 1) := by decide +kernel
theorem dX13_readPerson_124 : decode cX13_readPerson 124 = .ok (.if_icmp .ne 4, 3) := by decide +kernel
theorem dX13_readPerson_127 : decode cX13_readPerson 127 = .ok (.return_, 1) := by decide +kernel
theorem dX13_readPerson_128 : decode cX13_readPerson 128 = .ok (.aload_n 0, 1) := by decide +kernel
theorem dX13_readPerson_129 : decode cX13_readPerson 129 = .ok (.getfield 149, 3) := by decide +kernel
theorem dX13_readPerson_132 : decode cX13_readPerson 132 = .ok (.getfield 185, 3) := by decide +kernel
theorem dX13_readPerson_135 : decode cX13_readPerson 135 = .ok (.istore 7, 2) := by decide +kernel
theorem dX13_readPerson_137 : decode cX13_readPerson 137 = .ok (.aload_n 0, 1) := by decide +kernel
theorem dX13_readPerson_138 : decode cX13_readPerson 138 = .ok (.lload_n 1, 1) := by decide +kernel
theorem dX13_readPerson_139 : decode cX13_readPerson 139 = .ok (.iconst 0, 1) := by decide +kernel
theorem dX13_readPerson_140 : decode cX13_readPerson 140 = .ok (.iload 7, 2) := by decide +kernel
theorem dX13_readPerson_142 : decode cX13_readPerson 142 = .ok (.invokevirtual 241, 3) := by decide +kernel
theorem dX13_readPerson_145 : decode cX13_readPerson 145 = .ok (.aload_n 0, 1) := by decide +kernel
theorem dX13_readPerson_146 : decode cX13_readPerson 146 = .ok (.getfield 149, 3) := by decide +kernel
theorem dX13_readPerson_149 : decode cX13_readPerson 149 = .ok (.getfield 244, 3) := by decide +kernel
theorem dX13_readPerson_152 : decode cX13_readPerson 152 = .ok (.iload 7, 2) := by decide +kernel
theorem dX13_readPerson_154 : decode cX13_readPerson 154 = .ok (.iload_n 3, 1) := by decide +kernel
theorem dX13_readPerson_155 : decode cX13_readPerson 155 = .ok (.iastore, 1) := by decide +kernel
theorem dX13_readPerson_156 : decode cX13_readPerson 156 = .ok (.aload_n 0, 1) := by decide +kernel
theorem dX13_readPerson_157 : decode cX13_readPerson 157 = .ok (.getfield 149, 3) := by decide +kernel
theorem dX13_readPerson_160 : decode cX13_readPerson 160 = .ok (.getfield 247, 3) := by decide +kernel
theorem dX13_readPerson_163 : decode cX13_readPerson 163 = .ok (.iload 7, 2) := by decide +kernel
theorem dX13_readPerson_165 : decode cX13_readPerson 165 = .ok (.iload 4, 2) := by decide +kernel
theorem dX13_readPerson_167 : decode cX13_readPerson 167 = .ok (.iastore, 1) := by decide +kernel
theorem dX13_readPerson_168 : decode cX13_readPerson 168 = .ok (.aload_n 0, 1) := by decide +kernel
theorem dX13_readPerson_169 : decode cX13_readPerson 169 = .ok (.getfield 149, 3) := by decide +kernel
theorem dX13_readPerson_172 : decode cX13_readPerson 172 = .ok (.getfield 249, 3) := by decide +kernel
theorem dX13_readPerson_175 : decode cX13_readPerson 175 = .ok (.iload 7, 2) := by decide +kernel
theorem dX13_readPerson_177 : decode cX13_readPerson 177 = .ok (.iload 5, 2) := by decide +kernel
theorem dX13_readPerson_179 : decode cX13_readPerson 179 = .ok (.iastore, 1) := by decide +kernel
theorem dX13_readPerson_180 : decode cX13_readPerson 180 = .ok (.aload_n 0, 1) := by decide +kernel
theorem dX13_readPerson_181 : decode cX13_readPerson 181 = .ok (.getfield 149, 3) := by decide +kernel
theorem dX13_readPerson_184 : decode cX13_readPerson 184 = .ok (.getfield 251, 3) := by decide +kernel
theorem dX13_readPerson_187 : decode cX13_readPerson 187 = .ok (.iload 7, 2) := by decide +kernel
theorem dX13_readPerson_189 : decode cX13_readPerson 189 = .ok (.iload 6, 2) := by decide +kernel
theorem dX13_readPerson_191 : decode cX13_readPerson 191 = .ok (.iastore, 1) := by decide +kernel
theorem dX13_readPerson_192 : decode cX13_readPerson 192 = .ok (.aload_n 0, 1) := by decide +kernel
theorem dX13_readPerson_193 : decode cX13_readPerson 193 = .ok (.getfield 149, 3) := by decide +kernel
theorem dX13_readPerson_196 : decode cX13_readPerson 196 = .ok (.dup, 1) := by decide +kernel
theorem dX13_readPerson_197 : decode cX13_readPerson 197 = .ok (.getfield 185, 3) := by decide +kernel
theorem dX13_readPerson_200 : decode cX13_readPerson 200 = .ok (.iconst 1, 1) := by decide +kernel
theorem dX13_readPerson_201 : decode cX13_readPerson 201 = .ok (.iadd, 1) := by decide +kernel
theorem dX13_readPerson_202 : decode cX13_readPerson 202 = .ok (.putfield 185, 3) := by decide +kernel
theorem dX13_readPerson_205 : decode cX13_readPerson 205 = .ok (.return_, 1) := by decide +kernel
def m_X13_isName (t : Nat) (σ : jd_Hp) : Option (Int32 × jd_Hp) :=
jd_if (¬ (σ.2.1 t 9) = 2) (
some (0, σ)) (
jd_b (m_X13_isWord t (some 0) σ) fun r1 σ1 =>
jd_if (¬ r1 = 0) (
some (0, σ1)) (
jd_b (m_X13_isWord t (some 1) σ1) fun r2 σ2 =>
jd_if (¬ r2 = 0) (
some (0, σ2)) (
jd_b (m_X13_isWord t (some 2) σ2) fun r3 σ3 =>
jd_if (¬ r3 = 0) (
some (0, σ3)) (
jd_b (m_X13_isWord t (some 3) σ3) fun r4 σ4 =>
jd_if (r4 = 0) (
jd_b (m_X13_isWord t (some 4) σ4) fun r5 σ5 =>
jd_if (¬ r5 = 0) (
some (0, σ5)) (
jd_b (m_X13_isWord t (some 5) σ5) fun r6 σ6 =>
jd_if (¬ r6 = 0) (
some (0, σ6)) (
jd_b (m_X13_isWord t (some 6) σ6) fun r7 σ7 =>
jd_if (¬ r7 = 0) (
some (0, σ7)) (
some (1, σ7))))) (
some (0, σ4))))))
set_option maxHeartbeats 4000000 in
set_option maxRecDepth 20000 in
theorem c_X13_isName {l : Launch} {s0 : State} {G : jd_G} (hF : jd_F s0 G) (σ : jd_Hp) (t : Nat) (ht : σ.1[t]? = some (13, 29)) : jd_M l s0 G yX13_isName cX13_isName 1 (some .boolean) 9 je_i [jd_v G (some t)] σ (m_X13_isName t σ) := by
  refine jd_enter hF (by decide) (fun G => [some (jd_v G (some t))]) rfl (by simp [lv_args, jd_al, jd_v_cat, jd_cti, jd_ctl]) (by simp [lg_sl, jd_v_cat, jd_cti, jd_ctl]) (fun X hD hX => ?_)
  have hX : jd_C X RX13 "isName" cX13_isName 1 (some .boolean) := hX
  unfold m_X13_isName
  refine jr_ald0 (pc := 0) hX dX13_isName_0 ?_
  refine jr_geti (pc := 1) hX fX13_80 rfl dX13_isName_1 ht ?_
  refine jr_iconst (pc := 4) hX 2 rfl dX13_isName_4 ?_
  refine jr_icne (pc := 5) hX 44 dX13_isName_5 (by decide) ?_ ?_
  · refine jr_iconst (pc := 44) hX 0 rfl dX13_isName_44 ?_
    exact jr_zret (pc := 45) hX dX13_isName_45 (Or.inl rfl) rfl
  · refine jr_ald0 (pc := 8) hX dX13_isName_8 ?_
    refine jr_ldcS (pc := 9) hX sX13_135 dX13_isName_9 ?_
    refine jr_cV1i (pc := 11) hX lX13_119 (c_X13_isWord hX.F σ t ht _) (jd_dd hD rfl) (Nat.le_of_ble_eq_true rfl) dX13_isName_11 ht (fun r1 σ1 p1 => ?_)
    refine jr_ifne (pc := 14) hX 44 dX13_isName_14 (by decide) ?_ ?_
    · refine jr_iconst (pc := 44) hX 0 rfl dX13_isName_44 ?_
      exact jr_zret (pc := 45) hX dX13_isName_45 (Or.inl rfl) rfl
    · refine jr_ald0 (pc := 17) hX dX13_isName_17 ?_
      refine jr_ldcS (pc := 18) hX sX13_137 dX13_isName_18 ?_
      refine jr_cV1i (pc := 20) hX lX13_119 (c_X13_isWord hX.F σ1 t (p1.at ht :) _) (jd_dd hD rfl) (Nat.le_of_ble_eq_true rfl) dX13_isName_20 (p1.at ht :) (fun r2 σ2 p2 => ?_)
      refine jr_ifne (pc := 23) hX 44 dX13_isName_23 (by decide) ?_ ?_
      · refine jr_iconst (pc := 44) hX 0 rfl dX13_isName_44 ?_
        exact jr_zret (pc := 45) hX dX13_isName_45 (Or.inl rfl) rfl
      · refine jr_ald0 (pc := 26) hX dX13_isName_26 ?_
        refine jr_ldcS (pc := 27) hX sX13_139 dX13_isName_27 ?_
        refine jr_cV1i (pc := 29) hX lX13_119 (c_X13_isWord hX.F σ2 t (p2.at (p1.at ht :) :) _) (jd_dd hD rfl) (Nat.le_of_ble_eq_true rfl) dX13_isName_29 (p2.at (p1.at ht :) :) (fun r3 σ3 p3 => ?_)
        refine jr_ifne (pc := 32) hX 44 dX13_isName_32 (by decide) ?_ ?_
        · refine jr_iconst (pc := 44) hX 0 rfl dX13_isName_44 ?_
          exact jr_zret (pc := 45) hX dX13_isName_45 (Or.inl rfl) rfl
        · refine jr_ald0 (pc := 35) hX dX13_isName_35 ?_
          refine jr_ldcS (pc := 36) hX sX13_141 dX13_isName_36 ?_
          refine jr_cV1i (pc := 38) hX lX13_119 (c_X13_isWord hX.F σ3 t (p3.at (p2.at (p1.at ht :) :) :) _) (jd_dd hD rfl) (Nat.le_of_ble_eq_true rfl) dX13_isName_38 (p3.at (p2.at (p1.at ht :) :) :) (fun r4 σ4 p4 => ?_)
          refine jr_ifeq (pc := 41) hX 46 dX13_isName_41 (by decide) ?_ ?_
          · refine jr_ald0 (pc := 46) hX dX13_isName_46 ?_
            refine jr_ldcS (pc := 47) hX sX13_143 dX13_isName_47 ?_
            refine jr_cV1i (pc := 49) hX lX13_119 (c_X13_isWord hX.F σ4 t (p4.at (p3.at (p2.at (p1.at ht :) :) :) :) _) (jd_dd hD rfl) (Nat.le_of_ble_eq_true rfl) dX13_isName_49 (p4.at (p3.at (p2.at (p1.at ht :) :) :) :) (fun r5 σ5 p5 => ?_)
            refine jr_ifne (pc := 52) hX 77 dX13_isName_52 (by decide) ?_ ?_
            · refine jr_iconst (pc := 77) hX 0 rfl dX13_isName_77 ?_
              exact jr_zret (pc := 78) hX dX13_isName_78 (Or.inl rfl) rfl
            · refine jr_ald0 (pc := 55) hX dX13_isName_55 ?_
              refine jr_ldcS (pc := 56) hX sX13_145 dX13_isName_56 ?_
              refine jr_cV1i (pc := 58) hX lX13_119 (c_X13_isWord hX.F σ5 t (p5.at (p4.at (p3.at (p2.at (p1.at ht :) :) :) :) :) _) (jd_dd hD rfl) (Nat.le_of_ble_eq_true rfl) dX13_isName_58 (p5.at (p4.at (p3.at (p2.at (p1.at ht :) :) :) :) :) (fun r6 σ6 p6 => ?_)
              refine jr_ifne (pc := 61) hX 77 dX13_isName_61 (by decide) ?_ ?_
              · refine jr_iconst (pc := 77) hX 0 rfl dX13_isName_77 ?_
                exact jr_zret (pc := 78) hX dX13_isName_78 (Or.inl rfl) rfl
              · refine jr_ald0 (pc := 64) hX dX13_isName_64 ?_
                refine jr_ldcS (pc := 65) hX sX13_147 dX13_isName_65 ?_
                refine jr_cV1i (pc := 67) hX lX13_119 (c_X13_isWord hX.F σ6 t (p6.at (p5.at (p4.at (p3.at (p2.at (p1.at ht :) :) :) :) :) :) _) (jd_dd hD rfl) (Nat.le_of_ble_eq_true rfl) dX13_isName_67 (p6.at (p5.at (p4.at (p3.at (p2.at (p1.at ht :) :) :) :) :) :) (fun r7 σ7 p7 => ?_)
                refine jr_ifne (pc := 70) hX 77 dX13_isName_70 (by decide) ?_ ?_
                · refine jr_iconst (pc := 77) hX 0 rfl dX13_isName_77 ?_
                  exact jr_zret (pc := 78) hX dX13_isName_78 (Or.inl rfl) rfl
                · refine jr_iconst (pc := 73) hX 1 rfl dX13_isName_73 ?_
                  refine jr_goto (pc := 74) hX 78 dX13_isName_74 (by decide) ?_
                  exact jr_zret (pc := 78) hX dX13_isName_78 (Or.inr rfl) rfl
          · refine jr_iconst (pc := 44) hX 0 rfl dX13_isName_44 ?_
            exact jr_zret (pc := 45) hX dX13_isName_45 (Or.inl rfl) rfl
def m_X13_readFresh (t : Nat) (σ : jd_Hp) : Option (Int64 × jd_Hp) :=
jd_b (m_X13_isName t σ) fun r1 σ1 =>
jd_b (α := Unit) (
jd_if (¬ r1 = 0) (
some ((), σ1)) (
jd_b (m_X13_flaw t 1 σ1) fun r4 σ4 =>
some ((), σ4))) fun t3 σ3 =>
jd_o σ3 (13, 29) (some t) fun a5 =>
jd_o σ3 (12, 20) (σ3.2.2.2 a5 4) fun a6 =>
jd_b (m_X12_find a6 (σ3.2.2.1 a5 14) σ3) fun r7 σ7 =>
jd_b (α := Unit) (
jd_if (r7 = (-1)) (
some ((), σ7)) (
jd_b (m_X13_flaw a5 3 σ7) fun r10 σ10 =>
some ((), σ10))) fun t9 σ9 =>
jd_o σ9 (13, 29) (some t) fun a11 =>
jd_li (σ9.2.2.1 a11 14) fun x12 =>
jd_b (m_X13_goesOn a11 σ9) fun r13 σ13 =>
some (x12, σ13)
set_option maxHeartbeats 4000000 in
set_option maxRecDepth 20000 in
theorem c_X13_readFresh {l : Launch} {s0 : State} {G : jd_G} (hF : jd_F s0 G) (σ : jd_Hp) (t : Nat) (ht : σ.1[t]? = some (13, 29)) : jd_M l s0 G yX13_readFresh cX13_readFresh 3 (some .long) 10 je_l [jd_v G (some t)] σ (m_X13_readFresh t σ) := by
  refine jd_enter hF (by decide) (fun G => [some (jd_v G (some t)), none, none]) rfl (by simp [lv_args, jd_al, jd_v_cat, jd_cti, jd_ctl]) (by simp [lg_sl, jd_v_cat, jd_cti, jd_ctl]) (fun X hD hX => ?_)
  have hX : jd_C X RX13 "readFresh" cX13_readFresh 3 (some .long) := hX
  unfold m_X13_readFresh
  refine jr_ald0 (pc := 0) hX dX13_readFresh_0 ?_
  refine jr_cV0i (pc := 1) hX lX13_158 (c_X13_isName hX.F σ t ht) (jd_dd hD rfl) (Nat.le_of_ble_eq_true rfl) dX13_readFresh_1 ht (fun r1 σ1 p1 => ?_)
  refine jr_join (pc := 4) 12 (fun (t3 : Unit) => [some (jd_v (jd_gG X) (some t)), none, none]) (fun (t3 : Unit) => []) (fun t3 σ3 => ?_) (fun K3 jj3 => ?_)
  · refine jr_ald0 (pc := 12) hX dX13_readFresh_12 ?_
    refine jr_ck0 (fun a5 e5 h5 => ?_)
    refine jr_getr (pc := 13) hX fX13_149 rfl dX13_readFresh_13 h5 ?_
    refine jr_ald0 (pc := 16) hX dX13_readFresh_16 ?_
    refine jr_ek0 e5 ?_
    refine jr_getl (pc := 17) hX fX13_96 rfl dX13_readFresh_17 h5 ?_
    refine jr_ck1 (fun a6 e6 h6 => ?_)
    refine jr_cV1i (pc := 20) hX lX13_162 (c_X12_find hX.F σ3 a6 h6 _) (jd_dd hD rfl) (Nat.le_of_ble_eq_true rfl) dX13_readFresh_20 h6 (fun r7 σ7 p7 => ?_)
    refine jr_iconst (pc := 23) hX (-1) rfl dX13_readFresh_23 ?_
    refine jr_join (pc := 24) 32 (fun (t9 : Unit) => [some (jd_v (jd_gG X) (some t)), none, none]) (fun (t9 : Unit) => []) (fun t9 σ9 => ?_) (fun K9 jj9 => ?_)
    · refine jr_ald0 (pc := 32) hX dX13_readFresh_32 ?_
      refine jr_ck0 (fun a11 e11 h11 => ?_)
      refine jr_getl (pc := 33) hX fX13_96 rfl dX13_readFresh_33 h11 ?_
      refine jr_lst1 (pc := 36) hX (jn_r _ _) dX13_readFresh_36 ?_
      refine jr_li ?_
      refine jr_ald0 (pc := 37) hX dX13_readFresh_37 ?_
      refine jr_ek0 e11 ?_
      refine jr_cV0v (pc := 38) hX lX13_116 (c_X13_goesOn hX.F σ9 a11 h11) (jd_dd hD rfl) (Nat.le_of_ble_eq_true rfl) dX13_readFresh_38 h11 (fun r13 σ13 p13 => ?_)
      refine jr_lld1 (pc := 41) hX dX13_readFresh_41 ?_
      exact jr_lret (pc := 42) hX dX13_readFresh_42 rfl
    · refine jr_iceq (pc := 24) hX 32 dX13_readFresh_24 (by decide) ?_ ?_
      · exact jj9 () _
      · refine jr_ald0 (pc := 27) hX dX13_readFresh_27 ?_
        refine jr_iconst (pc := 28) hX 3 rfl dX13_readFresh_28 ?_
        refine jr_ek1 e5 ?_
        refine jr_cV1v (pc := 29) hX lX13_123 (c_X13_flaw hX.F σ7 a5 (p7.at h5 :) _) (jd_dd hD rfl) (Nat.le_of_ble_eq_true rfl) dX13_readFresh_29 (p7.at h5 :) (fun r10 σ10 p10 => ?_)
        exact jj9 () _
  · refine jr_ifne (pc := 4) hX 12 dX13_readFresh_4 (by decide) ?_ ?_
    · exact jj3 () _
    · refine jr_ald0 (pc := 7) hX dX13_readFresh_7 ?_
      refine jr_iconst (pc := 8) hX 1 rfl dX13_readFresh_8 ?_
      refine jr_cV1v (pc := 9) hX lX13_123 (c_X13_flaw hX.F σ1 t (p1.at ht :) _) (jd_dd hD rfl) (Nat.le_of_ble_eq_true rfl) dX13_readFresh_9 (p1.at ht :) (fun r4 σ4 p4 => ?_)
      exact jj3 () _
def m_X13_knownOne (t : Nat) (x0p : Int32) (σ : jd_Hp) : Option (Int32 × jd_Hp) :=
jd_b (m_X13_isName t σ) fun r1 σ1 =>
jd_b (α := Unit) (
jd_if (¬ r1 = 0) (
some ((), σ1)) (
jd_b (m_X13_flaw t 1 σ1) fun r4 σ4 =>
some ((), σ4))) fun t3 σ3 =>
jd_o σ3 (13, 29) (some t) fun a5 =>
jd_o σ3 (12, 20) (σ3.2.2.2 a5 4) fun a6 =>
jd_b (m_X12_find a6 (σ3.2.2.1 a5 14) σ3) fun r7 σ7 =>
jd_b (α := Unit) (
jd_if (r7 = (-1)) (
jd_b (m_X13_flaw a5 2 σ7) fun r13 σ13 =>
some ((), σ13)) (
jd_o σ7 (12, 20) (σ7.2.2.2 a5 4) fun a14 =>
jd_ia σ7 20 (σ7.2.2.2 a14 18) r7 fun a15 j15 =>
jd_if ((σ7.2.1 a15 j15) = x0p) (
some ((), σ7)) (
jd_b (m_X13_flaw a5 2 σ7) fun r16 σ16 =>
some ((), σ16)))) fun t12 σ12 =>
jd_o σ12 (13, 29) (some t) fun a17 =>
jd_if (¬ (σ12.2.1 a17 9) = 5) (
jd_o σ12 (12, 20) (σ12.2.2.2 a17 4) fun a18 =>
jd_ia σ12 20 (σ12.2.2.2 a18 19) r7 fun a19 j19 =>
some ((σ12.2.1 a19 j19), σ12)) (
some (0, σ12))
set_option maxHeartbeats 4000000 in
set_option maxRecDepth 20000 in
theorem c_X13_knownOne {l : Launch} {s0 : State} {G : jd_G} (hF : jd_F s0 G) (σ : jd_Hp) (t : Nat) (ht : σ.1[t]? = some (13, 29)) (x0p : Int32) : jd_M l s0 G yX13_knownOne cX13_knownOne 3 (some .int) 10 je_i [jd_v G (some t), .int x0p] σ (m_X13_knownOne t x0p σ) := by
  refine jd_enter hF (by decide) (fun G => [some (jd_v G (some t)), some (.int x0p), none]) rfl (by simp [lv_args, jd_al, jd_v_cat, jd_cti, jd_ctl]) (by simp [lg_sl, jd_v_cat, jd_cti, jd_ctl]) (fun X hD hX => ?_)
  have hX : jd_C X RX13 "knownOne" cX13_knownOne 3 (some .int) := hX
  unfold m_X13_knownOne
  refine jr_ald0 (pc := 0) hX dX13_knownOne_0 ?_
  refine jr_cV0i (pc := 1) hX lX13_158 (c_X13_isName hX.F σ t ht) (jd_dd hD rfl) (Nat.le_of_ble_eq_true rfl) dX13_knownOne_1 ht (fun r1 σ1 p1 => ?_)
  refine jr_join (pc := 4) 12 (fun (t3 : Unit) => [some (jd_v (jd_gG X) (some t)), some (.int x0p), none]) (fun (t3 : Unit) => []) (fun t3 σ3 => ?_) (fun K3 jj3 => ?_)
  · refine jr_ald0 (pc := 12) hX dX13_knownOne_12 ?_
    refine jr_ck0 (fun a5 e5 h5 => ?_)
    refine jr_getr (pc := 13) hX fX13_149 rfl dX13_knownOne_13 h5 ?_
    refine jr_ald0 (pc := 16) hX dX13_knownOne_16 ?_
    refine jr_ek0 e5 ?_
    refine jr_getl (pc := 17) hX fX13_96 rfl dX13_knownOne_17 h5 ?_
    refine jr_ck1 (fun a6 e6 h6 => ?_)
    refine jr_cV1i (pc := 20) hX lX13_162 (c_X12_find hX.F σ3 a6 h6 _) (jd_dd hD rfl) (Nat.le_of_ble_eq_true rfl) dX13_knownOne_20 h6 (fun r7 σ7 p7 => ?_)
    refine jr_ist2 (pc := 23) hX (jn_i _) dX13_knownOne_23 ?_
    refine jr_ild2 (pc := 24) hX dX13_knownOne_24 ?_
    refine jr_iconst (pc := 25) hX (-1) rfl dX13_knownOne_25 ?_
    refine jr_join (pc := 26) 47 (fun (t12 : Unit) => [some (jd_v (jd_gG X) (some t)), none, some (.int r7)]) (fun (t12 : Unit) => []) (fun t12 σ12 => ?_) (fun K12 jj12 => ?_)
    · refine jr_ald0 (pc := 47) hX dX13_knownOne_47 ?_
      refine jr_ck0 (fun a17 e17 h17 => ?_)
      refine jr_geti (pc := 48) hX fX13_80 rfl dX13_knownOne_48 h17 ?_
      refine jr_iconst (pc := 51) hX 5 rfl dX13_knownOne_51 ?_
      refine jr_icne (pc := 52) hX 59 dX13_knownOne_52 (by decide) ?_ ?_
      · refine jr_ald0 (pc := 59) hX dX13_knownOne_59 ?_
        refine jr_ek0 e17 ?_
        refine jr_getr (pc := 60) hX fX13_149 rfl dX13_knownOne_60 h17 ?_
        refine jr_ck0 (fun a18 e18 h18 => ?_)
        refine jr_getrN (pc := 63) hX fX13_176 rfl dX13_knownOne_63 h18 ?_
        refine jr_ild2 (pc := 66) hX dX13_knownOne_66 ?_
        refine jr_iaC (pc := 67) hX dX13_knownOne_67 (fun a19 n19 e19 h19 => ?_)
        exact jr_iret (pc := 68) hX dX13_knownOne_68 rfl
      · refine jr_iconst (pc := 55) hX 0 rfl dX13_knownOne_55 ?_
        refine jr_goto (pc := 56) hX 68 dX13_knownOne_56 (by decide) ?_
        exact jr_iret (pc := 68) hX dX13_knownOne_68 rfl
    · refine jr_iceq (pc := 26) hX 42 dX13_knownOne_26 (by decide) ?_ ?_
      · refine jr_ald0 (pc := 42) hX dX13_knownOne_42 ?_
        refine jr_iconst (pc := 43) hX 2 rfl dX13_knownOne_43 ?_
        refine jr_ek1 e5 ?_
        refine jr_cV1v (pc := 44) hX lX13_123 (c_X13_flaw hX.F σ7 a5 (p7.at h5 :) _) (jd_dd hD rfl) (Nat.le_of_ble_eq_true rfl) dX13_knownOne_44 (p7.at h5 :) (fun r13 σ13 p13 => ?_)
        refine jr_wk [true, false, true] ?_
        exact jj12 () _
      · refine jr_ald0 (pc := 29) hX dX13_knownOne_29 ?_
        refine jr_ek0 e5 ?_
        refine jr_getr (pc := 30) hX fX13_149 rfl dX13_knownOne_30 (p7.at h5 :) ?_
        refine jr_ck0 (fun a14 e14 h14 => ?_)
        refine jr_getrN (pc := 33) hX fX13_173 rfl dX13_knownOne_33 h14 ?_
        refine jr_ild2 (pc := 36) hX dX13_knownOne_36 ?_
        refine jr_iaC (pc := 37) hX dX13_knownOne_37 (fun a15 n15 e15 h15 => ?_)
        refine jr_ild1 (pc := 38) hX dX13_knownOne_38 ?_
        refine jr_iceq (pc := 39) hX 47 dX13_knownOne_39 (by decide) ?_ ?_
        · refine jr_wk [true, false, true] ?_
          exact jj12 () _
        · refine jr_ald0 (pc := 42) hX dX13_knownOne_42 ?_
          refine jr_iconst (pc := 43) hX 2 rfl dX13_knownOne_43 ?_
          refine jr_ek1 e5 ?_
          refine jr_cV1v (pc := 44) hX lX13_123 (c_X13_flaw hX.F σ7 a5 (p7.at h5 :) _) (jd_dd hD rfl) (Nat.le_of_ble_eq_true rfl) dX13_knownOne_44 (p7.at h5 :) (fun r16 σ16 p16 => ?_)
          refine jr_wk [true, false, true] ?_
          exact jj12 () _
  · refine jr_ifne (pc := 4) hX 12 dX13_knownOne_4 (by decide) ?_ ?_
    · exact jj3 () _
    · refine jr_ald0 (pc := 7) hX dX13_knownOne_7 ?_
      refine jr_iconst (pc := 8) hX 1 rfl dX13_knownOne_8 ?_
      refine jr_cV1v (pc := 9) hX lX13_123 (c_X13_flaw hX.F σ1 t (p1.at ht :) _) (jd_dd hD rfl) (Nat.le_of_ble_eq_true rfl) dX13_knownOne_9 (p1.at ht :) (fun r4 σ4 p4 => ?_)
      exact jj3 () _
def m_X13_readBeach (t : Nat) (σ : jd_Hp) : Option (Unit × jd_Hp) :=
jd_o σ (12, 20) (σ.2.2.2 t 4) fun a1 =>
jd_b (α := Unit) (
jd_if ((σ.2.1 a1 0) ≤ 0) (
some ((), σ)) (
jd_b (m_X13_flaw t 3 σ) fun r4 σ4 =>
some ((), σ4))) fun t3 σ3 =>
jd_o σ3 (13, 29) (some t) fun a5 =>
jd_b (m_X13_goesOn a5 σ3) fun r6 σ6 =>
jd_b (m_X13_readPart a5 (some 7) 1 60 σ6) fun r7 σ7 =>
jd_b (m_X13_readPart a5 (some 8) 0 9 σ7) fun r8 σ8 =>
jd_b (m_X13_readPart a5 (some 9) 0 100 σ8) fun r9 σ9 =>
jd_if (¬ (σ9.2.1 a5 9) = 5) (
jd_o σ9 (12, 20) (σ9.2.2.2 a5 4) fun a10 =>
jd_li (jd_pi σ9 a10 0 r7) fun τ11 =>
jd_o τ11 (12, 20) (τ11.2.2.2 a5 4) fun a12 =>
jd_li (jd_pi τ11 a12 1 r8) fun τ13 =>
jd_o τ13 (12, 20) (τ13.2.2.2 a5 4) fun a14 =>
jd_li (jd_pi τ13 a14 2 r9) fun τ15 =>
some ((), τ15)) (
some ((), σ9))
set_option maxHeartbeats 4000000 in
set_option maxRecDepth 20000 in
theorem c_X13_readBeach {l : Launch} {s0 : State} {G : jd_G} (hF : jd_F s0 G) (σ : jd_Hp) (t : Nat) (ht : σ.1[t]? = some (13, 29)) : jd_M l s0 G yX13_readBeach cX13_readBeach 4 none 11 je_v [jd_v G (some t)] σ (m_X13_readBeach t σ) := by
  refine jd_enter hF (by decide) (fun G => [some (jd_v G (some t)), none, none, none]) rfl (by simp [lv_args, jd_al, jd_v_cat, jd_cti, jd_ctl]) (by simp [lg_sl, jd_v_cat, jd_cti, jd_ctl]) (fun X hD hX => ?_)
  have hX : jd_C X RX13 "readBeach" cX13_readBeach 4 none := hX
  unfold m_X13_readBeach
  refine jr_ald0 (pc := 0) hX dX13_readBeach_0 ?_
  refine jr_getr (pc := 1) hX fX13_149 rfl dX13_readBeach_1 ht ?_
  refine jr_ck0 (fun a1 e1 h1 => ?_)
  refine jr_getiN (pc := 4) hX fX13_153 rfl dX13_readBeach_4 h1 ?_
  refine jr_join (pc := 7) 15 (fun (t3 : Unit) => [some (jd_v (jd_gG X) (some t)), none, none, none]) (fun (t3 : Unit) => []) (fun t3 σ3 => ?_) (fun K3 jj3 => ?_)
  · refine jr_ald0 (pc := 15) hX dX13_readBeach_15 ?_
    refine jr_ck0 (fun a5 e5 h5 => ?_)
    refine jr_cV0v (pc := 16) hX lX13_116 (c_X13_goesOn hX.F σ3 a5 h5) (jd_dd hD rfl) (Nat.le_of_ble_eq_true rfl) dX13_readBeach_16 h5 (fun r6 σ6 p6 => ?_)
    refine jr_ald0 (pc := 19) hX dX13_readBeach_19 ?_
    refine jr_ldcS (pc := 20) hX sX13_206 dX13_readBeach_20 ?_
    refine jr_iconst (pc := 22) hX 1 rfl dX13_readBeach_22 ?_
    refine jr_bipush (pc := 23) hX 60 rfl dX13_readBeach_23 ?_
    refine jr_ek3 e5 ?_
    refine jr_cV3i (pc := 25) hX lX13_207 (c_X13_readPart hX.F σ6 a5 (p6.at h5 :) _ _ _) (jd_dd hD rfl) (Nat.le_of_ble_eq_true rfl) dX13_readBeach_25 (p6.at h5 :) (fun r7 σ7 p7 => ?_)
    refine jr_ist1 (pc := 28) hX (jn_r _ _) dX13_readBeach_28 ?_
    refine jr_ald0 (pc := 29) hX dX13_readBeach_29 ?_
    refine jr_ldcS (pc := 30) hX sX13_211 dX13_readBeach_30 ?_
    refine jr_iconst (pc := 32) hX 0 rfl dX13_readBeach_32 ?_
    refine jr_bipush (pc := 33) hX 9 rfl dX13_readBeach_33 ?_
    refine jr_ek3 e5 ?_
    refine jr_cV3i (pc := 35) hX lX13_207 (c_X13_readPart hX.F σ7 a5 (p7.at (p6.at h5 :) :) _ _ _) (jd_dd hD rfl) (Nat.le_of_ble_eq_true rfl) dX13_readBeach_35 (p7.at (p6.at h5 :) :) (fun r8 σ8 p8 => ?_)
    refine jr_ist2 (pc := 38) hX (jn_i _) dX13_readBeach_38 ?_
    refine jr_ald0 (pc := 39) hX dX13_readBeach_39 ?_
    refine jr_ldcS (pc := 40) hX sX13_213 dX13_readBeach_40 ?_
    refine jr_iconst (pc := 42) hX 0 rfl dX13_readBeach_42 ?_
    refine jr_bipush (pc := 43) hX 100 rfl dX13_readBeach_43 ?_
    refine jr_ek3 e5 ?_
    refine jr_cV3i (pc := 45) hX lX13_207 (c_X13_readPart hX.F σ8 a5 (p8.at (p7.at (p6.at h5 :) :) :) _ _ _) (jd_dd hD rfl) (Nat.le_of_ble_eq_true rfl) dX13_readBeach_45 (p8.at (p7.at (p6.at h5 :) :) :) (fun r9 σ9 p9 => ?_)
    refine jr_ist3 (pc := 48) hX (jn_i _) dX13_readBeach_48 ?_
    refine jr_ald0 (pc := 49) hX dX13_readBeach_49 ?_
    refine jr_ek0 e5 ?_
    refine jr_geti (pc := 50) hX fX13_80 rfl dX13_readBeach_50 (p9.at (p8.at (p7.at (p6.at h5 :) :) :) :) ?_
    refine jr_iconst (pc := 53) hX 5 rfl dX13_readBeach_53 ?_
    refine jr_icne (pc := 54) hX 58 dX13_readBeach_54 (by decide) ?_ ?_
    · refine jr_ald0 (pc := 58) hX dX13_readBeach_58 ?_
      refine jr_ek0 e5 ?_
      refine jr_getr (pc := 59) hX fX13_149 rfl dX13_readBeach_59 (p9.at (p8.at (p7.at (p6.at h5 :) :) :) :) ?_
      refine jr_ild1 (pc := 62) hX dX13_readBeach_62 ?_
      refine jr_ck1 (fun a10 e10 h10 => ?_)
      refine jr_putiN (pc := 63) hX fX13_153 rfl dX13_readBeach_63 h10 ?_
      refine jr_li ?_
      refine jr_ald0 (pc := 66) hX dX13_readBeach_66 ?_
      refine jr_ek0 e5 ?_
      refine jr_getr (pc := 67) hX fX13_149 rfl dX13_readBeach_67 (p9.at (p8.at (p7.at (p6.at h5 :) :) :) :) ?_
      refine jr_ild2 (pc := 70) hX dX13_readBeach_70 ?_
      refine jr_ck1 (fun a12 e12 h12 => ?_)
      refine jr_putiN (pc := 71) hX fX13_215 rfl dX13_readBeach_71 h12 ?_
      refine jr_li ?_
      refine jr_ald0 (pc := 74) hX dX13_readBeach_74 ?_
      refine jr_ek0 e5 ?_
      refine jr_getr (pc := 75) hX fX13_149 rfl dX13_readBeach_75 (p9.at (p8.at (p7.at (p6.at h5 :) :) :) :) ?_
      refine jr_ild3 (pc := 78) hX dX13_readBeach_78 ?_
      refine jr_ck1 (fun a14 e14 h14 => ?_)
      refine jr_putiN (pc := 79) hX fX13_217 rfl dX13_readBeach_79 h14 ?_
      refine jr_li ?_
      exact jr_vret (pc := 82) hX dX13_readBeach_82 rfl
    · exact jr_vret (pc := 57) hX dX13_readBeach_57 rfl
  · refine jr_ifle (pc := 7) hX 15 dX13_readBeach_7 (by decide) ?_ ?_
    · exact jj3 () _
    · refine jr_ald0 (pc := 10) hX dX13_readBeach_10 ?_
      refine jr_iconst (pc := 11) hX 3 rfl dX13_readBeach_11 ?_
      refine jr_cV1v (pc := 12) hX lX13_123 (c_X13_flaw hX.F σ t ht _) (jd_dd hD rfl) (Nat.le_of_ble_eq_true rfl) dX13_readBeach_12 ht (fun r4 σ4 p4 => ?_)
      exact jj3 () _
def m_X13_readPerson (t : Nat) (σ : jd_Hp) : Option (Unit × jd_Hp) :=
jd_o σ (12, 20) (σ.2.2.2 t 4) fun a1 =>
jd_b (m_X13_lineBegins t (σ.2.1 a1 3) 6 σ) fun r2 σ2 =>
jd_b (m_X13_readFresh t σ2) fun r3 σ3 =>
jd_b (m_X13_isWord t (some 10) σ3) fun r4 σ4 =>
jd_b (α := Int32) (
jd_if (r4 = 0) (
jd_b (m_X13_isWord t (some 11) σ4) fun r9 σ9 =>
jd_if (r9 = 0) (
jd_b (m_X13_isWord t (some 12) σ9) fun r10 σ10 =>
jd_if (r10 = 0) (
jd_b (m_X13_isWord t (some 13) σ10) fun r11 σ11 =>
jd_if (r11 = 0) (
some ((-1), σ11)) (
some (3, σ11))) (
some (2, σ10))) (
some (1, σ9))) (
some (0, σ4))) fun t8 σ8 =>
jd_b (α := Unit) (
jd_if (¬ t8 = (-1)) (
some ((), σ8)) (
jd_o σ8 (13, 29) (some t) fun a15 =>
jd_b (m_X13_flaw a15 1 σ8) fun r16 σ16 =>
some ((), σ16))) fun t14 σ14 =>
jd_o σ14 (13, 29) (some t) fun a17 =>
jd_b (m_X13_goesOn a17 σ14) fun r18 σ18 =>
jd_b (m_X13_readPart a17 (some 14) 0 99 σ18) fun r19 σ19 =>
jd_b (m_X13_readPart a17 (some 15) 0 99 σ19) fun r20 σ20 =>
jd_b (m_X13_readPart a17 (some 16) 0 100 σ20) fun r21 σ21 =>
jd_if (¬ (σ21.2.1 a17 9) = 5) (
jd_o σ21 (12, 20) (σ21.2.2.2 a17 4) fun a22 =>
jd_li (σ21.2.1 a22 3) fun x23 =>
jd_b (m_X13_names a17 r3 0 x23 σ21) fun r24 σ24 =>
jd_o σ24 (12, 20) (σ24.2.2.2 a17 4) fun a25 =>
jd_ia σ24 20 (σ24.2.2.2 a25 9) x23 fun a26 j26 =>
jd_li (jd_pi σ24 a26 j26 t8) fun τ27 =>
jd_o τ27 (12, 20) (τ27.2.2.2 a17 4) fun a28 =>
jd_ia τ27 20 (τ27.2.2.2 a28 10) x23 fun a29 j29 =>
jd_li (jd_pi τ27 a29 j29 r19) fun τ30 =>
jd_o τ30 (12, 20) (τ30.2.2.2 a17 4) fun a31 =>
jd_ia τ30 20 (τ30.2.2.2 a31 11) x23 fun a32 j32 =>
jd_li (jd_pi τ30 a32 j32 r20) fun τ33 =>
jd_o τ33 (12, 20) (τ33.2.2.2 a17 4) fun a34 =>
jd_ia τ33 20 (τ33.2.2.2 a34 12) x23 fun a35 j35 =>
jd_li (jd_pi τ33 a35 j35 r21) fun τ36 =>
jd_o τ36 (12, 20) (τ36.2.2.2 a17 4) fun a37 =>
jd_li (jd_pi τ36 a37 3 ((τ36.2.1 a37 3) + 1)) fun τ38 =>
some ((), τ38)) (
some ((), σ21))
set_option maxHeartbeats 4000000 in
set_option maxRecDepth 20000 in
theorem c_X13_readPerson {l : Launch} {s0 : State} {G : jd_G} (hF : jd_F s0 G) (σ : jd_Hp) (t : Nat) (ht : σ.1[t]? = some (13, 29)) : jd_M l s0 G yX13_readPerson cX13_readPerson 8 none 11 je_v [jd_v G (some t)] σ (m_X13_readPerson t σ) := by
  refine jd_enter hF (by decide) (fun G => [some (jd_v G (some t)), none, none, none, none, none, none, none]) rfl (by simp [lv_args, jd_al, jd_v_cat, jd_cti, jd_ctl]) (by simp [lg_sl, jd_v_cat, jd_cti, jd_ctl]) (fun X hD hX => ?_)
  have hX : jd_C X RX13 "readPerson" cX13_readPerson 8 none := hX
  unfold m_X13_readPerson
  refine jr_ald0 (pc := 0) hX dX13_readPerson_0 ?_
  refine jr_ald0 (pc := 1) hX dX13_readPerson_1 ?_
  refine jr_getr (pc := 2) hX fX13_149 rfl dX13_readPerson_2 ht ?_
  refine jr_ck0 (fun a1 e1 h1 => ?_)
  refine jr_getiN (pc := 5) hX fX13_185 rfl dX13_readPerson_5 h1 ?_
  refine jr_bipush (pc := 8) hX 6 rfl dX13_readPerson_8 ?_
  refine jr_cV2v (pc := 10) hX lX13_219 (c_X13_lineBegins hX.F σ t ht _ _) (jd_dd hD rfl) (Nat.le_of_ble_eq_true rfl) dX13_readPerson_10 ht (fun r2 σ2 p2 => ?_)
  refine jr_ald0 (pc := 13) hX dX13_readPerson_13 ?_
  refine jr_cV0l (pc := 14) hX lX13_223 (c_X13_readFresh hX.F σ2 t (p2.at ht :)) (jd_dd hD rfl) (Nat.le_of_ble_eq_true rfl) dX13_readPerson_14 (p2.at ht :) (fun r3 σ3 p3 => ?_)
  refine jr_lst1 (pc := 17) hX (jn_r _ _) dX13_readPerson_17 ?_
  refine jr_ald0 (pc := 18) hX dX13_readPerson_18 ?_
  refine jr_ldcS (pc := 19) hX sX13_227 dX13_readPerson_19 ?_
  refine jr_cV1i (pc := 21) hX lX13_119 (c_X13_isWord hX.F σ3 t (p3.at (p2.at ht :) :) _) (jd_dd hD rfl) (Nat.le_of_ble_eq_true rfl) dX13_readPerson_21 (p3.at (p2.at ht :) :) (fun r4 σ4 p4 => ?_)
  refine jr_join (pc := 24) 71 (fun (t8 : Int32) => [some (jd_v (jd_gG X) (some t)), some (.long r3), none, none, none, none, none, none]) (fun (t8 : Int32) => [.int t8]) (fun t8 σ8 => ?_) (fun K8 jj8 => ?_)
  · refine jr_ist3 (pc := 71) hX jn_n dX13_readPerson_71 ?_
    refine jr_ild3 (pc := 72) hX dX13_readPerson_72 ?_
    refine jr_iconst (pc := 73) hX (-1) rfl dX13_readPerson_73 ?_
    refine jr_join (pc := 74) 82 (fun (t14 : Unit) => [some (jd_v (jd_gG X) (some t)), some (.long r3), none, some (.int t8), none, none, none, none]) (fun (t14 : Unit) => []) (fun t14 σ14 => ?_) (fun K14 jj14 => ?_)
    · refine jr_ald0 (pc := 82) hX dX13_readPerson_82 ?_
      refine jr_ck0 (fun a17 e17 h17 => ?_)
      refine jr_cV0v (pc := 83) hX lX13_116 (c_X13_goesOn hX.F σ14 a17 h17) (jd_dd hD rfl) (Nat.le_of_ble_eq_true rfl) dX13_readPerson_83 h17 (fun r18 σ18 p18 => ?_)
      refine jr_ald0 (pc := 86) hX dX13_readPerson_86 ?_
      refine jr_ldcS (pc := 87) hX sX13_235 dX13_readPerson_87 ?_
      refine jr_iconst (pc := 89) hX 0 rfl dX13_readPerson_89 ?_
      refine jr_bipush (pc := 90) hX 99 rfl dX13_readPerson_90 ?_
      refine jr_ek3 e17 ?_
      refine jr_cV3i (pc := 92) hX lX13_207 (c_X13_readPart hX.F σ18 a17 (p18.at h17 :) _ _ _) (jd_dd hD rfl) (Nat.le_of_ble_eq_true rfl) dX13_readPerson_92 (p18.at h17 :) (fun r19 σ19 p19 => ?_)
      refine jr_ist4 (pc := 95) hX (jn_i _) dX13_readPerson_95 ?_
      refine jr_ald0 (pc := 97) hX dX13_readPerson_97 ?_
      refine jr_ldcS (pc := 98) hX sX13_237 dX13_readPerson_98 ?_
      refine jr_iconst (pc := 100) hX 0 rfl dX13_readPerson_100 ?_
      refine jr_bipush (pc := 101) hX 99 rfl dX13_readPerson_101 ?_
      refine jr_ek3 e17 ?_
      refine jr_cV3i (pc := 103) hX lX13_207 (c_X13_readPart hX.F σ19 a17 (p19.at (p18.at h17 :) :) _ _ _) (jd_dd hD rfl) (Nat.le_of_ble_eq_true rfl) dX13_readPerson_103 (p19.at (p18.at h17 :) :) (fun r20 σ20 p20 => ?_)
      refine jr_ist5 (pc := 106) hX (jn_i _) dX13_readPerson_106 ?_
      refine jr_ald0 (pc := 108) hX dX13_readPerson_108 ?_
      refine jr_ldcS (pc := 109) hX sX13_239 dX13_readPerson_109 ?_
      refine jr_iconst (pc := 111) hX 0 rfl dX13_readPerson_111 ?_
      refine jr_bipush (pc := 112) hX 100 rfl dX13_readPerson_112 ?_
      refine jr_ek3 e17 ?_
      refine jr_cV3i (pc := 114) hX lX13_207 (c_X13_readPart hX.F σ20 a17 (p20.at (p19.at (p18.at h17 :) :) :) _ _ _) (jd_dd hD rfl) (Nat.le_of_ble_eq_true rfl) dX13_readPerson_114 (p20.at (p19.at (p18.at h17 :) :) :) (fun r21 σ21 p21 => ?_)
      refine jr_ist6 (pc := 117) hX (jn_i _) dX13_readPerson_117 ?_
      refine jr_ald0 (pc := 119) hX dX13_readPerson_119 ?_
      refine jr_ek0 e17 ?_
      refine jr_geti (pc := 120) hX fX13_80 rfl dX13_readPerson_120 (p21.at (p20.at (p19.at (p18.at h17 :) :) :) :) ?_
      refine jr_iconst (pc := 123) hX 5 rfl dX13_readPerson_123 ?_
      refine jr_icne (pc := 124) hX 128 dX13_readPerson_124 (by decide) ?_ ?_
      · refine jr_ald0 (pc := 128) hX dX13_readPerson_128 ?_
        refine jr_ek0 e17 ?_
        refine jr_getr (pc := 129) hX fX13_149 rfl dX13_readPerson_129 (p21.at (p20.at (p19.at (p18.at h17 :) :) :) :) ?_
        refine jr_ck0 (fun a22 e22 h22 => ?_)
        refine jr_getiN (pc := 132) hX fX13_185 rfl dX13_readPerson_132 h22 ?_
        refine jr_ist7 (pc := 135) hX (jn_i _) dX13_readPerson_135 ?_
        refine jr_li ?_
        refine jr_ald0 (pc := 137) hX dX13_readPerson_137 ?_
        refine jr_lld1 (pc := 138) hX dX13_readPerson_138 ?_
        refine jr_iconst (pc := 139) hX 0 rfl dX13_readPerson_139 ?_
        refine jr_ild7 (pc := 140) hX dX13_readPerson_140 ?_
        refine jr_ek3 e17 ?_
        refine jr_cV3v (pc := 142) hX lX13_241 (c_X13_names hX.F σ21 a17 (p21.at (p20.at (p19.at (p18.at h17 :) :) :) :) _ _ _) (jd_dd hD rfl) (Nat.le_of_ble_eq_true rfl) dX13_readPerson_142 (p21.at (p20.at (p19.at (p18.at h17 :) :) :) :) (fun r24 σ24 p24 => ?_)
        refine jr_ald0 (pc := 145) hX dX13_readPerson_145 ?_
        refine jr_ek0 e17 ?_
        refine jr_getr (pc := 146) hX fX13_149 rfl dX13_readPerson_146 (p24.at (p21.at (p20.at (p19.at (p18.at h17 :) :) :) :) :) ?_
        refine jr_ck0 (fun a25 e25 h25 => ?_)
        refine jr_getrN (pc := 149) hX fX13_244 rfl dX13_readPerson_149 h25 ?_
        refine jr_ild7 (pc := 152) hX dX13_readPerson_152 ?_
        refine jr_ild3 (pc := 154) hX dX13_readPerson_154 ?_
        refine jr_iaS (pc := 155) hX dX13_readPerson_155 (fun a26 n26 e26 h26 => ?_)
        refine jr_li ?_
        refine jr_ald0 (pc := 156) hX dX13_readPerson_156 ?_
        refine jr_ek0 e17 ?_
        refine jr_getr (pc := 157) hX fX13_149 rfl dX13_readPerson_157 (p24.at (p21.at (p20.at (p19.at (p18.at h17 :) :) :) :) :) ?_
        refine jr_ck0 (fun a28 e28 h28 => ?_)
        refine jr_getrN (pc := 160) hX fX13_247 rfl dX13_readPerson_160 h28 ?_
        refine jr_ild7 (pc := 163) hX dX13_readPerson_163 ?_
        refine jr_ild4 (pc := 165) hX dX13_readPerson_165 ?_
        refine jr_iaS (pc := 167) hX dX13_readPerson_167 (fun a29 n29 e29 h29 => ?_)
        refine jr_li ?_
        refine jr_ald0 (pc := 168) hX dX13_readPerson_168 ?_
        refine jr_ek0 e17 ?_
        refine jr_getr (pc := 169) hX fX13_149 rfl dX13_readPerson_169 (p24.at (p21.at (p20.at (p19.at (p18.at h17 :) :) :) :) :) ?_
        refine jr_ck0 (fun a31 e31 h31 => ?_)
        refine jr_getrN (pc := 172) hX fX13_249 rfl dX13_readPerson_172 h31 ?_
        refine jr_ild7 (pc := 175) hX dX13_readPerson_175 ?_
        refine jr_ild5 (pc := 177) hX dX13_readPerson_177 ?_
        refine jr_iaS (pc := 179) hX dX13_readPerson_179 (fun a32 n32 e32 h32 => ?_)
        refine jr_li ?_
        refine jr_ald0 (pc := 180) hX dX13_readPerson_180 ?_
        refine jr_ek0 e17 ?_
        refine jr_getr (pc := 181) hX fX13_149 rfl dX13_readPerson_181 (p24.at (p21.at (p20.at (p19.at (p18.at h17 :) :) :) :) :) ?_
        refine jr_ck0 (fun a34 e34 h34 => ?_)
        refine jr_getrN (pc := 184) hX fX13_251 rfl dX13_readPerson_184 h34 ?_
        refine jr_ild7 (pc := 187) hX dX13_readPerson_187 ?_
        refine jr_ild6 (pc := 189) hX dX13_readPerson_189 ?_
        refine jr_iaS (pc := 191) hX dX13_readPerson_191 (fun a35 n35 e35 h35 => ?_)
        refine jr_li ?_
        refine jr_ald0 (pc := 192) hX dX13_readPerson_192 ?_
        refine jr_ek0 e17 ?_
        refine jr_getr (pc := 193) hX fX13_149 rfl dX13_readPerson_193 (p24.at (p21.at (p20.at (p19.at (p18.at h17 :) :) :) :) :) ?_
        refine jr_dup (pc := 196) hX (jd_v_cat _ _) dX13_readPerson_196 ?_
        refine jr_ck0 (fun a37 e37 h37 => ?_)
        refine jr_getiN (pc := 197) hX fX13_185 rfl dX13_readPerson_197 h37 ?_
        refine jr_iconst (pc := 200) hX 1 rfl dX13_readPerson_200 ?_
        refine jr_iadd (pc := 201) hX dX13_readPerson_201 ?_
        refine jr_ek1 e37 ?_
        refine jr_putiN (pc := 202) hX fX13_185 rfl dX13_readPerson_202 h37 ?_
        refine jr_li ?_
        exact jr_vret (pc := 205) hX dX13_readPerson_205 rfl
      · exact jr_vret (pc := 127) hX dX13_readPerson_127 rfl
    · refine jr_icne (pc := 74) hX 82 dX13_readPerson_74 (by decide) ?_ ?_
      · exact jj14 () _
      · refine jr_ald0 (pc := 77) hX dX13_readPerson_77 ?_
        refine jr_iconst (pc := 78) hX 1 rfl dX13_readPerson_78 ?_
        refine jr_ck1 (fun a15 e15 h15 => ?_)
        refine jr_cV1v (pc := 79) hX lX13_123 (c_X13_flaw hX.F σ8 a15 h15 _) (jd_dd hD rfl) (Nat.le_of_ble_eq_true rfl) dX13_readPerson_79 h15 (fun r16 σ16 p16 => ?_)
        exact jj14 () _
  · refine jr_ifeq (pc := 24) hX 31 dX13_readPerson_24 (by decide) ?_ ?_
    · refine jr_ald0 (pc := 31) hX dX13_readPerson_31 ?_
      refine jr_ldcS (pc := 32) hX sX13_229 dX13_readPerson_32 ?_
      refine jr_cV1i (pc := 34) hX lX13_119 (c_X13_isWord hX.F σ4 t (p4.at (p3.at (p2.at ht :) :) :) _) (jd_dd hD rfl) (Nat.le_of_ble_eq_true rfl) dX13_readPerson_34 (p4.at (p3.at (p2.at ht :) :) :) (fun r9 σ9 p9 => ?_)
      refine jr_ifeq (pc := 37) hX 44 dX13_readPerson_37 (by decide) ?_ ?_
      · refine jr_ald0 (pc := 44) hX dX13_readPerson_44 ?_
        refine jr_ldcS (pc := 45) hX sX13_231 dX13_readPerson_45 ?_
        refine jr_cV1i (pc := 47) hX lX13_119 (c_X13_isWord hX.F σ9 t (p9.at (p4.at (p3.at (p2.at ht :) :) :) :) _) (jd_dd hD rfl) (Nat.le_of_ble_eq_true rfl) dX13_readPerson_47 (p9.at (p4.at (p3.at (p2.at ht :) :) :) :) (fun r10 σ10 p10 => ?_)
        refine jr_ifeq (pc := 50) hX 57 dX13_readPerson_50 (by decide) ?_ ?_
        · refine jr_ald0 (pc := 57) hX dX13_readPerson_57 ?_
          refine jr_ldcS (pc := 58) hX sX13_233 dX13_readPerson_58 ?_
          refine jr_cV1i (pc := 60) hX lX13_119 (c_X13_isWord hX.F σ10 t (p10.at (p9.at (p4.at (p3.at (p2.at ht :) :) :) :) :) _) (jd_dd hD rfl) (Nat.le_of_ble_eq_true rfl) dX13_readPerson_60 (p10.at (p9.at (p4.at (p3.at (p2.at ht :) :) :) :) :) (fun r11 σ11 p11 => ?_)
          refine jr_ifeq (pc := 63) hX 70 dX13_readPerson_63 (by decide) ?_ ?_
          · refine jr_iconst (pc := 70) hX (-1) rfl dX13_readPerson_70 ?_
            exact jj8 (-1) _
          · refine jr_iconst (pc := 66) hX 3 rfl dX13_readPerson_66 ?_
            refine jr_goto (pc := 67) hX 71 dX13_readPerson_67 (by decide) ?_
            exact jj8 3 _
        · refine jr_iconst (pc := 53) hX 2 rfl dX13_readPerson_53 ?_
          refine jr_goto (pc := 54) hX 71 dX13_readPerson_54 (by decide) ?_
          exact jj8 2 _
      · refine jr_iconst (pc := 40) hX 1 rfl dX13_readPerson_40 ?_
        refine jr_goto (pc := 41) hX 71 dX13_readPerson_41 (by decide) ?_
        exact jj8 1 _
    · refine jr_iconst (pc := 27) hX 0 rfl dX13_readPerson_27 ?_
      refine jr_goto (pc := 28) hX 71 dX13_readPerson_28 (by decide) ?_
      exact jj8 0 _
