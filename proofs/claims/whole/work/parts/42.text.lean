theorem sX13_256 : jd_sr RX13 256 17 := jd_sr_of RX13 256 17 "off" 1567 (by decide +kernel) (by decide +kernel)
theorem qX13_knownOne : Cond.instanceMethod yX13_knownOne ∈ jd_TB ∧ Cond.selects RX13 yX13_knownOne yX13_knownOne ∈ jd_TB ∧ Cond.initialized RX13 ∈ jd_TB ∧ Cond.code yX13_knownOne cX13_knownOne 3 (some .int) ∈ jd_TB ∧ jd_ds yX13_knownOne 1 := ⟨jd_mem 1574 (by decide +kernel) (by decide +kernel), jd_mem 51 (by decide +kernel) (by decide +kernel), jd_mem 104 (by decide +kernel) (by decide +kernel), jd_mem 1575 (by decide +kernel) (by decide +kernel), ⟨by decide, by decide, by decide +kernel⟩⟩
theorem lX13_262 : jd_mv RX13 262 13 29 yX13_knownOne cX13_knownOne 3 (some .int) 1 := ⟨_, _, rfl, by decide, rfl, Or.inl (jd_mem 1572 (by decide +kernel) (by decide +kernel)), qX13_knownOne.1, qX13_knownOne.2.1, qX13_knownOne.2.2.1, qX13_knownOne.2.2.2.1, qX13_knownOne.2.2.2.2, by decide⟩
theorem qX13_readSign : Cond.instanceMethod yX13_readSign ∈ jd_TB ∧ Cond.selects RX13 yX13_readSign yX13_readSign ∈ jd_TB ∧ Cond.initialized RX13 ∈ jd_TB ∧ Cond.code yX13_readSign cX13_readSign 3 none ∈ jd_TB ∧ jd_ds yX13_readSign 1 := ⟨jd_mem 1585 (by decide +kernel) (by decide +kernel), jd_mem 53 (by decide +kernel) (by decide +kernel), jd_mem 104 (by decide +kernel) (by decide +kernel), jd_mem 1586 (by decide +kernel) (by decide +kernel), ⟨by decide, by decide, by decide +kernel⟩⟩
theorem lX13_203 : jd_mv RX13 203 13 29 yX13_readSign cX13_readSign 3 none 1 := ⟨_, _, rfl, by decide, rfl, Or.inl (jd_mem 1583 (by decide +kernel) (by decide +kernel)), qX13_readSign.1, qX13_readSign.2.1, qX13_readSign.2.2.1, qX13_readSign.2.2.2.1, qX13_readSign.2.2.2.2, by decide⟩
theorem qX13_readKnows : Cond.instanceMethod yX13_readKnows ∈ jd_TB ∧ Cond.selects RX13 yX13_readKnows yX13_readKnows ∈ jd_TB ∧ Cond.initialized RX13 ∈ jd_TB ∧ Cond.code yX13_readKnows cX13_readKnows 3 none ∈ jd_TB ∧ jd_ds yX13_readKnows 0 := ⟨jd_mem 1581 (by decide +kernel) (by decide +kernel), jd_mem 52 (by decide +kernel) (by decide +kernel), jd_mem 104 (by decide +kernel) (by decide +kernel), jd_mem 1582 (by decide +kernel) (by decide +kernel), ⟨by decide, by decide, by decide +kernel⟩⟩
theorem lX13_200 : jd_mv RX13 200 13 29 yX13_readKnows cX13_readKnows 3 none 0 := ⟨_, _, rfl, by decide, rfl, Or.inl (jd_mem 1579 (by decide +kernel) (by decide +kernel)), qX13_readKnows.1, qX13_readKnows.2.1, qX13_readKnows.2.2.1, qX13_readKnows.2.2.2.1, qX13_readKnows.2.2.2.2, by decide⟩
theorem qX13_readManned : Cond.instanceMethod yX13_readManned ∈ jd_TB ∧ Cond.selects RX13 yX13_readManned yX13_readManned ∈ jd_TB ∧ Cond.initialized RX13 ∈ jd_TB ∧ Cond.code yX13_readManned cX13_readManned 2 none ∈ jd_TB ∧ jd_ds yX13_readManned 0 := ⟨jd_mem 1570 (by decide +kernel) (by decide +kernel), jd_mem 50 (by decide +kernel) (by decide +kernel), jd_mem 104 (by decide +kernel) (by decide +kernel), jd_mem 1571 (by decide +kernel) (by decide +kernel), ⟨by decide, by decide, by decide +kernel⟩⟩
theorem lX13_197 : jd_mv RX13 197 13 29 yX13_readManned cX13_readManned 2 none 0 := ⟨_, _, rfl, by decide, rfl, Or.inl (jd_mem 1568 (by decide +kernel) (by decide +kernel)), qX13_readManned.1, qX13_readManned.2.1, qX13_readManned.2.2.1, qX13_readManned.2.2.2.1, qX13_readManned.2.2.2.2, by decide⟩
theorem qX13_readPost : Cond.instanceMethod yX13_readPost ∈ jd_TB ∧ Cond.selects RX13 yX13_readPost yX13_readPost ∈ jd_TB ∧ Cond.initialized RX13 ∈ jd_TB ∧ Cond.code yX13_readPost cX13_readPost 5 none ∈ jd_TB ∧ jd_ds yX13_readPost 0 := ⟨jd_mem 1565 (by decide +kernel) (by decide +kernel), jd_mem 49 (by decide +kernel) (by decide +kernel), jd_mem 104 (by decide +kernel) (by decide +kernel), jd_mem 1566 (by decide +kernel) (by decide +kernel), ⟨by decide, by decide, by decide +kernel⟩⟩
theorem lX13_194 : jd_mv RX13 194 13 29 yX13_readPost cX13_readPost 5 none 0 := ⟨_, _, rfl, by decide, rfl, Or.inl (jd_mem 1563 (by decide +kernel) (by decide +kernel)), qX13_readPost.1, qX13_readPost.2.1, qX13_readPost.2.2.1, qX13_readPost.2.2.2.1, qX13_readPost.2.2.2.2, by decide⟩
theorem qX13_readPerson : Cond.instanceMethod yX13_readPerson ∈ jd_TB ∧ Cond.selects RX13 yX13_readPerson yX13_readPerson ∈ jd_TB ∧ Cond.initialized RX13 ∈ jd_TB ∧ Cond.code yX13_readPerson cX13_readPerson 8 none ∈ jd_TB ∧ jd_ds yX13_readPerson 0 := ⟨jd_mem 1529 (by decide +kernel) (by decide +kernel), jd_mem 44 (by decide +kernel) (by decide +kernel), jd_mem 104 (by decide +kernel) (by decide +kernel), jd_mem 1530 (by decide +kernel) (by decide +kernel), ⟨by decide, by decide, by decide +kernel⟩⟩
theorem lX13_191 : jd_mv RX13 191 13 29 yX13_readPerson cX13_readPerson 8 none 0 := ⟨_, _, rfl, by decide, rfl, Or.inl (jd_mem 1527 (by decide +kernel) (by decide +kernel)), qX13_readPerson.1, qX13_readPerson.2.1, qX13_readPerson.2.2.1, qX13_readPerson.2.2.2.1, qX13_readPerson.2.2.2.2, by decide⟩
theorem qX13_readBeach : Cond.instanceMethod yX13_readBeach ∈ jd_TB ∧ Cond.selects RX13 yX13_readBeach yX13_readBeach ∈ jd_TB ∧ Cond.initialized RX13 ∈ jd_TB ∧ Cond.code yX13_readBeach cX13_readBeach 4 none ∈ jd_TB ∧ jd_ds yX13_readBeach 0 := ⟨jd_mem 1506 (by decide +kernel) (by decide +kernel), jd_mem 40 (by decide +kernel) (by decide +kernel), jd_mem 104 (by decide +kernel) (by decide +kernel), jd_mem 1507 (by decide +kernel) (by decide +kernel), ⟨by decide, by decide, by decide +kernel⟩⟩
theorem lX13_188 : jd_mv RX13 188 13 29 yX13_readBeach cX13_readBeach 4 none 0 := ⟨_, _, rfl, by decide, rfl, Or.inl (jd_mem 1504 (by decide +kernel) (by decide +kernel)), qX13_readBeach.1, qX13_readBeach.2.1, qX13_readBeach.2.2.1, qX13_readBeach.2.2.2.1, qX13_readBeach.2.2.2.2, by decide⟩
theorem qX13_readLine : Cond.instanceMethod yX13_readLine ∈ jd_TB ∧ Cond.selects RX13 yX13_readLine yX13_readLine ∈ jd_TB ∧ Cond.initialized RX13 ∈ jd_TB ∧ Cond.code yX13_readLine cX13_readLine 1 none ∈ jd_TB ∧ jd_ds yX13_readLine 0 := ⟨jd_mem 1492 (by decide +kernel) (by decide +kernel), jd_mem 38 (by decide +kernel) (by decide +kernel), jd_mem 104 (by decide +kernel) (by decide +kernel), jd_mem 1493 (by decide +kernel) (by decide +kernel), ⟨by decide, by decide, by decide +kernel⟩⟩
theorem lX13_179 : jd_mv RX13 179 13 29 yX13_readLine cX13_readLine 1 none 0 := ⟨_, _, rfl, by decide, rfl, Or.inl (jd_mem 1490 (by decide +kernel) (by decide +kernel)), qX13_readLine.1, qX13_readLine.2.1, qX13_readLine.2.2.1, qX13_readLine.2.2.2.1, qX13_readLine.2.2.2.2, by decide⟩
theorem qX13_eatsSemicolon : Cond.instanceMethod yX13_eatsSemicolon ∈ jd_TB ∧ Cond.selects RX13 yX13_eatsSemicolon yX13_eatsSemicolon ∈ jd_TB ∧ Cond.initialized RX13 ∈ jd_TB ∧ Cond.code yX13_eatsSemicolon cX13_eatsSemicolon 2 (some .boolean) ∈ jd_TB ∧ jd_ds yX13_eatsSemicolon 0 := ⟨jd_mem 1589 (by decide +kernel) (by decide +kernel), jd_mem 54 (by decide +kernel) (by decide +kernel), jd_mem 104 (by decide +kernel) (by decide +kernel), jd_mem 1590 (by decide +kernel) (by decide +kernel), ⟨by decide, by decide, by decide +kernel⟩⟩
theorem lX13_182 : jd_mv RX13 182 13 29 yX13_eatsSemicolon cX13_eatsSemicolon 2 (some .boolean) 0 := ⟨_, _, rfl, by decide, rfl, Or.inl (jd_mem 1587 (by decide +kernel) (by decide +kernel)), qX13_eatsSemicolon.1, qX13_eatsSemicolon.2.1, qX13_eatsSemicolon.2.2.1, qX13_eatsSemicolon.2.2.2.1, qX13_eatsSemicolon.2.2.2.2, by decide⟩
theorem dX13_readPost_0 : decode cX13_readPost 0 = .ok (.aload_n 0, 1) := by decide +kernel
theorem dX13_readPost_1 : decode cX13_readPost 1 = .ok (.aload_n 0, 1) := by decide +kernel
theorem dX13_readPost_2 : decode cX13_readPost 2 = .ok (.getfield 149, 3) := by decide +kernel
theorem dX13_readPost_5 : decode cX13_readPost 5 = .ok (.getfield 253, 3) := by decide +kernel
theorem dX13_readPost_8 : decode cX13_readPost 8 = .ok (.iconst 5, 1) := by decide +kernel
theorem dX13_readPost_9 : decode cX13_readPost 9 = .ok (.invokevirtual 219, 3) := by decide +kernel
theorem dX13_readPost_12 : decode cX13_readPost 12 = .ok (.aload_n 0, 1) := by decide +kernel
theorem dX13_readPost_13 : decode cX13_readPost 13 = .ok (.invokevirtual 223, 3) := by decide +kernel
theorem dX13_readPost_16 : decode cX13_readPost 16 = .ok (.lstore_n 1, 1) := by decide +kernel
theorem dX13_readPost_17 : decode cX13_readPost 17 = .ok (.aload_n 0, 1) := by decide +kernel
theorem dX13_readPost_18 : decode cX13_readPost 18 = .ok (.ldc 235, 2) := by decide +kernel
theorem dX13_readPost_20 : decode cX13_readPost 20 = .ok (.iconst 0, 1) := by decide +kernel
theorem dX13_readPost_21 : decode cX13_readPost 21 = .ok (.bipush 99, 2) := by decide +kernel
theorem dX13_readPost_23 : decode cX13_readPost 23 = .ok (.invokevirtual 207, 3) := by decide +kernel
theorem dX13_readPost_26 : decode cX13_readPost 26 = .ok (.istore_n 3, 1) := by decide +kernel
theorem dX13_readPost_27 : decode cX13_readPost 27 = .ok (.aload_n 0, 1) := by decide +kernel
theorem dX13_readPost_28 : decode cX13_readPost 28 = .ok (.ldc_w 256, 3) := by decide +kernel
theorem dX13_readPost_31 : decode cX13_readPost 31 = .ok (.iconst 1, 1) := by decide +kernel
theorem dX13_readPost_32 : decode cX13_readPost 32 = .ok (.bipush 40, 2) := by decide +kernel
theorem dX13_readPost_34 : decode cX13_readPost 34 = .ok (.invokevirtual 207, 3) := by decide +kernel
theorem dX13_readPost_37 : decode cX13_readPost 37 = .ok (.istore 4, 2) := by decide +kernel
theorem dX13_readPost_39 : decode cX13_readPost 39 = .ok (.aload_n 0, 1) := by decide +kernel
theorem dX13_readPost_40 : decode cX13_readPost 40 = .ok (.getfield 80, 3) := by decide +kernel
theorem dX13_readPost_43 : decode cX13_readPost 43 = .ok (.iconst 5, 1) := by decide +kernel
theorem dX13_readPost_44 : decode cX13_readPost 44 = .ok (.if_icmp .ne 4, 3) := by decide +kernel
theorem dX13_readPost_47 : decode cX13_readPost 47 = .ok (.return_, 1) := by decide +kernel
theorem dX13_readPost_48 : decode cX13_readPost 48 = .ok (.aload_n 0, 1) := by decide +kernel
theorem dX13_readPost_49 : decode cX13_readPost 49 = .ok (.lload_n 1, 1) := by decide +kernel
theorem dX13_readPost_50 : decode cX13_readPost 50 = .ok (.iconst 1, 1) := by decide +kernel
theorem dX13_readPost_51 : decode cX13_readPost 51 = .ok (.aload_n 0, 1) := by decide +kernel
theorem dX13_readPost_52 : decode cX13_readPost 52 = .ok (.getfield 149, 3) := by decide +kernel
theorem dX13_readPost_55 : decode cX13_readPost 55 = .ok (.getfield 253, 3) := by decide +kernel
theorem dX13_readPost_58 : decode cX13_readPost 58 = .ok (.invokevirtual 241, 3) := by decide +kernel
theorem dX13_readPost_61 : decode cX13_readPost 61 = .ok (.aload_n 0, 1) := by decide +kernel
theorem dX13_readPost_62 : decode cX13_readPost 62 = .ok (.getfield 149, 3) := by decide +kernel
theorem dX13_readPost_65 : decode cX13_readPost 65 = .ok (.getfield 258, 3) := by decide +kernel
theorem dX13_readPost_68 : decode cX13_readPost 68 = .ok (.aload_n 0, 1) := by decide +kernel
theorem dX13_readPost_69 : decode cX13_readPost 69 = .ok (.getfield 149, 3) := by decide +kernel
theorem dX13_readPost_72 : decode cX13_readPost 72 = .ok (.getfield 253, 3) := by decide +kernel
theorem dX13_readPost_75 : decode cX13_readPost 75 = .ok (.iload_n 3, 1) := by decide +kernel
theorem dX13_readPost_76 : decode cX13_readPost 76 = .ok (.iastore, 1) := by decide +kernel
theorem dX13_readPost_77 : decode cX13_readPost 77 = .ok (.aload_n 0, 1) := by decide +kernel
theorem dX13_readPost_78 : decode cX13_readPost 78 = .ok (.getfield 149, 3) := by decide +kernel
theorem dX13_readPost_81 : decode cX13_readPost 81 = .ok (.getfield 260, 3) := by decide +kernel
theorem dX13_readPost_84 : decode cX13_readPost 84 = .ok (.aload_n 0, 1) := by decide +kernel
theorem dX13_readPost_85 : decode cX13_readPost 85 = .ok (.getfield 149, 3) := by decide +kernel
theorem dX13_readPost_88 : decode cX13_readPost 88 = .ok (.getfield 253, 3) := by decide +kernel
theorem dX13_readPost_91 : decode cX13_readPost 91 = .ok (.iload 4, 2) := by decide +kernel
theorem dX13_readPost_93 : decode cX13_readPost 93 = .ok (.iastore, 1) := by decide +kernel
theorem dX13_readPost_94 : decode cX13_readPost 94 = .ok (.aload_n 0, 1) := by decide +kernel
theorem dX13_readPost_95 : decode cX13_readPost 95 = .ok (.getfield 149, 3) := by decide +kernel
theorem dX13_readPost_98 : decode cX13_readPost 98 = .ok (.dup, 1) := by decide +kernel
theorem dX13_readPost_99 : decode cX13_readPost 99 = .ok (.getfield 253, 3) := by decide +kernel
theorem dX13_readPost_102 : decode cX13_readPost 102 = .ok (.iconst 1, 1) := by decide +kernel
theorem dX13_readPost_103 : decode cX13_readPost 103 = .ok (.iadd, 1) := by decide +kernel
theorem dX13_readPost_104 : decode cX13_readPost 104 = .ok (.putfield 253, 3) := by decide +kernel
theorem dX13_readPost_107 : decode cX13_readPost 107 = .ok (.return_, 1) := by decide +kernel
theorem dX13_readManned_0 : decode cX13_readManned 0 = .ok (.aload_n 0, 1) := by decide +kernel
theorem dX13_readManned_1 : decode cX13_readManned 1 = .ok (.iconst 0, 1) := by decide +kernel
theorem dX13_readManned_2 : decode cX13_readManned 2 = .ok (.iconst 1, 1) := by decide +kernel
theorem dX13_readManned_3 : decode cX13_readManned 3 = .ok (.invokevirtual 219, 3) := by decide +kernel
theorem dX13_readManned_6 : decode cX13_readManned 6 = .ok (.aload_n 0, 1) := by decide +kernel
theorem dX13_readManned_7 : decode cX13_readManned 7 = .ok (.iconst 1, 1) := by decide +kernel
theorem dX13_readManned_8 : decode cX13_readManned 8 = .ok (.invokevirtual 262, 3) := by decide +kernel
theorem dX13_readManned_11 : decode cX13_readManned 11 = .ok (.istore_n 1, 1) := by decide +kernel
theorem dX13_readManned_12 : decode cX13_readManned 12 = .ok (.aload_n 0, 1) := by decide +kernel
theorem dX13_readManned_13 : decode cX13_readManned 13 = .ok (.getfield 80, 3) := by decide +kernel
theorem dX13_readManned_16 : decode cX13_readManned 16 = .ok (.iconst 5, 1) := by decide +kernel
theorem dX13_readManned_17 : decode cX13_readManned 17 = .ok (.if_icmp .eq 22, 3) := by decide +kernel
theorem dX13_readManned_20 : decode cX13_readManned 20 = .ok (.aload_n 0, 1) := by decide +kernel
theorem dX13_readManned_21 : decode cX13_readManned 21 = .ok (.getfield 149, 3) := by decide +kernel
theorem dX13_readManned_24 : decode cX13_readManned 24 = .ok (.getfield 265, 3) := by decide +kernel
theorem dX13_readManned_27 : decode cX13_readManned 27 = .ok (.iload_n 1, 1) := by decide +kernel
theorem dX13_readManned_28 : decode cX13_readManned 28 = .ok (.invokestatic 267, 3) := by decide +kernel
theorem dX13_readManned_31 : decode cX13_readManned 31 = .ok (.ifCond .eq 8, 3) := by decide +kernel
theorem dX13_readManned_34 : decode cX13_readManned 34 = .ok (.aload_n 0, 1) := by decide +kernel
theorem dX13_readManned_35 : decode cX13_readManned 35 = .ok (.iconst 3, 1) := by decide +kernel
theorem dX13_readManned_36 : decode cX13_readManned 36 = .ok (.invokevirtual 123, 3) := by decide +kernel
theorem dX13_readManned_39 : decode cX13_readManned 39 = .ok (.aload_n 0, 1) := by decide +kernel
theorem dX13_readManned_40 : decode cX13_readManned 40 = .ok (.invokevirtual 116, 3) := by decide +kernel
theorem dX13_readManned_43 : decode cX13_readManned 43 = .ok (.aload_n 0, 1) := by decide +kernel
theorem dX13_readManned_44 : decode cX13_readManned 44 = .ok (.getfield 80, 3) := by decide +kernel
theorem dX13_readManned_47 : decode cX13_readManned 47 = .ok (.iconst 5, 1) := by decide +kernel
theorem dX13_readManned_48 : decode cX13_readManned 48 = .ok (.if_icmp .eq 18, 3) := by decide +kernel
theorem dX13_readManned_51 : decode cX13_readManned 51 = .ok (.aload_n 0, 1) := by decide +kernel
theorem dX13_readManned_52 : decode cX13_readManned 52 = .ok (.getfield 149, 3) := by decide +kernel
theorem dX13_readManned_55 : decode cX13_readManned 55 = .ok (.dup, 1) := by decide +kernel
theorem dX13_readManned_56 : decode cX13_readManned 56 = .ok (.getfield 265, 3) := by decide +kernel
theorem dX13_readManned_59 : decode cX13_readManned 59 = .ok (.iconst 1, 1) := by decide +kernel
theorem dX13_readManned_60 : decode cX13_readManned 60 = .ok (.iload_n 1, 1) := by decide +kernel
theorem dX13_readManned_61 : decode cX13_readManned 61 = .ok (.ishl, 1) := by decide +kernel
theorem dX13_readManned_62 : decode cX13_readManned 62 = .ok (.ior, 1) := by decide +kernel
theorem dX13_readManned_63 : decode cX13_readManned 63 = .ok (.putfield 265, 3) := by decide +kernel
theorem dX13_readManned_66 : decode cX13_readManned 66 = .ok (.return_, 1) := by decide +kernel
theorem dX13_readKnows_0 : decode cX13_readKnows 0 = .ok (.aload_n 0, 1) := by decide +kernel
theorem dX13_readKnows_1 : decode cX13_readKnows 1 = .ok (.aload_n 0, 1) := by decide +kernel
theorem dX13_readKnows_2 : decode cX13_readKnows 2 = .ok (.getfield 149, 3) := by decide +kernel
theorem dX13_readKnows_5 : decode cX13_readKnows 5 = .ok (.getfield 271, 3) := by decide +kernel
theorem dX13_readKnows_8 : decode cX13_readKnows 8 = .ok (.bipush 9, 2) := by decide +kernel
theorem dX13_readKnows_10 : decode cX13_readKnows 10 = .ok (.invokevirtual 219, 3) := by decide +kernel
theorem dX13_readKnows_13 : decode cX13_readKnows 13 = .ok (.aload_n 0, 1) := by decide +kernel
theorem dX13_readKnows_14 : decode cX13_readKnows 14 = .ok (.iconst 0, 1) := by decide +kernel
theorem dX13_readKnows_15 : decode cX13_readKnows 15 = .ok (.invokevirtual 262, 3) := by decide +kernel
theorem dX13_readKnows_18 : decode cX13_readKnows 18 = .ok (.istore_n 1, 1) := by decide +kernel
theorem dX13_readKnows_19 : decode cX13_readKnows 19 = .ok (.aload_n 0, 1) := by decide +kernel
theorem dX13_readKnows_20 : decode cX13_readKnows 20 = .ok (.invokevirtual 116, 3) := by decide +kernel
theorem dX13_readKnows_23 : decode cX13_readKnows 23 = .ok (.aload_n 0, 1) := by decide +kernel
theorem dX13_readKnows_24 : decode cX13_readKnows 24 = .ok (.iconst 0, 1) := by decide +kernel
theorem dX13_readKnows_25 : decode cX13_readKnows 25 = .ok (.invokevirtual 262, 3) := by decide +kernel
theorem dX13_readKnows_28 : decode cX13_readKnows 28 = .ok (.istore_n 2, 1) := by decide +kernel
theorem dX13_readKnows_29 : decode cX13_readKnows 29 = .ok (.aload_n 0, 1) := by decide +kernel
theorem dX13_readKnows_30 : decode cX13_readKnows 30 = .ok (.getfield 80, 3) := by decide +kernel
theorem dX13_readKnows_33 : decode cX13_readKnows 33 = .ok (.iconst 5, 1) := by decide +kernel
theorem dX13_readKnows_34 : decode cX13_readKnows 34 = .ok (.if_icmp .eq 29, 3) := by decide +kernel
theorem dX13_readKnows_37 : decode cX13_readKnows 37 = .ok (.iload_n 1, 1) := by decide +kernel
theorem dX13_readKnows_38 : decode cX13_readKnows 38 = .ok (.iload_n 2, 1) := by decide +kernel
theorem dX13_readKnows_39 : decode cX13_readKnows 39 = .ok (.if_icmp .eq 19, 3) := by decide +kernel
theorem dX13_readKnows_42 : decode cX13_readKnows 42 = .ok (.aload_n 0, 1) := by decide +kernel
theorem dX13_readKnows_43 : decode cX13_readKnows 43 = .ok (.getfield 149, 3) := by decide +kernel
theorem dX13_readKnows_46 : decode cX13_readKnows 46 = .ok (.getfield 274, 3) := by decide +kernel
theorem dX13_readKnows_49 : decode cX13_readKnows 49 = .ok (.iload_n 1, 1) := by decide +kernel
theorem dX13_readKnows_50 : decode cX13_readKnows 50 = .ok (.iaload, 1) := by decide +kernel
theorem dX13_readKnows_51 : decode cX13_readKnows 51 = .ok (.iload_n 2, 1) := by decide +kernel
theorem dX13_readKnows_52 : decode cX13_readKnows 52 = .ok (.invokestatic 267, 3) := by decide +kernel
theorem dX13_readKnows_55 : decode cX13_readKnows 55 = .ok (.ifCond .eq 8, 3) := by decide +kernel
theorem dX13_readKnows_58 : decode cX13_readKnows 58 = .ok (.aload_n 0, 1) := by decide +kernel
theorem dX13_readKnows_59 : decode cX13_readKnows 59 = .ok (.iconst 3, 1) := by decide +kernel
theorem dX13_readKnows_60 : decode cX13_readKnows 60 = .ok (.invokevirtual 123, 3) := by decide +kernel
theorem dX13_readKnows_63 : decode cX13_readKnows 63 = .ok (.aload_n 0, 1) := by decide +kernel
theorem dX13_readKnows_64 : decode cX13_readKnows 64 = .ok (.invokevirtual 116, 3) := by decide +kernel
theorem dX13_readKnows_67 : decode cX13_readKnows 67 = .ok (.aload_n 0, 1) := by decide +kernel
theorem dX13_readKnows_68 : decode cX13_readKnows 68 = .ok (.getfield 80, 3) := by decide +kernel
theorem dX13_readKnows_71 : decode cX13_readKnows 71 = .ok (.iconst 5, 1) := by decide +kernel
theorem dX13_readKnows_72 : decode cX13_readKnows 72 = .ok (.if_icmp .ne 4, 3) := by decide +kernel
theorem dX13_readKnows_75 : decode cX13_readKnows 75 = .ok (.return_, 1) := by decide +kernel
theorem dX13_readKnows_76 : decode cX13_readKnows 76 = .ok (.aload_n 0, 1) := by decide +kernel
theorem dX13_readKnows_77 : decode cX13_readKnows 77 = .ok (.getfield 149, 3) := by decide +kernel
theorem dX13_readKnows_80 : decode cX13_readKnows 80 = .ok (.getfield 274, 3) := by decide +kernel
theorem dX13_readKnows_83 : decode cX13_readKnows 83 = .ok (.iload_n 1, 1) := by decide +kernel
theorem dX13_readKnows_84 : decode cX13_readKnows 84 = .ok (.dup2, 1) := by decide +kernel
theorem dX13_readKnows_85 : decode cX13_readKnows 85 = .ok (.iaload, 1) := by decide +kernel
theorem dX13_readKnows_86 : decode cX13_readKnows 86 = .ok (.iconst 1, 1) := by decide +kernel
theorem dX13_readKnows_87 : decode cX13_readKnows 87 = .ok (.iload_n 2, 1) := by decide +kernel
theorem dX13_readKnows_88 : decode cX13_readKnows 88 = .ok (.ishl, 1) := by decide +kernel
theorem dX13_readKnows_89 : decode cX13_readKnows 89 = .ok (.ior, 1) := by decide +kernel
theorem dX13_readKnows_90 : decode cX13_readKnows 90 = .ok (.iastore, 1) := by decide +kernel
theorem dX13_readKnows_91 : decode cX13_readKnows 91 = .ok (.aload_n 0, 1) := by decide +kernel
theorem dX13_readKnows_92 : decode cX13_readKnows 92 = .ok (.getfield 149, 3) := by decide +kernel
theorem dX13_readKnows_95 : decode cX13_readKnows 95 = .ok (.dup, 1) := by decide +kernel
theorem dX13_readKnows_96 : decode cX13_readKnows 96 = .ok (.getfield 271, 3) := by decide +kernel
theorem dX13_readKnows_99 : decode cX13_readKnows 99 = .ok (.iconst 1, 1) := by decide +kernel
theorem dX13_readKnows_100 : decode cX13_readKnows 100 = .ok (.iadd, 1) := by decide +kernel
theorem dX13_readKnows_101 : decode cX13_readKnows 101 = .ok (.putfield 271, 3) := by decide +kernel
theorem dX13_readKnows_104 : decode cX13_readKnows 104 = .ok (.return_, 1) := by decide +kernel
theorem dX13_readSign_0 : decode cX13_readSign 0 = .ok (.aload_n 0, 1) := by decide +kernel
theorem dX13_readSign_1 : decode cX13_readSign 1 = .ok (.iconst 0, 1) := by decide +kernel
theorem dX13_readSign_2 : decode cX13_readSign 2 = .ok (.iconst 1, 1) := by decide +kernel
theorem dX13_readSign_3 : decode cX13_readSign 3 = .ok (.invokevirtual 219, 3) := by decide +kernel
theorem dX13_readSign_6 : decode cX13_readSign 6 = .ok (.aload_n 0, 1) := by decide +kernel
theorem dX13_readSign_7 : decode cX13_readSign 7 = .ok (.iconst 0, 1) := by decide +kernel
theorem dX13_readSign_8 : decode cX13_readSign 8 = .ok (.invokevirtual 262, 3) := by decide +kernel
theorem dX13_readSign_11 : decode cX13_readSign 11 = .ok (.istore_n 2, 1) := by decide +kernel
theorem dX13_readSign_12 : decode cX13_readSign 12 = .ok (.aload_n 0, 1) := by decide +kernel
theorem dX13_readSign_13 : decode cX13_readSign 13 = .ok (.getfield 80, 3) := by decide +kernel
theorem dX13_readSign_16 : decode cX13_readSign 16 = .ok (.iconst 5, 1) := by decide +kernel
theorem dX13_readSign_17 : decode cX13_readSign 17 = .ok (.if_icmp .eq 20, 3) := by decide +kernel
theorem dX13_readSign_20 : decode cX13_readSign 20 = .ok (.aload_n 0, 1) := by decide +kernel
theorem dX13_readSign_21 : decode cX13_readSign 21 = .ok (.getfield 149, 3) := by decide +kernel
theorem dX13_readSign_24 : decode cX13_readSign 24 = .ok (.getfield 276, 3) := by decide +kernel
theorem dX13_readSign_27 : decode cX13_readSign 27 = .ok (.iload_n 2, 1) := by decide +kernel
theorem dX13_readSign_28 : decode cX13_readSign 28 = .ok (.iaload, 1) := by decide +kernel
theorem dX13_readSign_29 : decode cX13_readSign 29 = .ok (.ifCond .le 8, 3) := by decide +kernel
theorem dX13_readSign_32 : decode cX13_readSign 32 = .ok (.aload_n 0, 1) := by decide +kernel
theorem dX13_readSign_33 : decode cX13_readSign 33 = .ok (.iconst 3, 1) := by decide +kernel
theorem dX13_readSign_34 : decode cX13_readSign 34 = .ok (.invokevirtual 123, 3) := by decide +kernel
theorem dX13_readSign_37 : decode cX13_readSign 37 = .ok (.aload_n 0, 1) := by decide +kernel
theorem dX13_readSign_38 : decode cX13_readSign 38 = .ok (.invokevirtual 116, 3) := by decide +kernel
theorem dX13_readSign_41 : decode cX13_readSign 41 = .ok (.aload_n 0, 1) := by decide +kernel
theorem dX13_readSign_42 : decode cX13_readSign 42 = .ok (.getfield 80, 3) := by decide +kernel
theorem dX13_readSign_45 : decode cX13_readSign 45 = .ok (.iconst 5, 1) := by decide +kernel
theorem dX13_readSign_46 : decode cX13_readSign 46 = .ok (.if_icmp .ne 4, 3) := by decide +kernel
theorem dX13_readSign_49 : decode cX13_readSign 49 = .ok (.return_, 1) := by decide +kernel
theorem dX13_readSign_50 : decode cX13_readSign 50 = .ok (.aload_n 0, 1) := by decide +kernel
theorem dX13_readSign_51 : decode cX13_readSign 51 = .ok (.getfield 149, 3) := by decide +kernel
theorem dX13_readSign_54 : decode cX13_readSign 54 = .ok (.getfield 276, 3) := by decide +kernel
theorem dX13_readSign_57 : decode cX13_readSign 57 = .ok (.iload_n 2, 1) := by decide +kernel
theorem dX13_readSign_58 : decode cX13_readSign 58 = .ok (.iload_n 1, 1) := by decide +kernel
theorem dX13_readSign_59 : decode cX13_readSign 59 = .ok (.iastore, 1) := by decide +kernel
theorem dX13_readSign_60 : decode cX13_readSign 60 = .ok (.aload_n 0, 1) := by decide +kernel
theorem dX13_readSign_61 : decode cX13_readSign 61 = .ok (.getfield 149, 3) := by decide +kernel
theorem dX13_readSign_64 : decode cX13_readSign 64 = .ok (.dup, 1) := by decide +kernel
theorem dX13_readSign_65 : decode cX13_readSign 65 = .ok (.getfield 279, 3) := by decide +kernel
theorem dX13_readSign_68 : decode cX13_readSign 68 = .ok (.iconst 1, 1) := by decide +kernel
theorem dX13_readSign_69 : decode cX13_readSign 69 = .ok (.iadd, 1) := by decide +kernel
theorem dX13_readSign_70 : decode cX13_readSign 70 = .ok (.putfield 279, 3) := by decide +kernel
theorem dX13_readSign_73 : decode cX13_readSign 73 = .ok (.return_, 1) := by decide +kernel
theorem dX13_readLine_0 : decode cX13_readLine 0 = .ok (.aload_n 0, 1) := by decide +kernel
theorem dX13_readLine_1 : decode cX13_readLine 1 = .ok (.ldc 135, 2) := by decide +kernel
theorem dX13_readLine_3 : decode cX13_readLine 3 = .ok (.invokevirtual 119, 3) := by decide +kernel
theorem dX13_readLine_6 : decode cX13_readLine 6 = .ok (.ifCond .eq 10, 3) := by decide +kernel
theorem dX13_readLine_9 : decode cX13_readLine 9 = .ok (.aload_n 0, 1) := by decide +kernel
theorem dX13_readLine_10 : decode cX13_readLine 10 = .ok (.invokevirtual 188, 3) := by decide +kernel
theorem dX13_readLine_13 : decode cX13_readLine 13 = .ok (.goto 106, 3) := by decide +kernel
theorem dX13_readLine_16 : decode cX13_readLine 16 = .ok (.aload_n 0, 1) := by decide +kernel
theorem dX13_readLine_17 : decode cX13_readLine 17 = .ok (.ldc 137, 2) := by decide +kernel
theorem dX13_readLine_19 : decode cX13_readLine 19 = .ok (.invokevirtual 119, 3) := by decide +kernel
theorem dX13_readLine_22 : decode cX13_readLine 22 = .ok (.ifCond .eq 10, 3) := by decide +kernel
theorem dX13_readLine_25 : decode cX13_readLine 25 = .ok (.aload_n 0, 1) := by decide +kernel
theorem dX13_readLine_26 : decode cX13_readLine 26 = .ok (.invokevirtual 191, 3) := by decide +kernel
theorem dX13_readLine_29 : decode cX13_readLine 29 = .ok (.goto 90, 3) := by decide +kernel
theorem dX13_readLine_32 : decode cX13_readLine 32 = .ok (.aload_n 0, 1) := by decide +kernel
theorem dX13_readLine_33 : decode cX13_readLine 33 = .ok (.ldc 139, 2) := by decide +kernel
theorem dX13_readLine_35 : decode cX13_readLine 35 = .ok (.invokevirtual 119, 3) := by decide +kernel
theorem dX13_readLine_38 : decode cX13_readLine 38 = .ok (.ifCond .eq 10, 3) := by decide +kernel
theorem dX13_readLine_41 : decode cX13_readLine 41 = .ok (.aload_n 0, 1) := by decide +kernel
theorem dX13_readLine_42 : decode cX13_readLine 42 = .ok (.invokevirtual 194, 3) := by decide +kernel
theorem dX13_readLine_45 : decode cX13_readLine 45 = .ok (.goto 74, 3) := by decide +kernel
theorem dX13_readLine_48 : decode cX13_readLine 48 = .ok (.aload_n 0, 1) := by decide +kernel
theorem dX13_readLine_49 : decode cX13_readLine 49 = .ok (.ldc 141, 2) := by decide +kernel
theorem dX13_readLine_51 : decode cX13_readLine 51 = .ok (.invokevirtual 119, 3) := by decide +kernel
theorem dX13_readLine_54 : decode cX13_readLine 54 = .ok (.ifCond .eq 10, 3) := by decide +kernel
theorem dX13_readLine_57 : decode cX13_readLine 57 = .ok (.aload_n 0, 1) := by decide +kernel
theorem dX13_readLine_58 : decode cX13_readLine 58 = .ok (.invokevirtual 197, 3) := by decide +kernel
theorem dX13_readLine_61 : decode cX13_readLine 61 = .ok (.goto 58, 3) := by decide +kernel
theorem dX13_readLine_64 : decode cX13_readLine 64 = .ok (.aload_n 0, 1) := by decide +kernel
theorem dX13_readLine_65 : decode cX13_readLine 65 = .ok (.ldc 143, 2) := by decide +kernel
theorem dX13_readLine_67 : decode cX13_readLine 67 = .ok (.invokevirtual 119, 3) := by decide +kernel
theorem dX13_readLine_70 : decode cX13_readLine 70 = .ok (.ifCond .eq 10, 3) := by decide +kernel
theorem dX13_readLine_73 : decode cX13_readLine 73 = .ok (.aload_n 0, 1) := by decide +kernel
theorem dX13_readLine_74 : decode cX13_readLine 74 = .ok (.invokevirtual 200, 3) := by decide +kernel
theorem dX13_readLine_77 : decode cX13_readLine 77 = .ok (.goto 42, 3) := by decide +kernel
theorem dX13_readLine_80 : decode cX13_readLine 80 = .ok (.aload_n 0, 1) := by decide +kernel
theorem dX13_readLine_81 : decode cX13_readLine 81 = .ok (.ldc 145, 2) := by decide +kernel
theorem dX13_readLine_83 : decode cX13_readLine 83 = .ok (.invokevirtual 119, 3) := by decide +kernel
theorem dX13_readLine_86 : decode cX13_readLine 86 = .ok (.ifCond .eq 11, 3) := by decide +kernel
theorem dX13_readLine_89 : decode cX13_readLine 89 = .ok (.aload_n 0, 1) := by decide +kernel
theorem dX13_readLine_90 : decode cX13_readLine 90 = .ok (.iconst 1, 1) := by decide +kernel
theorem dX13_readLine_91 : decode cX13_readLine 91 = .ok (.invokevirtual 203, 3) := by decide +kernel
theorem dX13_readLine_94 : decode cX13_readLine 94 = .ok (.goto 25, 3) := by decide +kernel
theorem dX13_readLine_97 : decode cX13_readLine 97 = .ok (.aload_n 0, 1) := by decide +kernel
theorem dX13_readLine_98 : decode cX13_readLine 98 = .ok (.ldc 147, 2) := by decide +kernel
theorem dX13_readLine_100 : decode cX13_readLine 100 = .ok (.invokevirtual 119, 3) := by decide +kernel
theorem dX13_readLine_103 : decode cX13_readLine 103 = .ok (.ifCond .eq 11, 3) := by decide +kernel
theorem dX13_readLine_106 : decode cX13_readLine 106 = .ok (.aload_n 0, 1) := by decide +kernel
theorem dX13_readLine_107 : decode cX13_readLine 107 = .ok (.iconst 2, 1) := by decide +kernel
theorem dX13_readLine_108 : decode cX13_readLine 108 = .ok (.invokevirtual 203, 3) := by decide +kernel
theorem dX13_readLine_111 : decode cX13_readLine 111 = .ok (.goto 8, 3) := by decide +kernel
theorem dX13_readLine_114 : decode cX13_readLine 114 = .ok (.aload_n 0, 1) := by decide +kernel
theorem dX13_readLine_115 : decode cX13_readLine 115 = .ok (.iconst 1, 1) := by decide +kernel
theorem dX13_readLine_116 : decode cX13_readLine 116 = .ok (.invokevirtual 123, 3) := by decide +kernel
theorem dX13_readLine_119 : decode cX13_readLine 119 = .ok (.return_, 1) := by decide +kernel
theorem dX13_readAll_0 : decode cX13_readAll 0 = .ok (.iconst 1, 1) := by decide +kernel
theorem dX13_readAll_1 : decode cX13_readAll 1 = .ok (.istore_n 1, 1) := by decide +kernel
theorem dX13_readAll_2 : decode cX13_readAll 2 = .ok (.iload_n 1, 1) := by decide +kernel
theorem dX13_readAll_3 : decode cX13_readAll 3 = .ok (.ifCond .eq 15, 3) := by decide +kernel
theorem dX13_readAll_6 : decode cX13_readAll 6 = .ok (.aload_n 0, 1) := by decide +kernel
theorem dX13_readAll_7 : decode cX13_readAll 7 = .ok (.invokevirtual 179, 3) := by decide +kernel
theorem dX13_readAll_10 : decode cX13_readAll 10 = .ok (.aload_n 0, 1) := by decide +kernel
theorem dX13_readAll_11 : decode cX13_readAll 11 = .ok (.invokevirtual 182, 3) := by decide +kernel
theorem dX13_readAll_14 : decode cX13_readAll 14 = .ok (.istore_n 1, 1) := by decide +kernel
theorem dX13_readAll_15 : decode cX13_readAll 15 = .ok (.goto (-13), 3) := by decide +kernel
theorem dX13_readAll_18 : decode cX13_readAll 18 = .ok (.aload_n 0, 1) := by decide +kernel
theorem dX13_readAll_19 : decode cX13_readAll 19 = .ok (.getfield 80, 3) := by decide +kernel
theorem dX13_readAll_22 : decode cX13_readAll 22 = .ok (.iconst 1, 1) := by decide +kernel
theorem dX13_readAll_23 : decode cX13_readAll 23 = .ok (.if_icmp .eq 8, 3) := by decide +kernel
theorem dX13_readAll_26 : decode cX13_readAll 26 = .ok (.aload_n 0, 1) := by decide +kernel
theorem dX13_readAll_27 : decode cX13_readAll 27 = .ok (.iconst 1, 1) := by decide +kernel
theorem dX13_readAll_28 : decode cX13_readAll 28 = .ok (.invokevirtual 123, 3) := by decide +kernel
theorem dX13_readAll_31 : decode cX13_readAll 31 = .ok (.aload_n 0, 1) := by decide +kernel
theorem dX13_readAll_32 : decode cX13_readAll 32 = .ok (.getfield 149, 3) := by decide +kernel
theorem dX13_readAll_35 : decode cX13_readAll 35 = .ok (.getfield 185, 3) := by decide +kernel
theorem dX13_readAll_38 : decode cX13_readAll 38 = .ok (.ifCond .ne 9, 3) := by decide +kernel
theorem dX13_readAll_41 : decode cX13_readAll 41 = .ok (.aload_n 0, 1) := by decide +kernel
theorem dX13_readAll_42 : decode cX13_readAll 42 = .ok (.bipush 6, 2) := by decide +kernel
theorem dX13_readAll_44 : decode cX13_readAll 44 = .ok (.invokevirtual 123, 3) := by decide +kernel
theorem dX13_readAll_47 : decode cX13_readAll 47 = .ok (.return_, 1) := by decide +kernel
def m_X13_readPost (t : Nat) (σ : jd_Hp) : Option (Unit × jd_Hp) :=
jd_o σ (12, 20) (σ.2.2.2 t 4) fun a1 =>
jd_b (m_X13_lineBegins t (σ.2.1 a1 4) 5 σ) fun r2 σ2 =>
jd_b (m_X13_readFresh t σ2) fun r3 σ3 =>
jd_b (m_X13_readPart t (some 14) 0 99 σ3) fun r4 σ4 =>
jd_b (m_X13_readPart t (some 17) 1 40 σ4) fun r5 σ5 =>
jd_if (¬ (σ5.2.1 t 9) = 5) (
jd_o σ5 (12, 20) (σ5.2.2.2 t 4) fun a6 =>
jd_b (m_X13_names t r3 1 (σ5.2.1 a6 4) σ5) fun r7 σ7 =>
jd_o σ7 (12, 20) (σ7.2.2.2 t 4) fun a8 =>
jd_ia σ7 20 (σ7.2.2.2 a8 15) (σ7.2.1 a8 4) fun a9 j9 =>
jd_li (jd_pi σ7 a9 j9 r4) fun τ10 =>
jd_o τ10 (12, 20) (τ10.2.2.2 t 4) fun a11 =>
jd_ia τ10 20 (τ10.2.2.2 a11 16) (τ10.2.1 a11 4) fun a12 j12 =>
jd_li (jd_pi τ10 a12 j12 r5) fun τ13 =>
jd_o τ13 (12, 20) (τ13.2.2.2 t 4) fun a14 =>
jd_li (jd_pi τ13 a14 4 ((τ13.2.1 a14 4) + 1)) fun τ15 =>
some ((), τ15)) (
some ((), σ5))
set_option maxHeartbeats 4000000 in
set_option maxRecDepth 20000 in
theorem c_X13_readPost {l : Launch} {s0 : State} {G : jd_G} (hF : jd_F s0 G) (σ : jd_Hp) (t : Nat) (ht : σ.1[t]? = some (13, 29)) : jd_M l s0 G yX13_readPost cX13_readPost 5 none 11 je_v [jd_v G (some t)] σ (m_X13_readPost t σ) := by
  refine jd_enter hF (by decide) (fun G => [some (jd_v G (some t)), none, none, none, none]) rfl (by simp [lv_args, jd_al, jd_v_cat, jd_cti, jd_ctl]) (by simp [lg_sl, jd_v_cat, jd_cti, jd_ctl]) (fun X hD hX => ?_)
  have hX : jd_C X RX13 "readPost" cX13_readPost 5 none := hX
  unfold m_X13_readPost
  refine jr_ald0 (pc := 0) hX dX13_readPost_0 ?_
  refine jr_ald0 (pc := 1) hX dX13_readPost_1 ?_
  refine jr_getr (pc := 2) hX fX13_149 rfl dX13_readPost_2 ht ?_
  refine jr_ck0 (fun a1 e1 h1 => ?_)
  refine jr_getiN (pc := 5) hX fX13_253 rfl dX13_readPost_5 h1 ?_
  refine jr_iconst (pc := 8) hX 5 rfl dX13_readPost_8 ?_
  refine jr_cV2v (pc := 9) hX lX13_219 (c_X13_lineBegins hX.F σ t ht _ _) (jd_dd hD rfl) (Nat.le_of_ble_eq_true rfl) dX13_readPost_9 ht (fun r2 σ2 p2 => ?_)
  refine jr_ald0 (pc := 12) hX dX13_readPost_12 ?_
  refine jr_cV0l (pc := 13) hX lX13_223 (c_X13_readFresh hX.F σ2 t (p2.at ht :)) (jd_dd hD rfl) (Nat.le_of_ble_eq_true rfl) dX13_readPost_13 (p2.at ht :) (fun r3 σ3 p3 => ?_)
  refine jr_lst1 (pc := 16) hX (jn_r _ _) dX13_readPost_16 ?_
  refine jr_ald0 (pc := 17) hX dX13_readPost_17 ?_
  refine jr_ldcS (pc := 18) hX sX13_235 dX13_readPost_18 ?_
  refine jr_iconst (pc := 20) hX 0 rfl dX13_readPost_20 ?_
  refine jr_bipush (pc := 21) hX 99 rfl dX13_readPost_21 ?_
  refine jr_cV3i (pc := 23) hX lX13_207 (c_X13_readPart hX.F σ3 t (p3.at (p2.at ht :) :) _ _ _) (jd_dd hD rfl) (Nat.le_of_ble_eq_true rfl) dX13_readPost_23 (p3.at (p2.at ht :) :) (fun r4 σ4 p4 => ?_)
  refine jr_ist3 (pc := 26) hX jn_n dX13_readPost_26 ?_
  refine jr_ald0 (pc := 27) hX dX13_readPost_27 ?_
  refine jr_ldcSw (pc := 28) hX sX13_256 dX13_readPost_28 ?_
  refine jr_iconst (pc := 31) hX 1 rfl dX13_readPost_31 ?_
  refine jr_bipush (pc := 32) hX 40 rfl dX13_readPost_32 ?_
  refine jr_cV3i (pc := 34) hX lX13_207 (c_X13_readPart hX.F σ4 t (p4.at (p3.at (p2.at ht :) :) :) _ _ _) (jd_dd hD rfl) (Nat.le_of_ble_eq_true rfl) dX13_readPost_34 (p4.at (p3.at (p2.at ht :) :) :) (fun r5 σ5 p5 => ?_)
  refine jr_ist4 (pc := 37) hX (jn_i _) dX13_readPost_37 ?_
  refine jr_ald0 (pc := 39) hX dX13_readPost_39 ?_
  refine jr_geti (pc := 40) hX fX13_80 rfl dX13_readPost_40 (p5.at (p4.at (p3.at (p2.at ht :) :) :) :) ?_
  refine jr_iconst (pc := 43) hX 5 rfl dX13_readPost_43 ?_
  refine jr_icne (pc := 44) hX 48 dX13_readPost_44 (by decide) ?_ ?_
  · refine jr_ald0 (pc := 48) hX dX13_readPost_48 ?_
    refine jr_lld1 (pc := 49) hX dX13_readPost_49 ?_
    refine jr_iconst (pc := 50) hX 1 rfl dX13_readPost_50 ?_
    refine jr_ald0 (pc := 51) hX dX13_readPost_51 ?_
    refine jr_getr (pc := 52) hX fX13_149 rfl dX13_readPost_52 (p5.at (p4.at (p3.at (p2.at ht :) :) :) :) ?_
    refine jr_ck0 (fun a6 e6 h6 => ?_)
    refine jr_getiN (pc := 55) hX fX13_253 rfl dX13_readPost_55 h6 ?_
    refine jr_cV3v (pc := 58) hX lX13_241 (c_X13_names hX.F σ5 t (p5.at (p4.at (p3.at (p2.at ht :) :) :) :) _ _ _) (jd_dd hD rfl) (Nat.le_of_ble_eq_true rfl) dX13_readPost_58 (p5.at (p4.at (p3.at (p2.at ht :) :) :) :) (fun r7 σ7 p7 => ?_)
    refine jr_ald0 (pc := 61) hX dX13_readPost_61 ?_
    refine jr_getr (pc := 62) hX fX13_149 rfl dX13_readPost_62 (p7.at (p5.at (p4.at (p3.at (p2.at ht :) :) :) :) :) ?_
    refine jr_ck0 (fun a8 e8 h8 => ?_)
    refine jr_getrN (pc := 65) hX fX13_258 rfl dX13_readPost_65 h8 ?_
    refine jr_ald0 (pc := 68) hX dX13_readPost_68 ?_
    refine jr_getr (pc := 69) hX fX13_149 rfl dX13_readPost_69 (p7.at (p5.at (p4.at (p3.at (p2.at ht :) :) :) :) :) ?_
    refine jr_ek0 e8 ?_
    refine jr_getiN (pc := 72) hX fX13_253 rfl dX13_readPost_72 h8 ?_
    refine jr_ild3 (pc := 75) hX dX13_readPost_75 ?_
    refine jr_iaS (pc := 76) hX dX13_readPost_76 (fun a9 n9 e9 h9 => ?_)
    refine jr_li ?_
    refine jr_ald0 (pc := 77) hX dX13_readPost_77 ?_
    refine jr_getr (pc := 78) hX fX13_149 rfl dX13_readPost_78 (p7.at (p5.at (p4.at (p3.at (p2.at ht :) :) :) :) :) ?_
    refine jr_ck0 (fun a11 e11 h11 => ?_)
    refine jr_getrN (pc := 81) hX fX13_260 rfl dX13_readPost_81 h11 ?_
    refine jr_ald0 (pc := 84) hX dX13_readPost_84 ?_
    refine jr_getr (pc := 85) hX fX13_149 rfl dX13_readPost_85 (p7.at (p5.at (p4.at (p3.at (p2.at ht :) :) :) :) :) ?_
    refine jr_ek0 e11 ?_
    refine jr_getiN (pc := 88) hX fX13_253 rfl dX13_readPost_88 h11 ?_
    refine jr_ild4 (pc := 91) hX dX13_readPost_91 ?_
    refine jr_iaS (pc := 93) hX dX13_readPost_93 (fun a12 n12 e12 h12 => ?_)
    refine jr_li ?_
    refine jr_ald0 (pc := 94) hX dX13_readPost_94 ?_
    refine jr_getr (pc := 95) hX fX13_149 rfl dX13_readPost_95 (p7.at (p5.at (p4.at (p3.at (p2.at ht :) :) :) :) :) ?_
    refine jr_dup (pc := 98) hX (jd_v_cat _ _) dX13_readPost_98 ?_
    refine jr_ck0 (fun a14 e14 h14 => ?_)
    refine jr_getiN (pc := 99) hX fX13_253 rfl dX13_readPost_99 h14 ?_
    refine jr_iconst (pc := 102) hX 1 rfl dX13_readPost_102 ?_
    refine jr_iadd (pc := 103) hX dX13_readPost_103 ?_
    refine jr_ek1 e14 ?_
    refine jr_putiN (pc := 104) hX fX13_253 rfl dX13_readPost_104 h14 ?_
    refine jr_li ?_
    exact jr_vret (pc := 107) hX dX13_readPost_107 rfl
  · exact jr_vret (pc := 47) hX dX13_readPost_47 rfl
def m_X13_readManned (t : Nat) (σ : jd_Hp) : Option (Unit × jd_Hp) :=
jd_b (m_X13_lineBegins t 0 1 σ) fun r1 σ1 =>
jd_b (m_X13_knownOne t 1 σ1) fun r2 σ2 =>
jd_b (α := Unit) (
jd_if ((σ2.2.1 t 9) = 5) (
some ((), σ2)) (
jd_o σ2 (12, 20) (σ2.2.2.2 t 4) fun a7 =>
jd_b (m_X13_bit (σ2.2.1 a7 5) r2 σ2) fun r8 σ8 =>
jd_if (r8 = 0) (
some ((), σ8)) (
jd_b (m_X13_flaw t 3 σ8) fun r9 σ9 =>
some ((), σ9)))) fun t6 σ6 =>
jd_o σ6 (13, 29) (some t) fun a10 =>
jd_b (m_X13_goesOn a10 σ6) fun r11 σ11 =>
jd_if ((σ11.2.1 a10 9) = 5) (
some ((), σ11)) (
jd_o σ11 (12, 20) (σ11.2.2.2 a10 4) fun a12 =>
jd_li (jd_pi σ11 a12 5 ((σ11.2.1 a12 5) ||| (1 <<< (r2 &&& 31)))) fun τ13 =>
some ((), τ13))
set_option maxHeartbeats 4000000 in
set_option maxRecDepth 20000 in
theorem c_X13_readManned {l : Launch} {s0 : State} {G : jd_G} (hF : jd_F s0 G) (σ : jd_Hp) (t : Nat) (ht : σ.1[t]? = some (13, 29)) : jd_M l s0 G yX13_readManned cX13_readManned 2 none 11 je_v [jd_v G (some t)] σ (m_X13_readManned t σ) := by
  refine jd_enter hF (by decide) (fun G => [some (jd_v G (some t)), none]) rfl (by simp [lv_args, jd_al, jd_v_cat, jd_cti, jd_ctl]) (by simp [lg_sl, jd_v_cat, jd_cti, jd_ctl]) (fun X hD hX => ?_)
  have hX : jd_C X RX13 "readManned" cX13_readManned 2 none := hX
  unfold m_X13_readManned
  refine jr_ald0 (pc := 0) hX dX13_readManned_0 ?_
  refine jr_iconst (pc := 1) hX 0 rfl dX13_readManned_1 ?_
  refine jr_iconst (pc := 2) hX 1 rfl dX13_readManned_2 ?_
  refine jr_cV2v (pc := 3) hX lX13_219 (c_X13_lineBegins hX.F σ t ht _ _) (jd_dd hD rfl) (Nat.le_of_ble_eq_true rfl) dX13_readManned_3 ht (fun r1 σ1 p1 => ?_)
  refine jr_ald0 (pc := 6) hX dX13_readManned_6 ?_
  refine jr_iconst (pc := 7) hX 1 rfl dX13_readManned_7 ?_
  refine jr_cV1i (pc := 8) hX lX13_262 (c_X13_knownOne hX.F σ1 t (p1.at ht :) _) (jd_dd hD rfl) (Nat.le_of_ble_eq_true rfl) dX13_readManned_8 (p1.at ht :) (fun r2 σ2 p2 => ?_)
  refine jr_ist1 (pc := 11) hX (jn_r _ _) dX13_readManned_11 ?_
  refine jr_ald0 (pc := 12) hX dX13_readManned_12 ?_
  refine jr_geti (pc := 13) hX fX13_80 rfl dX13_readManned_13 (p2.at (p1.at ht :) :) ?_
  refine jr_iconst (pc := 16) hX 5 rfl dX13_readManned_16 ?_
  refine jr_join (pc := 17) 39 (fun (t6 : Unit) => [some (jd_v (jd_gG X) (some t)), some (.int r2)]) (fun (t6 : Unit) => []) (fun t6 σ6 => ?_) (fun K6 jj6 => ?_)
  · refine jr_ald0 (pc := 39) hX dX13_readManned_39 ?_
    refine jr_ck0 (fun a10 e10 h10 => ?_)
    refine jr_cV0v (pc := 40) hX lX13_116 (c_X13_goesOn hX.F σ6 a10 h10) (jd_dd hD rfl) (Nat.le_of_ble_eq_true rfl) dX13_readManned_40 h10 (fun r11 σ11 p11 => ?_)
    refine jr_ald0 (pc := 43) hX dX13_readManned_43 ?_
    refine jr_ek0 e10 ?_
    refine jr_geti (pc := 44) hX fX13_80 rfl dX13_readManned_44 (p11.at h10 :) ?_
    refine jr_iconst (pc := 47) hX 5 rfl dX13_readManned_47 ?_
    refine jr_iceq (pc := 48) hX 66 dX13_readManned_48 (by decide) ?_ ?_
    · exact jr_vret (pc := 66) hX dX13_readManned_66 rfl
    · refine jr_ald0 (pc := 51) hX dX13_readManned_51 ?_
      refine jr_ek0 e10 ?_
      refine jr_getr (pc := 52) hX fX13_149 rfl dX13_readManned_52 (p11.at h10 :) ?_
      refine jr_dup (pc := 55) hX (jd_v_cat _ _) dX13_readManned_55 ?_
      refine jr_ck0 (fun a12 e12 h12 => ?_)
      refine jr_getiN (pc := 56) hX fX13_265 rfl dX13_readManned_56 h12 ?_
      refine jr_iconst (pc := 59) hX 1 rfl dX13_readManned_59 ?_
      refine jr_ild1 (pc := 60) hX dX13_readManned_60 ?_
      refine jr_ishl (pc := 61) hX dX13_readManned_61 ?_
      refine jr_ior (pc := 62) hX dX13_readManned_62 ?_
      refine jr_ek1 e12 ?_
      refine jr_putiN (pc := 63) hX fX13_265 rfl dX13_readManned_63 h12 ?_
      refine jr_li ?_
      exact jr_vret (pc := 66) hX dX13_readManned_66 rfl
  · refine jr_iceq (pc := 17) hX 39 dX13_readManned_17 (by decide) ?_ ?_
    · exact jj6 () _
    · refine jr_ald0 (pc := 20) hX dX13_readManned_20 ?_
      refine jr_getr (pc := 21) hX fX13_149 rfl dX13_readManned_21 (p2.at (p1.at ht :) :) ?_
      refine jr_ck0 (fun a7 e7 h7 => ?_)
      refine jr_getiN (pc := 24) hX fX13_265 rfl dX13_readManned_24 h7 ?_
      refine jr_ild1 (pc := 27) hX dX13_readManned_27 ?_
      refine jr_cS2i (pc := 28) hX lX13_267 (c_X13_bit hX.F σ2 _ _) (jd_dd hD rfl) (Nat.le_of_ble_eq_true rfl) dX13_readManned_28 (fun r8 σ8 p8 => ?_)
      refine jr_ifeq (pc := 31) hX 39 dX13_readManned_31 (by decide) ?_ ?_
      · exact jj6 () _
      · refine jr_ald0 (pc := 34) hX dX13_readManned_34 ?_
        refine jr_iconst (pc := 35) hX 3 rfl dX13_readManned_35 ?_
        refine jr_cV1v (pc := 36) hX lX13_123 (c_X13_flaw hX.F σ8 t (p8.at (p2.at (p1.at ht :) :) :) _) (jd_dd hD rfl) (Nat.le_of_ble_eq_true rfl) dX13_readManned_36 (p8.at (p2.at (p1.at ht :) :) :) (fun r9 σ9 p9 => ?_)
        exact jj6 () _
def m_X13_readKnows (t : Nat) (σ : jd_Hp) : Option (Unit × jd_Hp) :=
jd_o σ (12, 20) (σ.2.2.2 t 4) fun a1 =>
jd_b (m_X13_lineBegins t (σ.2.1 a1 6) 9 σ) fun r2 σ2 =>
jd_b (m_X13_knownOne t 0 σ2) fun r3 σ3 =>
jd_b (m_X13_goesOn t σ3) fun r4 σ4 =>
jd_b (m_X13_knownOne t 0 σ4) fun r5 σ5 =>
jd_b (α := Unit) (
jd_if ((σ5.2.1 t 9) = 5) (
some ((), σ5)) (
jd_if (r3 = r5) (
jd_b (m_X13_flaw t 3 σ5) fun r12 σ12 =>
some ((), σ12)) (
jd_o σ5 (12, 20) (σ5.2.2.2 t 4) fun a13 =>
jd_ia σ5 20 (σ5.2.2.2 a13 13) r3 fun a14 j14 =>
jd_b (m_X13_bit (σ5.2.1 a14 j14) r5 σ5) fun r15 σ15 =>
jd_if (r15 = 0) (
some ((), σ15)) (
jd_b (m_X13_flaw t 3 σ15) fun r16 σ16 =>
some ((), σ16))))) fun t11 σ11 =>
jd_o σ11 (13, 29) (some t) fun a17 =>
jd_b (m_X13_goesOn a17 σ11) fun r18 σ18 =>
jd_if (¬ (σ18.2.1 a17 9) = 5) (
jd_o σ18 (12, 20) (σ18.2.2.2 a17 4) fun a19 =>
jd_ia σ18 20 (σ18.2.2.2 a19 13) r3 fun a20 j20 =>
jd_ia σ18 20 (σ18.2.2.2 a19 13) r3 fun a21 j21 =>
jd_li (jd_pi σ18 a21 j21 ((σ18.2.1 a20 j20) ||| (1 <<< (r5 &&& 31)))) fun τ22 =>
jd_o τ22 (12, 20) (τ22.2.2.2 a17 4) fun a23 =>
jd_li (jd_pi τ22 a23 6 ((τ22.2.1 a23 6) + 1)) fun τ24 =>
some ((), τ24)) (
some ((), σ18))
set_option maxHeartbeats 4000000 in
set_option maxRecDepth 20000 in
theorem c_X13_readKnows {l : Launch} {s0 : State} {G : jd_G} (hF : jd_F s0 G) (σ : jd_Hp) (t : Nat) (ht : σ.1[t]? = some (13, 29)) : jd_M l s0 G yX13_readKnows cX13_readKnows 3 none 11 je_v [jd_v G (some t)] σ (m_X13_readKnows t σ) := by
  refine jd_enter hF (by decide) (fun G => [some (jd_v G (some t)), none, none]) rfl (by simp [lv_args, jd_al, jd_v_cat, jd_cti, jd_ctl]) (by simp [lg_sl, jd_v_cat, jd_cti, jd_ctl]) (fun X hD hX => ?_)
  have hX : jd_C X RX13 "readKnows" cX13_readKnows 3 none := hX
  unfold m_X13_readKnows
  refine jr_ald0 (pc := 0) hX dX13_readKnows_0 ?_
  refine jr_ald0 (pc := 1) hX dX13_readKnows_1 ?_
  refine jr_getr (pc := 2) hX fX13_149 rfl dX13_readKnows_2 ht ?_
  refine jr_ck0 (fun a1 e1 h1 => ?_)
  refine jr_getiN (pc := 5) hX fX13_271 rfl dX13_readKnows_5 h1 ?_
  refine jr_bipush (pc := 8) hX 9 rfl dX13_readKnows_8 ?_
  refine jr_cV2v (pc := 10) hX lX13_219 (c_X13_lineBegins hX.F σ t ht _ _) (jd_dd hD rfl) (Nat.le_of_ble_eq_true rfl) dX13_readKnows_10 ht (fun r2 σ2 p2 => ?_)
  refine jr_ald0 (pc := 13) hX dX13_readKnows_13 ?_
  refine jr_iconst (pc := 14) hX 0 rfl dX13_readKnows_14 ?_
  refine jr_cV1i (pc := 15) hX lX13_262 (c_X13_knownOne hX.F σ2 t (p2.at ht :) _) (jd_dd hD rfl) (Nat.le_of_ble_eq_true rfl) dX13_readKnows_15 (p2.at ht :) (fun r3 σ3 p3 => ?_)
  refine jr_ist1 (pc := 18) hX (jn_r _ _) dX13_readKnows_18 ?_
  refine jr_ald0 (pc := 19) hX dX13_readKnows_19 ?_
  refine jr_cV0v (pc := 20) hX lX13_116 (c_X13_goesOn hX.F σ3 t (p3.at (p2.at ht :) :)) (jd_dd hD rfl) (Nat.le_of_ble_eq_true rfl) dX13_readKnows_20 (p3.at (p2.at ht :) :) (fun r4 σ4 p4 => ?_)
  refine jr_ald0 (pc := 23) hX dX13_readKnows_23 ?_
  refine jr_iconst (pc := 24) hX 0 rfl dX13_readKnows_24 ?_
  refine jr_cV1i (pc := 25) hX lX13_262 (c_X13_knownOne hX.F σ4 t (p4.at (p3.at (p2.at ht :) :) :) _) (jd_dd hD rfl) (Nat.le_of_ble_eq_true rfl) dX13_readKnows_25 (p4.at (p3.at (p2.at ht :) :) :) (fun r5 σ5 p5 => ?_)
  refine jr_ist2 (pc := 28) hX (jn_i _) dX13_readKnows_28 ?_
  refine jr_ald0 (pc := 29) hX dX13_readKnows_29 ?_
  refine jr_geti (pc := 30) hX fX13_80 rfl dX13_readKnows_30 (p5.at (p4.at (p3.at (p2.at ht :) :) :) :) ?_
  refine jr_iconst (pc := 33) hX 5 rfl dX13_readKnows_33 ?_
  refine jr_join (pc := 34) 63 (fun (t11 : Unit) => [some (jd_v (jd_gG X) (some t)), some (.int r3), some (.int r5)]) (fun (t11 : Unit) => []) (fun t11 σ11 => ?_) (fun K11 jj11 => ?_)
  · refine jr_ald0 (pc := 63) hX dX13_readKnows_63 ?_
    refine jr_ck0 (fun a17 e17 h17 => ?_)
    refine jr_cV0v (pc := 64) hX lX13_116 (c_X13_goesOn hX.F σ11 a17 h17) (jd_dd hD rfl) (Nat.le_of_ble_eq_true rfl) dX13_readKnows_64 h17 (fun r18 σ18 p18 => ?_)
    refine jr_ald0 (pc := 67) hX dX13_readKnows_67 ?_
    refine jr_ek0 e17 ?_
    refine jr_geti (pc := 68) hX fX13_80 rfl dX13_readKnows_68 (p18.at h17 :) ?_
    refine jr_iconst (pc := 71) hX 5 rfl dX13_readKnows_71 ?_
    refine jr_icne (pc := 72) hX 76 dX13_readKnows_72 (by decide) ?_ ?_
    · refine jr_ald0 (pc := 76) hX dX13_readKnows_76 ?_
      refine jr_ek0 e17 ?_
      refine jr_getr (pc := 77) hX fX13_149 rfl dX13_readKnows_77 (p18.at h17 :) ?_
      refine jr_ck0 (fun a19 e19 h19 => ?_)
      refine jr_getrN (pc := 80) hX fX13_274 rfl dX13_readKnows_80 h19 ?_
      refine jr_ild1 (pc := 83) hX dX13_readKnows_83 ?_
      refine jr_dup2 (pc := 84) hX rfl (jd_v_cat _ _) dX13_readKnows_84 ?_
      refine jr_iaC (pc := 85) hX dX13_readKnows_85 (fun a20 n20 e20 h20 => ?_)
      refine jr_iconst (pc := 86) hX 1 rfl dX13_readKnows_86 ?_
      refine jr_ild2 (pc := 87) hX dX13_readKnows_87 ?_
      refine jr_ishl (pc := 88) hX dX13_readKnows_88 ?_
      refine jr_ior (pc := 89) hX dX13_readKnows_89 ?_
      refine jr_iaS (pc := 90) hX dX13_readKnows_90 (fun a21 n21 e21 h21 => ?_)
      refine jr_li ?_
      refine jr_ald0 (pc := 91) hX dX13_readKnows_91 ?_
      refine jr_ek0 e17 ?_
      refine jr_getr (pc := 92) hX fX13_149 rfl dX13_readKnows_92 (p18.at h17 :) ?_
      refine jr_dup (pc := 95) hX (jd_v_cat _ _) dX13_readKnows_95 ?_
      refine jr_ck0 (fun a23 e23 h23 => ?_)
      refine jr_getiN (pc := 96) hX fX13_271 rfl dX13_readKnows_96 h23 ?_
      refine jr_iconst (pc := 99) hX 1 rfl dX13_readKnows_99 ?_
      refine jr_iadd (pc := 100) hX dX13_readKnows_100 ?_
      refine jr_ek1 e23 ?_
      refine jr_putiN (pc := 101) hX fX13_271 rfl dX13_readKnows_101 h23 ?_
      refine jr_li ?_
      exact jr_vret (pc := 104) hX dX13_readKnows_104 rfl
    · exact jr_vret (pc := 75) hX dX13_readKnows_75 rfl
  · refine jr_iceq (pc := 34) hX 63 dX13_readKnows_34 (by decide) ?_ ?_
    · exact jj11 () _
    · refine jr_ild1 (pc := 37) hX dX13_readKnows_37 ?_
      refine jr_ild2 (pc := 38) hX dX13_readKnows_38 ?_
      refine jr_iceq (pc := 39) hX 58 dX13_readKnows_39 (by decide) ?_ ?_
      · refine jr_ald0 (pc := 58) hX dX13_readKnows_58 ?_
        refine jr_iconst (pc := 59) hX 3 rfl dX13_readKnows_59 ?_
        refine jr_cV1v (pc := 60) hX lX13_123 (c_X13_flaw hX.F σ5 t (p5.at (p4.at (p3.at (p2.at ht :) :) :) :) _) (jd_dd hD rfl) (Nat.le_of_ble_eq_true rfl) dX13_readKnows_60 (p5.at (p4.at (p3.at (p2.at ht :) :) :) :) (fun r12 σ12 p12 => ?_)
        exact jj11 () _
      · refine jr_ald0 (pc := 42) hX dX13_readKnows_42 ?_
        refine jr_getr (pc := 43) hX fX13_149 rfl dX13_readKnows_43 (p5.at (p4.at (p3.at (p2.at ht :) :) :) :) ?_
        refine jr_ck0 (fun a13 e13 h13 => ?_)
        refine jr_getrN (pc := 46) hX fX13_274 rfl dX13_readKnows_46 h13 ?_
        refine jr_ild1 (pc := 49) hX dX13_readKnows_49 ?_
        refine jr_iaC (pc := 50) hX dX13_readKnows_50 (fun a14 n14 e14 h14 => ?_)
        refine jr_ild2 (pc := 51) hX dX13_readKnows_51 ?_
        refine jr_cS2i (pc := 52) hX lX13_267 (c_X13_bit hX.F σ5 _ _) (jd_dd hD rfl) (Nat.le_of_ble_eq_true rfl) dX13_readKnows_52 (fun r15 σ15 p15 => ?_)
        refine jr_ifeq (pc := 55) hX 63 dX13_readKnows_55 (by decide) ?_ ?_
        · exact jj11 () _
        · refine jr_ald0 (pc := 58) hX dX13_readKnows_58 ?_
          refine jr_iconst (pc := 59) hX 3 rfl dX13_readKnows_59 ?_
          refine jr_cV1v (pc := 60) hX lX13_123 (c_X13_flaw hX.F σ15 t (p15.at (p5.at (p4.at (p3.at (p2.at ht :) :) :) :) :) _) (jd_dd hD rfl) (Nat.le_of_ble_eq_true rfl) dX13_readKnows_60 (p15.at (p5.at (p4.at (p3.at (p2.at ht :) :) :) :) :) (fun r16 σ16 p16 => ?_)
          exact jj11 () _
def m_X13_readSign (t : Nat) (x0p : Int32) (σ : jd_Hp) : Option (Unit × jd_Hp) :=
jd_b (m_X13_lineBegins t 0 1 σ) fun r1 σ1 =>
jd_b (m_X13_knownOne t 0 σ1) fun r2 σ2 =>
jd_b (α := Unit) (
jd_if ((σ2.2.1 t 9) = 5) (
some ((), σ2)) (
jd_o σ2 (12, 20) (σ2.2.2.2 t 4) fun a7 =>
jd_ia σ2 20 (σ2.2.2.2 a7 14) r2 fun a8 j8 =>
jd_if ((σ2.2.1 a8 j8) ≤ 0) (
some ((), σ2)) (
jd_b (m_X13_flaw t 3 σ2) fun r9 σ9 =>
some ((), σ9)))) fun t6 σ6 =>
jd_o σ6 (13, 29) (some t) fun a10 =>
jd_b (m_X13_goesOn a10 σ6) fun r11 σ11 =>
jd_if (¬ (σ11.2.1 a10 9) = 5) (
jd_o σ11 (12, 20) (σ11.2.2.2 a10 4) fun a12 =>
jd_ia σ11 20 (σ11.2.2.2 a12 14) r2 fun a13 j13 =>
jd_li (jd_pi σ11 a13 j13 x0p) fun τ14 =>
jd_o τ14 (12, 20) (τ14.2.2.2 a10 4) fun a15 =>
jd_li (jd_pi τ14 a15 7 ((τ14.2.1 a15 7) + 1)) fun τ16 =>
some ((), τ16)) (
some ((), σ11))
set_option maxHeartbeats 4000000 in
set_option maxRecDepth 20000 in
theorem c_X13_readSign {l : Launch} {s0 : State} {G : jd_G} (hF : jd_F s0 G) (σ : jd_Hp) (t : Nat) (ht : σ.1[t]? = some (13, 29)) (x0p : Int32) : jd_M l s0 G yX13_readSign cX13_readSign 3 none 11 je_v [jd_v G (some t), .int x0p] σ (m_X13_readSign t x0p σ) := by
  refine jd_enter hF (by decide) (fun G => [some (jd_v G (some t)), some (.int x0p), none]) rfl (by simp [lv_args, jd_al, jd_v_cat, jd_cti, jd_ctl]) (by simp [lg_sl, jd_v_cat, jd_cti, jd_ctl]) (fun X hD hX => ?_)
  have hX : jd_C X RX13 "readSign" cX13_readSign 3 none := hX
  unfold m_X13_readSign
  refine jr_ald0 (pc := 0) hX dX13_readSign_0 ?_
  refine jr_iconst (pc := 1) hX 0 rfl dX13_readSign_1 ?_
  refine jr_iconst (pc := 2) hX 1 rfl dX13_readSign_2 ?_
  refine jr_cV2v (pc := 3) hX lX13_219 (c_X13_lineBegins hX.F σ t ht _ _) (jd_dd hD rfl) (Nat.le_of_ble_eq_true rfl) dX13_readSign_3 ht (fun r1 σ1 p1 => ?_)
  refine jr_ald0 (pc := 6) hX dX13_readSign_6 ?_
  refine jr_iconst (pc := 7) hX 0 rfl dX13_readSign_7 ?_
  refine jr_cV1i (pc := 8) hX lX13_262 (c_X13_knownOne hX.F σ1 t (p1.at ht :) _) (jd_dd hD rfl) (Nat.le_of_ble_eq_true rfl) dX13_readSign_8 (p1.at ht :) (fun r2 σ2 p2 => ?_)
  refine jr_ist2 (pc := 11) hX (jn_i _) dX13_readSign_11 ?_
  refine jr_ald0 (pc := 12) hX dX13_readSign_12 ?_
  refine jr_geti (pc := 13) hX fX13_80 rfl dX13_readSign_13 (p2.at (p1.at ht :) :) ?_
  refine jr_iconst (pc := 16) hX 5 rfl dX13_readSign_16 ?_
  refine jr_join (pc := 17) 37 (fun (t6 : Unit) => [some (jd_v (jd_gG X) (some t)), some (.int x0p), some (.int r2)]) (fun (t6 : Unit) => []) (fun t6 σ6 => ?_) (fun K6 jj6 => ?_)
  · refine jr_ald0 (pc := 37) hX dX13_readSign_37 ?_
    refine jr_ck0 (fun a10 e10 h10 => ?_)
    refine jr_cV0v (pc := 38) hX lX13_116 (c_X13_goesOn hX.F σ6 a10 h10) (jd_dd hD rfl) (Nat.le_of_ble_eq_true rfl) dX13_readSign_38 h10 (fun r11 σ11 p11 => ?_)
    refine jr_ald0 (pc := 41) hX dX13_readSign_41 ?_
    refine jr_ek0 e10 ?_
    refine jr_geti (pc := 42) hX fX13_80 rfl dX13_readSign_42 (p11.at h10 :) ?_
    refine jr_iconst (pc := 45) hX 5 rfl dX13_readSign_45 ?_
    refine jr_icne (pc := 46) hX 50 dX13_readSign_46 (by decide) ?_ ?_
    · refine jr_ald0 (pc := 50) hX dX13_readSign_50 ?_
      refine jr_ek0 e10 ?_
      refine jr_getr (pc := 51) hX fX13_149 rfl dX13_readSign_51 (p11.at h10 :) ?_
      refine jr_ck0 (fun a12 e12 h12 => ?_)
      refine jr_getrN (pc := 54) hX fX13_276 rfl dX13_readSign_54 h12 ?_
      refine jr_ild2 (pc := 57) hX dX13_readSign_57 ?_
      refine jr_ild1 (pc := 58) hX dX13_readSign_58 ?_
      refine jr_iaS (pc := 59) hX dX13_readSign_59 (fun a13 n13 e13 h13 => ?_)
      refine jr_li ?_
      refine jr_ald0 (pc := 60) hX dX13_readSign_60 ?_
      refine jr_ek0 e10 ?_
      refine jr_getr (pc := 61) hX fX13_149 rfl dX13_readSign_61 (p11.at h10 :) ?_
      refine jr_dup (pc := 64) hX (jd_v_cat _ _) dX13_readSign_64 ?_
      refine jr_ck0 (fun a15 e15 h15 => ?_)
      refine jr_getiN (pc := 65) hX fX13_279 rfl dX13_readSign_65 h15 ?_
      refine jr_iconst (pc := 68) hX 1 rfl dX13_readSign_68 ?_
      refine jr_iadd (pc := 69) hX dX13_readSign_69 ?_
      refine jr_ek1 e15 ?_
      refine jr_putiN (pc := 70) hX fX13_279 rfl dX13_readSign_70 h15 ?_
      refine jr_li ?_
      exact jr_vret (pc := 73) hX dX13_readSign_73 rfl
    · exact jr_vret (pc := 49) hX dX13_readSign_49 rfl
  · refine jr_iceq (pc := 17) hX 37 dX13_readSign_17 (by decide) ?_ ?_
    · exact jj6 () _
    · refine jr_ald0 (pc := 20) hX dX13_readSign_20 ?_
      refine jr_getr (pc := 21) hX fX13_149 rfl dX13_readSign_21 (p2.at (p1.at ht :) :) ?_
      refine jr_ck0 (fun a7 e7 h7 => ?_)
      refine jr_getrN (pc := 24) hX fX13_276 rfl dX13_readSign_24 h7 ?_
      refine jr_ild2 (pc := 27) hX dX13_readSign_27 ?_
      refine jr_iaC (pc := 28) hX dX13_readSign_28 (fun a8 n8 e8 h8 => ?_)
      refine jr_ifle (pc := 29) hX 37 dX13_readSign_29 (by decide) ?_ ?_
      · exact jj6 () _
      · refine jr_ald0 (pc := 32) hX dX13_readSign_32 ?_
        refine jr_iconst (pc := 33) hX 3 rfl dX13_readSign_33 ?_
        refine jr_cV1v (pc := 34) hX lX13_123 (c_X13_flaw hX.F σ2 t (p2.at (p1.at ht :) :) _) (jd_dd hD rfl) (Nat.le_of_ble_eq_true rfl) dX13_readSign_34 (p2.at (p1.at ht :) :) (fun r9 σ9 p9 => ?_)
        exact jj6 () _
def m_X13_readLine (t : Nat) (σ : jd_Hp) : Option (Unit × jd_Hp) :=
jd_b (m_X13_isWord t (some 0) σ) fun r1 σ1 =>
jd_if (r1 = 0) (
jd_b (m_X13_isWord t (some 1) σ1) fun r2 σ2 =>
jd_if (r2 = 0) (
jd_b (m_X13_isWord t (some 2) σ2) fun r3 σ3 =>
jd_if (r3 = 0) (
jd_b (m_X13_isWord t (some 3) σ3) fun r4 σ4 =>
jd_if (r4 = 0) (
jd_b (m_X13_isWord t (some 4) σ4) fun r5 σ5 =>
jd_if (r5 = 0) (
jd_b (m_X13_isWord t (some 5) σ5) fun r6 σ6 =>
jd_if (r6 = 0) (
jd_b (m_X13_isWord t (some 6) σ6) fun r7 σ7 =>
jd_if (r7 = 0) (
jd_b (m_X13_flaw t 1 σ7) fun r8 σ8 =>
some ((), σ8)) (
jd_b (m_X13_readSign t 2 σ7) fun r9 σ9 =>
some ((), σ9))) (
jd_b (m_X13_readSign t 1 σ6) fun r10 σ10 =>
some ((), σ10))) (
jd_b (m_X13_readKnows t σ5) fun r11 σ11 =>
some ((), σ11))) (
jd_b (m_X13_readManned t σ4) fun r12 σ12 =>
some ((), σ12))) (
jd_b (m_X13_readPost t σ3) fun r13 σ13 =>
some ((), σ13))) (
jd_b (m_X13_readPerson t σ2) fun r14 σ14 =>
some ((), σ14))) (
jd_b (m_X13_readBeach t σ1) fun r15 σ15 =>
some ((), σ15))
set_option maxHeartbeats 4000000 in
set_option maxRecDepth 20000 in
theorem c_X13_readLine {l : Launch} {s0 : State} {G : jd_G} (hF : jd_F s0 G) (σ : jd_Hp) (t : Nat) (ht : σ.1[t]? = some (13, 29)) : jd_M l s0 G yX13_readLine cX13_readLine 1 none 12 je_v [jd_v G (some t)] σ (m_X13_readLine t σ) := by
  refine jd_enter hF (by decide) (fun G => [some (jd_v G (some t))]) rfl (by simp [lv_args, jd_al, jd_v_cat, jd_cti, jd_ctl]) (by simp [lg_sl, jd_v_cat, jd_cti, jd_ctl]) (fun X hD hX => ?_)
  have hX : jd_C X RX13 "readLine" cX13_readLine 1 none := hX
  unfold m_X13_readLine
  refine jr_ald0 (pc := 0) hX dX13_readLine_0 ?_
  refine jr_ldcS (pc := 1) hX sX13_135 dX13_readLine_1 ?_
  refine jr_cV1i (pc := 3) hX lX13_119 (c_X13_isWord hX.F σ t ht _) (jd_dd hD rfl) (Nat.le_of_ble_eq_true rfl) dX13_readLine_3 ht (fun r1 σ1 p1 => ?_)
  refine jr_ifeq (pc := 6) hX 16 dX13_readLine_6 (by decide) ?_ ?_
  · refine jr_ald0 (pc := 16) hX dX13_readLine_16 ?_
    refine jr_ldcS (pc := 17) hX sX13_137 dX13_readLine_17 ?_
    refine jr_cV1i (pc := 19) hX lX13_119 (c_X13_isWord hX.F σ1 t (p1.at ht :) _) (jd_dd hD rfl) (Nat.le_of_ble_eq_true rfl) dX13_readLine_19 (p1.at ht :) (fun r2 σ2 p2 => ?_)
    refine jr_ifeq (pc := 22) hX 32 dX13_readLine_22 (by decide) ?_ ?_
    · refine jr_ald0 (pc := 32) hX dX13_readLine_32 ?_
      refine jr_ldcS (pc := 33) hX sX13_139 dX13_readLine_33 ?_
      refine jr_cV1i (pc := 35) hX lX13_119 (c_X13_isWord hX.F σ2 t (p2.at (p1.at ht :) :) _) (jd_dd hD rfl) (Nat.le_of_ble_eq_true rfl) dX13_readLine_35 (p2.at (p1.at ht :) :) (fun r3 σ3 p3 => ?_)
      refine jr_ifeq (pc := 38) hX 48 dX13_readLine_38 (by decide) ?_ ?_
      · refine jr_ald0 (pc := 48) hX dX13_readLine_48 ?_
        refine jr_ldcS (pc := 49) hX sX13_141 dX13_readLine_49 ?_
        refine jr_cV1i (pc := 51) hX lX13_119 (c_X13_isWord hX.F σ3 t (p3.at (p2.at (p1.at ht :) :) :) _) (jd_dd hD rfl) (Nat.le_of_ble_eq_true rfl) dX13_readLine_51 (p3.at (p2.at (p1.at ht :) :) :) (fun r4 σ4 p4 => ?_)
        refine jr_ifeq (pc := 54) hX 64 dX13_readLine_54 (by decide) ?_ ?_
        · refine jr_ald0 (pc := 64) hX dX13_readLine_64 ?_
          refine jr_ldcS (pc := 65) hX sX13_143 dX13_readLine_65 ?_
          refine jr_cV1i (pc := 67) hX lX13_119 (c_X13_isWord hX.F σ4 t (p4.at (p3.at (p2.at (p1.at ht :) :) :) :) _) (jd_dd hD rfl) (Nat.le_of_ble_eq_true rfl) dX13_readLine_67 (p4.at (p3.at (p2.at (p1.at ht :) :) :) :) (fun r5 σ5 p5 => ?_)
          refine jr_ifeq (pc := 70) hX 80 dX13_readLine_70 (by decide) ?_ ?_
          · refine jr_ald0 (pc := 80) hX dX13_readLine_80 ?_
            refine jr_ldcS (pc := 81) hX sX13_145 dX13_readLine_81 ?_
            refine jr_cV1i (pc := 83) hX lX13_119 (c_X13_isWord hX.F σ5 t (p5.at (p4.at (p3.at (p2.at (p1.at ht :) :) :) :) :) _) (jd_dd hD rfl) (Nat.le_of_ble_eq_true rfl) dX13_readLine_83 (p5.at (p4.at (p3.at (p2.at (p1.at ht :) :) :) :) :) (fun r6 σ6 p6 => ?_)
            refine jr_ifeq (pc := 86) hX 97 dX13_readLine_86 (by decide) ?_ ?_
            · refine jr_ald0 (pc := 97) hX dX13_readLine_97 ?_
              refine jr_ldcS (pc := 98) hX sX13_147 dX13_readLine_98 ?_
              refine jr_cV1i (pc := 100) hX lX13_119 (c_X13_isWord hX.F σ6 t (p6.at (p5.at (p4.at (p3.at (p2.at (p1.at ht :) :) :) :) :) :) _) (jd_dd hD rfl) (Nat.le_of_ble_eq_true rfl) dX13_readLine_100 (p6.at (p5.at (p4.at (p3.at (p2.at (p1.at ht :) :) :) :) :) :) (fun r7 σ7 p7 => ?_)
              refine jr_ifeq (pc := 103) hX 114 dX13_readLine_103 (by decide) ?_ ?_
              · refine jr_ald0 (pc := 114) hX dX13_readLine_114 ?_
                refine jr_iconst (pc := 115) hX 1 rfl dX13_readLine_115 ?_
                refine jr_cV1v (pc := 116) hX lX13_123 (c_X13_flaw hX.F σ7 t (p7.at (p6.at (p5.at (p4.at (p3.at (p2.at (p1.at ht :) :) :) :) :) :) :) _) (jd_dd hD rfl) (Nat.le_of_ble_eq_true rfl) dX13_readLine_116 (p7.at (p6.at (p5.at (p4.at (p3.at (p2.at (p1.at ht :) :) :) :) :) :) :) (fun r8 σ8 p8 => ?_)
                exact jr_vret (pc := 119) hX dX13_readLine_119 rfl
              · refine jr_ald0 (pc := 106) hX dX13_readLine_106 ?_
                refine jr_iconst (pc := 107) hX 2 rfl dX13_readLine_107 ?_
                refine jr_cV1v (pc := 108) hX lX13_203 (c_X13_readSign hX.F σ7 t (p7.at (p6.at (p5.at (p4.at (p3.at (p2.at (p1.at ht :) :) :) :) :) :) :) _) (jd_dd hD rfl) (Nat.le_of_ble_eq_true rfl) dX13_readLine_108 (p7.at (p6.at (p5.at (p4.at (p3.at (p2.at (p1.at ht :) :) :) :) :) :) :) (fun r9 σ9 p9 => ?_)
                refine jr_goto (pc := 111) hX 119 dX13_readLine_111 (by decide) ?_
                exact jr_vret (pc := 119) hX dX13_readLine_119 rfl
            · refine jr_ald0 (pc := 89) hX dX13_readLine_89 ?_
              refine jr_iconst (pc := 90) hX 1 rfl dX13_readLine_90 ?_
              refine jr_cV1v (pc := 91) hX lX13_203 (c_X13_readSign hX.F σ6 t (p6.at (p5.at (p4.at (p3.at (p2.at (p1.at ht :) :) :) :) :) :) _) (jd_dd hD rfl) (Nat.le_of_ble_eq_true rfl) dX13_readLine_91 (p6.at (p5.at (p4.at (p3.at (p2.at (p1.at ht :) :) :) :) :) :) (fun r10 σ10 p10 => ?_)
              refine jr_goto (pc := 94) hX 119 dX13_readLine_94 (by decide) ?_
              exact jr_vret (pc := 119) hX dX13_readLine_119 rfl
          · refine jr_ald0 (pc := 73) hX dX13_readLine_73 ?_
            refine jr_cV0v (pc := 74) hX lX13_200 (c_X13_readKnows hX.F σ5 t (p5.at (p4.at (p3.at (p2.at (p1.at ht :) :) :) :) :)) (jd_dd hD rfl) (Nat.le_of_ble_eq_true rfl) dX13_readLine_74 (p5.at (p4.at (p3.at (p2.at (p1.at ht :) :) :) :) :) (fun r11 σ11 p11 => ?_)
            refine jr_goto (pc := 77) hX 119 dX13_readLine_77 (by decide) ?_
            exact jr_vret (pc := 119) hX dX13_readLine_119 rfl
        · refine jr_ald0 (pc := 57) hX dX13_readLine_57 ?_
          refine jr_cV0v (pc := 58) hX lX13_197 (c_X13_readManned hX.F σ4 t (p4.at (p3.at (p2.at (p1.at ht :) :) :) :)) (jd_dd hD rfl) (Nat.le_of_ble_eq_true rfl) dX13_readLine_58 (p4.at (p3.at (p2.at (p1.at ht :) :) :) :) (fun r12 σ12 p12 => ?_)
          refine jr_goto (pc := 61) hX 119 dX13_readLine_61 (by decide) ?_
          exact jr_vret (pc := 119) hX dX13_readLine_119 rfl
      · refine jr_ald0 (pc := 41) hX dX13_readLine_41 ?_
        refine jr_cV0v (pc := 42) hX lX13_194 (c_X13_readPost hX.F σ3 t (p3.at (p2.at (p1.at ht :) :) :)) (jd_dd hD rfl) (Nat.le_of_ble_eq_true rfl) dX13_readLine_42 (p3.at (p2.at (p1.at ht :) :) :) (fun r13 σ13 p13 => ?_)
        refine jr_goto (pc := 45) hX 119 dX13_readLine_45 (by decide) ?_
        exact jr_vret (pc := 119) hX dX13_readLine_119 rfl
    · refine jr_ald0 (pc := 25) hX dX13_readLine_25 ?_
      refine jr_cV0v (pc := 26) hX lX13_191 (c_X13_readPerson hX.F σ2 t (p2.at (p1.at ht :) :)) (jd_dd hD rfl) (Nat.le_of_ble_eq_true rfl) dX13_readLine_26 (p2.at (p1.at ht :) :) (fun r14 σ14 p14 => ?_)
      refine jr_goto (pc := 29) hX 119 dX13_readLine_29 (by decide) ?_
      exact jr_vret (pc := 119) hX dX13_readLine_119 rfl
  · refine jr_ald0 (pc := 9) hX dX13_readLine_9 ?_
    refine jr_cV0v (pc := 10) hX lX13_188 (c_X13_readBeach hX.F σ1 t (p1.at ht :)) (jd_dd hD rfl) (Nat.le_of_ble_eq_true rfl) dX13_readLine_10 (p1.at ht :) (fun r15 σ15 p15 => ?_)
    refine jr_goto (pc := 13) hX 119 dX13_readLine_13 (by decide) ?_
    exact jr_vret (pc := 119) hX dX13_readLine_119 rfl
def m_X13_readAll (t : Nat) (σ : jd_Hp) : Option (Unit × jd_Hp) :=
jd_b (jd_lp (S := Int32) (T := Unit) (fun s1 σ1 =>
jd_if (s1 = 0) (
some ((Sum.inr ()), σ1)) (
jd_o σ1 (13, 29) (some t) fun a3 =>
jd_b (m_X13_readLine a3 σ1) fun r4 σ4 =>
jd_b (m_X13_eatsSemicolon a3 σ4) fun r5 σ5 =>
some (Sum.inl r5, σ5))) jd_fu 1 σ) fun t2 σ2 =>
jd_o σ2 (13, 29) (some t) fun a6 =>
jd_b (α := Unit) (
jd_if ((σ2.2.1 a6 9) = 1) (
some ((), σ2)) (
jd_b (m_X13_flaw a6 1 σ2) fun r9 σ9 =>
some ((), σ9))) fun t8 σ8 =>
jd_o σ8 (13, 29) (some t) fun a10 =>
jd_o σ8 (12, 20) (σ8.2.2.2 a10 4) fun a11 =>
jd_if (¬ (σ8.2.1 a11 3) = 0) (
some ((), σ8)) (
jd_b (m_X13_flaw a10 6 σ8) fun r12 σ12 =>
some ((), σ12))
set_option maxHeartbeats 4000000 in
set_option maxRecDepth 20000 in
theorem c_X13_readAll {l : Launch} {s0 : State} {G : jd_G} (hF : jd_F s0 G) (σ : jd_Hp) (t : Nat) (ht : σ.1[t]? = some (13, 29)) : jd_M l s0 G yX13_readAll cX13_readAll 2 none 13 je_v [jd_v G (some t)] σ (m_X13_readAll t σ) := by
  refine jd_enter hF (by decide) (fun G => [some (jd_v G (some t)), none]) rfl (by simp [lv_args, jd_al, jd_v_cat, jd_cti, jd_ctl]) (by simp [lg_sl, jd_v_cat, jd_cti, jd_ctl]) (fun X hD hX => ?_)
  have hX : jd_C X RX13 "readAll" cX13_readAll 2 none := hX
  unfold m_X13_readAll
  refine jr_iconst (pc := 0) hX 1 rfl dX13_readAll_0 ?_
  refine jr_ist1 (pc := 1) hX (jn_r _ _) dX13_readAll_1 ?_
  refine jr_loop (pc := 2) (fun (s1 : Int32) => [some (jd_v (jd_gG X) (some t)), some (.int s1)]) (fun (t2 : Unit) => [some (jd_v (jd_gG X) (some t)), none]) 18 1 (fun t2 σ2 => ?_) (fun K1 bk1 ex1 s1 σ1 => ?_)
  · refine jr_ald0 (pc := 18) hX dX13_readAll_18 ?_
    refine jr_ck0 (fun a6 e6 h6 => ?_)
    refine jr_geti (pc := 19) hX fX13_80 rfl dX13_readAll_19 h6 ?_
    refine jr_iconst (pc := 22) hX 1 rfl dX13_readAll_22 ?_
    refine jr_join (pc := 23) 31 (fun (t8 : Unit) => [some (jd_v (jd_gG X) (some t)), none]) (fun (t8 : Unit) => []) (fun t8 σ8 => ?_) (fun K8 jj8 => ?_)
    · refine jr_ald0 (pc := 31) hX dX13_readAll_31 ?_
      refine jr_ck0 (fun a10 e10 h10 => ?_)
      refine jr_getr (pc := 32) hX fX13_149 rfl dX13_readAll_32 h10 ?_
      refine jr_ck0 (fun a11 e11 h11 => ?_)
      refine jr_getiN (pc := 35) hX fX13_185 rfl dX13_readAll_35 h11 ?_
      refine jr_ifne (pc := 38) hX 47 dX13_readAll_38 (by decide) ?_ ?_
      · exact jr_vret (pc := 47) hX dX13_readAll_47 rfl
      · refine jr_ald0 (pc := 41) hX dX13_readAll_41 ?_
        refine jr_bipush (pc := 42) hX 6 rfl dX13_readAll_42 ?_
        refine jr_ek1 e10 ?_
        refine jr_cV1v (pc := 44) hX lX13_123 (c_X13_flaw hX.F σ8 a10 h10 _) (jd_dd hD rfl) (Nat.le_of_ble_eq_true rfl) dX13_readAll_44 h10 (fun r12 σ12 p12 => ?_)
        exact jr_vret (pc := 47) hX dX13_readAll_47 rfl
    · refine jr_iceq (pc := 23) hX 31 dX13_readAll_23 (by decide) ?_ ?_
      · exact jj8 () _
      · refine jr_ald0 (pc := 26) hX dX13_readAll_26 ?_
        refine jr_iconst (pc := 27) hX 1 rfl dX13_readAll_27 ?_
        refine jr_ek1 e6 ?_
        refine jr_cV1v (pc := 28) hX lX13_123 (c_X13_flaw hX.F σ2 a6 h6 _) (jd_dd hD rfl) (Nat.le_of_ble_eq_true rfl) dX13_readAll_28 h6 (fun r9 σ9 p9 => ?_)
        exact jj8 () _
  · refine jr_ild1 (pc := 2) hX dX13_readAll_2 ?_
    refine jr_ifeq (pc := 3) hX 18 dX13_readAll_3 (by decide) ?_ ?_
    · refine jr_wk [true, false] ?_
      exact ex1 () _
    · refine jr_ald0 (pc := 6) hX dX13_readAll_6 ?_
      refine jr_ck0 (fun a3 e3 h3 => ?_)
      refine jr_cV0v (pc := 7) hX lX13_179 (c_X13_readLine hX.F σ1 a3 h3) (jd_dd hD rfl) (Nat.le_of_ble_eq_true rfl) dX13_readAll_7 h3 (fun r4 σ4 p4 => ?_)
      refine jr_ald0 (pc := 10) hX dX13_readAll_10 ?_
      refine jr_ek0 e3 ?_
      refine jr_cV0i (pc := 11) hX lX13_182 (c_X13_eatsSemicolon hX.F σ4 a3 (p4.at h3 :)) (jd_dd hD rfl) (Nat.le_of_ble_eq_true rfl) dX13_readAll_11 (p4.at h3 :) (fun r5 σ5 p5 => ?_)
      refine jr_ist1 (pc := 14) hX (jn_r _ _) dX13_readAll_14 ?_
      refine jr_goto (pc := 15) hX 2 dX13_readAll_15 (by decide) ?_
      exact bk1 r5 _
