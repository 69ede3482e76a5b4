theorem qX9_readSign : Cond.instanceMethod yX9_readSign ∈ jd_TB ∧ Cond.selects RX9 yX9_readSign yX9_readSign ∈ jd_TB ∧ Cond.initialized RX9 ∈ jd_TB ∧ Cond.code yX9_readSign cX9_readSign 3 (some .boolean) ∈ jd_TB ∧ jd_ds yX9_readSign 2 := ⟨jd_mem 698 (by decide +kernel) (by decide +kernel), jd_mem 18 (by decide +kernel) (by decide +kernel), jd_mem 94 (by decide +kernel) (by decide +kernel), jd_mem 699 (by decide +kernel) (by decide +kernel), ⟨by decide, by decide, by decide +kernel⟩⟩
theorem lX9_124 : jd_mv RX9 124 9 16 yX9_readSign cX9_readSign 3 (some .boolean) 2 := ⟨_, _, rfl, by decide, rfl, Or.inl (jd_mem 696 (by decide +kernel) (by decide +kernel)), qX9_readSign.1, qX9_readSign.2.1, qX9_readSign.2.2.1, qX9_readSign.2.2.2.1, qX9_readSign.2.2.2.2, by decide⟩
theorem qX9_readKnows : Cond.instanceMethod yX9_readKnows ∈ jd_TB ∧ Cond.selects RX9 yX9_readKnows yX9_readKnows ∈ jd_TB ∧ Cond.initialized RX9 ∈ jd_TB ∧ Cond.code yX9_readKnows cX9_readKnows 3 (some .boolean) ∈ jd_TB ∧ jd_ds yX9_readKnows 1 := ⟨jd_mem 694 (by decide +kernel) (by decide +kernel), jd_mem 17 (by decide +kernel) (by decide +kernel), jd_mem 94 (by decide +kernel) (by decide +kernel), jd_mem 695 (by decide +kernel) (by decide +kernel), ⟨by decide, by decide, by decide +kernel⟩⟩
theorem lX9_119 : jd_mv RX9 119 9 16 yX9_readKnows cX9_readKnows 3 (some .boolean) 1 := ⟨_, _, rfl, by decide, rfl, Or.inl (jd_mem 692 (by decide +kernel) (by decide +kernel)), qX9_readKnows.1, qX9_readKnows.2.1, qX9_readKnows.2.2.1, qX9_readKnows.2.2.2.1, qX9_readKnows.2.2.2.2, by decide⟩
theorem qX9_readManned : Cond.instanceMethod yX9_readManned ∈ jd_TB ∧ Cond.selects RX9 yX9_readManned yX9_readManned ∈ jd_TB ∧ Cond.initialized RX9 ∈ jd_TB ∧ Cond.code yX9_readManned cX9_readManned 2 (some .boolean) ∈ jd_TB ∧ jd_ds yX9_readManned 1 := ⟨jd_mem 683 (by decide +kernel) (by decide +kernel), jd_mem 15 (by decide +kernel) (by decide +kernel), jd_mem 94 (by decide +kernel) (by decide +kernel), jd_mem 684 (by decide +kernel) (by decide +kernel), ⟨by decide, by decide, by decide +kernel⟩⟩
theorem lX9_114 : jd_mv RX9 114 9 16 yX9_readManned cX9_readManned 2 (some .boolean) 1 := ⟨_, _, rfl, by decide, rfl, Or.inl (jd_mem 681 (by decide +kernel) (by decide +kernel)), qX9_readManned.1, qX9_readManned.2.1, qX9_readManned.2.2.1, qX9_readManned.2.2.2.1, qX9_readManned.2.2.2.2, by decide⟩
theorem qX9_readPost : Cond.instanceMethod yX9_readPost ∈ jd_TB ∧ Cond.selects RX9 yX9_readPost yX9_readPost ∈ jd_TB ∧ Cond.initialized RX9 ∈ jd_TB ∧ Cond.code yX9_readPost cX9_readPost 3 (some .boolean) ∈ jd_TB ∧ jd_ds yX9_readPost 1 := ⟨jd_mem 678 (by decide +kernel) (by decide +kernel), jd_mem 14 (by decide +kernel) (by decide +kernel), jd_mem 94 (by decide +kernel) (by decide +kernel), jd_mem 679 (by decide +kernel) (by decide +kernel), ⟨by decide, by decide, by decide +kernel⟩⟩
theorem lX9_109 : jd_mv RX9 109 9 16 yX9_readPost cX9_readPost 3 (some .boolean) 1 := ⟨_, _, rfl, by decide, rfl, Or.inl (jd_mem 676 (by decide +kernel) (by decide +kernel)), qX9_readPost.1, qX9_readPost.2.1, qX9_readPost.2.2.1, qX9_readPost.2.2.2.1, qX9_readPost.2.2.2.2, by decide⟩
theorem qX9_readPerson : Cond.instanceMethod yX9_readPerson ∈ jd_TB ∧ Cond.selects RX9 yX9_readPerson yX9_readPerson ∈ jd_TB ∧ Cond.initialized RX9 ∈ jd_TB ∧ Cond.code yX9_readPerson cX9_readPerson 4 (some .boolean) ∈ jd_TB ∧ jd_ds yX9_readPerson 1 := ⟨jd_mem 651 (by decide +kernel) (by decide +kernel), jd_mem 9 (by decide +kernel) (by decide +kernel), jd_mem 94 (by decide +kernel) (by decide +kernel), jd_mem 652 (by decide +kernel) (by decide +kernel), ⟨by decide, by decide, by decide +kernel⟩⟩
theorem lX9_104 : jd_mv RX9 104 9 16 yX9_readPerson cX9_readPerson 4 (some .boolean) 1 := ⟨_, _, rfl, by decide, rfl, Or.inl (jd_mem 649 (by decide +kernel) (by decide +kernel)), qX9_readPerson.1, qX9_readPerson.2.1, qX9_readPerson.2.2.1, qX9_readPerson.2.2.2.1, qX9_readPerson.2.2.2.2, by decide⟩
theorem qX9_readBeach : Cond.instanceMethod yX9_readBeach ∈ jd_TB ∧ Cond.selects RX9 yX9_readBeach yX9_readBeach ∈ jd_TB ∧ Cond.initialized RX9 ∈ jd_TB ∧ Cond.code yX9_readBeach cX9_readBeach 2 (some .boolean) ∈ jd_TB ∧ jd_ds yX9_readBeach 1 := ⟨jd_mem 636 (by decide +kernel) (by decide +kernel), jd_mem 6 (by decide +kernel) (by decide +kernel), jd_mem 94 (by decide +kernel) (by decide +kernel), jd_mem 637 (by decide +kernel) (by decide +kernel), ⟨by decide, by decide, by decide +kernel⟩⟩
theorem lX9_99 : jd_mv RX9 99 9 16 yX9_readBeach cX9_readBeach 2 (some .boolean) 1 := ⟨_, _, rfl, by decide, rfl, Or.inl (jd_mem 634 (by decide +kernel) (by decide +kernel)), qX9_readBeach.1, qX9_readBeach.2.1, qX9_readBeach.2.2.1, qX9_readBeach.2.2.2.1, qX9_readBeach.2.2.2.2, by decide⟩
theorem lX9_64 : jd_ms RX9 64 Lib.Math.min.name Lib.Math.min.code 2 := ⟨jd_mem 546 (by decide +kernel) (by decide +kernel), jd_mem 547 (by decide +kernel) (by decide +kernel), jd_mem 105 (by decide +kernel) (by decide +kernel), jd_mem 548 (by decide +kernel) (by decide +kernel)⟩
theorem qX10_clear : Cond.instanceMethod yX10_clear ∈ jd_TB ∧ Cond.selects RX10 yX10_clear yX10_clear ∈ jd_TB ∧ Cond.initialized RX10 ∈ jd_TB ∧ Cond.code yX10_clear cX10_clear 2 none ∈ jd_TB ∧ jd_ds yX10_clear 0 := ⟨jd_mem 550 (by decide +kernel) (by decide +kernel), jd_mem 551 (by decide +kernel) (by decide +kernel), jd_mem 97 (by decide +kernel) (by decide +kernel), jd_mem 552 (by decide +kernel) (by decide +kernel), ⟨by decide, by decide, by decide +kernel⟩⟩
theorem lX9_70 : jd_mv RX9 70 10 16 yX10_clear cX10_clear 2 none 0 := ⟨_, _, rfl, by decide, rfl, Or.inl (jd_mem 549 (by decide +kernel) (by decide +kernel)), qX10_clear.1, qX10_clear.2.1, qX10_clear.2.2.1, qX10_clear.2.2.2.1, qX10_clear.2.2.2.2, by decide⟩
theorem qX9_readLine : Cond.instanceMethod yX9_readLine ∈ jd_TB ∧ Cond.selects RX9 yX9_readLine yX9_readLine ∈ jd_TB ∧ Cond.initialized RX9 ∈ jd_TB ∧ Cond.code yX9_readLine cX9_readLine 2 (some .boolean) ∈ jd_TB ∧ jd_ds yX9_readLine 1 := ⟨jd_mem 555 (by decide +kernel) (by decide +kernel), jd_mem 1 (by decide +kernel) (by decide +kernel), jd_mem 94 (by decide +kernel) (by decide +kernel), jd_mem 556 (by decide +kernel) (by decide +kernel), ⟨by decide, by decide, by decide +kernel⟩⟩
theorem lX9_75 : jd_mv RX9 75 9 16 yX9_readLine cX9_readLine 2 (some .boolean) 1 := ⟨_, _, rfl, by decide, rfl, Or.inl (jd_mem 553 (by decide +kernel) (by decide +kernel)), qX9_readLine.1, qX9_readLine.2.1, qX9_readLine.2.2.1, qX9_readLine.2.2.2.1, qX9_readLine.2.2.2.2, by decide⟩
theorem qX9_read : Cond.instanceMethod yX9_read ∈ jd_TB ∧ Cond.selects RX9 yX9_read yX9_read ∈ jd_TB ∧ Cond.initialized RX9 ∈ jd_TB ∧ Cond.code yX9_read cX9_read 4 (some .boolean) ∈ jd_TB ∧ jd_ds yX9_read 2 := ⟨jd_mem 543 (by decide +kernel) (by decide +kernel), jd_mem 544 (by decide +kernel) (by decide +kernel), jd_mem 94 (by decide +kernel) (by decide +kernel), jd_mem 545 (by decide +kernel) (by decide +kernel), ⟨by decide, by decide, by decide +kernel⟩⟩
theorem lX11_108 : jd_mv RX11 108 9 16 yX9_read cX9_read 4 (some .boolean) 2 := ⟨_, _, rfl, by decide, rfl, Or.inl (jd_mem 542 (by decide +kernel) (by decide +kernel)), qX9_read.1, qX9_read.2.1, qX9_read.2.2.1, qX9_read.2.2.2.1, qX9_read.2.2.2.2, by decide⟩
theorem qX6_begin : Cond.instanceMethod yX6_begin ∈ jd_TB ∧ Cond.selects RX6 yX6_begin yX6_begin ∈ jd_TB ∧ Cond.initialized RX6 ∈ jd_TB ∧ Cond.code yX6_begin cX6_begin 2 none ∈ jd_TB ∧ jd_ds yX6_begin 1 := ⟨jd_mem 701 (by decide +kernel) (by decide +kernel), jd_mem 702 (by decide +kernel) (by decide +kernel), jd_mem 95 (by decide +kernel) (by decide +kernel), jd_mem 703 (by decide +kernel) (by decide +kernel), ⟨by decide, by decide, by decide +kernel⟩⟩
theorem lX11_115 : jd_mv RX11 115 6 8 yX6_begin cX6_begin 2 none 1 := ⟨_, _, rfl, by decide, rfl, Or.inl (jd_mem 700 (by decide +kernel) (by decide +kernel)), qX6_begin.1, qX6_begin.2.1, qX6_begin.2.2.1, qX6_begin.2.2.2.1, qX6_begin.2.2.2.2, by decide⟩
theorem qX2_forget : Cond.instanceMethod yX2_forget ∈ jd_TB ∧ Cond.selects RX2 yX2_forget yX2_forget ∈ jd_TB ∧ Cond.initialized RX2 ∈ jd_TB ∧ Cond.code yX2_forget cX2_forget 1 none ∈ jd_TB ∧ jd_ds yX2_forget 0 := ⟨jd_mem 746 (by decide +kernel) (by decide +kernel), jd_mem 747 (by decide +kernel) (by decide +kernel), jd_mem 98 (by decide +kernel) (by decide +kernel), jd_mem 748 (by decide +kernel) (by decide +kernel), ⟨by decide, by decide, by decide +kernel⟩⟩
theorem lX11_119 : jd_mv RX11 119 2 5 yX2_forget cX2_forget 1 none 0 := ⟨_, _, rfl, by decide, rfl, Or.inl (jd_mem 745 (by decide +kernel) (by decide +kernel)), qX2_forget.1, qX2_forget.2.1, qX2_forget.2.2.1, qX2_forget.2.2.2.1, qX2_forget.2.2.2.2, by decide⟩
theorem qX7_weigh : Cond.instanceMethod yX7_weigh ∈ jd_TB ∧ Cond.selects RX7 yX7_weigh yX7_weigh ∈ jd_TB ∧ Cond.initialized RX7 ∈ jd_TB ∧ Cond.code yX7_weigh cX7_weigh 3 none ∈ jd_TB ∧ jd_ds yX7_weigh 1 := ⟨jd_mem 750 (by decide +kernel) (by decide +kernel), jd_mem 751 (by decide +kernel) (by decide +kernel), jd_mem 101 (by decide +kernel) (by decide +kernel), jd_mem 752 (by decide +kernel) (by decide +kernel), ⟨by decide, by decide, by decide +kernel⟩⟩
theorem lX11_122 : jd_mv RX11 122 7 3 yX7_weigh cX7_weigh 3 none 1 := ⟨_, _, rfl, by decide, rfl, Or.inl (jd_mem 749 (by decide +kernel) (by decide +kernel)), qX7_weigh.1, qX7_weigh.2.1, qX7_weigh.2.2.1, qX7_weigh.2.2.2.1, qX7_weigh.2.2.2.2, by decide⟩
theorem lX13_68 : jd_sl_ok RX13 68 := jd_mem 1502 (by decide +kernel) (by decide +kernel)
theorem lX13_76 : jd_sc_ok RX13 76 := jd_mem 1503 (by decide +kernel) (by decide +kernel)
theorem qX13_packed : Cond.static yX13_packed ∈ jd_TB ∧ Cond.initialized yX13_packed.cls ∈ jd_TB ∧ Cond.code yX13_packed cX13_packed 4 (some .long) ∈ jd_TB ∧ jd_ds yX13_packed 1 := ⟨jd_mem 1500 (by decide +kernel) (by decide +kernel), jd_mem 104 (by decide +kernel) (by decide +kernel), jd_mem 1501 (by decide +kernel) (by decide +kernel), ⟨by decide, by decide, by decide +kernel⟩⟩
theorem lX13_112 : jd_st RX13 112 yX13_packed cX13_packed 4 (some .long) 1 := ⟨Or.inl (jd_mem 1499 (by decide +kernel) (by decide +kernel)), qX13_packed.1, qX13_packed.2.1, qX13_packed.2.2.1, qX13_packed.2.2.2, by decide⟩
theorem qX13_isWord : Cond.instanceMethod yX13_isWord ∈ jd_TB ∧ Cond.selects RX13 yX13_isWord yX13_isWord ∈ jd_TB ∧ Cond.initialized RX13 ∈ jd_TB ∧ Cond.code yX13_isWord cX13_isWord 2 (some .boolean) ∈ jd_TB ∧ jd_ds yX13_isWord 1 := ⟨jd_mem 1497 (by decide +kernel) (by decide +kernel), jd_mem 39 (by decide +kernel) (by decide +kernel), jd_mem 104 (by decide +kernel) (by decide +kernel), jd_mem 1498 (by decide +kernel) (by decide +kernel), ⟨by decide, by decide, by decide +kernel⟩⟩
theorem lX13_119 : jd_mv RX13 119 13 29 yX13_isWord cX13_isWord 2 (some .boolean) 1 := ⟨_, _, rfl, by decide, rfl, Or.inl (jd_mem 1495 (by decide +kernel) (by decide +kernel)), qX13_isWord.1, qX13_isWord.2.1, qX13_isWord.2.2.1, qX13_isWord.2.2.2.1, qX13_isWord.2.2.2.2, by decide⟩
theorem qX13_needs : Cond.instanceMethod yX13_needs ∈ jd_TB ∧ Cond.selects RX13 yX13_needs yX13_needs ∈ jd_TB ∧ Cond.initialized RX13 ∈ jd_TB ∧ Cond.code yX13_needs cX13_needs 2 none ∈ jd_TB ∧ jd_ds yX13_needs 1 := ⟨jd_mem 1519 (by decide +kernel) (by decide +kernel), jd_mem 43 (by decide +kernel) (by decide +kernel), jd_mem 104 (by decide +kernel) (by decide +kernel), jd_mem 1520 (by decide +kernel) (by decide +kernel), ⟨by decide, by decide, by decide +kernel⟩⟩
theorem lX13_127 : jd_mv RX13 127 13 29 yX13_needs cX13_needs 2 none 1 := ⟨_, _, rfl, by decide, rfl, Or.inl (jd_mem 1517 (by decide +kernel) (by decide +kernel)), qX13_needs.1, qX13_needs.2.1, qX13_needs.2.2.1, qX13_needs.2.2.2.1, qX13_needs.2.2.2.2, by decide⟩
theorem dX9_readLine_0 : decode cX9_readLine 0 = .ok (.aload_n 0, 1) := by decide +kernel
theorem dX9_readLine_1 : decode cX9_readLine 1 = .ok (.invokevirtual 79, 3) := by decide +kernel
theorem dX9_readLine_4 : decode cX9_readLine 4 = .ok (.aload_n 0, 1) := by decide +kernel
theorem dX9_readLine_5 : decode cX9_readLine 5 = .ok (.invokevirtual 89, 3) := by decide +kernel
theorem dX9_readLine_8 : decode cX9_readLine 8 = .ok (.ifCond .ne 9, 3) := by decide +kernel
theorem dX9_readLine_11 : decode cX9_readLine 11 = .ok (.aload_n 0, 1) := by decide +kernel
theorem dX9_readLine_12 : decode cX9_readLine 12 = .ok (.iconst 1, 1) := by decide +kernel
theorem dX9_readLine_13 : decode cX9_readLine 13 = .ok (.invokevirtual 85, 3) := by decide +kernel
theorem dX9_readLine_16 : decode cX9_readLine 16 = .ok (.ireturn, 1) := by decide +kernel
theorem dX9_readLine_17 : decode cX9_readLine 17 = .ok (.aload_n 0, 1) := by decide +kernel
theorem dX9_readLine_18 : decode cX9_readLine 18 = .ok (.ldc 93, 2) := by decide +kernel
theorem dX9_readLine_20 : decode cX9_readLine 20 = .ok (.invokevirtual 95, 3) := by decide +kernel
theorem dX9_readLine_23 : decode cX9_readLine 23 = .ok (.ifCond .eq 24, 3) := by decide +kernel
theorem dX9_readLine_26 : decode cX9_readLine 26 = .ok (.aload_n 0, 1) := by decide +kernel
theorem dX9_readLine_27 : decode cX9_readLine 27 = .ok (.getfield 50, 3) := by decide +kernel
theorem dX9_readLine_30 : decode cX9_readLine 30 = .ok (.ifCond .eq 11, 3) := by decide +kernel
theorem dX9_readLine_33 : decode cX9_readLine 33 = .ok (.aload_n 0, 1) := by decide +kernel
theorem dX9_readLine_34 : decode cX9_readLine 34 = .ok (.iconst 3, 1) := by decide +kernel
theorem dX9_readLine_35 : decode cX9_readLine 35 = .ok (.invokevirtual 85, 3) := by decide +kernel
theorem dX9_readLine_38 : decode cX9_readLine 38 = .ok (.goto 8, 3) := by decide +kernel
theorem dX9_readLine_41 : decode cX9_readLine 41 = .ok (.aload_n 0, 1) := by decide +kernel
theorem dX9_readLine_42 : decode cX9_readLine 42 = .ok (.aload_n 1, 1) := by decide +kernel
theorem dX9_readLine_43 : decode cX9_readLine 43 = .ok (.invokevirtual 99, 3) := by decide +kernel
theorem dX9_readLine_46 : decode cX9_readLine 46 = .ok (.ireturn, 1) := by decide +kernel
theorem dX9_readLine_47 : decode cX9_readLine 47 = .ok (.aload_n 0, 1) := by decide +kernel
theorem dX9_readLine_48 : decode cX9_readLine 48 = .ok (.getfield 50, 3) := by decide +kernel
theorem dX9_readLine_51 : decode cX9_readLine 51 = .ok (.ifCond .ne 10, 3) := by decide +kernel
theorem dX9_readLine_54 : decode cX9_readLine 54 = .ok (.aload_n 0, 1) := by decide +kernel
theorem dX9_readLine_55 : decode cX9_readLine 55 = .ok (.bipush 6, 2) := by decide +kernel
theorem dX9_readLine_57 : decode cX9_readLine 57 = .ok (.invokevirtual 85, 3) := by decide +kernel
theorem dX9_readLine_60 : decode cX9_readLine 60 = .ok (.ireturn, 1) := by decide +kernel
theorem dX9_readLine_61 : decode cX9_readLine 61 = .ok (.aload_n 0, 1) := by decide +kernel
theorem dX9_readLine_62 : decode cX9_readLine 62 = .ok (.ldc 102, 2) := by decide +kernel
theorem dX9_readLine_64 : decode cX9_readLine 64 = .ok (.invokevirtual 95, 3) := by decide +kernel
theorem dX9_readLine_67 : decode cX9_readLine 67 = .ok (.ifCond .eq 9, 3) := by decide +kernel
theorem dX9_readLine_70 : decode cX9_readLine 70 = .ok (.aload_n 0, 1) := by decide +kernel
theorem dX9_readLine_71 : decode cX9_readLine 71 = .ok (.aload_n 1, 1) := by decide +kernel
theorem dX9_readLine_72 : decode cX9_readLine 72 = .ok (.invokevirtual 104, 3) := by decide +kernel
theorem dX9_readLine_75 : decode cX9_readLine 75 = .ok (.ireturn, 1) := by decide +kernel
theorem dX9_readLine_76 : decode cX9_readLine 76 = .ok (.aload_n 0, 1) := by decide +kernel
theorem dX9_readLine_77 : decode cX9_readLine 77 = .ok (.ldc 107, 2) := by decide +kernel
theorem dX9_readLine_79 : decode cX9_readLine 79 = .ok (.invokevirtual 95, 3) := by decide +kernel
theorem dX9_readLine_82 : decode cX9_readLine 82 = .ok (.ifCond .eq 9, 3) := by decide +kernel
theorem dX9_readLine_85 : decode cX9_readLine 85 = .ok (.aload_n 0, 1) := by decide +kernel
theorem dX9_readLine_86 : decode cX9_readLine 86 = .ok (.aload_n 1, 1) := by decide +kernel
theorem dX9_readLine_87 : decode cX9_readLine 87 = .ok (.invokevirtual 109, 3) := by decide +kernel
theorem dX9_readLine_90 : decode cX9_readLine 90 = .ok (.ireturn, 1) := by decide +kernel
theorem dX9_readLine_91 : decode cX9_readLine 91 = .ok (.aload_n 0, 1) := by decide +kernel
theorem dX9_readLine_92 : decode cX9_readLine 92 = .ok (.ldc 112, 2) := by decide +kernel
theorem dX9_readLine_94 : decode cX9_readLine 94 = .ok (.invokevirtual 95, 3) := by decide +kernel
theorem dX9_readLine_97 : decode cX9_readLine 97 = .ok (.ifCond .eq 9, 3) := by decide +kernel
theorem dX9_readLine_100 : decode cX9_readLine 100 = .ok (.aload_n 0, 1) := by decide +kernel
theorem dX9_readLine_101 : decode cX9_readLine 101 = .ok (.aload_n 1, 1) := by decide +kernel
theorem dX9_readLine_102 : decode cX9_readLine 102 = .ok (.invokevirtual 114, 3) := by decide +kernel
theorem dX9_readLine_105 : decode cX9_readLine 105 = .ok (.ireturn, 1) := by decide +kernel
theorem dX9_readLine_106 : decode cX9_readLine 106 = .ok (.aload_n 0, 1) := by decide +kernel
theorem dX9_readLine_107 : decode cX9_readLine 107 = .ok (.ldc 117, 2) := by decide +kernel
theorem dX9_readLine_109 : decode cX9_readLine 109 = .ok (.invokevirtual 95, 3) := by decide +kernel
theorem dX9_readLine_112 : decode cX9_readLine 112 = .ok (.ifCond .eq 9, 3) := by decide +kernel
theorem dX9_readLine_115 : decode cX9_readLine 115 = .ok (.aload_n 0, 1) := by decide +kernel
theorem dX9_readLine_116 : decode cX9_readLine 116 = .ok (.aload_n 1, 1) := by decide +kernel
theorem dX9_readLine_117 : decode cX9_readLine 117 = .ok (.invokevirtual 119, 3) := by decide +kernel
theorem dX9_readLine_120 : decode cX9_readLine 120 = .ok (.ireturn, 1) := by decide +kernel
theorem dX9_readLine_121 : decode cX9_readLine 121 = .ok (.aload_n 0, 1) := by decide +kernel
theorem dX9_readLine_122 : decode cX9_readLine 122 = .ok (.aload_n 1, 1) := by decide +kernel
theorem dX9_readLine_123 : decode cX9_readLine 123 = .ok (.aload_n 0, 1) := by decide +kernel
theorem dX9_readLine_124 : decode cX9_readLine 124 = .ok (.ldc 122, 2) := by decide +kernel
theorem dX9_readLine_126 : decode cX9_readLine 126 = .ok (.invokevirtual 95, 3) := by decide +kernel
theorem dX9_readLine_129 : decode cX9_readLine 129 = .ok (.ifCond .eq 7, 3) := by decide +kernel
theorem dX9_readLine_132 : decode cX9_readLine 132 = .ok (.iconst 1, 1) := by decide +kernel
theorem dX9_readLine_133 : decode cX9_readLine 133 = .ok (.goto 4, 3) := by decide +kernel
theorem dX9_readLine_136 : decode cX9_readLine 136 = .ok (.iconst 2, 1) := by decide +kernel
theorem dX9_readLine_137 : decode cX9_readLine 137 = .ok (.invokevirtual 124, 3) := by decide +kernel
theorem dX9_readLine_140 : decode cX9_readLine 140 = .ok (.ireturn, 1) := by decide +kernel
theorem dX9_read_0 : decode cX9_read 0 = .ok (.aload_n 0, 1) := by decide +kernel
theorem dX9_read_1 : decode cX9_read 1 = .ok (.iload_n 1, 1) := by decide +kernel
theorem dX9_read_2 : decode cX9_read 2 = .ok (.aload_n 0, 1) := by decide +kernel
theorem dX9_read_3 : decode cX9_read 3 = .ok (.getfield 60, 3) := by decide +kernel
theorem dX9_read_6 : decode cX9_read 6 = .ok (.arraylength, 1) := by decide +kernel
theorem dX9_read_7 : decode cX9_read 7 = .ok (.invokestatic 64, 3) := by decide +kernel
theorem dX9_read_10 : decode cX9_read 10 = .ok (.putfield 29, 3) := by decide +kernel
theorem dX9_read_13 : decode cX9_read 13 = .ok (.aload_n 0, 1) := by decide +kernel
theorem dX9_read_14 : decode cX9_read 14 = .ok (.iconst 0, 1) := by decide +kernel
theorem dX9_read_15 : decode cX9_read 15 = .ok (.putfield 32, 3) := by decide +kernel
theorem dX9_read_18 : decode cX9_read 18 = .ok (.aload_n 0, 1) := by decide +kernel
theorem dX9_read_19 : decode cX9_read 19 = .ok (.iconst 0, 1) := by decide +kernel
theorem dX9_read_20 : decode cX9_read 20 = .ok (.putfield 25, 3) := by decide +kernel
theorem dX9_read_23 : decode cX9_read 23 = .ok (.aload_n 0, 1) := by decide +kernel
theorem dX9_read_24 : decode cX9_read 24 = .ok (.iconst 0, 1) := by decide +kernel
theorem dX9_read_25 : decode cX9_read 25 = .ok (.putfield 50, 3) := by decide +kernel
theorem dX9_read_28 : decode cX9_read 28 = .ok (.aload_n 0, 1) := by decide +kernel
theorem dX9_read_29 : decode cX9_read 29 = .ok (.iconst 0, 1) := by decide +kernel
theorem dX9_read_30 : decode cX9_read 30 = .ok (.putfield 54, 3) := by decide +kernel
theorem dX9_read_33 : decode cX9_read 33 = .ok (.aload_n 0, 1) := by decide +kernel
theorem dX9_read_34 : decode cX9_read 34 = .ok (.iconst (-1), 1) := by decide +kernel
theorem dX9_read_35 : decode cX9_read 35 = .ok (.putfield 57, 3) := by decide +kernel
theorem dX9_read_38 : decode cX9_read 38 = .ok (.aload_n 2, 1) := by decide +kernel
theorem dX9_read_39 : decode cX9_read 39 = .ok (.invokevirtual 70, 3) := by decide +kernel
theorem dX9_read_42 : decode cX9_read 42 = .ok (.iconst 0, 1) := by decide +kernel
theorem dX9_read_43 : decode cX9_read 43 = .ok (.istore_n 3, 1) := by decide +kernel
theorem dX9_read_44 : decode cX9_read 44 = .ok (.iload_n 3, 1) := by decide +kernel
theorem dX9_read_45 : decode cX9_read 45 = .ok (.aload_n 0, 1) := by decide +kernel
theorem dX9_read_46 : decode cX9_read 46 = .ok (.getfield 29, 3) := by decide +kernel
theorem dX9_read_49 : decode cX9_read 49 = .ok (.if_icmp .gt 66, 3) := by decide +kernel
theorem dX9_read_52 : decode cX9_read 52 = .ok (.aload_n 0, 1) := by decide +kernel
theorem dX9_read_53 : decode cX9_read 53 = .ok (.aload_n 2, 1) := by decide +kernel
theorem dX9_read_54 : decode cX9_read 54 = .ok (.invokevirtual 75, 3) := by decide +kernel
theorem dX9_read_57 : decode cX9_read 57 = .ok (.ifCond .ne 5, 3) := by decide +kernel
theorem dX9_read_60 : decode cX9_read 60 = .ok (.iconst 0, 1) := by decide +kernel
theorem dX9_read_61 : decode cX9_read 61 = .ok (.ireturn, 1) := by decide +kernel
theorem dX9_read_62 : decode cX9_read 62 = .ok (.aload_n 0, 1) := by decide +kernel
theorem dX9_read_63 : decode cX9_read 63 = .ok (.invokevirtual 79, 3) := by decide +kernel
theorem dX9_read_66 : decode cX9_read 66 = .ok (.aload_n 0, 1) := by decide +kernel
theorem dX9_read_67 : decode cX9_read 67 = .ok (.getfield 35, 3) := by decide +kernel
theorem dX9_read_70 : decode cX9_read 70 = .ok (.ifCond .ne 25, 3) := by decide +kernel
theorem dX9_read_73 : decode cX9_read 73 = .ok (.aload_n 2, 1) := by decide +kernel
theorem dX9_read_74 : decode cX9_read 74 = .ok (.getfield 82, 3) := by decide +kernel
theorem dX9_read_77 : decode cX9_read 77 = .ok (.ifCond .gt 12, 3) := by decide +kernel
theorem dX9_read_80 : decode cX9_read 80 = .ok (.aload_n 0, 1) := by decide +kernel
theorem dX9_read_81 : decode cX9_read 81 = .ok (.bipush 6, 2) := by decide +kernel
theorem dX9_read_83 : decode cX9_read 83 = .ok (.invokevirtual 85, 3) := by decide +kernel
theorem dX9_read_86 : decode cX9_read 86 = .ok (.ifCond .eq 7, 3) := by decide +kernel
theorem dX9_read_89 : decode cX9_read 89 = .ok (.iconst 1, 1) := by decide +kernel
theorem dX9_read_90 : decode cX9_read 90 = .ok (.goto 4, 3) := by decide +kernel
theorem dX9_read_93 : decode cX9_read 93 = .ok (.iconst 0, 1) := by decide +kernel
theorem dX9_read_94 : decode cX9_read 94 = .ok (.ireturn, 1) := by decide +kernel
theorem dX9_read_95 : decode cX9_read 95 = .ok (.aload_n 0, 1) := by decide +kernel
theorem dX9_read_96 : decode cX9_read 96 = .ok (.getfield 35, 3) := by decide +kernel
theorem dX9_read_99 : decode cX9_read 99 = .ok (.iconst 3, 1) := by decide +kernel
theorem dX9_read_100 : decode cX9_read 100 = .ok (.if_icmp .eq 9, 3) := by decide +kernel
theorem dX9_read_103 : decode cX9_read 103 = .ok (.aload_n 0, 1) := by decide +kernel
theorem dX9_read_104 : decode cX9_read 104 = .ok (.iconst 1, 1) := by decide +kernel
theorem dX9_read_105 : decode cX9_read 105 = .ok (.invokevirtual 85, 3) := by decide +kernel
theorem dX9_read_108 : decode cX9_read 108 = .ok (.ireturn, 1) := by decide +kernel
theorem dX9_read_109 : decode cX9_read 109 = .ok (.iinc 3 1, 3) := by decide +kernel
theorem dX9_read_112 : decode cX9_read 112 = .ok (.goto (-68), 3) := by decide +kernel
theorem dX9_read_115 : decode cX9_read 115 = .ok (.aload_n 0, 1) := by decide +kernel
theorem dX9_read_116 : decode cX9_read 116 = .ok (.iconst 1, 1) := by decide +kernel
theorem dX9_read_117 : decode cX9_read 117 = .ok (.invokevirtual 85, 3) := by decide +kernel
theorem dX9_read_120 : decode cX9_read 120 = .ok (.ireturn, 1) := by decide +kernel
theorem dX11_beach_0 : decode cX11_beach 0 = .ok (.iload_n 1, 1) := by decide +kernel
theorem dX11_beach_1 : decode cX11_beach 1 = .ok (.ifCond .lt 14, 3) := by decide +kernel
theorem dX11_beach_4 : decode cX11_beach 4 = .ok (.iload_n 1, 1) := by decide +kernel
theorem dX11_beach_5 : decode cX11_beach 5 = .ok (.aload_n 0, 1) := by decide +kernel
theorem dX11_beach_6 : decode cX11_beach 6 = .ok (.getfield 10, 3) := by decide +kernel
theorem dX11_beach_9 : decode cX11_beach 9 = .ok (.getfield 101, 3) := by decide +kernel
theorem dX11_beach_12 : decode cX11_beach 12 = .ok (.if_icmp .le 9, 3) := by decide +kernel
theorem dX11_beach_15 : decode cX11_beach 15 = .ok (.aload_n 0, 1) := by decide +kernel
theorem dX11_beach_16 : decode cX11_beach 16 = .ok (.iconst 2, 1) := by decide +kernel
theorem dX11_beach_17 : decode cX11_beach 17 = .ok (.invokevirtual 104, 3) := by decide +kernel
theorem dX11_beach_20 : decode cX11_beach 20 = .ok (.ireturn, 1) := by decide +kernel
theorem dX11_beach_21 : decode cX11_beach 21 = .ok (.aload_n 0, 1) := by decide +kernel
theorem dX11_beach_22 : decode cX11_beach 22 = .ok (.getfield 25, 3) := by decide +kernel
theorem dX11_beach_25 : decode cX11_beach 25 = .ok (.iload_n 1, 1) := by decide +kernel
theorem dX11_beach_26 : decode cX11_beach 26 = .ok (.aload_n 0, 1) := by decide +kernel
theorem dX11_beach_27 : decode cX11_beach 27 = .ok (.getfield 81, 3) := by decide +kernel
theorem dX11_beach_30 : decode cX11_beach 30 = .ok (.invokevirtual 108, 3) := by decide +kernel
theorem dX11_beach_33 : decode cX11_beach 33 = .ok (.istore_n 2, 1) := by decide +kernel
theorem dX11_beach_34 : decode cX11_beach 34 = .ok (.aload_n 0, 1) := by decide +kernel
theorem dX11_beach_35 : decode cX11_beach 35 = .ok (.getfield 10, 3) := by decide +kernel
theorem dX11_beach_38 : decode cX11_beach 38 = .ok (.iconst 0, 1) := by decide +kernel
theorem dX11_beach_39 : decode cX11_beach 39 = .ok (.putfield 101, 3) := by decide +kernel
theorem dX11_beach_42 : decode cX11_beach 42 = .ok (.iload_n 2, 1) := by decide +kernel
theorem dX11_beach_43 : decode cX11_beach 43 = .ok (.ifCond .ne 9, 3) := by decide +kernel
theorem dX11_beach_46 : decode cX11_beach 46 = .ok (.aload_n 0, 1) := by decide +kernel
theorem dX11_beach_47 : decode cX11_beach 47 = .ok (.iconst 4, 1) := by decide +kernel
theorem dX11_beach_48 : decode cX11_beach 48 = .ok (.invokevirtual 104, 3) := by decide +kernel
theorem dX11_beach_51 : decode cX11_beach 51 = .ok (.ireturn, 1) := by decide +kernel
theorem dX11_beach_52 : decode cX11_beach 52 = .ok (.aload_n 0, 1) := by decide +kernel
theorem dX11_beach_53 : decode cX11_beach 53 = .ok (.getfield 32, 3) := by decide +kernel
theorem dX11_beach_56 : decode cX11_beach 56 = .ok (.getfield 112, 3) := by decide +kernel
theorem dX11_beach_59 : decode cX11_beach 59 = .ok (.astore_n 3, 1) := by decide +kernel
theorem dX11_beach_60 : decode cX11_beach 60 = .ok (.aload_n 0, 1) := by decide +kernel
theorem dX11_beach_61 : decode cX11_beach 61 = .ok (.getfield 32, 3) := by decide +kernel
theorem dX11_beach_64 : decode cX11_beach 64 = .ok (.aload_n 0, 1) := by decide +kernel
theorem dX11_beach_65 : decode cX11_beach 65 = .ok (.getfield 81, 3) := by decide +kernel
theorem dX11_beach_68 : decode cX11_beach 68 = .ok (.invokevirtual 115, 3) := by decide +kernel
theorem dX11_beach_71 : decode cX11_beach 71 = .ok (.aload_n 0, 1) := by decide +kernel
theorem dX11_beach_72 : decode cX11_beach 72 = .ok (.aload_n 3, 1) := by decide +kernel
theorem dX11_beach_73 : decode cX11_beach 73 = .ok (.putfield 81, 3) := by decide +kernel
theorem dX11_beach_76 : decode cX11_beach 76 = .ok (.aload_n 0, 1) := by decide +kernel
theorem dX11_beach_77 : decode cX11_beach 77 = .ok (.getfield 39, 3) := by decide +kernel
theorem dX11_beach_80 : decode cX11_beach 80 = .ok (.invokevirtual 119, 3) := by decide +kernel
theorem dX11_beach_83 : decode cX11_beach 83 = .ok (.aload_n 0, 1) := by decide +kernel
theorem dX11_beach_84 : decode cX11_beach 84 = .ok (.getfield 60, 3) := by decide +kernel
theorem dX11_beach_87 : decode cX11_beach 87 = .ok (.aload_n 0, 1) := by decide +kernel
theorem dX11_beach_88 : decode cX11_beach 88 = .ok (.getfield 32, 3) := by decide +kernel
theorem dX11_beach_91 : decode cX11_beach 91 = .ok (.getfield 112, 3) := by decide +kernel
theorem dX11_beach_94 : decode cX11_beach 94 = .ok (.invokevirtual 122, 3) := by decide +kernel
theorem dX11_beach_97 : decode cX11_beach 97 = .ok (.aload_n 0, 1) := by decide +kernel
theorem dX11_beach_98 : decode cX11_beach 98 = .ok (.iconst 1, 1) := by decide +kernel
theorem dX11_beach_99 : decode cX11_beach 99 = .ok (.putfield 85, 3) := by decide +kernel
theorem dX11_beach_102 : decode cX11_beach 102 = .ok (.aload_n 0, 1) := by decide +kernel
theorem dX11_beach_103 : decode cX11_beach 103 = .ok (.aload_n 0, 1) := by decide +kernel
theorem dX11_beach_104 : decode cX11_beach 104 = .ok (.getfield 32, 3) := by decide +kernel
theorem dX11_beach_107 : decode cX11_beach 107 = .ok (.getfield 112, 3) := by decide +kernel
theorem dX11_beach_110 : decode cX11_beach 110 = .ok (.getfield 125, 3) := by decide +kernel
theorem dX11_beach_113 : decode cX11_beach 113 = .ok (.invokevirtual 128, 3) := by decide +kernel
theorem dX11_beach_116 : decode cX11_beach 116 = .ok (.ireturn, 1) := by decide +kernel
theorem dX13_packed_0 : decode cX13_packed 0 = .ok (.lconst 0, 1) := by decide +kernel
theorem dX13_packed_1 : decode cX13_packed 1 = .ok (.lstore_n 1, 1) := by decide +kernel
theorem dX13_packed_2 : decode cX13_packed 2 = .ok (.iconst 0, 1) := by decide +kernel
theorem dX13_packed_3 : decode cX13_packed 3 = .ok (.istore_n 3, 1) := by decide +kernel
theorem dX13_packed_4 : decode cX13_packed 4 = .ok (.iload_n 3, 1) := by decide +kernel
theorem dX13_packed_5 : decode cX13_packed 5 = .ok (.aload_n 0, 1) := by decide +kernel
theorem dX13_packed_6 : decode cX13_packed 6 = .ok (.invokevirtual 68, 3) := by decide +kernel
theorem dX13_packed_9 : decode cX13_packed 9 = .ok (.if_icmp .ge 27, 3) := by decide +kernel
theorem dX13_packed_12 : decode cX13_packed 12 = .ok (.ldc2_w 74, 3) := by decide +kernel
theorem dX13_packed_15 : decode cX13_packed 15 = .ok (.lload_n 1, 1) := by decide +kernel
theorem dX13_packed_16 : decode cX13_packed 16 = .ok (.lmul, 1) := by decide +kernel
theorem dX13_packed_17 : decode cX13_packed 17 = .ok (.aload_n 0, 1) := by decide +kernel
theorem dX13_packed_18 : decode cX13_packed 18 = .ok (.iload_n 3, 1) := by decide +kernel
theorem dX13_packed_19 : decode cX13_packed 19 = .ok (.invokevirtual 76, 3) := by decide +kernel
theorem dX13_packed_22 : decode cX13_packed 22 = .ok (.bipush 97, 2) := by decide +kernel
theorem dX13_packed_24 : decode cX13_packed 24 = .ok (.isub, 1) := by decide +kernel
theorem dX13_packed_25 : decode cX13_packed 25 = .ok (.iconst 1, 1) := by decide +kernel
theorem dX13_packed_26 : decode cX13_packed 26 = .ok (.iadd, 1) := by decide +kernel
theorem dX13_packed_27 : decode cX13_packed 27 = .ok (.i2l, 1) := by decide +kernel
theorem dX13_packed_28 : decode cX13_packed 28 = .ok (.ladd, 1) := by decide +kernel
theorem dX13_packed_29 : decode cX13_packed 29 = .ok (.lstore_n 1, 1) := by decide +kernel
theorem dX13_packed_30 : decode cX13_packed 30 = .ok (.iinc 3 1, 3) := by decide +kernel
theorem dX13_packed_33 : decode cX13_packed 33 = .ok (.goto (-29), 3) := by decide +kernel
theorem dX13_packed_36 : decode cX13_packed 36 = .ok (.lload_n 1, 1) := by decide +kernel
theorem dX13_packed_37 : decode cX13_packed 37 = .ok (.lreturn, 1) := by decide +kernel
theorem dX13_isWord_0 : decode cX13_isWord 0 = .ok (.aload_n 0, 1) := by decide +kernel
theorem dX13_isWord_1 : decode cX13_isWord 1 = .ok (.getfield 80, 3) := by decide +kernel
theorem dX13_isWord_4 : decode cX13_isWord 4 = .ok (.iconst 2, 1) := by decide +kernel
theorem dX13_isWord_5 : decode cX13_isWord 5 = .ok (.if_icmp .ne 19, 3) := by decide +kernel
theorem dX13_isWord_8 : decode cX13_isWord 8 = .ok (.aload_n 0, 1) := by decide +kernel
theorem dX13_isWord_9 : decode cX13_isWord 9 = .ok (.getfield 96, 3) := by decide +kernel
theorem dX13_isWord_12 : decode cX13_isWord 12 = .ok (.aload_n 1, 1) := by decide +kernel
theorem dX13_isWord_13 : decode cX13_isWord 13 = .ok (.invokestatic 112, 3) := by decide +kernel
theorem dX13_isWord_16 : decode cX13_isWord 16 = .ok (.lcmp, 1) := by decide +kernel
theorem dX13_isWord_17 : decode cX13_isWord 17 = .ok (.ifCond .ne 7, 3) := by decide +kernel
theorem dX13_isWord_20 : decode cX13_isWord 20 = .ok (.iconst 1, 1) := by decide +kernel
theorem dX13_isWord_21 : decode cX13_isWord 21 = .ok (.goto 4, 3) := by decide +kernel
theorem dX13_isWord_24 : decode cX13_isWord 24 = .ok (.iconst 0, 1) := by decide +kernel
theorem dX13_isWord_25 : decode cX13_isWord 25 = .ok (.ireturn, 1) := by decide +kernel
theorem dX13_needs_0 : decode cX13_needs 0 = .ok (.aload_n 0, 1) := by decide +kernel
theorem dX13_needs_1 : decode cX13_needs 1 = .ok (.aload_n 1, 1) := by decide +kernel
theorem dX13_needs_2 : decode cX13_needs 2 = .ok (.invokevirtual 119, 3) := by decide +kernel
theorem dX13_needs_5 : decode cX13_needs 5 = .ok (.ifCond .ne 8, 3) := by decide +kernel
theorem dX13_needs_8 : decode cX13_needs 8 = .ok (.aload_n 0, 1) := by decide +kernel
theorem dX13_needs_9 : decode cX13_needs 9 = .ok (.iconst 1, 1) := by decide +kernel
theorem dX13_needs_10 : decode cX13_needs 10 = .ok (.invokevirtual 123, 3) := by decide +kernel
theorem dX13_needs_13 : decode cX13_needs 13 = .ok (.aload_n 0, 1) := by decide +kernel
theorem dX13_needs_14 : decode cX13_needs 14 = .ok (.invokevirtual 116, 3) := by decide +kernel
theorem dX13_needs_17 : decode cX13_needs 17 = .ok (.return_, 1) := by decide +kernel
theorem dX13_readPart_0 : decode cX13_readPart 0 = .ok (.aload_n 0, 1) := by decide +kernel
theorem dX13_readPart_1 : decode cX13_readPart 1 = .ok (.aload_n 1, 1) := by decide +kernel
theorem dX13_readPart_2 : decode cX13_readPart 2 = .ok (.invokevirtual 127, 3) := by decide +kernel
theorem dX13_readPart_5 : decode cX13_readPart 5 = .ok (.aload_n 0, 1) := by decide +kernel
theorem dX13_readPart_6 : decode cX13_readPart 6 = .ok (.getfield 80, 3) := by decide +kernel
theorem dX13_readPart_9 : decode cX13_readPart 9 = .ok (.iconst 3, 1) := by decide +kernel
theorem dX13_readPart_10 : decode cX13_readPart 10 = .ok (.if_icmp .eq 11, 3) := by decide +kernel
theorem dX13_readPart_13 : decode cX13_readPart 13 = .ok (.aload_n 0, 1) := by decide +kernel
theorem dX13_readPart_14 : decode cX13_readPart 14 = .ok (.iconst 1, 1) := by decide +kernel
theorem dX13_readPart_15 : decode cX13_readPart 15 = .ok (.invokevirtual 123, 3) := by decide +kernel
theorem dX13_readPart_18 : decode cX13_readPart 18 = .ok (.goto 20, 3) := by decide +kernel
theorem dX13_readPart_21 : decode cX13_readPart 21 = .ok (.aload_n 0, 1) := by decide +kernel
theorem dX13_readPart_22 : decode cX13_readPart 22 = .ok (.getfield 103, 3) := by decide +kernel
theorem dX13_readPart_25 : decode cX13_readPart 25 = .ok (.iload_n 2, 1) := by decide +kernel
theorem dX13_readPart_26 : decode cX13_readPart 26 = .ok (.iload_n 3, 1) := by decide +kernel
theorem dX13_readPart_27 : decode cX13_readPart 27 = .ok (.invokestatic 131, 3) := by decide +kernel
theorem dX13_readPart_30 : decode cX13_readPart 30 = .ok (.ifCond .ne 8, 3) := by decide +kernel
theorem dX13_readPart_33 : decode cX13_readPart 33 = .ok (.aload_n 0, 1) := by decide +kernel
theorem dX13_readPart_34 : decode cX13_readPart 34 = .ok (.iconst 4, 1) := by decide +kernel
theorem dX13_readPart_35 : decode cX13_readPart 35 = .ok (.invokevirtual 123, 3) := by decide +kernel
theorem dX13_readPart_38 : decode cX13_readPart 38 = .ok (.aload_n 0, 1) := by decide +kernel
theorem dX13_readPart_39 : decode cX13_readPart 39 = .ok (.getfield 80, 3) := by decide +kernel
theorem dX13_readPart_42 : decode cX13_readPart 42 = .ok (.iconst 5, 1) := by decide +kernel
theorem dX13_readPart_43 : decode cX13_readPart 43 = .ok (.if_icmp .ne 7, 3) := by decide +kernel
theorem dX13_readPart_46 : decode cX13_readPart 46 = .ok (.iload_n 2, 1) := by decide +kernel
theorem dX13_readPart_47 : decode cX13_readPart 47 = .ok (.goto 7, 3) := by decide +kernel
theorem dX13_readPart_50 : decode cX13_readPart 50 = .ok (.aload_n 0, 1) := by decide +kernel
theorem dX13_readPart_51 : decode cX13_readPart 51 = .ok (.getfield 103, 3) := by decide +kernel
theorem dX13_readPart_54 : decode cX13_readPart 54 = .ok (.istore 4, 2) := by decide +kernel
theorem dX13_readPart_56 : decode cX13_readPart 56 = .ok (.aload_n 0, 1) := by decide +kernel
theorem dX13_readPart_57 : decode cX13_readPart 57 = .ok (.invokevirtual 116, 3) := by decide +kernel
theorem dX13_readPart_60 : decode cX13_readPart 60 = .ok (.iload 4, 2) := by decide +kernel
theorem dX13_readPart_62 : decode cX13_readPart 62 = .ok (.ireturn, 1) := by decide +kernel
def m_X9_readLine (t : Nat) (o0p : (Option Nat)) (σ : jd_Hp) : Option (Int32 × jd_Hp) :=
jd_b (m_X9_advance t σ) fun r1 σ1 =>
jd_b (m_X9_isLineWord t σ1) fun r2 σ2 =>
jd_if (¬ r2 = 0) (
jd_b (m_X9_isWord t (some 0) σ2) fun r3 σ3 =>
jd_if (r3 = 0) (
jd_if (¬ (σ3.2.1 t 13) = 0) (
jd_b (m_X9_isWord t (some 1) σ3) fun r4 σ4 =>
jd_if (r4 = 0) (
jd_b (m_X9_isWord t (some 2) σ4) fun r5 σ5 =>
jd_if (r5 = 0) (
jd_b (m_X9_isWord t (some 3) σ5) fun r6 σ6 =>
jd_if (r6 = 0) (
jd_b (m_X9_isWord t (some 4) σ6) fun r7 σ7 =>
jd_if (r7 = 0) (
jd_b (m_X9_isWord t (some 5) σ7) fun r8 σ8 =>
jd_if (r8 = 0) (
jd_b (m_X9_readSign t o0p 2 σ8) fun r9 σ9 =>
some ((r9 &&& 1), σ9)) (
jd_b (m_X9_readSign t o0p 1 σ8) fun r10 σ10 =>
some ((r10 &&& 1), σ10))) (
jd_b (m_X9_readKnows t o0p σ7) fun r11 σ11 =>
some ((r11 &&& 1), σ11))) (
jd_b (m_X9_readManned t o0p σ6) fun r12 σ12 =>
some ((r12 &&& 1), σ12))) (
jd_b (m_X9_readPost t o0p σ5) fun r13 σ13 =>
some ((r13 &&& 1), σ13))) (
jd_b (m_X9_readPerson t o0p σ4) fun r14 σ14 =>
some ((r14 &&& 1), σ14))) (
jd_b (m_X9_fail t 6 σ3) fun r15 σ15 =>
some ((r15 &&& 1), σ15))) (
jd_if ((σ3.2.1 t 13) = 0) (
jd_b (m_X9_readBeach t o0p σ3) fun r16 σ16 =>
some ((r16 &&& 1), σ16)) (
jd_b (m_X9_fail t 3 σ3) fun r17 σ17 =>
some ((r17 &&& 1), σ17)))) (
jd_b (m_X9_fail t 1 σ2) fun r18 σ18 =>
some ((r18 &&& 1), σ18))
set_option maxHeartbeats 4000000 in
set_option maxRecDepth 20000 in
theorem c_X9_readLine {l : Launch} {s0 : State} {G : jd_G} (hF : jd_F s0 G) (σ : jd_Hp) (t : Nat) (ht : σ.1[t]? = some (9, 16)) (o0p : (Option Nat)) : jd_M l s0 G yX9_readLine cX9_readLine 2 (some .boolean) 11 je_i [jd_v G (some t), jd_v G o0p] σ (m_X9_readLine t o0p σ) := by
  refine jd_enter hF (by decide) (fun G => [some (jd_v G (some t)), some (jd_v G o0p)]) rfl (by simp [lv_args, jd_al, jd_v_cat, jd_cti, jd_ctl]) (by simp [lg_sl, jd_v_cat, jd_cti, jd_ctl]) (fun X hD hX => ?_)
  have hX : jd_C X RX9 "readLine" cX9_readLine 2 (some .boolean) := hX
  unfold m_X9_readLine
  refine jr_ald0 (pc := 0) hX dX9_readLine_0 ?_
  refine jr_cV0v (pc := 1) hX lX9_79 (c_X9_advance hX.F σ t ht) (jd_dd hD rfl) (Nat.le_of_ble_eq_true rfl) dX9_readLine_1 ht (fun r1 σ1 p1 => ?_)
  refine jr_ald0 (pc := 4) hX dX9_readLine_4 ?_
  refine jr_cV0i (pc := 5) hX lX9_89 (c_X9_isLineWord hX.F σ1 t (p1.at ht :)) (jd_dd hD rfl) (Nat.le_of_ble_eq_true rfl) dX9_readLine_5 (p1.at ht :) (fun r2 σ2 p2 => ?_)
  refine jr_ifne (pc := 8) hX 17 dX9_readLine_8 (by decide) ?_ ?_
  · refine jr_ald0 (pc := 17) hX dX9_readLine_17 ?_
    refine jr_ldcS (pc := 18) hX sX9_93 dX9_readLine_18 ?_
    refine jr_cV1i (pc := 20) hX lX9_95 (c_X9_isWord hX.F σ2 t (p2.at (p1.at ht :) :) _) (jd_dd hD rfl) (Nat.le_of_ble_eq_true rfl) dX9_readLine_20 (p2.at (p1.at ht :) :) (fun r3 σ3 p3 => ?_)
    refine jr_ifeq (pc := 23) hX 47 dX9_readLine_23 (by decide) ?_ ?_
    · refine jr_ald0 (pc := 47) hX dX9_readLine_47 ?_
      refine jr_geti (pc := 48) hX fX9_50 rfl dX9_readLine_48 (p3.at (p2.at (p1.at ht :) :) :) ?_
      refine jr_ifne (pc := 51) hX 61 dX9_readLine_51 (by decide) ?_ ?_
      · refine jr_ald0 (pc := 61) hX dX9_readLine_61 ?_
        refine jr_ldcS (pc := 62) hX sX9_102 dX9_readLine_62 ?_
        refine jr_cV1i (pc := 64) hX lX9_95 (c_X9_isWord hX.F σ3 t (p3.at (p2.at (p1.at ht :) :) :) _) (jd_dd hD rfl) (Nat.le_of_ble_eq_true rfl) dX9_readLine_64 (p3.at (p2.at (p1.at ht :) :) :) (fun r4 σ4 p4 => ?_)
        refine jr_ifeq (pc := 67) hX 76 dX9_readLine_67 (by decide) ?_ ?_
        · refine jr_ald0 (pc := 76) hX dX9_readLine_76 ?_
          refine jr_ldcS (pc := 77) hX sX9_107 dX9_readLine_77 ?_
          refine jr_cV1i (pc := 79) hX lX9_95 (c_X9_isWord hX.F σ4 t (p4.at (p3.at (p2.at (p1.at ht :) :) :) :) _) (jd_dd hD rfl) (Nat.le_of_ble_eq_true rfl) dX9_readLine_79 (p4.at (p3.at (p2.at (p1.at ht :) :) :) :) (fun r5 σ5 p5 => ?_)
          refine jr_ifeq (pc := 82) hX 91 dX9_readLine_82 (by decide) ?_ ?_
          · refine jr_ald0 (pc := 91) hX dX9_readLine_91 ?_
            refine jr_ldcS (pc := 92) hX sX9_112 dX9_readLine_92 ?_
            refine jr_cV1i (pc := 94) hX lX9_95 (c_X9_isWord hX.F σ5 t (p5.at (p4.at (p3.at (p2.at (p1.at ht :) :) :) :) :) _) (jd_dd hD rfl) (Nat.le_of_ble_eq_true rfl) dX9_readLine_94 (p5.at (p4.at (p3.at (p2.at (p1.at ht :) :) :) :) :) (fun r6 σ6 p6 => ?_)
            refine jr_ifeq (pc := 97) hX 106 dX9_readLine_97 (by decide) ?_ ?_
            · refine jr_ald0 (pc := 106) hX dX9_readLine_106 ?_
              refine jr_ldcS (pc := 107) hX sX9_117 dX9_readLine_107 ?_
              refine jr_cV1i (pc := 109) hX lX9_95 (c_X9_isWord hX.F σ6 t (p6.at (p5.at (p4.at (p3.at (p2.at (p1.at ht :) :) :) :) :) :) _) (jd_dd hD rfl) (Nat.le_of_ble_eq_true rfl) dX9_readLine_109 (p6.at (p5.at (p4.at (p3.at (p2.at (p1.at ht :) :) :) :) :) :) (fun r7 σ7 p7 => ?_)
              refine jr_ifeq (pc := 112) hX 121 dX9_readLine_112 (by decide) ?_ ?_
              · refine jr_ald0 (pc := 121) hX dX9_readLine_121 ?_
                refine jr_ald1 (pc := 122) hX dX9_readLine_122 ?_
                refine jr_ald0 (pc := 123) hX dX9_readLine_123 ?_
                refine jr_ldcS (pc := 124) hX sX9_122 dX9_readLine_124 ?_
                refine jr_cV1i (pc := 126) hX lX9_95 (c_X9_isWord hX.F σ7 t (p7.at (p6.at (p5.at (p4.at (p3.at (p2.at (p1.at ht :) :) :) :) :) :) :) _) (jd_dd hD rfl) (by simp [jd_v_cat, jd_cti, jd_ctl]) dX9_readLine_126 (p7.at (p6.at (p5.at (p4.at (p3.at (p2.at (p1.at ht :) :) :) :) :) :) :) (fun r8 σ8 p8 => ?_)
                refine jr_ifeq (pc := 129) hX 136 dX9_readLine_129 (by decide) ?_ ?_
                · refine jr_iconst (pc := 136) hX 2 rfl dX9_readLine_136 ?_
                  refine jr_cV2i (pc := 137) hX lX9_124 (c_X9_readSign hX.F σ8 t (p8.at (p7.at (p6.at (p5.at (p4.at (p3.at (p2.at (p1.at ht :) :) :) :) :) :) :) :) _ _) (jd_dd hD rfl) (Nat.le_of_ble_eq_true rfl) dX9_readLine_137 (p8.at (p7.at (p6.at (p5.at (p4.at (p3.at (p2.at (p1.at ht :) :) :) :) :) :) :) :) (fun r9 σ9 p9 => ?_)
                  exact jr_bret (pc := 140) hX dX9_readLine_140 rfl
                · refine jr_iconst (pc := 132) hX 1 rfl dX9_readLine_132 ?_
                  refine jr_goto (pc := 133) hX 137 dX9_readLine_133 (by decide) ?_
                  refine jr_cV2i (pc := 137) hX lX9_124 (c_X9_readSign hX.F σ8 t (p8.at (p7.at (p6.at (p5.at (p4.at (p3.at (p2.at (p1.at ht :) :) :) :) :) :) :) :) _ _) (jd_dd hD rfl) (Nat.le_of_ble_eq_true rfl) dX9_readLine_137 (p8.at (p7.at (p6.at (p5.at (p4.at (p3.at (p2.at (p1.at ht :) :) :) :) :) :) :) :) (fun r10 σ10 p10 => ?_)
                  exact jr_bret (pc := 140) hX dX9_readLine_140 rfl
              · refine jr_ald0 (pc := 115) hX dX9_readLine_115 ?_
                refine jr_ald1 (pc := 116) hX dX9_readLine_116 ?_
                refine jr_cV1i (pc := 117) hX lX9_119 (c_X9_readKnows hX.F σ7 t (p7.at (p6.at (p5.at (p4.at (p3.at (p2.at (p1.at ht :) :) :) :) :) :) :) _) (jd_dd hD rfl) (Nat.le_of_ble_eq_true rfl) dX9_readLine_117 (p7.at (p6.at (p5.at (p4.at (p3.at (p2.at (p1.at ht :) :) :) :) :) :) :) (fun r11 σ11 p11 => ?_)
                exact jr_bret (pc := 120) hX dX9_readLine_120 rfl
            · refine jr_ald0 (pc := 100) hX dX9_readLine_100 ?_
              refine jr_ald1 (pc := 101) hX dX9_readLine_101 ?_
              refine jr_cV1i (pc := 102) hX lX9_114 (c_X9_readManned hX.F σ6 t (p6.at (p5.at (p4.at (p3.at (p2.at (p1.at ht :) :) :) :) :) :) _) (jd_dd hD rfl) (Nat.le_of_ble_eq_true rfl) dX9_readLine_102 (p6.at (p5.at (p4.at (p3.at (p2.at (p1.at ht :) :) :) :) :) :) (fun r12 σ12 p12 => ?_)
              exact jr_bret (pc := 105) hX dX9_readLine_105 rfl
          · refine jr_ald0 (pc := 85) hX dX9_readLine_85 ?_
            refine jr_ald1 (pc := 86) hX dX9_readLine_86 ?_
            refine jr_cV1i (pc := 87) hX lX9_109 (c_X9_readPost hX.F σ5 t (p5.at (p4.at (p3.at (p2.at (p1.at ht :) :) :) :) :) _) (jd_dd hD rfl) (Nat.le_of_ble_eq_true rfl) dX9_readLine_87 (p5.at (p4.at (p3.at (p2.at (p1.at ht :) :) :) :) :) (fun r13 σ13 p13 => ?_)
            exact jr_bret (pc := 90) hX dX9_readLine_90 rfl
        · refine jr_ald0 (pc := 70) hX dX9_readLine_70 ?_
          refine jr_ald1 (pc := 71) hX dX9_readLine_71 ?_
          refine jr_cV1i (pc := 72) hX lX9_104 (c_X9_readPerson hX.F σ4 t (p4.at (p3.at (p2.at (p1.at ht :) :) :) :) _) (jd_dd hD rfl) (Nat.le_of_ble_eq_true rfl) dX9_readLine_72 (p4.at (p3.at (p2.at (p1.at ht :) :) :) :) (fun r14 σ14 p14 => ?_)
          exact jr_bret (pc := 75) hX dX9_readLine_75 rfl
      · refine jr_ald0 (pc := 54) hX dX9_readLine_54 ?_
        refine jr_bipush (pc := 55) hX 6 rfl dX9_readLine_55 ?_
        refine jr_cV1i (pc := 57) hX lX9_85 (c_X9_fail hX.F σ3 t (p3.at (p2.at (p1.at ht :) :) :) _) (jd_dd hD rfl) (Nat.le_of_ble_eq_true rfl) dX9_readLine_57 (p3.at (p2.at (p1.at ht :) :) :) (fun r15 σ15 p15 => ?_)
        exact jr_bret (pc := 60) hX dX9_readLine_60 rfl
    · refine jr_ald0 (pc := 26) hX dX9_readLine_26 ?_
      refine jr_geti (pc := 27) hX fX9_50 rfl dX9_readLine_27 (p3.at (p2.at (p1.at ht :) :) :) ?_
      refine jr_ifeq (pc := 30) hX 41 dX9_readLine_30 (by decide) ?_ ?_
      · refine jr_ald0 (pc := 41) hX dX9_readLine_41 ?_
        refine jr_ald1 (pc := 42) hX dX9_readLine_42 ?_
        refine jr_cV1i (pc := 43) hX lX9_99 (c_X9_readBeach hX.F σ3 t (p3.at (p2.at (p1.at ht :) :) :) _) (jd_dd hD rfl) (Nat.le_of_ble_eq_true rfl) dX9_readLine_43 (p3.at (p2.at (p1.at ht :) :) :) (fun r16 σ16 p16 => ?_)
        exact jr_bret (pc := 46) hX dX9_readLine_46 rfl
      · refine jr_ald0 (pc := 33) hX dX9_readLine_33 ?_
        refine jr_iconst (pc := 34) hX 3 rfl dX9_readLine_34 ?_
        refine jr_cV1i (pc := 35) hX lX9_85 (c_X9_fail hX.F σ3 t (p3.at (p2.at (p1.at ht :) :) :) _) (jd_dd hD rfl) (Nat.le_of_ble_eq_true rfl) dX9_readLine_35 (p3.at (p2.at (p1.at ht :) :) :) (fun r17 σ17 p17 => ?_)
        refine jr_goto (pc := 38) hX 46 dX9_readLine_38 (by decide) ?_
        exact jr_bret (pc := 46) hX dX9_readLine_46 rfl
  · refine jr_ald0 (pc := 11) hX dX9_readLine_11 ?_
    refine jr_iconst (pc := 12) hX 1 rfl dX9_readLine_12 ?_
    refine jr_cV1i (pc := 13) hX lX9_85 (c_X9_fail hX.F σ2 t (p2.at (p1.at ht :) :) _) (jd_dd hD rfl) (Nat.le_of_ble_eq_true rfl) dX9_readLine_13 (p2.at (p1.at ht :) :) (fun r18 σ18 p18 => ?_)
    exact jr_bret (pc := 16) hX dX9_readLine_16 rfl
def m_X9_read (t : Nat) (x0p : Int32) (o1p : (Option Nat)) (σ : jd_Hp) : Option (Int32 × jd_Hp) :=
jd_ln σ 21 (σ.2.2.2 t 0) fun n1 =>
jd_li (jd_pi σ t 6 (jd_min x0p (Int32.ofNat n1))) fun τ2 =>
jd_li (jd_pi τ2 t 7 0) fun τ3 =>
jd_li (jd_pi τ3 t 5 0) fun τ4 =>
jd_li (jd_pi τ4 t 13 0) fun τ5 =>
jd_li (jd_pi τ5 t 14 0) fun τ6 =>
jd_li (jd_pi τ6 t 15 (-1)) fun τ7 =>
jd_o τ7 (10, 16) o1p fun a8 =>
jd_b (m_X10_clear a8 τ7) fun r9 σ9 =>
jd_b (jd_lp (S := Int32) (T := (Unit) ⊕ Int32) (fun s10 σ10 =>
jd_o σ10 (9, 16) (some t) fun a12 =>
jd_if ((σ10.2.1 a12 6) < s10) (
some ((Sum.inr (Sum.inl ())), σ10)) (
jd_b (m_X9_readLine a12 o1p σ10) fun r13 σ13 =>
jd_if (¬ r13 = 0) (
jd_b (m_X9_advance a12 σ13) fun r14 σ14 =>
jd_if (¬ (σ14.2.1 a12 8) = 0) (
jd_if ((σ14.2.1 a12 8) = 3) (
some (Sum.inl (s10 + 1), σ14)) (
jd_b (m_X9_fail a12 1 σ14) fun r15 σ15 =>
some (Sum.inr (Sum.inr (r15 &&& 1)), σ15))) (
jd_o σ14 (10, 16) o1p fun a16 =>
jd_if (0 < (σ14.2.1 a16 11)) (
some (Sum.inr (Sum.inr 1), σ14)) (
jd_b (m_X9_fail a12 6 σ14) fun r17 σ17 =>
jd_if (r17 = 0) (
some (Sum.inr (Sum.inr 0), σ17)) (
some (Sum.inr (Sum.inr 1), σ17))))) (
some (Sum.inr (Sum.inr 0), σ13)))) jd_fu 0 σ9) (jd_q (fun t11 σ11 =>
jd_o σ11 (9, 16) (some t) fun a18 =>
jd_b (m_X9_fail a18 1 σ11) fun r19 σ19 =>
some ((r19 &&& 1), σ19)) (fun v10 σ11 => some (v10, σ11)))
set_option maxHeartbeats 4000000 in
set_option maxRecDepth 20000 in
theorem c_X9_read {l : Launch} {s0 : State} {G : jd_G} (hF : jd_F s0 G) (σ : jd_Hp) (t : Nat) (ht : σ.1[t]? = some (9, 16)) (x0p : Int32) (o1p : (Option Nat)) : jd_M l s0 G yX9_read cX9_read 4 (some .boolean) 12 je_i [jd_v G (some t), .int x0p, jd_v G o1p] σ (m_X9_read t x0p o1p σ) := by
  refine jd_enter hF (by decide) (fun G => [some (jd_v G (some t)), some (.int x0p), some (jd_v G o1p), none]) rfl (by simp [lv_args, jd_al, jd_v_cat, jd_cti, jd_ctl]) (by simp [lg_sl, jd_v_cat, jd_cti, jd_ctl]) (fun X hD hX => ?_)
  have hX : jd_C X RX9 "read" cX9_read 4 (some .boolean) := hX
  unfold m_X9_read
  refine jr_ald0 (pc := 0) hX dX9_read_0 ?_
  refine jr_ild1 (pc := 1) hX dX9_read_1 ?_
  refine jr_ald0 (pc := 2) hX dX9_read_2 ?_
  refine jr_getr (pc := 3) hX fX9_60 rfl dX9_read_3 ht ?_
  refine jr_lnC21 (pc := 6) hX dX9_read_6 (fun a1 n1 e1 h1 => ?_)
  refine jr_mmin (pc := 7) hX lX9_64 (jd_d1 hD rfl) (by simp [jd_v_cat, jd_cti, jd_ctl]) dX9_read_7 ?_
  refine jr_puti (pc := 10) hX fX9_29 rfl dX9_read_10 ht ?_
  refine jr_li ?_
  refine jr_ald0 (pc := 13) hX dX9_read_13 ?_
  refine jr_iconst (pc := 14) hX 0 rfl dX9_read_14 ?_
  refine jr_puti (pc := 15) hX fX9_32 rfl dX9_read_15 ht ?_
  refine jr_li ?_
  refine jr_ald0 (pc := 18) hX dX9_read_18 ?_
  refine jr_iconst (pc := 19) hX 0 rfl dX9_read_19 ?_
  refine jr_puti (pc := 20) hX fX9_25 rfl dX9_read_20 ht ?_
  refine jr_li ?_
  refine jr_ald0 (pc := 23) hX dX9_read_23 ?_
  refine jr_iconst (pc := 24) hX 0 rfl dX9_read_24 ?_
  refine jr_putz (pc := 25) hX fX9_50 rfl (Or.inl rfl) dX9_read_25 ht ?_
  refine jr_li ?_
  refine jr_ald0 (pc := 28) hX dX9_read_28 ?_
  refine jr_iconst (pc := 29) hX 0 rfl dX9_read_29 ?_
  refine jr_puti (pc := 30) hX fX9_54 rfl dX9_read_30 ht ?_
  refine jr_li ?_
  refine jr_ald0 (pc := 33) hX dX9_read_33 ?_
  refine jr_iconst (pc := 34) hX (-1) rfl dX9_read_34 ?_
  refine jr_puti (pc := 35) hX fX9_57 rfl dX9_read_35 ht ?_
  refine jr_li ?_
  refine jr_ald2 (pc := 38) hX dX9_read_38 ?_
  refine jr_ck0 (fun a8 e8 h8 => ?_)
  refine jr_cV0v (pc := 39) hX lX9_70 (c_X10_clear hX.F (jd_pi (jd_pi (jd_pi (jd_pi (jd_pi (jd_pi σ t 6 (jd_min x0p (Int32.ofNat n1))) t 7 0) t 5 0) t 13 0) t 14 0) t 15 (-1)) a8 h8) (jd_dd hD rfl) (Nat.le_of_ble_eq_true rfl) dX9_read_39 h8 (fun r9 σ9 p9 => ?_)
  refine jr_iconst (pc := 42) hX 0 rfl dX9_read_42 ?_
  refine jr_ist3 (pc := 43) hX (jn_r _ _) dX9_read_43 ?_
  refine jr_wk [true, false, true, true] ?_
  refine jr_loopR (pc := 44) (fun (s10 : Int32) => [some (jd_v (jd_gG X) (some t)), none, some (jd_v (jd_gG X) o1p), some (.int s10)]) (fun (t11 : Unit) => [some (jd_v (jd_gG X) (some t)), none, none, none]) 115 0 (fun t11 σ11 => ?_) (fun K10 bk10 ex10 wr10 s10 σ10 => ?_)
  · refine jr_ald0 (pc := 115) hX dX9_read_115 ?_
    refine jr_iconst (pc := 116) hX 1 rfl dX9_read_116 ?_
    refine jr_ck1 (fun a18 e18 h18 => ?_)
    refine jr_cV1i (pc := 117) hX lX9_85 (c_X9_fail hX.F σ11 a18 h18 _) (jd_dd hD rfl) (Nat.le_of_ble_eq_true rfl) dX9_read_117 h18 (fun r19 σ19 p19 => ?_)
    exact jr_bret (pc := 120) hX dX9_read_120 rfl
  · refine jr_ild3 (pc := 44) hX dX9_read_44 ?_
    refine jr_ald0 (pc := 45) hX dX9_read_45 ?_
    refine jr_ck0 (fun a12 e12 h12 => ?_)
    refine jr_geti (pc := 46) hX fX9_29 rfl dX9_read_46 h12 ?_
    refine jr_icgt (pc := 49) hX 115 dX9_read_49 (by decide) ?_ ?_
    · refine jr_wk [true, true, false, false] ?_
      exact ex10 () _
    · refine jr_ald0 (pc := 52) hX dX9_read_52 ?_
      refine jr_ald2 (pc := 53) hX dX9_read_53 ?_
      refine jr_ek1 e12 ?_
      refine jr_cV1i (pc := 54) hX lX9_75 (c_X9_readLine hX.F σ10 a12 h12 _) (jd_dd hD rfl) (Nat.le_of_ble_eq_true rfl) dX9_read_54 h12 (fun r13 σ13 p13 => ?_)
      refine jr_ifne (pc := 57) hX 62 dX9_read_57 (by decide) ?_ ?_
      · refine jr_ald0 (pc := 62) hX dX9_read_62 ?_
        refine jr_ek0 e12 ?_
        refine jr_cV0v (pc := 63) hX lX9_79 (c_X9_advance hX.F σ13 a12 (p13.at h12 :)) (jd_dd hD rfl) (Nat.le_of_ble_eq_true rfl) dX9_read_63 (p13.at h12 :) (fun r14 σ14 p14 => ?_)
        refine jr_ald0 (pc := 66) hX dX9_read_66 ?_
        refine jr_ek0 e12 ?_
        refine jr_geti (pc := 67) hX fX9_35 rfl dX9_read_67 (p14.at (p13.at h12 :) :) ?_
        refine jr_ifne (pc := 70) hX 95 dX9_read_70 (by decide) ?_ ?_
        · refine jr_ald0 (pc := 95) hX dX9_read_95 ?_
          refine jr_ek0 e12 ?_
          refine jr_geti (pc := 96) hX fX9_35 rfl dX9_read_96 (p14.at (p13.at h12 :) :) ?_
          refine jr_iconst (pc := 99) hX 3 rfl dX9_read_99 ?_
          refine jr_iceq (pc := 100) hX 109 dX9_read_100 (by decide) ?_ ?_
          · refine jr_inc3 (pc := 109) hX 1 rfl (jn_r _ _) dX9_read_109 ?_
            refine jr_goto (pc := 112) hX 44 dX9_read_112 (by decide) ?_
            exact bk10 (s10 + 1) _
          · refine jr_ald0 (pc := 103) hX dX9_read_103 ?_
            refine jr_iconst (pc := 104) hX 1 rfl dX9_read_104 ?_
            refine jr_ek1 e12 ?_
            refine jr_cV1i (pc := 105) hX lX9_85 (c_X9_fail hX.F σ14 a12 (p14.at (p13.at h12 :) :) _) (jd_dd hD rfl) (Nat.le_of_ble_eq_true rfl) dX9_read_105 (p14.at (p13.at h12 :) :) (fun r15 σ15 p15 => ?_)
            exact jr_bret (pc := 108) hX dX9_read_108 ((wr10 _ _).trans rfl)
        · refine jr_ald2 (pc := 73) hX dX9_read_73 ?_
          refine jr_ck0 (fun a16 e16 h16 => ?_)
          refine jr_geti (pc := 74) hX fX9_82 rfl dX9_read_74 h16 ?_
          refine jr_ifgt (pc := 77) hX 89 dX9_read_77 (by decide) ?_ ?_
          · refine jr_iconst (pc := 89) hX 1 rfl dX9_read_89 ?_
            refine jr_goto (pc := 90) hX 94 dX9_read_90 (by decide) ?_
            exact jr_zret (pc := 94) hX dX9_read_94 (Or.inr rfl) ((wr10 _ _).trans rfl)
          · refine jr_ald0 (pc := 80) hX dX9_read_80 ?_
            refine jr_bipush (pc := 81) hX 6 rfl dX9_read_81 ?_
            refine jr_ek1 e12 ?_
            refine jr_cV1i (pc := 83) hX lX9_85 (c_X9_fail hX.F σ14 a12 (p14.at (p13.at h12 :) :) _) (jd_dd hD rfl) (Nat.le_of_ble_eq_true rfl) dX9_read_83 (p14.at (p13.at h12 :) :) (fun r17 σ17 p17 => ?_)
            refine jr_ifeq (pc := 86) hX 93 dX9_read_86 (by decide) ?_ ?_
            · refine jr_iconst (pc := 93) hX 0 rfl dX9_read_93 ?_
              exact jr_zret (pc := 94) hX dX9_read_94 (Or.inl rfl) ((wr10 _ _).trans rfl)
            · refine jr_iconst (pc := 89) hX 1 rfl dX9_read_89 ?_
              refine jr_goto (pc := 90) hX 94 dX9_read_90 (by decide) ?_
              exact jr_zret (pc := 94) hX dX9_read_94 (Or.inr rfl) ((wr10 _ _).trans rfl)
      · refine jr_iconst (pc := 60) hX 0 rfl dX9_read_60 ?_
        exact jr_zret (pc := 61) hX dX9_read_61 (Or.inl rfl) ((wr10 _ _).trans rfl)
def m_X11_beach (t : Nat) (x0p : Int32) (σ : jd_Hp) : Option (Int32 × jd_Hp) :=
jd_if (x0p < 0) (
jd_b (m_X11_refuse t 2 σ) fun r1 σ1 =>
some (r1, σ1)) (
jd_o σ (8, 2) (σ.2.2.2 t 0) fun a2 =>
jd_if (x0p ≤ (σ.2.1 a2 1)) (
jd_o σ (9, 16) (σ.2.2.2 t 1) fun a3 =>
jd_b (m_X9_read a3 x0p (σ.2.2.2 t 9) σ) fun r4 σ4 =>
jd_o σ4 (8, 2) (σ4.2.2.2 t 0) fun a5 =>
jd_li (jd_pi σ4 a5 1 0) fun τ6 =>
jd_if (¬ r4 = 0) (
jd_o τ6 (6, 8) (τ6.2.2.2 t 2) fun a7 =>
jd_b (m_X6_begin a7 (τ6.2.2.2 t 9) τ6) fun r8 σ8 =>
jd_li (jd_pr σ8 t 9 (τ6.2.2.2 a7 5)) fun τ9 =>
jd_o τ9 (2, 5) (τ9.2.2.2 t 3) fun a10 =>
jd_b (m_X2_forget a10 τ9) fun r11 σ11 =>
jd_o σ11 (6, 8) (σ11.2.2.2 t 2) fun a12 =>
jd_o σ11 (7, 3) (σ11.2.2.2 t 6) fun a13 =>
jd_b (m_X7_weigh a13 (σ11.2.2.2 a12 5) σ11) fun r14 σ14 =>
jd_li (jd_pi σ14 t 10 1) fun τ15 =>
jd_o τ15 (6, 8) (τ15.2.2.2 t 2) fun a16 =>
jd_o τ15 (10, 16) (τ15.2.2.2 a16 5) fun a17 =>
jd_b (m_X11_grant t (τ15.2.1 a17 11) τ15) fun r18 σ18 =>
some (r18, σ18)) (
jd_b (m_X11_refuse t 4 τ6) fun r19 σ19 =>
some (r19, σ19))) (
jd_b (m_X11_refuse t 2 σ) fun r20 σ20 =>
some (r20, σ20)))
set_option maxHeartbeats 4000000 in
set_option maxRecDepth 20000 in
theorem c_X11_beach {l : Launch} {s0 : State} {G : jd_G} (hF : jd_F s0 G) (σ : jd_Hp) (t : Nat) (ht : σ.1[t]? = some (11, 12)) (x0p : Int32) : jd_M l s0 G yX11_beach cX11_beach 4 (some .int) 13 je_i [jd_v G (some t), .int x0p] σ (m_X11_beach t x0p σ) := by
  refine jd_enter hF (by decide) (fun G => [some (jd_v G (some t)), some (.int x0p), none, none]) rfl (by simp [lv_args, jd_al, jd_v_cat, jd_cti, jd_ctl]) (by simp [lg_sl, jd_v_cat, jd_cti, jd_ctl]) (fun X hD hX => ?_)
  have hX : jd_C X RX11 "beach" cX11_beach 4 (some .int) := hX
  unfold m_X11_beach
  refine jr_ild1 (pc := 0) hX dX11_beach_0 ?_
  refine jr_iflt (pc := 1) hX 15 dX11_beach_1 (by decide) ?_ ?_
  · refine jr_ald0 (pc := 15) hX dX11_beach_15 ?_
    refine jr_iconst (pc := 16) hX 2 rfl dX11_beach_16 ?_
    refine jr_cV1i (pc := 17) hX lX11_104 (c_X11_refuse hX.F σ t ht _) (jd_dd hD rfl) (Nat.le_of_ble_eq_true rfl) dX11_beach_17 ht (fun r1 σ1 p1 => ?_)
    exact jr_iret (pc := 20) hX dX11_beach_20 rfl
  · refine jr_ild1 (pc := 4) hX dX11_beach_4 ?_
    refine jr_ald0 (pc := 5) hX dX11_beach_5 ?_
    refine jr_getr (pc := 6) hX fX11_10 rfl dX11_beach_6 ht ?_
    refine jr_ck0 (fun a2 e2 h2 => ?_)
    refine jr_geti (pc := 9) hX fX11_101 rfl dX11_beach_9 h2 ?_
    refine jr_icle (pc := 12) hX 21 dX11_beach_12 (by decide) ?_ ?_
    · refine jr_ald0 (pc := 21) hX dX11_beach_21 ?_
      refine jr_getr (pc := 22) hX fX11_25 rfl dX11_beach_22 ht ?_
      refine jr_ild1 (pc := 25) hX dX11_beach_25 ?_
      refine jr_ald0 (pc := 26) hX dX11_beach_26 ?_
      refine jr_getr (pc := 27) hX fX11_81 rfl dX11_beach_27 ht ?_
      refine jr_ck2 (fun a3 e3 h3 => ?_)
      refine jr_cV2i (pc := 30) hX lX11_108 (c_X9_read hX.F σ a3 h3 _ _) (jd_dd hD rfl) (Nat.le_of_ble_eq_true rfl) dX11_beach_30 h3 (fun r4 σ4 p4 => ?_)
      refine jr_ist2 (pc := 33) hX (jn_i _) dX11_beach_33 ?_
      refine jr_ald0 (pc := 34) hX dX11_beach_34 ?_
      refine jr_getr (pc := 35) hX fX11_10 rfl dX11_beach_35 (p4.at ht :) ?_
      refine jr_iconst (pc := 38) hX 0 rfl dX11_beach_38 ?_
      refine jr_ck1 (fun a5 e5 h5 => ?_)
      refine jr_puti (pc := 39) hX fX11_101 rfl dX11_beach_39 h5 ?_
      refine jr_li ?_
      refine jr_ild2 (pc := 42) hX dX11_beach_42 ?_
      refine jr_ifne (pc := 43) hX 52 dX11_beach_43 (by decide) ?_ ?_
      · refine jr_ald0 (pc := 52) hX dX11_beach_52 ?_
        refine jr_getr (pc := 53) hX fX11_32 rfl dX11_beach_53 (p4.at ht :) ?_
        refine jr_ck0 (fun a7 e7 h7 => ?_)
        refine jr_getr (pc := 56) hX fX11_112 rfl dX11_beach_56 h7 ?_
        refine jr_ast3 (pc := 59) hX (jn_i _) dX11_beach_59 ?_
        refine jr_ald0 (pc := 60) hX dX11_beach_60 ?_
        refine jr_getr (pc := 61) hX fX11_32 rfl dX11_beach_61 (p4.at ht :) ?_
        refine jr_ald0 (pc := 64) hX dX11_beach_64 ?_
        refine jr_getr (pc := 65) hX fX11_81 rfl dX11_beach_65 (p4.at ht :) ?_
        refine jr_ek1 e7 ?_
        refine jr_cV1v (pc := 68) hX lX11_115 (c_X6_begin hX.F (jd_pi σ4 a5 1 0) a7 h7 _) (jd_dd hD rfl) (Nat.le_of_ble_eq_true rfl) dX11_beach_68 h7 (fun r8 σ8 p8 => ?_)
        refine jr_ald0 (pc := 71) hX dX11_beach_71 ?_
        refine jr_ald3 (pc := 72) hX dX11_beach_72 ?_
        refine jr_putr (pc := 73) hX fX11_81 rfl dX11_beach_73 (p8.at (p4.at ht :) :) ?_
        refine jr_li ?_
        refine jr_ald0 (pc := 76) hX dX11_beach_76 ?_
        refine jr_getr (pc := 77) hX fX11_39 rfl dX11_beach_77 (p8.at (p4.at ht :) :) ?_
        refine jr_ck0 (fun a10 e10 h10 => ?_)
        refine jr_cV0v (pc := 80) hX lX11_119 (c_X2_forget hX.F (jd_pr σ8 t 9 ((jd_pi σ4 a5 1 0).2.2.2 a7 5)) a10 h10) (jd_dd hD rfl) (Nat.le_of_ble_eq_true rfl) dX11_beach_80 h10 (fun r11 σ11 p11 => ?_)
        refine jr_ald0 (pc := 83) hX dX11_beach_83 ?_
        refine jr_getr (pc := 84) hX fX11_60 rfl dX11_beach_84 (p11.at (p8.at (p4.at ht :) :) :) ?_
        refine jr_ald0 (pc := 87) hX dX11_beach_87 ?_
        refine jr_getr (pc := 88) hX fX11_32 rfl dX11_beach_88 (p11.at (p8.at (p4.at ht :) :) :) ?_
        refine jr_ck0 (fun a12 e12 h12 => ?_)
        refine jr_getr (pc := 91) hX fX11_112 rfl dX11_beach_91 h12 ?_
        refine jr_ck1 (fun a13 e13 h13 => ?_)
        refine jr_cV1v (pc := 94) hX lX11_122 (c_X7_weigh hX.F σ11 a13 h13 _) (jd_dd hD rfl) (Nat.le_of_ble_eq_true rfl) dX11_beach_94 h13 (fun r14 σ14 p14 => ?_)
        refine jr_ald0 (pc := 97) hX dX11_beach_97 ?_
        refine jr_iconst (pc := 98) hX 1 rfl dX11_beach_98 ?_
        refine jr_putz (pc := 99) hX fX11_85 rfl (Or.inr rfl) dX11_beach_99 (p14.at (p11.at (p8.at (p4.at ht :) :) :) :) ?_
        refine jr_li ?_
        refine jr_ald0 (pc := 102) hX dX11_beach_102 ?_
        refine jr_ald0 (pc := 103) hX dX11_beach_103 ?_
        refine jr_getr (pc := 104) hX fX11_32 rfl dX11_beach_104 (p14.at (p11.at (p8.at (p4.at ht :) :) :) :) ?_
        refine jr_ck0 (fun a16 e16 h16 => ?_)
        refine jr_getr (pc := 107) hX fX11_112 rfl dX11_beach_107 h16 ?_
        refine jr_ck0 (fun a17 e17 h17 => ?_)
        refine jr_geti (pc := 110) hX fX11_125 rfl dX11_beach_110 h17 ?_
        refine jr_cV1i (pc := 113) hX lX11_128 (c_X11_grant hX.F (jd_pi σ14 t 10 1) t (p14.at (p11.at (p8.at (p4.at ht :) :) :) :) _) (jd_dd hD rfl) (Nat.le_of_ble_eq_true rfl) dX11_beach_113 (p14.at (p11.at (p8.at (p4.at ht :) :) :) :) (fun r18 σ18 p18 => ?_)
        exact jr_iret (pc := 116) hX dX11_beach_116 rfl
      · refine jr_ald0 (pc := 46) hX dX11_beach_46 ?_
        refine jr_iconst (pc := 47) hX 4 rfl dX11_beach_47 ?_
        refine jr_cV1i (pc := 48) hX lX11_104 (c_X11_refuse hX.F (jd_pi σ4 a5 1 0) t (p4.at ht :) _) (jd_dd hD rfl) (Nat.le_of_ble_eq_true rfl) dX11_beach_48 (p4.at ht :) (fun r19 σ19 p19 => ?_)
        exact jr_iret (pc := 51) hX dX11_beach_51 rfl
    · refine jr_ald0 (pc := 15) hX dX11_beach_15 ?_
      refine jr_iconst (pc := 16) hX 2 rfl dX11_beach_16 ?_
      refine jr_cV1i (pc := 17) hX lX11_104 (c_X11_refuse hX.F σ t ht _) (jd_dd hD rfl) (Nat.le_of_ble_eq_true rfl) dX11_beach_17 ht (fun r20 σ20 p20 => ?_)
      exact jr_iret (pc := 20) hX dX11_beach_20 rfl
def m_X13_packed (o0p : (Option Nat)) (σ : jd_Hp) : Option (Int64 × jd_Hp) :=
jd_b (jd_lp (S := Int64 × Int32) (T := Int64) (fun s1 σ1 =>
jd_sl σ1 o0p fun n3 =>
jd_if (n3 ≤ s1.2) (
some ((Sum.inr s1.1), σ1)) (
jd_sc σ1 o0p s1.2 fun n4 =>
jd_li ((32 * s1.1) + ((n4 - 97) + 1).toInt64) fun x5 =>
some (Sum.inl (x5, (s1.2 + 1)), σ1))) jd_fu (0, 0) σ) fun t2 σ2 =>
some (t2, σ2)
set_option maxHeartbeats 4000000 in
set_option maxRecDepth 20000 in
theorem c_X13_packed {l : Launch} {s0 : State} {G : jd_G} (hF : jd_F s0 G) (σ : jd_Hp) (o0p : (Option Nat)) : jd_M l s0 G yX13_packed cX13_packed 4 (some .long) 7 je_l [jd_v G o0p] σ (m_X13_packed o0p σ) := by
  refine jd_enter hF (by decide) (fun G => [some (jd_v G o0p), none, none, none]) rfl (by simp [lv_args, jd_al, jd_v_cat, jd_cti, jd_ctl]) (by simp [lg_sl, jd_v_cat, jd_cti, jd_ctl]) (fun X hD hX => ?_)
  have hX : jd_C X RX13 "packed" cX13_packed 4 (some .long) := hX
  unfold m_X13_packed
  refine jr_lconst (pc := 0) hX 0 rfl dX13_packed_0 ?_
  refine jr_lst1 (pc := 1) hX (jn_r _ _) dX13_packed_1 ?_
  refine jr_iconst (pc := 2) hX 0 rfl dX13_packed_2 ?_
  refine jr_ist3 (pc := 3) hX jn_n dX13_packed_3 ?_
  refine jr_loop (pc := 4) (fun (s1 : Int64 × Int32) => [some (jd_v (jd_gG X) o0p), some (.long s1.1), none, some (.int s1.2)]) (fun (t2 : Int64) => [none, some (.long t2), none, none]) 36 (0, 0) (fun t2 σ2 => ?_) (fun K1 bk1 ex1 s1 σ1 => ?_)
  · refine jr_lld1 (pc := 36) hX dX13_packed_36 ?_
    exact jr_lret (pc := 37) hX dX13_packed_37 rfl
  · refine jr_ild3 (pc := 4) hX dX13_packed_4 ?_
    refine jr_ald0 (pc := 5) hX dX13_packed_5 ?_
    refine jr_slen (pc := 6) hX lX13_68 (jd_dd hD rfl) (Nat.le_of_ble_eq_true rfl) dX13_packed_6 (fun n3 => ?_)
    refine jr_icge (pc := 9) hX 36 dX13_packed_9 (by decide) ?_ ?_
    · refine jr_wk [false, true, true, false] ?_
      exact ex1 s1.1 _
    · refine jr_ldc2 (pc := 12) hX kX13_74 dX13_packed_12 ?_
      refine jr_lld1 (pc := 15) hX dX13_packed_15 ?_
      refine jr_lmul (pc := 16) hX dX13_packed_16 ?_
      refine jr_ald0 (pc := 17) hX dX13_packed_17 ?_
      refine jr_ild3 (pc := 18) hX dX13_packed_18 ?_
      refine jr_schr (pc := 19) hX lX13_76 (jd_dd hD rfl) (Nat.le_of_ble_eq_true rfl) dX13_packed_19 (fun n4 => ?_)
      refine jr_bipush (pc := 22) hX 97 rfl dX13_packed_22 ?_
      refine jr_isub (pc := 24) hX dX13_packed_24 ?_
      refine jr_iconst (pc := 25) hX 1 rfl dX13_packed_25 ?_
      refine jr_iadd (pc := 26) hX dX13_packed_26 ?_
      refine jr_i2l (pc := 27) hX dX13_packed_27 ?_
      refine jr_ladd (pc := 28) hX dX13_packed_28 ?_
      refine jr_lst1 (pc := 29) hX (jn_r _ _) dX13_packed_29 ?_
      refine jr_li ?_
      refine jr_inc3 (pc := 30) hX 1 rfl jn_n dX13_packed_30 ?_
      refine jr_goto (pc := 33) hX 4 dX13_packed_33 (by decide) ?_
      exact bk1 (((32 * s1.1) + ((n4 - 97) + 1).toInt64), (s1.2 + 1)) _
def m_X13_isWord (t : Nat) (o0p : (Option Nat)) (σ : jd_Hp) : Option (Int32 × jd_Hp) :=
jd_if (¬ (σ.2.1 t 9) = 2) (
some (0, σ)) (
jd_b (m_X13_packed o0p σ) fun r1 σ1 =>
jd_if (¬ (lg_cmp (σ.2.2.1 t 14) r1) = 0) (
some (0, σ1)) (
some (1, σ1)))
set_option maxHeartbeats 4000000 in
set_option maxRecDepth 20000 in
theorem c_X13_isWord {l : Launch} {s0 : State} {G : jd_G} (hF : jd_F s0 G) (σ : jd_Hp) (t : Nat) (ht : σ.1[t]? = some (13, 29)) (o0p : (Option Nat)) : jd_M l s0 G yX13_isWord cX13_isWord 2 (some .boolean) 8 je_i [jd_v G (some t), jd_v G o0p] σ (m_X13_isWord t o0p σ) := by
  refine jd_enter hF (by decide) (fun G => [some (jd_v G (some t)), some (jd_v G o0p)]) rfl (by simp [lv_args, jd_al, jd_v_cat, jd_cti, jd_ctl]) (by simp [lg_sl, jd_v_cat, jd_cti, jd_ctl]) (fun X hD hX => ?_)
  have hX : jd_C X RX13 "isWord" cX13_isWord 2 (some .boolean) := hX
  unfold m_X13_isWord
  refine jr_ald0 (pc := 0) hX dX13_isWord_0 ?_
  refine jr_geti (pc := 1) hX fX13_80 rfl dX13_isWord_1 ht ?_
  refine jr_iconst (pc := 4) hX 2 rfl dX13_isWord_4 ?_
  refine jr_icne (pc := 5) hX 24 dX13_isWord_5 (by decide) ?_ ?_
  · refine jr_iconst (pc := 24) hX 0 rfl dX13_isWord_24 ?_
    exact jr_zret (pc := 25) hX dX13_isWord_25 (Or.inl rfl) rfl
  · refine jr_ald0 (pc := 8) hX dX13_isWord_8 ?_
    refine jr_getl (pc := 9) hX fX13_96 rfl dX13_isWord_9 ht ?_
    refine jr_ald1 (pc := 12) hX dX13_isWord_12 ?_
    refine jr_cS1l (pc := 13) hX lX13_112 (c_X13_packed hX.F σ _) (jd_dd hD rfl) (Nat.le_of_ble_eq_true rfl) dX13_isWord_13 (fun r1 σ1 p1 => ?_)
    refine jr_lcmp (pc := 16) hX dX13_isWord_16 ?_
    refine jr_ifne (pc := 17) hX 24 dX13_isWord_17 (by decide) ?_ ?_
    · refine jr_iconst (pc := 24) hX 0 rfl dX13_isWord_24 ?_
      exact jr_zret (pc := 25) hX dX13_isWord_25 (Or.inl rfl) rfl
    · refine jr_iconst (pc := 20) hX 1 rfl dX13_isWord_20 ?_
      refine jr_goto (pc := 21) hX 25 dX13_isWord_21 (by decide) ?_
      exact jr_zret (pc := 25) hX dX13_isWord_25 (Or.inr rfl) rfl
def m_X13_needs (t : Nat) (o0p : (Option Nat)) (σ : jd_Hp) : Option (Unit × jd_Hp) :=
jd_b (m_X13_isWord t o0p σ) fun r1 σ1 =>
jd_if (¬ r1 = 0) (
jd_b (m_X13_goesOn t σ1) fun r2 σ2 =>
some ((), σ2)) (
jd_b (m_X13_flaw t 1 σ1) fun r3 σ3 =>
jd_b (m_X13_goesOn t σ3) fun r4 σ4 =>
some ((), σ4))
set_option maxHeartbeats 4000000 in
set_option maxRecDepth 20000 in
theorem c_X13_needs {l : Launch} {s0 : State} {G : jd_G} (hF : jd_F s0 G) (σ : jd_Hp) (t : Nat) (ht : σ.1[t]? = some (13, 29)) (o0p : (Option Nat)) : jd_M l s0 G yX13_needs cX13_needs 2 none 9 je_v [jd_v G (some t), jd_v G o0p] σ (m_X13_needs t o0p σ) := by
  refine jd_enter hF (by decide) (fun G => [some (jd_v G (some t)), some (jd_v G o0p)]) rfl (by simp [lv_args, jd_al, jd_v_cat, jd_cti, jd_ctl]) (by simp [lg_sl, jd_v_cat, jd_cti, jd_ctl]) (fun X hD hX => ?_)
  have hX : jd_C X RX13 "needs" cX13_needs 2 none := hX
  unfold m_X13_needs
  refine jr_ald0 (pc := 0) hX dX13_needs_0 ?_
  refine jr_ald1 (pc := 1) hX dX13_needs_1 ?_
  refine jr_cV1i (pc := 2) hX lX13_119 (c_X13_isWord hX.F σ t ht _) (jd_dd hD rfl) (Nat.le_of_ble_eq_true rfl) dX13_needs_2 ht (fun r1 σ1 p1 => ?_)
  refine jr_ifne (pc := 5) hX 13 dX13_needs_5 (by decide) ?_ ?_
  · refine jr_ald0 (pc := 13) hX dX13_needs_13 ?_
    refine jr_cV0v (pc := 14) hX lX13_116 (c_X13_goesOn hX.F σ1 t (p1.at ht :)) (jd_dd hD rfl) (Nat.le_of_ble_eq_true rfl) dX13_needs_14 (p1.at ht :) (fun r2 σ2 p2 => ?_)
    exact jr_vret (pc := 17) hX dX13_needs_17 rfl
  · refine jr_ald0 (pc := 8) hX dX13_needs_8 ?_
    refine jr_iconst (pc := 9) hX 1 rfl dX13_needs_9 ?_
    refine jr_cV1v (pc := 10) hX lX13_123 (c_X13_flaw hX.F σ1 t (p1.at ht :) _) (jd_dd hD rfl) (Nat.le_of_ble_eq_true rfl) dX13_needs_10 (p1.at ht :) (fun r3 σ3 p3 => ?_)
    refine jr_ald0 (pc := 13) hX dX13_needs_13 ?_
    refine jr_cV0v (pc := 14) hX lX13_116 (c_X13_goesOn hX.F σ3 t (p3.at (p1.at ht :) :)) (jd_dd hD rfl) (Nat.le_of_ble_eq_true rfl) dX13_needs_14 (p3.at (p1.at ht :) :) (fun r4 σ4 p4 => ?_)
    exact jr_vret (pc := 17) hX dX13_needs_17 rfl
def m_X13_readPart (t : Nat) (o0p : (Option Nat)) (x1p : Int32) (x2p : Int32) (σ : jd_Hp) : Option (Int32 × jd_Hp) :=
jd_b (m_X13_needs t o0p σ) fun r1 σ1 =>
jd_b (α := Unit) (
jd_if ((σ1.2.1 t 9) = 3) (
jd_b (m_X13_in (σ1.2.1 t 11) x1p x2p σ1) fun r6 σ6 =>
jd_if (¬ r6 = 0) (
some ((), σ6)) (
jd_b (m_X13_flaw t 4 σ6) fun r7 σ7 =>
some ((), σ7))) (
jd_b (m_X13_flaw t 1 σ1) fun r8 σ8 =>
some ((), σ8))) fun t5 σ5 =>
jd_o σ5 (13, 29) (some t) fun a9 =>
jd_if (¬ (σ5.2.1 a9 9) = 5) (
jd_li (σ5.2.1 a9 11) fun x10 =>
jd_b (m_X13_goesOn a9 σ5) fun r11 σ11 =>
some (x10, σ11)) (
jd_b (m_X13_goesOn a9 σ5) fun r12 σ12 =>
some (x1p, σ12))
set_option maxHeartbeats 4000000 in
set_option maxRecDepth 20000 in
theorem c_X13_readPart {l : Launch} {s0 : State} {G : jd_G} (hF : jd_F s0 G) (σ : jd_Hp) (t : Nat) (ht : σ.1[t]? = some (13, 29)) (o0p : (Option Nat)) (x1p : Int32) (x2p : Int32) : jd_M l s0 G yX13_readPart cX13_readPart 5 (some .int) 10 je_i [jd_v G (some t), jd_v G o0p, .int x1p, .int x2p] σ (m_X13_readPart t o0p x1p x2p σ) := by
  refine jd_enter hF (by decide) (fun G => [some (jd_v G (some t)), some (jd_v G o0p), some (.int x1p), some (.int x2p), none]) rfl (by simp [lv_args, jd_al, jd_v_cat, jd_cti, jd_ctl]) (by simp [lg_sl, jd_v_cat, jd_cti, jd_ctl]) (fun X hD hX => ?_)
  have hX : jd_C X RX13 "readPart" cX13_readPart 5 (some .int) := hX
  unfold m_X13_readPart
  refine jr_ald0 (pc := 0) hX dX13_readPart_0 ?_
  refine jr_ald1 (pc := 1) hX dX13_readPart_1 ?_
  refine jr_cV1v (pc := 2) hX lX13_127 (c_X13_needs hX.F σ t ht _) (jd_dd hD rfl) (Nat.le_of_ble_eq_true rfl) dX13_readPart_2 ht (fun r1 σ1 p1 => ?_)
  refine jr_ald0 (pc := 5) hX dX13_readPart_5 ?_
  refine jr_geti (pc := 6) hX fX13_80 rfl dX13_readPart_6 (p1.at ht :) ?_
  refine jr_iconst (pc := 9) hX 3 rfl dX13_readPart_9 ?_
  refine jr_join (pc := 10) 38 (fun (t5 : Unit) => [some (jd_v (jd_gG X) (some t)), none, some (.int x1p), none, none]) (fun (t5 : Unit) => []) (fun t5 σ5 => ?_) (fun K5 jj5 => ?_)
  · refine jr_ald0 (pc := 38) hX dX13_readPart_38 ?_
    refine jr_ck0 (fun a9 e9 h9 => ?_)
    refine jr_geti (pc := 39) hX fX13_80 rfl dX13_readPart_39 h9 ?_
    refine jr_iconst (pc := 42) hX 5 rfl dX13_readPart_42 ?_
    refine jr_icne (pc := 43) hX 50 dX13_readPart_43 (by decide) ?_ ?_
    · refine jr_ald0 (pc := 50) hX dX13_readPart_50 ?_
      refine jr_ek0 e9 ?_
      refine jr_geti (pc := 51) hX fX13_103 rfl dX13_readPart_51 h9 ?_
      refine jr_ist4 (pc := 54) hX jn_n dX13_readPart_54 ?_
      refine jr_li ?_
      refine jr_ald0 (pc := 56) hX dX13_readPart_56 ?_
      refine jr_ek0 e9 ?_
      refine jr_cV0v (pc := 57) hX lX13_116 (c_X13_goesOn hX.F σ5 a9 h9) (jd_dd hD rfl) (Nat.le_of_ble_eq_true rfl) dX13_readPart_57 h9 (fun r11 σ11 p11 => ?_)
      refine jr_ild4 (pc := 60) hX dX13_readPart_60 ?_
      exact jr_iret (pc := 62) hX dX13_readPart_62 rfl
    · refine jr_ild2 (pc := 46) hX dX13_readPart_46 ?_
      refine jr_goto (pc := 47) hX 54 dX13_readPart_47 (by decide) ?_
      refine jr_ist4 (pc := 54) hX jn_n dX13_readPart_54 ?_
      refine jr_ald0 (pc := 56) hX dX13_readPart_56 ?_
      refine jr_ek0 e9 ?_
      refine jr_cV0v (pc := 57) hX lX13_116 (c_X13_goesOn hX.F σ5 a9 h9) (jd_dd hD rfl) (Nat.le_of_ble_eq_true rfl) dX13_readPart_57 h9 (fun r12 σ12 p12 => ?_)
      refine jr_ild4 (pc := 60) hX dX13_readPart_60 ?_
      exact jr_iret (pc := 62) hX dX13_readPart_62 rfl
  · refine jr_iceq (pc := 10) hX 21 dX13_readPart_10 (by decide) ?_ ?_
    · refine jr_ald0 (pc := 21) hX dX13_readPart_21 ?_
      refine jr_geti (pc := 22) hX fX13_103 rfl dX13_readPart_22 (p1.at ht :) ?_
      refine jr_ild2 (pc := 25) hX dX13_readPart_25 ?_
      refine jr_ild3 (pc := 26) hX dX13_readPart_26 ?_
      refine jr_cS3i (pc := 27) hX lX13_131 (c_X13_in hX.F σ1 _ _ _) (jd_dd hD rfl) (Nat.le_of_ble_eq_true rfl) dX13_readPart_27 (fun r6 σ6 p6 => ?_)
      refine jr_ifne (pc := 30) hX 38 dX13_readPart_30 (by decide) ?_ ?_
      · refine jr_wk [true, false, true, false, true] ?_
        exact jj5 () _
      · refine jr_ald0 (pc := 33) hX dX13_readPart_33 ?_
        refine jr_iconst (pc := 34) hX 4 rfl dX13_readPart_34 ?_
        refine jr_cV1v (pc := 35) hX lX13_123 (c_X13_flaw hX.F σ6 t (p6.at (p1.at ht :) :) _) (jd_dd hD rfl) (Nat.le_of_ble_eq_true rfl) dX13_readPart_35 (p6.at (p1.at ht :) :) (fun r7 σ7 p7 => ?_)
        refine jr_wk [true, false, true, false, true] ?_
        exact jj5 () _
    · refine jr_ald0 (pc := 13) hX dX13_readPart_13 ?_
      refine jr_iconst (pc := 14) hX 1 rfl dX13_readPart_14 ?_
      refine jr_cV1v (pc := 15) hX lX13_123 (c_X13_flaw hX.F σ1 t (p1.at ht :) _) (jd_dd hD rfl) (Nat.le_of_ble_eq_true rfl) dX13_readPart_15 (p1.at ht :) (fun r8 σ8 p8 => ?_)
      refine jr_goto (pc := 18) hX 38 dX13_readPart_18 (by decide) ?_
      refine jr_wk [true, false, true, false, true] ?_
      exact jj5 () _
