theorem lX9_219 : jd_sl_ok RX9 219 := jd_mem 576 (by decide +kernel) (by decide +kernel)
theorem lX9_224 : jd_sc_ok RX9 224 := jd_mem 586 (by decide +kernel) (by decide +kernel)
theorem sX9_93 : jd_sr RX9 93 0 := jd_sr_of RX9 93 0 "beach" 571 (by decide +kernel) (by decide +kernel)
theorem qX9_isWord : Cond.instanceMethod yX9_isWord ∈ jd_TB ∧ Cond.selects RX9 yX9_isWord yX9_isWord ∈ jd_TB ∧ Cond.initialized RX9 ∈ jd_TB ∧ Cond.code yX9_isWord cX9_isWord 3 (some .boolean) ∈ jd_TB ∧ jd_ds yX9_isWord 1 := ⟨jd_mem 574 (by decide +kernel) (by decide +kernel), jd_mem 4 (by decide +kernel) (by decide +kernel), jd_mem 94 (by decide +kernel) (by decide +kernel), jd_mem 575 (by decide +kernel) (by decide +kernel), ⟨by decide, by decide, by decide +kernel⟩⟩
theorem lX9_95 : jd_mv RX9 95 9 16 yX9_isWord cX9_isWord 3 (some .boolean) 1 := ⟨_, _, rfl, by decide, rfl, Or.inl (jd_mem 572 (by decide +kernel) (by decide +kernel)), qX9_isWord.1, qX9_isWord.2.1, qX9_isWord.2.2.1, qX9_isWord.2.2.2.1, qX9_isWord.2.2.2.2, by decide⟩
theorem sX9_102 : jd_sr RX9 102 1 := jd_sr_of RX9 102 1 "person" 624 (by decide +kernel) (by decide +kernel)
theorem sX9_107 : jd_sr RX9 107 2 := jd_sr_of RX9 107 2 "post" 625 (by decide +kernel) (by decide +kernel)
theorem sX9_112 : jd_sr RX9 112 3 := jd_sr_of RX9 112 3 "manned" 626 (by decide +kernel) (by decide +kernel)
theorem sX9_117 : jd_sr RX9 117 4 := jd_sr_of RX9 117 4 "knows" 627 (by decide +kernel) (by decide +kernel)
theorem sX9_122 : jd_sr RX9 122 5 := jd_sr_of RX9 122 5 "waved" 628 (by decide +kernel) (by decide +kernel)
theorem sX9_217 : jd_sr RX9 217 6 := jd_sr_of RX9 217 6 "still" 629 (by decide +kernel) (by decide +kernel)
theorem qX9_advance : Cond.instanceMethod yX9_advance ∈ jd_TB ∧ Cond.selects RX9 yX9_advance yX9_advance ∈ jd_TB ∧ Cond.initialized RX9 ∈ jd_TB ∧ Cond.code yX9_advance cX9_advance 3 none ∈ jd_TB ∧ jd_ds yX9_advance 0 := ⟨jd_mem 559 (by decide +kernel) (by decide +kernel), jd_mem 2 (by decide +kernel) (by decide +kernel), jd_mem 94 (by decide +kernel) (by decide +kernel), jd_mem 560 (by decide +kernel) (by decide +kernel), ⟨by decide, by decide, by decide +kernel⟩⟩
theorem lX9_79 : jd_mv RX9 79 9 16 yX9_advance cX9_advance 3 none 0 := ⟨_, _, rfl, by decide, rfl, Or.inl (jd_mem 557 (by decide +kernel) (by decide +kernel)), qX9_advance.1, qX9_advance.2.1, qX9_advance.2.2.1, qX9_advance.2.2.2.1, qX9_advance.2.2.2.2, by decide⟩
theorem qX9_wholeValue : Cond.instanceMethod yX9_wholeValue ∈ jd_TB ∧ Cond.selects RX9 yX9_wholeValue yX9_wholeValue ∈ jd_TB ∧ Cond.initialized RX9 ∈ jd_TB ∧ Cond.code yX9_wholeValue cX9_wholeValue 3 (some .int) ∈ jd_TB ∧ jd_ds yX9_wholeValue 0 := ⟨jd_mem 645 (by decide +kernel) (by decide +kernel), jd_mem 8 (by decide +kernel) (by decide +kernel), jd_mem 94 (by decide +kernel) (by decide +kernel), jd_mem 646 (by decide +kernel) (by decide +kernel), ⟨by decide, by decide, by decide +kernel⟩⟩
theorem lX9_200 : jd_mv RX9 200 9 16 yX9_wholeValue cX9_wholeValue 3 (some .int) 0 := ⟨_, _, rfl, by decide, rfl, Or.inl (jd_mem 643 (by decide +kernel) (by decide +kernel)), qX9_wholeValue.1, qX9_wholeValue.2.1, qX9_wholeValue.2.2.1, qX9_wholeValue.2.2.2.1, qX9_wholeValue.2.2.2.2, by decide⟩
theorem qX9_fail : Cond.instanceMethod yX9_fail ∈ jd_TB ∧ Cond.selects RX9 yX9_fail yX9_fail ∈ jd_TB ∧ Cond.initialized RX9 ∈ jd_TB ∧ Cond.code yX9_fail cX9_fail 2 (some .boolean) ∈ jd_TB ∧ jd_ds yX9_fail 1 := ⟨jd_mem 632 (by decide +kernel) (by decide +kernel), jd_mem 5 (by decide +kernel) (by decide +kernel), jd_mem 94 (by decide +kernel) (by decide +kernel), jd_mem 633 (by decide +kernel) (by decide +kernel), ⟨by decide, by decide, by decide +kernel⟩⟩
theorem lX9_85 : jd_mv RX9 85 9 16 yX9_fail cX9_fail 2 (some .boolean) 1 := ⟨_, _, rfl, by decide, rfl, Or.inl (jd_mem 630 (by decide +kernel) (by decide +kernel)), qX9_fail.1, qX9_fail.2.1, qX9_fail.2.2.1, qX9_fail.2.2.2.1, qX9_fail.2.2.2.2, by decide⟩
theorem sX9_128 : jd_sr RX9 128 7 := jd_sr_of RX9 128 7 "limit" 638 (by decide +kernel) (by decide +kernel)
theorem qX9_labelled : Cond.instanceMethod yX9_labelled ∈ jd_TB ∧ Cond.selects RX9 yX9_labelled yX9_labelled ∈ jd_TB ∧ Cond.initialized RX9 ∈ jd_TB ∧ Cond.code yX9_labelled cX9_labelled 4 (some .boolean) ∈ jd_TB ∧ jd_ds yX9_labelled 3 := ⟨jd_mem 641 (by decide +kernel) (by decide +kernel), jd_mem 7 (by decide +kernel) (by decide +kernel), jd_mem 94 (by decide +kernel) (by decide +kernel), jd_mem 642 (by decide +kernel) (by decide +kernel), ⟨by decide, by decide, by decide +kernel⟩⟩
theorem lX9_130 : jd_mv RX9 130 9 16 yX9_labelled cX9_labelled 4 (some .boolean) 3 := ⟨_, _, rfl, by decide, rfl, Or.inl (jd_mem 639 (by decide +kernel) (by decide +kernel)), qX9_labelled.1, qX9_labelled.2.1, qX9_labelled.2.2.1, qX9_labelled.2.2.2.1, qX9_labelled.2.2.2.2, by decide⟩
theorem fX9_134 : jd_fl RX9 134 10 8 16 false := ⟨_, _, rfl, by decide, by decide, rfl, rfl, jd_mem 267 (by decide +kernel) (by decide +kernel)⟩
theorem sX9_136 : jd_sr RX9 136 8 := jd_sr_of RX9 136 8 "heat" 647 (by decide +kernel) (by decide +kernel)
theorem fX9_138 : jd_fl RX9 138 10 9 16 false := ⟨_, _, rfl, by decide, by decide, rfl, rfl, jd_mem 270 (by decide +kernel) (by decide +kernel)⟩
theorem sX9_140 : jd_sr RX9 140 9 := jd_sr_of RX9 140 9 "slips" 648 (by decide +kernel) (by decide +kernel)
theorem fX9_142 : jd_fl RX9 142 10 10 16 false := ⟨_, _, rfl, by decide, by decide, rfl, rfl, jd_mem 273 (by decide +kernel) (by decide +kernel)⟩
theorem qX9_isLineWord : Cond.instanceMethod yX9_isLineWord ∈ jd_TB ∧ Cond.selects RX9 yX9_isLineWord yX9_isLineWord ∈ jd_TB ∧ Cond.initialized RX9 ∈ jd_TB ∧ Cond.code yX9_isLineWord cX9_isLineWord 1 (some .boolean) ∈ jd_TB ∧ jd_ds yX9_isLineWord 0 := ⟨jd_mem 569 (by decide +kernel) (by decide +kernel), jd_mem 3 (by decide +kernel) (by decide +kernel), jd_mem 94 (by decide +kernel) (by decide +kernel), jd_mem 570 (by decide +kernel) (by decide +kernel), ⟨by decide, by decide, by decide +kernel⟩⟩
theorem lX9_89 : jd_mv RX9 89 9 16 yX9_isLineWord cX9_isLineWord 1 (some .boolean) 0 := ⟨_, _, rfl, by decide, rfl, Or.inl (jd_mem 567 (by decide +kernel) (by decide +kernel)), qX9_isLineWord.1, qX9_isLineWord.2.1, qX9_isLineWord.2.2.1, qX9_isLineWord.2.2.2.1, qX9_isLineWord.2.2.2.2, by decide⟩
theorem qX9_nameIndex : Cond.instanceMethod yX9_nameIndex ∈ jd_TB ∧ Cond.selects RX9 yX9_nameIndex yX9_nameIndex ∈ jd_TB ∧ Cond.initialized RX9 ∈ jd_TB ∧ Cond.code yX9_nameIndex cX9_nameIndex 2 (some .int) ∈ jd_TB ∧ jd_ds yX9_nameIndex 0 := ⟨jd_mem 659 (by decide +kernel) (by decide +kernel), jd_mem 11 (by decide +kernel) (by decide +kernel), jd_mem 94 (by decide +kernel) (by decide +kernel), jd_mem 660 (by decide +kernel) (by decide +kernel), ⟨by decide, by decide, by decide +kernel⟩⟩
theorem lX9_203 : jd_mv RX9 203 9 16 yX9_nameIndex cX9_nameIndex 2 (some .int) 0 := ⟨_, _, rfl, by decide, rfl, Or.inl (jd_mem 657 (by decide +kernel) (by decide +kernel)), qX9_nameIndex.1, qX9_nameIndex.2.1, qX9_nameIndex.2.2.1, qX9_nameIndex.2.2.2.1, qX9_nameIndex.2.2.2.2, by decide⟩
theorem sX9_209 : jd_sr RX9 209 10 := jd_sr_of RX9 209 10 "reader" 669 (by decide +kernel) (by decide +kernel)
theorem sX9_211 : jd_sr RX9 211 11 := jd_sr_of RX9 211 11 "talker" 670 (by decide +kernel) (by decide +kernel)
theorem sX9_213 : jd_sr RX9 213 12 := jd_sr_of RX9 213 12 "sleeper" 671 (by decide +kernel) (by decide +kernel)
theorem sX9_215 : jd_sr RX9 215 13 := jd_sr_of RX9 215 13 "child" 672 (by decide +kernel) (by decide +kernel)
theorem dX9_isWord_0 : decode cX9_isWord 0 = .ok (.aload_n 0, 1) := by decide +kernel
theorem dX9_isWord_1 : decode cX9_isWord 1 = .ok (.getfield 35, 3) := by decide +kernel
theorem dX9_isWord_4 : decode cX9_isWord 4 = .ok (.iconst 1, 1) := by decide +kernel
theorem dX9_isWord_5 : decode cX9_isWord 5 = .ok (.if_icmp .ne 14, 3) := by decide +kernel
theorem dX9_isWord_8 : decode cX9_isWord 8 = .ok (.aload_n 1, 1) := by decide +kernel
theorem dX9_isWord_9 : decode cX9_isWord 9 = .ok (.invokevirtual 219, 3) := by decide +kernel
theorem dX9_isWord_12 : decode cX9_isWord 12 = .ok (.aload_n 0, 1) := by decide +kernel
theorem dX9_isWord_13 : decode cX9_isWord 13 = .ok (.getfield 41, 3) := by decide +kernel
theorem dX9_isWord_16 : decode cX9_isWord 16 = .ok (.if_icmp .eq 5, 3) := by decide +kernel
theorem dX9_isWord_19 : decode cX9_isWord 19 = .ok (.iconst 0, 1) := by decide +kernel
theorem dX9_isWord_20 : decode cX9_isWord 20 = .ok (.ireturn, 1) := by decide +kernel
theorem dX9_isWord_21 : decode cX9_isWord 21 = .ok (.iconst 0, 1) := by decide +kernel
theorem dX9_isWord_22 : decode cX9_isWord 22 = .ok (.istore_n 2, 1) := by decide +kernel
theorem dX9_isWord_23 : decode cX9_isWord 23 = .ok (.iload_n 2, 1) := by decide +kernel
theorem dX9_isWord_24 : decode cX9_isWord 24 = .ok (.aload_n 0, 1) := by decide +kernel
theorem dX9_isWord_25 : decode cX9_isWord 25 = .ok (.getfield 41, 3) := by decide +kernel
theorem dX9_isWord_28 : decode cX9_isWord 28 = .ok (.if_icmp .ge 30, 3) := by decide +kernel
theorem dX9_isWord_31 : decode cX9_isWord 31 = .ok (.aload_n 0, 1) := by decide +kernel
theorem dX9_isWord_32 : decode cX9_isWord 32 = .ok (.getfield 60, 3) := by decide +kernel
theorem dX9_isWord_35 : decode cX9_isWord 35 = .ok (.aload_n 0, 1) := by decide +kernel
theorem dX9_isWord_36 : decode cX9_isWord 36 = .ok (.getfield 38, 3) := by decide +kernel
theorem dX9_isWord_39 : decode cX9_isWord 39 = .ok (.iload_n 2, 1) := by decide +kernel
theorem dX9_isWord_40 : decode cX9_isWord 40 = .ok (.iadd, 1) := by decide +kernel
theorem dX9_isWord_41 : decode cX9_isWord 41 = .ok (.baload, 1) := by decide +kernel
theorem dX9_isWord_42 : decode cX9_isWord 42 = .ok (.aload_n 1, 1) := by decide +kernel
theorem dX9_isWord_43 : decode cX9_isWord 43 = .ok (.iload_n 2, 1) := by decide +kernel
theorem dX9_isWord_44 : decode cX9_isWord 44 = .ok (.invokevirtual 224, 3) := by decide +kernel
theorem dX9_isWord_47 : decode cX9_isWord 47 = .ok (.if_icmp .eq 5, 3) := by decide +kernel
theorem dX9_isWord_50 : decode cX9_isWord 50 = .ok (.iconst 0, 1) := by decide +kernel
theorem dX9_isWord_51 : decode cX9_isWord 51 = .ok (.ireturn, 1) := by decide +kernel
theorem dX9_isWord_52 : decode cX9_isWord 52 = .ok (.iinc 2 1, 3) := by decide +kernel
theorem dX9_isWord_55 : decode cX9_isWord 55 = .ok (.goto (-32), 3) := by decide +kernel
theorem dX9_isWord_58 : decode cX9_isWord 58 = .ok (.iconst 1, 1) := by decide +kernel
theorem dX9_isWord_59 : decode cX9_isWord 59 = .ok (.ireturn, 1) := by decide +kernel
theorem dX9_isLineWord_0 : decode cX9_isLineWord 0 = .ok (.aload_n 0, 1) := by decide +kernel
theorem dX9_isLineWord_1 : decode cX9_isLineWord 1 = .ok (.ldc 93, 2) := by decide +kernel
theorem dX9_isLineWord_3 : decode cX9_isLineWord 3 = .ok (.invokevirtual 95, 3) := by decide +kernel
theorem dX9_isLineWord_6 : decode cX9_isLineWord 6 = .ok (.ifCond .ne 57, 3) := by decide +kernel
theorem dX9_isLineWord_9 : decode cX9_isLineWord 9 = .ok (.aload_n 0, 1) := by decide +kernel
theorem dX9_isLineWord_10 : decode cX9_isLineWord 10 = .ok (.ldc 102, 2) := by decide +kernel
theorem dX9_isLineWord_12 : decode cX9_isLineWord 12 = .ok (.invokevirtual 95, 3) := by decide +kernel
theorem dX9_isLineWord_15 : decode cX9_isLineWord 15 = .ok (.ifCond .ne 48, 3) := by decide +kernel
theorem dX9_isLineWord_18 : decode cX9_isLineWord 18 = .ok (.aload_n 0, 1) := by decide +kernel
theorem dX9_isLineWord_19 : decode cX9_isLineWord 19 = .ok (.ldc 107, 2) := by decide +kernel
theorem dX9_isLineWord_21 : decode cX9_isLineWord 21 = .ok (.invokevirtual 95, 3) := by decide +kernel
theorem dX9_isLineWord_24 : decode cX9_isLineWord 24 = .ok (.ifCond .ne 39, 3) := by decide +kernel
theorem dX9_isLineWord_27 : decode cX9_isLineWord 27 = .ok (.aload_n 0, 1) := by decide +kernel
theorem dX9_isLineWord_28 : decode cX9_isLineWord 28 = .ok (.ldc 112, 2) := by decide +kernel
theorem dX9_isLineWord_30 : decode cX9_isLineWord 30 = .ok (.invokevirtual 95, 3) := by decide +kernel
theorem dX9_isLineWord_33 : decode cX9_isLineWord 33 = .ok (.ifCond .ne 30, 3) := by decide +kernel
theorem dX9_isLineWord_36 : decode cX9_isLineWord 36 = .ok (.aload_n 0, 1) := by decide +kernel
theorem dX9_isLineWord_37 : decode cX9_isLineWord 37 = .ok (.ldc 117, 2) := by decide +kernel
theorem dX9_isLineWord_39 : decode cX9_isLineWord 39 = .ok (.invokevirtual 95, 3) := by decide +kernel
theorem dX9_isLineWord_42 : decode cX9_isLineWord 42 = .ok (.ifCond .ne 21, 3) := by decide +kernel
theorem dX9_isLineWord_45 : decode cX9_isLineWord 45 = .ok (.aload_n 0, 1) := by decide +kernel
theorem dX9_isLineWord_46 : decode cX9_isLineWord 46 = .ok (.ldc 122, 2) := by decide +kernel
theorem dX9_isLineWord_48 : decode cX9_isLineWord 48 = .ok (.invokevirtual 95, 3) := by decide +kernel
theorem dX9_isLineWord_51 : decode cX9_isLineWord 51 = .ok (.ifCond .ne 12, 3) := by decide +kernel
theorem dX9_isLineWord_54 : decode cX9_isLineWord 54 = .ok (.aload_n 0, 1) := by decide +kernel
theorem dX9_isLineWord_55 : decode cX9_isLineWord 55 = .ok (.ldc 217, 2) := by decide +kernel
theorem dX9_isLineWord_57 : decode cX9_isLineWord 57 = .ok (.invokevirtual 95, 3) := by decide +kernel
theorem dX9_isLineWord_60 : decode cX9_isLineWord 60 = .ok (.ifCond .eq 7, 3) := by decide +kernel
theorem dX9_isLineWord_63 : decode cX9_isLineWord 63 = .ok (.iconst 1, 1) := by decide +kernel
theorem dX9_isLineWord_64 : decode cX9_isLineWord 64 = .ok (.goto 4, 3) := by decide +kernel
theorem dX9_isLineWord_67 : decode cX9_isLineWord 67 = .ok (.iconst 0, 1) := by decide +kernel
theorem dX9_isLineWord_68 : decode cX9_isLineWord 68 = .ok (.ireturn, 1) := by decide +kernel
theorem dX9_labelled_0 : decode cX9_labelled 0 = .ok (.aload_n 0, 1) := by decide +kernel
theorem dX9_labelled_1 : decode cX9_labelled 1 = .ok (.invokevirtual 79, 3) := by decide +kernel
theorem dX9_labelled_4 : decode cX9_labelled 4 = .ok (.aload_n 0, 1) := by decide +kernel
theorem dX9_labelled_5 : decode cX9_labelled 5 = .ok (.aload_n 1, 1) := by decide +kernel
theorem dX9_labelled_6 : decode cX9_labelled 6 = .ok (.invokevirtual 95, 3) := by decide +kernel
theorem dX9_labelled_9 : decode cX9_labelled 9 = .ok (.ifCond .ne 9, 3) := by decide +kernel
theorem dX9_labelled_12 : decode cX9_labelled 12 = .ok (.aload_n 0, 1) := by decide +kernel
theorem dX9_labelled_13 : decode cX9_labelled 13 = .ok (.iconst 1, 1) := by decide +kernel
theorem dX9_labelled_14 : decode cX9_labelled 14 = .ok (.invokevirtual 85, 3) := by decide +kernel
theorem dX9_labelled_17 : decode cX9_labelled 17 = .ok (.ireturn, 1) := by decide +kernel
theorem dX9_labelled_18 : decode cX9_labelled 18 = .ok (.aload_n 0, 1) := by decide +kernel
theorem dX9_labelled_19 : decode cX9_labelled 19 = .ok (.invokevirtual 79, 3) := by decide +kernel
theorem dX9_labelled_22 : decode cX9_labelled 22 = .ok (.aload_n 0, 1) := by decide +kernel
theorem dX9_labelled_23 : decode cX9_labelled 23 = .ok (.getfield 35, 3) := by decide +kernel
theorem dX9_labelled_26 : decode cX9_labelled 26 = .ok (.iconst 2, 1) := by decide +kernel
theorem dX9_labelled_27 : decode cX9_labelled 27 = .ok (.if_icmp .eq 9, 3) := by decide +kernel
theorem dX9_labelled_30 : decode cX9_labelled 30 = .ok (.aload_n 0, 1) := by decide +kernel
theorem dX9_labelled_31 : decode cX9_labelled 31 = .ok (.iconst 1, 1) := by decide +kernel
theorem dX9_labelled_32 : decode cX9_labelled 32 = .ok (.invokevirtual 85, 3) := by decide +kernel
theorem dX9_labelled_35 : decode cX9_labelled 35 = .ok (.ireturn, 1) := by decide +kernel
theorem dX9_labelled_36 : decode cX9_labelled 36 = .ok (.aload_n 0, 1) := by decide +kernel
theorem dX9_labelled_37 : decode cX9_labelled 37 = .ok (.aload_n 0, 1) := by decide +kernel
theorem dX9_labelled_38 : decode cX9_labelled 38 = .ok (.invokevirtual 200, 3) := by decide +kernel
theorem dX9_labelled_41 : decode cX9_labelled 41 = .ok (.putfield 44, 3) := by decide +kernel
theorem dX9_labelled_44 : decode cX9_labelled 44 = .ok (.aload_n 0, 1) := by decide +kernel
theorem dX9_labelled_45 : decode cX9_labelled 45 = .ok (.getfield 44, 3) := by decide +kernel
theorem dX9_labelled_48 : decode cX9_labelled 48 = .ok (.iload_n 2, 1) := by decide +kernel
theorem dX9_labelled_49 : decode cX9_labelled 49 = .ok (.if_icmp .lt 11, 3) := by decide +kernel
theorem dX9_labelled_52 : decode cX9_labelled 52 = .ok (.aload_n 0, 1) := by decide +kernel
theorem dX9_labelled_53 : decode cX9_labelled 53 = .ok (.getfield 44, 3) := by decide +kernel
theorem dX9_labelled_56 : decode cX9_labelled 56 = .ok (.iload_n 3, 1) := by decide +kernel
theorem dX9_labelled_57 : decode cX9_labelled 57 = .ok (.if_icmp .le 11, 3) := by decide +kernel
theorem dX9_labelled_60 : decode cX9_labelled 60 = .ok (.aload_n 0, 1) := by decide +kernel
theorem dX9_labelled_61 : decode cX9_labelled 61 = .ok (.iconst 4, 1) := by decide +kernel
theorem dX9_labelled_62 : decode cX9_labelled 62 = .ok (.invokevirtual 85, 3) := by decide +kernel
theorem dX9_labelled_65 : decode cX9_labelled 65 = .ok (.ifCond .eq 7, 3) := by decide +kernel
theorem dX9_labelled_68 : decode cX9_labelled 68 = .ok (.iconst 1, 1) := by decide +kernel
theorem dX9_labelled_69 : decode cX9_labelled 69 = .ok (.goto 4, 3) := by decide +kernel
theorem dX9_labelled_72 : decode cX9_labelled 72 = .ok (.iconst 0, 1) := by decide +kernel
theorem dX9_labelled_73 : decode cX9_labelled 73 = .ok (.ireturn, 1) := by decide +kernel
theorem dX9_readBeach_0 : decode cX9_readBeach 0 = .ok (.aload_n 0, 1) := by decide +kernel
theorem dX9_readBeach_1 : decode cX9_readBeach 1 = .ok (.iconst 1, 1) := by decide +kernel
theorem dX9_readBeach_2 : decode cX9_readBeach 2 = .ok (.putfield 50, 3) := by decide +kernel
theorem dX9_readBeach_5 : decode cX9_readBeach 5 = .ok (.aload_n 0, 1) := by decide +kernel
theorem dX9_readBeach_6 : decode cX9_readBeach 6 = .ok (.ldc 128, 2) := by decide +kernel
theorem dX9_readBeach_8 : decode cX9_readBeach 8 = .ok (.iconst 1, 1) := by decide +kernel
theorem dX9_readBeach_9 : decode cX9_readBeach 9 = .ok (.bipush 60, 2) := by decide +kernel
theorem dX9_readBeach_11 : decode cX9_readBeach 11 = .ok (.invokevirtual 130, 3) := by decide +kernel
theorem dX9_readBeach_14 : decode cX9_readBeach 14 = .ok (.ifCond .ne 5, 3) := by decide +kernel
theorem dX9_readBeach_17 : decode cX9_readBeach 17 = .ok (.iconst 0, 1) := by decide +kernel
theorem dX9_readBeach_18 : decode cX9_readBeach 18 = .ok (.ireturn, 1) := by decide +kernel
theorem dX9_readBeach_19 : decode cX9_readBeach 19 = .ok (.aload_n 1, 1) := by decide +kernel
theorem dX9_readBeach_20 : decode cX9_readBeach 20 = .ok (.aload_n 0, 1) := by decide +kernel
theorem dX9_readBeach_21 : decode cX9_readBeach 21 = .ok (.getfield 44, 3) := by decide +kernel
theorem dX9_readBeach_24 : decode cX9_readBeach 24 = .ok (.putfield 134, 3) := by decide +kernel
theorem dX9_readBeach_27 : decode cX9_readBeach 27 = .ok (.aload_n 0, 1) := by decide +kernel
theorem dX9_readBeach_28 : decode cX9_readBeach 28 = .ok (.ldc 136, 2) := by decide +kernel
theorem dX9_readBeach_30 : decode cX9_readBeach 30 = .ok (.iconst 0, 1) := by decide +kernel
theorem dX9_readBeach_31 : decode cX9_readBeach 31 = .ok (.bipush 9, 2) := by decide +kernel
theorem dX9_readBeach_33 : decode cX9_readBeach 33 = .ok (.invokevirtual 130, 3) := by decide +kernel
theorem dX9_readBeach_36 : decode cX9_readBeach 36 = .ok (.ifCond .ne 5, 3) := by decide +kernel
theorem dX9_readBeach_39 : decode cX9_readBeach 39 = .ok (.iconst 0, 1) := by decide +kernel
theorem dX9_readBeach_40 : decode cX9_readBeach 40 = .ok (.ireturn, 1) := by decide +kernel
theorem dX9_readBeach_41 : decode cX9_readBeach 41 = .ok (.aload_n 1, 1) := by decide +kernel
theorem dX9_readBeach_42 : decode cX9_readBeach 42 = .ok (.aload_n 0, 1) := by decide +kernel
theorem dX9_readBeach_43 : decode cX9_readBeach 43 = .ok (.getfield 44, 3) := by decide +kernel
theorem dX9_readBeach_46 : decode cX9_readBeach 46 = .ok (.putfield 138, 3) := by decide +kernel
theorem dX9_readBeach_49 : decode cX9_readBeach 49 = .ok (.aload_n 0, 1) := by decide +kernel
theorem dX9_readBeach_50 : decode cX9_readBeach 50 = .ok (.ldc 140, 2) := by decide +kernel
theorem dX9_readBeach_52 : decode cX9_readBeach 52 = .ok (.iconst 0, 1) := by decide +kernel
theorem dX9_readBeach_53 : decode cX9_readBeach 53 = .ok (.bipush 100, 2) := by decide +kernel
theorem dX9_readBeach_55 : decode cX9_readBeach 55 = .ok (.invokevirtual 130, 3) := by decide +kernel
theorem dX9_readBeach_58 : decode cX9_readBeach 58 = .ok (.ifCond .ne 5, 3) := by decide +kernel
theorem dX9_readBeach_61 : decode cX9_readBeach 61 = .ok (.iconst 0, 1) := by decide +kernel
theorem dX9_readBeach_62 : decode cX9_readBeach 62 = .ok (.ireturn, 1) := by decide +kernel
theorem dX9_readBeach_63 : decode cX9_readBeach 63 = .ok (.aload_n 1, 1) := by decide +kernel
theorem dX9_readBeach_64 : decode cX9_readBeach 64 = .ok (.aload_n 0, 1) := by decide +kernel
theorem dX9_readBeach_65 : decode cX9_readBeach 65 = .ok (.getfield 44, 3) := by decide +kernel
theorem dX9_readBeach_68 : decode cX9_readBeach 68 = .ok (.putfield 142, 3) := by decide +kernel
theorem dX9_readBeach_71 : decode cX9_readBeach 71 = .ok (.iconst 1, 1) := by decide +kernel
theorem dX9_readBeach_72 : decode cX9_readBeach 72 = .ok (.ireturn, 1) := by decide +kernel
theorem dX9_newName_0 : decode cX9_newName 0 = .ok (.aload_n 0, 1) := by decide +kernel
theorem dX9_newName_1 : decode cX9_newName 1 = .ok (.invokevirtual 79, 3) := by decide +kernel
theorem dX9_newName_4 : decode cX9_newName 4 = .ok (.aload_n 0, 1) := by decide +kernel
theorem dX9_newName_5 : decode cX9_newName 5 = .ok (.getfield 35, 3) := by decide +kernel
theorem dX9_newName_8 : decode cX9_newName 8 = .ok (.iconst 1, 1) := by decide +kernel
theorem dX9_newName_9 : decode cX9_newName 9 = .ok (.if_icmp .ne 10, 3) := by decide +kernel
theorem dX9_newName_12 : decode cX9_newName 12 = .ok (.aload_n 0, 1) := by decide +kernel
theorem dX9_newName_13 : decode cX9_newName 13 = .ok (.invokevirtual 89, 3) := by decide +kernel
theorem dX9_newName_16 : decode cX9_newName 16 = .ok (.ifCond .eq 9, 3) := by decide +kernel
theorem dX9_newName_19 : decode cX9_newName 19 = .ok (.aload_n 0, 1) := by decide +kernel
theorem dX9_newName_20 : decode cX9_newName 20 = .ok (.iconst 1, 1) := by decide +kernel
theorem dX9_newName_21 : decode cX9_newName 21 = .ok (.invokevirtual 85, 3) := by decide +kernel
theorem dX9_newName_24 : decode cX9_newName 24 = .ok (.ireturn, 1) := by decide +kernel
theorem dX9_newName_25 : decode cX9_newName 25 = .ok (.aload_n 0, 1) := by decide +kernel
theorem dX9_newName_26 : decode cX9_newName 26 = .ok (.invokevirtual 203, 3) := by decide +kernel
theorem dX9_newName_29 : decode cX9_newName 29 = .ok (.iconst (-1), 1) := by decide +kernel
theorem dX9_newName_30 : decode cX9_newName 30 = .ok (.if_icmp .ne 12, 3) := by decide +kernel
theorem dX9_newName_33 : decode cX9_newName 33 = .ok (.aload_n 0, 1) := by decide +kernel
theorem dX9_newName_34 : decode cX9_newName 34 = .ok (.getfield 25, 3) := by decide +kernel
theorem dX9_newName_37 : decode cX9_newName 37 = .ok (.bipush 11, 2) := by decide +kernel
theorem dX9_newName_39 : decode cX9_newName 39 = .ok (.if_icmp .lt 9, 3) := by decide +kernel
theorem dX9_newName_42 : decode cX9_newName 42 = .ok (.aload_n 0, 1) := by decide +kernel
theorem dX9_newName_43 : decode cX9_newName 43 = .ok (.iconst 3, 1) := by decide +kernel
theorem dX9_newName_44 : decode cX9_newName 44 = .ok (.invokevirtual 85, 3) := by decide +kernel
theorem dX9_newName_47 : decode cX9_newName 47 = .ok (.ireturn, 1) := by decide +kernel
theorem dX9_newName_48 : decode cX9_newName 48 = .ok (.aload_n 0, 1) := by decide +kernel
theorem dX9_newName_49 : decode cX9_newName 49 = .ok (.getfield 11, 3) := by decide +kernel
theorem dX9_newName_52 : decode cX9_newName 52 = .ok (.aload_n 0, 1) := by decide +kernel
theorem dX9_newName_53 : decode cX9_newName 53 = .ok (.getfield 25, 3) := by decide +kernel
theorem dX9_newName_56 : decode cX9_newName 56 = .ok (.aload_n 0, 1) := by decide +kernel
theorem dX9_newName_57 : decode cX9_newName 57 = .ok (.getfield 38, 3) := by decide +kernel
theorem dX9_newName_60 : decode cX9_newName 60 = .ok (.iastore, 1) := by decide +kernel
theorem dX9_newName_61 : decode cX9_newName 61 = .ok (.aload_n 0, 1) := by decide +kernel
theorem dX9_newName_62 : decode cX9_newName 62 = .ok (.getfield 15, 3) := by decide +kernel
theorem dX9_newName_65 : decode cX9_newName 65 = .ok (.aload_n 0, 1) := by decide +kernel
theorem dX9_newName_66 : decode cX9_newName 66 = .ok (.getfield 25, 3) := by decide +kernel
theorem dX9_newName_69 : decode cX9_newName 69 = .ok (.aload_n 0, 1) := by decide +kernel
theorem dX9_newName_70 : decode cX9_newName 70 = .ok (.getfield 41, 3) := by decide +kernel
theorem dX9_newName_73 : decode cX9_newName 73 = .ok (.iastore, 1) := by decide +kernel
theorem dX9_newName_74 : decode cX9_newName 74 = .ok (.aload_n 0, 1) := by decide +kernel
theorem dX9_newName_75 : decode cX9_newName 75 = .ok (.getfield 18, 3) := by decide +kernel
theorem dX9_newName_78 : decode cX9_newName 78 = .ok (.aload_n 0, 1) := by decide +kernel
theorem dX9_newName_79 : decode cX9_newName 79 = .ok (.getfield 25, 3) := by decide +kernel
theorem dX9_newName_82 : decode cX9_newName 82 = .ok (.iload_n 2, 1) := by decide +kernel
theorem dX9_newName_83 : decode cX9_newName 83 = .ok (.iastore, 1) := by decide +kernel
theorem dX9_newName_84 : decode cX9_newName 84 = .ok (.aload_n 0, 1) := by decide +kernel
theorem dX9_newName_85 : decode cX9_newName 85 = .ok (.getfield 21, 3) := by decide +kernel
theorem dX9_newName_88 : decode cX9_newName 88 = .ok (.aload_n 0, 1) := by decide +kernel
theorem dX9_newName_89 : decode cX9_newName 89 = .ok (.getfield 25, 3) := by decide +kernel
theorem dX9_newName_92 : decode cX9_newName 92 = .ok (.iload_n 1, 1) := by decide +kernel
theorem dX9_newName_93 : decode cX9_newName 93 = .ok (.bastore, 1) := by decide +kernel
theorem dX9_newName_94 : decode cX9_newName 94 = .ok (.aload_n 0, 1) := by decide +kernel
theorem dX9_newName_95 : decode cX9_newName 95 = .ok (.dup, 1) := by decide +kernel
theorem dX9_newName_96 : decode cX9_newName 96 = .ok (.getfield 25, 3) := by decide +kernel
theorem dX9_newName_99 : decode cX9_newName 99 = .ok (.iconst 1, 1) := by decide +kernel
theorem dX9_newName_100 : decode cX9_newName 100 = .ok (.iadd, 1) := by decide +kernel
theorem dX9_newName_101 : decode cX9_newName 101 = .ok (.putfield 25, 3) := by decide +kernel
theorem dX9_newName_104 : decode cX9_newName 104 = .ok (.iconst 1, 1) := by decide +kernel
theorem dX9_newName_105 : decode cX9_newName 105 = .ok (.ireturn, 1) := by decide +kernel
theorem dX9_kindTold_0 : decode cX9_kindTold 0 = .ok (.aload_n 0, 1) := by decide +kernel
theorem dX9_kindTold_1 : decode cX9_kindTold 1 = .ok (.ldc 209, 2) := by decide +kernel
theorem dX9_kindTold_3 : decode cX9_kindTold 3 = .ok (.invokevirtual 95, 3) := by decide +kernel
theorem dX9_kindTold_6 : decode cX9_kindTold 6 = .ok (.ifCond .eq 5, 3) := by decide +kernel
theorem dX9_kindTold_9 : decode cX9_kindTold 9 = .ok (.iconst 0, 1) := by decide +kernel
theorem dX9_kindTold_10 : decode cX9_kindTold 10 = .ok (.ireturn, 1) := by decide +kernel
theorem dX9_kindTold_11 : decode cX9_kindTold 11 = .ok (.aload_n 0, 1) := by decide +kernel
theorem dX9_kindTold_12 : decode cX9_kindTold 12 = .ok (.ldc 211, 2) := by decide +kernel
theorem dX9_kindTold_14 : decode cX9_kindTold 14 = .ok (.invokevirtual 95, 3) := by decide +kernel
theorem dX9_kindTold_17 : decode cX9_kindTold 17 = .ok (.ifCond .eq 5, 3) := by decide +kernel
theorem dX9_kindTold_20 : decode cX9_kindTold 20 = .ok (.iconst 1, 1) := by decide +kernel
theorem dX9_kindTold_21 : decode cX9_kindTold 21 = .ok (.ireturn, 1) := by decide +kernel
theorem dX9_kindTold_22 : decode cX9_kindTold 22 = .ok (.aload_n 0, 1) := by decide +kernel
theorem dX9_kindTold_23 : decode cX9_kindTold 23 = .ok (.ldc 213, 2) := by decide +kernel
theorem dX9_kindTold_25 : decode cX9_kindTold 25 = .ok (.invokevirtual 95, 3) := by decide +kernel
theorem dX9_kindTold_28 : decode cX9_kindTold 28 = .ok (.ifCond .eq 5, 3) := by decide +kernel
theorem dX9_kindTold_31 : decode cX9_kindTold 31 = .ok (.iconst 2, 1) := by decide +kernel
theorem dX9_kindTold_32 : decode cX9_kindTold 32 = .ok (.ireturn, 1) := by decide +kernel
theorem dX9_kindTold_33 : decode cX9_kindTold 33 = .ok (.aload_n 0, 1) := by decide +kernel
theorem dX9_kindTold_34 : decode cX9_kindTold 34 = .ok (.ldc 215, 2) := by decide +kernel
theorem dX9_kindTold_36 : decode cX9_kindTold 36 = .ok (.invokevirtual 95, 3) := by decide +kernel
theorem dX9_kindTold_39 : decode cX9_kindTold 39 = .ok (.ifCond .eq 7, 3) := by decide +kernel
theorem dX9_kindTold_42 : decode cX9_kindTold 42 = .ok (.iconst 3, 1) := by decide +kernel
theorem dX9_kindTold_43 : decode cX9_kindTold 43 = .ok (.goto 4, 3) := by decide +kernel
theorem dX9_kindTold_46 : decode cX9_kindTold 46 = .ok (.iconst (-1), 1) := by decide +kernel
theorem dX9_kindTold_47 : decode cX9_kindTold 47 = .ok (.ireturn, 1) := by decide +kernel
def m_X9_isWord (t : Nat) (o0p : (Option Nat)) (σ : jd_Hp) : Option (Int32 × jd_Hp) :=
jd_if (¬ (σ.2.1 t 8) = 1) (
some (0, σ)) (
jd_sl σ o0p fun n1 =>
jd_if (n1 = (σ.2.1 t 10)) (
jd_b (jd_lp (S := Int32) (T := (Unit) ⊕ Int32) (fun s2 σ2 =>
jd_o σ2 (9, 16) (some t) fun a4 =>
jd_if ((σ2.2.1 a4 10) ≤ s2) (
some ((Sum.inr (Sum.inl ())), σ2)) (
jd_ia σ2 21 (σ2.2.2.2 a4 0) ((σ2.2.1 a4 9) + s2) fun a5 j5 =>
jd_sc σ2 o0p s2 fun n6 =>
jd_if ((σ2.2.1 a5 j5) = n6) (
some (Sum.inl (s2 + 1), σ2)) (
some (Sum.inr (Sum.inr 0), σ2)))) jd_fu 0 σ) (jd_q (fun t3 σ3 =>
some (1, σ3)) (fun v2 σ3 => some (v2, σ3)))) (
some (0, σ)))
set_option maxHeartbeats 4000000 in
set_option maxRecDepth 20000 in
theorem c_X9_isWord {l : Launch} {s0 : State} {G : jd_G} (hF : jd_F s0 G) (σ : jd_Hp) (t : Nat) (ht : σ.1[t]? = some (9, 16)) (o0p : (Option Nat)) : jd_M l s0 G yX9_isWord cX9_isWord 3 (some .boolean) 7 je_i [jd_v G (some t), jd_v G o0p] σ (m_X9_isWord t o0p σ) := by
  refine jd_enter hF (by decide) (fun G => [some (jd_v G (some t)), some (jd_v G o0p), none]) rfl (by simp [lv_args, jd_al, jd_v_cat, jd_cti, jd_ctl]) (by simp [lg_sl, jd_v_cat, jd_cti, jd_ctl]) (fun X hD hX => ?_)
  have hX : jd_C X RX9 "isWord" cX9_isWord 3 (some .boolean) := hX
  unfold m_X9_isWord
  refine jr_ald0 (pc := 0) hX dX9_isWord_0 ?_
  refine jr_geti (pc := 1) hX fX9_35 rfl dX9_isWord_1 ht ?_
  refine jr_iconst (pc := 4) hX 1 rfl dX9_isWord_4 ?_
  refine jr_icne (pc := 5) hX 19 dX9_isWord_5 (by decide) ?_ ?_
  · refine jr_iconst (pc := 19) hX 0 rfl dX9_isWord_19 ?_
    exact jr_zret (pc := 20) hX dX9_isWord_20 (Or.inl rfl) rfl
  · refine jr_ald1 (pc := 8) hX dX9_isWord_8 ?_
    refine jr_slen (pc := 9) hX lX9_219 (jd_dd hD rfl) (Nat.le_of_ble_eq_true rfl) dX9_isWord_9 (fun n1 => ?_)
    refine jr_ald0 (pc := 12) hX dX9_isWord_12 ?_
    refine jr_geti (pc := 13) hX fX9_41 rfl dX9_isWord_13 ht ?_
    refine jr_iceq (pc := 16) hX 21 dX9_isWord_16 (by decide) ?_ ?_
    · refine jr_iconst (pc := 21) hX 0 rfl dX9_isWord_21 ?_
      refine jr_ist2 (pc := 22) hX (jn_r _ _) dX9_isWord_22 ?_
      refine jr_loopR (pc := 23) (fun (s2 : Int32) => [some (jd_v (jd_gG X) (some t)), some (jd_v (jd_gG X) o0p), some (.int s2)]) (fun (t3 : Unit) => [none, none, none]) 58 0 (fun t3 σ3 => ?_) (fun K2 bk2 ex2 wr2 s2 σ2 => ?_)
      · refine jr_iconst (pc := 58) hX 1 rfl dX9_isWord_58 ?_
        exact jr_zret (pc := 59) hX dX9_isWord_59 (Or.inr rfl) rfl
      · refine jr_ild2 (pc := 23) hX dX9_isWord_23 ?_
        refine jr_ald0 (pc := 24) hX dX9_isWord_24 ?_
        refine jr_ck0 (fun a4 e4 h4 => ?_)
        refine jr_geti (pc := 25) hX fX9_41 rfl dX9_isWord_25 h4 ?_
        refine jr_icge (pc := 28) hX 58 dX9_isWord_28 (by decide) ?_ ?_
        · refine jr_wk [false, false, false] ?_
          exact ex2 () _
        · refine jr_ald0 (pc := 31) hX dX9_isWord_31 ?_
          refine jr_ek0 e4 ?_
          refine jr_getr (pc := 32) hX fX9_60 rfl dX9_isWord_32 h4 ?_
          refine jr_ald0 (pc := 35) hX dX9_isWord_35 ?_
          refine jr_ek0 e4 ?_
          refine jr_geti (pc := 36) hX fX9_38 rfl dX9_isWord_36 h4 ?_
          refine jr_ild2 (pc := 39) hX dX9_isWord_39 ?_
          refine jr_iadd (pc := 40) hX dX9_isWord_40 ?_
          refine jr_baC (pc := 41) hX dX9_isWord_41 (fun a5 n5 e5 h5 => ?_)
          refine jr_ald1 (pc := 42) hX dX9_isWord_42 ?_
          refine jr_ild2 (pc := 43) hX dX9_isWord_43 ?_
          refine jr_schr (pc := 44) hX lX9_224 (jd_dd hD rfl) (Nat.le_of_ble_eq_true rfl) dX9_isWord_44 (fun n6 => ?_)
          refine jr_iceq (pc := 47) hX 52 dX9_isWord_47 (by decide) ?_ ?_
          · refine jr_inc2 (pc := 52) hX 1 rfl (jn_r _ _) dX9_isWord_52 ?_
            refine jr_goto (pc := 55) hX 23 dX9_isWord_55 (by decide) ?_
            exact bk2 (s2 + 1) _
          · refine jr_iconst (pc := 50) hX 0 rfl dX9_isWord_50 ?_
            exact jr_zret (pc := 51) hX dX9_isWord_51 (Or.inl rfl) ((wr2 _ _).trans rfl)
    · refine jr_iconst (pc := 19) hX 0 rfl dX9_isWord_19 ?_
      exact jr_zret (pc := 20) hX dX9_isWord_20 (Or.inl rfl) rfl
def m_X9_isLineWord (t : Nat) (σ : jd_Hp) : Option (Int32 × jd_Hp) :=
jd_b (m_X9_isWord t (some 0) σ) fun r1 σ1 =>
jd_if (¬ r1 = 0) (
some (1, σ1)) (
jd_b (m_X9_isWord t (some 1) σ1) fun r2 σ2 =>
jd_if (¬ r2 = 0) (
some (1, σ2)) (
jd_b (m_X9_isWord t (some 2) σ2) fun r3 σ3 =>
jd_if (¬ r3 = 0) (
some (1, σ3)) (
jd_b (m_X9_isWord t (some 3) σ3) fun r4 σ4 =>
jd_if (¬ r4 = 0) (
some (1, σ4)) (
jd_b (m_X9_isWord t (some 4) σ4) fun r5 σ5 =>
jd_if (¬ r5 = 0) (
some (1, σ5)) (
jd_b (m_X9_isWord t (some 5) σ5) fun r6 σ6 =>
jd_if (¬ r6 = 0) (
some (1, σ6)) (
jd_b (m_X9_isWord t (some 6) σ6) fun r7 σ7 =>
jd_if (r7 = 0) (
some (0, σ7)) (
some (1, σ7))))))))
set_option maxHeartbeats 4000000 in
set_option maxRecDepth 20000 in
theorem c_X9_isLineWord {l : Launch} {s0 : State} {G : jd_G} (hF : jd_F s0 G) (σ : jd_Hp) (t : Nat) (ht : σ.1[t]? = some (9, 16)) : jd_M l s0 G yX9_isLineWord cX9_isLineWord 1 (some .boolean) 8 je_i [jd_v G (some t)] σ (m_X9_isLineWord t σ) := by
  refine jd_enter hF (by decide) (fun G => [some (jd_v G (some t))]) rfl (by simp [lv_args, jd_al, jd_v_cat, jd_cti, jd_ctl]) (by simp [lg_sl, jd_v_cat, jd_cti, jd_ctl]) (fun X hD hX => ?_)
  have hX : jd_C X RX9 "isLineWord" cX9_isLineWord 1 (some .boolean) := hX
  unfold m_X9_isLineWord
  refine jr_ald0 (pc := 0) hX dX9_isLineWord_0 ?_
  refine jr_ldcS (pc := 1) hX sX9_93 dX9_isLineWord_1 ?_
  refine jr_cV1i (pc := 3) hX lX9_95 (c_X9_isWord hX.F σ t ht _) (jd_dd hD rfl) (Nat.le_of_ble_eq_true rfl) dX9_isLineWord_3 ht (fun r1 σ1 p1 => ?_)
  refine jr_ifne (pc := 6) hX 63 dX9_isLineWord_6 (by decide) ?_ ?_
  · refine jr_iconst (pc := 63) hX 1 rfl dX9_isLineWord_63 ?_
    refine jr_goto (pc := 64) hX 68 dX9_isLineWord_64 (by decide) ?_
    exact jr_zret (pc := 68) hX dX9_isLineWord_68 (Or.inr rfl) rfl
  · refine jr_ald0 (pc := 9) hX dX9_isLineWord_9 ?_
    refine jr_ldcS (pc := 10) hX sX9_102 dX9_isLineWord_10 ?_
    refine jr_cV1i (pc := 12) hX lX9_95 (c_X9_isWord hX.F σ1 t (p1.at ht :) _) (jd_dd hD rfl) (Nat.le_of_ble_eq_true rfl) dX9_isLineWord_12 (p1.at ht :) (fun r2 σ2 p2 => ?_)
    refine jr_ifne (pc := 15) hX 63 dX9_isLineWord_15 (by decide) ?_ ?_
    · refine jr_iconst (pc := 63) hX 1 rfl dX9_isLineWord_63 ?_
      refine jr_goto (pc := 64) hX 68 dX9_isLineWord_64 (by decide) ?_
      exact jr_zret (pc := 68) hX dX9_isLineWord_68 (Or.inr rfl) rfl
    · refine jr_ald0 (pc := 18) hX dX9_isLineWord_18 ?_
      refine jr_ldcS (pc := 19) hX sX9_107 dX9_isLineWord_19 ?_
      refine jr_cV1i (pc := 21) hX lX9_95 (c_X9_isWord hX.F σ2 t (p2.at (p1.at ht :) :) _) (jd_dd hD rfl) (Nat.le_of_ble_eq_true rfl) dX9_isLineWord_21 (p2.at (p1.at ht :) :) (fun r3 σ3 p3 => ?_)
      refine jr_ifne (pc := 24) hX 63 dX9_isLineWord_24 (by decide) ?_ ?_
      · refine jr_iconst (pc := 63) hX 1 rfl dX9_isLineWord_63 ?_
        refine jr_goto (pc := 64) hX 68 dX9_isLineWord_64 (by decide) ?_
        exact jr_zret (pc := 68) hX dX9_isLineWord_68 (Or.inr rfl) rfl
      · refine jr_ald0 (pc := 27) hX dX9_isLineWord_27 ?_
        refine jr_ldcS (pc := 28) hX sX9_112 dX9_isLineWord_28 ?_
        refine jr_cV1i (pc := 30) hX lX9_95 (c_X9_isWord hX.F σ3 t (p3.at (p2.at (p1.at ht :) :) :) _) (jd_dd hD rfl) (Nat.le_of_ble_eq_true rfl) dX9_isLineWord_30 (p3.at (p2.at (p1.at ht :) :) :) (fun r4 σ4 p4 => ?_)
        refine jr_ifne (pc := 33) hX 63 dX9_isLineWord_33 (by decide) ?_ ?_
        · refine jr_iconst (pc := 63) hX 1 rfl dX9_isLineWord_63 ?_
          refine jr_goto (pc := 64) hX 68 dX9_isLineWord_64 (by decide) ?_
          exact jr_zret (pc := 68) hX dX9_isLineWord_68 (Or.inr rfl) rfl
        · refine jr_ald0 (pc := 36) hX dX9_isLineWord_36 ?_
          refine jr_ldcS (pc := 37) hX sX9_117 dX9_isLineWord_37 ?_
          refine jr_cV1i (pc := 39) hX lX9_95 (c_X9_isWord hX.F σ4 t (p4.at (p3.at (p2.at (p1.at ht :) :) :) :) _) (jd_dd hD rfl) (Nat.le_of_ble_eq_true rfl) dX9_isLineWord_39 (p4.at (p3.at (p2.at (p1.at ht :) :) :) :) (fun r5 σ5 p5 => ?_)
          refine jr_ifne (pc := 42) hX 63 dX9_isLineWord_42 (by decide) ?_ ?_
          · refine jr_iconst (pc := 63) hX 1 rfl dX9_isLineWord_63 ?_
            refine jr_goto (pc := 64) hX 68 dX9_isLineWord_64 (by decide) ?_
            exact jr_zret (pc := 68) hX dX9_isLineWord_68 (Or.inr rfl) rfl
          · refine jr_ald0 (pc := 45) hX dX9_isLineWord_45 ?_
            refine jr_ldcS (pc := 46) hX sX9_122 dX9_isLineWord_46 ?_
            refine jr_cV1i (pc := 48) hX lX9_95 (c_X9_isWord hX.F σ5 t (p5.at (p4.at (p3.at (p2.at (p1.at ht :) :) :) :) :) _) (jd_dd hD rfl) (Nat.le_of_ble_eq_true rfl) dX9_isLineWord_48 (p5.at (p4.at (p3.at (p2.at (p1.at ht :) :) :) :) :) (fun r6 σ6 p6 => ?_)
            refine jr_ifne (pc := 51) hX 63 dX9_isLineWord_51 (by decide) ?_ ?_
            · refine jr_iconst (pc := 63) hX 1 rfl dX9_isLineWord_63 ?_
              refine jr_goto (pc := 64) hX 68 dX9_isLineWord_64 (by decide) ?_
              exact jr_zret (pc := 68) hX dX9_isLineWord_68 (Or.inr rfl) rfl
            · refine jr_ald0 (pc := 54) hX dX9_isLineWord_54 ?_
              refine jr_ldcS (pc := 55) hX sX9_217 dX9_isLineWord_55 ?_
              refine jr_cV1i (pc := 57) hX lX9_95 (c_X9_isWord hX.F σ6 t (p6.at (p5.at (p4.at (p3.at (p2.at (p1.at ht :) :) :) :) :) :) _) (jd_dd hD rfl) (Nat.le_of_ble_eq_true rfl) dX9_isLineWord_57 (p6.at (p5.at (p4.at (p3.at (p2.at (p1.at ht :) :) :) :) :) :) (fun r7 σ7 p7 => ?_)
              refine jr_ifeq (pc := 60) hX 67 dX9_isLineWord_60 (by decide) ?_ ?_
              · refine jr_iconst (pc := 67) hX 0 rfl dX9_isLineWord_67 ?_
                exact jr_zret (pc := 68) hX dX9_isLineWord_68 (Or.inl rfl) rfl
              · refine jr_iconst (pc := 63) hX 1 rfl dX9_isLineWord_63 ?_
                refine jr_goto (pc := 64) hX 68 dX9_isLineWord_64 (by decide) ?_
                exact jr_zret (pc := 68) hX dX9_isLineWord_68 (Or.inr rfl) rfl
def m_X9_labelled (t : Nat) (o0p : (Option Nat)) (x1p : Int32) (x2p : Int32) (σ : jd_Hp) : Option (Int32 × jd_Hp) :=
jd_b (m_X9_advance t σ) fun r1 σ1 =>
jd_b (m_X9_isWord t o0p σ1) fun r2 σ2 =>
jd_if (¬ r2 = 0) (
jd_b (m_X9_advance t σ2) fun r3 σ3 =>
jd_if ((σ3.2.1 t 8) = 2) (
jd_b (m_X9_wholeValue t σ3) fun r4 σ4 =>
jd_li (jd_pi σ4 t 11 r4) fun τ5 =>
jd_if ((τ5.2.1 t 11) < x1p) (
jd_b (m_X9_fail t 4 τ5) fun r6 σ6 =>
jd_if (r6 = 0) (
some (0, σ6)) (
some (1, σ6))) (
jd_if ((τ5.2.1 t 11) ≤ x2p) (
some (1, τ5)) (
jd_b (m_X9_fail t 4 τ5) fun r7 σ7 =>
jd_if (r7 = 0) (
some (0, σ7)) (
some (1, σ7))))) (
jd_b (m_X9_fail t 1 σ3) fun r8 σ8 =>
some ((r8 &&& 1), σ8))) (
jd_b (m_X9_fail t 1 σ2) fun r9 σ9 =>
some ((r9 &&& 1), σ9))
set_option maxHeartbeats 4000000 in
set_option maxRecDepth 20000 in
theorem c_X9_labelled {l : Launch} {s0 : State} {G : jd_G} (hF : jd_F s0 G) (σ : jd_Hp) (t : Nat) (ht : σ.1[t]? = some (9, 16)) (o0p : (Option Nat)) (x1p : Int32) (x2p : Int32) : jd_M l s0 G yX9_labelled cX9_labelled 4 (some .boolean) 8 je_i [jd_v G (some t), jd_v G o0p, .int x1p, .int x2p] σ (m_X9_labelled t o0p x1p x2p σ) := by
  refine jd_enter hF (by decide) (fun G => [some (jd_v G (some t)), some (jd_v G o0p), some (.int x1p), some (.int x2p)]) rfl (by simp [lv_args, jd_al, jd_v_cat, jd_cti, jd_ctl]) (by simp [lg_sl, jd_v_cat, jd_cti, jd_ctl]) (fun X hD hX => ?_)
  have hX : jd_C X RX9 "labelled" cX9_labelled 4 (some .boolean) := hX
  unfold m_X9_labelled
  refine jr_ald0 (pc := 0) hX dX9_labelled_0 ?_
  refine jr_cV0v (pc := 1) hX lX9_79 (c_X9_advance hX.F σ t ht) (jd_dd hD rfl) (Nat.le_of_ble_eq_true rfl) dX9_labelled_1 ht (fun r1 σ1 p1 => ?_)
  refine jr_ald0 (pc := 4) hX dX9_labelled_4 ?_
  refine jr_ald1 (pc := 5) hX dX9_labelled_5 ?_
  refine jr_cV1i (pc := 6) hX lX9_95 (c_X9_isWord hX.F σ1 t (p1.at ht :) _) (jd_dd hD rfl) (Nat.le_of_ble_eq_true rfl) dX9_labelled_6 (p1.at ht :) (fun r2 σ2 p2 => ?_)
  refine jr_ifne (pc := 9) hX 18 dX9_labelled_9 (by decide) ?_ ?_
  · refine jr_ald0 (pc := 18) hX dX9_labelled_18 ?_
    refine jr_cV0v (pc := 19) hX lX9_79 (c_X9_advance hX.F σ2 t (p2.at (p1.at ht :) :)) (jd_dd hD rfl) (Nat.le_of_ble_eq_true rfl) dX9_labelled_19 (p2.at (p1.at ht :) :) (fun r3 σ3 p3 => ?_)
    refine jr_ald0 (pc := 22) hX dX9_labelled_22 ?_
    refine jr_geti (pc := 23) hX fX9_35 rfl dX9_labelled_23 (p3.at (p2.at (p1.at ht :) :) :) ?_
    refine jr_iconst (pc := 26) hX 2 rfl dX9_labelled_26 ?_
    refine jr_iceq (pc := 27) hX 36 dX9_labelled_27 (by decide) ?_ ?_
    · refine jr_ald0 (pc := 36) hX dX9_labelled_36 ?_
      refine jr_ald0 (pc := 37) hX dX9_labelled_37 ?_
      refine jr_cV0i (pc := 38) hX lX9_200 (c_X9_wholeValue hX.F σ3 t (p3.at (p2.at (p1.at ht :) :) :)) (jd_dd hD rfl) (by simp [jd_v_cat, jd_cti, jd_ctl]) dX9_labelled_38 (p3.at (p2.at (p1.at ht :) :) :) (fun r4 σ4 p4 => ?_)
      refine jr_puti (pc := 41) hX fX9_44 rfl dX9_labelled_41 (p4.at (p3.at (p2.at (p1.at ht :) :) :) :) ?_
      refine jr_li ?_
      refine jr_ald0 (pc := 44) hX dX9_labelled_44 ?_
      refine jr_geti (pc := 45) hX fX9_44 rfl dX9_labelled_45 (p4.at (p3.at (p2.at (p1.at ht :) :) :) :) ?_
      refine jr_ild2 (pc := 48) hX dX9_labelled_48 ?_
      refine jr_iclt (pc := 49) hX 60 dX9_labelled_49 (by decide) ?_ ?_
      · refine jr_ald0 (pc := 60) hX dX9_labelled_60 ?_
        refine jr_iconst (pc := 61) hX 4 rfl dX9_labelled_61 ?_
        refine jr_cV1i (pc := 62) hX lX9_85 (c_X9_fail hX.F (jd_pi σ4 t 11 r4) t (p4.at (p3.at (p2.at (p1.at ht :) :) :) :) _) (jd_dd hD rfl) (Nat.le_of_ble_eq_true rfl) dX9_labelled_62 (p4.at (p3.at (p2.at (p1.at ht :) :) :) :) (fun r6 σ6 p6 => ?_)
        refine jr_ifeq (pc := 65) hX 72 dX9_labelled_65 (by decide) ?_ ?_
        · refine jr_iconst (pc := 72) hX 0 rfl dX9_labelled_72 ?_
          exact jr_zret (pc := 73) hX dX9_labelled_73 (Or.inl rfl) rfl
        · refine jr_iconst (pc := 68) hX 1 rfl dX9_labelled_68 ?_
          refine jr_goto (pc := 69) hX 73 dX9_labelled_69 (by decide) ?_
          exact jr_zret (pc := 73) hX dX9_labelled_73 (Or.inr rfl) rfl
      · refine jr_ald0 (pc := 52) hX dX9_labelled_52 ?_
        refine jr_geti (pc := 53) hX fX9_44 rfl dX9_labelled_53 (p4.at (p3.at (p2.at (p1.at ht :) :) :) :) ?_
        refine jr_ild3 (pc := 56) hX dX9_labelled_56 ?_
        refine jr_icle (pc := 57) hX 68 dX9_labelled_57 (by decide) ?_ ?_
        · refine jr_iconst (pc := 68) hX 1 rfl dX9_labelled_68 ?_
          refine jr_goto (pc := 69) hX 73 dX9_labelled_69 (by decide) ?_
          exact jr_zret (pc := 73) hX dX9_labelled_73 (Or.inr rfl) rfl
        · refine jr_ald0 (pc := 60) hX dX9_labelled_60 ?_
          refine jr_iconst (pc := 61) hX 4 rfl dX9_labelled_61 ?_
          refine jr_cV1i (pc := 62) hX lX9_85 (c_X9_fail hX.F (jd_pi σ4 t 11 r4) t (p4.at (p3.at (p2.at (p1.at ht :) :) :) :) _) (jd_dd hD rfl) (Nat.le_of_ble_eq_true rfl) dX9_labelled_62 (p4.at (p3.at (p2.at (p1.at ht :) :) :) :) (fun r7 σ7 p7 => ?_)
          refine jr_ifeq (pc := 65) hX 72 dX9_labelled_65 (by decide) ?_ ?_
          · refine jr_iconst (pc := 72) hX 0 rfl dX9_labelled_72 ?_
            exact jr_zret (pc := 73) hX dX9_labelled_73 (Or.inl rfl) rfl
          · refine jr_iconst (pc := 68) hX 1 rfl dX9_labelled_68 ?_
            refine jr_goto (pc := 69) hX 73 dX9_labelled_69 (by decide) ?_
            exact jr_zret (pc := 73) hX dX9_labelled_73 (Or.inr rfl) rfl
    · refine jr_ald0 (pc := 30) hX dX9_labelled_30 ?_
      refine jr_iconst (pc := 31) hX 1 rfl dX9_labelled_31 ?_
      refine jr_cV1i (pc := 32) hX lX9_85 (c_X9_fail hX.F σ3 t (p3.at (p2.at (p1.at ht :) :) :) _) (jd_dd hD rfl) (Nat.le_of_ble_eq_true rfl) dX9_labelled_32 (p3.at (p2.at (p1.at ht :) :) :) (fun r8 σ8 p8 => ?_)
      exact jr_bret (pc := 35) hX dX9_labelled_35 rfl
  · refine jr_ald0 (pc := 12) hX dX9_labelled_12 ?_
    refine jr_iconst (pc := 13) hX 1 rfl dX9_labelled_13 ?_
    refine jr_cV1i (pc := 14) hX lX9_85 (c_X9_fail hX.F σ2 t (p2.at (p1.at ht :) :) _) (jd_dd hD rfl) (Nat.le_of_ble_eq_true rfl) dX9_labelled_14 (p2.at (p1.at ht :) :) (fun r9 σ9 p9 => ?_)
    exact jr_bret (pc := 17) hX dX9_labelled_17 rfl
def m_X9_readBeach (t : Nat) (o0p : (Option Nat)) (σ : jd_Hp) : Option (Int32 × jd_Hp) :=
jd_li (jd_pi σ t 13 1) fun τ1 =>
jd_b (m_X9_labelled t (some 7) 1 60 τ1) fun r2 σ2 =>
jd_if (¬ r2 = 0) (
jd_o σ2 (10, 16) o0p fun a3 =>
jd_li (jd_pi σ2 a3 8 (σ2.2.1 t 11)) fun τ4 =>
jd_b (m_X9_labelled t (some 8) 0 9 τ4) fun r5 σ5 =>
jd_if (¬ r5 = 0) (
jd_li (jd_pi σ5 a3 9 (σ5.2.1 t 11)) fun τ6 =>
jd_b (m_X9_labelled t (some 9) 0 100 τ6) fun r7 σ7 =>
jd_if (¬ r7 = 0) (
jd_li (jd_pi σ7 a3 10 (σ7.2.1 t 11)) fun τ8 =>
some (1, τ8)) (
some (0, σ7))) (
some (0, σ5))) (
some (0, σ2))
set_option maxHeartbeats 4000000 in
set_option maxRecDepth 20000 in
theorem c_X9_readBeach {l : Launch} {s0 : State} {G : jd_G} (hF : jd_F s0 G) (σ : jd_Hp) (t : Nat) (ht : σ.1[t]? = some (9, 16)) (o0p : (Option Nat)) : jd_M l s0 G yX9_readBeach cX9_readBeach 2 (some .boolean) 9 je_i [jd_v G (some t), jd_v G o0p] σ (m_X9_readBeach t o0p σ) := by
  refine jd_enter hF (by decide) (fun G => [some (jd_v G (some t)), some (jd_v G o0p)]) rfl (by simp [lv_args, jd_al, jd_v_cat, jd_cti, jd_ctl]) (by simp [lg_sl, jd_v_cat, jd_cti, jd_ctl]) (fun X hD hX => ?_)
  have hX : jd_C X RX9 "readBeach" cX9_readBeach 2 (some .boolean) := hX
  unfold m_X9_readBeach
  refine jr_ald0 (pc := 0) hX dX9_readBeach_0 ?_
  refine jr_iconst (pc := 1) hX 1 rfl dX9_readBeach_1 ?_
  refine jr_putz (pc := 2) hX fX9_50 rfl (Or.inr rfl) dX9_readBeach_2 ht ?_
  refine jr_li ?_
  refine jr_ald0 (pc := 5) hX dX9_readBeach_5 ?_
  refine jr_ldcS (pc := 6) hX sX9_128 dX9_readBeach_6 ?_
  refine jr_iconst (pc := 8) hX 1 rfl dX9_readBeach_8 ?_
  refine jr_bipush (pc := 9) hX 60 rfl dX9_readBeach_9 ?_
  refine jr_cV3i (pc := 11) hX lX9_130 (c_X9_labelled hX.F (jd_pi σ t 13 1) t ht _ _ _) (jd_dd hD rfl) (Nat.le_of_ble_eq_true rfl) dX9_readBeach_11 ht (fun r2 σ2 p2 => ?_)
  refine jr_ifne (pc := 14) hX 19 dX9_readBeach_14 (by decide) ?_ ?_
  · refine jr_ald1 (pc := 19) hX dX9_readBeach_19 ?_
    refine jr_ald0 (pc := 20) hX dX9_readBeach_20 ?_
    refine jr_geti (pc := 21) hX fX9_44 rfl dX9_readBeach_21 (p2.at ht :) ?_
    refine jr_ck1 (fun a3 e3 h3 => ?_)
    refine jr_puti (pc := 24) hX fX9_134 rfl dX9_readBeach_24 h3 ?_
    refine jr_li ?_
    refine jr_ald0 (pc := 27) hX dX9_readBeach_27 ?_
    refine jr_ldcS (pc := 28) hX sX9_136 dX9_readBeach_28 ?_
    refine jr_iconst (pc := 30) hX 0 rfl dX9_readBeach_30 ?_
    refine jr_bipush (pc := 31) hX 9 rfl dX9_readBeach_31 ?_
    refine jr_cV3i (pc := 33) hX lX9_130 (c_X9_labelled hX.F (jd_pi σ2 a3 8 (σ2.2.1 t 11)) t (p2.at ht :) _ _ _) (jd_dd hD rfl) (Nat.le_of_ble_eq_true rfl) dX9_readBeach_33 (p2.at ht :) (fun r5 σ5 p5 => ?_)
    refine jr_ifne (pc := 36) hX 41 dX9_readBeach_36 (by decide) ?_ ?_
    · refine jr_ald1 (pc := 41) hX dX9_readBeach_41 ?_
      refine jr_ald0 (pc := 42) hX dX9_readBeach_42 ?_
      refine jr_geti (pc := 43) hX fX9_44 rfl dX9_readBeach_43 (p5.at (p2.at ht :) :) ?_
      refine jr_ek1 e3 ?_
      refine jr_puti (pc := 46) hX fX9_138 rfl dX9_readBeach_46 (p5.at h3 :) ?_
      refine jr_li ?_
      refine jr_ald0 (pc := 49) hX dX9_readBeach_49 ?_
      refine jr_ldcS (pc := 50) hX sX9_140 dX9_readBeach_50 ?_
      refine jr_iconst (pc := 52) hX 0 rfl dX9_readBeach_52 ?_
      refine jr_bipush (pc := 53) hX 100 rfl dX9_readBeach_53 ?_
      refine jr_cV3i (pc := 55) hX lX9_130 (c_X9_labelled hX.F (jd_pi σ5 a3 9 (σ5.2.1 t 11)) t (p5.at (p2.at ht :) :) _ _ _) (jd_dd hD rfl) (Nat.le_of_ble_eq_true rfl) dX9_readBeach_55 (p5.at (p2.at ht :) :) (fun r7 σ7 p7 => ?_)
      refine jr_ifne (pc := 58) hX 63 dX9_readBeach_58 (by decide) ?_ ?_
      · refine jr_ald1 (pc := 63) hX dX9_readBeach_63 ?_
        refine jr_ald0 (pc := 64) hX dX9_readBeach_64 ?_
        refine jr_geti (pc := 65) hX fX9_44 rfl dX9_readBeach_65 (p7.at (p5.at (p2.at ht :) :) :) ?_
        refine jr_ek1 e3 ?_
        refine jr_puti (pc := 68) hX fX9_142 rfl dX9_readBeach_68 (p7.at (p5.at h3 :) :) ?_
        refine jr_li ?_
        refine jr_iconst (pc := 71) hX 1 rfl dX9_readBeach_71 ?_
        exact jr_zret (pc := 72) hX dX9_readBeach_72 (Or.inr rfl) rfl
      · refine jr_iconst (pc := 61) hX 0 rfl dX9_readBeach_61 ?_
        exact jr_zret (pc := 62) hX dX9_readBeach_62 (Or.inl rfl) rfl
    · refine jr_iconst (pc := 39) hX 0 rfl dX9_readBeach_39 ?_
      exact jr_zret (pc := 40) hX dX9_readBeach_40 (Or.inl rfl) rfl
  · refine jr_iconst (pc := 17) hX 0 rfl dX9_readBeach_17 ?_
    exact jr_zret (pc := 18) hX dX9_readBeach_18 (Or.inl rfl) rfl
def m_X9_newName (t : Nat) (x0p : Int32) (x1p : Int32) (σ : jd_Hp) : Option (Int32 × jd_Hp) :=
jd_b (m_X9_advance t σ) fun r1 σ1 =>
jd_if (¬ (σ1.2.1 t 8) = 1) (
jd_b (m_X9_fail t 1 σ1) fun r2 σ2 =>
some ((r2 &&& 1), σ2)) (
jd_b (m_X9_isLineWord t σ1) fun r3 σ3 =>
jd_if (r3 = 0) (
jd_b (m_X9_nameIndex t σ3) fun r4 σ4 =>
jd_if (¬ r4 = (-1)) (
jd_b (m_X9_fail t 3 σ4) fun r5 σ5 =>
some ((r5 &&& 1), σ5)) (
jd_if ((σ4.2.1 t 5) < 11) (
jd_ia σ4 20 (σ4.2.2.2 t 1) (σ4.2.1 t 5) fun a6 j6 =>
jd_li (jd_pi σ4 a6 j6 (σ4.2.1 t 9)) fun τ7 =>
jd_ia τ7 20 (τ7.2.2.2 t 2) (τ7.2.1 t 5) fun a8 j8 =>
jd_li (jd_pi τ7 a8 j8 (τ7.2.1 t 10)) fun τ9 =>
jd_ia τ9 20 (τ9.2.2.2 t 3) (τ9.2.1 t 5) fun a10 j10 =>
jd_li (jd_pi τ9 a10 j10 x1p) fun τ11 =>
jd_ia τ11 22 (τ11.2.2.2 t 4) (τ11.2.1 t 5) fun a12 j12 =>
jd_li (jd_pi τ11 a12 j12 (vp_nar .boolean x0p)) fun τ13 =>
jd_li (jd_pi τ13 t 5 ((τ13.2.1 t 5) + 1)) fun τ14 =>
some (1, τ14)) (
jd_b (m_X9_fail t 3 σ4) fun r15 σ15 =>
some ((r15 &&& 1), σ15)))) (
jd_b (m_X9_fail t 1 σ3) fun r16 σ16 =>
some ((r16 &&& 1), σ16)))
set_option maxHeartbeats 4000000 in
set_option maxRecDepth 20000 in
theorem c_X9_newName {l : Launch} {s0 : State} {G : jd_G} (hF : jd_F s0 G) (σ : jd_Hp) (t : Nat) (ht : σ.1[t]? = some (9, 16)) (x0p : Int32) (x1p : Int32) : jd_M l s0 G yX9_newName cX9_newName 3 (some .boolean) 9 je_i [jd_v G (some t), .int x0p, .int x1p] σ (m_X9_newName t x0p x1p σ) := by
  refine jd_enter hF (by decide) (fun G => [some (jd_v G (some t)), some (.int x0p), some (.int x1p)]) rfl (by simp [lv_args, jd_al, jd_v_cat, jd_cti, jd_ctl]) (by simp [lg_sl, jd_v_cat, jd_cti, jd_ctl]) (fun X hD hX => ?_)
  have hX : jd_C X RX9 "newName" cX9_newName 3 (some .boolean) := hX
  unfold m_X9_newName
  refine jr_ald0 (pc := 0) hX dX9_newName_0 ?_
  refine jr_cV0v (pc := 1) hX lX9_79 (c_X9_advance hX.F σ t ht) (jd_dd hD rfl) (Nat.le_of_ble_eq_true rfl) dX9_newName_1 ht (fun r1 σ1 p1 => ?_)
  refine jr_ald0 (pc := 4) hX dX9_newName_4 ?_
  refine jr_geti (pc := 5) hX fX9_35 rfl dX9_newName_5 (p1.at ht :) ?_
  refine jr_iconst (pc := 8) hX 1 rfl dX9_newName_8 ?_
  refine jr_icne (pc := 9) hX 19 dX9_newName_9 (by decide) ?_ ?_
  · refine jr_ald0 (pc := 19) hX dX9_newName_19 ?_
    refine jr_iconst (pc := 20) hX 1 rfl dX9_newName_20 ?_
    refine jr_cV1i (pc := 21) hX lX9_85 (c_X9_fail hX.F σ1 t (p1.at ht :) _) (jd_dd hD rfl) (Nat.le_of_ble_eq_true rfl) dX9_newName_21 (p1.at ht :) (fun r2 σ2 p2 => ?_)
    exact jr_bret (pc := 24) hX dX9_newName_24 rfl
  · refine jr_ald0 (pc := 12) hX dX9_newName_12 ?_
    refine jr_cV0i (pc := 13) hX lX9_89 (c_X9_isLineWord hX.F σ1 t (p1.at ht :)) (jd_dd hD rfl) (Nat.le_of_ble_eq_true rfl) dX9_newName_13 (p1.at ht :) (fun r3 σ3 p3 => ?_)
    refine jr_ifeq (pc := 16) hX 25 dX9_newName_16 (by decide) ?_ ?_
    · refine jr_ald0 (pc := 25) hX dX9_newName_25 ?_
      refine jr_cV0i (pc := 26) hX lX9_203 (c_X9_nameIndex hX.F σ3 t (p3.at (p1.at ht :) :)) (jd_dd hD rfl) (Nat.le_of_ble_eq_true rfl) dX9_newName_26 (p3.at (p1.at ht :) :) (fun r4 σ4 p4 => ?_)
      refine jr_iconst (pc := 29) hX (-1) rfl dX9_newName_29 ?_
      refine jr_icne (pc := 30) hX 42 dX9_newName_30 (by decide) ?_ ?_
      · refine jr_ald0 (pc := 42) hX dX9_newName_42 ?_
        refine jr_iconst (pc := 43) hX 3 rfl dX9_newName_43 ?_
        refine jr_cV1i (pc := 44) hX lX9_85 (c_X9_fail hX.F σ4 t (p4.at (p3.at (p1.at ht :) :) :) _) (jd_dd hD rfl) (Nat.le_of_ble_eq_true rfl) dX9_newName_44 (p4.at (p3.at (p1.at ht :) :) :) (fun r5 σ5 p5 => ?_)
        exact jr_bret (pc := 47) hX dX9_newName_47 rfl
      · refine jr_ald0 (pc := 33) hX dX9_newName_33 ?_
        refine jr_geti (pc := 34) hX fX9_25 rfl dX9_newName_34 (p4.at (p3.at (p1.at ht :) :) :) ?_
        refine jr_bipush (pc := 37) hX 11 rfl dX9_newName_37 ?_
        refine jr_iclt (pc := 39) hX 48 dX9_newName_39 (by decide) ?_ ?_
        · refine jr_ald0 (pc := 48) hX dX9_newName_48 ?_
          refine jr_getr (pc := 49) hX fX9_11 rfl dX9_newName_49 (p4.at (p3.at (p1.at ht :) :) :) ?_
          refine jr_ald0 (pc := 52) hX dX9_newName_52 ?_
          refine jr_geti (pc := 53) hX fX9_25 rfl dX9_newName_53 (p4.at (p3.at (p1.at ht :) :) :) ?_
          refine jr_ald0 (pc := 56) hX dX9_newName_56 ?_
          refine jr_geti (pc := 57) hX fX9_38 rfl dX9_newName_57 (p4.at (p3.at (p1.at ht :) :) :) ?_
          refine jr_iaS (pc := 60) hX dX9_newName_60 (fun a6 n6 e6 h6 => ?_)
          refine jr_li ?_
          refine jr_ald0 (pc := 61) hX dX9_newName_61 ?_
          refine jr_getr (pc := 62) hX fX9_15 rfl dX9_newName_62 (p4.at (p3.at (p1.at ht :) :) :) ?_
          refine jr_ald0 (pc := 65) hX dX9_newName_65 ?_
          refine jr_geti (pc := 66) hX fX9_25 rfl dX9_newName_66 (p4.at (p3.at (p1.at ht :) :) :) ?_
          refine jr_ald0 (pc := 69) hX dX9_newName_69 ?_
          refine jr_geti (pc := 70) hX fX9_41 rfl dX9_newName_70 (p4.at (p3.at (p1.at ht :) :) :) ?_
          refine jr_iaS (pc := 73) hX dX9_newName_73 (fun a8 n8 e8 h8 => ?_)
          refine jr_li ?_
          refine jr_ald0 (pc := 74) hX dX9_newName_74 ?_
          refine jr_getr (pc := 75) hX fX9_18 rfl dX9_newName_75 (p4.at (p3.at (p1.at ht :) :) :) ?_
          refine jr_ald0 (pc := 78) hX dX9_newName_78 ?_
          refine jr_geti (pc := 79) hX fX9_25 rfl dX9_newName_79 (p4.at (p3.at (p1.at ht :) :) :) ?_
          refine jr_ild2 (pc := 82) hX dX9_newName_82 ?_
          refine jr_iaS (pc := 83) hX dX9_newName_83 (fun a10 n10 e10 h10 => ?_)
          refine jr_li ?_
          refine jr_ald0 (pc := 84) hX dX9_newName_84 ?_
          refine jr_getr (pc := 85) hX fX9_21 rfl dX9_newName_85 (p4.at (p3.at (p1.at ht :) :) :) ?_
          refine jr_ald0 (pc := 88) hX dX9_newName_88 ?_
          refine jr_geti (pc := 89) hX fX9_25 rfl dX9_newName_89 (p4.at (p3.at (p1.at ht :) :) :) ?_
          refine jr_ild1 (pc := 92) hX dX9_newName_92 ?_
          refine jr_zaS (pc := 93) hX dX9_newName_93 (fun a12 n12 e12 h12 => ?_)
          refine jr_li ?_
          refine jr_ald0 (pc := 94) hX dX9_newName_94 ?_
          refine jr_dup (pc := 95) hX (jd_v_cat _ _) dX9_newName_95 ?_
          refine jr_geti (pc := 96) hX fX9_25 rfl dX9_newName_96 (p4.at (p3.at (p1.at ht :) :) :) ?_
          refine jr_iconst (pc := 99) hX 1 rfl dX9_newName_99 ?_
          refine jr_iadd (pc := 100) hX dX9_newName_100 ?_
          refine jr_puti (pc := 101) hX fX9_25 rfl dX9_newName_101 (p4.at (p3.at (p1.at ht :) :) :) ?_
          refine jr_li ?_
          refine jr_iconst (pc := 104) hX 1 rfl dX9_newName_104 ?_
          exact jr_zret (pc := 105) hX dX9_newName_105 (Or.inr rfl) rfl
        · refine jr_ald0 (pc := 42) hX dX9_newName_42 ?_
          refine jr_iconst (pc := 43) hX 3 rfl dX9_newName_43 ?_
          refine jr_cV1i (pc := 44) hX lX9_85 (c_X9_fail hX.F σ4 t (p4.at (p3.at (p1.at ht :) :) :) _) (jd_dd hD rfl) (Nat.le_of_ble_eq_true rfl) dX9_newName_44 (p4.at (p3.at (p1.at ht :) :) :) (fun r15 σ15 p15 => ?_)
          exact jr_bret (pc := 47) hX dX9_newName_47 rfl
    · refine jr_ald0 (pc := 19) hX dX9_newName_19 ?_
      refine jr_iconst (pc := 20) hX 1 rfl dX9_newName_20 ?_
      refine jr_cV1i (pc := 21) hX lX9_85 (c_X9_fail hX.F σ3 t (p3.at (p1.at ht :) :) _) (jd_dd hD rfl) (Nat.le_of_ble_eq_true rfl) dX9_newName_21 (p3.at (p1.at ht :) :) (fun r16 σ16 p16 => ?_)
      exact jr_bret (pc := 24) hX dX9_newName_24 rfl
def m_X9_kindTold (t : Nat) (σ : jd_Hp) : Option (Int32 × jd_Hp) :=
jd_b (m_X9_isWord t (some 10) σ) fun r1 σ1 =>
jd_if (r1 = 0) (
jd_b (m_X9_isWord t (some 11) σ1) fun r2 σ2 =>
jd_if (r2 = 0) (
jd_b (m_X9_isWord t (some 12) σ2) fun r3 σ3 =>
jd_if (r3 = 0) (
jd_b (m_X9_isWord t (some 13) σ3) fun r4 σ4 =>
jd_if (r4 = 0) (
some ((-1), σ4)) (
some (3, σ4))) (
some (2, σ3))) (
some (1, σ2))) (
some (0, σ1))
set_option maxHeartbeats 4000000 in
set_option maxRecDepth 20000 in
theorem c_X9_kindTold {l : Launch} {s0 : State} {G : jd_G} (hF : jd_F s0 G) (σ : jd_Hp) (t : Nat) (ht : σ.1[t]? = some (9, 16)) : jd_M l s0 G yX9_kindTold cX9_kindTold 1 (some .int) 8 je_i [jd_v G (some t)] σ (m_X9_kindTold t σ) := by
  refine jd_enter hF (by decide) (fun G => [some (jd_v G (some t))]) rfl (by simp [lv_args, jd_al, jd_v_cat, jd_cti, jd_ctl]) (by simp [lg_sl, jd_v_cat, jd_cti, jd_ctl]) (fun X hD hX => ?_)
  have hX : jd_C X RX9 "kindTold" cX9_kindTold 1 (some .int) := hX
  unfold m_X9_kindTold
  refine jr_ald0 (pc := 0) hX dX9_kindTold_0 ?_
  refine jr_ldcS (pc := 1) hX sX9_209 dX9_kindTold_1 ?_
  refine jr_cV1i (pc := 3) hX lX9_95 (c_X9_isWord hX.F σ t ht _) (jd_dd hD rfl) (Nat.le_of_ble_eq_true rfl) dX9_kindTold_3 ht (fun r1 σ1 p1 => ?_)
  refine jr_ifeq (pc := 6) hX 11 dX9_kindTold_6 (by decide) ?_ ?_
  · refine jr_ald0 (pc := 11) hX dX9_kindTold_11 ?_
    refine jr_ldcS (pc := 12) hX sX9_211 dX9_kindTold_12 ?_
    refine jr_cV1i (pc := 14) hX lX9_95 (c_X9_isWord hX.F σ1 t (p1.at ht :) _) (jd_dd hD rfl) (Nat.le_of_ble_eq_true rfl) dX9_kindTold_14 (p1.at ht :) (fun r2 σ2 p2 => ?_)
    refine jr_ifeq (pc := 17) hX 22 dX9_kindTold_17 (by decide) ?_ ?_
    · refine jr_ald0 (pc := 22) hX dX9_kindTold_22 ?_
      refine jr_ldcS (pc := 23) hX sX9_213 dX9_kindTold_23 ?_
      refine jr_cV1i (pc := 25) hX lX9_95 (c_X9_isWord hX.F σ2 t (p2.at (p1.at ht :) :) _) (jd_dd hD rfl) (Nat.le_of_ble_eq_true rfl) dX9_kindTold_25 (p2.at (p1.at ht :) :) (fun r3 σ3 p3 => ?_)
      refine jr_ifeq (pc := 28) hX 33 dX9_kindTold_28 (by decide) ?_ ?_
      · refine jr_ald0 (pc := 33) hX dX9_kindTold_33 ?_
        refine jr_ldcS (pc := 34) hX sX9_215 dX9_kindTold_34 ?_
        refine jr_cV1i (pc := 36) hX lX9_95 (c_X9_isWord hX.F σ3 t (p3.at (p2.at (p1.at ht :) :) :) _) (jd_dd hD rfl) (Nat.le_of_ble_eq_true rfl) dX9_kindTold_36 (p3.at (p2.at (p1.at ht :) :) :) (fun r4 σ4 p4 => ?_)
        refine jr_ifeq (pc := 39) hX 46 dX9_kindTold_39 (by decide) ?_ ?_
        · refine jr_iconst (pc := 46) hX (-1) rfl dX9_kindTold_46 ?_
          exact jr_iret (pc := 47) hX dX9_kindTold_47 rfl
        · refine jr_iconst (pc := 42) hX 3 rfl dX9_kindTold_42 ?_
          refine jr_goto (pc := 43) hX 47 dX9_kindTold_43 (by decide) ?_
          exact jr_iret (pc := 47) hX dX9_kindTold_47 rfl
      · refine jr_iconst (pc := 31) hX 2 rfl dX9_kindTold_31 ?_
        exact jr_iret (pc := 32) hX dX9_kindTold_32 rfl
    · refine jr_iconst (pc := 20) hX 1 rfl dX9_kindTold_20 ?_
      exact jr_iret (pc := 21) hX dX9_kindTold_21 rfl
  · refine jr_iconst (pc := 9) hX 0 rfl dX9_kindTold_9 ?_
    exact jr_iret (pc := 10) hX dX9_kindTold_10 rfl
