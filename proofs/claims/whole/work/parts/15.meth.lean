theorem qX6_underBits : Cond.instanceMethod yX6_underBits ∈ jd_TB ∧ Cond.selects RX6 yX6_underBits yX6_underBits ∈ jd_TB ∧ Cond.initialized RX6 ∈ jd_TB ∧ Cond.code yX6_underBits cX6_underBits 4 (some .int) ∈ jd_TB ∧ jd_ds yX6_underBits 1 := ⟨jd_mem 829 (by decide +kernel) (by decide +kernel), jd_mem 830 (by decide +kernel) (by decide +kernel), jd_mem 95 (by decide +kernel) (by decide +kernel), jd_mem 831 (by decide +kernel) (by decide +kernel), ⟨by decide, by decide, by decide +kernel⟩⟩
theorem lX6_133 : jd_mv RX6 133 6 8 yX6_underBits cX6_underBits 4 (some .int) 1 := ⟨_, _, rfl, by decide, rfl, Or.inl (jd_mem 848 (by decide +kernel) (by decide +kernel)), qX6_underBits.1, qX6_underBits.2.1, qX6_underBits.2.2.1, qX6_underBits.2.2.2.1, qX6_underBits.2.2.2.2, by decide⟩
theorem qX6_isCovering : Cond.instanceMethod yX6_isCovering ∈ jd_TB ∧ Cond.selects RX6 yX6_isCovering yX6_isCovering ∈ jd_TB ∧ Cond.initialized RX6 ∈ jd_TB ∧ Cond.code yX6_isCovering cX6_isCovering 4 (some .boolean) ∈ jd_TB ∧ jd_ds yX6_isCovering 1 := ⟨jd_mem 871 (by decide +kernel) (by decide +kernel), jd_mem 24 (by decide +kernel) (by decide +kernel), jd_mem 95 (by decide +kernel) (by decide +kernel), jd_mem 872 (by decide +kernel) (by decide +kernel), ⟨by decide, by decide, by decide +kernel⟩⟩
theorem lX6_136 : jd_mv RX6 136 6 8 yX6_isCovering cX6_isCovering 4 (some .boolean) 1 := ⟨_, _, rfl, by decide, rfl, Or.inl (jd_mem 869 (by decide +kernel) (by decide +kernel)), qX6_isCovering.1, qX6_isCovering.2.1, qX6_isCovering.2.2.1, qX6_isCovering.2.2.2.1, qX6_isCovering.2.2.2.2, by decide⟩
theorem dX6_ofPost_0 : decode cX6_ofPost 0 = .ok (.iload_n 2, 1) := by decide +kernel
theorem dX6_ofPost_1 : decode cX6_ofPost 1 = .ok (.tableswitch 61 0 2 #[27, 37, 47], 27) := by decide +kernel
theorem dX6_ofPost_28 : decode cX6_ofPost 28 = .ok (.aload_n 0, 1) := by decide +kernel
theorem dX6_ofPost_29 : decode cX6_ofPost 29 = .ok (.getfield 34, 3) := by decide +kernel
theorem dX6_ofPost_32 : decode cX6_ofPost 32 = .ok (.getfield 121, 3) := by decide +kernel
theorem dX6_ofPost_35 : decode cX6_ofPost 35 = .ok (.iload_n 1, 1) := by decide +kernel
theorem dX6_ofPost_36 : decode cX6_ofPost 36 = .ok (.iaload, 1) := by decide +kernel
theorem dX6_ofPost_37 : decode cX6_ofPost 37 = .ok (.ireturn, 1) := by decide +kernel
theorem dX6_ofPost_38 : decode cX6_ofPost 38 = .ok (.aload_n 0, 1) := by decide +kernel
theorem dX6_ofPost_39 : decode cX6_ofPost 39 = .ok (.getfield 34, 3) := by decide +kernel
theorem dX6_ofPost_42 : decode cX6_ofPost 42 = .ok (.getfield 124, 3) := by decide +kernel
theorem dX6_ofPost_45 : decode cX6_ofPost 45 = .ok (.iload_n 1, 1) := by decide +kernel
theorem dX6_ofPost_46 : decode cX6_ofPost 46 = .ok (.iaload, 1) := by decide +kernel
theorem dX6_ofPost_47 : decode cX6_ofPost 47 = .ok (.ireturn, 1) := by decide +kernel
theorem dX6_ofPost_48 : decode cX6_ofPost 48 = .ok (.aload_n 0, 1) := by decide +kernel
theorem dX6_ofPost_49 : decode cX6_ofPost 49 = .ok (.iload_n 1, 1) := by decide +kernel
theorem dX6_ofPost_50 : decode cX6_ofPost 50 = .ok (.invokevirtual 85, 3) := by decide +kernel
theorem dX6_ofPost_53 : decode cX6_ofPost 53 = .ok (.ifCond .eq 7, 3) := by decide +kernel
theorem dX6_ofPost_56 : decode cX6_ofPost 56 = .ok (.iconst 1, 1) := by decide +kernel
theorem dX6_ofPost_57 : decode cX6_ofPost 57 = .ok (.goto 4, 3) := by decide +kernel
theorem dX6_ofPost_60 : decode cX6_ofPost 60 = .ok (.iconst 0, 1) := by decide +kernel
theorem dX6_ofPost_61 : decode cX6_ofPost 61 = .ok (.ireturn, 1) := by decide +kernel
theorem dX6_ofPost_62 : decode cX6_ofPost 62 = .ok (.aload_n 0, 1) := by decide +kernel
theorem dX6_ofPost_63 : decode cX6_ofPost 63 = .ok (.getfield 25, 3) := by decide +kernel
theorem dX6_ofPost_66 : decode cX6_ofPost 66 = .ok (.iload_n 1, 1) := by decide +kernel
theorem dX6_ofPost_67 : decode cX6_ofPost 67 = .ok (.iaload, 1) := by decide +kernel
theorem dX6_ofPost_68 : decode cX6_ofPost 68 = .ok (.ireturn, 1) := by decide +kernel
theorem dX6_reaches_0 : decode cX6_reaches 0 = .ok (.aload_n 0, 1) := by decide +kernel
theorem dX6_reaches_1 : decode cX6_reaches 1 = .ok (.getfield 25, 3) := by decide +kernel
theorem dX6_reaches_4 : decode cX6_reaches 4 = .ok (.iload_n 1, 1) := by decide +kernel
theorem dX6_reaches_5 : decode cX6_reaches 5 = .ok (.iaload, 1) := by decide +kernel
theorem dX6_reaches_6 : decode cX6_reaches 6 = .ok (.iload_n 2, 1) := by decide +kernel
theorem dX6_reaches_7 : decode cX6_reaches 7 = .ok (.invokestatic 65, 3) := by decide +kernel
theorem dX6_reaches_10 : decode cX6_reaches 10 = .ok (.ireturn, 1) := by decide +kernel
theorem dX6_everybody_0 : decode cX6_everybody 0 = .ok (.iconst 1, 1) := by decide +kernel
theorem dX6_everybody_1 : decode cX6_everybody 1 = .ok (.aload_n 0, 1) := by decide +kernel
theorem dX6_everybody_2 : decode cX6_everybody 2 = .ok (.getfield 34, 3) := by decide +kernel
theorem dX6_everybody_5 : decode cX6_everybody 5 = .ok (.getfield 52, 3) := by decide +kernel
theorem dX6_everybody_8 : decode cX6_everybody 8 = .ok (.ishl, 1) := by decide +kernel
theorem dX6_everybody_9 : decode cX6_everybody 9 = .ok (.iconst 1, 1) := by decide +kernel
theorem dX6_everybody_10 : decode cX6_everybody 10 = .ok (.isub, 1) := by decide +kernel
theorem dX6_everybody_11 : decode cX6_everybody 11 = .ok (.ireturn, 1) := by decide +kernel
theorem dX6_firstSinker_0 : decode cX6_firstSinker 0 = .ok (.bipush (-2), 2) := by decide +kernel
theorem dX6_firstSinker_2 : decode cX6_firstSinker 2 = .ok (.istore_n 1, 1) := by decide +kernel
theorem dX6_firstSinker_3 : decode cX6_firstSinker 3 = .ok (.iconst 0, 1) := by decide +kernel
theorem dX6_firstSinker_4 : decode cX6_firstSinker 4 = .ok (.istore_n 2, 1) := by decide +kernel
theorem dX6_firstSinker_5 : decode cX6_firstSinker 5 = .ok (.iconst 0, 1) := by decide +kernel
theorem dX6_firstSinker_6 : decode cX6_firstSinker 6 = .ok (.istore_n 3, 1) := by decide +kernel
theorem dX6_firstSinker_7 : decode cX6_firstSinker 7 = .ok (.iload_n 3, 1) := by decide +kernel
theorem dX6_firstSinker_8 : decode cX6_firstSinker 8 = .ok (.aload_n 0, 1) := by decide +kernel
theorem dX6_firstSinker_9 : decode cX6_firstSinker 9 = .ok (.getfield 34, 3) := by decide +kernel
theorem dX6_firstSinker_12 : decode cX6_firstSinker 12 = .ok (.getfield 52, 3) := by decide +kernel
theorem dX6_firstSinker_15 : decode cX6_firstSinker 15 = .ok (.if_icmp .ge 42, 3) := by decide +kernel
theorem dX6_firstSinker_18 : decode cX6_firstSinker 18 = .ok (.aload_n 0, 1) := by decide +kernel
theorem dX6_firstSinker_19 : decode cX6_firstSinker 19 = .ok (.iload_n 3, 1) := by decide +kernel
theorem dX6_firstSinker_20 : decode cX6_firstSinker 20 = .ok (.invokevirtual 130, 3) := by decide +kernel
theorem dX6_firstSinker_23 : decode cX6_firstSinker 23 = .ok (.ifCond .eq 28, 3) := by decide +kernel
theorem dX6_firstSinker_26 : decode cX6_firstSinker 26 = .ok (.iload_n 1, 1) := by decide +kernel
theorem dX6_firstSinker_27 : decode cX6_firstSinker 27 = .ok (.bipush (-2), 2) := by decide +kernel
theorem dX6_firstSinker_29 : decode cX6_firstSinker 29 = .ok (.if_icmp .eq 13, 3) := by decide +kernel
theorem dX6_firstSinker_32 : decode cX6_firstSinker 32 = .ok (.aload_n 0, 1) := by decide +kernel
theorem dX6_firstSinker_33 : decode cX6_firstSinker 33 = .ok (.getfield 22, 3) := by decide +kernel
theorem dX6_firstSinker_36 : decode cX6_firstSinker 36 = .ok (.iload_n 3, 1) := by decide +kernel
theorem dX6_firstSinker_37 : decode cX6_firstSinker 37 = .ok (.iaload, 1) := by decide +kernel
theorem dX6_firstSinker_38 : decode cX6_firstSinker 38 = .ok (.iload_n 2, 1) := by decide +kernel
theorem dX6_firstSinker_39 : decode cX6_firstSinker 39 = .ok (.if_icmp .ge 12, 3) := by decide +kernel
theorem dX6_firstSinker_42 : decode cX6_firstSinker 42 = .ok (.iload_n 3, 1) := by decide +kernel
theorem dX6_firstSinker_43 : decode cX6_firstSinker 43 = .ok (.istore_n 1, 1) := by decide +kernel
theorem dX6_firstSinker_44 : decode cX6_firstSinker 44 = .ok (.aload_n 0, 1) := by decide +kernel
theorem dX6_firstSinker_45 : decode cX6_firstSinker 45 = .ok (.getfield 22, 3) := by decide +kernel
theorem dX6_firstSinker_48 : decode cX6_firstSinker 48 = .ok (.iload_n 3, 1) := by decide +kernel
theorem dX6_firstSinker_49 : decode cX6_firstSinker 49 = .ok (.iaload, 1) := by decide +kernel
theorem dX6_firstSinker_50 : decode cX6_firstSinker 50 = .ok (.istore_n 2, 1) := by decide +kernel
theorem dX6_firstSinker_51 : decode cX6_firstSinker 51 = .ok (.iinc 3 1, 3) := by decide +kernel
theorem dX6_firstSinker_54 : decode cX6_firstSinker 54 = .ok (.goto (-47), 3) := by decide +kernel
theorem dX6_firstSinker_57 : decode cX6_firstSinker 57 = .ok (.iload_n 1, 1) := by decide +kernel
theorem dX6_firstSinker_58 : decode cX6_firstSinker 58 = .ok (.ireturn, 1) := by decide +kernel
theorem dX6_underBits_0 : decode cX6_underBits 0 = .ok (.iconst 0, 1) := by decide +kernel
theorem dX6_underBits_1 : decode cX6_underBits 1 = .ok (.istore_n 2, 1) := by decide +kernel
theorem dX6_underBits_2 : decode cX6_underBits 2 = .ok (.iconst 0, 1) := by decide +kernel
theorem dX6_underBits_3 : decode cX6_underBits 3 = .ok (.istore_n 3, 1) := by decide +kernel
theorem dX6_underBits_4 : decode cX6_underBits 4 = .ok (.iload_n 3, 1) := by decide +kernel
theorem dX6_underBits_5 : decode cX6_underBits 5 = .ok (.aload_n 0, 1) := by decide +kernel
theorem dX6_underBits_6 : decode cX6_underBits 6 = .ok (.getfield 34, 3) := by decide +kernel
theorem dX6_underBits_9 : decode cX6_underBits 9 = .ok (.getfield 52, 3) := by decide +kernel
theorem dX6_underBits_12 : decode cX6_underBits 12 = .ok (.if_icmp .ge 24, 3) := by decide +kernel
theorem dX6_underBits_15 : decode cX6_underBits 15 = .ok (.aload_n 0, 1) := by decide +kernel
theorem dX6_underBits_16 : decode cX6_underBits 16 = .ok (.iload_n 3, 1) := by decide +kernel
theorem dX6_underBits_17 : decode cX6_underBits 17 = .ok (.iload_n 1, 1) := by decide +kernel
theorem dX6_underBits_18 : decode cX6_underBits 18 = .ok (.invokevirtual 112, 3) := by decide +kernel
theorem dX6_underBits_21 : decode cX6_underBits 21 = .ok (.ifCond .eq 9, 3) := by decide +kernel
theorem dX6_underBits_24 : decode cX6_underBits 24 = .ok (.iload_n 2, 1) := by decide +kernel
theorem dX6_underBits_25 : decode cX6_underBits 25 = .ok (.iconst 1, 1) := by decide +kernel
theorem dX6_underBits_26 : decode cX6_underBits 26 = .ok (.iload_n 3, 1) := by decide +kernel
theorem dX6_underBits_27 : decode cX6_underBits 27 = .ok (.ishl, 1) := by decide +kernel
theorem dX6_underBits_28 : decode cX6_underBits 28 = .ok (.ior, 1) := by decide +kernel
theorem dX6_underBits_29 : decode cX6_underBits 29 = .ok (.istore_n 2, 1) := by decide +kernel
theorem dX6_underBits_30 : decode cX6_underBits 30 = .ok (.iinc 3 1, 3) := by decide +kernel
theorem dX6_underBits_33 : decode cX6_underBits 33 = .ok (.goto (-29), 3) := by decide +kernel
theorem dX6_underBits_36 : decode cX6_underBits 36 = .ok (.iload_n 2, 1) := by decide +kernel
theorem dX6_underBits_37 : decode cX6_underBits 37 = .ok (.ireturn, 1) := by decide +kernel
theorem dX6_lostBits_0 : decode cX6_lostBits 0 = .ok (.iconst 0, 1) := by decide +kernel
theorem dX6_lostBits_1 : decode cX6_lostBits 1 = .ok (.istore_n 2, 1) := by decide +kernel
theorem dX6_lostBits_2 : decode cX6_lostBits 2 = .ok (.iconst 0, 1) := by decide +kernel
theorem dX6_lostBits_3 : decode cX6_lostBits 3 = .ok (.istore_n 3, 1) := by decide +kernel
theorem dX6_lostBits_4 : decode cX6_lostBits 4 = .ok (.iload_n 3, 1) := by decide +kernel
theorem dX6_lostBits_5 : decode cX6_lostBits 5 = .ok (.aload_n 0, 1) := by decide +kernel
theorem dX6_lostBits_6 : decode cX6_lostBits 6 = .ok (.getfield 34, 3) := by decide +kernel
theorem dX6_lostBits_9 : decode cX6_lostBits 9 = .ok (.getfield 52, 3) := by decide +kernel
theorem dX6_lostBits_12 : decode cX6_lostBits 12 = .ok (.if_icmp .ge 24, 3) := by decide +kernel
theorem dX6_lostBits_15 : decode cX6_lostBits 15 = .ok (.aload_n 0, 1) := by decide +kernel
theorem dX6_lostBits_16 : decode cX6_lostBits 16 = .ok (.iload_n 3, 1) := by decide +kernel
theorem dX6_lostBits_17 : decode cX6_lostBits 17 = .ok (.iload_n 1, 1) := by decide +kernel
theorem dX6_lostBits_18 : decode cX6_lostBits 18 = .ok (.invokevirtual 115, 3) := by decide +kernel
theorem dX6_lostBits_21 : decode cX6_lostBits 21 = .ok (.ifCond .eq 9, 3) := by decide +kernel
theorem dX6_lostBits_24 : decode cX6_lostBits 24 = .ok (.iload_n 2, 1) := by decide +kernel
theorem dX6_lostBits_25 : decode cX6_lostBits 25 = .ok (.iconst 1, 1) := by decide +kernel
theorem dX6_lostBits_26 : decode cX6_lostBits 26 = .ok (.iload_n 3, 1) := by decide +kernel
theorem dX6_lostBits_27 : decode cX6_lostBits 27 = .ok (.ishl, 1) := by decide +kernel
theorem dX6_lostBits_28 : decode cX6_lostBits 28 = .ok (.ior, 1) := by decide +kernel
theorem dX6_lostBits_29 : decode cX6_lostBits 29 = .ok (.istore_n 2, 1) := by decide +kernel
theorem dX6_lostBits_30 : decode cX6_lostBits 30 = .ok (.iinc 3 1, 3) := by decide +kernel
theorem dX6_lostBits_33 : decode cX6_lostBits 33 = .ok (.goto (-29), 3) := by decide +kernel
theorem dX6_lostBits_36 : decode cX6_lostBits 36 = .ok (.iload_n 2, 1) := by decide +kernel
theorem dX6_lostBits_37 : decode cX6_lostBits 37 = .ok (.ireturn, 1) := by decide +kernel
theorem dX6_minuteOfMostUnder_0 : decode cX6_minuteOfMostUnder 0 = .ok (.iconst 0, 1) := by decide +kernel
theorem dX6_minuteOfMostUnder_1 : decode cX6_minuteOfMostUnder 1 = .ok (.istore_n 1, 1) := by decide +kernel
theorem dX6_minuteOfMostUnder_2 : decode cX6_minuteOfMostUnder 2 = .ok (.iconst 0, 1) := by decide +kernel
theorem dX6_minuteOfMostUnder_3 : decode cX6_minuteOfMostUnder 3 = .ok (.istore_n 2, 1) := by decide +kernel
theorem dX6_minuteOfMostUnder_4 : decode cX6_minuteOfMostUnder 4 = .ok (.iconst 0, 1) := by decide +kernel
theorem dX6_minuteOfMostUnder_5 : decode cX6_minuteOfMostUnder 5 = .ok (.istore_n 3, 1) := by decide +kernel
theorem dX6_minuteOfMostUnder_6 : decode cX6_minuteOfMostUnder 6 = .ok (.iload_n 3, 1) := by decide +kernel
theorem dX6_minuteOfMostUnder_7 : decode cX6_minuteOfMostUnder 7 = .ok (.sipush 200, 3) := by decide +kernel
theorem dX6_minuteOfMostUnder_10 : decode cX6_minuteOfMostUnder 10 = .ok (.if_icmp .gt 30, 3) := by decide +kernel
theorem dX6_minuteOfMostUnder_13 : decode cX6_minuteOfMostUnder 13 = .ok (.aload_n 0, 1) := by decide +kernel
theorem dX6_minuteOfMostUnder_14 : decode cX6_minuteOfMostUnder 14 = .ok (.iload_n 3, 1) := by decide +kernel
theorem dX6_minuteOfMostUnder_15 : decode cX6_minuteOfMostUnder 15 = .ok (.invokevirtual 133, 3) := by decide +kernel
theorem dX6_minuteOfMostUnder_18 : decode cX6_minuteOfMostUnder 18 = .ok (.invokestatic 69, 3) := by decide +kernel
theorem dX6_minuteOfMostUnder_21 : decode cX6_minuteOfMostUnder 21 = .ok (.istore 4, 2) := by decide +kernel
theorem dX6_minuteOfMostUnder_23 : decode cX6_minuteOfMostUnder 23 = .ok (.iload 4, 2) := by decide +kernel
theorem dX6_minuteOfMostUnder_25 : decode cX6_minuteOfMostUnder 25 = .ok (.iload_n 2, 1) := by decide +kernel
theorem dX6_minuteOfMostUnder_26 : decode cX6_minuteOfMostUnder 26 = .ok (.if_icmp .le 8, 3) := by decide +kernel
theorem dX6_minuteOfMostUnder_29 : decode cX6_minuteOfMostUnder 29 = .ok (.iload 4, 2) := by decide +kernel
theorem dX6_minuteOfMostUnder_31 : decode cX6_minuteOfMostUnder 31 = .ok (.istore_n 2, 1) := by decide +kernel
theorem dX6_minuteOfMostUnder_32 : decode cX6_minuteOfMostUnder 32 = .ok (.iload_n 3, 1) := by decide +kernel
theorem dX6_minuteOfMostUnder_33 : decode cX6_minuteOfMostUnder 33 = .ok (.istore_n 1, 1) := by decide +kernel
theorem dX6_minuteOfMostUnder_34 : decode cX6_minuteOfMostUnder 34 = .ok (.iinc 3 1, 3) := by decide +kernel
theorem dX6_minuteOfMostUnder_37 : decode cX6_minuteOfMostUnder 37 = .ok (.goto (-31), 3) := by decide +kernel
theorem dX6_minuteOfMostUnder_40 : decode cX6_minuteOfMostUnder 40 = .ok (.iload_n 1, 1) := by decide +kernel
theorem dX6_minuteOfMostUnder_41 : decode cX6_minuteOfMostUnder 41 = .ok (.ireturn, 1) := by decide +kernel
theorem dX6_minuteOfSoMany_0 : decode cX6_minuteOfSoMany 0 = .ok (.iconst 0, 1) := by decide +kernel
theorem dX6_minuteOfSoMany_1 : decode cX6_minuteOfSoMany 1 = .ok (.istore_n 2, 1) := by decide +kernel
theorem dX6_minuteOfSoMany_2 : decode cX6_minuteOfSoMany 2 = .ok (.iload_n 2, 1) := by decide +kernel
theorem dX6_minuteOfSoMany_3 : decode cX6_minuteOfSoMany 3 = .ok (.sipush 200, 3) := by decide +kernel
theorem dX6_minuteOfSoMany_6 : decode cX6_minuteOfSoMany 6 = .ok (.if_icmp .gt 62, 3) := by decide +kernel
theorem dX6_minuteOfSoMany_9 : decode cX6_minuteOfSoMany 9 = .ok (.iconst 0, 1) := by decide +kernel
theorem dX6_minuteOfSoMany_10 : decode cX6_minuteOfSoMany 10 = .ok (.istore_n 3, 1) := by decide +kernel
theorem dX6_minuteOfSoMany_11 : decode cX6_minuteOfSoMany 11 = .ok (.iconst 0, 1) := by decide +kernel
theorem dX6_minuteOfSoMany_12 : decode cX6_minuteOfSoMany 12 = .ok (.istore 4, 2) := by decide +kernel
theorem dX6_minuteOfSoMany_14 : decode cX6_minuteOfSoMany 14 = .ok (.iload 4, 2) := by decide +kernel
theorem dX6_minuteOfSoMany_16 : decode cX6_minuteOfSoMany 16 = .ok (.aload_n 0, 1) := by decide +kernel
theorem dX6_minuteOfSoMany_17 : decode cX6_minuteOfSoMany 17 = .ok (.getfield 34, 3) := by decide +kernel
theorem dX6_minuteOfSoMany_20 : decode cX6_minuteOfSoMany 20 = .ok (.getfield 52, 3) := by decide +kernel
theorem dX6_minuteOfSoMany_23 : decode cX6_minuteOfSoMany 23 = .ok (.if_icmp .ge 32, 3) := by decide +kernel
theorem dX6_minuteOfSoMany_26 : decode cX6_minuteOfSoMany 26 = .ok (.aload_n 0, 1) := by decide +kernel
theorem dX6_minuteOfSoMany_27 : decode cX6_minuteOfSoMany 27 = .ok (.iload 4, 2) := by decide +kernel
theorem dX6_minuteOfSoMany_29 : decode cX6_minuteOfSoMany 29 = .ok (.invokevirtual 130, 3) := by decide +kernel
theorem dX6_minuteOfSoMany_32 : decode cX6_minuteOfSoMany 32 = .ok (.ifCond .eq 17, 3) := by decide +kernel
theorem dX6_minuteOfSoMany_35 : decode cX6_minuteOfSoMany 35 = .ok (.aload_n 0, 1) := by decide +kernel
theorem dX6_minuteOfSoMany_36 : decode cX6_minuteOfSoMany 36 = .ok (.getfield 22, 3) := by decide +kernel
theorem dX6_minuteOfSoMany_39 : decode cX6_minuteOfSoMany 39 = .ok (.iload 4, 2) := by decide +kernel
theorem dX6_minuteOfSoMany_41 : decode cX6_minuteOfSoMany 41 = .ok (.iaload, 1) := by decide +kernel
theorem dX6_minuteOfSoMany_42 : decode cX6_minuteOfSoMany 42 = .ok (.iload_n 2, 1) := by decide +kernel
theorem dX6_minuteOfSoMany_43 : decode cX6_minuteOfSoMany 43 = .ok (.if_icmp .gt 6, 3) := by decide +kernel
theorem dX6_minuteOfSoMany_46 : decode cX6_minuteOfSoMany 46 = .ok (.iinc 3 1, 3) := by decide +kernel
theorem dX6_minuteOfSoMany_49 : decode cX6_minuteOfSoMany 49 = .ok (.iinc 4 1, 3) := by decide +kernel
theorem dX6_minuteOfSoMany_52 : decode cX6_minuteOfSoMany 52 = .ok (.goto (-38), 3) := by decide +kernel
theorem dX6_minuteOfSoMany_55 : decode cX6_minuteOfSoMany 55 = .ok (.iload_n 3, 1) := by decide +kernel
theorem dX6_minuteOfSoMany_56 : decode cX6_minuteOfSoMany 56 = .ok (.iload_n 1, 1) := by decide +kernel
theorem dX6_minuteOfSoMany_57 : decode cX6_minuteOfSoMany 57 = .ok (.if_icmp .lt 5, 3) := by decide +kernel
theorem dX6_minuteOfSoMany_60 : decode cX6_minuteOfSoMany 60 = .ok (.iload_n 2, 1) := by decide +kernel
theorem dX6_minuteOfSoMany_61 : decode cX6_minuteOfSoMany 61 = .ok (.ireturn, 1) := by decide +kernel
theorem dX6_minuteOfSoMany_62 : decode cX6_minuteOfSoMany 62 = .ok (.iinc 2 1, 3) := by decide +kernel
theorem dX6_minuteOfSoMany_65 : decode cX6_minuteOfSoMany 65 = .ok (.goto (-63), 3) := by decide +kernel
theorem dX6_minuteOfSoMany_68 : decode cX6_minuteOfSoMany 68 = .ok (.bipush (-2), 2) := by decide +kernel
theorem dX6_minuteOfSoMany_70 : decode cX6_minuteOfSoMany 70 = .ok (.ireturn, 1) := by decide +kernel
theorem dX6_nearestManned_0 : decode cX6_nearestManned 0 = .ok (.bipush (-2), 2) := by decide +kernel
theorem dX6_nearestManned_2 : decode cX6_nearestManned 2 = .ok (.istore_n 2, 1) := by decide +kernel
theorem dX6_nearestManned_3 : decode cX6_nearestManned 3 = .ok (.iconst 0, 1) := by decide +kernel
theorem dX6_nearestManned_4 : decode cX6_nearestManned 4 = .ok (.istore_n 3, 1) := by decide +kernel
theorem dX6_nearestManned_5 : decode cX6_nearestManned 5 = .ok (.iconst 0, 1) := by decide +kernel
theorem dX6_nearestManned_6 : decode cX6_nearestManned 6 = .ok (.istore 4, 2) := by decide +kernel
theorem dX6_nearestManned_8 : decode cX6_nearestManned 8 = .ok (.iload 4, 2) := by decide +kernel
theorem dX6_nearestManned_10 : decode cX6_nearestManned 10 = .ok (.aload_n 0, 1) := by decide +kernel
theorem dX6_nearestManned_11 : decode cX6_nearestManned 11 = .ok (.getfield 34, 3) := by decide +kernel
theorem dX6_nearestManned_14 : decode cX6_nearestManned 14 = .ok (.getfield 79, 3) := by decide +kernel
theorem dX6_nearestManned_17 : decode cX6_nearestManned 17 = .ok (.if_icmp .ge 46, 3) := by decide +kernel
theorem dX6_nearestManned_20 : decode cX6_nearestManned 20 = .ok (.aload_n 0, 1) := by decide +kernel
theorem dX6_nearestManned_21 : decode cX6_nearestManned 21 = .ok (.iload 4, 2) := by decide +kernel
theorem dX6_nearestManned_23 : decode cX6_nearestManned 23 = .ok (.invokevirtual 85, 3) := by decide +kernel
theorem dX6_nearestManned_26 : decode cX6_nearestManned 26 = .ok (.ifCond .eq 31, 3) := by decide +kernel
theorem dX6_nearestManned_29 : decode cX6_nearestManned 29 = .ok (.iload_n 2, 1) := by decide +kernel
theorem dX6_nearestManned_30 : decode cX6_nearestManned 30 = .ok (.bipush (-2), 2) := by decide +kernel
theorem dX6_nearestManned_32 : decode cX6_nearestManned 32 = .ok (.if_icmp .eq 14, 3) := by decide +kernel
theorem dX6_nearestManned_35 : decode cX6_nearestManned 35 = .ok (.aload_n 0, 1) := by decide +kernel
theorem dX6_nearestManned_36 : decode cX6_nearestManned 36 = .ok (.iload 4, 2) := by decide +kernel
theorem dX6_nearestManned_38 : decode cX6_nearestManned 38 = .ok (.iload_n 1, 1) := by decide +kernel
theorem dX6_nearestManned_39 : decode cX6_nearestManned 39 = .ok (.invokevirtual 94, 3) := by decide +kernel
theorem dX6_nearestManned_42 : decode cX6_nearestManned 42 = .ok (.iload_n 3, 1) := by decide +kernel
theorem dX6_nearestManned_43 : decode cX6_nearestManned 43 = .ok (.if_icmp .ge 14, 3) := by decide +kernel
theorem dX6_nearestManned_46 : decode cX6_nearestManned 46 = .ok (.iload 4, 2) := by decide +kernel
theorem dX6_nearestManned_48 : decode cX6_nearestManned 48 = .ok (.istore_n 2, 1) := by decide +kernel
theorem dX6_nearestManned_49 : decode cX6_nearestManned 49 = .ok (.aload_n 0, 1) := by decide +kernel
theorem dX6_nearestManned_50 : decode cX6_nearestManned 50 = .ok (.iload 4, 2) := by decide +kernel
theorem dX6_nearestManned_52 : decode cX6_nearestManned 52 = .ok (.iload_n 1, 1) := by decide +kernel
theorem dX6_nearestManned_53 : decode cX6_nearestManned 53 = .ok (.invokevirtual 94, 3) := by decide +kernel
theorem dX6_nearestManned_56 : decode cX6_nearestManned 56 = .ok (.istore_n 3, 1) := by decide +kernel
theorem dX6_nearestManned_57 : decode cX6_nearestManned 57 = .ok (.iinc 4 1, 3) := by decide +kernel
theorem dX6_nearestManned_60 : decode cX6_nearestManned 60 = .ok (.goto (-52), 3) := by decide +kernel
theorem dX6_nearestManned_63 : decode cX6_nearestManned 63 = .ok (.iload_n 2, 1) := by decide +kernel
theorem dX6_nearestManned_64 : decode cX6_nearestManned 64 = .ok (.ireturn, 1) := by decide +kernel
theorem dX6_isCovering_0 : decode cX6_isCovering 0 = .ok (.iconst 0, 1) := by decide +kernel
theorem dX6_isCovering_1 : decode cX6_isCovering 1 = .ok (.istore_n 2, 1) := by decide +kernel
theorem dX6_isCovering_2 : decode cX6_isCovering 2 = .ok (.iconst 0, 1) := by decide +kernel
theorem dX6_isCovering_3 : decode cX6_isCovering 3 = .ok (.istore_n 3, 1) := by decide +kernel
theorem dX6_isCovering_4 : decode cX6_isCovering 4 = .ok (.iload_n 3, 1) := by decide +kernel
theorem dX6_isCovering_5 : decode cX6_isCovering 5 = .ok (.aload_n 0, 1) := by decide +kernel
theorem dX6_isCovering_6 : decode cX6_isCovering 6 = .ok (.getfield 34, 3) := by decide +kernel
theorem dX6_isCovering_9 : decode cX6_isCovering 9 = .ok (.getfield 79, 3) := by decide +kernel
theorem dX6_isCovering_12 : decode cX6_isCovering 12 = .ok (.if_icmp .ge 26, 3) := by decide +kernel
theorem dX6_isCovering_15 : decode cX6_isCovering 15 = .ok (.iload_n 1, 1) := by decide +kernel
theorem dX6_isCovering_16 : decode cX6_isCovering 16 = .ok (.iload_n 3, 1) := by decide +kernel
theorem dX6_isCovering_17 : decode cX6_isCovering 17 = .ok (.invokestatic 65, 3) := by decide +kernel
theorem dX6_isCovering_20 : decode cX6_isCovering 20 = .ok (.ifCond .eq 12, 3) := by decide +kernel
theorem dX6_isCovering_23 : decode cX6_isCovering 23 = .ok (.iload_n 2, 1) := by decide +kernel
theorem dX6_isCovering_24 : decode cX6_isCovering 24 = .ok (.aload_n 0, 1) := by decide +kernel
theorem dX6_isCovering_25 : decode cX6_isCovering 25 = .ok (.getfield 25, 3) := by decide +kernel
theorem dX6_isCovering_28 : decode cX6_isCovering 28 = .ok (.iload_n 3, 1) := by decide +kernel
theorem dX6_isCovering_29 : decode cX6_isCovering 29 = .ok (.iaload, 1) := by decide +kernel
theorem dX6_isCovering_30 : decode cX6_isCovering 30 = .ok (.ior, 1) := by decide +kernel
theorem dX6_isCovering_31 : decode cX6_isCovering 31 = .ok (.istore_n 2, 1) := by decide +kernel
theorem dX6_isCovering_32 : decode cX6_isCovering 32 = .ok (.iinc 3 1, 3) := by decide +kernel
theorem dX6_isCovering_35 : decode cX6_isCovering 35 = .ok (.goto (-31), 3) := by decide +kernel
theorem dX6_isCovering_38 : decode cX6_isCovering 38 = .ok (.aload_n 0, 1) := by decide +kernel
theorem dX6_isCovering_39 : decode cX6_isCovering 39 = .ok (.getfield 38, 3) := by decide +kernel
theorem dX6_isCovering_42 : decode cX6_isCovering 42 = .ok (.iload_n 2, 1) := by decide +kernel
theorem dX6_isCovering_43 : decode cX6_isCovering 43 = .ok (.iconst (-1), 1) := by decide +kernel
theorem dX6_isCovering_44 : decode cX6_isCovering 44 = .ok (.ixor, 1) := by decide +kernel
theorem dX6_isCovering_45 : decode cX6_isCovering 45 = .ok (.iand, 1) := by decide +kernel
theorem dX6_isCovering_46 : decode cX6_isCovering 46 = .ok (.ifCond .ne 7, 3) := by decide +kernel
theorem dX6_isCovering_49 : decode cX6_isCovering 49 = .ok (.iconst 1, 1) := by decide +kernel
theorem dX6_isCovering_50 : decode cX6_isCovering 50 = .ok (.goto 4, 3) := by decide +kernel
theorem dX6_isCovering_53 : decode cX6_isCovering 53 = .ok (.iconst 0, 1) := by decide +kernel
theorem dX6_isCovering_54 : decode cX6_isCovering 54 = .ok (.ireturn, 1) := by decide +kernel
theorem dX6_fewestPosts_0 : decode cX6_fewestPosts 0 = .ok (.bipush (-2), 2) := by decide +kernel
theorem dX6_fewestPosts_2 : decode cX6_fewestPosts 2 = .ok (.istore_n 1, 1) := by decide +kernel
theorem dX6_fewestPosts_3 : decode cX6_fewestPosts 3 = .ok (.iconst 0, 1) := by decide +kernel
theorem dX6_fewestPosts_4 : decode cX6_fewestPosts 4 = .ok (.istore_n 2, 1) := by decide +kernel
theorem dX6_fewestPosts_5 : decode cX6_fewestPosts 5 = .ok (.iload_n 2, 1) := by decide +kernel
theorem dX6_fewestPosts_6 : decode cX6_fewestPosts 6 = .ok (.iconst 1, 1) := by decide +kernel
theorem dX6_fewestPosts_7 : decode cX6_fewestPosts 7 = .ok (.aload_n 0, 1) := by decide +kernel
theorem dX6_fewestPosts_8 : decode cX6_fewestPosts 8 = .ok (.getfield 34, 3) := by decide +kernel
theorem dX6_fewestPosts_11 : decode cX6_fewestPosts 11 = .ok (.getfield 79, 3) := by decide +kernel
theorem dX6_fewestPosts_14 : decode cX6_fewestPosts 14 = .ok (.ishl, 1) := by decide +kernel
theorem dX6_fewestPosts_15 : decode cX6_fewestPosts 15 = .ok (.if_icmp .ge 36, 3) := by decide +kernel
theorem dX6_fewestPosts_18 : decode cX6_fewestPosts 18 = .ok (.aload_n 0, 1) := by decide +kernel
theorem dX6_fewestPosts_19 : decode cX6_fewestPosts 19 = .ok (.iload_n 2, 1) := by decide +kernel
theorem dX6_fewestPosts_20 : decode cX6_fewestPosts 20 = .ok (.invokevirtual 136, 3) := by decide +kernel
theorem dX6_fewestPosts_23 : decode cX6_fewestPosts 23 = .ok (.ifCond .eq 22, 3) := by decide +kernel
theorem dX6_fewestPosts_26 : decode cX6_fewestPosts 26 = .ok (.iload_n 1, 1) := by decide +kernel
theorem dX6_fewestPosts_27 : decode cX6_fewestPosts 27 = .ok (.bipush (-2), 2) := by decide +kernel
theorem dX6_fewestPosts_29 : decode cX6_fewestPosts 29 = .ok (.if_icmp .eq 14, 3) := by decide +kernel
theorem dX6_fewestPosts_32 : decode cX6_fewestPosts 32 = .ok (.iload_n 2, 1) := by decide +kernel
theorem dX6_fewestPosts_33 : decode cX6_fewestPosts 33 = .ok (.invokestatic 69, 3) := by decide +kernel
theorem dX6_fewestPosts_36 : decode cX6_fewestPosts 36 = .ok (.iload_n 1, 1) := by decide +kernel
theorem dX6_fewestPosts_37 : decode cX6_fewestPosts 37 = .ok (.invokestatic 69, 3) := by decide +kernel
theorem dX6_fewestPosts_40 : decode cX6_fewestPosts 40 = .ok (.if_icmp .ge 5, 3) := by decide +kernel
theorem dX6_fewestPosts_43 : decode cX6_fewestPosts 43 = .ok (.iload_n 2, 1) := by decide +kernel
theorem dX6_fewestPosts_44 : decode cX6_fewestPosts 44 = .ok (.istore_n 1, 1) := by decide +kernel
theorem dX6_fewestPosts_45 : decode cX6_fewestPosts 45 = .ok (.iinc 2 1, 3) := by decide +kernel
theorem dX6_fewestPosts_48 : decode cX6_fewestPosts 48 = .ok (.goto (-43), 3) := by decide +kernel
theorem dX6_fewestPosts_51 : decode cX6_fewestPosts 51 = .ok (.iload_n 1, 1) := by decide +kernel
theorem dX6_fewestPosts_52 : decode cX6_fewestPosts 52 = .ok (.ireturn, 1) := by decide +kernel
def m_X6_ofPost (t : Nat) (x0p : Int32) (x1p : Int32) (σ : jd_Hp) : Option (Int32 × jd_Hp) :=
jd_sw x1p 0 [
jd_o σ (10, 16) (σ.2.2.2 t 5) fun a1 =>
jd_ia σ 20 (σ.2.2.2 a1 6) x0p fun a2 j2 =>
some ((σ.2.1 a2 j2), σ),
jd_o σ (10, 16) (σ.2.2.2 t 5) fun a3 =>
jd_ia σ 20 (σ.2.2.2 a3 7) x0p fun a4 j4 =>
some ((σ.2.1 a4 j4), σ),
jd_b (m_X6_isManned t x0p σ) fun r5 σ5 =>
jd_if (r5 = 0) (
some (0, σ5)) (
some (1, σ5))] (
jd_ia σ 20 (σ.2.2.2 t 3) x0p fun a6 j6 =>
some ((σ.2.1 a6 j6), σ))
set_option maxHeartbeats 4000000 in
set_option maxRecDepth 20000 in
theorem c_X6_ofPost {l : Launch} {s0 : State} {G : jd_G} (hF : jd_F s0 G) (σ : jd_Hp) (t : Nat) (ht : σ.1[t]? = some (6, 8)) (x0p : Int32) (x1p : Int32) : jd_M l s0 G yX6_ofPost cX6_ofPost 3 (some .int) 2 je_i [jd_v G (some t), .int x0p, .int x1p] σ (m_X6_ofPost t x0p x1p σ) := by
  refine jd_enter hF (by decide) (fun G => [some (jd_v G (some t)), some (.int x0p), some (.int x1p)]) rfl (by simp [lv_args, jd_al, jd_v_cat, jd_cti, jd_ctl]) (by simp [lg_sl, jd_v_cat, jd_cti, jd_ctl]) (fun X hD hX => ?_)
  have hX : jd_C X RX6 "ofPost" cX6_ofPost 3 (some .int) := hX
  unfold m_X6_ofPost
  refine jr_ild2 (pc := 0) hX dX6_ofPost_0 ?_
  refine jr_tsw (pc := 1) hX [28, 38, 48] 62 dX6_ofPost_1 (by decide) rfl (by decide) rfl (fun i t A h1 h2 => ?_) ?_
  · match i, h1, h2 with
    | 0, h1, h2 =>
      cases h1
      cases h2
      refine jr_ald0 (pc := 28) hX dX6_ofPost_28 ?_
      refine jr_getr (pc := 29) hX fX6_34 rfl dX6_ofPost_29 ht ?_
      refine jr_ck0 (fun a1 e1 h1 => ?_)
      refine jr_getr (pc := 32) hX fX6_121 rfl dX6_ofPost_32 h1 ?_
      refine jr_ild1 (pc := 35) hX dX6_ofPost_35 ?_
      refine jr_iaC (pc := 36) hX dX6_ofPost_36 (fun a2 n2 e2 h2 => ?_)
      exact jr_iret (pc := 37) hX dX6_ofPost_37 rfl
    | 1, h1, h2 =>
      cases h1
      cases h2
      refine jr_ald0 (pc := 38) hX dX6_ofPost_38 ?_
      refine jr_getr (pc := 39) hX fX6_34 rfl dX6_ofPost_39 ht ?_
      refine jr_ck0 (fun a3 e3 h3 => ?_)
      refine jr_getr (pc := 42) hX fX6_124 rfl dX6_ofPost_42 h3 ?_
      refine jr_ild1 (pc := 45) hX dX6_ofPost_45 ?_
      refine jr_iaC (pc := 46) hX dX6_ofPost_46 (fun a4 n4 e4 h4 => ?_)
      exact jr_iret (pc := 47) hX dX6_ofPost_47 rfl
    | 2, h1, h2 =>
      cases h1
      cases h2
      refine jr_ald0 (pc := 48) hX dX6_ofPost_48 ?_
      refine jr_ild1 (pc := 49) hX dX6_ofPost_49 ?_
      refine jr_cV1i (pc := 50) hX lX6_85 (c_X6_isManned hX.F σ t ht _) (jd_dd hD rfl) (Nat.le_of_ble_eq_true rfl) dX6_ofPost_50 ht (fun r5 σ5 p5 => ?_)
      refine jr_ifeq (pc := 53) hX 60 dX6_ofPost_53 (by decide) ?_ ?_
      · refine jr_iconst (pc := 60) hX 0 rfl dX6_ofPost_60 ?_
        exact jr_iret (pc := 61) hX dX6_ofPost_61 rfl
      · refine jr_iconst (pc := 56) hX 1 rfl dX6_ofPost_56 ?_
        refine jr_goto (pc := 57) hX 61 dX6_ofPost_57 (by decide) ?_
        exact jr_iret (pc := 61) hX dX6_ofPost_61 rfl
    | i + 3, h1, h2 => simp at h1
  · refine jr_ald0 (pc := 62) hX dX6_ofPost_62 ?_
    refine jr_getr (pc := 63) hX fX6_25 rfl dX6_ofPost_63 ht ?_
    refine jr_ild1 (pc := 66) hX dX6_ofPost_66 ?_
    refine jr_iaC (pc := 67) hX dX6_ofPost_67 (fun a6 n6 e6 h6 => ?_)
    exact jr_iret (pc := 68) hX dX6_ofPost_68 rfl
def m_X6_reaches (t : Nat) (x0p : Int32) (x1p : Int32) (σ : jd_Hp) : Option (Int32 × jd_Hp) :=
jd_ia σ 20 (σ.2.2.2 t 3) x0p fun a1 j1 =>
jd_b (m_X11_has (σ.2.1 a1 j1) x1p σ) fun r2 σ2 =>
some ((r2 &&& 1), σ2)
set_option maxHeartbeats 4000000 in
set_option maxRecDepth 20000 in
theorem c_X6_reaches {l : Launch} {s0 : State} {G : jd_G} (hF : jd_F s0 G) (σ : jd_Hp) (t : Nat) (ht : σ.1[t]? = some (6, 8)) (x0p : Int32) (x1p : Int32) : jd_M l s0 G yX6_reaches cX6_reaches 3 (some .boolean) 1 je_i [jd_v G (some t), .int x0p, .int x1p] σ (m_X6_reaches t x0p x1p σ) := by
  refine jd_enter hF (by decide) (fun G => [some (jd_v G (some t)), some (.int x0p), some (.int x1p)]) rfl (by simp [lv_args, jd_al, jd_v_cat, jd_cti, jd_ctl]) (by simp [lg_sl, jd_v_cat, jd_cti, jd_ctl]) (fun X hD hX => ?_)
  have hX : jd_C X RX6 "reaches" cX6_reaches 3 (some .boolean) := hX
  unfold m_X6_reaches
  refine jr_ald0 (pc := 0) hX dX6_reaches_0 ?_
  refine jr_getr (pc := 1) hX fX6_25 rfl dX6_reaches_1 ht ?_
  refine jr_ild1 (pc := 4) hX dX6_reaches_4 ?_
  refine jr_iaC (pc := 5) hX dX6_reaches_5 (fun a1 n1 e1 h1 => ?_)
  refine jr_ild2 (pc := 6) hX dX6_reaches_6 ?_
  refine jr_cS2i (pc := 7) hX lX6_65 (c_X11_has hX.F σ _ _) (jd_dd hD rfl) (Nat.le_of_ble_eq_true rfl) dX6_reaches_7 (fun r2 σ2 p2 => ?_)
  exact jr_bret (pc := 10) hX dX6_reaches_10 rfl
def m_X6_everybody (t : Nat) (σ : jd_Hp) : Option (Int32 × jd_Hp) :=
jd_o σ (10, 16) (σ.2.2.2 t 5) fun a1 =>
some (((1 <<< ((σ.2.1 a1 11) &&& 31)) - 1), σ)
set_option maxHeartbeats 4000000 in
set_option maxRecDepth 20000 in
theorem c_X6_everybody {l : Launch} {s0 : State} {G : jd_G} (hF : jd_F s0 G) (σ : jd_Hp) (t : Nat) (ht : σ.1[t]? = some (6, 8)) : jd_M l s0 G yX6_everybody cX6_everybody 1 (some .int) 0 je_i [jd_v G (some t)] σ (m_X6_everybody t σ) := by
  refine jd_enter hF (by decide) (fun G => [some (jd_v G (some t))]) rfl (by simp [lv_args, jd_al, jd_v_cat, jd_cti, jd_ctl]) (by simp [lg_sl, jd_v_cat, jd_cti, jd_ctl]) (fun X hD hX => ?_)
  have hX : jd_C X RX6 "everybody" cX6_everybody 1 (some .int) := hX
  unfold m_X6_everybody
  refine jr_iconst (pc := 0) hX 1 rfl dX6_everybody_0 ?_
  refine jr_ald0 (pc := 1) hX dX6_everybody_1 ?_
  refine jr_getr (pc := 2) hX fX6_34 rfl dX6_everybody_2 ht ?_
  refine jr_ck0 (fun a1 e1 h1 => ?_)
  refine jr_geti (pc := 5) hX fX6_52 rfl dX6_everybody_5 h1 ?_
  refine jr_ishl (pc := 8) hX dX6_everybody_8 ?_
  refine jr_iconst (pc := 9) hX 1 rfl dX6_everybody_9 ?_
  refine jr_isub (pc := 10) hX dX6_everybody_10 ?_
  exact jr_iret (pc := 11) hX dX6_everybody_11 rfl
def m_X6_firstSinker (t : Nat) (σ : jd_Hp) : Option (Int32 × jd_Hp) :=
jd_b (jd_lp (S := Int32 × Int32 × Int32) (T := Int32) (fun s1 σ1 =>
jd_o σ1 (6, 8) (some t) fun a3 =>
jd_o σ1 (10, 16) (σ1.2.2.2 a3 5) fun a4 =>
jd_if ((σ1.2.1 a4 11) ≤ s1.2.2) (
some ((Sum.inr s1.1), σ1)) (
jd_b (m_X6_sinks a3 s1.2.2 σ1) fun r5 σ5 =>
jd_if (r5 = 0) (
some (Sum.inl (s1.1, s1.2.1, (s1.2.2 + 1)), σ5)) (
jd_if (s1.1 = (-2)) (
jd_ia σ5 20 (σ5.2.2.2 a3 2) s1.2.2 fun a6 j6 =>
jd_li (σ5.2.1 a6 j6) fun x7 =>
some (Sum.inl (s1.2.2, x7, (s1.2.2 + 1)), σ5)) (
jd_ia σ5 20 (σ5.2.2.2 a3 2) s1.2.2 fun a8 j8 =>
jd_if (s1.2.1 ≤ (σ5.2.1 a8 j8)) (
some (Sum.inl (s1.1, s1.2.1, (s1.2.2 + 1)), σ5)) (
jd_ia σ5 20 (σ5.2.2.2 a3 2) s1.2.2 fun a9 j9 =>
jd_li (σ5.2.1 a9 j9) fun x10 =>
some (Sum.inl (s1.2.2, x10, (s1.2.2 + 1)), σ5)))))) jd_fu ((-2), 0, 0) σ) fun t2 σ2 =>
some (t2, σ2)
set_option maxHeartbeats 4000000 in
set_option maxRecDepth 20000 in
theorem c_X6_firstSinker {l : Launch} {s0 : State} {G : jd_G} (hF : jd_F s0 G) (σ : jd_Hp) (t : Nat) (ht : σ.1[t]? = some (6, 8)) : jd_M l s0 G yX6_firstSinker cX6_firstSinker 4 (some .int) 2 je_i [jd_v G (some t)] σ (m_X6_firstSinker t σ) := by
  refine jd_enter hF (by decide) (fun G => [some (jd_v G (some t)), none, none, none]) rfl (by simp [lv_args, jd_al, jd_v_cat, jd_cti, jd_ctl]) (by simp [lg_sl, jd_v_cat, jd_cti, jd_ctl]) (fun X hD hX => ?_)
  have hX : jd_C X RX6 "firstSinker" cX6_firstSinker 4 (some .int) := hX
  unfold m_X6_firstSinker
  refine jr_bipush (pc := 0) hX (-2) rfl dX6_firstSinker_0 ?_
  refine jr_ist1 (pc := 2) hX (jn_r _ _) dX6_firstSinker_2 ?_
  refine jr_iconst (pc := 3) hX 0 rfl dX6_firstSinker_3 ?_
  refine jr_ist2 (pc := 4) hX (jn_i _) dX6_firstSinker_4 ?_
  refine jr_iconst (pc := 5) hX 0 rfl dX6_firstSinker_5 ?_
  refine jr_ist3 (pc := 6) hX (jn_i _) dX6_firstSinker_6 ?_
  refine jr_loop (pc := 7) (fun (s1 : Int32 × Int32 × Int32) => [some (jd_v (jd_gG X) (some t)), some (.int s1.1), some (.int s1.2.1), some (.int s1.2.2)]) (fun (t2 : Int32) => [none, some (.int t2), none, none]) 57 ((-2), 0, 0) (fun t2 σ2 => ?_) (fun K1 bk1 ex1 s1 σ1 => ?_)
  · refine jr_ild1 (pc := 57) hX dX6_firstSinker_57 ?_
    exact jr_iret (pc := 58) hX dX6_firstSinker_58 rfl
  · refine jr_ild3 (pc := 7) hX dX6_firstSinker_7 ?_
    refine jr_ald0 (pc := 8) hX dX6_firstSinker_8 ?_
    refine jr_ck0 (fun a3 e3 h3 => ?_)
    refine jr_getr (pc := 9) hX fX6_34 rfl dX6_firstSinker_9 h3 ?_
    refine jr_ck0 (fun a4 e4 h4 => ?_)
    refine jr_geti (pc := 12) hX fX6_52 rfl dX6_firstSinker_12 h4 ?_
    refine jr_icge (pc := 15) hX 57 dX6_firstSinker_15 (by decide) ?_ ?_
    · refine jr_wk [false, true, false, false] ?_
      exact ex1 s1.1 _
    · refine jr_ald0 (pc := 18) hX dX6_firstSinker_18 ?_
      refine jr_ild3 (pc := 19) hX dX6_firstSinker_19 ?_
      refine jr_ek1 e3 ?_
      refine jr_cV1i (pc := 20) hX lX6_130 (c_X6_sinks hX.F σ1 a3 h3 _) (jd_dd hD rfl) (Nat.le_of_ble_eq_true rfl) dX6_firstSinker_20 h3 (fun r5 σ5 p5 => ?_)
      refine jr_ifeq (pc := 23) hX 51 dX6_firstSinker_23 (by decide) ?_ ?_
      · refine jr_inc3 (pc := 51) hX 1 rfl (jn_i _) dX6_firstSinker_51 ?_
        refine jr_goto (pc := 54) hX 7 dX6_firstSinker_54 (by decide) ?_
        exact bk1 (s1.1, s1.2.1, (s1.2.2 + 1)) _
      · refine jr_ild1 (pc := 26) hX dX6_firstSinker_26 ?_
        refine jr_bipush (pc := 27) hX (-2) rfl dX6_firstSinker_27 ?_
        refine jr_iceq (pc := 29) hX 42 dX6_firstSinker_29 (by decide) ?_ ?_
        · refine jr_ild3 (pc := 42) hX dX6_firstSinker_42 ?_
          refine jr_ist1 (pc := 43) hX (jn_r _ _) dX6_firstSinker_43 ?_
          refine jr_ald0 (pc := 44) hX dX6_firstSinker_44 ?_
          refine jr_ek0 e3 ?_
          refine jr_getr (pc := 45) hX fX6_22 rfl dX6_firstSinker_45 (p5.at h3 :) ?_
          refine jr_ild3 (pc := 48) hX dX6_firstSinker_48 ?_
          refine jr_iaC (pc := 49) hX dX6_firstSinker_49 (fun a6 n6 e6 h6 => ?_)
          refine jr_ist2 (pc := 50) hX (jn_i _) dX6_firstSinker_50 ?_
          refine jr_li ?_
          refine jr_inc3 (pc := 51) hX 1 rfl (jn_i _) dX6_firstSinker_51 ?_
          refine jr_goto (pc := 54) hX 7 dX6_firstSinker_54 (by decide) ?_
          exact bk1 (s1.2.2, (σ5.2.1 a6 s1.2.2.toNatClampNeg), (s1.2.2 + 1)) _
        · refine jr_ald0 (pc := 32) hX dX6_firstSinker_32 ?_
          refine jr_ek0 e3 ?_
          refine jr_getr (pc := 33) hX fX6_22 rfl dX6_firstSinker_33 (p5.at h3 :) ?_
          refine jr_ild3 (pc := 36) hX dX6_firstSinker_36 ?_
          refine jr_iaC (pc := 37) hX dX6_firstSinker_37 (fun a8 n8 e8 h8 => ?_)
          refine jr_ild2 (pc := 38) hX dX6_firstSinker_38 ?_
          refine jr_icge (pc := 39) hX 51 dX6_firstSinker_39 (by decide) ?_ ?_
          · refine jr_inc3 (pc := 51) hX 1 rfl (jn_i _) dX6_firstSinker_51 ?_
            refine jr_goto (pc := 54) hX 7 dX6_firstSinker_54 (by decide) ?_
            exact bk1 (s1.1, s1.2.1, (s1.2.2 + 1)) _
          · refine jr_ild3 (pc := 42) hX dX6_firstSinker_42 ?_
            refine jr_ist1 (pc := 43) hX (jn_r _ _) dX6_firstSinker_43 ?_
            refine jr_ald0 (pc := 44) hX dX6_firstSinker_44 ?_
            refine jr_ek0 e3 ?_
            refine jr_getr (pc := 45) hX fX6_22 rfl dX6_firstSinker_45 (p5.at h3 :) ?_
            refine jr_ild3 (pc := 48) hX dX6_firstSinker_48 ?_
            refine jr_iaC (pc := 49) hX dX6_firstSinker_49 (fun a9 n9 e9 h9 => ?_)
            refine jr_ist2 (pc := 50) hX (jn_i _) dX6_firstSinker_50 ?_
            refine jr_li ?_
            refine jr_inc3 (pc := 51) hX 1 rfl (jn_i _) dX6_firstSinker_51 ?_
            refine jr_goto (pc := 54) hX 7 dX6_firstSinker_54 (by decide) ?_
            exact bk1 (s1.2.2, (σ5.2.1 a9 s1.2.2.toNatClampNeg), (s1.2.2 + 1)) _
def m_X6_underBits (t : Nat) (x0p : Int32) (σ : jd_Hp) : Option (Int32 × jd_Hp) :=
jd_b (jd_lp (S := Int32 × Int32) (T := Int32) (fun s1 σ1 =>
jd_o σ1 (6, 8) (some t) fun a3 =>
jd_o σ1 (10, 16) (σ1.2.2.2 a3 5) fun a4 =>
jd_if ((σ1.2.1 a4 11) ≤ s1.2) (
some ((Sum.inr s1.1), σ1)) (
jd_b (m_X6_isUnder a3 s1.2 x0p σ1) fun r5 σ5 =>
jd_if (r5 = 0) (
some (Sum.inl (s1.1, (s1.2 + 1)), σ5)) (
jd_li (s1.1 ||| (1 <<< (s1.2 &&& 31))) fun x6 =>
some (Sum.inl (x6, (s1.2 + 1)), σ5)))) jd_fu (0, 0) σ) fun t2 σ2 =>
some (t2, σ2)
set_option maxHeartbeats 4000000 in
set_option maxRecDepth 20000 in
theorem c_X6_underBits {l : Launch} {s0 : State} {G : jd_G} (hF : jd_F s0 G) (σ : jd_Hp) (t : Nat) (ht : σ.1[t]? = some (6, 8)) (x0p : Int32) : jd_M l s0 G yX6_underBits cX6_underBits 4 (some .int) 3 je_i [jd_v G (some t), .int x0p] σ (m_X6_underBits t x0p σ) := by
  refine jd_enter hF (by decide) (fun G => [some (jd_v G (some t)), some (.int x0p), none, none]) rfl (by simp [lv_args, jd_al, jd_v_cat, jd_cti, jd_ctl]) (by simp [lg_sl, jd_v_cat, jd_cti, jd_ctl]) (fun X hD hX => ?_)
  have hX : jd_C X RX6 "underBits" cX6_underBits 4 (some .int) := hX
  unfold m_X6_underBits
  refine jr_iconst (pc := 0) hX 0 rfl dX6_underBits_0 ?_
  refine jr_ist2 (pc := 1) hX (jn_i _) dX6_underBits_1 ?_
  refine jr_iconst (pc := 2) hX 0 rfl dX6_underBits_2 ?_
  refine jr_ist3 (pc := 3) hX (jn_i _) dX6_underBits_3 ?_
  refine jr_loop (pc := 4) (fun (s1 : Int32 × Int32) => [some (jd_v (jd_gG X) (some t)), some (.int x0p), some (.int s1.1), some (.int s1.2)]) (fun (t2 : Int32) => [none, none, some (.int t2), none]) 36 (0, 0) (fun t2 σ2 => ?_) (fun K1 bk1 ex1 s1 σ1 => ?_)
  · refine jr_ild2 (pc := 36) hX dX6_underBits_36 ?_
    exact jr_iret (pc := 37) hX dX6_underBits_37 rfl
  · refine jr_ild3 (pc := 4) hX dX6_underBits_4 ?_
    refine jr_ald0 (pc := 5) hX dX6_underBits_5 ?_
    refine jr_ck0 (fun a3 e3 h3 => ?_)
    refine jr_getr (pc := 6) hX fX6_34 rfl dX6_underBits_6 h3 ?_
    refine jr_ck0 (fun a4 e4 h4 => ?_)
    refine jr_geti (pc := 9) hX fX6_52 rfl dX6_underBits_9 h4 ?_
    refine jr_icge (pc := 12) hX 36 dX6_underBits_12 (by decide) ?_ ?_
    · refine jr_wk [false, false, true, false] ?_
      exact ex1 s1.1 _
    · refine jr_ald0 (pc := 15) hX dX6_underBits_15 ?_
      refine jr_ild3 (pc := 16) hX dX6_underBits_16 ?_
      refine jr_ild1 (pc := 17) hX dX6_underBits_17 ?_
      refine jr_ek2 e3 ?_
      refine jr_cV2i (pc := 18) hX lX6_112 (c_X6_isUnder hX.F σ1 a3 h3 _ _) (jd_dd hD rfl) (Nat.le_of_ble_eq_true rfl) dX6_underBits_18 h3 (fun r5 σ5 p5 => ?_)
      refine jr_ifeq (pc := 21) hX 30 dX6_underBits_21 (by decide) ?_ ?_
      · refine jr_inc3 (pc := 30) hX 1 rfl (jn_i _) dX6_underBits_30 ?_
        refine jr_goto (pc := 33) hX 4 dX6_underBits_33 (by decide) ?_
        exact bk1 (s1.1, (s1.2 + 1)) _
      · refine jr_ild2 (pc := 24) hX dX6_underBits_24 ?_
        refine jr_iconst (pc := 25) hX 1 rfl dX6_underBits_25 ?_
        refine jr_ild3 (pc := 26) hX dX6_underBits_26 ?_
        refine jr_ishl (pc := 27) hX dX6_underBits_27 ?_
        refine jr_ior (pc := 28) hX dX6_underBits_28 ?_
        refine jr_ist2 (pc := 29) hX (jn_i _) dX6_underBits_29 ?_
        refine jr_li ?_
        refine jr_inc3 (pc := 30) hX 1 rfl (jn_i _) dX6_underBits_30 ?_
        refine jr_goto (pc := 33) hX 4 dX6_underBits_33 (by decide) ?_
        exact bk1 ((s1.1 ||| (1 <<< (s1.2 &&& 31))), (s1.2 + 1)) _
def m_X6_lostBits (t : Nat) (x0p : Int32) (σ : jd_Hp) : Option (Int32 × jd_Hp) :=
jd_b (jd_lp (S := Int32 × Int32) (T := Int32) (fun s1 σ1 =>
jd_o σ1 (6, 8) (some t) fun a3 =>
jd_o σ1 (10, 16) (σ1.2.2.2 a3 5) fun a4 =>
jd_if ((σ1.2.1 a4 11) ≤ s1.2) (
some ((Sum.inr s1.1), σ1)) (
jd_b (m_X6_isLost a3 s1.2 x0p σ1) fun r5 σ5 =>
jd_if (r5 = 0) (
some (Sum.inl (s1.1, (s1.2 + 1)), σ5)) (
jd_li (s1.1 ||| (1 <<< (s1.2 &&& 31))) fun x6 =>
some (Sum.inl (x6, (s1.2 + 1)), σ5)))) jd_fu (0, 0) σ) fun t2 σ2 =>
some (t2, σ2)
set_option maxHeartbeats 4000000 in
set_option maxRecDepth 20000 in
theorem c_X6_lostBits {l : Launch} {s0 : State} {G : jd_G} (hF : jd_F s0 G) (σ : jd_Hp) (t : Nat) (ht : σ.1[t]? = some (6, 8)) (x0p : Int32) : jd_M l s0 G yX6_lostBits cX6_lostBits 4 (some .int) 3 je_i [jd_v G (some t), .int x0p] σ (m_X6_lostBits t x0p σ) := by
  refine jd_enter hF (by decide) (fun G => [some (jd_v G (some t)), some (.int x0p), none, none]) rfl (by simp [lv_args, jd_al, jd_v_cat, jd_cti, jd_ctl]) (by simp [lg_sl, jd_v_cat, jd_cti, jd_ctl]) (fun X hD hX => ?_)
  have hX : jd_C X RX6 "lostBits" cX6_lostBits 4 (some .int) := hX
  unfold m_X6_lostBits
  refine jr_iconst (pc := 0) hX 0 rfl dX6_lostBits_0 ?_
  refine jr_ist2 (pc := 1) hX (jn_i _) dX6_lostBits_1 ?_
  refine jr_iconst (pc := 2) hX 0 rfl dX6_lostBits_2 ?_
  refine jr_ist3 (pc := 3) hX (jn_i _) dX6_lostBits_3 ?_
  refine jr_loop (pc := 4) (fun (s1 : Int32 × Int32) => [some (jd_v (jd_gG X) (some t)), some (.int x0p), some (.int s1.1), some (.int s1.2)]) (fun (t2 : Int32) => [none, none, some (.int t2), none]) 36 (0, 0) (fun t2 σ2 => ?_) (fun K1 bk1 ex1 s1 σ1 => ?_)
  · refine jr_ild2 (pc := 36) hX dX6_lostBits_36 ?_
    exact jr_iret (pc := 37) hX dX6_lostBits_37 rfl
  · refine jr_ild3 (pc := 4) hX dX6_lostBits_4 ?_
    refine jr_ald0 (pc := 5) hX dX6_lostBits_5 ?_
    refine jr_ck0 (fun a3 e3 h3 => ?_)
    refine jr_getr (pc := 6) hX fX6_34 rfl dX6_lostBits_6 h3 ?_
    refine jr_ck0 (fun a4 e4 h4 => ?_)
    refine jr_geti (pc := 9) hX fX6_52 rfl dX6_lostBits_9 h4 ?_
    refine jr_icge (pc := 12) hX 36 dX6_lostBits_12 (by decide) ?_ ?_
    · refine jr_wk [false, false, true, false] ?_
      exact ex1 s1.1 _
    · refine jr_ald0 (pc := 15) hX dX6_lostBits_15 ?_
      refine jr_ild3 (pc := 16) hX dX6_lostBits_16 ?_
      refine jr_ild1 (pc := 17) hX dX6_lostBits_17 ?_
      refine jr_ek2 e3 ?_
      refine jr_cV2i (pc := 18) hX lX6_115 (c_X6_isLost hX.F σ1 a3 h3 _ _) (jd_dd hD rfl) (Nat.le_of_ble_eq_true rfl) dX6_lostBits_18 h3 (fun r5 σ5 p5 => ?_)
      refine jr_ifeq (pc := 21) hX 30 dX6_lostBits_21 (by decide) ?_ ?_
      · refine jr_inc3 (pc := 30) hX 1 rfl (jn_i _) dX6_lostBits_30 ?_
        refine jr_goto (pc := 33) hX 4 dX6_lostBits_33 (by decide) ?_
        exact bk1 (s1.1, (s1.2 + 1)) _
      · refine jr_ild2 (pc := 24) hX dX6_lostBits_24 ?_
        refine jr_iconst (pc := 25) hX 1 rfl dX6_lostBits_25 ?_
        refine jr_ild3 (pc := 26) hX dX6_lostBits_26 ?_
        refine jr_ishl (pc := 27) hX dX6_lostBits_27 ?_
        refine jr_ior (pc := 28) hX dX6_lostBits_28 ?_
        refine jr_ist2 (pc := 29) hX (jn_i _) dX6_lostBits_29 ?_
        refine jr_li ?_
        refine jr_inc3 (pc := 30) hX 1 rfl (jn_i _) dX6_lostBits_30 ?_
        refine jr_goto (pc := 33) hX 4 dX6_lostBits_33 (by decide) ?_
        exact bk1 ((s1.1 ||| (1 <<< (s1.2 &&& 31))), (s1.2 + 1)) _
def m_X6_minuteOfMostUnder (t : Nat) (σ : jd_Hp) : Option (Int32 × jd_Hp) :=
jd_b (jd_lp (S := Int32 × Int32 × Int32) (T := Int32) (fun s1 σ1 =>
jd_if (200 < s1.2.2) (
some ((Sum.inr s1.1), σ1)) (
jd_o σ1 (6, 8) (some t) fun a3 =>
jd_b (m_X6_underBits a3 s1.2.2 σ1) fun r4 σ4 =>
jd_b (m_J6_bitCount_0f7a4 r4 σ4) fun r5 σ5 =>
jd_if (r5 ≤ s1.2.1) (
some (Sum.inl (s1.1, s1.2.1, (s1.2.2 + 1)), σ5)) (
some (Sum.inl (s1.2.2, r5, (s1.2.2 + 1)), σ5)))) jd_fu (0, 0, 0) σ) fun t2 σ2 =>
some (t2, σ2)
set_option maxHeartbeats 4000000 in
set_option maxRecDepth 20000 in
theorem c_X6_minuteOfMostUnder {l : Launch} {s0 : State} {G : jd_G} (hF : jd_F s0 G) (σ : jd_Hp) (t : Nat) (ht : σ.1[t]? = some (6, 8)) : jd_M l s0 G yX6_minuteOfMostUnder cX6_minuteOfMostUnder 5 (some .int) 4 je_i [jd_v G (some t)] σ (m_X6_minuteOfMostUnder t σ) := by
  refine jd_enter hF (by decide) (fun G => [some (jd_v G (some t)), none, none, none, none]) rfl (by simp [lv_args, jd_al, jd_v_cat, jd_cti, jd_ctl]) (by simp [lg_sl, jd_v_cat, jd_cti, jd_ctl]) (fun X hD hX => ?_)
  have hX : jd_C X RX6 "minuteOfMostUnder" cX6_minuteOfMostUnder 5 (some .int) := hX
  unfold m_X6_minuteOfMostUnder
  refine jr_iconst (pc := 0) hX 0 rfl dX6_minuteOfMostUnder_0 ?_
  refine jr_ist1 (pc := 1) hX (jn_r _ _) dX6_minuteOfMostUnder_1 ?_
  refine jr_iconst (pc := 2) hX 0 rfl dX6_minuteOfMostUnder_2 ?_
  refine jr_ist2 (pc := 3) hX (jn_i _) dX6_minuteOfMostUnder_3 ?_
  refine jr_iconst (pc := 4) hX 0 rfl dX6_minuteOfMostUnder_4 ?_
  refine jr_ist3 (pc := 5) hX (jn_i _) dX6_minuteOfMostUnder_5 ?_
  refine jr_loop (pc := 6) (fun (s1 : Int32 × Int32 × Int32) => [some (jd_v (jd_gG X) (some t)), some (.int s1.1), some (.int s1.2.1), some (.int s1.2.2), none]) (fun (t2 : Int32) => [none, some (.int t2), none, none, none]) 40 (0, 0, 0) (fun t2 σ2 => ?_) (fun K1 bk1 ex1 s1 σ1 => ?_)
  · refine jr_ild1 (pc := 40) hX dX6_minuteOfMostUnder_40 ?_
    exact jr_iret (pc := 41) hX dX6_minuteOfMostUnder_41 rfl
  · refine jr_ild3 (pc := 6) hX dX6_minuteOfMostUnder_6 ?_
    refine jr_sipush (pc := 7) hX 200 rfl dX6_minuteOfMostUnder_7 ?_
    refine jr_icgt (pc := 10) hX 40 dX6_minuteOfMostUnder_10 (by decide) ?_ ?_
    · refine jr_wk [false, true, false, false, true] ?_
      exact ex1 s1.1 _
    · refine jr_ald0 (pc := 13) hX dX6_minuteOfMostUnder_13 ?_
      refine jr_ild3 (pc := 14) hX dX6_minuteOfMostUnder_14 ?_
      refine jr_ck1 (fun a3 e3 h3 => ?_)
      refine jr_cV1i (pc := 15) hX lX6_133 (c_X6_underBits hX.F σ1 a3 h3 _) (jd_dd hD rfl) (Nat.le_of_ble_eq_true rfl) dX6_minuteOfMostUnder_15 h3 (fun r4 σ4 p4 => ?_)
      refine jr_cS1i (pc := 18) hX lX6_69 (c_J6_bitCount_0f7a4 hX.F σ4 _) (jd_dd hD rfl) (Nat.le_of_ble_eq_true rfl) dX6_minuteOfMostUnder_18 (fun r5 σ5 p5 => ?_)
      refine jr_ist4 (pc := 21) hX (jn_i _) dX6_minuteOfMostUnder_21 ?_
      refine jr_ild4 (pc := 23) hX dX6_minuteOfMostUnder_23 ?_
      refine jr_ild2 (pc := 25) hX dX6_minuteOfMostUnder_25 ?_
      refine jr_icle (pc := 26) hX 34 dX6_minuteOfMostUnder_26 (by decide) ?_ ?_
      · refine jr_inc3 (pc := 34) hX 1 rfl (jn_i _) dX6_minuteOfMostUnder_34 ?_
        refine jr_goto (pc := 37) hX 6 dX6_minuteOfMostUnder_37 (by decide) ?_
        refine jr_wk [true, true, true, true, false] ?_
        exact bk1 (s1.1, s1.2.1, (s1.2.2 + 1)) _
      · refine jr_ild4 (pc := 29) hX dX6_minuteOfMostUnder_29 ?_
        refine jr_ist2 (pc := 31) hX (jn_i _) dX6_minuteOfMostUnder_31 ?_
        refine jr_ild3 (pc := 32) hX dX6_minuteOfMostUnder_32 ?_
        refine jr_ist1 (pc := 33) hX (jn_r _ _) dX6_minuteOfMostUnder_33 ?_
        refine jr_inc3 (pc := 34) hX 1 rfl (jn_i _) dX6_minuteOfMostUnder_34 ?_
        refine jr_goto (pc := 37) hX 6 dX6_minuteOfMostUnder_37 (by decide) ?_
        refine jr_wk [true, true, true, true, false] ?_
        exact bk1 (s1.2.2, r5, (s1.2.2 + 1)) _
def m_X6_minuteOfSoMany (t : Nat) (x0p : Int32) (σ : jd_Hp) : Option (Int32 × jd_Hp) :=
jd_b (jd_lp (S := Int32) (T := (Unit) ⊕ Int32) (fun s1 σ1 =>
jd_if (200 < s1) (
some ((Sum.inr (Sum.inl ())), σ1)) (
jd_b (jd_lp (S := Int32 × Int32) (T := Int32) (fun s3 σ3 =>
jd_o σ3 (6, 8) (some t) fun a5 =>
jd_o σ3 (10, 16) (σ3.2.2.2 a5 5) fun a6 =>
jd_if ((σ3.2.1 a6 11) ≤ s3.2) (
some ((Sum.inr s3.1), σ3)) (
jd_b (m_X6_sinks a5 s3.2 σ3) fun r7 σ7 =>
jd_if (r7 = 0) (
some (Sum.inl (s3.1, (s3.2 + 1)), σ7)) (
jd_ia σ7 20 (σ7.2.2.2 a5 2) s3.2 fun a8 j8 =>
jd_if (s1 < (σ7.2.1 a8 j8)) (
some (Sum.inl (s3.1, (s3.2 + 1)), σ7)) (
some (Sum.inl ((s3.1 + 1), (s3.2 + 1)), σ7))))) jd_fu (0, 0) σ1) fun t4 σ4 =>
jd_if (t4 < x0p) (
some (Sum.inl (s1 + 1), σ4)) (
some (Sum.inr (Sum.inr s1), σ4)))) jd_fu 0 σ) (jd_q (fun t2 σ2 =>
some ((-2), σ2)) (fun v1 σ2 => some (v1, σ2)))
set_option maxHeartbeats 4000000 in
set_option maxRecDepth 20000 in
theorem c_X6_minuteOfSoMany {l : Launch} {s0 : State} {G : jd_G} (hF : jd_F s0 G) (σ : jd_Hp) (t : Nat) (ht : σ.1[t]? = some (6, 8)) (x0p : Int32) : jd_M l s0 G yX6_minuteOfSoMany cX6_minuteOfSoMany 5 (some .int) 2 je_i [jd_v G (some t), .int x0p] σ (m_X6_minuteOfSoMany t x0p σ) := by
  refine jd_enter hF (by decide) (fun G => [some (jd_v G (some t)), some (.int x0p), none, none, none]) rfl (by simp [lv_args, jd_al, jd_v_cat, jd_cti, jd_ctl]) (by simp [lg_sl, jd_v_cat, jd_cti, jd_ctl]) (fun X hD hX => ?_)
  have hX : jd_C X RX6 "minuteOfSoMany" cX6_minuteOfSoMany 5 (some .int) := hX
  unfold m_X6_minuteOfSoMany
  refine jr_iconst (pc := 0) hX 0 rfl dX6_minuteOfSoMany_0 ?_
  refine jr_ist2 (pc := 1) hX (jn_i _) dX6_minuteOfSoMany_1 ?_
  refine jr_loopR (pc := 2) (fun (s1 : Int32) => [some (jd_v (jd_gG X) (some t)), some (.int x0p), some (.int s1), none, none]) (fun (t2 : Unit) => [none, none, none, none, none]) 68 0 (fun t2 σ2 => ?_) (fun K1 bk1 ex1 wr1 s1 σ1 => ?_)
  · refine jr_bipush (pc := 68) hX (-2) rfl dX6_minuteOfSoMany_68 ?_
    exact jr_iret (pc := 70) hX dX6_minuteOfSoMany_70 rfl
  · refine jr_ild2 (pc := 2) hX dX6_minuteOfSoMany_2 ?_
    refine jr_sipush (pc := 3) hX 200 rfl dX6_minuteOfSoMany_3 ?_
    refine jr_icgt (pc := 6) hX 68 dX6_minuteOfSoMany_6 (by decide) ?_ ?_
    · refine jr_wk [false, false, false, true, true] ?_
      exact ex1 () _
    · refine jr_iconst (pc := 9) hX 0 rfl dX6_minuteOfSoMany_9 ?_
      refine jr_ist3 (pc := 10) hX (jn_i _) dX6_minuteOfSoMany_10 ?_
      refine jr_iconst (pc := 11) hX 0 rfl dX6_minuteOfSoMany_11 ?_
      refine jr_ist4 (pc := 12) hX (jn_i _) dX6_minuteOfSoMany_12 ?_
      refine jr_loop (pc := 14) (fun (s3 : Int32 × Int32) => [some (jd_v (jd_gG X) (some t)), some (.int x0p), some (.int s1), some (.int s3.1), some (.int s3.2)]) (fun (t4 : Int32) => [some (jd_v (jd_gG X) (some t)), some (.int x0p), some (.int s1), some (.int t4), none]) 55 (0, 0) (fun t4 σ4 => ?_) (fun K3 bk3 ex3 s3 σ3 => ?_)
      · refine jr_ild3 (pc := 55) hX dX6_minuteOfSoMany_55 ?_
        refine jr_ild1 (pc := 56) hX dX6_minuteOfSoMany_56 ?_
        refine jr_iclt (pc := 57) hX 62 dX6_minuteOfSoMany_57 (by decide) ?_ ?_
        · refine jr_inc2 (pc := 62) hX 1 rfl (jn_i _) dX6_minuteOfSoMany_62 ?_
          refine jr_goto (pc := 65) hX 2 dX6_minuteOfSoMany_65 (by decide) ?_
          refine jr_wk [true, true, true, false, true] ?_
          exact bk1 (s1 + 1) _
        · refine jr_ild2 (pc := 60) hX dX6_minuteOfSoMany_60 ?_
          exact jr_iret (pc := 61) hX dX6_minuteOfSoMany_61 ((wr1 _ _).trans rfl)
      · refine jr_ild4 (pc := 14) hX dX6_minuteOfSoMany_14 ?_
        refine jr_ald0 (pc := 16) hX dX6_minuteOfSoMany_16 ?_
        refine jr_ck0 (fun a5 e5 h5 => ?_)
        refine jr_getr (pc := 17) hX fX6_34 rfl dX6_minuteOfSoMany_17 h5 ?_
        refine jr_ck0 (fun a6 e6 h6 => ?_)
        refine jr_geti (pc := 20) hX fX6_52 rfl dX6_minuteOfSoMany_20 h6 ?_
        refine jr_icge (pc := 23) hX 55 dX6_minuteOfSoMany_23 (by decide) ?_ ?_
        · refine jr_wk [true, true, true, true, false] ?_
          exact ex3 s3.1 _
        · refine jr_ald0 (pc := 26) hX dX6_minuteOfSoMany_26 ?_
          refine jr_ild4 (pc := 27) hX dX6_minuteOfSoMany_27 ?_
          refine jr_ek1 e5 ?_
          refine jr_cV1i (pc := 29) hX lX6_130 (c_X6_sinks hX.F σ3 a5 h5 _) (jd_dd hD rfl) (Nat.le_of_ble_eq_true rfl) dX6_minuteOfSoMany_29 h5 (fun r7 σ7 p7 => ?_)
          refine jr_ifeq (pc := 32) hX 49 dX6_minuteOfSoMany_32 (by decide) ?_ ?_
          · refine jr_inc4 (pc := 49) hX 1 rfl (jn_i _) dX6_minuteOfSoMany_49 ?_
            refine jr_goto (pc := 52) hX 14 dX6_minuteOfSoMany_52 (by decide) ?_
            exact bk3 (s3.1, (s3.2 + 1)) _
          · refine jr_ald0 (pc := 35) hX dX6_minuteOfSoMany_35 ?_
            refine jr_ek0 e5 ?_
            refine jr_getr (pc := 36) hX fX6_22 rfl dX6_minuteOfSoMany_36 (p7.at h5 :) ?_
            refine jr_ild4 (pc := 39) hX dX6_minuteOfSoMany_39 ?_
            refine jr_iaC (pc := 41) hX dX6_minuteOfSoMany_41 (fun a8 n8 e8 h8 => ?_)
            refine jr_ild2 (pc := 42) hX dX6_minuteOfSoMany_42 ?_
            refine jr_icgt (pc := 43) hX 49 dX6_minuteOfSoMany_43 (by decide) ?_ ?_
            · refine jr_inc4 (pc := 49) hX 1 rfl (jn_i _) dX6_minuteOfSoMany_49 ?_
              refine jr_goto (pc := 52) hX 14 dX6_minuteOfSoMany_52 (by decide) ?_
              exact bk3 (s3.1, (s3.2 + 1)) _
            · refine jr_inc3 (pc := 46) hX 1 rfl (jn_i _) dX6_minuteOfSoMany_46 ?_
              refine jr_inc4 (pc := 49) hX 1 rfl (jn_i _) dX6_minuteOfSoMany_49 ?_
              refine jr_goto (pc := 52) hX 14 dX6_minuteOfSoMany_52 (by decide) ?_
              exact bk3 ((s3.1 + 1), (s3.2 + 1)) _
def m_X6_nearestManned (t : Nat) (x0p : Int32) (σ : jd_Hp) : Option (Int32 × jd_Hp) :=
jd_b (jd_lp (S := Int32 × Int32 × Int32) (T := Int32) (fun s1 σ1 =>
jd_o σ1 (6, 8) (some t) fun a3 =>
jd_o σ1 (10, 16) (σ1.2.2.2 a3 5) fun a4 =>
jd_if ((σ1.2.1 a4 12) ≤ s1.2.2) (
some ((Sum.inr s1.1), σ1)) (
jd_b (m_X6_isManned a3 s1.2.2 σ1) fun r5 σ5 =>
jd_if (r5 = 0) (
some (Sum.inl (s1.1, s1.2.1, (s1.2.2 + 1)), σ5)) (
jd_if (s1.1 = (-2)) (
jd_b (m_X6_timeTo a3 s1.2.2 x0p σ5) fun r6 σ6 =>
some (Sum.inl (s1.2.2, r6, (s1.2.2 + 1)), σ6)) (
jd_b (m_X6_timeTo a3 s1.2.2 x0p σ5) fun r7 σ7 =>
jd_if (s1.2.1 ≤ r7) (
some (Sum.inl (s1.1, s1.2.1, (s1.2.2 + 1)), σ7)) (
jd_b (m_X6_timeTo a3 s1.2.2 x0p σ7) fun r8 σ8 =>
some (Sum.inl (s1.2.2, r8, (s1.2.2 + 1)), σ8)))))) jd_fu ((-2), 0, 0) σ) fun t2 σ2 =>
some (t2, σ2)
set_option maxHeartbeats 4000000 in
set_option maxRecDepth 20000 in
theorem c_X6_nearestManned {l : Launch} {s0 : State} {G : jd_G} (hF : jd_F s0 G) (σ : jd_Hp) (t : Nat) (ht : σ.1[t]? = some (6, 8)) (x0p : Int32) : jd_M l s0 G yX6_nearestManned cX6_nearestManned 5 (some .int) 2 je_i [jd_v G (some t), .int x0p] σ (m_X6_nearestManned t x0p σ) := by
  refine jd_enter hF (by decide) (fun G => [some (jd_v G (some t)), some (.int x0p), none, none, none]) rfl (by simp [lv_args, jd_al, jd_v_cat, jd_cti, jd_ctl]) (by simp [lg_sl, jd_v_cat, jd_cti, jd_ctl]) (fun X hD hX => ?_)
  have hX : jd_C X RX6 "nearestManned" cX6_nearestManned 5 (some .int) := hX
  unfold m_X6_nearestManned
  refine jr_bipush (pc := 0) hX (-2) rfl dX6_nearestManned_0 ?_
  refine jr_ist2 (pc := 2) hX (jn_i _) dX6_nearestManned_2 ?_
  refine jr_iconst (pc := 3) hX 0 rfl dX6_nearestManned_3 ?_
  refine jr_ist3 (pc := 4) hX (jn_i _) dX6_nearestManned_4 ?_
  refine jr_iconst (pc := 5) hX 0 rfl dX6_nearestManned_5 ?_
  refine jr_ist4 (pc := 6) hX (jn_i _) dX6_nearestManned_6 ?_
  refine jr_loop (pc := 8) (fun (s1 : Int32 × Int32 × Int32) => [some (jd_v (jd_gG X) (some t)), some (.int x0p), some (.int s1.1), some (.int s1.2.1), some (.int s1.2.2)]) (fun (t2 : Int32) => [none, none, some (.int t2), none, none]) 63 ((-2), 0, 0) (fun t2 σ2 => ?_) (fun K1 bk1 ex1 s1 σ1 => ?_)
  · refine jr_ild2 (pc := 63) hX dX6_nearestManned_63 ?_
    exact jr_iret (pc := 64) hX dX6_nearestManned_64 rfl
  · refine jr_ild4 (pc := 8) hX dX6_nearestManned_8 ?_
    refine jr_ald0 (pc := 10) hX dX6_nearestManned_10 ?_
    refine jr_ck0 (fun a3 e3 h3 => ?_)
    refine jr_getr (pc := 11) hX fX6_34 rfl dX6_nearestManned_11 h3 ?_
    refine jr_ck0 (fun a4 e4 h4 => ?_)
    refine jr_geti (pc := 14) hX fX6_79 rfl dX6_nearestManned_14 h4 ?_
    refine jr_icge (pc := 17) hX 63 dX6_nearestManned_17 (by decide) ?_ ?_
    · refine jr_wk [false, false, true, false, false] ?_
      exact ex1 s1.1 _
    · refine jr_ald0 (pc := 20) hX dX6_nearestManned_20 ?_
      refine jr_ild4 (pc := 21) hX dX6_nearestManned_21 ?_
      refine jr_ek1 e3 ?_
      refine jr_cV1i (pc := 23) hX lX6_85 (c_X6_isManned hX.F σ1 a3 h3 _) (jd_dd hD rfl) (Nat.le_of_ble_eq_true rfl) dX6_nearestManned_23 h3 (fun r5 σ5 p5 => ?_)
      refine jr_ifeq (pc := 26) hX 57 dX6_nearestManned_26 (by decide) ?_ ?_
      · refine jr_inc4 (pc := 57) hX 1 rfl (jn_i _) dX6_nearestManned_57 ?_
        refine jr_goto (pc := 60) hX 8 dX6_nearestManned_60 (by decide) ?_
        exact bk1 (s1.1, s1.2.1, (s1.2.2 + 1)) _
      · refine jr_ild2 (pc := 29) hX dX6_nearestManned_29 ?_
        refine jr_bipush (pc := 30) hX (-2) rfl dX6_nearestManned_30 ?_
        refine jr_iceq (pc := 32) hX 46 dX6_nearestManned_32 (by decide) ?_ ?_
        · refine jr_ild4 (pc := 46) hX dX6_nearestManned_46 ?_
          refine jr_ist2 (pc := 48) hX (jn_i _) dX6_nearestManned_48 ?_
          refine jr_ald0 (pc := 49) hX dX6_nearestManned_49 ?_
          refine jr_ild4 (pc := 50) hX dX6_nearestManned_50 ?_
          refine jr_ild1 (pc := 52) hX dX6_nearestManned_52 ?_
          refine jr_ek2 e3 ?_
          refine jr_cV2i (pc := 53) hX lX6_94 (c_X6_timeTo hX.F σ5 a3 (p5.at h3 :) _ _) (jd_dd hD rfl) (Nat.le_of_ble_eq_true rfl) dX6_nearestManned_53 (p5.at h3 :) (fun r6 σ6 p6 => ?_)
          refine jr_ist3 (pc := 56) hX (jn_i _) dX6_nearestManned_56 ?_
          refine jr_inc4 (pc := 57) hX 1 rfl (jn_i _) dX6_nearestManned_57 ?_
          refine jr_goto (pc := 60) hX 8 dX6_nearestManned_60 (by decide) ?_
          exact bk1 (s1.2.2, r6, (s1.2.2 + 1)) _
        · refine jr_ald0 (pc := 35) hX dX6_nearestManned_35 ?_
          refine jr_ild4 (pc := 36) hX dX6_nearestManned_36 ?_
          refine jr_ild1 (pc := 38) hX dX6_nearestManned_38 ?_
          refine jr_ek2 e3 ?_
          refine jr_cV2i (pc := 39) hX lX6_94 (c_X6_timeTo hX.F σ5 a3 (p5.at h3 :) _ _) (jd_dd hD rfl) (Nat.le_of_ble_eq_true rfl) dX6_nearestManned_39 (p5.at h3 :) (fun r7 σ7 p7 => ?_)
          refine jr_ild3 (pc := 42) hX dX6_nearestManned_42 ?_
          refine jr_icge (pc := 43) hX 57 dX6_nearestManned_43 (by decide) ?_ ?_
          · refine jr_inc4 (pc := 57) hX 1 rfl (jn_i _) dX6_nearestManned_57 ?_
            refine jr_goto (pc := 60) hX 8 dX6_nearestManned_60 (by decide) ?_
            exact bk1 (s1.1, s1.2.1, (s1.2.2 + 1)) _
          · refine jr_ild4 (pc := 46) hX dX6_nearestManned_46 ?_
            refine jr_ist2 (pc := 48) hX (jn_i _) dX6_nearestManned_48 ?_
            refine jr_ald0 (pc := 49) hX dX6_nearestManned_49 ?_
            refine jr_ild4 (pc := 50) hX dX6_nearestManned_50 ?_
            refine jr_ild1 (pc := 52) hX dX6_nearestManned_52 ?_
            refine jr_ek2 e3 ?_
            refine jr_cV2i (pc := 53) hX lX6_94 (c_X6_timeTo hX.F σ7 a3 (p7.at (p5.at h3 :) :) _ _) (jd_dd hD rfl) (Nat.le_of_ble_eq_true rfl) dX6_nearestManned_53 (p7.at (p5.at h3 :) :) (fun r8 σ8 p8 => ?_)
            refine jr_ist3 (pc := 56) hX (jn_i _) dX6_nearestManned_56 ?_
            refine jr_inc4 (pc := 57) hX 1 rfl (jn_i _) dX6_nearestManned_57 ?_
            refine jr_goto (pc := 60) hX 8 dX6_nearestManned_60 (by decide) ?_
            exact bk1 (s1.2.2, r8, (s1.2.2 + 1)) _
def m_X6_isCovering (t : Nat) (x0p : Int32) (σ : jd_Hp) : Option (Int32 × jd_Hp) :=
jd_b (jd_lp (S := Int32 × Int32) (T := Int32) (fun s1 σ1 =>
jd_o σ1 (6, 8) (some t) fun a3 =>
jd_o σ1 (10, 16) (σ1.2.2.2 a3 5) fun a4 =>
jd_if ((σ1.2.1 a4 12) ≤ s1.2) (
some ((Sum.inr s1.1), σ1)) (
jd_b (m_X11_has x0p s1.2 σ1) fun r5 σ5 =>
jd_if (r5 = 0) (
some (Sum.inl (s1.1, (s1.2 + 1)), σ5)) (
jd_ia σ5 20 (σ5.2.2.2 a3 3) s1.2 fun a6 j6 =>
jd_li (s1.1 ||| (σ5.2.1 a6 j6)) fun x7 =>
some (Sum.inl (x7, (s1.2 + 1)), σ5)))) jd_fu (0, 0) σ) fun t2 σ2 =>
jd_o σ2 (6, 8) (some t) fun a8 =>
jd_if (¬ ((σ2.2.1 a8 6) &&& (t2 ^^^ (-1))) = 0) (
some (0, σ2)) (
some (1, σ2))
set_option maxHeartbeats 4000000 in
set_option maxRecDepth 20000 in
theorem c_X6_isCovering {l : Launch} {s0 : State} {G : jd_G} (hF : jd_F s0 G) (σ : jd_Hp) (t : Nat) (ht : σ.1[t]? = some (6, 8)) (x0p : Int32) : jd_M l s0 G yX6_isCovering cX6_isCovering 4 (some .boolean) 1 je_i [jd_v G (some t), .int x0p] σ (m_X6_isCovering t x0p σ) := by
  refine jd_enter hF (by decide) (fun G => [some (jd_v G (some t)), some (.int x0p), none, none]) rfl (by simp [lv_args, jd_al, jd_v_cat, jd_cti, jd_ctl]) (by simp [lg_sl, jd_v_cat, jd_cti, jd_ctl]) (fun X hD hX => ?_)
  have hX : jd_C X RX6 "isCovering" cX6_isCovering 4 (some .boolean) := hX
  unfold m_X6_isCovering
  refine jr_iconst (pc := 0) hX 0 rfl dX6_isCovering_0 ?_
  refine jr_ist2 (pc := 1) hX (jn_i _) dX6_isCovering_1 ?_
  refine jr_iconst (pc := 2) hX 0 rfl dX6_isCovering_2 ?_
  refine jr_ist3 (pc := 3) hX (jn_i _) dX6_isCovering_3 ?_
  refine jr_loop (pc := 4) (fun (s1 : Int32 × Int32) => [some (jd_v (jd_gG X) (some t)), some (.int x0p), some (.int s1.1), some (.int s1.2)]) (fun (t2 : Int32) => [some (jd_v (jd_gG X) (some t)), none, some (.int t2), none]) 38 (0, 0) (fun t2 σ2 => ?_) (fun K1 bk1 ex1 s1 σ1 => ?_)
  · refine jr_ald0 (pc := 38) hX dX6_isCovering_38 ?_
    refine jr_ck0 (fun a8 e8 h8 => ?_)
    refine jr_geti (pc := 39) hX fX6_38 rfl dX6_isCovering_39 h8 ?_
    refine jr_ild2 (pc := 42) hX dX6_isCovering_42 ?_
    refine jr_iconst (pc := 43) hX (-1) rfl dX6_isCovering_43 ?_
    refine jr_ixor (pc := 44) hX dX6_isCovering_44 ?_
    refine jr_iand (pc := 45) hX dX6_isCovering_45 ?_
    refine jr_ifne (pc := 46) hX 53 dX6_isCovering_46 (by decide) ?_ ?_
    · refine jr_iconst (pc := 53) hX 0 rfl dX6_isCovering_53 ?_
      exact jr_zret (pc := 54) hX dX6_isCovering_54 (Or.inl rfl) rfl
    · refine jr_iconst (pc := 49) hX 1 rfl dX6_isCovering_49 ?_
      refine jr_goto (pc := 50) hX 54 dX6_isCovering_50 (by decide) ?_
      exact jr_zret (pc := 54) hX dX6_isCovering_54 (Or.inr rfl) rfl
  · refine jr_ild3 (pc := 4) hX dX6_isCovering_4 ?_
    refine jr_ald0 (pc := 5) hX dX6_isCovering_5 ?_
    refine jr_ck0 (fun a3 e3 h3 => ?_)
    refine jr_getr (pc := 6) hX fX6_34 rfl dX6_isCovering_6 h3 ?_
    refine jr_ck0 (fun a4 e4 h4 => ?_)
    refine jr_geti (pc := 9) hX fX6_79 rfl dX6_isCovering_9 h4 ?_
    refine jr_icge (pc := 12) hX 38 dX6_isCovering_12 (by decide) ?_ ?_
    · refine jr_wk [true, false, true, false] ?_
      exact ex1 s1.1 _
    · refine jr_ild1 (pc := 15) hX dX6_isCovering_15 ?_
      refine jr_ild3 (pc := 16) hX dX6_isCovering_16 ?_
      refine jr_cS2i (pc := 17) hX lX6_65 (c_X11_has hX.F σ1 _ _) (jd_dd hD rfl) (Nat.le_of_ble_eq_true rfl) dX6_isCovering_17 (fun r5 σ5 p5 => ?_)
      refine jr_ifeq (pc := 20) hX 32 dX6_isCovering_20 (by decide) ?_ ?_
      · refine jr_inc3 (pc := 32) hX 1 rfl (jn_i _) dX6_isCovering_32 ?_
        refine jr_goto (pc := 35) hX 4 dX6_isCovering_35 (by decide) ?_
        exact bk1 (s1.1, (s1.2 + 1)) _
      · refine jr_ild2 (pc := 23) hX dX6_isCovering_23 ?_
        refine jr_ald0 (pc := 24) hX dX6_isCovering_24 ?_
        refine jr_ek0 e3 ?_
        refine jr_getr (pc := 25) hX fX6_25 rfl dX6_isCovering_25 (p5.at h3 :) ?_
        refine jr_ild3 (pc := 28) hX dX6_isCovering_28 ?_
        refine jr_iaC (pc := 29) hX dX6_isCovering_29 (fun a6 n6 e6 h6 => ?_)
        refine jr_ior (pc := 30) hX dX6_isCovering_30 ?_
        refine jr_ist2 (pc := 31) hX (jn_i _) dX6_isCovering_31 ?_
        refine jr_li ?_
        refine jr_inc3 (pc := 32) hX 1 rfl (jn_i _) dX6_isCovering_32 ?_
        refine jr_goto (pc := 35) hX 4 dX6_isCovering_35 (by decide) ?_
        exact bk1 ((s1.1 ||| (σ5.2.1 a6 s1.2.toNatClampNeg)), (s1.2 + 1)) _
def m_X6_fewestPosts (t : Nat) (σ : jd_Hp) : Option (Int32 × jd_Hp) :=
jd_b (jd_lp (S := Int32 × Int32) (T := Int32) (fun s1 σ1 =>
jd_o σ1 (6, 8) (some t) fun a3 =>
jd_o σ1 (10, 16) (σ1.2.2.2 a3 5) fun a4 =>
jd_if ((1 <<< ((σ1.2.1 a4 12) &&& 31)) ≤ s1.2) (
some ((Sum.inr s1.1), σ1)) (
jd_b (m_X6_isCovering a3 s1.2 σ1) fun r5 σ5 =>
jd_if (r5 = 0) (
some (Sum.inl (s1.1, (s1.2 + 1)), σ5)) (
jd_if (s1.1 = (-2)) (
some (Sum.inl (s1.2, (s1.2 + 1)), σ5)) (
jd_b (m_J6_bitCount_0f7a4 s1.2 σ5) fun r6 σ6 =>
jd_b (m_J6_bitCount_0f7a4 s1.1 σ6) fun r7 σ7 =>
jd_if (r7 ≤ r6) (
some (Sum.inl (s1.1, (s1.2 + 1)), σ7)) (
some (Sum.inl (s1.2, (s1.2 + 1)), σ7)))))) jd_fu ((-2), 0) σ) fun t2 σ2 =>
some (t2, σ2)
set_option maxHeartbeats 4000000 in
set_option maxRecDepth 20000 in
theorem c_X6_fewestPosts {l : Launch} {s0 : State} {G : jd_G} (hF : jd_F s0 G) (σ : jd_Hp) (t : Nat) (ht : σ.1[t]? = some (6, 8)) : jd_M l s0 G yX6_fewestPosts cX6_fewestPosts 3 (some .int) 2 je_i [jd_v G (some t)] σ (m_X6_fewestPosts t σ) := by
  refine jd_enter hF (by decide) (fun G => [some (jd_v G (some t)), none, none]) rfl (by simp [lv_args, jd_al, jd_v_cat, jd_cti, jd_ctl]) (by simp [lg_sl, jd_v_cat, jd_cti, jd_ctl]) (fun X hD hX => ?_)
  have hX : jd_C X RX6 "fewestPosts" cX6_fewestPosts 3 (some .int) := hX
  unfold m_X6_fewestPosts
  refine jr_bipush (pc := 0) hX (-2) rfl dX6_fewestPosts_0 ?_
  refine jr_ist1 (pc := 2) hX (jn_r _ _) dX6_fewestPosts_2 ?_
  refine jr_iconst (pc := 3) hX 0 rfl dX6_fewestPosts_3 ?_
  refine jr_ist2 (pc := 4) hX (jn_i _) dX6_fewestPosts_4 ?_
  refine jr_loop (pc := 5) (fun (s1 : Int32 × Int32) => [some (jd_v (jd_gG X) (some t)), some (.int s1.1), some (.int s1.2)]) (fun (t2 : Int32) => [none, some (.int t2), none]) 51 ((-2), 0) (fun t2 σ2 => ?_) (fun K1 bk1 ex1 s1 σ1 => ?_)
  · refine jr_ild1 (pc := 51) hX dX6_fewestPosts_51 ?_
    exact jr_iret (pc := 52) hX dX6_fewestPosts_52 rfl
  · refine jr_ild2 (pc := 5) hX dX6_fewestPosts_5 ?_
    refine jr_iconst (pc := 6) hX 1 rfl dX6_fewestPosts_6 ?_
    refine jr_ald0 (pc := 7) hX dX6_fewestPosts_7 ?_
    refine jr_ck0 (fun a3 e3 h3 => ?_)
    refine jr_getr (pc := 8) hX fX6_34 rfl dX6_fewestPosts_8 h3 ?_
    refine jr_ck0 (fun a4 e4 h4 => ?_)
    refine jr_geti (pc := 11) hX fX6_79 rfl dX6_fewestPosts_11 h4 ?_
    refine jr_ishl (pc := 14) hX dX6_fewestPosts_14 ?_
    refine jr_icge (pc := 15) hX 51 dX6_fewestPosts_15 (by decide) ?_ ?_
    · refine jr_wk [false, true, false] ?_
      exact ex1 s1.1 _
    · refine jr_ald0 (pc := 18) hX dX6_fewestPosts_18 ?_
      refine jr_ild2 (pc := 19) hX dX6_fewestPosts_19 ?_
      refine jr_ek1 e3 ?_
      refine jr_cV1i (pc := 20) hX lX6_136 (c_X6_isCovering hX.F σ1 a3 h3 _) (jd_dd hD rfl) (Nat.le_of_ble_eq_true rfl) dX6_fewestPosts_20 h3 (fun r5 σ5 p5 => ?_)
      refine jr_ifeq (pc := 23) hX 45 dX6_fewestPosts_23 (by decide) ?_ ?_
      · refine jr_inc2 (pc := 45) hX 1 rfl (jn_i _) dX6_fewestPosts_45 ?_
        refine jr_goto (pc := 48) hX 5 dX6_fewestPosts_48 (by decide) ?_
        exact bk1 (s1.1, (s1.2 + 1)) _
      · refine jr_ild1 (pc := 26) hX dX6_fewestPosts_26 ?_
        refine jr_bipush (pc := 27) hX (-2) rfl dX6_fewestPosts_27 ?_
        refine jr_iceq (pc := 29) hX 43 dX6_fewestPosts_29 (by decide) ?_ ?_
        · refine jr_ild2 (pc := 43) hX dX6_fewestPosts_43 ?_
          refine jr_ist1 (pc := 44) hX (jn_r _ _) dX6_fewestPosts_44 ?_
          refine jr_inc2 (pc := 45) hX 1 rfl (jn_i _) dX6_fewestPosts_45 ?_
          refine jr_goto (pc := 48) hX 5 dX6_fewestPosts_48 (by decide) ?_
          exact bk1 (s1.2, (s1.2 + 1)) _
        · refine jr_ild2 (pc := 32) hX dX6_fewestPosts_32 ?_
          refine jr_cS1i (pc := 33) hX lX6_69 (c_J6_bitCount_0f7a4 hX.F σ5 _) (jd_dd hD rfl) (Nat.le_of_ble_eq_true rfl) dX6_fewestPosts_33 (fun r6 σ6 p6 => ?_)
          refine jr_ild1 (pc := 36) hX dX6_fewestPosts_36 ?_
          refine jr_cS1i (pc := 37) hX lX6_69 (c_J6_bitCount_0f7a4 hX.F σ6 _) (jd_dd hD rfl) (Nat.le_of_ble_eq_true rfl) dX6_fewestPosts_37 (fun r7 σ7 p7 => ?_)
          refine jr_icge (pc := 40) hX 45 dX6_fewestPosts_40 (by decide) ?_ ?_
          · refine jr_inc2 (pc := 45) hX 1 rfl (jn_i _) dX6_fewestPosts_45 ?_
            refine jr_goto (pc := 48) hX 5 dX6_fewestPosts_48 (by decide) ?_
            exact bk1 (s1.1, (s1.2 + 1)) _
          · refine jr_ild2 (pc := 43) hX dX6_fewestPosts_43 ?_
            refine jr_ist1 (pc := 44) hX (jn_r _ _) dX6_fewestPosts_44 ?_
            refine jr_inc2 (pc := 45) hX 1 rfl (jn_i _) dX6_fewestPosts_45 ?_
            refine jr_goto (pc := 48) hX 5 dX6_fewestPosts_48 (by decide) ?_
            exact bk1 (s1.2, (s1.2 + 1)) _
