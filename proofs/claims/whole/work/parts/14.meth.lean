theorem fX6_52 : jd_fl RX6 52 10 11 16 false := ⟨_, _, rfl, by decide, by decide, rfl, rfl, jd_mem 279 (by decide +kernel) (by decide +kernel)⟩
theorem lX6_94 : jd_mv RX6 94 6 8 yX6_timeTo cX6_timeTo 3 (some .int) 2 := ⟨_, _, rfl, by decide, rfl, Or.inl (jd_mem 737 (by decide +kernel) (by decide +kernel)), qX6_timeTo.1, qX6_timeTo.2.1, qX6_timeTo.2.2.1, qX6_timeTo.2.2.2.1, qX6_timeTo.2.2.2.2, by decide⟩
theorem fX6_97 : jd_fl RX6 97 10 8 16 false := ⟨_, _, rfl, by decide, by decide, rfl, rfl, jd_mem 268 (by decide +kernel) (by decide +kernel)⟩
theorem fX6_127 : jd_fl RX6 127 4 1 4 false := ⟨_, _, rfl, by decide, by decide, rfl, rfl, jd_mem 215 (by decide +kernel) (by decide +kernel)⟩
theorem qX6_nearIn : Cond.instanceMethod yX6_nearIn ∈ jd_TB ∧ Cond.selects RX6 yX6_nearIn yX6_nearIn ∈ jd_TB ∧ Cond.initialized RX6 ∈ jd_TB ∧ Cond.code yX6_nearIn cX6_nearIn 5 (some .int) ∈ jd_TB ∧ jd_ds yX6_nearIn 2 := ⟨jd_mem 714 (by decide +kernel) (by decide +kernel), jd_mem 19 (by decide +kernel) (by decide +kernel), jd_mem 95 (by decide +kernel) (by decide +kernel), jd_mem 715 (by decide +kernel) (by decide +kernel), ⟨by decide, by decide, by decide +kernel⟩⟩
theorem lX6_58 : jd_mv RX6 58 6 8 yX6_nearIn cX6_nearIn 5 (some .int) 2 := ⟨_, _, rfl, by decide, rfl, Or.inl (jd_mem 712 (by decide +kernel) (by decide +kernel)), qX6_nearIn.1, qX6_nearIn.2.1, qX6_nearIn.2.2.1, qX6_nearIn.2.2.2.1, qX6_nearIn.2.2.2.2, by decide⟩
theorem fX6_62 : jd_fl RX6 62 4 2 4 false := ⟨_, _, rfl, by decide, by decide, rfl, rfl, jd_mem 219 (by decide +kernel) (by decide +kernel)⟩
theorem lX6_69 : jd_st RX6 69 yJ6_bitCount_0f7a4 cJ6_bitCount_0f7a4 1 (some .int) 1 := ⟨Or.inl (jd_mem 720 (by decide +kernel) (by decide +kernel)), qJ6_bitCount_0f7a4.1, qJ6_bitCount_0f7a4.2.1, qJ6_bitCount_0f7a4.2.2.1, qJ6_bitCount_0f7a4.2.2.2, by decide⟩
theorem lX6_75 : jd_mv RX6 75 10 16 yX10_sinkMinute cX10_sinkMinute 4 (some .int) 2 := ⟨_, _, rfl, by decide, rfl, Or.inl (jd_mem 726 (by decide +kernel) (by decide +kernel)), qX10_sinkMinute.1, qX10_sinkMinute.2.1, qX10_sinkMinute.2.2.1, qX10_sinkMinute.2.2.2.1, qX10_sinkMinute.2.2.2.2, by decide⟩
theorem fX6_79 : jd_fl RX6 79 10 12 16 false := ⟨_, _, rfl, by decide, by decide, rfl, rfl, jd_mem 283 (by decide +kernel) (by decide +kernel)⟩
theorem qX6_reachOf : Cond.instanceMethod yX6_reachOf ∈ jd_TB ∧ Cond.selects RX6 yX6_reachOf yX6_reachOf ∈ jd_TB ∧ Cond.initialized RX6 ∈ jd_TB ∧ Cond.code yX6_reachOf cX6_reachOf 4 (some .int) ∈ jd_TB ∧ jd_ds yX6_reachOf 1 := ⟨jd_mem 735 (by decide +kernel) (by decide +kernel), jd_mem 20 (by decide +kernel) (by decide +kernel), jd_mem 95 (by decide +kernel) (by decide +kernel), jd_mem 736 (by decide +kernel) (by decide +kernel), ⟨by decide, by decide, by decide +kernel⟩⟩
theorem lX6_82 : jd_mv RX6 82 6 8 yX6_reachOf cX6_reachOf 4 (some .int) 1 := ⟨_, _, rfl, by decide, rfl, Or.inl (jd_mem 733 (by decide +kernel) (by decide +kernel)), qX6_reachOf.1, qX6_reachOf.2.1, qX6_reachOf.2.2.1, qX6_reachOf.2.2.2.1, qX6_reachOf.2.2.2.2, by decide⟩
theorem qX6_isManned : Cond.instanceMethod yX6_isManned ∈ jd_TB ∧ Cond.selects RX6 yX6_isManned yX6_isManned ∈ jd_TB ∧ Cond.initialized RX6 ∈ jd_TB ∧ Cond.code yX6_isManned cX6_isManned 2 (some .boolean) ∈ jd_TB ∧ jd_ds yX6_isManned 1 := ⟨jd_mem 742 (by decide +kernel) (by decide +kernel), jd_mem 743 (by decide +kernel) (by decide +kernel), jd_mem 95 (by decide +kernel) (by decide +kernel), jd_mem 744 (by decide +kernel) (by decide +kernel), ⟨by decide, by decide, by decide +kernel⟩⟩
theorem lX6_85 : jd_mv RX6 85 6 8 yX6_isManned cX6_isManned 2 (some .boolean) 1 := ⟨_, _, rfl, by decide, rfl, Or.inl (jd_mem 741 (by decide +kernel) (by decide +kernel)), qX6_isManned.1, qX6_isManned.2.1, qX6_isManned.2.2.1, qX6_isManned.2.2.2.1, qX6_isManned.2.2.2.2, by decide⟩
theorem qX4_begin : Cond.instanceMethod yX4_begin ∈ jd_TB ∧ Cond.selects RX4 yX4_begin yX4_begin ∈ jd_TB ∧ Cond.initialized RX4 ∈ jd_TB ∧ Cond.code yX4_begin cX4_begin 3 none ∈ jd_TB ∧ jd_ds yX4_begin 1 := ⟨jd_mem 705 (by decide +kernel) (by decide +kernel), jd_mem 706 (by decide +kernel) (by decide +kernel), jd_mem 96 (by decide +kernel) (by decide +kernel), jd_mem 707 (by decide +kernel) (by decide +kernel), ⟨by decide, by decide, by decide +kernel⟩⟩
theorem lX6_45 : jd_mv RX6 45 4 4 yX4_begin cX4_begin 3 none 1 := ⟨_, _, rfl, by decide, rfl, Or.inl (jd_mem 704 (by decide +kernel) (by decide +kernel)), qX4_begin.1, qX4_begin.2.1, qX4_begin.2.2.1, qX4_begin.2.2.2.1, qX4_begin.2.2.2.2, by decide⟩
theorem qX6_settle : Cond.instanceMethod yX6_settle ∈ jd_TB ∧ Cond.selects RX6 yX6_settle yX6_settle ∈ jd_TB ∧ Cond.initialized RX6 ∈ jd_TB ∧ Cond.code yX6_settle cX6_settle 2 none ∈ jd_TB ∧ jd_ds yX6_settle 0 := ⟨jd_mem 709 (by decide +kernel) (by decide +kernel), jd_mem 710 (by decide +kernel) (by decide +kernel), jd_mem 95 (by decide +kernel) (by decide +kernel), jd_mem 711 (by decide +kernel) (by decide +kernel), ⟨by decide, by decide, by decide +kernel⟩⟩
theorem lX6_49 : jd_mv RX6 49 6 8 yX6_settle cX6_settle 2 none 0 := ⟨_, _, rfl, by decide, rfl, Or.inl (jd_mem 708 (by decide +kernel) (by decide +kernel)), qX6_settle.1, qX6_settle.2.1, qX6_settle.2.2.1, qX6_settle.2.2.2.1, qX6_settle.2.2.2.2, by decide⟩
theorem lX6_130 : jd_mv RX6 130 6 8 yX6_sinks cX6_sinks 2 (some .boolean) 1 := ⟨_, _, rfl, by decide, rfl, Or.inl (jd_mem 784 (by decide +kernel) (by decide +kernel)), qX6_sinks.1, qX6_sinks.2.1, qX6_sinks.2.2.1, qX6_sinks.2.2.2.1, qX6_sinks.2.2.2.2, by decide⟩
theorem fX6_100 : jd_fl RX6 100 10 0 16 true := ⟨_, _, rfl, by decide, by decide, rfl, rfl, jd_mem 242 (by decide +kernel) (by decide +kernel)⟩
theorem fX6_103 : jd_fl RX6 103 10 2 16 true := ⟨_, _, rfl, by decide, by decide, rfl, rfl, jd_mem 248 (by decide +kernel) (by decide +kernel)⟩
theorem fX6_106 : jd_fl RX6 106 10 3 16 true := ⟨_, _, rfl, by decide, by decide, rfl, rfl, jd_mem 252 (by decide +kernel) (by decide +kernel)⟩
theorem fX6_109 : jd_fl RX6 109 4 3 4 false := ⟨_, _, rfl, by decide, by decide, rfl, rfl, jd_mem 223 (by decide +kernel) (by decide +kernel)⟩
theorem qX6_isUnder : Cond.instanceMethod yX6_isUnder ∈ jd_TB ∧ Cond.selects RX6 yX6_isUnder yX6_isUnder ∈ jd_TB ∧ Cond.initialized RX6 ∈ jd_TB ∧ Cond.code yX6_isUnder cX6_isUnder 3 (some .boolean) ∈ jd_TB ∧ jd_ds yX6_isUnder 2 := ⟨jd_mem 781 (by decide +kernel) (by decide +kernel), jd_mem 782 (by decide +kernel) (by decide +kernel), jd_mem 95 (by decide +kernel) (by decide +kernel), jd_mem 783 (by decide +kernel) (by decide +kernel), ⟨by decide, by decide, by decide +kernel⟩⟩
theorem lX6_112 : jd_mv RX6 112 6 8 yX6_isUnder cX6_isUnder 3 (some .boolean) 2 := ⟨_, _, rfl, by decide, rfl, Or.inl (jd_mem 780 (by decide +kernel) (by decide +kernel)), qX6_isUnder.1, qX6_isUnder.2.1, qX6_isUnder.2.2.1, qX6_isUnder.2.2.2.1, qX6_isUnder.2.2.2.2, by decide⟩
theorem qX6_isLost : Cond.instanceMethod yX6_isLost ∈ jd_TB ∧ Cond.selects RX6 yX6_isLost yX6_isLost ∈ jd_TB ∧ Cond.initialized RX6 ∈ jd_TB ∧ Cond.code yX6_isLost cX6_isLost 3 (some .boolean) ∈ jd_TB ∧ jd_ds yX6_isLost 2 := ⟨jd_mem 789 (by decide +kernel) (by decide +kernel), jd_mem 790 (by decide +kernel) (by decide +kernel), jd_mem 95 (by decide +kernel) (by decide +kernel), jd_mem 791 (by decide +kernel) (by decide +kernel), ⟨by decide, by decide, by decide +kernel⟩⟩
theorem lX6_115 : jd_mv RX6 115 6 8 yX6_isLost cX6_isLost 3 (some .boolean) 2 := ⟨_, _, rfl, by decide, rfl, Or.inl (jd_mem 788 (by decide +kernel) (by decide +kernel)), qX6_isLost.1, qX6_isLost.2.1, qX6_isLost.2.2.1, qX6_isLost.2.2.2.1, qX6_isLost.2.2.2.2, by decide⟩
theorem fX6_118 : jd_fl RX6 118 10 4 16 true := ⟨_, _, rfl, by decide, by decide, rfl, rfl, jd_mem 254 (by decide +kernel) (by decide +kernel)⟩
theorem dX6_nearIn_0 : decode cX6_nearIn 0 = .ok (.iconst 0, 1) := by decide +kernel
theorem dX6_nearIn_1 : decode cX6_nearIn 1 = .ok (.istore_n 3, 1) := by decide +kernel
theorem dX6_nearIn_2 : decode cX6_nearIn 2 = .ok (.iconst 0, 1) := by decide +kernel
theorem dX6_nearIn_3 : decode cX6_nearIn 3 = .ok (.istore 4, 2) := by decide +kernel
theorem dX6_nearIn_5 : decode cX6_nearIn 5 = .ok (.iload 4, 2) := by decide +kernel
theorem dX6_nearIn_7 : decode cX6_nearIn 7 = .ok (.aload_n 0, 1) := by decide +kernel
theorem dX6_nearIn_8 : decode cX6_nearIn 8 = .ok (.getfield 34, 3) := by decide +kernel
theorem dX6_nearIn_11 : decode cX6_nearIn 11 = .ok (.getfield 52, 3) := by decide +kernel
theorem dX6_nearIn_14 : decode cX6_nearIn 14 = .ok (.if_icmp .ge 37, 3) := by decide +kernel
theorem dX6_nearIn_17 : decode cX6_nearIn 17 = .ok (.iload 4, 2) := by decide +kernel
theorem dX6_nearIn_19 : decode cX6_nearIn 19 = .ok (.iload_n 2, 1) := by decide +kernel
theorem dX6_nearIn_20 : decode cX6_nearIn 20 = .ok (.if_icmp .eq 25, 3) := by decide +kernel
theorem dX6_nearIn_23 : decode cX6_nearIn 23 = .ok (.aload_n 1, 1) := by decide +kernel
theorem dX6_nearIn_24 : decode cX6_nearIn 24 = .ok (.iload 4, 2) := by decide +kernel
theorem dX6_nearIn_26 : decode cX6_nearIn 26 = .ok (.iaload, 1) := by decide +kernel
theorem dX6_nearIn_27 : decode cX6_nearIn 27 = .ok (.aload_n 1, 1) := by decide +kernel
theorem dX6_nearIn_28 : decode cX6_nearIn 28 = .ok (.iload_n 2, 1) := by decide +kernel
theorem dX6_nearIn_29 : decode cX6_nearIn 29 = .ok (.iaload, 1) := by decide +kernel
theorem dX6_nearIn_30 : decode cX6_nearIn 30 = .ok (.isub, 1) := by decide +kernel
theorem dX6_nearIn_31 : decode cX6_nearIn 31 = .ok (.invokestatic 89, 3) := by decide +kernel
theorem dX6_nearIn_34 : decode cX6_nearIn 34 = .ok (.iconst 5, 1) := by decide +kernel
theorem dX6_nearIn_35 : decode cX6_nearIn 35 = .ok (.if_icmp .gt 10, 3) := by decide +kernel
theorem dX6_nearIn_38 : decode cX6_nearIn 38 = .ok (.iload_n 3, 1) := by decide +kernel
theorem dX6_nearIn_39 : decode cX6_nearIn 39 = .ok (.iconst 1, 1) := by decide +kernel
theorem dX6_nearIn_40 : decode cX6_nearIn 40 = .ok (.iload 4, 2) := by decide +kernel
theorem dX6_nearIn_42 : decode cX6_nearIn 42 = .ok (.ishl, 1) := by decide +kernel
theorem dX6_nearIn_43 : decode cX6_nearIn 43 = .ok (.ior, 1) := by decide +kernel
theorem dX6_nearIn_44 : decode cX6_nearIn 44 = .ok (.istore_n 3, 1) := by decide +kernel
theorem dX6_nearIn_45 : decode cX6_nearIn 45 = .ok (.iinc 4 1, 3) := by decide +kernel
theorem dX6_nearIn_48 : decode cX6_nearIn 48 = .ok (.goto (-43), 3) := by decide +kernel
theorem dX6_nearIn_51 : decode cX6_nearIn 51 = .ok (.iload_n 3, 1) := by decide +kernel
theorem dX6_nearIn_52 : decode cX6_nearIn 52 = .ok (.ireturn, 1) := by decide +kernel
theorem dX6_reachOf_0 : decode cX6_reachOf 0 = .ok (.iconst 0, 1) := by decide +kernel
theorem dX6_reachOf_1 : decode cX6_reachOf 1 = .ok (.istore_n 2, 1) := by decide +kernel
theorem dX6_reachOf_2 : decode cX6_reachOf 2 = .ok (.iconst 0, 1) := by decide +kernel
theorem dX6_reachOf_3 : decode cX6_reachOf 3 = .ok (.istore_n 3, 1) := by decide +kernel
theorem dX6_reachOf_4 : decode cX6_reachOf 4 = .ok (.iload_n 3, 1) := by decide +kernel
theorem dX6_reachOf_5 : decode cX6_reachOf 5 = .ok (.aload_n 0, 1) := by decide +kernel
theorem dX6_reachOf_6 : decode cX6_reachOf 6 = .ok (.getfield 34, 3) := by decide +kernel
theorem dX6_reachOf_9 : decode cX6_reachOf 9 = .ok (.getfield 52, 3) := by decide +kernel
theorem dX6_reachOf_12 : decode cX6_reachOf 12 = .ok (.if_icmp .ge 31, 3) := by decide +kernel
theorem dX6_reachOf_15 : decode cX6_reachOf 15 = .ok (.aload_n 0, 1) := by decide +kernel
theorem dX6_reachOf_16 : decode cX6_reachOf 16 = .ok (.iload_n 1, 1) := by decide +kernel
theorem dX6_reachOf_17 : decode cX6_reachOf 17 = .ok (.iload_n 3, 1) := by decide +kernel
theorem dX6_reachOf_18 : decode cX6_reachOf 18 = .ok (.invokevirtual 94, 3) := by decide +kernel
theorem dX6_reachOf_21 : decode cX6_reachOf 21 = .ok (.aload_n 0, 1) := by decide +kernel
theorem dX6_reachOf_22 : decode cX6_reachOf 22 = .ok (.getfield 34, 3) := by decide +kernel
theorem dX6_reachOf_25 : decode cX6_reachOf 25 = .ok (.getfield 97, 3) := by decide +kernel
theorem dX6_reachOf_28 : decode cX6_reachOf 28 = .ok (.if_icmp .gt 9, 3) := by decide +kernel
theorem dX6_reachOf_31 : decode cX6_reachOf 31 = .ok (.iload_n 2, 1) := by decide +kernel
theorem dX6_reachOf_32 : decode cX6_reachOf 32 = .ok (.iconst 1, 1) := by decide +kernel
theorem dX6_reachOf_33 : decode cX6_reachOf 33 = .ok (.iload_n 3, 1) := by decide +kernel
theorem dX6_reachOf_34 : decode cX6_reachOf 34 = .ok (.ishl, 1) := by decide +kernel
theorem dX6_reachOf_35 : decode cX6_reachOf 35 = .ok (.ior, 1) := by decide +kernel
theorem dX6_reachOf_36 : decode cX6_reachOf 36 = .ok (.istore_n 2, 1) := by decide +kernel
theorem dX6_reachOf_37 : decode cX6_reachOf 37 = .ok (.iinc 3 1, 3) := by decide +kernel
theorem dX6_reachOf_40 : decode cX6_reachOf 40 = .ok (.goto (-36), 3) := by decide +kernel
theorem dX6_reachOf_43 : decode cX6_reachOf 43 = .ok (.iload_n 2, 1) := by decide +kernel
theorem dX6_reachOf_44 : decode cX6_reachOf 44 = .ok (.ireturn, 1) := by decide +kernel
theorem dX6_isManned_0 : decode cX6_isManned 0 = .ok (.aload_n 0, 1) := by decide +kernel
theorem dX6_isManned_1 : decode cX6_isManned 1 = .ok (.getfield 12, 3) := by decide +kernel
theorem dX6_isManned_4 : decode cX6_isManned 4 = .ok (.getfield 127, 3) := by decide +kernel
theorem dX6_isManned_7 : decode cX6_isManned 7 = .ok (.iload_n 1, 1) := by decide +kernel
theorem dX6_isManned_8 : decode cX6_isManned 8 = .ok (.invokestatic 65, 3) := by decide +kernel
theorem dX6_isManned_11 : decode cX6_isManned 11 = .ok (.ireturn, 1) := by decide +kernel
theorem dX6_settle_0 : decode cX6_settle 0 = .ok (.aload_n 0, 1) := by decide +kernel
theorem dX6_settle_1 : decode cX6_settle 1 = .ok (.iconst 0, 1) := by decide +kernel
theorem dX6_settle_2 : decode cX6_settle 2 = .ok (.putfield 38, 3) := by decide +kernel
theorem dX6_settle_5 : decode cX6_settle 5 = .ok (.iconst 0, 1) := by decide +kernel
theorem dX6_settle_6 : decode cX6_settle 6 = .ok (.istore_n 1, 1) := by decide +kernel
theorem dX6_settle_7 : decode cX6_settle 7 = .ok (.iload_n 1, 1) := by decide +kernel
theorem dX6_settle_8 : decode cX6_settle 8 = .ok (.aload_n 0, 1) := by decide +kernel
theorem dX6_settle_9 : decode cX6_settle 9 = .ok (.getfield 34, 3) := by decide +kernel
theorem dX6_settle_12 : decode cX6_settle 12 = .ok (.getfield 52, 3) := by decide +kernel
theorem dX6_settle_15 : decode cX6_settle 15 = .ok (.if_icmp .ge 92, 3) := by decide +kernel
theorem dX6_settle_18 : decode cX6_settle 18 = .ok (.aload_n 0, 1) := by decide +kernel
theorem dX6_settle_19 : decode cX6_settle 19 = .ok (.getfield 18, 3) := by decide +kernel
theorem dX6_settle_22 : decode cX6_settle 22 = .ok (.iload_n 1, 1) := by decide +kernel
theorem dX6_settle_23 : decode cX6_settle 23 = .ok (.aload_n 0, 1) := by decide +kernel
theorem dX6_settle_24 : decode cX6_settle 24 = .ok (.aload_n 0, 1) := by decide +kernel
theorem dX6_settle_25 : decode cX6_settle 25 = .ok (.getfield 12, 3) := by decide +kernel
theorem dX6_settle_28 : decode cX6_settle 28 = .ok (.getfield 55, 3) := by decide +kernel
theorem dX6_settle_31 : decode cX6_settle 31 = .ok (.iload_n 1, 1) := by decide +kernel
theorem dX6_settle_32 : decode cX6_settle 32 = .ok (.invokevirtual 58, 3) := by decide +kernel
theorem dX6_settle_35 : decode cX6_settle 35 = .ok (.iastore, 1) := by decide +kernel
theorem dX6_settle_36 : decode cX6_settle 36 = .ok (.aload_n 0, 1) := by decide +kernel
theorem dX6_settle_37 : decode cX6_settle 37 = .ok (.getfield 22, 3) := by decide +kernel
theorem dX6_settle_40 : decode cX6_settle 40 = .ok (.iload_n 1, 1) := by decide +kernel
theorem dX6_settle_41 : decode cX6_settle 41 = .ok (.aload_n 0, 1) := by decide +kernel
theorem dX6_settle_42 : decode cX6_settle 42 = .ok (.getfield 12, 3) := by decide +kernel
theorem dX6_settle_45 : decode cX6_settle 45 = .ok (.getfield 62, 3) := by decide +kernel
theorem dX6_settle_48 : decode cX6_settle 48 = .ok (.iload_n 1, 1) := by decide +kernel
theorem dX6_settle_49 : decode cX6_settle 49 = .ok (.invokestatic 65, 3) := by decide +kernel
theorem dX6_settle_52 : decode cX6_settle 52 = .ok (.ifCond .eq 8, 3) := by decide +kernel
theorem dX6_settle_55 : decode cX6_settle 55 = .ok (.bipush (-2), 2) := by decide +kernel
theorem dX6_settle_57 : decode cX6_settle 57 = .ok (.goto 20, 3) := by decide +kernel
theorem dX6_settle_60 : decode cX6_settle 60 = .ok (.aload_n 0, 1) := by decide +kernel
theorem dX6_settle_61 : decode cX6_settle 61 = .ok (.getfield 34, 3) := by decide +kernel
theorem dX6_settle_64 : decode cX6_settle 64 = .ok (.iload_n 1, 1) := by decide +kernel
theorem dX6_settle_65 : decode cX6_settle 65 = .ok (.aload_n 0, 1) := by decide +kernel
theorem dX6_settle_66 : decode cX6_settle 66 = .ok (.getfield 18, 3) := by decide +kernel
theorem dX6_settle_69 : decode cX6_settle 69 = .ok (.iload_n 1, 1) := by decide +kernel
theorem dX6_settle_70 : decode cX6_settle 70 = .ok (.iaload, 1) := by decide +kernel
theorem dX6_settle_71 : decode cX6_settle 71 = .ok (.invokestatic 69, 3) := by decide +kernel
theorem dX6_settle_74 : decode cX6_settle 74 = .ok (.invokevirtual 75, 3) := by decide +kernel
theorem dX6_settle_77 : decode cX6_settle 77 = .ok (.iastore, 1) := by decide +kernel
theorem dX6_settle_78 : decode cX6_settle 78 = .ok (.aload_n 0, 1) := by decide +kernel
theorem dX6_settle_79 : decode cX6_settle 79 = .ok (.getfield 22, 3) := by decide +kernel
theorem dX6_settle_82 : decode cX6_settle 82 = .ok (.iload_n 1, 1) := by decide +kernel
theorem dX6_settle_83 : decode cX6_settle 83 = .ok (.iaload, 1) := by decide +kernel
theorem dX6_settle_84 : decode cX6_settle 84 = .ok (.bipush (-2), 2) := by decide +kernel
theorem dX6_settle_86 : decode cX6_settle 86 = .ok (.if_icmp .eq 15, 3) := by decide +kernel
theorem dX6_settle_89 : decode cX6_settle 89 = .ok (.aload_n 0, 1) := by decide +kernel
theorem dX6_settle_90 : decode cX6_settle 90 = .ok (.dup, 1) := by decide +kernel
theorem dX6_settle_91 : decode cX6_settle 91 = .ok (.getfield 38, 3) := by decide +kernel
theorem dX6_settle_94 : decode cX6_settle 94 = .ok (.iconst 1, 1) := by decide +kernel
theorem dX6_settle_95 : decode cX6_settle 95 = .ok (.iload_n 1, 1) := by decide +kernel
theorem dX6_settle_96 : decode cX6_settle 96 = .ok (.ishl, 1) := by decide +kernel
theorem dX6_settle_97 : decode cX6_settle 97 = .ok (.ior, 1) := by decide +kernel
theorem dX6_settle_98 : decode cX6_settle 98 = .ok (.putfield 38, 3) := by decide +kernel
theorem dX6_settle_101 : decode cX6_settle 101 = .ok (.iinc 1 1, 3) := by decide +kernel
theorem dX6_settle_104 : decode cX6_settle 104 = .ok (.goto (-97), 3) := by decide +kernel
theorem dX6_settle_107 : decode cX6_settle 107 = .ok (.aload_n 0, 1) := by decide +kernel
theorem dX6_settle_108 : decode cX6_settle 108 = .ok (.iconst 0, 1) := by decide +kernel
theorem dX6_settle_109 : decode cX6_settle 109 = .ok (.putfield 42, 3) := by decide +kernel
theorem dX6_settle_112 : decode cX6_settle 112 = .ok (.iconst 0, 1) := by decide +kernel
theorem dX6_settle_113 : decode cX6_settle 113 = .ok (.istore_n 1, 1) := by decide +kernel
theorem dX6_settle_114 : decode cX6_settle 114 = .ok (.iload_n 1, 1) := by decide +kernel
theorem dX6_settle_115 : decode cX6_settle 115 = .ok (.aload_n 0, 1) := by decide +kernel
theorem dX6_settle_116 : decode cX6_settle 116 = .ok (.getfield 34, 3) := by decide +kernel
theorem dX6_settle_119 : decode cX6_settle 119 = .ok (.getfield 79, 3) := by decide +kernel
theorem dX6_settle_122 : decode cX6_settle 122 = .ok (.if_icmp .ge 43, 3) := by decide +kernel
theorem dX6_settle_125 : decode cX6_settle 125 = .ok (.aload_n 0, 1) := by decide +kernel
theorem dX6_settle_126 : decode cX6_settle 126 = .ok (.getfield 25, 3) := by decide +kernel
theorem dX6_settle_129 : decode cX6_settle 129 = .ok (.iload_n 1, 1) := by decide +kernel
theorem dX6_settle_130 : decode cX6_settle 130 = .ok (.aload_n 0, 1) := by decide +kernel
theorem dX6_settle_131 : decode cX6_settle 131 = .ok (.iload_n 1, 1) := by decide +kernel
theorem dX6_settle_132 : decode cX6_settle 132 = .ok (.invokevirtual 82, 3) := by decide +kernel
theorem dX6_settle_135 : decode cX6_settle 135 = .ok (.iastore, 1) := by decide +kernel
theorem dX6_settle_136 : decode cX6_settle 136 = .ok (.aload_n 0, 1) := by decide +kernel
theorem dX6_settle_137 : decode cX6_settle 137 = .ok (.iload_n 1, 1) := by decide +kernel
theorem dX6_settle_138 : decode cX6_settle 138 = .ok (.invokevirtual 85, 3) := by decide +kernel
theorem dX6_settle_141 : decode cX6_settle 141 = .ok (.ifCond .eq 18, 3) := by decide +kernel
theorem dX6_settle_144 : decode cX6_settle 144 = .ok (.aload_n 0, 1) := by decide +kernel
theorem dX6_settle_145 : decode cX6_settle 145 = .ok (.dup, 1) := by decide +kernel
theorem dX6_settle_146 : decode cX6_settle 146 = .ok (.getfield 42, 3) := by decide +kernel
theorem dX6_settle_149 : decode cX6_settle 149 = .ok (.aload_n 0, 1) := by decide +kernel
theorem dX6_settle_150 : decode cX6_settle 150 = .ok (.getfield 25, 3) := by decide +kernel
theorem dX6_settle_153 : decode cX6_settle 153 = .ok (.iload_n 1, 1) := by decide +kernel
theorem dX6_settle_154 : decode cX6_settle 154 = .ok (.iaload, 1) := by decide +kernel
theorem dX6_settle_155 : decode cX6_settle 155 = .ok (.ior, 1) := by decide +kernel
theorem dX6_settle_156 : decode cX6_settle 156 = .ok (.putfield 42, 3) := by decide +kernel
theorem dX6_settle_159 : decode cX6_settle 159 = .ok (.iinc 1 1, 3) := by decide +kernel
theorem dX6_settle_162 : decode cX6_settle 162 = .ok (.goto (-48), 3) := by decide +kernel
theorem dX6_settle_165 : decode cX6_settle 165 = .ok (.return_, 1) := by decide +kernel
theorem dX6_begin_0 : decode cX6_begin 0 = .ok (.aload_n 0, 1) := by decide +kernel
theorem dX6_begin_1 : decode cX6_begin 1 = .ok (.aload_n 1, 1) := by decide +kernel
theorem dX6_begin_2 : decode cX6_begin 2 = .ok (.putfield 34, 3) := by decide +kernel
theorem dX6_begin_5 : decode cX6_begin 5 = .ok (.aload_n 0, 1) := by decide +kernel
theorem dX6_begin_6 : decode cX6_begin 6 = .ok (.getfield 12, 3) := by decide +kernel
theorem dX6_begin_9 : decode cX6_begin 9 = .ok (.aload_n 1, 1) := by decide +kernel
theorem dX6_begin_10 : decode cX6_begin 10 = .ok (.invokevirtual 45, 3) := by decide +kernel
theorem dX6_begin_13 : decode cX6_begin 13 = .ok (.aload_n 0, 1) := by decide +kernel
theorem dX6_begin_14 : decode cX6_begin 14 = .ok (.invokevirtual 49, 3) := by decide +kernel
theorem dX6_begin_17 : decode cX6_begin 17 = .ok (.return_, 1) := by decide +kernel
theorem dX6_isUnder_0 : decode cX6_isUnder 0 = .ok (.aload_n 0, 1) := by decide +kernel
theorem dX6_isUnder_1 : decode cX6_isUnder 1 = .ok (.iload_n 1, 1) := by decide +kernel
theorem dX6_isUnder_2 : decode cX6_isUnder 2 = .ok (.invokevirtual 130, 3) := by decide +kernel
theorem dX6_isUnder_5 : decode cX6_isUnder 5 = .ok (.ifCond .eq 35, 3) := by decide +kernel
theorem dX6_isUnder_8 : decode cX6_isUnder 8 = .ok (.iload_n 2, 1) := by decide +kernel
theorem dX6_isUnder_9 : decode cX6_isUnder 9 = .ok (.aload_n 0, 1) := by decide +kernel
theorem dX6_isUnder_10 : decode cX6_isUnder 10 = .ok (.getfield 22, 3) := by decide +kernel
theorem dX6_isUnder_13 : decode cX6_isUnder 13 = .ok (.iload_n 1, 1) := by decide +kernel
theorem dX6_isUnder_14 : decode cX6_isUnder 14 = .ok (.iaload, 1) := by decide +kernel
theorem dX6_isUnder_15 : decode cX6_isUnder 15 = .ok (.if_icmp .lt 25, 3) := by decide +kernel
theorem dX6_isUnder_18 : decode cX6_isUnder 18 = .ok (.iload_n 2, 1) := by decide +kernel
theorem dX6_isUnder_19 : decode cX6_isUnder 19 = .ok (.aload_n 0, 1) := by decide +kernel
theorem dX6_isUnder_20 : decode cX6_isUnder 20 = .ok (.getfield 22, 3) := by decide +kernel
theorem dX6_isUnder_23 : decode cX6_isUnder 23 = .ok (.iload_n 1, 1) := by decide +kernel
theorem dX6_isUnder_24 : decode cX6_isUnder 24 = .ok (.iaload, 1) := by decide +kernel
theorem dX6_isUnder_25 : decode cX6_isUnder 25 = .ok (.aload_n 0, 1) := by decide +kernel
theorem dX6_isUnder_26 : decode cX6_isUnder 26 = .ok (.getfield 34, 3) := by decide +kernel
theorem dX6_isUnder_29 : decode cX6_isUnder 29 = .ok (.getfield 97, 3) := by decide +kernel
theorem dX6_isUnder_32 : decode cX6_isUnder 32 = .ok (.iadd, 1) := by decide +kernel
theorem dX6_isUnder_33 : decode cX6_isUnder 33 = .ok (.if_icmp .ge 7, 3) := by decide +kernel
theorem dX6_isUnder_36 : decode cX6_isUnder 36 = .ok (.iconst 1, 1) := by decide +kernel
theorem dX6_isUnder_37 : decode cX6_isUnder 37 = .ok (.goto 4, 3) := by decide +kernel
theorem dX6_isUnder_40 : decode cX6_isUnder 40 = .ok (.iconst 0, 1) := by decide +kernel
theorem dX6_isUnder_41 : decode cX6_isUnder 41 = .ok (.ireturn, 1) := by decide +kernel
theorem dX6_isLost_0 : decode cX6_isLost 0 = .ok (.aload_n 0, 1) := by decide +kernel
theorem dX6_isLost_1 : decode cX6_isLost 1 = .ok (.iload_n 1, 1) := by decide +kernel
theorem dX6_isLost_2 : decode cX6_isLost 2 = .ok (.invokevirtual 130, 3) := by decide +kernel
theorem dX6_isLost_5 : decode cX6_isLost 5 = .ok (.ifCond .eq 25, 3) := by decide +kernel
theorem dX6_isLost_8 : decode cX6_isLost 8 = .ok (.iload_n 2, 1) := by decide +kernel
theorem dX6_isLost_9 : decode cX6_isLost 9 = .ok (.aload_n 0, 1) := by decide +kernel
theorem dX6_isLost_10 : decode cX6_isLost 10 = .ok (.getfield 22, 3) := by decide +kernel
theorem dX6_isLost_13 : decode cX6_isLost 13 = .ok (.iload_n 1, 1) := by decide +kernel
theorem dX6_isLost_14 : decode cX6_isLost 14 = .ok (.iaload, 1) := by decide +kernel
theorem dX6_isLost_15 : decode cX6_isLost 15 = .ok (.aload_n 0, 1) := by decide +kernel
theorem dX6_isLost_16 : decode cX6_isLost 16 = .ok (.getfield 34, 3) := by decide +kernel
theorem dX6_isLost_19 : decode cX6_isLost 19 = .ok (.getfield 97, 3) := by decide +kernel
theorem dX6_isLost_22 : decode cX6_isLost 22 = .ok (.iadd, 1) := by decide +kernel
theorem dX6_isLost_23 : decode cX6_isLost 23 = .ok (.if_icmp .lt 7, 3) := by decide +kernel
theorem dX6_isLost_26 : decode cX6_isLost 26 = .ok (.iconst 1, 1) := by decide +kernel
theorem dX6_isLost_27 : decode cX6_isLost 27 = .ok (.goto 4, 3) := by decide +kernel
theorem dX6_isLost_30 : decode cX6_isLost 30 = .ok (.iconst 0, 1) := by decide +kernel
theorem dX6_isLost_31 : decode cX6_isLost 31 = .ok (.ireturn, 1) := by decide +kernel
theorem dX6_ofPerson_0 : decode cX6_ofPerson 0 = .ok (.iload_n 2, 1) := by decide +kernel
theorem dX6_ofPerson_1 : decode cX6_ofPerson 1 = .ok (.tableswitch 161 0 7 #[47, 57, 67, 77, 87, 94, 101, 121], 47) := by decide +kernel
theorem dX6_ofPerson_48 : decode cX6_ofPerson 48 = .ok (.aload_n 0, 1) := by decide +kernel
theorem dX6_ofPerson_49 : decode cX6_ofPerson 49 = .ok (.getfield 34, 3) := by decide +kernel
theorem dX6_ofPerson_52 : decode cX6_ofPerson 52 = .ok (.getfield 100, 3) := by decide +kernel
theorem dX6_ofPerson_55 : decode cX6_ofPerson 55 = .ok (.iload_n 1, 1) := by decide +kernel
theorem dX6_ofPerson_56 : decode cX6_ofPerson 56 = .ok (.iaload, 1) := by decide +kernel
theorem dX6_ofPerson_57 : decode cX6_ofPerson 57 = .ok (.ireturn, 1) := by decide +kernel
theorem dX6_ofPerson_58 : decode cX6_ofPerson 58 = .ok (.aload_n 0, 1) := by decide +kernel
theorem dX6_ofPerson_59 : decode cX6_ofPerson 59 = .ok (.getfield 12, 3) := by decide +kernel
theorem dX6_ofPerson_62 : decode cX6_ofPerson 62 = .ok (.getfield 55, 3) := by decide +kernel
theorem dX6_ofPerson_65 : decode cX6_ofPerson 65 = .ok (.iload_n 1, 1) := by decide +kernel
theorem dX6_ofPerson_66 : decode cX6_ofPerson 66 = .ok (.iaload, 1) := by decide +kernel
theorem dX6_ofPerson_67 : decode cX6_ofPerson 67 = .ok (.ireturn, 1) := by decide +kernel
theorem dX6_ofPerson_68 : decode cX6_ofPerson 68 = .ok (.aload_n 0, 1) := by decide +kernel
theorem dX6_ofPerson_69 : decode cX6_ofPerson 69 = .ok (.getfield 34, 3) := by decide +kernel
theorem dX6_ofPerson_72 : decode cX6_ofPerson 72 = .ok (.getfield 103, 3) := by decide +kernel
theorem dX6_ofPerson_75 : decode cX6_ofPerson 75 = .ok (.iload_n 1, 1) := by decide +kernel
theorem dX6_ofPerson_76 : decode cX6_ofPerson 76 = .ok (.iaload, 1) := by decide +kernel
theorem dX6_ofPerson_77 : decode cX6_ofPerson 77 = .ok (.ireturn, 1) := by decide +kernel
theorem dX6_ofPerson_78 : decode cX6_ofPerson 78 = .ok (.aload_n 0, 1) := by decide +kernel
theorem dX6_ofPerson_79 : decode cX6_ofPerson 79 = .ok (.getfield 34, 3) := by decide +kernel
theorem dX6_ofPerson_82 : decode cX6_ofPerson 82 = .ok (.getfield 106, 3) := by decide +kernel
theorem dX6_ofPerson_85 : decode cX6_ofPerson 85 = .ok (.iload_n 1, 1) := by decide +kernel
theorem dX6_ofPerson_86 : decode cX6_ofPerson 86 = .ok (.iaload, 1) := by decide +kernel
theorem dX6_ofPerson_87 : decode cX6_ofPerson 87 = .ok (.ireturn, 1) := by decide +kernel
theorem dX6_ofPerson_88 : decode cX6_ofPerson 88 = .ok (.aload_n 0, 1) := by decide +kernel
theorem dX6_ofPerson_89 : decode cX6_ofPerson 89 = .ok (.getfield 22, 3) := by decide +kernel
theorem dX6_ofPerson_92 : decode cX6_ofPerson 92 = .ok (.iload_n 1, 1) := by decide +kernel
theorem dX6_ofPerson_93 : decode cX6_ofPerson 93 = .ok (.iaload, 1) := by decide +kernel
theorem dX6_ofPerson_94 : decode cX6_ofPerson 94 = .ok (.ireturn, 1) := by decide +kernel
theorem dX6_ofPerson_95 : decode cX6_ofPerson 95 = .ok (.aload_n 0, 1) := by decide +kernel
theorem dX6_ofPerson_96 : decode cX6_ofPerson 96 = .ok (.getfield 18, 3) := by decide +kernel
theorem dX6_ofPerson_99 : decode cX6_ofPerson 99 = .ok (.iload_n 1, 1) := by decide +kernel
theorem dX6_ofPerson_100 : decode cX6_ofPerson 100 = .ok (.iaload, 1) := by decide +kernel
theorem dX6_ofPerson_101 : decode cX6_ofPerson 101 = .ok (.ireturn, 1) := by decide +kernel
theorem dX6_ofPerson_102 : decode cX6_ofPerson 102 = .ok (.aload_n 0, 1) := by decide +kernel
theorem dX6_ofPerson_103 : decode cX6_ofPerson 103 = .ok (.getfield 12, 3) := by decide +kernel
theorem dX6_ofPerson_106 : decode cX6_ofPerson 106 = .ok (.getfield 62, 3) := by decide +kernel
theorem dX6_ofPerson_109 : decode cX6_ofPerson 109 = .ok (.iload_n 1, 1) := by decide +kernel
theorem dX6_ofPerson_110 : decode cX6_ofPerson 110 = .ok (.invokestatic 65, 3) := by decide +kernel
theorem dX6_ofPerson_113 : decode cX6_ofPerson 113 = .ok (.ifCond .eq 7, 3) := by decide +kernel
theorem dX6_ofPerson_116 : decode cX6_ofPerson 116 = .ok (.iconst 1, 1) := by decide +kernel
theorem dX6_ofPerson_117 : decode cX6_ofPerson 117 = .ok (.goto 4, 3) := by decide +kernel
theorem dX6_ofPerson_120 : decode cX6_ofPerson 120 = .ok (.iconst 0, 1) := by decide +kernel
theorem dX6_ofPerson_121 : decode cX6_ofPerson 121 = .ok (.ireturn, 1) := by decide +kernel
theorem dX6_ofPerson_122 : decode cX6_ofPerson 122 = .ok (.aload_n 0, 1) := by decide +kernel
theorem dX6_ofPerson_123 : decode cX6_ofPerson 123 = .ok (.iload_n 1, 1) := by decide +kernel
theorem dX6_ofPerson_124 : decode cX6_ofPerson 124 = .ok (.aload_n 0, 1) := by decide +kernel
theorem dX6_ofPerson_125 : decode cX6_ofPerson 125 = .ok (.getfield 12, 3) := by decide +kernel
theorem dX6_ofPerson_128 : decode cX6_ofPerson 128 = .ok (.getfield 109, 3) := by decide +kernel
theorem dX6_ofPerson_131 : decode cX6_ofPerson 131 = .ok (.invokevirtual 112, 3) := by decide +kernel
theorem dX6_ofPerson_134 : decode cX6_ofPerson 134 = .ok (.ifCond .eq 7, 3) := by decide +kernel
theorem dX6_ofPerson_137 : decode cX6_ofPerson 137 = .ok (.iconst 1, 1) := by decide +kernel
theorem dX6_ofPerson_138 : decode cX6_ofPerson 138 = .ok (.goto 23, 3) := by decide +kernel
theorem dX6_ofPerson_141 : decode cX6_ofPerson 141 = .ok (.aload_n 0, 1) := by decide +kernel
theorem dX6_ofPerson_142 : decode cX6_ofPerson 142 = .ok (.iload_n 1, 1) := by decide +kernel
theorem dX6_ofPerson_143 : decode cX6_ofPerson 143 = .ok (.aload_n 0, 1) := by decide +kernel
theorem dX6_ofPerson_144 : decode cX6_ofPerson 144 = .ok (.getfield 12, 3) := by decide +kernel
theorem dX6_ofPerson_147 : decode cX6_ofPerson 147 = .ok (.getfield 109, 3) := by decide +kernel
theorem dX6_ofPerson_150 : decode cX6_ofPerson 150 = .ok (.invokevirtual 115, 3) := by decide +kernel
theorem dX6_ofPerson_153 : decode cX6_ofPerson 153 = .ok (.ifCond .eq 7, 3) := by decide +kernel
theorem dX6_ofPerson_156 : decode cX6_ofPerson 156 = .ok (.iconst 2, 1) := by decide +kernel
theorem dX6_ofPerson_157 : decode cX6_ofPerson 157 = .ok (.goto 4, 3) := by decide +kernel
theorem dX6_ofPerson_160 : decode cX6_ofPerson 160 = .ok (.iconst 0, 1) := by decide +kernel
theorem dX6_ofPerson_161 : decode cX6_ofPerson 161 = .ok (.ireturn, 1) := by decide +kernel
theorem dX6_ofPerson_162 : decode cX6_ofPerson 162 = .ok (.aload_n 0, 1) := by decide +kernel
theorem dX6_ofPerson_163 : decode cX6_ofPerson 163 = .ok (.getfield 34, 3) := by decide +kernel
theorem dX6_ofPerson_166 : decode cX6_ofPerson 166 = .ok (.getfield 118, 3) := by decide +kernel
theorem dX6_ofPerson_169 : decode cX6_ofPerson 169 = .ok (.iload_n 1, 1) := by decide +kernel
theorem dX6_ofPerson_170 : decode cX6_ofPerson 170 = .ok (.iaload, 1) := by decide +kernel
theorem dX6_ofPerson_171 : decode cX6_ofPerson 171 = .ok (.ireturn, 1) := by decide +kernel
def m_X6_nearIn (t : Nat) (o0p : (Option Nat)) (x1p : Int32) (σ : jd_Hp) : Option (Int32 × jd_Hp) :=
jd_b (jd_lp (S := Int32 × Int32) (T := Int32) (fun s1 σ1 =>
jd_o σ1 (6, 8) (some t) fun a3 =>
jd_o σ1 (10, 16) (σ1.2.2.2 a3 5) fun a4 =>
jd_if ((σ1.2.1 a4 11) ≤ s1.2) (
some ((Sum.inr s1.1), σ1)) (
jd_if (s1.2 = x1p) (
some (Sum.inl (s1.1, (s1.2 + 1)), σ1)) (
jd_ia σ1 20 o0p s1.2 fun a5 j5 =>
jd_ia σ1 20 o0p x1p fun a6 j6 =>
jd_if (5 < (jd_abs ((σ1.2.1 a5 j5) - (σ1.2.1 a6 j6)))) (
some (Sum.inl (s1.1, (s1.2 + 1)), σ1)) (
jd_li (s1.1 ||| (1 <<< (s1.2 &&& 31))) fun x7 =>
some (Sum.inl (x7, (s1.2 + 1)), σ1))))) jd_fu (0, 0) σ) fun t2 σ2 =>
some (t2, σ2)
set_option maxHeartbeats 4000000 in
set_option maxRecDepth 20000 in
theorem c_X6_nearIn {l : Launch} {s0 : State} {G : jd_G} (hF : jd_F s0 G) (σ : jd_Hp) (t : Nat) (ht : σ.1[t]? = some (6, 8)) (o0p : (Option Nat)) (x1p : Int32) : jd_M l s0 G yX6_nearIn cX6_nearIn 5 (some .int) 1 je_i [jd_v G (some t), jd_v G o0p, .int x1p] σ (m_X6_nearIn t o0p x1p σ) := by
  refine jd_enter hF (by decide) (fun G => [some (jd_v G (some t)), some (jd_v G o0p), some (.int x1p), none, none]) rfl (by simp [lv_args, jd_al, jd_v_cat, jd_cti, jd_ctl]) (by simp [lg_sl, jd_v_cat, jd_cti, jd_ctl]) (fun X hD hX => ?_)
  have hX : jd_C X RX6 "nearIn" cX6_nearIn 5 (some .int) := hX
  unfold m_X6_nearIn
  refine jr_iconst (pc := 0) hX 0 rfl dX6_nearIn_0 ?_
  refine jr_ist3 (pc := 1) hX (jn_i _) dX6_nearIn_1 ?_
  refine jr_iconst (pc := 2) hX 0 rfl dX6_nearIn_2 ?_
  refine jr_ist4 (pc := 3) hX (jn_i _) dX6_nearIn_3 ?_
  refine jr_loop (pc := 5) (fun (s1 : Int32 × Int32) => [some (jd_v (jd_gG X) (some t)), some (jd_v (jd_gG X) o0p), some (.int x1p), some (.int s1.1), some (.int s1.2)]) (fun (t2 : Int32) => [none, none, none, some (.int t2), none]) 51 (0, 0) (fun t2 σ2 => ?_) (fun K1 bk1 ex1 s1 σ1 => ?_)
  · refine jr_ild3 (pc := 51) hX dX6_nearIn_51 ?_
    exact jr_iret (pc := 52) hX dX6_nearIn_52 rfl
  · refine jr_ild4 (pc := 5) hX dX6_nearIn_5 ?_
    refine jr_ald0 (pc := 7) hX dX6_nearIn_7 ?_
    refine jr_ck0 (fun a3 e3 h3 => ?_)
    refine jr_getr (pc := 8) hX fX6_34 rfl dX6_nearIn_8 h3 ?_
    refine jr_ck0 (fun a4 e4 h4 => ?_)
    refine jr_geti (pc := 11) hX fX6_52 rfl dX6_nearIn_11 h4 ?_
    refine jr_icge (pc := 14) hX 51 dX6_nearIn_14 (by decide) ?_ ?_
    · refine jr_wk [false, false, false, true, false] ?_
      exact ex1 s1.1 _
    · refine jr_ild4 (pc := 17) hX dX6_nearIn_17 ?_
      refine jr_ild2 (pc := 19) hX dX6_nearIn_19 ?_
      refine jr_iceq (pc := 20) hX 45 dX6_nearIn_20 (by decide) ?_ ?_
      · refine jr_inc4 (pc := 45) hX 1 rfl (jn_i _) dX6_nearIn_45 ?_
        refine jr_goto (pc := 48) hX 5 dX6_nearIn_48 (by decide) ?_
        exact bk1 (s1.1, (s1.2 + 1)) _
      · refine jr_ald1 (pc := 23) hX dX6_nearIn_23 ?_
        refine jr_ild4 (pc := 24) hX dX6_nearIn_24 ?_
        refine jr_iaC (pc := 26) hX dX6_nearIn_26 (fun a5 n5 e5 h5 => ?_)
        refine jr_ald1 (pc := 27) hX dX6_nearIn_27 ?_
        refine jr_ild2 (pc := 28) hX dX6_nearIn_28 ?_
        refine jr_iaC (pc := 29) hX dX6_nearIn_29 (fun a6 n6 e6 h6 => ?_)
        refine jr_isub (pc := 30) hX dX6_nearIn_30 ?_
        refine jr_mabs (pc := 31) hX lX6_89 (jd_d1 hD rfl) (Nat.le_of_ble_eq_true rfl) dX6_nearIn_31 ?_
        refine jr_iconst (pc := 34) hX 5 rfl dX6_nearIn_34 ?_
        refine jr_icgt (pc := 35) hX 45 dX6_nearIn_35 (by decide) ?_ ?_
        · refine jr_inc4 (pc := 45) hX 1 rfl (jn_i _) dX6_nearIn_45 ?_
          refine jr_goto (pc := 48) hX 5 dX6_nearIn_48 (by decide) ?_
          exact bk1 (s1.1, (s1.2 + 1)) _
        · refine jr_ild3 (pc := 38) hX dX6_nearIn_38 ?_
          refine jr_iconst (pc := 39) hX 1 rfl dX6_nearIn_39 ?_
          refine jr_ild4 (pc := 40) hX dX6_nearIn_40 ?_
          refine jr_ishl (pc := 42) hX dX6_nearIn_42 ?_
          refine jr_ior (pc := 43) hX dX6_nearIn_43 ?_
          refine jr_ist3 (pc := 44) hX (jn_i _) dX6_nearIn_44 ?_
          refine jr_li ?_
          refine jr_inc4 (pc := 45) hX 1 rfl (jn_i _) dX6_nearIn_45 ?_
          refine jr_goto (pc := 48) hX 5 dX6_nearIn_48 (by decide) ?_
          exact bk1 ((s1.1 ||| (1 <<< (s1.2 &&& 31))), (s1.2 + 1)) _
def m_X6_reachOf (t : Nat) (x0p : Int32) (σ : jd_Hp) : Option (Int32 × jd_Hp) :=
jd_b (jd_lp (S := Int32 × Int32) (T := Int32) (fun s1 σ1 =>
jd_o σ1 (6, 8) (some t) fun a3 =>
jd_o σ1 (10, 16) (σ1.2.2.2 a3 5) fun a4 =>
jd_if ((σ1.2.1 a4 11) ≤ s1.2) (
some ((Sum.inr s1.1), σ1)) (
jd_b (m_X6_timeTo a3 x0p s1.2 σ1) fun r5 σ5 =>
jd_o σ5 (10, 16) (σ5.2.2.2 a3 5) fun a6 =>
jd_if ((σ5.2.1 a6 8) < r5) (
some (Sum.inl (s1.1, (s1.2 + 1)), σ5)) (
jd_li (s1.1 ||| (1 <<< (s1.2 &&& 31))) fun x7 =>
some (Sum.inl (x7, (s1.2 + 1)), σ5)))) jd_fu (0, 0) σ) fun t2 σ2 =>
some (t2, σ2)
set_option maxHeartbeats 4000000 in
set_option maxRecDepth 20000 in
theorem c_X6_reachOf {l : Launch} {s0 : State} {G : jd_G} (hF : jd_F s0 G) (σ : jd_Hp) (t : Nat) (ht : σ.1[t]? = some (6, 8)) (x0p : Int32) : jd_M l s0 G yX6_reachOf cX6_reachOf 4 (some .int) 2 je_i [jd_v G (some t), .int x0p] σ (m_X6_reachOf t x0p σ) := by
  refine jd_enter hF (by decide) (fun G => [some (jd_v G (some t)), some (.int x0p), none, none]) rfl (by simp [lv_args, jd_al, jd_v_cat, jd_cti, jd_ctl]) (by simp [lg_sl, jd_v_cat, jd_cti, jd_ctl]) (fun X hD hX => ?_)
  have hX : jd_C X RX6 "reachOf" cX6_reachOf 4 (some .int) := hX
  unfold m_X6_reachOf
  refine jr_iconst (pc := 0) hX 0 rfl dX6_reachOf_0 ?_
  refine jr_ist2 (pc := 1) hX (jn_i _) dX6_reachOf_1 ?_
  refine jr_iconst (pc := 2) hX 0 rfl dX6_reachOf_2 ?_
  refine jr_ist3 (pc := 3) hX (jn_i _) dX6_reachOf_3 ?_
  refine jr_loop (pc := 4) (fun (s1 : Int32 × Int32) => [some (jd_v (jd_gG X) (some t)), some (.int x0p), some (.int s1.1), some (.int s1.2)]) (fun (t2 : Int32) => [none, none, some (.int t2), none]) 43 (0, 0) (fun t2 σ2 => ?_) (fun K1 bk1 ex1 s1 σ1 => ?_)
  · refine jr_ild2 (pc := 43) hX dX6_reachOf_43 ?_
    exact jr_iret (pc := 44) hX dX6_reachOf_44 rfl
  · refine jr_ild3 (pc := 4) hX dX6_reachOf_4 ?_
    refine jr_ald0 (pc := 5) hX dX6_reachOf_5 ?_
    refine jr_ck0 (fun a3 e3 h3 => ?_)
    refine jr_getr (pc := 6) hX fX6_34 rfl dX6_reachOf_6 h3 ?_
    refine jr_ck0 (fun a4 e4 h4 => ?_)
    refine jr_geti (pc := 9) hX fX6_52 rfl dX6_reachOf_9 h4 ?_
    refine jr_icge (pc := 12) hX 43 dX6_reachOf_12 (by decide) ?_ ?_
    · refine jr_wk [false, false, true, false] ?_
      exact ex1 s1.1 _
    · refine jr_ald0 (pc := 15) hX dX6_reachOf_15 ?_
      refine jr_ild1 (pc := 16) hX dX6_reachOf_16 ?_
      refine jr_ild3 (pc := 17) hX dX6_reachOf_17 ?_
      refine jr_ek2 e3 ?_
      refine jr_cV2i (pc := 18) hX lX6_94 (c_X6_timeTo hX.F σ1 a3 h3 _ _) (jd_dd hD rfl) (Nat.le_of_ble_eq_true rfl) dX6_reachOf_18 h3 (fun r5 σ5 p5 => ?_)
      refine jr_ald0 (pc := 21) hX dX6_reachOf_21 ?_
      refine jr_ek0 e3 ?_
      refine jr_getr (pc := 22) hX fX6_34 rfl dX6_reachOf_22 (p5.at h3 :) ?_
      refine jr_ck0 (fun a6 e6 h6 => ?_)
      refine jr_geti (pc := 25) hX fX6_97 rfl dX6_reachOf_25 h6 ?_
      refine jr_icgt (pc := 28) hX 37 dX6_reachOf_28 (by decide) ?_ ?_
      · refine jr_inc3 (pc := 37) hX 1 rfl (jn_i _) dX6_reachOf_37 ?_
        refine jr_goto (pc := 40) hX 4 dX6_reachOf_40 (by decide) ?_
        exact bk1 (s1.1, (s1.2 + 1)) _
      · refine jr_ild2 (pc := 31) hX dX6_reachOf_31 ?_
        refine jr_iconst (pc := 32) hX 1 rfl dX6_reachOf_32 ?_
        refine jr_ild3 (pc := 33) hX dX6_reachOf_33 ?_
        refine jr_ishl (pc := 34) hX dX6_reachOf_34 ?_
        refine jr_ior (pc := 35) hX dX6_reachOf_35 ?_
        refine jr_ist2 (pc := 36) hX (jn_i _) dX6_reachOf_36 ?_
        refine jr_li ?_
        refine jr_inc3 (pc := 37) hX 1 rfl (jn_i _) dX6_reachOf_37 ?_
        refine jr_goto (pc := 40) hX 4 dX6_reachOf_40 (by decide) ?_
        exact bk1 ((s1.1 ||| (1 <<< (s1.2 &&& 31))), (s1.2 + 1)) _
def m_X6_isManned (t : Nat) (x0p : Int32) (σ : jd_Hp) : Option (Int32 × jd_Hp) :=
jd_o σ (4, 4) (σ.2.2.2 t 0) fun a1 =>
jd_b (m_X11_has (σ.2.1 a1 1) x0p σ) fun r2 σ2 =>
some ((r2 &&& 1), σ2)
set_option maxHeartbeats 4000000 in
set_option maxRecDepth 20000 in
theorem c_X6_isManned {l : Launch} {s0 : State} {G : jd_G} (hF : jd_F s0 G) (σ : jd_Hp) (t : Nat) (ht : σ.1[t]? = some (6, 8)) (x0p : Int32) : jd_M l s0 G yX6_isManned cX6_isManned 2 (some .boolean) 1 je_i [jd_v G (some t), .int x0p] σ (m_X6_isManned t x0p σ) := by
  refine jd_enter hF (by decide) (fun G => [some (jd_v G (some t)), some (.int x0p)]) rfl (by simp [lv_args, jd_al, jd_v_cat, jd_cti, jd_ctl]) (by simp [lg_sl, jd_v_cat, jd_cti, jd_ctl]) (fun X hD hX => ?_)
  have hX : jd_C X RX6 "isManned" cX6_isManned 2 (some .boolean) := hX
  unfold m_X6_isManned
  refine jr_ald0 (pc := 0) hX dX6_isManned_0 ?_
  refine jr_getr (pc := 1) hX fX6_12 rfl dX6_isManned_1 ht ?_
  refine jr_ck0 (fun a1 e1 h1 => ?_)
  refine jr_geti (pc := 4) hX fX6_127 rfl dX6_isManned_4 h1 ?_
  refine jr_ild1 (pc := 7) hX dX6_isManned_7 ?_
  refine jr_cS2i (pc := 8) hX lX6_65 (c_X11_has hX.F σ _ _) (jd_dd hD rfl) (Nat.le_of_ble_eq_true rfl) dX6_isManned_8 (fun r2 σ2 p2 => ?_)
  exact jr_bret (pc := 11) hX dX6_isManned_11 rfl
def m_X6_settle (t : Nat) (σ : jd_Hp) : Option (Unit × jd_Hp) :=
jd_li (jd_pi σ t 6 0) fun τ1 =>
jd_b (jd_lp (S := Int32) (T := Unit) (fun s2 σ2 =>
jd_o σ2 (6, 8) (some t) fun a4 =>
jd_o σ2 (10, 16) (σ2.2.2.2 a4 5) fun a5 =>
jd_if ((σ2.2.1 a5 11) ≤ s2) (
some ((Sum.inr ()), σ2)) (
jd_o σ2 (4, 4) (σ2.2.2.2 a4 0) fun a6 =>
jd_b (m_X6_nearIn a4 (σ2.2.2.2 a6 0) s2 σ2) fun r7 σ7 =>
jd_ia σ7 20 (σ2.2.2.2 a4 1) s2 fun a8 j8 =>
jd_li (jd_pi σ7 a8 j8 r7) fun τ9 =>
jd_o τ9 (4, 4) (τ9.2.2.2 a4 0) fun a10 =>
jd_b (m_X11_has (τ9.2.1 a10 2) s2 τ9) fun r11 σ11 =>
jd_b (α := Int32) (
jd_if (r11 = 0) (
jd_ia σ11 20 (σ11.2.2.2 a4 1) s2 fun a17 j17 =>
jd_b (m_J6_bitCount_0f7a4 (σ11.2.1 a17 j17) σ11) fun r18 σ18 =>
jd_o σ18 (10, 16) (σ11.2.2.2 a4 5) fun a19 =>
jd_b (m_X10_sinkMinute a19 s2 r18 σ18) fun r20 σ20 =>
some (r20, σ20)) (
some ((-2), σ11))) fun t16 σ16 =>
jd_ia σ16 20 (τ9.2.2.2 a4 2) s2 fun a21 j21 =>
jd_li (jd_pi σ16 a21 j21 t16) fun τ22 =>
jd_o τ22 (6, 8) (some t) fun a23 =>
jd_ia τ22 20 (τ22.2.2.2 a23 2) s2 fun a24 j24 =>
jd_if ((τ22.2.1 a24 j24) = (-2)) (
some (Sum.inl (s2 + 1), τ22)) (
jd_li (jd_pi τ22 a23 6 ((τ22.2.1 a23 6) ||| (1 <<< (s2 &&& 31)))) fun τ25 =>
some (Sum.inl (s2 + 1), τ25)))) jd_fu 0 τ1) fun t3 σ3 =>
jd_o σ3 (6, 8) (some t) fun a26 =>
jd_li (jd_pi σ3 a26 7 0) fun τ27 =>
jd_b (jd_lp (S := Int32) (T := Unit) (fun s28 σ28 =>
jd_o σ28 (6, 8) (some t) fun a30 =>
jd_o σ28 (10, 16) (σ28.2.2.2 a30 5) fun a31 =>
jd_if ((σ28.2.1 a31 12) ≤ s28) (
some ((Sum.inr ()), σ28)) (
jd_b (m_X6_reachOf a30 s28 σ28) fun r32 σ32 =>
jd_ia σ32 20 (σ28.2.2.2 a30 3) s28 fun a33 j33 =>
jd_li (jd_pi σ32 a33 j33 r32) fun τ34 =>
jd_b (m_X6_isManned a30 s28 τ34) fun r35 σ35 =>
jd_if (r35 = 0) (
some (Sum.inl (s28 + 1), σ35)) (
jd_ia σ35 20 (σ35.2.2.2 a30 3) s28 fun a36 j36 =>
jd_li (jd_pi σ35 a30 7 ((σ35.2.1 a30 7) ||| (σ35.2.1 a36 j36))) fun τ37 =>
some (Sum.inl (s28 + 1), τ37)))) jd_fu 0 τ27) fun t29 σ29 =>
some ((), σ29)
set_option maxHeartbeats 4000000 in
set_option maxRecDepth 20000 in
theorem c_X6_settle {l : Launch} {s0 : State} {G : jd_G} (hF : jd_F s0 G) (σ : jd_Hp) (t : Nat) (ht : σ.1[t]? = some (6, 8)) : jd_M l s0 G yX6_settle cX6_settle 2 none 3 je_v [jd_v G (some t)] σ (m_X6_settle t σ) := by
  refine jd_enter hF (by decide) (fun G => [some (jd_v G (some t)), none]) rfl (by simp [lv_args, jd_al, jd_v_cat, jd_cti, jd_ctl]) (by simp [lg_sl, jd_v_cat, jd_cti, jd_ctl]) (fun X hD hX => ?_)
  have hX : jd_C X RX6 "settle" cX6_settle 2 none := hX
  unfold m_X6_settle
  refine jr_ald0 (pc := 0) hX dX6_settle_0 ?_
  refine jr_iconst (pc := 1) hX 0 rfl dX6_settle_1 ?_
  refine jr_puti (pc := 2) hX fX6_38 rfl dX6_settle_2 ht ?_
  refine jr_li ?_
  refine jr_iconst (pc := 5) hX 0 rfl dX6_settle_5 ?_
  refine jr_ist1 (pc := 6) hX (jn_r _ _) dX6_settle_6 ?_
  refine jr_loop (pc := 7) (fun (s2 : Int32) => [some (jd_v (jd_gG X) (some t)), some (.int s2)]) (fun (t3 : Unit) => [some (jd_v (jd_gG X) (some t)), none]) 107 0 (fun t3 σ3 => ?_) (fun K2 bk2 ex2 s2 σ2 => ?_)
  · refine jr_ald0 (pc := 107) hX dX6_settle_107 ?_
    refine jr_iconst (pc := 108) hX 0 rfl dX6_settle_108 ?_
    refine jr_ck1 (fun a26 e26 h26 => ?_)
    refine jr_puti (pc := 109) hX fX6_42 rfl dX6_settle_109 h26 ?_
    refine jr_li ?_
    refine jr_iconst (pc := 112) hX 0 rfl dX6_settle_112 ?_
    refine jr_ist1 (pc := 113) hX (jn_r _ _) dX6_settle_113 ?_
    refine jr_loop (pc := 114) (fun (s28 : Int32) => [some (jd_v (jd_gG X) (some t)), some (.int s28)]) (fun (t29 : Unit) => [none, none]) 165 0 (fun t29 σ29 => ?_) (fun K28 bk28 ex28 s28 σ28 => ?_)
    · exact jr_vret (pc := 165) hX dX6_settle_165 rfl
    · refine jr_ild1 (pc := 114) hX dX6_settle_114 ?_
      refine jr_ald0 (pc := 115) hX dX6_settle_115 ?_
      refine jr_ck0 (fun a30 e30 h30 => ?_)
      refine jr_getr (pc := 116) hX fX6_34 rfl dX6_settle_116 h30 ?_
      refine jr_ck0 (fun a31 e31 h31 => ?_)
      refine jr_geti (pc := 119) hX fX6_79 rfl dX6_settle_119 h31 ?_
      refine jr_icge (pc := 122) hX 165 dX6_settle_122 (by decide) ?_ ?_
      · refine jr_wk [false, false] ?_
        exact ex28 () _
      · refine jr_ald0 (pc := 125) hX dX6_settle_125 ?_
        refine jr_ek0 e30 ?_
        refine jr_getr (pc := 126) hX fX6_25 rfl dX6_settle_126 h30 ?_
        refine jr_ild1 (pc := 129) hX dX6_settle_129 ?_
        refine jr_ald0 (pc := 130) hX dX6_settle_130 ?_
        refine jr_ild1 (pc := 131) hX dX6_settle_131 ?_
        refine jr_ek1 e30 ?_
        refine jr_cV1i (pc := 132) hX lX6_82 (c_X6_reachOf hX.F σ28 a30 h30 _) (jd_dd hD rfl) (by simp [jd_v_cat, jd_cti, jd_ctl]) dX6_settle_132 h30 (fun r32 σ32 p32 => ?_)
        refine jr_iaS (pc := 135) hX dX6_settle_135 (fun a33 n33 e33 h33 => ?_)
        refine jr_li ?_
        refine jr_ald0 (pc := 136) hX dX6_settle_136 ?_
        refine jr_ild1 (pc := 137) hX dX6_settle_137 ?_
        refine jr_ek1 e30 ?_
        refine jr_cV1i (pc := 138) hX lX6_85 (c_X6_isManned hX.F (jd_pi σ32 a33 s28.toNatClampNeg r32) a30 (p32.at h30 :) _) (jd_dd hD rfl) (Nat.le_of_ble_eq_true rfl) dX6_settle_138 (p32.at h30 :) (fun r35 σ35 p35 => ?_)
        refine jr_ifeq (pc := 141) hX 159 dX6_settle_141 (by decide) ?_ ?_
        · refine jr_inc1 (pc := 159) hX 1 rfl (jn_r _ _) dX6_settle_159 ?_
          refine jr_goto (pc := 162) hX 114 dX6_settle_162 (by decide) ?_
          exact bk28 (s28 + 1) _
        · refine jr_ald0 (pc := 144) hX dX6_settle_144 ?_
          refine jr_dup (pc := 145) hX (jd_v_cat _ _) dX6_settle_145 ?_
          refine jr_ek0 e30 ?_
          refine jr_geti (pc := 146) hX fX6_42 rfl dX6_settle_146 (p35.at (p32.at h30 :) :) ?_
          refine jr_ald0 (pc := 149) hX dX6_settle_149 ?_
          refine jr_ek0 e30 ?_
          refine jr_getr (pc := 150) hX fX6_25 rfl dX6_settle_150 (p35.at (p32.at h30 :) :) ?_
          refine jr_ild1 (pc := 153) hX dX6_settle_153 ?_
          refine jr_iaC (pc := 154) hX dX6_settle_154 (fun a36 n36 e36 h36 => ?_)
          refine jr_ior (pc := 155) hX dX6_settle_155 ?_
          refine jr_ek1 e30 ?_
          refine jr_puti (pc := 156) hX fX6_42 rfl dX6_settle_156 (p35.at (p32.at h30 :) :) ?_
          refine jr_li ?_
          refine jr_inc1 (pc := 159) hX 1 rfl (jn_r _ _) dX6_settle_159 ?_
          refine jr_goto (pc := 162) hX 114 dX6_settle_162 (by decide) ?_
          exact bk28 (s28 + 1) _
  · refine jr_ild1 (pc := 7) hX dX6_settle_7 ?_
    refine jr_ald0 (pc := 8) hX dX6_settle_8 ?_
    refine jr_ck0 (fun a4 e4 h4 => ?_)
    refine jr_getr (pc := 9) hX fX6_34 rfl dX6_settle_9 h4 ?_
    refine jr_ck0 (fun a5 e5 h5 => ?_)
    refine jr_geti (pc := 12) hX fX6_52 rfl dX6_settle_12 h5 ?_
    refine jr_icge (pc := 15) hX 107 dX6_settle_15 (by decide) ?_ ?_
    · refine jr_wk [true, false] ?_
      exact ex2 () _
    · refine jr_ald0 (pc := 18) hX dX6_settle_18 ?_
      refine jr_ek0 e4 ?_
      refine jr_getr (pc := 19) hX fX6_18 rfl dX6_settle_19 h4 ?_
      refine jr_ild1 (pc := 22) hX dX6_settle_22 ?_
      refine jr_ald0 (pc := 23) hX dX6_settle_23 ?_
      refine jr_ald0 (pc := 24) hX dX6_settle_24 ?_
      refine jr_ek0 e4 ?_
      refine jr_getr (pc := 25) hX fX6_12 rfl dX6_settle_25 h4 ?_
      refine jr_ck0 (fun a6 e6 h6 => ?_)
      refine jr_getr (pc := 28) hX fX6_55 rfl dX6_settle_28 h6 ?_
      refine jr_ild1 (pc := 31) hX dX6_settle_31 ?_
      refine jr_ek2 e4 ?_
      refine jr_cV2i (pc := 32) hX lX6_58 (c_X6_nearIn hX.F σ2 a4 h4 _ _) (jd_dd hD rfl) (by simp [jd_v_cat, jd_cti, jd_ctl]) dX6_settle_32 h4 (fun r7 σ7 p7 => ?_)
      refine jr_iaS (pc := 35) hX dX6_settle_35 (fun a8 n8 e8 h8 => ?_)
      refine jr_li ?_
      refine jr_ald0 (pc := 36) hX dX6_settle_36 ?_
      refine jr_ek0 e4 ?_
      refine jr_getr (pc := 37) hX fX6_22 rfl dX6_settle_37 (p7.at h4 :) ?_
      refine jr_ild1 (pc := 40) hX dX6_settle_40 ?_
      refine jr_ald0 (pc := 41) hX dX6_settle_41 ?_
      refine jr_ek0 e4 ?_
      refine jr_getr (pc := 42) hX fX6_12 rfl dX6_settle_42 (p7.at h4 :) ?_
      refine jr_ck0 (fun a10 e10 h10 => ?_)
      refine jr_geti (pc := 45) hX fX6_62 rfl dX6_settle_45 h10 ?_
      refine jr_ild1 (pc := 48) hX dX6_settle_48 ?_
      refine jr_cS2i (pc := 49) hX lX6_65 (c_X11_has hX.F (jd_pi σ7 a8 s2.toNatClampNeg r7) _ _) (jd_dd hD rfl) (by simp [jd_v_cat, jd_cti, jd_ctl]) dX6_settle_49 (fun r11 σ11 p11 => ?_)
      refine jr_join (pc := 52) 77 (fun (t16 : Int32) => [some (jd_v (jd_gG X) (some t)), some (.int s2)]) (fun (t16 : Int32) => [.int t16, .int s2, jd_v (jd_gG X) ((jd_pi σ7 a8 s2.toNatClampNeg r7).2.2.2 a4 2)]) (fun t16 σ16 => ?_) (fun K16 jj16 => ?_)
      · refine jr_iaS (pc := 77) hX dX6_settle_77 (fun a21 n21 e21 h21 => ?_)
        refine jr_li ?_
        refine jr_ald0 (pc := 78) hX dX6_settle_78 ?_
        refine jr_ck0 (fun a23 e23 h23 => ?_)
        refine jr_getr (pc := 79) hX fX6_22 rfl dX6_settle_79 h23 ?_
        refine jr_ild1 (pc := 82) hX dX6_settle_82 ?_
        refine jr_iaC (pc := 83) hX dX6_settle_83 (fun a24 n24 e24 h24 => ?_)
        refine jr_bipush (pc := 84) hX (-2) rfl dX6_settle_84 ?_
        refine jr_iceq (pc := 86) hX 101 dX6_settle_86 (by decide) ?_ ?_
        · refine jr_inc1 (pc := 101) hX 1 rfl (jn_r _ _) dX6_settle_101 ?_
          refine jr_goto (pc := 104) hX 7 dX6_settle_104 (by decide) ?_
          exact bk2 (s2 + 1) _
        · refine jr_ald0 (pc := 89) hX dX6_settle_89 ?_
          refine jr_dup (pc := 90) hX (jd_v_cat _ _) dX6_settle_90 ?_
          refine jr_ek0 e23 ?_
          refine jr_geti (pc := 91) hX fX6_38 rfl dX6_settle_91 h23 ?_
          refine jr_iconst (pc := 94) hX 1 rfl dX6_settle_94 ?_
          refine jr_ild1 (pc := 95) hX dX6_settle_95 ?_
          refine jr_ishl (pc := 96) hX dX6_settle_96 ?_
          refine jr_ior (pc := 97) hX dX6_settle_97 ?_
          refine jr_ek1 e23 ?_
          refine jr_puti (pc := 98) hX fX6_38 rfl dX6_settle_98 h23 ?_
          refine jr_li ?_
          refine jr_inc1 (pc := 101) hX 1 rfl (jn_r _ _) dX6_settle_101 ?_
          refine jr_goto (pc := 104) hX 7 dX6_settle_104 (by decide) ?_
          exact bk2 (s2 + 1) _
      · refine jr_ifeq (pc := 52) hX 60 dX6_settle_52 (by decide) ?_ ?_
        · refine jr_ald0 (pc := 60) hX dX6_settle_60 ?_
          refine jr_ek0 e4 ?_
          refine jr_getr (pc := 61) hX fX6_34 rfl dX6_settle_61 (p11.at (p7.at h4 :) :) ?_
          refine jr_ild1 (pc := 64) hX dX6_settle_64 ?_
          refine jr_ald0 (pc := 65) hX dX6_settle_65 ?_
          refine jr_ek0 e4 ?_
          refine jr_getr (pc := 66) hX fX6_18 rfl dX6_settle_66 (p11.at (p7.at h4 :) :) ?_
          refine jr_ild1 (pc := 69) hX dX6_settle_69 ?_
          refine jr_iaC (pc := 70) hX dX6_settle_70 (fun a17 n17 e17 h17 => ?_)
          refine jr_cS1i (pc := 71) hX lX6_69 (c_J6_bitCount_0f7a4 hX.F σ11 _) (jd_dd hD rfl) (by simp [jd_v_cat, jd_cti, jd_ctl]) dX6_settle_71 (fun r18 σ18 p18 => ?_)
          refine jr_ck2 (fun a19 e19 h19 => ?_)
          refine jr_cV2i (pc := 74) hX lX6_75 (c_X10_sinkMinute hX.F σ18 a19 h19 _ _) (jd_dd hD rfl) (by simp [jd_v_cat, jd_cti, jd_ctl]) dX6_settle_74 h19 (fun r20 σ20 p20 => ?_)
          exact jj16 r20 _
        · refine jr_bipush (pc := 55) hX (-2) rfl dX6_settle_55 ?_
          refine jr_goto (pc := 57) hX 77 dX6_settle_57 (by decide) ?_
          exact jj16 (-2) _
def m_X6_begin (t : Nat) (o0p : (Option Nat)) (σ : jd_Hp) : Option (Unit × jd_Hp) :=
jd_li (jd_pr σ t 5 o0p) fun τ1 =>
jd_o τ1 (4, 4) (τ1.2.2.2 t 0) fun a2 =>
jd_b (m_X4_begin a2 o0p τ1) fun r3 σ3 =>
jd_b (m_X6_settle t σ3) fun r4 σ4 =>
some ((), σ4)
set_option maxHeartbeats 4000000 in
set_option maxRecDepth 20000 in
theorem c_X6_begin {l : Launch} {s0 : State} {G : jd_G} (hF : jd_F s0 G) (σ : jd_Hp) (t : Nat) (ht : σ.1[t]? = some (6, 8)) (o0p : (Option Nat)) : jd_M l s0 G yX6_begin cX6_begin 2 none 4 je_v [jd_v G (some t), jd_v G o0p] σ (m_X6_begin t o0p σ) := by
  refine jd_enter hF (by decide) (fun G => [some (jd_v G (some t)), some (jd_v G o0p)]) rfl (by simp [lv_args, jd_al, jd_v_cat, jd_cti, jd_ctl]) (by simp [lg_sl, jd_v_cat, jd_cti, jd_ctl]) (fun X hD hX => ?_)
  have hX : jd_C X RX6 "begin" cX6_begin 2 none := hX
  unfold m_X6_begin
  refine jr_ald0 (pc := 0) hX dX6_begin_0 ?_
  refine jr_ald1 (pc := 1) hX dX6_begin_1 ?_
  refine jr_putr (pc := 2) hX fX6_34 rfl dX6_begin_2 ht ?_
  refine jr_li ?_
  refine jr_ald0 (pc := 5) hX dX6_begin_5 ?_
  refine jr_getr (pc := 6) hX fX6_12 rfl dX6_begin_6 ht ?_
  refine jr_ald1 (pc := 9) hX dX6_begin_9 ?_
  refine jr_ck1 (fun a2 e2 h2 => ?_)
  refine jr_cV1v (pc := 10) hX lX6_45 (c_X4_begin hX.F (jd_pr σ t 5 o0p) a2 h2 _) (jd_dd hD rfl) (Nat.le_of_ble_eq_true rfl) dX6_begin_10 h2 (fun r3 σ3 p3 => ?_)
  refine jr_ald0 (pc := 13) hX dX6_begin_13 ?_
  refine jr_cV0v (pc := 14) hX lX6_49 (c_X6_settle hX.F σ3 t (p3.at ht :)) (jd_dd hD rfl) (Nat.le_of_ble_eq_true rfl) dX6_begin_14 (p3.at ht :) (fun r4 σ4 p4 => ?_)
  exact jr_vret (pc := 17) hX dX6_begin_17 rfl
def m_X6_isUnder (t : Nat) (x0p : Int32) (x1p : Int32) (σ : jd_Hp) : Option (Int32 × jd_Hp) :=
jd_b (m_X6_sinks t x0p σ) fun r1 σ1 =>
jd_if (r1 = 0) (
some (0, σ1)) (
jd_ia σ1 20 (σ1.2.2.2 t 2) x0p fun a2 j2 =>
jd_if (x1p < (σ1.2.1 a2 j2)) (
some (0, σ1)) (
jd_ia σ1 20 (σ1.2.2.2 t 2) x0p fun a3 j3 =>
jd_o σ1 (10, 16) (σ1.2.2.2 t 5) fun a4 =>
jd_if (((σ1.2.1 a3 j3) + (σ1.2.1 a4 8)) ≤ x1p) (
some (0, σ1)) (
some (1, σ1))))
set_option maxHeartbeats 4000000 in
set_option maxRecDepth 20000 in
theorem c_X6_isUnder {l : Launch} {s0 : State} {G : jd_G} (hF : jd_F s0 G) (σ : jd_Hp) (t : Nat) (ht : σ.1[t]? = some (6, 8)) (x0p : Int32) (x1p : Int32) : jd_M l s0 G yX6_isUnder cX6_isUnder 3 (some .boolean) 2 je_i [jd_v G (some t), .int x0p, .int x1p] σ (m_X6_isUnder t x0p x1p σ) := by
  refine jd_enter hF (by decide) (fun G => [some (jd_v G (some t)), some (.int x0p), some (.int x1p)]) rfl (by simp [lv_args, jd_al, jd_v_cat, jd_cti, jd_ctl]) (by simp [lg_sl, jd_v_cat, jd_cti, jd_ctl]) (fun X hD hX => ?_)
  have hX : jd_C X RX6 "isUnder" cX6_isUnder 3 (some .boolean) := hX
  unfold m_X6_isUnder
  refine jr_ald0 (pc := 0) hX dX6_isUnder_0 ?_
  refine jr_ild1 (pc := 1) hX dX6_isUnder_1 ?_
  refine jr_cV1i (pc := 2) hX lX6_130 (c_X6_sinks hX.F σ t ht _) (jd_dd hD rfl) (Nat.le_of_ble_eq_true rfl) dX6_isUnder_2 ht (fun r1 σ1 p1 => ?_)
  refine jr_ifeq (pc := 5) hX 40 dX6_isUnder_5 (by decide) ?_ ?_
  · refine jr_iconst (pc := 40) hX 0 rfl dX6_isUnder_40 ?_
    exact jr_zret (pc := 41) hX dX6_isUnder_41 (Or.inl rfl) rfl
  · refine jr_ild2 (pc := 8) hX dX6_isUnder_8 ?_
    refine jr_ald0 (pc := 9) hX dX6_isUnder_9 ?_
    refine jr_getr (pc := 10) hX fX6_22 rfl dX6_isUnder_10 (p1.at ht :) ?_
    refine jr_ild1 (pc := 13) hX dX6_isUnder_13 ?_
    refine jr_iaC (pc := 14) hX dX6_isUnder_14 (fun a2 n2 e2 h2 => ?_)
    refine jr_iclt (pc := 15) hX 40 dX6_isUnder_15 (by decide) ?_ ?_
    · refine jr_iconst (pc := 40) hX 0 rfl dX6_isUnder_40 ?_
      exact jr_zret (pc := 41) hX dX6_isUnder_41 (Or.inl rfl) rfl
    · refine jr_ild2 (pc := 18) hX dX6_isUnder_18 ?_
      refine jr_ald0 (pc := 19) hX dX6_isUnder_19 ?_
      refine jr_getr (pc := 20) hX fX6_22 rfl dX6_isUnder_20 (p1.at ht :) ?_
      refine jr_ild1 (pc := 23) hX dX6_isUnder_23 ?_
      refine jr_iaC (pc := 24) hX dX6_isUnder_24 (fun a3 n3 e3 h3 => ?_)
      refine jr_ald0 (pc := 25) hX dX6_isUnder_25 ?_
      refine jr_getr (pc := 26) hX fX6_34 rfl dX6_isUnder_26 (p1.at ht :) ?_
      refine jr_ck0 (fun a4 e4 h4 => ?_)
      refine jr_geti (pc := 29) hX fX6_97 rfl dX6_isUnder_29 h4 ?_
      refine jr_iadd (pc := 32) hX dX6_isUnder_32 ?_
      refine jr_icge (pc := 33) hX 40 dX6_isUnder_33 (by decide) ?_ ?_
      · refine jr_iconst (pc := 40) hX 0 rfl dX6_isUnder_40 ?_
        exact jr_zret (pc := 41) hX dX6_isUnder_41 (Or.inl rfl) rfl
      · refine jr_iconst (pc := 36) hX 1 rfl dX6_isUnder_36 ?_
        refine jr_goto (pc := 37) hX 41 dX6_isUnder_37 (by decide) ?_
        exact jr_zret (pc := 41) hX dX6_isUnder_41 (Or.inr rfl) rfl
def m_X6_isLost (t : Nat) (x0p : Int32) (x1p : Int32) (σ : jd_Hp) : Option (Int32 × jd_Hp) :=
jd_b (m_X6_sinks t x0p σ) fun r1 σ1 =>
jd_if (r1 = 0) (
some (0, σ1)) (
jd_ia σ1 20 (σ1.2.2.2 t 2) x0p fun a2 j2 =>
jd_o σ1 (10, 16) (σ1.2.2.2 t 5) fun a3 =>
jd_if (x1p < ((σ1.2.1 a2 j2) + (σ1.2.1 a3 8))) (
some (0, σ1)) (
some (1, σ1)))
set_option maxHeartbeats 4000000 in
set_option maxRecDepth 20000 in
theorem c_X6_isLost {l : Launch} {s0 : State} {G : jd_G} (hF : jd_F s0 G) (σ : jd_Hp) (t : Nat) (ht : σ.1[t]? = some (6, 8)) (x0p : Int32) (x1p : Int32) : jd_M l s0 G yX6_isLost cX6_isLost 3 (some .boolean) 2 je_i [jd_v G (some t), .int x0p, .int x1p] σ (m_X6_isLost t x0p x1p σ) := by
  refine jd_enter hF (by decide) (fun G => [some (jd_v G (some t)), some (.int x0p), some (.int x1p)]) rfl (by simp [lv_args, jd_al, jd_v_cat, jd_cti, jd_ctl]) (by simp [lg_sl, jd_v_cat, jd_cti, jd_ctl]) (fun X hD hX => ?_)
  have hX : jd_C X RX6 "isLost" cX6_isLost 3 (some .boolean) := hX
  unfold m_X6_isLost
  refine jr_ald0 (pc := 0) hX dX6_isLost_0 ?_
  refine jr_ild1 (pc := 1) hX dX6_isLost_1 ?_
  refine jr_cV1i (pc := 2) hX lX6_130 (c_X6_sinks hX.F σ t ht _) (jd_dd hD rfl) (Nat.le_of_ble_eq_true rfl) dX6_isLost_2 ht (fun r1 σ1 p1 => ?_)
  refine jr_ifeq (pc := 5) hX 30 dX6_isLost_5 (by decide) ?_ ?_
  · refine jr_iconst (pc := 30) hX 0 rfl dX6_isLost_30 ?_
    exact jr_zret (pc := 31) hX dX6_isLost_31 (Or.inl rfl) rfl
  · refine jr_ild2 (pc := 8) hX dX6_isLost_8 ?_
    refine jr_ald0 (pc := 9) hX dX6_isLost_9 ?_
    refine jr_getr (pc := 10) hX fX6_22 rfl dX6_isLost_10 (p1.at ht :) ?_
    refine jr_ild1 (pc := 13) hX dX6_isLost_13 ?_
    refine jr_iaC (pc := 14) hX dX6_isLost_14 (fun a2 n2 e2 h2 => ?_)
    refine jr_ald0 (pc := 15) hX dX6_isLost_15 ?_
    refine jr_getr (pc := 16) hX fX6_34 rfl dX6_isLost_16 (p1.at ht :) ?_
    refine jr_ck0 (fun a3 e3 h3 => ?_)
    refine jr_geti (pc := 19) hX fX6_97 rfl dX6_isLost_19 h3 ?_
    refine jr_iadd (pc := 22) hX dX6_isLost_22 ?_
    refine jr_iclt (pc := 23) hX 30 dX6_isLost_23 (by decide) ?_ ?_
    · refine jr_iconst (pc := 30) hX 0 rfl dX6_isLost_30 ?_
      exact jr_zret (pc := 31) hX dX6_isLost_31 (Or.inl rfl) rfl
    · refine jr_iconst (pc := 26) hX 1 rfl dX6_isLost_26 ?_
      refine jr_goto (pc := 27) hX 31 dX6_isLost_27 (by decide) ?_
      exact jr_zret (pc := 31) hX dX6_isLost_31 (Or.inr rfl) rfl
def m_X6_ofPerson (t : Nat) (x0p : Int32) (x1p : Int32) (σ : jd_Hp) : Option (Int32 × jd_Hp) :=
jd_sw x1p 0 [
jd_o σ (10, 16) (σ.2.2.2 t 5) fun a1 =>
jd_ia σ 20 (σ.2.2.2 a1 0) x0p fun a2 j2 =>
some ((σ.2.1 a2 j2), σ),
jd_o σ (4, 4) (σ.2.2.2 t 0) fun a3 =>
jd_ia σ 20 (σ.2.2.2 a3 0) x0p fun a4 j4 =>
some ((σ.2.1 a4 j4), σ),
jd_o σ (10, 16) (σ.2.2.2 t 5) fun a5 =>
jd_ia σ 20 (σ.2.2.2 a5 2) x0p fun a6 j6 =>
some ((σ.2.1 a6 j6), σ),
jd_o σ (10, 16) (σ.2.2.2 t 5) fun a7 =>
jd_ia σ 20 (σ.2.2.2 a7 3) x0p fun a8 j8 =>
some ((σ.2.1 a8 j8), σ),
jd_ia σ 20 (σ.2.2.2 t 2) x0p fun a9 j9 =>
some ((σ.2.1 a9 j9), σ),
jd_ia σ 20 (σ.2.2.2 t 1) x0p fun a10 j10 =>
some ((σ.2.1 a10 j10), σ),
jd_o σ (4, 4) (σ.2.2.2 t 0) fun a11 =>
jd_b (m_X11_has (σ.2.1 a11 2) x0p σ) fun r12 σ12 =>
jd_if (r12 = 0) (
some (0, σ12)) (
some (1, σ12)),
jd_o σ (4, 4) (σ.2.2.2 t 0) fun a13 =>
jd_b (m_X6_isUnder t x0p (σ.2.1 a13 3) σ) fun r14 σ14 =>
jd_if (r14 = 0) (
jd_o σ14 (4, 4) (σ14.2.2.2 t 0) fun a15 =>
jd_b (m_X6_isLost t x0p (σ14.2.1 a15 3) σ14) fun r16 σ16 =>
jd_if (r16 = 0) (
some (0, σ16)) (
some (2, σ16))) (
some (1, σ14))] (
jd_o σ (10, 16) (σ.2.2.2 t 5) fun a17 =>
jd_ia σ 20 (σ.2.2.2 a17 4) x0p fun a18 j18 =>
some ((σ.2.1 a18 j18), σ))
set_option maxHeartbeats 4000000 in
set_option maxRecDepth 20000 in
theorem c_X6_ofPerson {l : Launch} {s0 : State} {G : jd_G} (hF : jd_F s0 G) (σ : jd_Hp) (t : Nat) (ht : σ.1[t]? = some (6, 8)) (x0p : Int32) (x1p : Int32) : jd_M l s0 G yX6_ofPerson cX6_ofPerson 3 (some .int) 3 je_i [jd_v G (some t), .int x0p, .int x1p] σ (m_X6_ofPerson t x0p x1p σ) := by
  refine jd_enter hF (by decide) (fun G => [some (jd_v G (some t)), some (.int x0p), some (.int x1p)]) rfl (by simp [lv_args, jd_al, jd_v_cat, jd_cti, jd_ctl]) (by simp [lg_sl, jd_v_cat, jd_cti, jd_ctl]) (fun X hD hX => ?_)
  have hX : jd_C X RX6 "ofPerson" cX6_ofPerson 3 (some .int) := hX
  unfold m_X6_ofPerson
  refine jr_ild2 (pc := 0) hX dX6_ofPerson_0 ?_
  refine jr_tsw (pc := 1) hX [48, 58, 68, 78, 88, 95, 102, 122] 162 dX6_ofPerson_1 (by decide) rfl (by decide) rfl (fun i t A h1 h2 => ?_) ?_
  · match i, h1, h2 with
    | 0, h1, h2 =>
      cases h1
      cases h2
      refine jr_ald0 (pc := 48) hX dX6_ofPerson_48 ?_
      refine jr_getr (pc := 49) hX fX6_34 rfl dX6_ofPerson_49 ht ?_
      refine jr_ck0 (fun a1 e1 h1 => ?_)
      refine jr_getr (pc := 52) hX fX6_100 rfl dX6_ofPerson_52 h1 ?_
      refine jr_ild1 (pc := 55) hX dX6_ofPerson_55 ?_
      refine jr_iaC (pc := 56) hX dX6_ofPerson_56 (fun a2 n2 e2 h2 => ?_)
      exact jr_iret (pc := 57) hX dX6_ofPerson_57 rfl
    | 1, h1, h2 =>
      cases h1
      cases h2
      refine jr_ald0 (pc := 58) hX dX6_ofPerson_58 ?_
      refine jr_getr (pc := 59) hX fX6_12 rfl dX6_ofPerson_59 ht ?_
      refine jr_ck0 (fun a3 e3 h3 => ?_)
      refine jr_getr (pc := 62) hX fX6_55 rfl dX6_ofPerson_62 h3 ?_
      refine jr_ild1 (pc := 65) hX dX6_ofPerson_65 ?_
      refine jr_iaC (pc := 66) hX dX6_ofPerson_66 (fun a4 n4 e4 h4 => ?_)
      exact jr_iret (pc := 67) hX dX6_ofPerson_67 rfl
    | 2, h1, h2 =>
      cases h1
      cases h2
      refine jr_ald0 (pc := 68) hX dX6_ofPerson_68 ?_
      refine jr_getr (pc := 69) hX fX6_34 rfl dX6_ofPerson_69 ht ?_
      refine jr_ck0 (fun a5 e5 h5 => ?_)
      refine jr_getr (pc := 72) hX fX6_103 rfl dX6_ofPerson_72 h5 ?_
      refine jr_ild1 (pc := 75) hX dX6_ofPerson_75 ?_
      refine jr_iaC (pc := 76) hX dX6_ofPerson_76 (fun a6 n6 e6 h6 => ?_)
      exact jr_iret (pc := 77) hX dX6_ofPerson_77 rfl
    | 3, h1, h2 =>
      cases h1
      cases h2
      refine jr_ald0 (pc := 78) hX dX6_ofPerson_78 ?_
      refine jr_getr (pc := 79) hX fX6_34 rfl dX6_ofPerson_79 ht ?_
      refine jr_ck0 (fun a7 e7 h7 => ?_)
      refine jr_getr (pc := 82) hX fX6_106 rfl dX6_ofPerson_82 h7 ?_
      refine jr_ild1 (pc := 85) hX dX6_ofPerson_85 ?_
      refine jr_iaC (pc := 86) hX dX6_ofPerson_86 (fun a8 n8 e8 h8 => ?_)
      exact jr_iret (pc := 87) hX dX6_ofPerson_87 rfl
    | 4, h1, h2 =>
      cases h1
      cases h2
      refine jr_ald0 (pc := 88) hX dX6_ofPerson_88 ?_
      refine jr_getr (pc := 89) hX fX6_22 rfl dX6_ofPerson_89 ht ?_
      refine jr_ild1 (pc := 92) hX dX6_ofPerson_92 ?_
      refine jr_iaC (pc := 93) hX dX6_ofPerson_93 (fun a9 n9 e9 h9 => ?_)
      exact jr_iret (pc := 94) hX dX6_ofPerson_94 rfl
    | 5, h1, h2 =>
      cases h1
      cases h2
      refine jr_ald0 (pc := 95) hX dX6_ofPerson_95 ?_
      refine jr_getr (pc := 96) hX fX6_18 rfl dX6_ofPerson_96 ht ?_
      refine jr_ild1 (pc := 99) hX dX6_ofPerson_99 ?_
      refine jr_iaC (pc := 100) hX dX6_ofPerson_100 (fun a10 n10 e10 h10 => ?_)
      exact jr_iret (pc := 101) hX dX6_ofPerson_101 rfl
    | 6, h1, h2 =>
      cases h1
      cases h2
      refine jr_ald0 (pc := 102) hX dX6_ofPerson_102 ?_
      refine jr_getr (pc := 103) hX fX6_12 rfl dX6_ofPerson_103 ht ?_
      refine jr_ck0 (fun a11 e11 h11 => ?_)
      refine jr_geti (pc := 106) hX fX6_62 rfl dX6_ofPerson_106 h11 ?_
      refine jr_ild1 (pc := 109) hX dX6_ofPerson_109 ?_
      refine jr_cS2i (pc := 110) hX lX6_65 (c_X11_has hX.F σ _ _) (jd_dd hD rfl) (Nat.le_of_ble_eq_true rfl) dX6_ofPerson_110 (fun r12 σ12 p12 => ?_)
      refine jr_ifeq (pc := 113) hX 120 dX6_ofPerson_113 (by decide) ?_ ?_
      · refine jr_iconst (pc := 120) hX 0 rfl dX6_ofPerson_120 ?_
        exact jr_iret (pc := 121) hX dX6_ofPerson_121 rfl
      · refine jr_iconst (pc := 116) hX 1 rfl dX6_ofPerson_116 ?_
        refine jr_goto (pc := 117) hX 121 dX6_ofPerson_117 (by decide) ?_
        exact jr_iret (pc := 121) hX dX6_ofPerson_121 rfl
    | 7, h1, h2 =>
      cases h1
      cases h2
      refine jr_ald0 (pc := 122) hX dX6_ofPerson_122 ?_
      refine jr_ild1 (pc := 123) hX dX6_ofPerson_123 ?_
      refine jr_ald0 (pc := 124) hX dX6_ofPerson_124 ?_
      refine jr_getr (pc := 125) hX fX6_12 rfl dX6_ofPerson_125 ht ?_
      refine jr_ck0 (fun a13 e13 h13 => ?_)
      refine jr_geti (pc := 128) hX fX6_109 rfl dX6_ofPerson_128 h13 ?_
      refine jr_cV2i (pc := 131) hX lX6_112 (c_X6_isUnder hX.F σ t ht _ _) (jd_dd hD rfl) (Nat.le_of_ble_eq_true rfl) dX6_ofPerson_131 ht (fun r14 σ14 p14 => ?_)
      refine jr_ifeq (pc := 134) hX 141 dX6_ofPerson_134 (by decide) ?_ ?_
      · refine jr_ald0 (pc := 141) hX dX6_ofPerson_141 ?_
        refine jr_ild1 (pc := 142) hX dX6_ofPerson_142 ?_
        refine jr_ald0 (pc := 143) hX dX6_ofPerson_143 ?_
        refine jr_getr (pc := 144) hX fX6_12 rfl dX6_ofPerson_144 (p14.at ht :) ?_
        refine jr_ck0 (fun a15 e15 h15 => ?_)
        refine jr_geti (pc := 147) hX fX6_109 rfl dX6_ofPerson_147 h15 ?_
        refine jr_cV2i (pc := 150) hX lX6_115 (c_X6_isLost hX.F σ14 t (p14.at ht :) _ _) (jd_dd hD rfl) (Nat.le_of_ble_eq_true rfl) dX6_ofPerson_150 (p14.at ht :) (fun r16 σ16 p16 => ?_)
        refine jr_ifeq (pc := 153) hX 160 dX6_ofPerson_153 (by decide) ?_ ?_
        · refine jr_iconst (pc := 160) hX 0 rfl dX6_ofPerson_160 ?_
          exact jr_iret (pc := 161) hX dX6_ofPerson_161 rfl
        · refine jr_iconst (pc := 156) hX 2 rfl dX6_ofPerson_156 ?_
          refine jr_goto (pc := 157) hX 161 dX6_ofPerson_157 (by decide) ?_
          exact jr_iret (pc := 161) hX dX6_ofPerson_161 rfl
      · refine jr_iconst (pc := 137) hX 1 rfl dX6_ofPerson_137 ?_
        refine jr_goto (pc := 138) hX 161 dX6_ofPerson_138 (by decide) ?_
        exact jr_iret (pc := 161) hX dX6_ofPerson_161 rfl
    | i + 8, h1, h2 => simp at h1
  · refine jr_ald0 (pc := 162) hX dX6_ofPerson_162 ?_
    refine jr_getr (pc := 163) hX fX6_34 rfl dX6_ofPerson_163 ht ?_
    refine jr_ck0 (fun a17 e17 h17 => ?_)
    refine jr_getr (pc := 166) hX fX6_118 rfl dX6_ofPerson_166 h17 ?_
    refine jr_ild1 (pc := 169) hX dX6_ofPerson_169 ?_
    refine jr_iaC (pc := 170) hX dX6_ofPerson_170 (fun a18 n18 e18 h18 => ?_)
    exact jr_iret (pc := 171) hX dX6_ofPerson_171 rfl
