theorem qX6_nearestManned : Cond.instanceMethod yX6_nearestManned ∈ jd_TB ∧ Cond.selects RX6 yX6_nearestManned yX6_nearestManned ∈ jd_TB ∧ Cond.initialized RX6 ∈ jd_TB ∧ Cond.code yX6_nearestManned cX6_nearestManned 5 (some .int) ∈ jd_TB ∧ jd_ds yX6_nearestManned 1 := ⟨jd_mem 858 (by decide +kernel) (by decide +kernel), jd_mem 859 (by decide +kernel) (by decide +kernel), jd_mem 95 (by decide +kernel) (by decide +kernel), jd_mem 860 (by decide +kernel) (by decide +kernel), ⟨by decide, by decide, by decide +kernel⟩⟩
theorem lX6_139 : jd_mv RX6 139 6 8 yX6_nearestManned cX6_nearestManned 5 (some .int) 1 := ⟨_, _, rfl, by decide, rfl, Or.inl (jd_mem 905 (by decide +kernel) (by decide +kernel)), qX6_nearestManned.1, qX6_nearestManned.2.1, qX6_nearestManned.2.2.1, qX6_nearestManned.2.2.2.1, qX6_nearestManned.2.2.2.2, by decide⟩
theorem lX6_142 : jd_ms RX6 142 Lib.Math.max.name Lib.Math.max.code 2 := ⟨jd_mem 906 (by decide +kernel) (by decide +kernel), jd_mem 731 (by decide +kernel) (by decide +kernel), jd_mem 105 (by decide +kernel) (by decide +kernel), jd_mem 732 (by decide +kernel) (by decide +kernel)⟩
theorem qX6_sinkersOnTrial : Cond.instanceMethod yX6_sinkersOnTrial ∈ jd_TB ∧ Cond.selects RX6 yX6_sinkersOnTrial yX6_sinkersOnTrial ∈ jd_TB ∧ Cond.initialized RX6 ∈ jd_TB ∧ Cond.code yX6_sinkersOnTrial cX6_sinkersOnTrial 3 (some .int) ∈ jd_TB ∧ jd_ds yX6_sinkersOnTrial 0 := ⟨jd_mem 974 (by decide +kernel) (by decide +kernel), jd_mem 27 (by decide +kernel) (by decide +kernel), jd_mem 95 (by decide +kernel) (by decide +kernel), jd_mem 975 (by decide +kernel) (by decide +kernel), ⟨by decide, by decide, by decide +kernel⟩⟩
theorem lX6_145 : jd_mv RX6 145 6 8 yX6_sinkersOnTrial cX6_sinkersOnTrial 3 (some .int) 0 := ⟨_, _, rfl, by decide, rfl, Or.inl (jd_mem 972 (by decide +kernel) (by decide +kernel)), qX6_sinkersOnTrial.1, qX6_sinkersOnTrial.2.1, qX6_sinkersOnTrial.2.2.1, qX6_sinkersOnTrial.2.2.2.1, qX6_sinkersOnTrial.2.2.2.2, by decide⟩
theorem lX7_3 : jd_oi RX7 3 := ⟨jd_mem 441 (by decide +kernel) (by decide +kernel), jd_mem 122 (by decide +kernel) (by decide +kernel), jd_mem 123 (by decide +kernel) (by decide +kernel)⟩
theorem fX7_9 : jd_fl RX7 9 7 0 3 true := ⟨_, _, rfl, by decide, by decide, rfl, rfl, jd_mem 442 (by decide +kernel) (by decide +kernel)⟩
theorem fX7_15 : jd_fl RX7 15 7 1 3 false := ⟨_, _, rfl, by decide, by decide, rfl, rfl, jd_mem 444 (by decide +kernel) (by decide +kernel)⟩
theorem fX7_19 : jd_fl RX7 19 7 2 3 false := ⟨_, _, rfl, by decide, by decide, rfl, rfl, jd_mem 445 (by decide +kernel) (by decide +kernel)⟩
theorem fX7_23 : jd_fl RX7 23 10 11 16 false := ⟨_, _, rfl, by decide, by decide, rfl, rfl, jd_mem 275 (by decide +kernel) (by decide +kernel)⟩
theorem fX7_30 : jd_fl RX7 30 10 5 16 true := ⟨_, _, rfl, by decide, by decide, rfl, rfl, jd_mem 257 (by decide +kernel) (by decide +kernel)⟩
theorem fX7_34 : jd_fl RX7 34 10 10 16 false := ⟨_, _, rfl, by decide, by decide, rfl, rfl, jd_mem 272 (by decide +kernel) (by decide +kernel)⟩
theorem dX6_coveringSets_0 : decode cX6_coveringSets 0 = .ok (.iconst 0, 1) := by decide +kernel
theorem dX6_coveringSets_1 : decode cX6_coveringSets 1 = .ok (.istore_n 1, 1) := by decide +kernel
theorem dX6_coveringSets_2 : decode cX6_coveringSets 2 = .ok (.iconst 0, 1) := by decide +kernel
theorem dX6_coveringSets_3 : decode cX6_coveringSets 3 = .ok (.istore_n 2, 1) := by decide +kernel
theorem dX6_coveringSets_4 : decode cX6_coveringSets 4 = .ok (.iload_n 2, 1) := by decide +kernel
theorem dX6_coveringSets_5 : decode cX6_coveringSets 5 = .ok (.iconst 1, 1) := by decide +kernel
theorem dX6_coveringSets_6 : decode cX6_coveringSets 6 = .ok (.aload_n 0, 1) := by decide +kernel
theorem dX6_coveringSets_7 : decode cX6_coveringSets 7 = .ok (.getfield 34, 3) := by decide +kernel
theorem dX6_coveringSets_10 : decode cX6_coveringSets 10 = .ok (.getfield 79, 3) := by decide +kernel
theorem dX6_coveringSets_13 : decode cX6_coveringSets 13 = .ok (.ishl, 1) := by decide +kernel
theorem dX6_coveringSets_14 : decode cX6_coveringSets 14 = .ok (.if_icmp .ge 20, 3) := by decide +kernel
theorem dX6_coveringSets_17 : decode cX6_coveringSets 17 = .ok (.aload_n 0, 1) := by decide +kernel
theorem dX6_coveringSets_18 : decode cX6_coveringSets 18 = .ok (.iload_n 2, 1) := by decide +kernel
theorem dX6_coveringSets_19 : decode cX6_coveringSets 19 = .ok (.invokevirtual 136, 3) := by decide +kernel
theorem dX6_coveringSets_22 : decode cX6_coveringSets 22 = .ok (.ifCond .eq 6, 3) := by decide +kernel
theorem dX6_coveringSets_25 : decode cX6_coveringSets 25 = .ok (.iinc 1 1, 3) := by decide +kernel
theorem dX6_coveringSets_28 : decode cX6_coveringSets 28 = .ok (.iinc 2 1, 3) := by decide +kernel
theorem dX6_coveringSets_31 : decode cX6_coveringSets 31 = .ok (.goto (-27), 3) := by decide +kernel
theorem dX6_coveringSets_34 : decode cX6_coveringSets 34 = .ok (.iload_n 1, 1) := by decide +kernel
theorem dX6_coveringSets_35 : decode cX6_coveringSets 35 = .ok (.ireturn, 1) := by decide +kernel
theorem dX6_postOfMostMore_0 : decode cX6_postOfMostMore 0 = .ok (.bipush (-2), 2) := by decide +kernel
theorem dX6_postOfMostMore_2 : decode cX6_postOfMostMore 2 = .ok (.istore_n 1, 1) := by decide +kernel
theorem dX6_postOfMostMore_3 : decode cX6_postOfMostMore 3 = .ok (.iconst 0, 1) := by decide +kernel
theorem dX6_postOfMostMore_4 : decode cX6_postOfMostMore 4 = .ok (.istore_n 2, 1) := by decide +kernel
theorem dX6_postOfMostMore_5 : decode cX6_postOfMostMore 5 = .ok (.iconst 0, 1) := by decide +kernel
theorem dX6_postOfMostMore_6 : decode cX6_postOfMostMore 6 = .ok (.istore_n 3, 1) := by decide +kernel
theorem dX6_postOfMostMore_7 : decode cX6_postOfMostMore 7 = .ok (.iload_n 3, 1) := by decide +kernel
theorem dX6_postOfMostMore_8 : decode cX6_postOfMostMore 8 = .ok (.aload_n 0, 1) := by decide +kernel
theorem dX6_postOfMostMore_9 : decode cX6_postOfMostMore 9 = .ok (.getfield 34, 3) := by decide +kernel
theorem dX6_postOfMostMore_12 : decode cX6_postOfMostMore 12 = .ok (.getfield 79, 3) := by decide +kernel
theorem dX6_postOfMostMore_15 : decode cX6_postOfMostMore 15 = .ok (.if_icmp .ge 43, 3) := by decide +kernel
theorem dX6_postOfMostMore_18 : decode cX6_postOfMostMore 18 = .ok (.aload_n 0, 1) := by decide +kernel
theorem dX6_postOfMostMore_19 : decode cX6_postOfMostMore 19 = .ok (.getfield 38, 3) := by decide +kernel
theorem dX6_postOfMostMore_22 : decode cX6_postOfMostMore 22 = .ok (.aload_n 0, 1) := by decide +kernel
theorem dX6_postOfMostMore_23 : decode cX6_postOfMostMore 23 = .ok (.getfield 25, 3) := by decide +kernel
theorem dX6_postOfMostMore_26 : decode cX6_postOfMostMore 26 = .ok (.iload_n 3, 1) := by decide +kernel
theorem dX6_postOfMostMore_27 : decode cX6_postOfMostMore 27 = .ok (.iaload, 1) := by decide +kernel
theorem dX6_postOfMostMore_28 : decode cX6_postOfMostMore 28 = .ok (.iand, 1) := by decide +kernel
theorem dX6_postOfMostMore_29 : decode cX6_postOfMostMore 29 = .ok (.aload_n 0, 1) := by decide +kernel
theorem dX6_postOfMostMore_30 : decode cX6_postOfMostMore 30 = .ok (.getfield 42, 3) := by decide +kernel
theorem dX6_postOfMostMore_33 : decode cX6_postOfMostMore 33 = .ok (.iconst (-1), 1) := by decide +kernel
theorem dX6_postOfMostMore_34 : decode cX6_postOfMostMore 34 = .ok (.ixor, 1) := by decide +kernel
theorem dX6_postOfMostMore_35 : decode cX6_postOfMostMore 35 = .ok (.iand, 1) := by decide +kernel
theorem dX6_postOfMostMore_36 : decode cX6_postOfMostMore 36 = .ok (.invokestatic 69, 3) := by decide +kernel
theorem dX6_postOfMostMore_39 : decode cX6_postOfMostMore 39 = .ok (.istore 4, 2) := by decide +kernel
theorem dX6_postOfMostMore_41 : decode cX6_postOfMostMore 41 = .ok (.iload 4, 2) := by decide +kernel
theorem dX6_postOfMostMore_43 : decode cX6_postOfMostMore 43 = .ok (.iload_n 2, 1) := by decide +kernel
theorem dX6_postOfMostMore_44 : decode cX6_postOfMostMore 44 = .ok (.if_icmp .le 8, 3) := by decide +kernel
theorem dX6_postOfMostMore_47 : decode cX6_postOfMostMore 47 = .ok (.iload 4, 2) := by decide +kernel
theorem dX6_postOfMostMore_49 : decode cX6_postOfMostMore 49 = .ok (.istore_n 2, 1) := by decide +kernel
theorem dX6_postOfMostMore_50 : decode cX6_postOfMostMore 50 = .ok (.iload_n 3, 1) := by decide +kernel
theorem dX6_postOfMostMore_51 : decode cX6_postOfMostMore 51 = .ok (.istore_n 1, 1) := by decide +kernel
theorem dX6_postOfMostMore_52 : decode cX6_postOfMostMore 52 = .ok (.iinc 3 1, 3) := by decide +kernel
theorem dX6_postOfMostMore_55 : decode cX6_postOfMostMore 55 = .ok (.goto (-48), 3) := by decide +kernel
theorem dX6_postOfMostMore_58 : decode cX6_postOfMostMore 58 = .ok (.iload_n 1, 1) := by decide +kernel
theorem dX6_postOfMostMore_59 : decode cX6_postOfMostMore 59 = .ok (.ireturn, 1) := by decide +kernel
theorem dX6_placeOfMostReached_0 : decode cX6_placeOfMostReached 0 = .ok (.iconst 0, 1) := by decide +kernel
theorem dX6_placeOfMostReached_1 : decode cX6_placeOfMostReached 1 = .ok (.istore_n 2, 1) := by decide +kernel
theorem dX6_placeOfMostReached_2 : decode cX6_placeOfMostReached 2 = .ok (.iconst 0, 1) := by decide +kernel
theorem dX6_placeOfMostReached_3 : decode cX6_placeOfMostReached 3 = .ok (.istore_n 3, 1) := by decide +kernel
theorem dX6_placeOfMostReached_4 : decode cX6_placeOfMostReached 4 = .ok (.iconst 0, 1) := by decide +kernel
theorem dX6_placeOfMostReached_5 : decode cX6_placeOfMostReached 5 = .ok (.istore 4, 2) := by decide +kernel
theorem dX6_placeOfMostReached_7 : decode cX6_placeOfMostReached 7 = .ok (.iload 4, 2) := by decide +kernel
theorem dX6_placeOfMostReached_9 : decode cX6_placeOfMostReached 9 = .ok (.bipush 99, 2) := by decide +kernel
theorem dX6_placeOfMostReached_11 : decode cX6_placeOfMostReached 11 = .ok (.if_icmp .gt 85, 3) := by decide +kernel
theorem dX6_placeOfMostReached_14 : decode cX6_placeOfMostReached 14 = .ok (.iconst 0, 1) := by decide +kernel
theorem dX6_placeOfMostReached_15 : decode cX6_placeOfMostReached 15 = .ok (.istore 5, 2) := by decide +kernel
theorem dX6_placeOfMostReached_17 : decode cX6_placeOfMostReached 17 = .ok (.iconst 0, 1) := by decide +kernel
theorem dX6_placeOfMostReached_18 : decode cX6_placeOfMostReached 18 = .ok (.istore 6, 2) := by decide +kernel
theorem dX6_placeOfMostReached_20 : decode cX6_placeOfMostReached 20 = .ok (.iload 6, 2) := by decide +kernel
theorem dX6_placeOfMostReached_22 : decode cX6_placeOfMostReached 22 = .ok (.aload_n 0, 1) := by decide +kernel
theorem dX6_placeOfMostReached_23 : decode cX6_placeOfMostReached 23 = .ok (.getfield 34, 3) := by decide +kernel
theorem dX6_placeOfMostReached_26 : decode cX6_placeOfMostReached 26 = .ok (.getfield 52, 3) := by decide +kernel
theorem dX6_placeOfMostReached_29 : decode cX6_placeOfMostReached 29 = .ok (.if_icmp .ge 49, 3) := by decide +kernel
theorem dX6_placeOfMostReached_32 : decode cX6_placeOfMostReached 32 = .ok (.aload_n 0, 1) := by decide +kernel
theorem dX6_placeOfMostReached_33 : decode cX6_placeOfMostReached 33 = .ok (.iload 6, 2) := by decide +kernel
theorem dX6_placeOfMostReached_35 : decode cX6_placeOfMostReached 35 = .ok (.invokevirtual 130, 3) := by decide +kernel
theorem dX6_placeOfMostReached_38 : decode cX6_placeOfMostReached 38 = .ok (.ifCond .eq 34, 3) := by decide +kernel
theorem dX6_placeOfMostReached_41 : decode cX6_placeOfMostReached 41 = .ok (.iload 4, 2) := by decide +kernel
theorem dX6_placeOfMostReached_43 : decode cX6_placeOfMostReached 43 = .ok (.aload_n 0, 1) := by decide +kernel
theorem dX6_placeOfMostReached_44 : decode cX6_placeOfMostReached 44 = .ok (.getfield 12, 3) := by decide +kernel
theorem dX6_placeOfMostReached_47 : decode cX6_placeOfMostReached 47 = .ok (.getfield 55, 3) := by decide +kernel
theorem dX6_placeOfMostReached_50 : decode cX6_placeOfMostReached 50 = .ok (.iload 6, 2) := by decide +kernel
theorem dX6_placeOfMostReached_52 : decode cX6_placeOfMostReached 52 = .ok (.iaload, 1) := by decide +kernel
theorem dX6_placeOfMostReached_53 : decode cX6_placeOfMostReached 53 = .ok (.isub, 1) := by decide +kernel
theorem dX6_placeOfMostReached_54 : decode cX6_placeOfMostReached 54 = .ok (.invokestatic 89, 3) := by decide +kernel
theorem dX6_placeOfMostReached_57 : decode cX6_placeOfMostReached 57 = .ok (.iload_n 1, 1) := by decide +kernel
theorem dX6_placeOfMostReached_58 : decode cX6_placeOfMostReached 58 = .ok (.iadd, 1) := by decide +kernel
theorem dX6_placeOfMostReached_59 : decode cX6_placeOfMostReached 59 = .ok (.aload_n 0, 1) := by decide +kernel
theorem dX6_placeOfMostReached_60 : decode cX6_placeOfMostReached 60 = .ok (.getfield 34, 3) := by decide +kernel
theorem dX6_placeOfMostReached_63 : decode cX6_placeOfMostReached 63 = .ok (.getfield 97, 3) := by decide +kernel
theorem dX6_placeOfMostReached_66 : decode cX6_placeOfMostReached 66 = .ok (.if_icmp .gt 6, 3) := by decide +kernel
theorem dX6_placeOfMostReached_69 : decode cX6_placeOfMostReached 69 = .ok (.iinc 5 1, 3) := by decide +kernel
theorem dX6_placeOfMostReached_72 : decode cX6_placeOfMostReached 72 = .ok (.iinc 6 1, 3) := by decide +kernel
theorem dX6_placeOfMostReached_75 : decode cX6_placeOfMostReached 75 = .ok (.goto (-55), 3) := by decide +kernel
theorem dX6_placeOfMostReached_78 : decode cX6_placeOfMostReached 78 = .ok (.iload 5, 2) := by decide +kernel
theorem dX6_placeOfMostReached_80 : decode cX6_placeOfMostReached 80 = .ok (.iload_n 3, 1) := by decide +kernel
theorem dX6_placeOfMostReached_81 : decode cX6_placeOfMostReached 81 = .ok (.if_icmp .le 9, 3) := by decide +kernel
theorem dX6_placeOfMostReached_84 : decode cX6_placeOfMostReached 84 = .ok (.iload 5, 2) := by decide +kernel
theorem dX6_placeOfMostReached_86 : decode cX6_placeOfMostReached 86 = .ok (.istore_n 3, 1) := by decide +kernel
theorem dX6_placeOfMostReached_87 : decode cX6_placeOfMostReached 87 = .ok (.iload 4, 2) := by decide +kernel
theorem dX6_placeOfMostReached_89 : decode cX6_placeOfMostReached 89 = .ok (.istore_n 2, 1) := by decide +kernel
theorem dX6_placeOfMostReached_90 : decode cX6_placeOfMostReached 90 = .ok (.iinc 4 1, 3) := by decide +kernel
theorem dX6_placeOfMostReached_93 : decode cX6_placeOfMostReached 93 = .ok (.goto (-86), 3) := by decide +kernel
theorem dX6_placeOfMostReached_96 : decode cX6_placeOfMostReached 96 = .ok (.iload_n 2, 1) := by decide +kernel
theorem dX6_placeOfMostReached_97 : decode cX6_placeOfMostReached 97 = .ok (.ireturn, 1) := by decide +kernel
theorem dX6_leastLimit_0 : decode cX6_leastLimit 0 = .ok (.iconst 1, 1) := by decide +kernel
theorem dX6_leastLimit_1 : decode cX6_leastLimit 1 = .ok (.istore_n 1, 1) := by decide +kernel
theorem dX6_leastLimit_2 : decode cX6_leastLimit 2 = .ok (.iconst 0, 1) := by decide +kernel
theorem dX6_leastLimit_3 : decode cX6_leastLimit 3 = .ok (.istore_n 2, 1) := by decide +kernel
theorem dX6_leastLimit_4 : decode cX6_leastLimit 4 = .ok (.iload_n 2, 1) := by decide +kernel
theorem dX6_leastLimit_5 : decode cX6_leastLimit 5 = .ok (.aload_n 0, 1) := by decide +kernel
theorem dX6_leastLimit_6 : decode cX6_leastLimit 6 = .ok (.getfield 34, 3) := by decide +kernel
theorem dX6_leastLimit_9 : decode cX6_leastLimit 9 = .ok (.getfield 52, 3) := by decide +kernel
theorem dX6_leastLimit_12 : decode cX6_leastLimit 12 = .ok (.if_icmp .ge 41, 3) := by decide +kernel
theorem dX6_leastLimit_15 : decode cX6_leastLimit 15 = .ok (.aload_n 0, 1) := by decide +kernel
theorem dX6_leastLimit_16 : decode cX6_leastLimit 16 = .ok (.iload_n 2, 1) := by decide +kernel
theorem dX6_leastLimit_17 : decode cX6_leastLimit 17 = .ok (.invokevirtual 139, 3) := by decide +kernel
theorem dX6_leastLimit_20 : decode cX6_leastLimit 20 = .ok (.istore_n 3, 1) := by decide +kernel
theorem dX6_leastLimit_21 : decode cX6_leastLimit 21 = .ok (.iload_n 3, 1) := by decide +kernel
theorem dX6_leastLimit_22 : decode cX6_leastLimit 22 = .ok (.ifCond .ge 6, 3) := by decide +kernel
theorem dX6_leastLimit_25 : decode cX6_leastLimit 25 = .ok (.bipush (-2), 2) := by decide +kernel
theorem dX6_leastLimit_27 : decode cX6_leastLimit 27 = .ok (.ireturn, 1) := by decide +kernel
theorem dX6_leastLimit_28 : decode cX6_leastLimit 28 = .ok (.aload_n 0, 1) := by decide +kernel
theorem dX6_leastLimit_29 : decode cX6_leastLimit 29 = .ok (.iload_n 2, 1) := by decide +kernel
theorem dX6_leastLimit_30 : decode cX6_leastLimit 30 = .ok (.invokevirtual 130, 3) := by decide +kernel
theorem dX6_leastLimit_33 : decode cX6_leastLimit 33 = .ok (.ifCond .eq 14, 3) := by decide +kernel
theorem dX6_leastLimit_36 : decode cX6_leastLimit 36 = .ok (.iload_n 1, 1) := by decide +kernel
theorem dX6_leastLimit_37 : decode cX6_leastLimit 37 = .ok (.aload_n 0, 1) := by decide +kernel
theorem dX6_leastLimit_38 : decode cX6_leastLimit 38 = .ok (.iload_n 3, 1) := by decide +kernel
theorem dX6_leastLimit_39 : decode cX6_leastLimit 39 = .ok (.iload_n 2, 1) := by decide +kernel
theorem dX6_leastLimit_40 : decode cX6_leastLimit 40 = .ok (.invokevirtual 94, 3) := by decide +kernel
theorem dX6_leastLimit_43 : decode cX6_leastLimit 43 = .ok (.invokestatic 142, 3) := by decide +kernel
theorem dX6_leastLimit_46 : decode cX6_leastLimit 46 = .ok (.istore_n 1, 1) := by decide +kernel
theorem dX6_leastLimit_47 : decode cX6_leastLimit 47 = .ok (.iinc 2 1, 3) := by decide +kernel
theorem dX6_leastLimit_50 : decode cX6_leastLimit 50 = .ok (.goto (-46), 3) := by decide +kernel
theorem dX6_leastLimit_53 : decode cX6_leastLimit 53 = .ok (.iload_n 1, 1) := by decide +kernel
theorem dX6_leastLimit_54 : decode cX6_leastLimit 54 = .ok (.ireturn, 1) := by decide +kernel
theorem dX6_sinkersOnTrial_0 : decode cX6_sinkersOnTrial 0 = .ok (.iconst 0, 1) := by decide +kernel
theorem dX6_sinkersOnTrial_1 : decode cX6_sinkersOnTrial 1 = .ok (.istore_n 1, 1) := by decide +kernel
theorem dX6_sinkersOnTrial_2 : decode cX6_sinkersOnTrial 2 = .ok (.iconst 0, 1) := by decide +kernel
theorem dX6_sinkersOnTrial_3 : decode cX6_sinkersOnTrial 3 = .ok (.istore_n 2, 1) := by decide +kernel
theorem dX6_sinkersOnTrial_4 : decode cX6_sinkersOnTrial 4 = .ok (.iload_n 2, 1) := by decide +kernel
theorem dX6_sinkersOnTrial_5 : decode cX6_sinkersOnTrial 5 = .ok (.aload_n 0, 1) := by decide +kernel
theorem dX6_sinkersOnTrial_6 : decode cX6_sinkersOnTrial 6 = .ok (.getfield 34, 3) := by decide +kernel
theorem dX6_sinkersOnTrial_9 : decode cX6_sinkersOnTrial 9 = .ok (.getfield 52, 3) := by decide +kernel
theorem dX6_sinkersOnTrial_12 : decode cX6_sinkersOnTrial 12 = .ok (.if_icmp .ge 51, 3) := by decide +kernel
theorem dX6_sinkersOnTrial_15 : decode cX6_sinkersOnTrial 15 = .ok (.aload_n 0, 1) := by decide +kernel
theorem dX6_sinkersOnTrial_16 : decode cX6_sinkersOnTrial 16 = .ok (.getfield 12, 3) := by decide +kernel
theorem dX6_sinkersOnTrial_19 : decode cX6_sinkersOnTrial 19 = .ok (.getfield 62, 3) := by decide +kernel
theorem dX6_sinkersOnTrial_22 : decode cX6_sinkersOnTrial 22 = .ok (.iload_n 2, 1) := by decide +kernel
theorem dX6_sinkersOnTrial_23 : decode cX6_sinkersOnTrial 23 = .ok (.invokestatic 65, 3) := by decide +kernel
theorem dX6_sinkersOnTrial_26 : decode cX6_sinkersOnTrial 26 = .ok (.ifCond .ne 31, 3) := by decide +kernel
theorem dX6_sinkersOnTrial_29 : decode cX6_sinkersOnTrial 29 = .ok (.aload_n 0, 1) := by decide +kernel
theorem dX6_sinkersOnTrial_30 : decode cX6_sinkersOnTrial 30 = .ok (.getfield 34, 3) := by decide +kernel
theorem dX6_sinkersOnTrial_33 : decode cX6_sinkersOnTrial 33 = .ok (.iload_n 2, 1) := by decide +kernel
theorem dX6_sinkersOnTrial_34 : decode cX6_sinkersOnTrial 34 = .ok (.aload_n 0, 1) := by decide +kernel
theorem dX6_sinkersOnTrial_35 : decode cX6_sinkersOnTrial 35 = .ok (.aload_n 0, 1) := by decide +kernel
theorem dX6_sinkersOnTrial_36 : decode cX6_sinkersOnTrial 36 = .ok (.getfield 28, 3) := by decide +kernel
theorem dX6_sinkersOnTrial_39 : decode cX6_sinkersOnTrial 39 = .ok (.iload_n 2, 1) := by decide +kernel
theorem dX6_sinkersOnTrial_40 : decode cX6_sinkersOnTrial 40 = .ok (.invokevirtual 58, 3) := by decide +kernel
theorem dX6_sinkersOnTrial_43 : decode cX6_sinkersOnTrial 43 = .ok (.invokestatic 69, 3) := by decide +kernel
theorem dX6_sinkersOnTrial_46 : decode cX6_sinkersOnTrial 46 = .ok (.invokevirtual 75, 3) := by decide +kernel
theorem dX6_sinkersOnTrial_49 : decode cX6_sinkersOnTrial 49 = .ok (.bipush (-2), 2) := by decide +kernel
theorem dX6_sinkersOnTrial_51 : decode cX6_sinkersOnTrial 51 = .ok (.if_icmp .eq 6, 3) := by decide +kernel
theorem dX6_sinkersOnTrial_54 : decode cX6_sinkersOnTrial 54 = .ok (.iinc 1 1, 3) := by decide +kernel
theorem dX6_sinkersOnTrial_57 : decode cX6_sinkersOnTrial 57 = .ok (.iinc 2 1, 3) := by decide +kernel
theorem dX6_sinkersOnTrial_60 : decode cX6_sinkersOnTrial 60 = .ok (.goto (-56), 3) := by decide +kernel
theorem dX6_sinkersOnTrial_63 : decode cX6_sinkersOnTrial 63 = .ok (.iload_n 1, 1) := by decide +kernel
theorem dX6_sinkersOnTrial_64 : decode cX6_sinkersOnTrial 64 = .ok (.ireturn, 1) := by decide +kernel
theorem dX6_placeOfFewestSinkers_0 : decode cX6_placeOfFewestSinkers 0 = .ok (.iconst 0, 1) := by decide +kernel
theorem dX6_placeOfFewestSinkers_1 : decode cX6_placeOfFewestSinkers 1 = .ok (.istore_n 2, 1) := by decide +kernel
theorem dX6_placeOfFewestSinkers_2 : decode cX6_placeOfFewestSinkers 2 = .ok (.iload_n 2, 1) := by decide +kernel
theorem dX6_placeOfFewestSinkers_3 : decode cX6_placeOfFewestSinkers 3 = .ok (.aload_n 0, 1) := by decide +kernel
theorem dX6_placeOfFewestSinkers_4 : decode cX6_placeOfFewestSinkers 4 = .ok (.getfield 34, 3) := by decide +kernel
theorem dX6_placeOfFewestSinkers_7 : decode cX6_placeOfFewestSinkers 7 = .ok (.getfield 52, 3) := by decide +kernel
theorem dX6_placeOfFewestSinkers_10 : decode cX6_placeOfFewestSinkers 10 = .ok (.if_icmp .ge 24, 3) := by decide +kernel
theorem dX6_placeOfFewestSinkers_13 : decode cX6_placeOfFewestSinkers 13 = .ok (.aload_n 0, 1) := by decide +kernel
theorem dX6_placeOfFewestSinkers_14 : decode cX6_placeOfFewestSinkers 14 = .ok (.getfield 28, 3) := by decide +kernel
theorem dX6_placeOfFewestSinkers_17 : decode cX6_placeOfFewestSinkers 17 = .ok (.iload_n 2, 1) := by decide +kernel
theorem dX6_placeOfFewestSinkers_18 : decode cX6_placeOfFewestSinkers 18 = .ok (.aload_n 0, 1) := by decide +kernel
theorem dX6_placeOfFewestSinkers_19 : decode cX6_placeOfFewestSinkers 19 = .ok (.getfield 12, 3) := by decide +kernel
theorem dX6_placeOfFewestSinkers_22 : decode cX6_placeOfFewestSinkers 22 = .ok (.getfield 55, 3) := by decide +kernel
theorem dX6_placeOfFewestSinkers_25 : decode cX6_placeOfFewestSinkers 25 = .ok (.iload_n 2, 1) := by decide +kernel
theorem dX6_placeOfFewestSinkers_26 : decode cX6_placeOfFewestSinkers 26 = .ok (.iaload, 1) := by decide +kernel
theorem dX6_placeOfFewestSinkers_27 : decode cX6_placeOfFewestSinkers 27 = .ok (.iastore, 1) := by decide +kernel
theorem dX6_placeOfFewestSinkers_28 : decode cX6_placeOfFewestSinkers 28 = .ok (.iinc 2 1, 3) := by decide +kernel
theorem dX6_placeOfFewestSinkers_31 : decode cX6_placeOfFewestSinkers 31 = .ok (.goto (-29), 3) := by decide +kernel
theorem dX6_placeOfFewestSinkers_34 : decode cX6_placeOfFewestSinkers 34 = .ok (.iconst 0, 1) := by decide +kernel
theorem dX6_placeOfFewestSinkers_35 : decode cX6_placeOfFewestSinkers 35 = .ok (.istore_n 2, 1) := by decide +kernel
theorem dX6_placeOfFewestSinkers_36 : decode cX6_placeOfFewestSinkers 36 = .ok (.bipush 7, 2) := by decide +kernel
theorem dX6_placeOfFewestSinkers_38 : decode cX6_placeOfFewestSinkers 38 = .ok (.istore_n 3, 1) := by decide +kernel
theorem dX6_placeOfFewestSinkers_39 : decode cX6_placeOfFewestSinkers 39 = .ok (.iconst 0, 1) := by decide +kernel
theorem dX6_placeOfFewestSinkers_40 : decode cX6_placeOfFewestSinkers 40 = .ok (.istore 4, 2) := by decide +kernel
theorem dX6_placeOfFewestSinkers_42 : decode cX6_placeOfFewestSinkers 42 = .ok (.iload 4, 2) := by decide +kernel
theorem dX6_placeOfFewestSinkers_44 : decode cX6_placeOfFewestSinkers 44 = .ok (.bipush 99, 2) := by decide +kernel
theorem dX6_placeOfFewestSinkers_46 : decode cX6_placeOfFewestSinkers 46 = .ok (.if_icmp .gt 35, 3) := by decide +kernel
theorem dX6_placeOfFewestSinkers_49 : decode cX6_placeOfFewestSinkers 49 = .ok (.aload_n 0, 1) := by decide +kernel
theorem dX6_placeOfFewestSinkers_50 : decode cX6_placeOfFewestSinkers 50 = .ok (.getfield 28, 3) := by decide +kernel
theorem dX6_placeOfFewestSinkers_53 : decode cX6_placeOfFewestSinkers 53 = .ok (.iload_n 1, 1) := by decide +kernel
theorem dX6_placeOfFewestSinkers_54 : decode cX6_placeOfFewestSinkers 54 = .ok (.iload 4, 2) := by decide +kernel
theorem dX6_placeOfFewestSinkers_56 : decode cX6_placeOfFewestSinkers 56 = .ok (.iastore, 1) := by decide +kernel
theorem dX6_placeOfFewestSinkers_57 : decode cX6_placeOfFewestSinkers 57 = .ok (.aload_n 0, 1) := by decide +kernel
theorem dX6_placeOfFewestSinkers_58 : decode cX6_placeOfFewestSinkers 58 = .ok (.invokevirtual 145, 3) := by decide +kernel
theorem dX6_placeOfFewestSinkers_61 : decode cX6_placeOfFewestSinkers 61 = .ok (.istore 5, 2) := by decide +kernel
theorem dX6_placeOfFewestSinkers_63 : decode cX6_placeOfFewestSinkers 63 = .ok (.iload 5, 2) := by decide +kernel
theorem dX6_placeOfFewestSinkers_65 : decode cX6_placeOfFewestSinkers 65 = .ok (.iload_n 3, 1) := by decide +kernel
theorem dX6_placeOfFewestSinkers_66 : decode cX6_placeOfFewestSinkers 66 = .ok (.if_icmp .ge 9, 3) := by decide +kernel
theorem dX6_placeOfFewestSinkers_69 : decode cX6_placeOfFewestSinkers 69 = .ok (.iload 5, 2) := by decide +kernel
theorem dX6_placeOfFewestSinkers_71 : decode cX6_placeOfFewestSinkers 71 = .ok (.istore_n 3, 1) := by decide +kernel
theorem dX6_placeOfFewestSinkers_72 : decode cX6_placeOfFewestSinkers 72 = .ok (.iload 4, 2) := by decide +kernel
theorem dX6_placeOfFewestSinkers_74 : decode cX6_placeOfFewestSinkers 74 = .ok (.istore_n 2, 1) := by decide +kernel
theorem dX6_placeOfFewestSinkers_75 : decode cX6_placeOfFewestSinkers 75 = .ok (.iinc 4 1, 3) := by decide +kernel
theorem dX6_placeOfFewestSinkers_78 : decode cX6_placeOfFewestSinkers 78 = .ok (.goto (-36), 3) := by decide +kernel
theorem dX6_placeOfFewestSinkers_81 : decode cX6_placeOfFewestSinkers 81 = .ok (.iload_n 2, 1) := by decide +kernel
theorem dX6_placeOfFewestSinkers_82 : decode cX6_placeOfFewestSinkers 82 = .ok (.ireturn, 1) := by decide +kernel
theorem dX7_init_0 : decode cX7_init 0 = .ok (.aload_n 0, 1) := by decide +kernel
theorem dX7_init_1 : decode cX7_init 1 = .ok (.invokespecial 3, 3) := by decide +kernel
theorem dX7_init_4 : decode cX7_init 4 = .ok (.aload_n 0, 1) := by decide +kernel
theorem dX7_init_5 : decode cX7_init 5 = .ok (.bipush 6, 2) := by decide +kernel
theorem dX7_init_7 : decode cX7_init 7 = .ok (.newarray .long, 2) := by decide +kernel
theorem dX7_init_9 : decode cX7_init 9 = .ok (.putfield 9, 3) := by decide +kernel
theorem dX7_init_12 : decode cX7_init 12 = .ok (.aload_n 0, 1) := by decide +kernel
theorem dX7_init_13 : decode cX7_init 13 = .ok (.iconst 0, 1) := by decide +kernel
theorem dX7_init_14 : decode cX7_init 14 = .ok (.putfield 15, 3) := by decide +kernel
theorem dX7_init_17 : decode cX7_init 17 = .ok (.aload_n 0, 1) := by decide +kernel
theorem dX7_init_18 : decode cX7_init 18 = .ok (.lconst 0, 1) := by decide +kernel
theorem dX7_init_19 : decode cX7_init 19 = .ok (.putfield 19, 3) := by decide +kernel
theorem dX7_init_22 : decode cX7_init 22 = .ok (.return_, 1) := by decide +kernel
theorem dX7_weightIfSinking_0 : decode cX7_weightIfSinking 0 = .ok (.lconst 1, 1) := by decide +kernel
theorem dX7_weightIfSinking_1 : decode cX7_weightIfSinking 1 = .ok (.lstore_n 2, 1) := by decide +kernel
theorem dX7_weightIfSinking_2 : decode cX7_weightIfSinking 2 = .ok (.iconst 0, 1) := by decide +kernel
theorem dX7_weightIfSinking_3 : decode cX7_weightIfSinking 3 = .ok (.istore 4, 2) := by decide +kernel
theorem dX7_weightIfSinking_5 : decode cX7_weightIfSinking 5 = .ok (.iload 4, 2) := by decide +kernel
theorem dX7_weightIfSinking_7 : decode cX7_weightIfSinking 7 = .ok (.aload_n 0, 1) := by decide +kernel
theorem dX7_weightIfSinking_8 : decode cX7_weightIfSinking 8 = .ok (.getfield 23, 3) := by decide +kernel
theorem dX7_weightIfSinking_11 : decode cX7_weightIfSinking 11 = .ok (.if_icmp .ge 80, 3) := by decide +kernel
theorem dX7_weightIfSinking_14 : decode cX7_weightIfSinking 14 = .ok (.aload_n 0, 1) := by decide +kernel
theorem dX7_weightIfSinking_15 : decode cX7_weightIfSinking 15 = .ok (.getfield 30, 3) := by decide +kernel
theorem dX7_weightIfSinking_18 : decode cX7_weightIfSinking 18 = .ok (.iload 4, 2) := by decide +kernel
theorem dX7_weightIfSinking_20 : decode cX7_weightIfSinking 20 = .ok (.iaload, 1) := by decide +kernel
theorem dX7_weightIfSinking_21 : decode cX7_weightIfSinking 21 = .ok (.ifCond .eq 64, 3) := by decide +kernel
theorem dX7_weightIfSinking_24 : decode cX7_weightIfSinking 24 = .ok (.aload_n 0, 1) := by decide +kernel
theorem dX7_weightIfSinking_25 : decode cX7_weightIfSinking 25 = .ok (.getfield 30, 3) := by decide +kernel
theorem dX7_weightIfSinking_28 : decode cX7_weightIfSinking 28 = .ok (.iload 4, 2) := by decide +kernel
theorem dX7_weightIfSinking_30 : decode cX7_weightIfSinking 30 = .ok (.iaload, 1) := by decide +kernel
theorem dX7_weightIfSinking_31 : decode cX7_weightIfSinking 31 = .ok (.iconst 1, 1) := by decide +kernel
theorem dX7_weightIfSinking_32 : decode cX7_weightIfSinking 32 = .ok (.if_icmp .ne 7, 3) := by decide +kernel
theorem dX7_weightIfSinking_35 : decode cX7_weightIfSinking 35 = .ok (.iconst 1, 1) := by decide +kernel
theorem dX7_weightIfSinking_36 : decode cX7_weightIfSinking 36 = .ok (.goto 4, 3) := by decide +kernel
theorem dX7_weightIfSinking_39 : decode cX7_weightIfSinking 39 = .ok (.iconst 0, 1) := by decide +kernel
theorem dX7_weightIfSinking_40 : decode cX7_weightIfSinking 40 = .ok (.iload 4, 2) := by decide +kernel
theorem dX7_weightIfSinking_42 : decode cX7_weightIfSinking 42 = .ok (.iload_n 1, 1) := by decide +kernel
theorem dX7_weightIfSinking_43 : decode cX7_weightIfSinking 43 = .ok (.if_icmp .ne 7, 3) := by decide +kernel
theorem dX7_weightIfSinking_46 : decode cX7_weightIfSinking 46 = .ok (.iconst 1, 1) := by decide +kernel
theorem dX7_weightIfSinking_47 : decode cX7_weightIfSinking 47 = .ok (.goto 4, 3) := by decide +kernel
theorem dX7_weightIfSinking_50 : decode cX7_weightIfSinking 50 = .ok (.iconst 0, 1) := by decide +kernel
theorem dX7_weightIfSinking_51 : decode cX7_weightIfSinking 51 = .ok (.if_icmp .eq 7, 3) := by decide +kernel
theorem dX7_weightIfSinking_54 : decode cX7_weightIfSinking 54 = .ok (.iconst 1, 1) := by decide +kernel
theorem dX7_weightIfSinking_55 : decode cX7_weightIfSinking 55 = .ok (.goto 4, 3) := by decide +kernel
theorem dX7_weightIfSinking_58 : decode cX7_weightIfSinking 58 = .ok (.iconst 0, 1) := by decide +kernel
theorem dX7_weightIfSinking_59 : decode cX7_weightIfSinking 59 = .ok (.istore 5, 2) := by decide +kernel
theorem dX7_weightIfSinking_61 : decode cX7_weightIfSinking 61 = .ok (.lload_n 2, 1) := by decide +kernel
theorem dX7_weightIfSinking_62 : decode cX7_weightIfSinking 62 = .ok (.iload 5, 2) := by decide +kernel
theorem dX7_weightIfSinking_64 : decode cX7_weightIfSinking 64 = .ok (.ifCond .eq 11, 3) := by decide +kernel
theorem dX7_weightIfSinking_67 : decode cX7_weightIfSinking 67 = .ok (.aload_n 0, 1) := by decide +kernel
theorem dX7_weightIfSinking_68 : decode cX7_weightIfSinking 68 = .ok (.getfield 34, 3) := by decide +kernel
theorem dX7_weightIfSinking_71 : decode cX7_weightIfSinking 71 = .ok (.i2l, 1) := by decide +kernel
theorem dX7_weightIfSinking_72 : decode cX7_weightIfSinking 72 = .ok (.goto 11, 3) := by decide +kernel
theorem dX7_weightIfSinking_75 : decode cX7_weightIfSinking 75 = .ok (.bipush 100, 2) := by decide +kernel
theorem dX7_weightIfSinking_77 : decode cX7_weightIfSinking 77 = .ok (.aload_n 0, 1) := by decide +kernel
theorem dX7_weightIfSinking_78 : decode cX7_weightIfSinking 78 = .ok (.getfield 34, 3) := by decide +kernel
theorem dX7_weightIfSinking_81 : decode cX7_weightIfSinking 81 = .ok (.isub, 1) := by decide +kernel
theorem dX7_weightIfSinking_82 : decode cX7_weightIfSinking 82 = .ok (.i2l, 1) := by decide +kernel
theorem dX7_weightIfSinking_83 : decode cX7_weightIfSinking 83 = .ok (.lmul, 1) := by decide +kernel
theorem dX7_weightIfSinking_84 : decode cX7_weightIfSinking 84 = .ok (.lstore_n 2, 1) := by decide +kernel
theorem dX7_weightIfSinking_85 : decode cX7_weightIfSinking 85 = .ok (.iinc 4 1, 3) := by decide +kernel
theorem dX7_weightIfSinking_88 : decode cX7_weightIfSinking 88 = .ok (.goto (-83), 3) := by decide +kernel
theorem dX7_weightIfSinking_91 : decode cX7_weightIfSinking 91 = .ok (.lload_n 2, 1) := by decide +kernel
theorem dX7_weightIfSinking_92 : decode cX7_weightIfSinking 92 = .ok (.lreturn, 1) := by decide +kernel
def m_X6_coveringSets (t : Nat) (σ : jd_Hp) : Option (Int32 × jd_Hp) :=
jd_b (jd_lp (S := Int32 × Int32) (T := Int32) (fun s1 σ1 =>
jd_o σ1 (6, 8) (some t) fun a3 =>
jd_o σ1 (10, 16) (σ1.2.2.2 a3 5) fun a4 =>
jd_if ((1 <<< ((σ1.2.1 a4 12) &&& 31)) ≤ s1.2) (
some ((Sum.inr s1.1), σ1)) (
jd_b (m_X6_isCovering a3 s1.2 σ1) fun r5 σ5 =>
jd_if (r5 = 0) (
some (Sum.inl (s1.1, (s1.2 + 1)), σ5)) (
some (Sum.inl ((s1.1 + 1), (s1.2 + 1)), σ5)))) jd_fu (0, 0) σ) fun t2 σ2 =>
some (t2, σ2)
set_option maxHeartbeats 4000000 in
set_option maxRecDepth 20000 in
theorem c_X6_coveringSets {l : Launch} {s0 : State} {G : jd_G} (hF : jd_F s0 G) (σ : jd_Hp) (t : Nat) (ht : σ.1[t]? = some (6, 8)) : jd_M l s0 G yX6_coveringSets cX6_coveringSets 3 (some .int) 2 je_i [jd_v G (some t)] σ (m_X6_coveringSets t σ) := by
  refine jd_enter hF (by decide) (fun G => [some (jd_v G (some t)), none, none]) rfl (by simp [lv_args, jd_al, jd_v_cat, jd_cti, jd_ctl]) (by simp [lg_sl, jd_v_cat, jd_cti, jd_ctl]) (fun X hD hX => ?_)
  have hX : jd_C X RX6 "coveringSets" cX6_coveringSets 3 (some .int) := hX
  unfold m_X6_coveringSets
  refine jr_iconst (pc := 0) hX 0 rfl dX6_coveringSets_0 ?_
  refine jr_ist1 (pc := 1) hX (jn_r _ _) dX6_coveringSets_1 ?_
  refine jr_iconst (pc := 2) hX 0 rfl dX6_coveringSets_2 ?_
  refine jr_ist2 (pc := 3) hX (jn_i _) dX6_coveringSets_3 ?_
  refine jr_loop (pc := 4) (fun (s1 : Int32 × Int32) => [some (jd_v (jd_gG X) (some t)), some (.int s1.1), some (.int s1.2)]) (fun (t2 : Int32) => [none, some (.int t2), none]) 34 (0, 0) (fun t2 σ2 => ?_) (fun K1 bk1 ex1 s1 σ1 => ?_)
  · refine jr_ild1 (pc := 34) hX dX6_coveringSets_34 ?_
    exact jr_iret (pc := 35) hX dX6_coveringSets_35 rfl
  · refine jr_ild2 (pc := 4) hX dX6_coveringSets_4 ?_
    refine jr_iconst (pc := 5) hX 1 rfl dX6_coveringSets_5 ?_
    refine jr_ald0 (pc := 6) hX dX6_coveringSets_6 ?_
    refine jr_ck0 (fun a3 e3 h3 => ?_)
    refine jr_getr (pc := 7) hX fX6_34 rfl dX6_coveringSets_7 h3 ?_
    refine jr_ck0 (fun a4 e4 h4 => ?_)
    refine jr_geti (pc := 10) hX fX6_79 rfl dX6_coveringSets_10 h4 ?_
    refine jr_ishl (pc := 13) hX dX6_coveringSets_13 ?_
    refine jr_icge (pc := 14) hX 34 dX6_coveringSets_14 (by decide) ?_ ?_
    · refine jr_wk [false, true, false] ?_
      exact ex1 s1.1 _
    · refine jr_ald0 (pc := 17) hX dX6_coveringSets_17 ?_
      refine jr_ild2 (pc := 18) hX dX6_coveringSets_18 ?_
      refine jr_ek1 e3 ?_
      refine jr_cV1i (pc := 19) hX lX6_136 (c_X6_isCovering hX.F σ1 a3 h3 _) (jd_dd hD rfl) (Nat.le_of_ble_eq_true rfl) dX6_coveringSets_19 h3 (fun r5 σ5 p5 => ?_)
      refine jr_ifeq (pc := 22) hX 28 dX6_coveringSets_22 (by decide) ?_ ?_
      · refine jr_inc2 (pc := 28) hX 1 rfl (jn_i _) dX6_coveringSets_28 ?_
        refine jr_goto (pc := 31) hX 4 dX6_coveringSets_31 (by decide) ?_
        exact bk1 (s1.1, (s1.2 + 1)) _
      · refine jr_inc1 (pc := 25) hX 1 rfl (jn_r _ _) dX6_coveringSets_25 ?_
        refine jr_inc2 (pc := 28) hX 1 rfl (jn_i _) dX6_coveringSets_28 ?_
        refine jr_goto (pc := 31) hX 4 dX6_coveringSets_31 (by decide) ?_
        exact bk1 ((s1.1 + 1), (s1.2 + 1)) _
def m_X6_postOfMostMore (t : Nat) (σ : jd_Hp) : Option (Int32 × jd_Hp) :=
jd_b (jd_lp (S := Int32 × Int32 × Int32) (T := Int32) (fun s1 σ1 =>
jd_o σ1 (6, 8) (some t) fun a3 =>
jd_o σ1 (10, 16) (σ1.2.2.2 a3 5) fun a4 =>
jd_if ((σ1.2.1 a4 12) ≤ s1.2.2) (
some ((Sum.inr s1.1), σ1)) (
jd_ia σ1 20 (σ1.2.2.2 a3 3) s1.2.2 fun a5 j5 =>
jd_b (m_J6_bitCount_0f7a4 (((σ1.2.1 a3 6) &&& (σ1.2.1 a5 j5)) &&& ((σ1.2.1 a3 7) ^^^ (-1))) σ1) fun r6 σ6 =>
jd_if (r6 ≤ s1.2.1) (
some (Sum.inl (s1.1, s1.2.1, (s1.2.2 + 1)), σ6)) (
some (Sum.inl (s1.2.2, r6, (s1.2.2 + 1)), σ6)))) jd_fu ((-2), 0, 0) σ) fun t2 σ2 =>
some (t2, σ2)
set_option maxHeartbeats 4000000 in
set_option maxRecDepth 20000 in
theorem c_X6_postOfMostMore {l : Launch} {s0 : State} {G : jd_G} (hF : jd_F s0 G) (σ : jd_Hp) (t : Nat) (ht : σ.1[t]? = some (6, 8)) : jd_M l s0 G yX6_postOfMostMore cX6_postOfMostMore 5 (some .int) 1 je_i [jd_v G (some t)] σ (m_X6_postOfMostMore t σ) := by
  refine jd_enter hF (by decide) (fun G => [some (jd_v G (some t)), none, none, none, none]) rfl (by simp [lv_args, jd_al, jd_v_cat, jd_cti, jd_ctl]) (by simp [lg_sl, jd_v_cat, jd_cti, jd_ctl]) (fun X hD hX => ?_)
  have hX : jd_C X RX6 "postOfMostMore" cX6_postOfMostMore 5 (some .int) := hX
  unfold m_X6_postOfMostMore
  refine jr_bipush (pc := 0) hX (-2) rfl dX6_postOfMostMore_0 ?_
  refine jr_ist1 (pc := 2) hX (jn_r _ _) dX6_postOfMostMore_2 ?_
  refine jr_iconst (pc := 3) hX 0 rfl dX6_postOfMostMore_3 ?_
  refine jr_ist2 (pc := 4) hX (jn_i _) dX6_postOfMostMore_4 ?_
  refine jr_iconst (pc := 5) hX 0 rfl dX6_postOfMostMore_5 ?_
  refine jr_ist3 (pc := 6) hX (jn_i _) dX6_postOfMostMore_6 ?_
  refine jr_loop (pc := 7) (fun (s1 : Int32 × Int32 × Int32) => [some (jd_v (jd_gG X) (some t)), some (.int s1.1), some (.int s1.2.1), some (.int s1.2.2), none]) (fun (t2 : Int32) => [none, some (.int t2), none, none, none]) 58 ((-2), 0, 0) (fun t2 σ2 => ?_) (fun K1 bk1 ex1 s1 σ1 => ?_)
  · refine jr_ild1 (pc := 58) hX dX6_postOfMostMore_58 ?_
    exact jr_iret (pc := 59) hX dX6_postOfMostMore_59 rfl
  · refine jr_ild3 (pc := 7) hX dX6_postOfMostMore_7 ?_
    refine jr_ald0 (pc := 8) hX dX6_postOfMostMore_8 ?_
    refine jr_ck0 (fun a3 e3 h3 => ?_)
    refine jr_getr (pc := 9) hX fX6_34 rfl dX6_postOfMostMore_9 h3 ?_
    refine jr_ck0 (fun a4 e4 h4 => ?_)
    refine jr_geti (pc := 12) hX fX6_79 rfl dX6_postOfMostMore_12 h4 ?_
    refine jr_icge (pc := 15) hX 58 dX6_postOfMostMore_15 (by decide) ?_ ?_
    · refine jr_wk [false, true, false, false, true] ?_
      exact ex1 s1.1 _
    · refine jr_ald0 (pc := 18) hX dX6_postOfMostMore_18 ?_
      refine jr_ek0 e3 ?_
      refine jr_geti (pc := 19) hX fX6_38 rfl dX6_postOfMostMore_19 h3 ?_
      refine jr_ald0 (pc := 22) hX dX6_postOfMostMore_22 ?_
      refine jr_ek0 e3 ?_
      refine jr_getr (pc := 23) hX fX6_25 rfl dX6_postOfMostMore_23 h3 ?_
      refine jr_ild3 (pc := 26) hX dX6_postOfMostMore_26 ?_
      refine jr_iaC (pc := 27) hX dX6_postOfMostMore_27 (fun a5 n5 e5 h5 => ?_)
      refine jr_iand (pc := 28) hX dX6_postOfMostMore_28 ?_
      refine jr_ald0 (pc := 29) hX dX6_postOfMostMore_29 ?_
      refine jr_ek0 e3 ?_
      refine jr_geti (pc := 30) hX fX6_42 rfl dX6_postOfMostMore_30 h3 ?_
      refine jr_iconst (pc := 33) hX (-1) rfl dX6_postOfMostMore_33 ?_
      refine jr_ixor (pc := 34) hX dX6_postOfMostMore_34 ?_
      refine jr_iand (pc := 35) hX dX6_postOfMostMore_35 ?_
      refine jr_cS1i (pc := 36) hX lX6_69 (c_J6_bitCount_0f7a4 hX.F σ1 _) (jd_dd hD rfl) (Nat.le_of_ble_eq_true rfl) dX6_postOfMostMore_36 (fun r6 σ6 p6 => ?_)
      refine jr_ist4 (pc := 39) hX (jn_i _) dX6_postOfMostMore_39 ?_
      refine jr_ild4 (pc := 41) hX dX6_postOfMostMore_41 ?_
      refine jr_ild2 (pc := 43) hX dX6_postOfMostMore_43 ?_
      refine jr_icle (pc := 44) hX 52 dX6_postOfMostMore_44 (by decide) ?_ ?_
      · refine jr_inc3 (pc := 52) hX 1 rfl (jn_i _) dX6_postOfMostMore_52 ?_
        refine jr_goto (pc := 55) hX 7 dX6_postOfMostMore_55 (by decide) ?_
        refine jr_wk [true, true, true, true, false] ?_
        exact bk1 (s1.1, s1.2.1, (s1.2.2 + 1)) _
      · refine jr_ild4 (pc := 47) hX dX6_postOfMostMore_47 ?_
        refine jr_ist2 (pc := 49) hX (jn_i _) dX6_postOfMostMore_49 ?_
        refine jr_ild3 (pc := 50) hX dX6_postOfMostMore_50 ?_
        refine jr_ist1 (pc := 51) hX (jn_r _ _) dX6_postOfMostMore_51 ?_
        refine jr_inc3 (pc := 52) hX 1 rfl (jn_i _) dX6_postOfMostMore_52 ?_
        refine jr_goto (pc := 55) hX 7 dX6_postOfMostMore_55 (by decide) ?_
        refine jr_wk [true, true, true, true, false] ?_
        exact bk1 (s1.2.2, r6, (s1.2.2 + 1)) _
def m_X6_placeOfMostReached (t : Nat) (x0p : Int32) (σ : jd_Hp) : Option (Int32 × jd_Hp) :=
jd_b (jd_lp (S := Int32 × Int32 × Int32) (T := Int32) (fun s1 σ1 =>
jd_if (99 < s1.2.2) (
some ((Sum.inr s1.1), σ1)) (
jd_b (jd_lp (S := Int32 × Int32) (T := Int32) (fun s3 σ3 =>
jd_o σ3 (6, 8) (some t) fun a5 =>
jd_o σ3 (10, 16) (σ3.2.2.2 a5 5) fun a6 =>
jd_if ((σ3.2.1 a6 11) ≤ s3.2) (
some ((Sum.inr s3.1), σ3)) (
jd_b (m_X6_sinks a5 s3.2 σ3) fun r7 σ7 =>
jd_if (r7 = 0) (
some (Sum.inl (s3.1, (s3.2 + 1)), σ7)) (
jd_o σ7 (4, 4) (σ7.2.2.2 a5 0) fun a8 =>
jd_ia σ7 20 (σ7.2.2.2 a8 0) s3.2 fun a9 j9 =>
jd_o σ7 (10, 16) (σ7.2.2.2 a5 5) fun a10 =>
jd_if ((σ7.2.1 a10 8) < ((jd_abs (s1.2.2 - (σ7.2.1 a9 j9))) + x0p)) (
some (Sum.inl (s3.1, (s3.2 + 1)), σ7)) (
some (Sum.inl ((s3.1 + 1), (s3.2 + 1)), σ7))))) jd_fu (0, 0) σ1) fun t4 σ4 =>
jd_if (t4 ≤ s1.2.1) (
some (Sum.inl (s1.1, s1.2.1, (s1.2.2 + 1)), σ4)) (
some (Sum.inl (s1.2.2, t4, (s1.2.2 + 1)), σ4)))) jd_fu (0, 0, 0) σ) fun t2 σ2 =>
some (t2, σ2)
set_option maxHeartbeats 4000000 in
set_option maxRecDepth 20000 in
theorem c_X6_placeOfMostReached {l : Launch} {s0 : State} {G : jd_G} (hF : jd_F s0 G) (σ : jd_Hp) (t : Nat) (ht : σ.1[t]? = some (6, 8)) (x0p : Int32) : jd_M l s0 G yX6_placeOfMostReached cX6_placeOfMostReached 7 (some .int) 2 je_i [jd_v G (some t), .int x0p] σ (m_X6_placeOfMostReached t x0p σ) := by
  refine jd_enter hF (by decide) (fun G => [some (jd_v G (some t)), some (.int x0p), none, none, none, none, none]) rfl (by simp [lv_args, jd_al, jd_v_cat, jd_cti, jd_ctl]) (by simp [lg_sl, jd_v_cat, jd_cti, jd_ctl]) (fun X hD hX => ?_)
  have hX : jd_C X RX6 "placeOfMostReached" cX6_placeOfMostReached 7 (some .int) := hX
  unfold m_X6_placeOfMostReached
  refine jr_iconst (pc := 0) hX 0 rfl dX6_placeOfMostReached_0 ?_
  refine jr_ist2 (pc := 1) hX (jn_i _) dX6_placeOfMostReached_1 ?_
  refine jr_iconst (pc := 2) hX 0 rfl dX6_placeOfMostReached_2 ?_
  refine jr_ist3 (pc := 3) hX (jn_i _) dX6_placeOfMostReached_3 ?_
  refine jr_iconst (pc := 4) hX 0 rfl dX6_placeOfMostReached_4 ?_
  refine jr_ist4 (pc := 5) hX (jn_i _) dX6_placeOfMostReached_5 ?_
  refine jr_loop (pc := 7) (fun (s1 : Int32 × Int32 × Int32) => [some (jd_v (jd_gG X) (some t)), some (.int x0p), some (.int s1.1), some (.int s1.2.1), some (.int s1.2.2), none, none]) (fun (t2 : Int32) => [none, none, some (.int t2), none, none, none, none]) 96 (0, 0, 0) (fun t2 σ2 => ?_) (fun K1 bk1 ex1 s1 σ1 => ?_)
  · refine jr_ild2 (pc := 96) hX dX6_placeOfMostReached_96 ?_
    exact jr_iret (pc := 97) hX dX6_placeOfMostReached_97 rfl
  · refine jr_ild4 (pc := 7) hX dX6_placeOfMostReached_7 ?_
    refine jr_bipush (pc := 9) hX 99 rfl dX6_placeOfMostReached_9 ?_
    refine jr_icgt (pc := 11) hX 96 dX6_placeOfMostReached_11 (by decide) ?_ ?_
    · refine jr_wk [false, false, true, false, false, true, true] ?_
      exact ex1 s1.1 _
    · refine jr_iconst (pc := 14) hX 0 rfl dX6_placeOfMostReached_14 ?_
      refine jr_ist5 (pc := 15) hX (jn_i _) dX6_placeOfMostReached_15 ?_
      refine jr_iconst (pc := 17) hX 0 rfl dX6_placeOfMostReached_17 ?_
      refine jr_ist6 (pc := 18) hX (jn_i _) dX6_placeOfMostReached_18 ?_
      refine jr_loop (pc := 20) (fun (s3 : Int32 × Int32) => [some (jd_v (jd_gG X) (some t)), some (.int x0p), some (.int s1.1), some (.int s1.2.1), some (.int s1.2.2), some (.int s3.1), some (.int s3.2)]) (fun (t4 : Int32) => [some (jd_v (jd_gG X) (some t)), some (.int x0p), some (.int s1.1), some (.int s1.2.1), some (.int s1.2.2), some (.int t4), none]) 78 (0, 0) (fun t4 σ4 => ?_) (fun K3 bk3 ex3 s3 σ3 => ?_)
      · refine jr_ild5 (pc := 78) hX dX6_placeOfMostReached_78 ?_
        refine jr_ild3 (pc := 80) hX dX6_placeOfMostReached_80 ?_
        refine jr_icle (pc := 81) hX 90 dX6_placeOfMostReached_81 (by decide) ?_ ?_
        · refine jr_inc4 (pc := 90) hX 1 rfl (jn_i _) dX6_placeOfMostReached_90 ?_
          refine jr_goto (pc := 93) hX 7 dX6_placeOfMostReached_93 (by decide) ?_
          refine jr_wk [true, true, true, true, true, false, true] ?_
          exact bk1 (s1.1, s1.2.1, (s1.2.2 + 1)) _
        · refine jr_ild5 (pc := 84) hX dX6_placeOfMostReached_84 ?_
          refine jr_ist3 (pc := 86) hX (jn_i _) dX6_placeOfMostReached_86 ?_
          refine jr_ild4 (pc := 87) hX dX6_placeOfMostReached_87 ?_
          refine jr_ist2 (pc := 89) hX (jn_i _) dX6_placeOfMostReached_89 ?_
          refine jr_inc4 (pc := 90) hX 1 rfl (jn_i _) dX6_placeOfMostReached_90 ?_
          refine jr_goto (pc := 93) hX 7 dX6_placeOfMostReached_93 (by decide) ?_
          refine jr_wk [true, true, true, true, true, false, true] ?_
          exact bk1 (s1.2.2, t4, (s1.2.2 + 1)) _
      · refine jr_ild6 (pc := 20) hX dX6_placeOfMostReached_20 ?_
        refine jr_ald0 (pc := 22) hX dX6_placeOfMostReached_22 ?_
        refine jr_ck0 (fun a5 e5 h5 => ?_)
        refine jr_getr (pc := 23) hX fX6_34 rfl dX6_placeOfMostReached_23 h5 ?_
        refine jr_ck0 (fun a6 e6 h6 => ?_)
        refine jr_geti (pc := 26) hX fX6_52 rfl dX6_placeOfMostReached_26 h6 ?_
        refine jr_icge (pc := 29) hX 78 dX6_placeOfMostReached_29 (by decide) ?_ ?_
        · refine jr_wk [true, true, true, true, true, true, false] ?_
          exact ex3 s3.1 _
        · refine jr_ald0 (pc := 32) hX dX6_placeOfMostReached_32 ?_
          refine jr_ild6 (pc := 33) hX dX6_placeOfMostReached_33 ?_
          refine jr_ek1 e5 ?_
          refine jr_cV1i (pc := 35) hX lX6_130 (c_X6_sinks hX.F σ3 a5 h5 _) (jd_dd hD rfl) (Nat.le_of_ble_eq_true rfl) dX6_placeOfMostReached_35 h5 (fun r7 σ7 p7 => ?_)
          refine jr_ifeq (pc := 38) hX 72 dX6_placeOfMostReached_38 (by decide) ?_ ?_
          · refine jr_inc6 (pc := 72) hX 1 rfl (jn_i _) dX6_placeOfMostReached_72 ?_
            refine jr_goto (pc := 75) hX 20 dX6_placeOfMostReached_75 (by decide) ?_
            exact bk3 (s3.1, (s3.2 + 1)) _
          · refine jr_ild4 (pc := 41) hX dX6_placeOfMostReached_41 ?_
            refine jr_ald0 (pc := 43) hX dX6_placeOfMostReached_43 ?_
            refine jr_ek0 e5 ?_
            refine jr_getr (pc := 44) hX fX6_12 rfl dX6_placeOfMostReached_44 (p7.at h5 :) ?_
            refine jr_ck0 (fun a8 e8 h8 => ?_)
            refine jr_getr (pc := 47) hX fX6_55 rfl dX6_placeOfMostReached_47 h8 ?_
            refine jr_ild6 (pc := 50) hX dX6_placeOfMostReached_50 ?_
            refine jr_iaC (pc := 52) hX dX6_placeOfMostReached_52 (fun a9 n9 e9 h9 => ?_)
            refine jr_isub (pc := 53) hX dX6_placeOfMostReached_53 ?_
            refine jr_mabs (pc := 54) hX lX6_89 (jd_d1 hD rfl) (Nat.le_of_ble_eq_true rfl) dX6_placeOfMostReached_54 ?_
            refine jr_ild1 (pc := 57) hX dX6_placeOfMostReached_57 ?_
            refine jr_iadd (pc := 58) hX dX6_placeOfMostReached_58 ?_
            refine jr_ald0 (pc := 59) hX dX6_placeOfMostReached_59 ?_
            refine jr_ek0 e5 ?_
            refine jr_getr (pc := 60) hX fX6_34 rfl dX6_placeOfMostReached_60 (p7.at h5 :) ?_
            refine jr_ck0 (fun a10 e10 h10 => ?_)
            refine jr_geti (pc := 63) hX fX6_97 rfl dX6_placeOfMostReached_63 h10 ?_
            refine jr_icgt (pc := 66) hX 72 dX6_placeOfMostReached_66 (by decide) ?_ ?_
            · refine jr_inc6 (pc := 72) hX 1 rfl (jn_i _) dX6_placeOfMostReached_72 ?_
              refine jr_goto (pc := 75) hX 20 dX6_placeOfMostReached_75 (by decide) ?_
              exact bk3 (s3.1, (s3.2 + 1)) _
            · refine jr_inc5 (pc := 69) hX 1 rfl (jn_i _) dX6_placeOfMostReached_69 ?_
              refine jr_inc6 (pc := 72) hX 1 rfl (jn_i _) dX6_placeOfMostReached_72 ?_
              refine jr_goto (pc := 75) hX 20 dX6_placeOfMostReached_75 (by decide) ?_
              exact bk3 ((s3.1 + 1), (s3.2 + 1)) _
def m_X6_leastLimit (t : Nat) (σ : jd_Hp) : Option (Int32 × jd_Hp) :=
jd_b (jd_lp (S := Int32 × Int32) (T := (Int32) ⊕ Int32) (fun s1 σ1 =>
jd_o σ1 (6, 8) (some t) fun a3 =>
jd_o σ1 (10, 16) (σ1.2.2.2 a3 5) fun a4 =>
jd_if ((σ1.2.1 a4 11) ≤ s1.2) (
some ((Sum.inr (Sum.inl s1.1)), σ1)) (
jd_b (m_X6_nearestManned a3 s1.2 σ1) fun r5 σ5 =>
jd_if (0 ≤ r5) (
jd_b (m_X6_sinks a3 s1.2 σ5) fun r6 σ6 =>
jd_if (r6 = 0) (
some (Sum.inl (s1.1, (s1.2 + 1)), σ6)) (
jd_b (m_X6_timeTo a3 r5 s1.2 σ6) fun r7 σ7 =>
jd_li (jd_max s1.1 r7) fun x8 =>
some (Sum.inl (x8, (s1.2 + 1)), σ7))) (
some (Sum.inr (Sum.inr (-2)), σ5)))) jd_fu (1, 0) σ) (jd_q (fun t2 σ2 =>
some (t2, σ2)) (fun v1 σ2 => some (v1, σ2)))
set_option maxHeartbeats 4000000 in
set_option maxRecDepth 20000 in
theorem c_X6_leastLimit {l : Launch} {s0 : State} {G : jd_G} (hF : jd_F s0 G) (σ : jd_Hp) (t : Nat) (ht : σ.1[t]? = some (6, 8)) : jd_M l s0 G yX6_leastLimit cX6_leastLimit 4 (some .int) 3 je_i [jd_v G (some t)] σ (m_X6_leastLimit t σ) := by
  refine jd_enter hF (by decide) (fun G => [some (jd_v G (some t)), none, none, none]) rfl (by simp [lv_args, jd_al, jd_v_cat, jd_cti, jd_ctl]) (by simp [lg_sl, jd_v_cat, jd_cti, jd_ctl]) (fun X hD hX => ?_)
  have hX : jd_C X RX6 "leastLimit" cX6_leastLimit 4 (some .int) := hX
  unfold m_X6_leastLimit
  refine jr_iconst (pc := 0) hX 1 rfl dX6_leastLimit_0 ?_
  refine jr_ist1 (pc := 1) hX (jn_r _ _) dX6_leastLimit_1 ?_
  refine jr_iconst (pc := 2) hX 0 rfl dX6_leastLimit_2 ?_
  refine jr_ist2 (pc := 3) hX (jn_i _) dX6_leastLimit_3 ?_
  refine jr_loopR (pc := 4) (fun (s1 : Int32 × Int32) => [some (jd_v (jd_gG X) (some t)), some (.int s1.1), some (.int s1.2), none]) (fun (t2 : Int32) => [none, some (.int t2), none, none]) 53 (1, 0) (fun t2 σ2 => ?_) (fun K1 bk1 ex1 wr1 s1 σ1 => ?_)
  · refine jr_ild1 (pc := 53) hX dX6_leastLimit_53 ?_
    exact jr_iret (pc := 54) hX dX6_leastLimit_54 rfl
  · refine jr_ild2 (pc := 4) hX dX6_leastLimit_4 ?_
    refine jr_ald0 (pc := 5) hX dX6_leastLimit_5 ?_
    refine jr_ck0 (fun a3 e3 h3 => ?_)
    refine jr_getr (pc := 6) hX fX6_34 rfl dX6_leastLimit_6 h3 ?_
    refine jr_ck0 (fun a4 e4 h4 => ?_)
    refine jr_geti (pc := 9) hX fX6_52 rfl dX6_leastLimit_9 h4 ?_
    refine jr_icge (pc := 12) hX 53 dX6_leastLimit_12 (by decide) ?_ ?_
    · refine jr_wk [false, true, false, true] ?_
      exact ex1 s1.1 _
    · refine jr_ald0 (pc := 15) hX dX6_leastLimit_15 ?_
      refine jr_ild2 (pc := 16) hX dX6_leastLimit_16 ?_
      refine jr_ek1 e3 ?_
      refine jr_cV1i (pc := 17) hX lX6_139 (c_X6_nearestManned hX.F σ1 a3 h3 _) (jd_dd hD rfl) (Nat.le_of_ble_eq_true rfl) dX6_leastLimit_17 h3 (fun r5 σ5 p5 => ?_)
      refine jr_ist3 (pc := 20) hX (jn_i _) dX6_leastLimit_20 ?_
      refine jr_ild3 (pc := 21) hX dX6_leastLimit_21 ?_
      refine jr_ifge (pc := 22) hX 28 dX6_leastLimit_22 (by decide) ?_ ?_
      · refine jr_ald0 (pc := 28) hX dX6_leastLimit_28 ?_
        refine jr_ild2 (pc := 29) hX dX6_leastLimit_29 ?_
        refine jr_ek1 e3 ?_
        refine jr_cV1i (pc := 30) hX lX6_130 (c_X6_sinks hX.F σ5 a3 (p5.at h3 :) _) (jd_dd hD rfl) (Nat.le_of_ble_eq_true rfl) dX6_leastLimit_30 (p5.at h3 :) (fun r6 σ6 p6 => ?_)
        refine jr_ifeq (pc := 33) hX 47 dX6_leastLimit_33 (by decide) ?_ ?_
        · refine jr_inc2 (pc := 47) hX 1 rfl (jn_i _) dX6_leastLimit_47 ?_
          refine jr_goto (pc := 50) hX 4 dX6_leastLimit_50 (by decide) ?_
          refine jr_wk [true, true, true, false] ?_
          exact bk1 (s1.1, (s1.2 + 1)) _
        · refine jr_ild1 (pc := 36) hX dX6_leastLimit_36 ?_
          refine jr_ald0 (pc := 37) hX dX6_leastLimit_37 ?_
          refine jr_ild3 (pc := 38) hX dX6_leastLimit_38 ?_
          refine jr_ild2 (pc := 39) hX dX6_leastLimit_39 ?_
          refine jr_ek2 e3 ?_
          refine jr_cV2i (pc := 40) hX lX6_94 (c_X6_timeTo hX.F σ6 a3 (p6.at (p5.at h3 :) :) _ _) (jd_dd hD rfl) (Nat.le_of_ble_eq_true rfl) dX6_leastLimit_40 (p6.at (p5.at h3 :) :) (fun r7 σ7 p7 => ?_)
          refine jr_mmax (pc := 43) hX lX6_142 (jd_d1 hD rfl) (Nat.le_of_ble_eq_true rfl) dX6_leastLimit_43 ?_
          refine jr_ist1 (pc := 46) hX (jn_r _ _) dX6_leastLimit_46 ?_
          refine jr_li ?_
          refine jr_inc2 (pc := 47) hX 1 rfl (jn_i _) dX6_leastLimit_47 ?_
          refine jr_goto (pc := 50) hX 4 dX6_leastLimit_50 (by decide) ?_
          refine jr_wk [true, true, true, false] ?_
          exact bk1 ((jd_max s1.1 r7), (s1.2 + 1)) _
      · refine jr_bipush (pc := 25) hX (-2) rfl dX6_leastLimit_25 ?_
        exact jr_iret (pc := 27) hX dX6_leastLimit_27 ((wr1 _ _).trans rfl)
def m_X6_sinkersOnTrial (t : Nat) (σ : jd_Hp) : Option (Int32 × jd_Hp) :=
jd_b (jd_lp (S := Int32 × Int32) (T := Int32) (fun s1 σ1 =>
jd_o σ1 (6, 8) (some t) fun a3 =>
jd_o σ1 (10, 16) (σ1.2.2.2 a3 5) fun a4 =>
jd_if ((σ1.2.1 a4 11) ≤ s1.2) (
some ((Sum.inr s1.1), σ1)) (
jd_o σ1 (4, 4) (σ1.2.2.2 a3 0) fun a5 =>
jd_b (m_X11_has (σ1.2.1 a5 2) s1.2 σ1) fun r6 σ6 =>
jd_if (¬ r6 = 0) (
some (Sum.inl (s1.1, (s1.2 + 1)), σ6)) (
jd_b (m_X6_nearIn a3 (σ6.2.2.2 a3 4) s1.2 σ6) fun r7 σ7 =>
jd_b (m_J6_bitCount_0f7a4 r7 σ7) fun r8 σ8 =>
jd_o σ8 (10, 16) (σ6.2.2.2 a3 5) fun a9 =>
jd_b (m_X10_sinkMinute a9 s1.2 r8 σ8) fun r10 σ10 =>
jd_if (r10 = (-2)) (
some (Sum.inl (s1.1, (s1.2 + 1)), σ10)) (
some (Sum.inl ((s1.1 + 1), (s1.2 + 1)), σ10))))) jd_fu (0, 0) σ) fun t2 σ2 =>
some (t2, σ2)
set_option maxHeartbeats 4000000 in
set_option maxRecDepth 20000 in
theorem c_X6_sinkersOnTrial {l : Launch} {s0 : State} {G : jd_G} (hF : jd_F s0 G) (σ : jd_Hp) (t : Nat) (ht : σ.1[t]? = some (6, 8)) : jd_M l s0 G yX6_sinkersOnTrial cX6_sinkersOnTrial 3 (some .int) 2 je_i [jd_v G (some t)] σ (m_X6_sinkersOnTrial t σ) := by
  refine jd_enter hF (by decide) (fun G => [some (jd_v G (some t)), none, none]) rfl (by simp [lv_args, jd_al, jd_v_cat, jd_cti, jd_ctl]) (by simp [lg_sl, jd_v_cat, jd_cti, jd_ctl]) (fun X hD hX => ?_)
  have hX : jd_C X RX6 "sinkersOnTrial" cX6_sinkersOnTrial 3 (some .int) := hX
  unfold m_X6_sinkersOnTrial
  refine jr_iconst (pc := 0) hX 0 rfl dX6_sinkersOnTrial_0 ?_
  refine jr_ist1 (pc := 1) hX (jn_r _ _) dX6_sinkersOnTrial_1 ?_
  refine jr_iconst (pc := 2) hX 0 rfl dX6_sinkersOnTrial_2 ?_
  refine jr_ist2 (pc := 3) hX (jn_i _) dX6_sinkersOnTrial_3 ?_
  refine jr_loop (pc := 4) (fun (s1 : Int32 × Int32) => [some (jd_v (jd_gG X) (some t)), some (.int s1.1), some (.int s1.2)]) (fun (t2 : Int32) => [none, some (.int t2), none]) 63 (0, 0) (fun t2 σ2 => ?_) (fun K1 bk1 ex1 s1 σ1 => ?_)
  · refine jr_ild1 (pc := 63) hX dX6_sinkersOnTrial_63 ?_
    exact jr_iret (pc := 64) hX dX6_sinkersOnTrial_64 rfl
  · refine jr_ild2 (pc := 4) hX dX6_sinkersOnTrial_4 ?_
    refine jr_ald0 (pc := 5) hX dX6_sinkersOnTrial_5 ?_
    refine jr_ck0 (fun a3 e3 h3 => ?_)
    refine jr_getr (pc := 6) hX fX6_34 rfl dX6_sinkersOnTrial_6 h3 ?_
    refine jr_ck0 (fun a4 e4 h4 => ?_)
    refine jr_geti (pc := 9) hX fX6_52 rfl dX6_sinkersOnTrial_9 h4 ?_
    refine jr_icge (pc := 12) hX 63 dX6_sinkersOnTrial_12 (by decide) ?_ ?_
    · refine jr_wk [false, true, false] ?_
      exact ex1 s1.1 _
    · refine jr_ald0 (pc := 15) hX dX6_sinkersOnTrial_15 ?_
      refine jr_ek0 e3 ?_
      refine jr_getr (pc := 16) hX fX6_12 rfl dX6_sinkersOnTrial_16 h3 ?_
      refine jr_ck0 (fun a5 e5 h5 => ?_)
      refine jr_geti (pc := 19) hX fX6_62 rfl dX6_sinkersOnTrial_19 h5 ?_
      refine jr_ild2 (pc := 22) hX dX6_sinkersOnTrial_22 ?_
      refine jr_cS2i (pc := 23) hX lX6_65 (c_X11_has hX.F σ1 _ _) (jd_dd hD rfl) (Nat.le_of_ble_eq_true rfl) dX6_sinkersOnTrial_23 (fun r6 σ6 p6 => ?_)
      refine jr_ifne (pc := 26) hX 57 dX6_sinkersOnTrial_26 (by decide) ?_ ?_
      · refine jr_inc2 (pc := 57) hX 1 rfl (jn_i _) dX6_sinkersOnTrial_57 ?_
        refine jr_goto (pc := 60) hX 4 dX6_sinkersOnTrial_60 (by decide) ?_
        exact bk1 (s1.1, (s1.2 + 1)) _
      · refine jr_ald0 (pc := 29) hX dX6_sinkersOnTrial_29 ?_
        refine jr_ek0 e3 ?_
        refine jr_getr (pc := 30) hX fX6_34 rfl dX6_sinkersOnTrial_30 (p6.at h3 :) ?_
        refine jr_ild2 (pc := 33) hX dX6_sinkersOnTrial_33 ?_
        refine jr_ald0 (pc := 34) hX dX6_sinkersOnTrial_34 ?_
        refine jr_ald0 (pc := 35) hX dX6_sinkersOnTrial_35 ?_
        refine jr_ek0 e3 ?_
        refine jr_getr (pc := 36) hX fX6_28 rfl dX6_sinkersOnTrial_36 (p6.at h3 :) ?_
        refine jr_ild2 (pc := 39) hX dX6_sinkersOnTrial_39 ?_
        refine jr_ek2 e3 ?_
        refine jr_cV2i (pc := 40) hX lX6_58 (c_X6_nearIn hX.F σ6 a3 (p6.at h3 :) _ _) (jd_dd hD rfl) (by simp [jd_v_cat, jd_cti, jd_ctl]) dX6_sinkersOnTrial_40 (p6.at h3 :) (fun r7 σ7 p7 => ?_)
        refine jr_cS1i (pc := 43) hX lX6_69 (c_J6_bitCount_0f7a4 hX.F σ7 _) (jd_dd hD rfl) (by simp [jd_v_cat, jd_cti, jd_ctl]) dX6_sinkersOnTrial_43 (fun r8 σ8 p8 => ?_)
        refine jr_ck2 (fun a9 e9 h9 => ?_)
        refine jr_cV2i (pc := 46) hX lX6_75 (c_X10_sinkMinute hX.F σ8 a9 h9 _ _) (jd_dd hD rfl) (Nat.le_of_ble_eq_true rfl) dX6_sinkersOnTrial_46 h9 (fun r10 σ10 p10 => ?_)
        refine jr_bipush (pc := 49) hX (-2) rfl dX6_sinkersOnTrial_49 ?_
        refine jr_iceq (pc := 51) hX 57 dX6_sinkersOnTrial_51 (by decide) ?_ ?_
        · refine jr_inc2 (pc := 57) hX 1 rfl (jn_i _) dX6_sinkersOnTrial_57 ?_
          refine jr_goto (pc := 60) hX 4 dX6_sinkersOnTrial_60 (by decide) ?_
          exact bk1 (s1.1, (s1.2 + 1)) _
        · refine jr_inc1 (pc := 54) hX 1 rfl (jn_r _ _) dX6_sinkersOnTrial_54 ?_
          refine jr_inc2 (pc := 57) hX 1 rfl (jn_i _) dX6_sinkersOnTrial_57 ?_
          refine jr_goto (pc := 60) hX 4 dX6_sinkersOnTrial_60 (by decide) ?_
          exact bk1 ((s1.1 + 1), (s1.2 + 1)) _
def m_X6_placeOfFewestSinkers (t : Nat) (x0p : Int32) (σ : jd_Hp) : Option (Int32 × jd_Hp) :=
jd_b (jd_lp (S := Int32) (T := Unit) (fun s1 σ1 =>
jd_o σ1 (6, 8) (some t) fun a3 =>
jd_o σ1 (10, 16) (σ1.2.2.2 a3 5) fun a4 =>
jd_if ((σ1.2.1 a4 11) ≤ s1) (
some ((Sum.inr ()), σ1)) (
jd_o σ1 (4, 4) (σ1.2.2.2 a3 0) fun a5 =>
jd_ia σ1 20 (σ1.2.2.2 a5 0) s1 fun a6 j6 =>
jd_ia σ1 20 (σ1.2.2.2 a3 4) s1 fun a7 j7 =>
jd_li (jd_pi σ1 a7 j7 (σ1.2.1 a6 j6)) fun τ8 =>
some (Sum.inl (s1 + 1), τ8))) jd_fu 0 σ) fun t2 σ2 =>
jd_b (jd_lp (S := Int32 × Int32 × Int32) (T := Int32) (fun s9 σ9 =>
jd_if (99 < s9.2.2) (
some ((Sum.inr s9.1), σ9)) (
jd_o σ9 (6, 8) (some t) fun a11 =>
jd_ia σ9 20 (σ9.2.2.2 a11 4) x0p fun a12 j12 =>
jd_li (jd_pi σ9 a12 j12 s9.2.2) fun τ13 =>
jd_b (m_X6_sinkersOnTrial a11 τ13) fun r14 σ14 =>
jd_if (s9.2.1 ≤ r14) (
some (Sum.inl (s9.1, s9.2.1, (s9.2.2 + 1)), σ14)) (
some (Sum.inl (s9.2.2, r14, (s9.2.2 + 1)), σ14)))) jd_fu (0, 7, 0) σ2) fun t10 σ10 =>
some (t10, σ10)
set_option maxHeartbeats 4000000 in
set_option maxRecDepth 20000 in
theorem c_X6_placeOfFewestSinkers {l : Launch} {s0 : State} {G : jd_G} (hF : jd_F s0 G) (σ : jd_Hp) (t : Nat) (ht : σ.1[t]? = some (6, 8)) (x0p : Int32) : jd_M l s0 G yX6_placeOfFewestSinkers cX6_placeOfFewestSinkers 6 (some .int) 3 je_i [jd_v G (some t), .int x0p] σ (m_X6_placeOfFewestSinkers t x0p σ) := by
  refine jd_enter hF (by decide) (fun G => [some (jd_v G (some t)), some (.int x0p), none, none, none, none]) rfl (by simp [lv_args, jd_al, jd_v_cat, jd_cti, jd_ctl]) (by simp [lg_sl, jd_v_cat, jd_cti, jd_ctl]) (fun X hD hX => ?_)
  have hX : jd_C X RX6 "placeOfFewestSinkers" cX6_placeOfFewestSinkers 6 (some .int) := hX
  unfold m_X6_placeOfFewestSinkers
  refine jr_iconst (pc := 0) hX 0 rfl dX6_placeOfFewestSinkers_0 ?_
  refine jr_ist2 (pc := 1) hX (jn_i _) dX6_placeOfFewestSinkers_1 ?_
  refine jr_loop (pc := 2) (fun (s1 : Int32) => [some (jd_v (jd_gG X) (some t)), some (.int x0p), some (.int s1), none, none, none]) (fun (t2 : Unit) => [some (jd_v (jd_gG X) (some t)), some (.int x0p), none, none, none, none]) 34 0 (fun t2 σ2 => ?_) (fun K1 bk1 ex1 s1 σ1 => ?_)
  · refine jr_iconst (pc := 34) hX 0 rfl dX6_placeOfFewestSinkers_34 ?_
    refine jr_ist2 (pc := 35) hX (jn_i _) dX6_placeOfFewestSinkers_35 ?_
    refine jr_bipush (pc := 36) hX 7 rfl dX6_placeOfFewestSinkers_36 ?_
    refine jr_ist3 (pc := 38) hX (jn_i _) dX6_placeOfFewestSinkers_38 ?_
    refine jr_iconst (pc := 39) hX 0 rfl dX6_placeOfFewestSinkers_39 ?_
    refine jr_ist4 (pc := 40) hX (jn_i _) dX6_placeOfFewestSinkers_40 ?_
    refine jr_loop (pc := 42) (fun (s9 : Int32 × Int32 × Int32) => [some (jd_v (jd_gG X) (some t)), some (.int x0p), some (.int s9.1), some (.int s9.2.1), some (.int s9.2.2), none]) (fun (t10 : Int32) => [none, none, some (.int t10), none, none, none]) 81 (0, 7, 0) (fun t10 σ10 => ?_) (fun K9 bk9 ex9 s9 σ9 => ?_)
    · refine jr_ild2 (pc := 81) hX dX6_placeOfFewestSinkers_81 ?_
      exact jr_iret (pc := 82) hX dX6_placeOfFewestSinkers_82 rfl
    · refine jr_ild4 (pc := 42) hX dX6_placeOfFewestSinkers_42 ?_
      refine jr_bipush (pc := 44) hX 99 rfl dX6_placeOfFewestSinkers_44 ?_
      refine jr_icgt (pc := 46) hX 81 dX6_placeOfFewestSinkers_46 (by decide) ?_ ?_
      · refine jr_wk [false, false, true, false, false, true] ?_
        exact ex9 s9.1 _
      · refine jr_ald0 (pc := 49) hX dX6_placeOfFewestSinkers_49 ?_
        refine jr_ck0 (fun a11 e11 h11 => ?_)
        refine jr_getr (pc := 50) hX fX6_28 rfl dX6_placeOfFewestSinkers_50 h11 ?_
        refine jr_ild1 (pc := 53) hX dX6_placeOfFewestSinkers_53 ?_
        refine jr_ild4 (pc := 54) hX dX6_placeOfFewestSinkers_54 ?_
        refine jr_iaS (pc := 56) hX dX6_placeOfFewestSinkers_56 (fun a12 n12 e12 h12 => ?_)
        refine jr_li ?_
        refine jr_ald0 (pc := 57) hX dX6_placeOfFewestSinkers_57 ?_
        refine jr_ek0 e11 ?_
        refine jr_cV0i (pc := 58) hX lX6_145 (c_X6_sinkersOnTrial hX.F (jd_pi σ9 a12 x0p.toNatClampNeg s9.2.2) a11 h11) (jd_dd hD rfl) (Nat.le_of_ble_eq_true rfl) dX6_placeOfFewestSinkers_58 h11 (fun r14 σ14 p14 => ?_)
        refine jr_ist5 (pc := 61) hX (jn_i _) dX6_placeOfFewestSinkers_61 ?_
        refine jr_ild5 (pc := 63) hX dX6_placeOfFewestSinkers_63 ?_
        refine jr_ild3 (pc := 65) hX dX6_placeOfFewestSinkers_65 ?_
        refine jr_icge (pc := 66) hX 75 dX6_placeOfFewestSinkers_66 (by decide) ?_ ?_
        · refine jr_inc4 (pc := 75) hX 1 rfl (jn_i _) dX6_placeOfFewestSinkers_75 ?_
          refine jr_goto (pc := 78) hX 42 dX6_placeOfFewestSinkers_78 (by decide) ?_
          refine jr_wk [true, true, true, true, true, false] ?_
          exact bk9 (s9.1, s9.2.1, (s9.2.2 + 1)) _
        · refine jr_ild5 (pc := 69) hX dX6_placeOfFewestSinkers_69 ?_
          refine jr_ist3 (pc := 71) hX (jn_i _) dX6_placeOfFewestSinkers_71 ?_
          refine jr_ild4 (pc := 72) hX dX6_placeOfFewestSinkers_72 ?_
          refine jr_ist2 (pc := 74) hX (jn_i _) dX6_placeOfFewestSinkers_74 ?_
          refine jr_inc4 (pc := 75) hX 1 rfl (jn_i _) dX6_placeOfFewestSinkers_75 ?_
          refine jr_goto (pc := 78) hX 42 dX6_placeOfFewestSinkers_78 (by decide) ?_
          refine jr_wk [true, true, true, true, true, false] ?_
          exact bk9 (s9.2.2, r14, (s9.2.2 + 1)) _
  · refine jr_ild2 (pc := 2) hX dX6_placeOfFewestSinkers_2 ?_
    refine jr_ald0 (pc := 3) hX dX6_placeOfFewestSinkers_3 ?_
    refine jr_ck0 (fun a3 e3 h3 => ?_)
    refine jr_getr (pc := 4) hX fX6_34 rfl dX6_placeOfFewestSinkers_4 h3 ?_
    refine jr_ck0 (fun a4 e4 h4 => ?_)
    refine jr_geti (pc := 7) hX fX6_52 rfl dX6_placeOfFewestSinkers_7 h4 ?_
    refine jr_icge (pc := 10) hX 34 dX6_placeOfFewestSinkers_10 (by decide) ?_ ?_
    · refine jr_wk [true, true, false, true, true, true] ?_
      exact ex1 () _
    · refine jr_ald0 (pc := 13) hX dX6_placeOfFewestSinkers_13 ?_
      refine jr_ek0 e3 ?_
      refine jr_getr (pc := 14) hX fX6_28 rfl dX6_placeOfFewestSinkers_14 h3 ?_
      refine jr_ild2 (pc := 17) hX dX6_placeOfFewestSinkers_17 ?_
      refine jr_ald0 (pc := 18) hX dX6_placeOfFewestSinkers_18 ?_
      refine jr_ek0 e3 ?_
      refine jr_getr (pc := 19) hX fX6_12 rfl dX6_placeOfFewestSinkers_19 h3 ?_
      refine jr_ck0 (fun a5 e5 h5 => ?_)
      refine jr_getr (pc := 22) hX fX6_55 rfl dX6_placeOfFewestSinkers_22 h5 ?_
      refine jr_ild2 (pc := 25) hX dX6_placeOfFewestSinkers_25 ?_
      refine jr_iaC (pc := 26) hX dX6_placeOfFewestSinkers_26 (fun a6 n6 e6 h6 => ?_)
      refine jr_iaS (pc := 27) hX dX6_placeOfFewestSinkers_27 (fun a7 n7 e7 h7 => ?_)
      refine jr_li ?_
      refine jr_inc2 (pc := 28) hX 1 rfl (jn_i _) dX6_placeOfFewestSinkers_28 ?_
      refine jr_goto (pc := 31) hX 2 dX6_placeOfFewestSinkers_31 (by decide) ?_
      exact bk1 (s1 + 1) _
def m_X7_init (t : Nat) (σ : jd_Hp) : Option (Unit × jd_Hp) :=
jd_li (jd_new σ (23, 6)) fun τ1 =>
jd_li (jd_pr τ1 t 0 (some σ.1.length)) fun τ2 =>
jd_li (jd_pi τ2 t 1 0) fun τ3 =>
jd_li (jd_pl τ3 t 2 0) fun τ4 =>
some ((), τ4)
set_option maxHeartbeats 4000000 in
set_option maxRecDepth 20000 in
theorem c_X7_init {l : Launch} {s0 : State} {G : jd_G} (hF : jd_F s0 G) (σ : jd_Hp) (t : Nat) (ht : σ.1[t]? = some (7, 3)) : jd_M l s0 G yX7_init cX7_init 1 none 1 je_v [jd_v G (some t)] σ (m_X7_init t σ) := by
  refine jd_enter hF (by decide) (fun G => [some (jd_v G (some t))]) rfl (by simp [lv_args, jd_al, jd_v_cat, jd_cti, jd_ctl]) (by simp [lg_sl, jd_v_cat, jd_cti, jd_ctl]) (fun X hD hX => ?_)
  have hX : jd_C X RX7 "<init>" cX7_init 1 none := hX
  unfold m_X7_init
  refine jr_ald0 (pc := 0) hX dX7_init_0 ?_
  refine jr_oinit (pc := 1) hX lX7_3 (jd_d1 hD rfl) (Nat.le_of_ble_eq_true rfl) dX7_init_1 ?_
  refine jr_ald0 (pc := 4) hX dX7_init_4 ?_
  refine jr_bipush (pc := 5) hX 6 rfl dX7_init_5 ?_
  refine jr_newal (pc := 7) hX 6 (by decide) (by decide) (by decide) aC_long dX7_init_7 ?_
  refine jr_li ?_
  refine jr_putrF (pc := 9) hX fX7_9 rfl ⟨_, _, rfl, rfl⟩ rfl dX7_init_9 ((jd_p.new σ (23, 6)).at ht :) ?_
  refine jr_li ?_
  refine jr_ald0 (pc := 12) hX dX7_init_12 ?_
  refine jr_iconst (pc := 13) hX 0 rfl dX7_init_13 ?_
  refine jr_puti (pc := 14) hX fX7_15 rfl dX7_init_14 ((jd_p.new σ (23, 6)).at ht :) ?_
  refine jr_li ?_
  refine jr_ald0 (pc := 17) hX dX7_init_17 ?_
  refine jr_lconst (pc := 18) hX 0 rfl dX7_init_18 ?_
  refine jr_putl (pc := 19) hX fX7_19 rfl dX7_init_19 ((jd_p.new σ (23, 6)).at ht :) ?_
  refine jr_li ?_
  exact jr_vret (pc := 22) hX dX7_init_22 rfl
def m_X7_weightIfSinking (o0p : (Option Nat)) (x1p : Int32) (σ : jd_Hp) : Option (Int64 × jd_Hp) :=
jd_b (jd_lp (S := Int64 × Int32) (T := Int64) (fun s1 σ1 =>
jd_o σ1 (10, 16) o0p fun a3 =>
jd_if ((σ1.2.1 a3 11) ≤ s1.2) (
some ((Sum.inr s1.1), σ1)) (
jd_ia σ1 20 (σ1.2.2.2 a3 5) s1.2 fun a4 j4 =>
jd_if ((σ1.2.1 a4 j4) = 0) (
some (Sum.inl (s1.1, (s1.2 + 1)), σ1)) (
jd_ia σ1 20 (σ1.2.2.2 a3 5) s1.2 fun a5 j5 =>
jd_b (α := Int32) (
jd_if (¬ (σ1.2.1 a5 j5) = 1) (
some (0, σ1)) (
some (1, σ1))) fun t6 σ6 =>
jd_b (α := Int32) (
jd_if (¬ s1.2 = x1p) (
some (0, σ6)) (
some (1, σ6))) fun t7 σ7 =>
jd_b (α := Int32) (
jd_if (t6 = t7) (
some (0, σ7)) (
some (1, σ7))) fun t8 σ8 =>
jd_if (t8 = 0) (
jd_o σ8 (10, 16) o0p fun a9 =>
jd_li (s1.1 * (100 - (σ8.2.1 a9 10)).toInt64) fun x10 =>
some (Sum.inl (x10, (s1.2 + 1)), σ8)) (
jd_o σ8 (10, 16) o0p fun a11 =>
jd_li (s1.1 * (σ8.2.1 a11 10).toInt64) fun x12 =>
some (Sum.inl (x12, (s1.2 + 1)), σ8))))) jd_fu (1, 0) σ) fun t2 σ2 =>
some (t2, σ2)
set_option maxHeartbeats 4000000 in
set_option maxRecDepth 20000 in
theorem c_X7_weightIfSinking {l : Launch} {s0 : State} {G : jd_G} (hF : jd_F s0 G) (σ : jd_Hp) (o0p : (Option Nat)) (x1p : Int32) : jd_M l s0 G yX7_weightIfSinking cX7_weightIfSinking 6 (some .long) 0 je_l [jd_v G o0p, .int x1p] σ (m_X7_weightIfSinking o0p x1p σ) := by
  refine jd_enter hF (by decide) (fun G => [some (jd_v G o0p), some (.int x1p), none, none, none, none]) rfl (by simp [lv_args, jd_al, jd_v_cat, jd_cti, jd_ctl]) (by simp [lg_sl, jd_v_cat, jd_cti, jd_ctl]) (fun X hD hX => ?_)
  have hX : jd_C X RX7 "weightIfSinking" cX7_weightIfSinking 6 (some .long) := hX
  unfold m_X7_weightIfSinking
  refine jr_lconst (pc := 0) hX 1 rfl dX7_weightIfSinking_0 ?_
  refine jr_lst2 (pc := 1) hX (jn_i _) dX7_weightIfSinking_1 ?_
  refine jr_iconst (pc := 2) hX 0 rfl dX7_weightIfSinking_2 ?_
  refine jr_ist4 (pc := 3) hX jn_n dX7_weightIfSinking_3 ?_
  refine jr_loop (pc := 5) (fun (s1 : Int64 × Int32) => [some (jd_v (jd_gG X) o0p), some (.int x1p), some (.long s1.1), none, some (.int s1.2), none]) (fun (t2 : Int64) => [none, none, some (.long t2), none, none, none]) 91 (1, 0) (fun t2 σ2 => ?_) (fun K1 bk1 ex1 s1 σ1 => ?_)
  · refine jr_lld2 (pc := 91) hX dX7_weightIfSinking_91 ?_
    exact jr_lret (pc := 92) hX dX7_weightIfSinking_92 rfl
  · refine jr_ild4 (pc := 5) hX dX7_weightIfSinking_5 ?_
    refine jr_ald0 (pc := 7) hX dX7_weightIfSinking_7 ?_
    refine jr_ck0 (fun a3 e3 h3 => ?_)
    refine jr_geti (pc := 8) hX fX7_23 rfl dX7_weightIfSinking_8 h3 ?_
    refine jr_icge (pc := 11) hX 91 dX7_weightIfSinking_11 (by decide) ?_ ?_
    · refine jr_wk [false, false, true, true, false, true] ?_
      exact ex1 s1.1 _
    · refine jr_ald0 (pc := 14) hX dX7_weightIfSinking_14 ?_
      refine jr_ek0 e3 ?_
      refine jr_getr (pc := 15) hX fX7_30 rfl dX7_weightIfSinking_15 h3 ?_
      refine jr_ild4 (pc := 18) hX dX7_weightIfSinking_18 ?_
      refine jr_iaC (pc := 20) hX dX7_weightIfSinking_20 (fun a4 n4 e4 h4 => ?_)
      refine jr_ifeq (pc := 21) hX 85 dX7_weightIfSinking_21 (by decide) ?_ ?_
      · refine jr_inc4 (pc := 85) hX 1 rfl jn_n dX7_weightIfSinking_85 ?_
        refine jr_goto (pc := 88) hX 5 dX7_weightIfSinking_88 (by decide) ?_
        exact bk1 (s1.1, (s1.2 + 1)) _
      · refine jr_ald0 (pc := 24) hX dX7_weightIfSinking_24 ?_
        refine jr_ek0 e3 ?_
        refine jr_getr (pc := 25) hX fX7_30 rfl dX7_weightIfSinking_25 h3 ?_
        refine jr_ild4 (pc := 28) hX dX7_weightIfSinking_28 ?_
        refine jr_iaC (pc := 30) hX dX7_weightIfSinking_30 (fun a5 n5 e5 h5 => ?_)
        refine jr_iconst (pc := 31) hX 1 rfl dX7_weightIfSinking_31 ?_
        refine jr_join (pc := 32) 40 (fun (t6 : Int32) => [some (jd_v (jd_gG X) o0p), some (.int x1p), some (.long s1.1), none, some (.int s1.2), none]) (fun (t6 : Int32) => [.int t6]) (fun t6 σ6 => ?_) (fun K6 jj6 => ?_)
        · refine jr_ild4 (pc := 40) hX dX7_weightIfSinking_40 ?_
          refine jr_ild1 (pc := 42) hX dX7_weightIfSinking_42 ?_
          refine jr_join (pc := 43) 51 (fun (t7 : Int32) => [some (jd_v (jd_gG X) o0p), some (.int x1p), some (.long s1.1), none, some (.int s1.2), none]) (fun (t7 : Int32) => [.int t7, .int t6]) (fun t7 σ7 => ?_) (fun K7 jj7 => ?_)
          · refine jr_join (pc := 51) 59 (fun (t8 : Int32) => [some (jd_v (jd_gG X) o0p), some (.int x1p), some (.long s1.1), none, some (.int s1.2), none]) (fun (t8 : Int32) => [.int t8]) (fun t8 σ8 => ?_) (fun K8 jj8 => ?_)
            · refine jr_ist5 (pc := 59) hX (jn_i _) dX7_weightIfSinking_59 ?_
              refine jr_lld2 (pc := 61) hX dX7_weightIfSinking_61 ?_
              refine jr_ild5 (pc := 62) hX dX7_weightIfSinking_62 ?_
              refine jr_ifeq (pc := 64) hX 75 dX7_weightIfSinking_64 (by decide) ?_ ?_
              · refine jr_bipush (pc := 75) hX 100 rfl dX7_weightIfSinking_75 ?_
                refine jr_ald0 (pc := 77) hX dX7_weightIfSinking_77 ?_
                refine jr_ck0 (fun a9 e9 h9 => ?_)
                refine jr_geti (pc := 78) hX fX7_34 rfl dX7_weightIfSinking_78 h9 ?_
                refine jr_isub (pc := 81) hX dX7_weightIfSinking_81 ?_
                refine jr_i2l (pc := 82) hX dX7_weightIfSinking_82 ?_
                refine jr_lmul (pc := 83) hX dX7_weightIfSinking_83 ?_
                refine jr_lst2 (pc := 84) hX (jn_i _) dX7_weightIfSinking_84 ?_
                refine jr_li ?_
                refine jr_inc4 (pc := 85) hX 1 rfl jn_n dX7_weightIfSinking_85 ?_
                refine jr_goto (pc := 88) hX 5 dX7_weightIfSinking_88 (by decide) ?_
                refine jr_wk [true, true, true, true, true, false] ?_
                exact bk1 ((s1.1 * (100 - (σ8.2.1 a9 10)).toInt64), (s1.2 + 1)) _
              · refine jr_ald0 (pc := 67) hX dX7_weightIfSinking_67 ?_
                refine jr_ck0 (fun a11 e11 h11 => ?_)
                refine jr_geti (pc := 68) hX fX7_34 rfl dX7_weightIfSinking_68 h11 ?_
                refine jr_i2l (pc := 71) hX dX7_weightIfSinking_71 ?_
                refine jr_goto (pc := 72) hX 83 dX7_weightIfSinking_72 (by decide) ?_
                refine jr_lmul (pc := 83) hX dX7_weightIfSinking_83 ?_
                refine jr_lst2 (pc := 84) hX (jn_i _) dX7_weightIfSinking_84 ?_
                refine jr_li ?_
                refine jr_inc4 (pc := 85) hX 1 rfl jn_n dX7_weightIfSinking_85 ?_
                refine jr_goto (pc := 88) hX 5 dX7_weightIfSinking_88 (by decide) ?_
                refine jr_wk [true, true, true, true, true, false] ?_
                exact bk1 ((s1.1 * (σ8.2.1 a11 10).toInt64), (s1.2 + 1)) _
            · refine jr_iceq (pc := 51) hX 58 dX7_weightIfSinking_51 (by decide) ?_ ?_
              · refine jr_iconst (pc := 58) hX 0 rfl dX7_weightIfSinking_58 ?_
                exact jj8 0 _
              · refine jr_iconst (pc := 54) hX 1 rfl dX7_weightIfSinking_54 ?_
                refine jr_goto (pc := 55) hX 59 dX7_weightIfSinking_55 (by decide) ?_
                exact jj8 1 _
          · refine jr_icne (pc := 43) hX 50 dX7_weightIfSinking_43 (by decide) ?_ ?_
            · refine jr_iconst (pc := 50) hX 0 rfl dX7_weightIfSinking_50 ?_
              exact jj7 0 _
            · refine jr_iconst (pc := 46) hX 1 rfl dX7_weightIfSinking_46 ?_
              refine jr_goto (pc := 47) hX 51 dX7_weightIfSinking_47 (by decide) ?_
              exact jj7 1 _
        · refine jr_icne (pc := 32) hX 39 dX7_weightIfSinking_32 (by decide) ?_ ?_
          · refine jr_iconst (pc := 39) hX 0 rfl dX7_weightIfSinking_39 ?_
            exact jj6 0 _
          · refine jr_iconst (pc := 35) hX 1 rfl dX7_weightIfSinking_35 ?_
            refine jr_goto (pc := 36) hX 40 dX7_weightIfSinking_36 (by decide) ?_
            exact jj6 1 _
