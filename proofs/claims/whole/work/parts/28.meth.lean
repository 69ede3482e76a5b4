theorem qX13_refusesMinute : Cond.instanceMethod yX13_refusesMinute ∈ jd_TB ∧ Cond.selects RX13 yX13_refusesMinute yX13_refusesMinute ∈ jd_TB ∧ Cond.initialized RX13 ∈ jd_TB ∧ Cond.code yX13_refusesMinute cX13_refusesMinute 2 (some .int) ∈ jd_TB ∧ jd_ds yX13_refusesMinute 1 := ⟨jd_mem 1678 (by decide +kernel) (by decide +kernel), jd_mem 66 (by decide +kernel) (by decide +kernel), jd_mem 104 (by decide +kernel) (by decide +kernel), jd_mem 1679 (by decide +kernel) (by decide +kernel), ⟨by decide, by decide, by decide +kernel⟩⟩
theorem lX13_339 : jd_mv RX13 339 13 29 yX13_refusesMinute cX13_refusesMinute 2 (some .int) 1 := ⟨_, _, rfl, by decide, rfl, Or.inl (jd_mem 1676 (by decide +kernel) (by decide +kernel)), qX13_refusesMinute.1, qX13_refusesMinute.2.1, qX13_refusesMinute.2.2.1, qX13_refusesMinute.2.2.2.1, qX13_refusesMinute.2.2.2.2, by decide⟩
theorem qX13_nearestTo : Cond.instanceMethod yX13_nearestTo ∈ jd_TB ∧ Cond.selects RX13 yX13_nearestTo yX13_nearestTo ∈ jd_TB ∧ Cond.initialized RX13 ∈ jd_TB ∧ Cond.code yX13_nearestTo cX13_nearestTo 4 (some .int) ∈ jd_TB ∧ jd_ds yX13_nearestTo 1 := ⟨jd_mem 1702 (by decide +kernel) (by decide +kernel), jd_mem 68 (by decide +kernel) (by decide +kernel), jd_mem 104 (by decide +kernel) (by decide +kernel), jd_mem 1703 (by decide +kernel) (by decide +kernel), ⟨by decide, by decide, by decide +kernel⟩⟩
theorem lX13_342 : jd_mv RX13 342 13 29 yX13_nearestTo cX13_nearestTo 4 (some .int) 1 := ⟨_, _, rfl, by decide, rfl, Or.inl (jd_mem 1700 (by decide +kernel) (by decide +kernel)), qX13_nearestTo.1, qX13_nearestTo.2.1, qX13_nearestTo.2.2.1, qX13_nearestTo.2.2.2.1, qX13_nearestTo.2.2.2.2, by decide⟩
theorem qX13_areAllReached : Cond.instanceMethod yX13_areAllReached ∈ jd_TB ∧ Cond.selects RX13 yX13_areAllReached yX13_areAllReached ∈ jd_TB ∧ Cond.initialized RX13 ∈ jd_TB ∧ Cond.code yX13_areAllReached cX13_areAllReached 2 (some .boolean) ∈ jd_TB ∧ jd_ds yX13_areAllReached 1 := ⟨jd_mem 1710 (by decide +kernel) (by decide +kernel), jd_mem 69 (by decide +kernel) (by decide +kernel), jd_mem 104 (by decide +kernel) (by decide +kernel), jd_mem 1711 (by decide +kernel) (by decide +kernel), ⟨by decide, by decide, by decide +kernel⟩⟩
theorem lX13_345 : jd_mv RX13 345 13 29 yX13_areAllReached cX13_areAllReached 2 (some .boolean) 1 := ⟨_, _, rfl, by decide, rfl, Or.inl (jd_mem 1708 (by decide +kernel) (by decide +kernel)), qX13_areAllReached.1, qX13_areAllReached.2.1, qX13_areAllReached.2.2.1, qX13_areAllReached.2.2.2.1, qX13_areAllReached.2.2.2.2, by decide⟩
theorem dX13_refusesMinute_0 : decode cX13_refusesMinute 0 = .ok (.aload_n 0, 1) := by decide +kernel
theorem dX13_refusesMinute_1 : decode cX13_refusesMinute 1 = .ok (.getfield 289, 3) := by decide +kernel
theorem dX13_refusesMinute_4 : decode cX13_refusesMinute 4 = .ok (.ifnonnull 7, 3) := by decide +kernel
theorem dX13_refusesMinute_7 : decode cX13_refusesMinute 7 = .ok (.iconst 1, 1) := by decide +kernel
theorem dX13_refusesMinute_8 : decode cX13_refusesMinute 8 = .ok (.goto 19, 3) := by decide +kernel
theorem dX13_refusesMinute_11 : decode cX13_refusesMinute 11 = .ok (.iload_n 1, 1) := by decide +kernel
theorem dX13_refusesMinute_12 : decode cX13_refusesMinute 12 = .ok (.iconst 0, 1) := by decide +kernel
theorem dX13_refusesMinute_13 : decode cX13_refusesMinute 13 = .ok (.sipush 200, 3) := by decide +kernel
theorem dX13_refusesMinute_16 : decode cX13_refusesMinute 16 = .ok (.invokestatic 131, 3) := by decide +kernel
theorem dX13_refusesMinute_19 : decode cX13_refusesMinute 19 = .ok (.ifCond .eq 7, 3) := by decide +kernel
theorem dX13_refusesMinute_22 : decode cX13_refusesMinute 22 = .ok (.iconst 0, 1) := by decide +kernel
theorem dX13_refusesMinute_23 : decode cX13_refusesMinute 23 = .ok (.goto 4, 3) := by decide +kernel
theorem dX13_refusesMinute_26 : decode cX13_refusesMinute 26 = .ok (.iconst 2, 1) := by decide +kernel
theorem dX13_refusesMinute_27 : decode cX13_refusesMinute 27 = .ok (.ireturn, 1) := by decide +kernel
theorem dX13_under_0 : decode cX13_under 0 = .ok (.aload_n 0, 1) := by decide +kernel
theorem dX13_under_1 : decode cX13_under 1 = .ok (.iconst 0, 1) := by decide +kernel
theorem dX13_under_2 : decode cX13_under 2 = .ok (.putfield 48, 3) := by decide +kernel
theorem dX13_under_5 : decode cX13_under 5 = .ok (.aload_n 0, 1) := by decide +kernel
theorem dX13_under_6 : decode cX13_under 6 = .ok (.iload_n 1, 1) := by decide +kernel
theorem dX13_under_7 : decode cX13_under 7 = .ok (.invokevirtual 339, 3) := by decide +kernel
theorem dX13_under_10 : decode cX13_under 10 = .ok (.istore_n 2, 1) := by decide +kernel
theorem dX13_under_11 : decode cX13_under 11 = .ok (.iload_n 2, 1) := by decide +kernel
theorem dX13_under_12 : decode cX13_under 12 = .ok (.ifCond .le 9, 3) := by decide +kernel
theorem dX13_under_15 : decode cX13_under 15 = .ok (.aload_n 0, 1) := by decide +kernel
theorem dX13_under_16 : decode cX13_under 16 = .ok (.iload_n 2, 1) := by decide +kernel
theorem dX13_under_17 : decode cX13_under 17 = .ok (.invokevirtual 54, 3) := by decide +kernel
theorem dX13_under_20 : decode cX13_under 20 = .ok (.ireturn, 1) := by decide +kernel
theorem dX13_under_21 : decode cX13_under 21 = .ok (.aload_n 0, 1) := by decide +kernel
theorem dX13_under_22 : decode cX13_under 22 = .ok (.invokevirtual 324, 3) := by decide +kernel
theorem dX13_under_25 : decode cX13_under 25 = .ok (.aload_n 0, 1) := by decide +kernel
theorem dX13_under_26 : decode cX13_under 26 = .ok (.aload_n 0, 1) := by decide +kernel
theorem dX13_under_27 : decode cX13_under 27 = .ok (.iload_n 1, 1) := by decide +kernel
theorem dX13_under_28 : decode cX13_under 28 = .ok (.invokevirtual 330, 3) := by decide +kernel
theorem dX13_under_31 : decode cX13_under 31 = .ok (.invokevirtual 58, 3) := by decide +kernel
theorem dX13_under_34 : decode cX13_under 34 = .ok (.ireturn, 1) := by decide +kernel
theorem dX13_lost_0 : decode cX13_lost 0 = .ok (.aload_n 0, 1) := by decide +kernel
theorem dX13_lost_1 : decode cX13_lost 1 = .ok (.iconst 0, 1) := by decide +kernel
theorem dX13_lost_2 : decode cX13_lost 2 = .ok (.putfield 48, 3) := by decide +kernel
theorem dX13_lost_5 : decode cX13_lost 5 = .ok (.aload_n 0, 1) := by decide +kernel
theorem dX13_lost_6 : decode cX13_lost 6 = .ok (.iload_n 1, 1) := by decide +kernel
theorem dX13_lost_7 : decode cX13_lost 7 = .ok (.invokevirtual 339, 3) := by decide +kernel
theorem dX13_lost_10 : decode cX13_lost 10 = .ok (.istore_n 2, 1) := by decide +kernel
theorem dX13_lost_11 : decode cX13_lost 11 = .ok (.iload_n 2, 1) := by decide +kernel
theorem dX13_lost_12 : decode cX13_lost 12 = .ok (.ifCond .le 9, 3) := by decide +kernel
theorem dX13_lost_15 : decode cX13_lost 15 = .ok (.aload_n 0, 1) := by decide +kernel
theorem dX13_lost_16 : decode cX13_lost 16 = .ok (.iload_n 2, 1) := by decide +kernel
theorem dX13_lost_17 : decode cX13_lost 17 = .ok (.invokevirtual 54, 3) := by decide +kernel
theorem dX13_lost_20 : decode cX13_lost 20 = .ok (.ireturn, 1) := by decide +kernel
theorem dX13_lost_21 : decode cX13_lost 21 = .ok (.aload_n 0, 1) := by decide +kernel
theorem dX13_lost_22 : decode cX13_lost 22 = .ok (.invokevirtual 324, 3) := by decide +kernel
theorem dX13_lost_25 : decode cX13_lost 25 = .ok (.aload_n 0, 1) := by decide +kernel
theorem dX13_lost_26 : decode cX13_lost 26 = .ok (.aload_n 0, 1) := by decide +kernel
theorem dX13_lost_27 : decode cX13_lost 27 = .ok (.iload_n 1, 1) := by decide +kernel
theorem dX13_lost_28 : decode cX13_lost 28 = .ok (.invokevirtual 333, 3) := by decide +kernel
theorem dX13_lost_31 : decode cX13_lost 31 = .ok (.invokevirtual 58, 3) := by decide +kernel
theorem dX13_lost_34 : decode cX13_lost 34 = .ok (.ireturn, 1) := by decide +kernel
theorem dX13_worstMinute_0 : decode cX13_worstMinute 0 = .ok (.aload_n 0, 1) := by decide +kernel
theorem dX13_worstMinute_1 : decode cX13_worstMinute 1 = .ok (.iconst 0, 1) := by decide +kernel
theorem dX13_worstMinute_2 : decode cX13_worstMinute 2 = .ok (.putfield 48, 3) := by decide +kernel
theorem dX13_worstMinute_5 : decode cX13_worstMinute 5 = .ok (.aload_n 0, 1) := by decide +kernel
theorem dX13_worstMinute_6 : decode cX13_worstMinute 6 = .ok (.getfield 289, 3) := by decide +kernel
theorem dX13_worstMinute_9 : decode cX13_worstMinute 9 = .ok (.ifnonnull 9, 3) := by decide +kernel
theorem dX13_worstMinute_12 : decode cX13_worstMinute 12 = .ok (.aload_n 0, 1) := by decide +kernel
theorem dX13_worstMinute_13 : decode cX13_worstMinute 13 = .ok (.iconst 1, 1) := by decide +kernel
theorem dX13_worstMinute_14 : decode cX13_worstMinute 14 = .ok (.invokevirtual 54, 3) := by decide +kernel
theorem dX13_worstMinute_17 : decode cX13_worstMinute 17 = .ok (.ireturn, 1) := by decide +kernel
theorem dX13_worstMinute_18 : decode cX13_worstMinute 18 = .ok (.aload_n 0, 1) := by decide +kernel
theorem dX13_worstMinute_19 : decode cX13_worstMinute 19 = .ok (.invokevirtual 324, 3) := by decide +kernel
theorem dX13_worstMinute_22 : decode cX13_worstMinute 22 = .ok (.iconst 0, 1) := by decide +kernel
theorem dX13_worstMinute_23 : decode cX13_worstMinute 23 = .ok (.istore_n 1, 1) := by decide +kernel
theorem dX13_worstMinute_24 : decode cX13_worstMinute 24 = .ok (.iconst (-1), 1) := by decide +kernel
theorem dX13_worstMinute_25 : decode cX13_worstMinute 25 = .ok (.istore_n 2, 1) := by decide +kernel
theorem dX13_worstMinute_26 : decode cX13_worstMinute 26 = .ok (.iconst 0, 1) := by decide +kernel
theorem dX13_worstMinute_27 : decode cX13_worstMinute 27 = .ok (.istore_n 3, 1) := by decide +kernel
theorem dX13_worstMinute_28 : decode cX13_worstMinute 28 = .ok (.iload_n 3, 1) := by decide +kernel
theorem dX13_worstMinute_29 : decode cX13_worstMinute 29 = .ok (.sipush 200, 3) := by decide +kernel
theorem dX13_worstMinute_32 : decode cX13_worstMinute 32 = .ok (.if_icmp .gt 33, 3) := by decide +kernel
theorem dX13_worstMinute_35 : decode cX13_worstMinute 35 = .ok (.aload_n 0, 1) := by decide +kernel
theorem dX13_worstMinute_36 : decode cX13_worstMinute 36 = .ok (.iload_n 3, 1) := by decide +kernel
theorem dX13_worstMinute_37 : decode cX13_worstMinute 37 = .ok (.invokevirtual 330, 3) := by decide +kernel
theorem dX13_worstMinute_40 : decode cX13_worstMinute 40 = .ok (.invokestatic 303, 3) := by decide +kernel
theorem dX13_worstMinute_43 : decode cX13_worstMinute 43 = .ok (.istore 4, 2) := by decide +kernel
theorem dX13_worstMinute_45 : decode cX13_worstMinute 45 = .ok (.iload 4, 2) := by decide +kernel
theorem dX13_worstMinute_47 : decode cX13_worstMinute 47 = .ok (.iload_n 2, 1) := by decide +kernel
theorem dX13_worstMinute_48 : decode cX13_worstMinute 48 = .ok (.if_icmp .gt 6, 3) := by decide +kernel
theorem dX13_worstMinute_51 : decode cX13_worstMinute 51 = .ok (.goto 8, 3) := by decide +kernel
theorem dX13_worstMinute_54 : decode cX13_worstMinute 54 = .ok (.iload 4, 2) := by decide +kernel
theorem dX13_worstMinute_56 : decode cX13_worstMinute 56 = .ok (.istore_n 2, 1) := by decide +kernel
theorem dX13_worstMinute_57 : decode cX13_worstMinute 57 = .ok (.iload_n 3, 1) := by decide +kernel
theorem dX13_worstMinute_58 : decode cX13_worstMinute 58 = .ok (.istore_n 1, 1) := by decide +kernel
theorem dX13_worstMinute_59 : decode cX13_worstMinute 59 = .ok (.iinc 3 1, 3) := by decide +kernel
theorem dX13_worstMinute_62 : decode cX13_worstMinute 62 = .ok (.goto (-34), 3) := by decide +kernel
theorem dX13_worstMinute_65 : decode cX13_worstMinute 65 = .ok (.aload_n 0, 1) := by decide +kernel
theorem dX13_worstMinute_66 : decode cX13_worstMinute 66 = .ok (.iload_n 1, 1) := by decide +kernel
theorem dX13_worstMinute_67 : decode cX13_worstMinute 67 = .ok (.invokevirtual 58, 3) := by decide +kernel
theorem dX13_worstMinute_70 : decode cX13_worstMinute 70 = .ok (.ireturn, 1) := by decide +kernel
theorem dX13_reached_0 : decode cX13_reached 0 = .ok (.aload_n 0, 1) := by decide +kernel
theorem dX13_reached_1 : decode cX13_reached 1 = .ok (.iconst 0, 1) := by decide +kernel
theorem dX13_reached_2 : decode cX13_reached 2 = .ok (.putfield 48, 3) := by decide +kernel
theorem dX13_reached_5 : decode cX13_reached 5 = .ok (.aload_n 0, 1) := by decide +kernel
theorem dX13_reached_6 : decode cX13_reached 6 = .ok (.getfield 289, 3) := by decide +kernel
theorem dX13_reached_9 : decode cX13_reached 9 = .ok (.ifnonnull 9, 3) := by decide +kernel
theorem dX13_reached_12 : decode cX13_reached 12 = .ok (.aload_n 0, 1) := by decide +kernel
theorem dX13_reached_13 : decode cX13_reached 13 = .ok (.iconst 1, 1) := by decide +kernel
theorem dX13_reached_14 : decode cX13_reached 14 = .ok (.invokevirtual 54, 3) := by decide +kernel
theorem dX13_reached_17 : decode cX13_reached 17 = .ok (.ireturn, 1) := by decide +kernel
theorem dX13_reached_18 : decode cX13_reached 18 = .ok (.aload_n 0, 1) := by decide +kernel
theorem dX13_reached_19 : decode cX13_reached 19 = .ok (.invokevirtual 324, 3) := by decide +kernel
theorem dX13_reached_22 : decode cX13_reached 22 = .ok (.aload_n 0, 1) := by decide +kernel
theorem dX13_reached_23 : decode cX13_reached 23 = .ok (.aload_n 0, 1) := by decide +kernel
theorem dX13_reached_24 : decode cX13_reached 24 = .ok (.invokevirtual 315, 3) := by decide +kernel
theorem dX13_reached_27 : decode cX13_reached 27 = .ok (.aload_n 0, 1) := by decide +kernel
theorem dX13_reached_28 : decode cX13_reached 28 = .ok (.aload_n 0, 1) := by decide +kernel
theorem dX13_reached_29 : decode cX13_reached 29 = .ok (.getfield 17, 3) := by decide +kernel
theorem dX13_reached_32 : decode cX13_reached 32 = .ok (.bipush 6, 2) := by decide +kernel
theorem dX13_reached_34 : decode cX13_reached 34 = .ok (.iaload, 1) := by decide +kernel
theorem dX13_reached_35 : decode cX13_reached 35 = .ok (.invokevirtual 318, 3) := by decide +kernel
theorem dX13_reached_38 : decode cX13_reached 38 = .ok (.iand, 1) := by decide +kernel
theorem dX13_reached_39 : decode cX13_reached 39 = .ok (.invokevirtual 58, 3) := by decide +kernel
theorem dX13_reached_42 : decode cX13_reached 42 = .ok (.ireturn, 1) := by decide +kernel
theorem dX13_nearestTo_0 : decode cX13_nearestTo 0 = .ok (.bipush (-2), 2) := by decide +kernel
theorem dX13_nearestTo_2 : decode cX13_nearestTo 2 = .ok (.istore_n 2, 1) := by decide +kernel
theorem dX13_nearestTo_3 : decode cX13_nearestTo 3 = .ok (.iconst 0, 1) := by decide +kernel
theorem dX13_nearestTo_4 : decode cX13_nearestTo 4 = .ok (.istore_n 3, 1) := by decide +kernel
theorem dX13_nearestTo_5 : decode cX13_nearestTo 5 = .ok (.iload_n 3, 1) := by decide +kernel
theorem dX13_nearestTo_6 : decode cX13_nearestTo 6 = .ok (.aload_n 0, 1) := by decide +kernel
theorem dX13_nearestTo_7 : decode cX13_nearestTo 7 = .ok (.getfield 289, 3) := by decide +kernel
theorem dX13_nearestTo_10 : decode cX13_nearestTo 10 = .ok (.getfield 253, 3) := by decide +kernel
theorem dX13_nearestTo_13 : decode cX13_nearestTo 13 = .ok (.if_icmp .ge 46, 3) := by decide +kernel
theorem dX13_nearestTo_16 : decode cX13_nearestTo 16 = .ok (.aload_n 0, 1) := by decide +kernel
theorem dX13_nearestTo_17 : decode cX13_nearestTo 17 = .ok (.getfield 17, 3) := by decide +kernel
theorem dX13_nearestTo_20 : decode cX13_nearestTo 20 = .ok (.bipush 6, 2) := by decide +kernel
theorem dX13_nearestTo_22 : decode cX13_nearestTo 22 = .ok (.iaload, 1) := by decide +kernel
theorem dX13_nearestTo_23 : decode cX13_nearestTo 23 = .ok (.iload_n 3, 1) := by decide +kernel
theorem dX13_nearestTo_24 : decode cX13_nearestTo 24 = .ok (.invokestatic 267, 3) := by decide +kernel
theorem dX13_nearestTo_27 : decode cX13_nearestTo 27 = .ok (.ifCond .eq 26, 3) := by decide +kernel
theorem dX13_nearestTo_30 : decode cX13_nearestTo 30 = .ok (.iload_n 2, 1) := by decide +kernel
theorem dX13_nearestTo_31 : decode cX13_nearestTo 31 = .ok (.bipush (-2), 2) := by decide +kernel
theorem dX13_nearestTo_33 : decode cX13_nearestTo 33 = .ok (.if_icmp .eq 18, 3) := by decide +kernel
theorem dX13_nearestTo_36 : decode cX13_nearestTo 36 = .ok (.aload_n 0, 1) := by decide +kernel
theorem dX13_nearestTo_37 : decode cX13_nearestTo 37 = .ok (.iload_n 3, 1) := by decide +kernel
theorem dX13_nearestTo_38 : decode cX13_nearestTo 38 = .ok (.iload_n 1, 1) := by decide +kernel
theorem dX13_nearestTo_39 : decode cX13_nearestTo 39 = .ok (.invokevirtual 309, 3) := by decide +kernel
theorem dX13_nearestTo_42 : decode cX13_nearestTo 42 = .ok (.aload_n 0, 1) := by decide +kernel
theorem dX13_nearestTo_43 : decode cX13_nearestTo 43 = .ok (.iload_n 2, 1) := by decide +kernel
theorem dX13_nearestTo_44 : decode cX13_nearestTo 44 = .ok (.iload_n 1, 1) := by decide +kernel
theorem dX13_nearestTo_45 : decode cX13_nearestTo 45 = .ok (.invokevirtual 309, 3) := by decide +kernel
theorem dX13_nearestTo_48 : decode cX13_nearestTo 48 = .ok (.if_icmp .ge 5, 3) := by decide +kernel
theorem dX13_nearestTo_51 : decode cX13_nearestTo 51 = .ok (.iload_n 3, 1) := by decide +kernel
theorem dX13_nearestTo_52 : decode cX13_nearestTo 52 = .ok (.istore_n 2, 1) := by decide +kernel
theorem dX13_nearestTo_53 : decode cX13_nearestTo 53 = .ok (.iinc 3 1, 3) := by decide +kernel
theorem dX13_nearestTo_56 : decode cX13_nearestTo 56 = .ok (.goto (-51), 3) := by decide +kernel
theorem dX13_nearestTo_59 : decode cX13_nearestTo 59 = .ok (.iload_n 2, 1) := by decide +kernel
theorem dX13_nearestTo_60 : decode cX13_nearestTo 60 = .ok (.ireturn, 1) := by decide +kernel
theorem dX13_nearest_0 : decode cX13_nearest 0 = .ok (.aload_n 0, 1) := by decide +kernel
theorem dX13_nearest_1 : decode cX13_nearest 1 = .ok (.iconst 0, 1) := by decide +kernel
theorem dX13_nearest_2 : decode cX13_nearest 2 = .ok (.putfield 48, 3) := by decide +kernel
theorem dX13_nearest_5 : decode cX13_nearest 5 = .ok (.aload_n 0, 1) := by decide +kernel
theorem dX13_nearest_6 : decode cX13_nearest 6 = .ok (.iload_n 1, 1) := by decide +kernel
theorem dX13_nearest_7 : decode cX13_nearest 7 = .ok (.invokevirtual 321, 3) := by decide +kernel
theorem dX13_nearest_10 : decode cX13_nearest 10 = .ok (.ifCond .ne 9, 3) := by decide +kernel
theorem dX13_nearest_13 : decode cX13_nearest 13 = .ok (.aload_n 0, 1) := by decide +kernel
theorem dX13_nearest_14 : decode cX13_nearest 14 = .ok (.iconst 1, 1) := by decide +kernel
theorem dX13_nearest_15 : decode cX13_nearest 15 = .ok (.invokevirtual 54, 3) := by decide +kernel
theorem dX13_nearest_18 : decode cX13_nearest 18 = .ok (.ireturn, 1) := by decide +kernel
theorem dX13_nearest_19 : decode cX13_nearest 19 = .ok (.aload_n 0, 1) := by decide +kernel
theorem dX13_nearest_20 : decode cX13_nearest 20 = .ok (.invokevirtual 324, 3) := by decide +kernel
theorem dX13_nearest_23 : decode cX13_nearest 23 = .ok (.aload_n 0, 1) := by decide +kernel
theorem dX13_nearest_24 : decode cX13_nearest 24 = .ok (.aload_n 0, 1) := by decide +kernel
theorem dX13_nearest_25 : decode cX13_nearest 25 = .ok (.iload_n 1, 1) := by decide +kernel
theorem dX13_nearest_26 : decode cX13_nearest 26 = .ok (.invokevirtual 342, 3) := by decide +kernel
theorem dX13_nearest_29 : decode cX13_nearest 29 = .ok (.invokevirtual 58, 3) := by decide +kernel
theorem dX13_nearest_32 : decode cX13_nearest 32 = .ok (.ireturn, 1) := by decide +kernel
theorem dX13_areAllReached_0 : decode cX13_areAllReached 0 = .ok (.aload_n 0, 1) := by decide +kernel
theorem dX13_areAllReached_1 : decode cX13_areAllReached 1 = .ok (.invokevirtual 315, 3) := by decide +kernel
theorem dX13_areAllReached_4 : decode cX13_areAllReached 4 = .ok (.aload_n 0, 1) := by decide +kernel
theorem dX13_areAllReached_5 : decode cX13_areAllReached 5 = .ok (.iload_n 1, 1) := by decide +kernel
theorem dX13_areAllReached_6 : decode cX13_areAllReached 6 = .ok (.invokevirtual 318, 3) := by decide +kernel
theorem dX13_areAllReached_9 : decode cX13_areAllReached 9 = .ok (.iconst (-1), 1) := by decide +kernel
theorem dX13_areAllReached_10 : decode cX13_areAllReached 10 = .ok (.ixor, 1) := by decide +kernel
theorem dX13_areAllReached_11 : decode cX13_areAllReached 11 = .ok (.iand, 1) := by decide +kernel
theorem dX13_areAllReached_12 : decode cX13_areAllReached 12 = .ok (.ifCond .ne 7, 3) := by decide +kernel
theorem dX13_areAllReached_15 : decode cX13_areAllReached 15 = .ok (.iconst 1, 1) := by decide +kernel
theorem dX13_areAllReached_16 : decode cX13_areAllReached 16 = .ok (.goto 4, 3) := by decide +kernel
theorem dX13_areAllReached_19 : decode cX13_areAllReached 19 = .ok (.iconst 0, 1) := by decide +kernel
theorem dX13_areAllReached_20 : decode cX13_areAllReached 20 = .ok (.ireturn, 1) := by decide +kernel
theorem dX13_cover_0 : decode cX13_cover 0 = .ok (.aload_n 0, 1) := by decide +kernel
theorem dX13_cover_1 : decode cX13_cover 1 = .ok (.iconst 0, 1) := by decide +kernel
theorem dX13_cover_2 : decode cX13_cover 2 = .ok (.putfield 48, 3) := by decide +kernel
theorem dX13_cover_5 : decode cX13_cover 5 = .ok (.aload_n 0, 1) := by decide +kernel
theorem dX13_cover_6 : decode cX13_cover 6 = .ok (.getfield 289, 3) := by decide +kernel
theorem dX13_cover_9 : decode cX13_cover 9 = .ok (.ifnonnull 9, 3) := by decide +kernel
theorem dX13_cover_12 : decode cX13_cover 12 = .ok (.aload_n 0, 1) := by decide +kernel
theorem dX13_cover_13 : decode cX13_cover 13 = .ok (.iconst 1, 1) := by decide +kernel
theorem dX13_cover_14 : decode cX13_cover 14 = .ok (.invokevirtual 54, 3) := by decide +kernel
theorem dX13_cover_17 : decode cX13_cover 17 = .ok (.ireturn, 1) := by decide +kernel
theorem dX13_cover_18 : decode cX13_cover 18 = .ok (.aload_n 0, 1) := by decide +kernel
theorem dX13_cover_19 : decode cX13_cover 19 = .ok (.invokevirtual 324, 3) := by decide +kernel
theorem dX13_cover_22 : decode cX13_cover 22 = .ok (.bipush (-2), 2) := by decide +kernel
theorem dX13_cover_24 : decode cX13_cover 24 = .ok (.istore_n 1, 1) := by decide +kernel
theorem dX13_cover_25 : decode cX13_cover 25 = .ok (.iconst 0, 1) := by decide +kernel
theorem dX13_cover_26 : decode cX13_cover 26 = .ok (.istore_n 2, 1) := by decide +kernel
theorem dX13_cover_27 : decode cX13_cover 27 = .ok (.iload_n 2, 1) := by decide +kernel
theorem dX13_cover_28 : decode cX13_cover 28 = .ok (.iconst 1, 1) := by decide +kernel
theorem dX13_cover_29 : decode cX13_cover 29 = .ok (.aload_n 0, 1) := by decide +kernel
theorem dX13_cover_30 : decode cX13_cover 30 = .ok (.getfield 289, 3) := by decide +kernel
theorem dX13_cover_33 : decode cX13_cover 33 = .ok (.getfield 253, 3) := by decide +kernel
theorem dX13_cover_36 : decode cX13_cover 36 = .ok (.ishl, 1) := by decide +kernel
theorem dX13_cover_37 : decode cX13_cover 37 = .ok (.if_icmp .ge 36, 3) := by decide +kernel
theorem dX13_cover_40 : decode cX13_cover 40 = .ok (.iload_n 1, 1) := by decide +kernel
theorem dX13_cover_41 : decode cX13_cover 41 = .ok (.bipush (-2), 2) := by decide +kernel
theorem dX13_cover_43 : decode cX13_cover 43 = .ok (.if_icmp .eq 14, 3) := by decide +kernel
theorem dX13_cover_46 : decode cX13_cover 46 = .ok (.iload_n 2, 1) := by decide +kernel
theorem dX13_cover_47 : decode cX13_cover 47 = .ok (.invokestatic 303, 3) := by decide +kernel
theorem dX13_cover_50 : decode cX13_cover 50 = .ok (.iload_n 1, 1) := by decide +kernel
theorem dX13_cover_51 : decode cX13_cover 51 = .ok (.invokestatic 303, 3) := by decide +kernel
theorem dX13_cover_54 : decode cX13_cover 54 = .ok (.if_icmp .ge 13, 3) := by decide +kernel
theorem dX13_cover_57 : decode cX13_cover 57 = .ok (.aload_n 0, 1) := by decide +kernel
theorem dX13_cover_58 : decode cX13_cover 58 = .ok (.iload_n 2, 1) := by decide +kernel
theorem dX13_cover_59 : decode cX13_cover 59 = .ok (.invokevirtual 345, 3) := by decide +kernel
theorem dX13_cover_62 : decode cX13_cover 62 = .ok (.ifCond .eq 5, 3) := by decide +kernel
theorem dX13_cover_65 : decode cX13_cover 65 = .ok (.iload_n 2, 1) := by decide +kernel
theorem dX13_cover_66 : decode cX13_cover 66 = .ok (.istore_n 1, 1) := by decide +kernel
theorem dX13_cover_67 : decode cX13_cover 67 = .ok (.iinc 2 1, 3) := by decide +kernel
theorem dX13_cover_70 : decode cX13_cover 70 = .ok (.goto (-43), 3) := by decide +kernel
theorem dX13_cover_73 : decode cX13_cover 73 = .ok (.aload_n 0, 1) := by decide +kernel
theorem dX13_cover_74 : decode cX13_cover 74 = .ok (.iload_n 1, 1) := by decide +kernel
theorem dX13_cover_75 : decode cX13_cover 75 = .ok (.invokevirtual 58, 3) := by decide +kernel
theorem dX13_cover_78 : decode cX13_cover 78 = .ok (.ireturn, 1) := by decide +kernel
theorem dX13_covers_0 : decode cX13_covers 0 = .ok (.aload_n 0, 1) := by decide +kernel
theorem dX13_covers_1 : decode cX13_covers 1 = .ok (.iconst 0, 1) := by decide +kernel
theorem dX13_covers_2 : decode cX13_covers 2 = .ok (.putfield 48, 3) := by decide +kernel
theorem dX13_covers_5 : decode cX13_covers 5 = .ok (.aload_n 0, 1) := by decide +kernel
theorem dX13_covers_6 : decode cX13_covers 6 = .ok (.getfield 289, 3) := by decide +kernel
theorem dX13_covers_9 : decode cX13_covers 9 = .ok (.ifnonnull 9, 3) := by decide +kernel
theorem dX13_covers_12 : decode cX13_covers 12 = .ok (.aload_n 0, 1) := by decide +kernel
theorem dX13_covers_13 : decode cX13_covers 13 = .ok (.iconst 1, 1) := by decide +kernel
theorem dX13_covers_14 : decode cX13_covers 14 = .ok (.invokevirtual 54, 3) := by decide +kernel
theorem dX13_covers_17 : decode cX13_covers 17 = .ok (.ireturn, 1) := by decide +kernel
theorem dX13_covers_18 : decode cX13_covers 18 = .ok (.aload_n 0, 1) := by decide +kernel
theorem dX13_covers_19 : decode cX13_covers 19 = .ok (.invokevirtual 324, 3) := by decide +kernel
theorem dX13_covers_22 : decode cX13_covers 22 = .ok (.iconst 0, 1) := by decide +kernel
theorem dX13_covers_23 : decode cX13_covers 23 = .ok (.istore_n 1, 1) := by decide +kernel
theorem dX13_covers_24 : decode cX13_covers 24 = .ok (.iconst 0, 1) := by decide +kernel
theorem dX13_covers_25 : decode cX13_covers 25 = .ok (.istore_n 2, 1) := by decide +kernel
theorem dX13_covers_26 : decode cX13_covers 26 = .ok (.iload_n 2, 1) := by decide +kernel
theorem dX13_covers_27 : decode cX13_covers 27 = .ok (.iconst 1, 1) := by decide +kernel
theorem dX13_covers_28 : decode cX13_covers 28 = .ok (.aload_n 0, 1) := by decide +kernel
theorem dX13_covers_29 : decode cX13_covers 29 = .ok (.getfield 289, 3) := by decide +kernel
theorem dX13_covers_32 : decode cX13_covers 32 = .ok (.getfield 253, 3) := by decide +kernel
theorem dX13_covers_35 : decode cX13_covers 35 = .ok (.ishl, 1) := by decide +kernel
theorem dX13_covers_36 : decode cX13_covers 36 = .ok (.if_icmp .ge 25, 3) := by decide +kernel
theorem dX13_covers_39 : decode cX13_covers 39 = .ok (.iload_n 1, 1) := by decide +kernel
theorem dX13_covers_40 : decode cX13_covers 40 = .ok (.aload_n 0, 1) := by decide +kernel
theorem dX13_covers_41 : decode cX13_covers 41 = .ok (.iload_n 2, 1) := by decide +kernel
theorem dX13_covers_42 : decode cX13_covers 42 = .ok (.invokevirtual 345, 3) := by decide +kernel
theorem dX13_covers_45 : decode cX13_covers 45 = .ok (.ifCond .eq 7, 3) := by decide +kernel
theorem dX13_covers_48 : decode cX13_covers 48 = .ok (.iconst 1, 1) := by decide +kernel
theorem dX13_covers_49 : decode cX13_covers 49 = .ok (.goto 4, 3) := by decide +kernel
theorem dX13_covers_52 : decode cX13_covers 52 = .ok (.iconst 0, 1) := by decide +kernel
theorem dX13_covers_53 : decode cX13_covers 53 = .ok (.iadd, 1) := by decide +kernel
theorem dX13_covers_54 : decode cX13_covers 54 = .ok (.istore_n 1, 1) := by decide +kernel
theorem dX13_covers_55 : decode cX13_covers 55 = .ok (.iinc 2 1, 3) := by decide +kernel
theorem dX13_covers_58 : decode cX13_covers 58 = .ok (.goto (-32), 3) := by decide +kernel
theorem dX13_covers_61 : decode cX13_covers 61 = .ok (.aload_n 0, 1) := by decide +kernel
theorem dX13_covers_62 : decode cX13_covers 62 = .ok (.iload_n 1, 1) := by decide +kernel
theorem dX13_covers_63 : decode cX13_covers 63 = .ok (.invokevirtual 58, 3) := by decide +kernel
theorem dX13_covers_66 : decode cX13_covers 66 = .ok (.ireturn, 1) := by decide +kernel
def m_X13_refusesMinute (t : Nat) (x0p : Int32) (σ : jd_Hp) : Option (Int32 × jd_Hp) :=
jd_if (¬ (σ.2.2.2 t 3) = none) (
jd_b (m_X13_in x0p 0 200 σ) fun r1 σ1 =>
jd_if (r1 = 0) (
some (2, σ1)) (
some (0, σ1))) (
some (1, σ))
set_option maxHeartbeats 4000000 in
set_option maxRecDepth 20000 in
theorem c_X13_refusesMinute {l : Launch} {s0 : State} {G : jd_G} (hF : jd_F s0 G) (σ : jd_Hp) (t : Nat) (ht : σ.1[t]? = some (13, 29)) (x0p : Int32) : jd_M l s0 G yX13_refusesMinute cX13_refusesMinute 2 (some .int) 1 je_i [jd_v G (some t), .int x0p] σ (m_X13_refusesMinute t x0p σ) := by
  refine jd_enter hF (by decide) (fun G => [some (jd_v G (some t)), some (.int x0p)]) rfl (by simp [lv_args, jd_al, jd_v_cat, jd_cti, jd_ctl]) (by simp [lg_sl, jd_v_cat, jd_cti, jd_ctl]) (fun X hD hX => ?_)
  have hX : jd_C X RX13 "refusesMinute" cX13_refusesMinute 2 (some .int) := hX
  unfold m_X13_refusesMinute
  refine jr_ald0 (pc := 0) hX dX13_refusesMinute_0 ?_
  refine jr_getr (pc := 1) hX fX13_289 rfl dX13_refusesMinute_1 ht ?_
  refine jr_ifnonnull (pc := 4) hX 11 dX13_refusesMinute_4 (by decide) ?_ ?_
  · refine jr_ild1 (pc := 11) hX dX13_refusesMinute_11 ?_
    refine jr_iconst (pc := 12) hX 0 rfl dX13_refusesMinute_12 ?_
    refine jr_sipush (pc := 13) hX 200 rfl dX13_refusesMinute_13 ?_
    refine jr_cS3i (pc := 16) hX lX13_131 (c_X13_in hX.F σ _ _ _) (jd_dd hD rfl) (Nat.le_of_ble_eq_true rfl) dX13_refusesMinute_16 (fun r1 σ1 p1 => ?_)
    refine jr_ifeq (pc := 19) hX 26 dX13_refusesMinute_19 (by decide) ?_ ?_
    · refine jr_iconst (pc := 26) hX 2 rfl dX13_refusesMinute_26 ?_
      exact jr_iret (pc := 27) hX dX13_refusesMinute_27 rfl
    · refine jr_iconst (pc := 22) hX 0 rfl dX13_refusesMinute_22 ?_
      refine jr_goto (pc := 23) hX 27 dX13_refusesMinute_23 (by decide) ?_
      exact jr_iret (pc := 27) hX dX13_refusesMinute_27 rfl
  · refine jr_iconst (pc := 7) hX 1 rfl dX13_refusesMinute_7 ?_
    refine jr_goto (pc := 8) hX 27 dX13_refusesMinute_8 (by decide) ?_
    exact jr_iret (pc := 27) hX dX13_refusesMinute_27 rfl
def m_X13_under (t : Nat) (x0p : Int32) (σ : jd_Hp) : Option (Int32 × jd_Hp) :=
jd_li (jd_pi σ t 0 0) fun τ1 =>
jd_b (m_X13_refusesMinute t x0p τ1) fun r2 σ2 =>
jd_if (r2 ≤ 0) (
jd_b (m_X13_works t σ2) fun r3 σ3 =>
jd_b (m_X13_underAt t x0p σ3) fun r4 σ4 =>
jd_b (m_X13_good t r4 σ4) fun r5 σ5 =>
some (r5, σ5)) (
jd_b (m_X13_refused t r2 σ2) fun r6 σ6 =>
some (r6, σ6))
set_option maxHeartbeats 4000000 in
set_option maxRecDepth 20000 in
theorem c_X13_under {l : Launch} {s0 : State} {G : jd_G} (hF : jd_F s0 G) (σ : jd_Hp) (t : Nat) (ht : σ.1[t]? = some (13, 29)) (x0p : Int32) : jd_M l s0 G yX13_under cX13_under 3 (some .int) 4 je_i [jd_v G (some t), .int x0p] σ (m_X13_under t x0p σ) := by
  refine jd_enter hF (by decide) (fun G => [some (jd_v G (some t)), some (.int x0p), none]) rfl (by simp [lv_args, jd_al, jd_v_cat, jd_cti, jd_ctl]) (by simp [lg_sl, jd_v_cat, jd_cti, jd_ctl]) (fun X hD hX => ?_)
  have hX : jd_C X RX13 "under" cX13_under 3 (some .int) := hX
  unfold m_X13_under
  refine jr_ald0 (pc := 0) hX dX13_under_0 ?_
  refine jr_iconst (pc := 1) hX 0 rfl dX13_under_1 ?_
  refine jr_puti (pc := 2) hX fX13_48 rfl dX13_under_2 ht ?_
  refine jr_li ?_
  refine jr_ald0 (pc := 5) hX dX13_under_5 ?_
  refine jr_ild1 (pc := 6) hX dX13_under_6 ?_
  refine jr_cV1i (pc := 7) hX lX13_339 (c_X13_refusesMinute hX.F (jd_pi σ t 0 0) t ht _) (jd_dd hD rfl) (Nat.le_of_ble_eq_true rfl) dX13_under_7 ht (fun r2 σ2 p2 => ?_)
  refine jr_ist2 (pc := 10) hX (jn_i _) dX13_under_10 ?_
  refine jr_ild2 (pc := 11) hX dX13_under_11 ?_
  refine jr_ifle (pc := 12) hX 21 dX13_under_12 (by decide) ?_ ?_
  · refine jr_ald0 (pc := 21) hX dX13_under_21 ?_
    refine jr_cV0v (pc := 22) hX lX13_324 (c_X13_works hX.F σ2 t (p2.at ht :)) (jd_dd hD rfl) (Nat.le_of_ble_eq_true rfl) dX13_under_22 (p2.at ht :) (fun r3 σ3 p3 => ?_)
    refine jr_ald0 (pc := 25) hX dX13_under_25 ?_
    refine jr_ald0 (pc := 26) hX dX13_under_26 ?_
    refine jr_ild1 (pc := 27) hX dX13_under_27 ?_
    refine jr_cV1i (pc := 28) hX lX13_330 (c_X13_underAt hX.F σ3 t (p3.at (p2.at ht :) :) _) (jd_dd hD rfl) (by simp [jd_v_cat, jd_cti, jd_ctl]) dX13_under_28 (p3.at (p2.at ht :) :) (fun r4 σ4 p4 => ?_)
    refine jr_cV1i (pc := 31) hX lX13_58 (c_X13_good hX.F σ4 t (p4.at (p3.at (p2.at ht :) :) :) _) (jd_dd hD rfl) (Nat.le_of_ble_eq_true rfl) dX13_under_31 (p4.at (p3.at (p2.at ht :) :) :) (fun r5 σ5 p5 => ?_)
    exact jr_iret (pc := 34) hX dX13_under_34 rfl
  · refine jr_ald0 (pc := 15) hX dX13_under_15 ?_
    refine jr_ild2 (pc := 16) hX dX13_under_16 ?_
    refine jr_cV1i (pc := 17) hX lX13_54 (c_X13_refused hX.F σ2 t (p2.at ht :) _) (jd_dd hD rfl) (Nat.le_of_ble_eq_true rfl) dX13_under_17 (p2.at ht :) (fun r6 σ6 p6 => ?_)
    exact jr_iret (pc := 20) hX dX13_under_20 rfl
def m_X13_lost (t : Nat) (x0p : Int32) (σ : jd_Hp) : Option (Int32 × jd_Hp) :=
jd_li (jd_pi σ t 0 0) fun τ1 =>
jd_b (m_X13_refusesMinute t x0p τ1) fun r2 σ2 =>
jd_if (r2 ≤ 0) (
jd_b (m_X13_works t σ2) fun r3 σ3 =>
jd_b (m_X13_lostAt t x0p σ3) fun r4 σ4 =>
jd_b (m_X13_good t r4 σ4) fun r5 σ5 =>
some (r5, σ5)) (
jd_b (m_X13_refused t r2 σ2) fun r6 σ6 =>
some (r6, σ6))
set_option maxHeartbeats 4000000 in
set_option maxRecDepth 20000 in
theorem c_X13_lost {l : Launch} {s0 : State} {G : jd_G} (hF : jd_F s0 G) (σ : jd_Hp) (t : Nat) (ht : σ.1[t]? = some (13, 29)) (x0p : Int32) : jd_M l s0 G yX13_lost cX13_lost 3 (some .int) 4 je_i [jd_v G (some t), .int x0p] σ (m_X13_lost t x0p σ) := by
  refine jd_enter hF (by decide) (fun G => [some (jd_v G (some t)), some (.int x0p), none]) rfl (by simp [lv_args, jd_al, jd_v_cat, jd_cti, jd_ctl]) (by simp [lg_sl, jd_v_cat, jd_cti, jd_ctl]) (fun X hD hX => ?_)
  have hX : jd_C X RX13 "lost" cX13_lost 3 (some .int) := hX
  unfold m_X13_lost
  refine jr_ald0 (pc := 0) hX dX13_lost_0 ?_
  refine jr_iconst (pc := 1) hX 0 rfl dX13_lost_1 ?_
  refine jr_puti (pc := 2) hX fX13_48 rfl dX13_lost_2 ht ?_
  refine jr_li ?_
  refine jr_ald0 (pc := 5) hX dX13_lost_5 ?_
  refine jr_ild1 (pc := 6) hX dX13_lost_6 ?_
  refine jr_cV1i (pc := 7) hX lX13_339 (c_X13_refusesMinute hX.F (jd_pi σ t 0 0) t ht _) (jd_dd hD rfl) (Nat.le_of_ble_eq_true rfl) dX13_lost_7 ht (fun r2 σ2 p2 => ?_)
  refine jr_ist2 (pc := 10) hX (jn_i _) dX13_lost_10 ?_
  refine jr_ild2 (pc := 11) hX dX13_lost_11 ?_
  refine jr_ifle (pc := 12) hX 21 dX13_lost_12 (by decide) ?_ ?_
  · refine jr_ald0 (pc := 21) hX dX13_lost_21 ?_
    refine jr_cV0v (pc := 22) hX lX13_324 (c_X13_works hX.F σ2 t (p2.at ht :)) (jd_dd hD rfl) (Nat.le_of_ble_eq_true rfl) dX13_lost_22 (p2.at ht :) (fun r3 σ3 p3 => ?_)
    refine jr_ald0 (pc := 25) hX dX13_lost_25 ?_
    refine jr_ald0 (pc := 26) hX dX13_lost_26 ?_
    refine jr_ild1 (pc := 27) hX dX13_lost_27 ?_
    refine jr_cV1i (pc := 28) hX lX13_333 (c_X13_lostAt hX.F σ3 t (p3.at (p2.at ht :) :) _) (jd_dd hD rfl) (by simp [jd_v_cat, jd_cti, jd_ctl]) dX13_lost_28 (p3.at (p2.at ht :) :) (fun r4 σ4 p4 => ?_)
    refine jr_cV1i (pc := 31) hX lX13_58 (c_X13_good hX.F σ4 t (p4.at (p3.at (p2.at ht :) :) :) _) (jd_dd hD rfl) (Nat.le_of_ble_eq_true rfl) dX13_lost_31 (p4.at (p3.at (p2.at ht :) :) :) (fun r5 σ5 p5 => ?_)
    exact jr_iret (pc := 34) hX dX13_lost_34 rfl
  · refine jr_ald0 (pc := 15) hX dX13_lost_15 ?_
    refine jr_ild2 (pc := 16) hX dX13_lost_16 ?_
    refine jr_cV1i (pc := 17) hX lX13_54 (c_X13_refused hX.F σ2 t (p2.at ht :) _) (jd_dd hD rfl) (Nat.le_of_ble_eq_true rfl) dX13_lost_17 (p2.at ht :) (fun r6 σ6 p6 => ?_)
    exact jr_iret (pc := 20) hX dX13_lost_20 rfl
def m_X13_worstMinute (t : Nat) (σ : jd_Hp) : Option (Int32 × jd_Hp) :=
jd_li (jd_pi σ t 0 0) fun τ1 =>
jd_if (¬ (τ1.2.2.2 t 3) = none) (
jd_b (m_X13_works t τ1) fun r2 σ2 =>
jd_b (jd_lp (S := Int32 × Int32 × Int32) (T := Int32) (fun s3 σ3 =>
jd_if (200 < s3.2.2) (
some ((Sum.inr s3.1), σ3)) (
jd_o σ3 (13, 29) (some t) fun a5 =>
jd_b (m_X13_underAt a5 s3.2.2 σ3) fun r6 σ6 =>
jd_b (m_X13_bits r6 σ6) fun r7 σ7 =>
jd_if (s3.2.1 < r7) (
some (Sum.inl (s3.2.2, r7, (s3.2.2 + 1)), σ7)) (
some (Sum.inl (s3.1, s3.2.1, (s3.2.2 + 1)), σ7)))) jd_fu (0, (-1), 0) σ2) fun t4 σ4 =>
jd_o σ4 (13, 29) (some t) fun a8 =>
jd_b (m_X13_good a8 t4 σ4) fun r9 σ9 =>
some (r9, σ9)) (
jd_b (m_X13_refused t 1 τ1) fun r10 σ10 =>
some (r10, σ10))
set_option maxHeartbeats 4000000 in
set_option maxRecDepth 20000 in
theorem c_X13_worstMinute {l : Launch} {s0 : State} {G : jd_G} (hF : jd_F s0 G) (σ : jd_Hp) (t : Nat) (ht : σ.1[t]? = some (13, 29)) : jd_M l s0 G yX13_worstMinute cX13_worstMinute 5 (some .int) 4 je_i [jd_v G (some t)] σ (m_X13_worstMinute t σ) := by
  refine jd_enter hF (by decide) (fun G => [some (jd_v G (some t)), none, none, none, none]) rfl (by simp [lv_args, jd_al, jd_v_cat, jd_cti, jd_ctl]) (by simp [lg_sl, jd_v_cat, jd_cti, jd_ctl]) (fun X hD hX => ?_)
  have hX : jd_C X RX13 "worstMinute" cX13_worstMinute 5 (some .int) := hX
  unfold m_X13_worstMinute
  refine jr_ald0 (pc := 0) hX dX13_worstMinute_0 ?_
  refine jr_iconst (pc := 1) hX 0 rfl dX13_worstMinute_1 ?_
  refine jr_puti (pc := 2) hX fX13_48 rfl dX13_worstMinute_2 ht ?_
  refine jr_li ?_
  refine jr_ald0 (pc := 5) hX dX13_worstMinute_5 ?_
  refine jr_getr (pc := 6) hX fX13_289 rfl dX13_worstMinute_6 ht ?_
  refine jr_ifnonnull (pc := 9) hX 18 dX13_worstMinute_9 (by decide) ?_ ?_
  · refine jr_ald0 (pc := 18) hX dX13_worstMinute_18 ?_
    refine jr_cV0v (pc := 19) hX lX13_324 (c_X13_works hX.F (jd_pi σ t 0 0) t ht) (jd_dd hD rfl) (Nat.le_of_ble_eq_true rfl) dX13_worstMinute_19 ht (fun r2 σ2 p2 => ?_)
    refine jr_iconst (pc := 22) hX 0 rfl dX13_worstMinute_22 ?_
    refine jr_ist1 (pc := 23) hX (jn_r _ _) dX13_worstMinute_23 ?_
    refine jr_iconst (pc := 24) hX (-1) rfl dX13_worstMinute_24 ?_
    refine jr_ist2 (pc := 25) hX (jn_i _) dX13_worstMinute_25 ?_
    refine jr_iconst (pc := 26) hX 0 rfl dX13_worstMinute_26 ?_
    refine jr_ist3 (pc := 27) hX (jn_i _) dX13_worstMinute_27 ?_
    refine jr_loop (pc := 28) (fun (s3 : Int32 × Int32 × Int32) => [some (jd_v (jd_gG X) (some t)), some (.int s3.1), some (.int s3.2.1), some (.int s3.2.2), none]) (fun (t4 : Int32) => [some (jd_v (jd_gG X) (some t)), some (.int t4), none, none, none]) 65 (0, (-1), 0) (fun t4 σ4 => ?_) (fun K3 bk3 ex3 s3 σ3 => ?_)
    · refine jr_ald0 (pc := 65) hX dX13_worstMinute_65 ?_
      refine jr_ild1 (pc := 66) hX dX13_worstMinute_66 ?_
      refine jr_ck1 (fun a8 e8 h8 => ?_)
      refine jr_cV1i (pc := 67) hX lX13_58 (c_X13_good hX.F σ4 a8 h8 _) (jd_dd hD rfl) (Nat.le_of_ble_eq_true rfl) dX13_worstMinute_67 h8 (fun r9 σ9 p9 => ?_)
      exact jr_iret (pc := 70) hX dX13_worstMinute_70 rfl
    · refine jr_ild3 (pc := 28) hX dX13_worstMinute_28 ?_
      refine jr_sipush (pc := 29) hX 200 rfl dX13_worstMinute_29 ?_
      refine jr_icgt (pc := 32) hX 65 dX13_worstMinute_32 (by decide) ?_ ?_
      · refine jr_wk [true, true, false, false, true] ?_
        exact ex3 s3.1 _
      · refine jr_ald0 (pc := 35) hX dX13_worstMinute_35 ?_
        refine jr_ild3 (pc := 36) hX dX13_worstMinute_36 ?_
        refine jr_ck1 (fun a5 e5 h5 => ?_)
        refine jr_cV1i (pc := 37) hX lX13_330 (c_X13_underAt hX.F σ3 a5 h5 _) (jd_dd hD rfl) (Nat.le_of_ble_eq_true rfl) dX13_worstMinute_37 h5 (fun r6 σ6 p6 => ?_)
        refine jr_cS1i (pc := 40) hX lX13_303 (c_X13_bits hX.F σ6 _) (jd_dd hD rfl) (Nat.le_of_ble_eq_true rfl) dX13_worstMinute_40 (fun r7 σ7 p7 => ?_)
        refine jr_ist4 (pc := 43) hX (jn_i _) dX13_worstMinute_43 ?_
        refine jr_ild4 (pc := 45) hX dX13_worstMinute_45 ?_
        refine jr_ild2 (pc := 47) hX dX13_worstMinute_47 ?_
        refine jr_icgt (pc := 48) hX 54 dX13_worstMinute_48 (by decide) ?_ ?_
        · refine jr_ild4 (pc := 54) hX dX13_worstMinute_54 ?_
          refine jr_ist2 (pc := 56) hX (jn_i _) dX13_worstMinute_56 ?_
          refine jr_ild3 (pc := 57) hX dX13_worstMinute_57 ?_
          refine jr_ist1 (pc := 58) hX (jn_r _ _) dX13_worstMinute_58 ?_
          refine jr_inc3 (pc := 59) hX 1 rfl (jn_i _) dX13_worstMinute_59 ?_
          refine jr_goto (pc := 62) hX 28 dX13_worstMinute_62 (by decide) ?_
          refine jr_wk [true, true, true, true, false] ?_
          exact bk3 (s3.2.2, r7, (s3.2.2 + 1)) _
        · refine jr_goto (pc := 51) hX 59 dX13_worstMinute_51 (by decide) ?_
          refine jr_inc3 (pc := 59) hX 1 rfl (jn_i _) dX13_worstMinute_59 ?_
          refine jr_goto (pc := 62) hX 28 dX13_worstMinute_62 (by decide) ?_
          refine jr_wk [true, true, true, true, false] ?_
          exact bk3 (s3.1, s3.2.1, (s3.2.2 + 1)) _
  · refine jr_ald0 (pc := 12) hX dX13_worstMinute_12 ?_
    refine jr_iconst (pc := 13) hX 1 rfl dX13_worstMinute_13 ?_
    refine jr_cV1i (pc := 14) hX lX13_54 (c_X13_refused hX.F (jd_pi σ t 0 0) t ht _) (jd_dd hD rfl) (Nat.le_of_ble_eq_true rfl) dX13_worstMinute_14 ht (fun r10 σ10 p10 => ?_)
    exact jr_iret (pc := 17) hX dX13_worstMinute_17 rfl
def m_X13_reached (t : Nat) (σ : jd_Hp) : Option (Int32 × jd_Hp) :=
jd_li (jd_pi σ t 0 0) fun τ1 =>
jd_if (¬ (τ1.2.2.2 t 3) = none) (
jd_b (m_X13_works t τ1) fun r2 σ2 =>
jd_b (m_X13_sinkersNow t σ2) fun r3 σ3 =>
jd_ia σ3 20 (σ3.2.2.2 t 15) 6 fun a4 j4 =>
jd_b (m_X13_reachedBy t (σ3.2.1 a4 j4) σ3) fun r5 σ5 =>
jd_b (m_X13_good t (r3 &&& r5) σ5) fun r6 σ6 =>
some (r6, σ6)) (
jd_b (m_X13_refused t 1 τ1) fun r7 σ7 =>
some (r7, σ7))
set_option maxHeartbeats 4000000 in
set_option maxRecDepth 20000 in
theorem c_X13_reached {l : Launch} {s0 : State} {G : jd_G} (hF : jd_F s0 G) (σ : jd_Hp) (t : Nat) (ht : σ.1[t]? = some (13, 29)) : jd_M l s0 G yX13_reached cX13_reached 1 (some .int) 4 je_i [jd_v G (some t)] σ (m_X13_reached t σ) := by
  refine jd_enter hF (by decide) (fun G => [some (jd_v G (some t))]) rfl (by simp [lv_args, jd_al, jd_v_cat, jd_cti, jd_ctl]) (by simp [lg_sl, jd_v_cat, jd_cti, jd_ctl]) (fun X hD hX => ?_)
  have hX : jd_C X RX13 "reached" cX13_reached 1 (some .int) := hX
  unfold m_X13_reached
  refine jr_ald0 (pc := 0) hX dX13_reached_0 ?_
  refine jr_iconst (pc := 1) hX 0 rfl dX13_reached_1 ?_
  refine jr_puti (pc := 2) hX fX13_48 rfl dX13_reached_2 ht ?_
  refine jr_li ?_
  refine jr_ald0 (pc := 5) hX dX13_reached_5 ?_
  refine jr_getr (pc := 6) hX fX13_289 rfl dX13_reached_6 ht ?_
  refine jr_ifnonnull (pc := 9) hX 18 dX13_reached_9 (by decide) ?_ ?_
  · refine jr_ald0 (pc := 18) hX dX13_reached_18 ?_
    refine jr_cV0v (pc := 19) hX lX13_324 (c_X13_works hX.F (jd_pi σ t 0 0) t ht) (jd_dd hD rfl) (Nat.le_of_ble_eq_true rfl) dX13_reached_19 ht (fun r2 σ2 p2 => ?_)
    refine jr_ald0 (pc := 22) hX dX13_reached_22 ?_
    refine jr_ald0 (pc := 23) hX dX13_reached_23 ?_
    refine jr_cV0i (pc := 24) hX lX13_315 (c_X13_sinkersNow hX.F σ2 t (p2.at ht :)) (jd_dd hD rfl) (by simp [jd_v_cat, jd_cti, jd_ctl]) dX13_reached_24 (p2.at ht :) (fun r3 σ3 p3 => ?_)
    refine jr_ald0 (pc := 27) hX dX13_reached_27 ?_
    refine jr_ald0 (pc := 28) hX dX13_reached_28 ?_
    refine jr_getr (pc := 29) hX fX13_17 rfl dX13_reached_29 (p3.at (p2.at ht :) :) ?_
    refine jr_bipush (pc := 32) hX 6 rfl dX13_reached_32 ?_
    refine jr_iaC (pc := 34) hX dX13_reached_34 (fun a4 n4 e4 h4 => ?_)
    refine jr_cV1i (pc := 35) hX lX13_318 (c_X13_reachedBy hX.F σ3 t (p3.at (p2.at ht :) :) _) (jd_dd hD rfl) (by simp [jd_v_cat, jd_cti, jd_ctl]) dX13_reached_35 (p3.at (p2.at ht :) :) (fun r5 σ5 p5 => ?_)
    refine jr_iand (pc := 38) hX dX13_reached_38 ?_
    refine jr_cV1i (pc := 39) hX lX13_58 (c_X13_good hX.F σ5 t (p5.at (p3.at (p2.at ht :) :) :) _) (jd_dd hD rfl) (Nat.le_of_ble_eq_true rfl) dX13_reached_39 (p5.at (p3.at (p2.at ht :) :) :) (fun r6 σ6 p6 => ?_)
    exact jr_iret (pc := 42) hX dX13_reached_42 rfl
  · refine jr_ald0 (pc := 12) hX dX13_reached_12 ?_
    refine jr_iconst (pc := 13) hX 1 rfl dX13_reached_13 ?_
    refine jr_cV1i (pc := 14) hX lX13_54 (c_X13_refused hX.F (jd_pi σ t 0 0) t ht _) (jd_dd hD rfl) (Nat.le_of_ble_eq_true rfl) dX13_reached_14 ht (fun r7 σ7 p7 => ?_)
    exact jr_iret (pc := 17) hX dX13_reached_17 rfl
def m_X13_nearestTo (t : Nat) (x0p : Int32) (σ : jd_Hp) : Option (Int32 × jd_Hp) :=
jd_b (jd_lp (S := Int32 × Int32) (T := Int32) (fun s1 σ1 =>
jd_o σ1 (13, 29) (some t) fun a3 =>
jd_o σ1 (12, 20) (σ1.2.2.2 a3 3) fun a4 =>
jd_if ((σ1.2.1 a4 4) ≤ s1.2) (
some ((Sum.inr s1.1), σ1)) (
jd_ia σ1 20 (σ1.2.2.2 a3 15) 6 fun a5 j5 =>
jd_b (m_X13_bit (σ1.2.1 a5 j5) s1.2 σ1) fun r6 σ6 =>
jd_if (r6 = 0) (
some (Sum.inl (s1.1, (s1.2 + 1)), σ6)) (
jd_if (s1.1 = (-2)) (
some (Sum.inl (s1.2, (s1.2 + 1)), σ6)) (
jd_b (m_X13_timeTo a3 s1.2 x0p σ6) fun r7 σ7 =>
jd_b (m_X13_timeTo a3 s1.1 x0p σ7) fun r8 σ8 =>
jd_if (r8 ≤ r7) (
some (Sum.inl (s1.1, (s1.2 + 1)), σ8)) (
some (Sum.inl (s1.2, (s1.2 + 1)), σ8)))))) jd_fu ((-2), 0) σ) fun t2 σ2 =>
some (t2, σ2)
set_option maxHeartbeats 4000000 in
set_option maxRecDepth 20000 in
theorem c_X13_nearestTo {l : Launch} {s0 : State} {G : jd_G} (hF : jd_F s0 G) (σ : jd_Hp) (t : Nat) (ht : σ.1[t]? = some (13, 29)) (x0p : Int32) : jd_M l s0 G yX13_nearestTo cX13_nearestTo 4 (some .int) 2 je_i [jd_v G (some t), .int x0p] σ (m_X13_nearestTo t x0p σ) := by
  refine jd_enter hF (by decide) (fun G => [some (jd_v G (some t)), some (.int x0p), none, none]) rfl (by simp [lv_args, jd_al, jd_v_cat, jd_cti, jd_ctl]) (by simp [lg_sl, jd_v_cat, jd_cti, jd_ctl]) (fun X hD hX => ?_)
  have hX : jd_C X RX13 "nearestTo" cX13_nearestTo 4 (some .int) := hX
  unfold m_X13_nearestTo
  refine jr_bipush (pc := 0) hX (-2) rfl dX13_nearestTo_0 ?_
  refine jr_ist2 (pc := 2) hX (jn_i _) dX13_nearestTo_2 ?_
  refine jr_iconst (pc := 3) hX 0 rfl dX13_nearestTo_3 ?_
  refine jr_ist3 (pc := 4) hX (jn_i _) dX13_nearestTo_4 ?_
  refine jr_loop (pc := 5) (fun (s1 : Int32 × Int32) => [some (jd_v (jd_gG X) (some t)), some (.int x0p), some (.int s1.1), some (.int s1.2)]) (fun (t2 : Int32) => [none, none, some (.int t2), none]) 59 ((-2), 0) (fun t2 σ2 => ?_) (fun K1 bk1 ex1 s1 σ1 => ?_)
  · refine jr_ild2 (pc := 59) hX dX13_nearestTo_59 ?_
    exact jr_iret (pc := 60) hX dX13_nearestTo_60 rfl
  · refine jr_ild3 (pc := 5) hX dX13_nearestTo_5 ?_
    refine jr_ald0 (pc := 6) hX dX13_nearestTo_6 ?_
    refine jr_ck0 (fun a3 e3 h3 => ?_)
    refine jr_getr (pc := 7) hX fX13_289 rfl dX13_nearestTo_7 h3 ?_
    refine jr_ck0 (fun a4 e4 h4 => ?_)
    refine jr_getiN (pc := 10) hX fX13_253 rfl dX13_nearestTo_10 h4 ?_
    refine jr_icge (pc := 13) hX 59 dX13_nearestTo_13 (by decide) ?_ ?_
    · refine jr_wk [false, false, true, false] ?_
      exact ex1 s1.1 _
    · refine jr_ald0 (pc := 16) hX dX13_nearestTo_16 ?_
      refine jr_ek0 e3 ?_
      refine jr_getr (pc := 17) hX fX13_17 rfl dX13_nearestTo_17 h3 ?_
      refine jr_bipush (pc := 20) hX 6 rfl dX13_nearestTo_20 ?_
      refine jr_iaC (pc := 22) hX dX13_nearestTo_22 (fun a5 n5 e5 h5 => ?_)
      refine jr_ild3 (pc := 23) hX dX13_nearestTo_23 ?_
      refine jr_cS2i (pc := 24) hX lX13_267 (c_X13_bit hX.F σ1 _ _) (jd_dd hD rfl) (Nat.le_of_ble_eq_true rfl) dX13_nearestTo_24 (fun r6 σ6 p6 => ?_)
      refine jr_ifeq (pc := 27) hX 53 dX13_nearestTo_27 (by decide) ?_ ?_
      · refine jr_inc3 (pc := 53) hX 1 rfl (jn_i _) dX13_nearestTo_53 ?_
        refine jr_goto (pc := 56) hX 5 dX13_nearestTo_56 (by decide) ?_
        exact bk1 (s1.1, (s1.2 + 1)) _
      · refine jr_ild2 (pc := 30) hX dX13_nearestTo_30 ?_
        refine jr_bipush (pc := 31) hX (-2) rfl dX13_nearestTo_31 ?_
        refine jr_iceq (pc := 33) hX 51 dX13_nearestTo_33 (by decide) ?_ ?_
        · refine jr_ild3 (pc := 51) hX dX13_nearestTo_51 ?_
          refine jr_ist2 (pc := 52) hX (jn_i _) dX13_nearestTo_52 ?_
          refine jr_inc3 (pc := 53) hX 1 rfl (jn_i _) dX13_nearestTo_53 ?_
          refine jr_goto (pc := 56) hX 5 dX13_nearestTo_56 (by decide) ?_
          exact bk1 (s1.2, (s1.2 + 1)) _
        · refine jr_ald0 (pc := 36) hX dX13_nearestTo_36 ?_
          refine jr_ild3 (pc := 37) hX dX13_nearestTo_37 ?_
          refine jr_ild1 (pc := 38) hX dX13_nearestTo_38 ?_
          refine jr_ek2 e3 ?_
          refine jr_cV2i (pc := 39) hX lX13_309 (c_X13_timeTo hX.F σ6 a3 (p6.at h3 :) _ _) (jd_dd hD rfl) (Nat.le_of_ble_eq_true rfl) dX13_nearestTo_39 (p6.at h3 :) (fun r7 σ7 p7 => ?_)
          refine jr_ald0 (pc := 42) hX dX13_nearestTo_42 ?_
          refine jr_ild2 (pc := 43) hX dX13_nearestTo_43 ?_
          refine jr_ild1 (pc := 44) hX dX13_nearestTo_44 ?_
          refine jr_ek2 e3 ?_
          refine jr_cV2i (pc := 45) hX lX13_309 (c_X13_timeTo hX.F σ7 a3 (p7.at (p6.at h3 :) :) _ _) (jd_dd hD rfl) (Nat.le_of_ble_eq_true rfl) dX13_nearestTo_45 (p7.at (p6.at h3 :) :) (fun r8 σ8 p8 => ?_)
          refine jr_icge (pc := 48) hX 53 dX13_nearestTo_48 (by decide) ?_ ?_
          · refine jr_inc3 (pc := 53) hX 1 rfl (jn_i _) dX13_nearestTo_53 ?_
            refine jr_goto (pc := 56) hX 5 dX13_nearestTo_56 (by decide) ?_
            exact bk1 (s1.1, (s1.2 + 1)) _
          · refine jr_ild3 (pc := 51) hX dX13_nearestTo_51 ?_
            refine jr_ist2 (pc := 52) hX (jn_i _) dX13_nearestTo_52 ?_
            refine jr_inc3 (pc := 53) hX 1 rfl (jn_i _) dX13_nearestTo_53 ?_
            refine jr_goto (pc := 56) hX 5 dX13_nearestTo_56 (by decide) ?_
            exact bk1 (s1.2, (s1.2 + 1)) _
def m_X13_nearest (t : Nat) (x0p : Int32) (σ : jd_Hp) : Option (Int32 × jd_Hp) :=
jd_li (jd_pi σ t 0 0) fun τ1 =>
jd_b (m_X13_isPerson t x0p τ1) fun r2 σ2 =>
jd_if (¬ r2 = 0) (
jd_b (m_X13_works t σ2) fun r3 σ3 =>
jd_b (m_X13_nearestTo t x0p σ3) fun r4 σ4 =>
jd_b (m_X13_good t r4 σ4) fun r5 σ5 =>
some (r5, σ5)) (
jd_b (m_X13_refused t 1 σ2) fun r6 σ6 =>
some (r6, σ6))
set_option maxHeartbeats 4000000 in
set_option maxRecDepth 20000 in
theorem c_X13_nearest {l : Launch} {s0 : State} {G : jd_G} (hF : jd_F s0 G) (σ : jd_Hp) (t : Nat) (ht : σ.1[t]? = some (13, 29)) (x0p : Int32) : jd_M l s0 G yX13_nearest cX13_nearest 2 (some .int) 3 je_i [jd_v G (some t), .int x0p] σ (m_X13_nearest t x0p σ) := by
  refine jd_enter hF (by decide) (fun G => [some (jd_v G (some t)), some (.int x0p)]) rfl (by simp [lv_args, jd_al, jd_v_cat, jd_cti, jd_ctl]) (by simp [lg_sl, jd_v_cat, jd_cti, jd_ctl]) (fun X hD hX => ?_)
  have hX : jd_C X RX13 "nearest" cX13_nearest 2 (some .int) := hX
  unfold m_X13_nearest
  refine jr_ald0 (pc := 0) hX dX13_nearest_0 ?_
  refine jr_iconst (pc := 1) hX 0 rfl dX13_nearest_1 ?_
  refine jr_puti (pc := 2) hX fX13_48 rfl dX13_nearest_2 ht ?_
  refine jr_li ?_
  refine jr_ald0 (pc := 5) hX dX13_nearest_5 ?_
  refine jr_ild1 (pc := 6) hX dX13_nearest_6 ?_
  refine jr_cV1i (pc := 7) hX lX13_321 (c_X13_isPerson hX.F (jd_pi σ t 0 0) t ht _) (jd_dd hD rfl) (Nat.le_of_ble_eq_true rfl) dX13_nearest_7 ht (fun r2 σ2 p2 => ?_)
  refine jr_ifne (pc := 10) hX 19 dX13_nearest_10 (by decide) ?_ ?_
  · refine jr_ald0 (pc := 19) hX dX13_nearest_19 ?_
    refine jr_cV0v (pc := 20) hX lX13_324 (c_X13_works hX.F σ2 t (p2.at ht :)) (jd_dd hD rfl) (Nat.le_of_ble_eq_true rfl) dX13_nearest_20 (p2.at ht :) (fun r3 σ3 p3 => ?_)
    refine jr_ald0 (pc := 23) hX dX13_nearest_23 ?_
    refine jr_ald0 (pc := 24) hX dX13_nearest_24 ?_
    refine jr_ild1 (pc := 25) hX dX13_nearest_25 ?_
    refine jr_cV1i (pc := 26) hX lX13_342 (c_X13_nearestTo hX.F σ3 t (p3.at (p2.at ht :) :) _) (jd_dd hD rfl) (by simp [jd_v_cat, jd_cti, jd_ctl]) dX13_nearest_26 (p3.at (p2.at ht :) :) (fun r4 σ4 p4 => ?_)
    refine jr_cV1i (pc := 29) hX lX13_58 (c_X13_good hX.F σ4 t (p4.at (p3.at (p2.at ht :) :) :) _) (jd_dd hD rfl) (Nat.le_of_ble_eq_true rfl) dX13_nearest_29 (p4.at (p3.at (p2.at ht :) :) :) (fun r5 σ5 p5 => ?_)
    exact jr_iret (pc := 32) hX dX13_nearest_32 rfl
  · refine jr_ald0 (pc := 13) hX dX13_nearest_13 ?_
    refine jr_iconst (pc := 14) hX 1 rfl dX13_nearest_14 ?_
    refine jr_cV1i (pc := 15) hX lX13_54 (c_X13_refused hX.F σ2 t (p2.at ht :) _) (jd_dd hD rfl) (Nat.le_of_ble_eq_true rfl) dX13_nearest_15 (p2.at ht :) (fun r6 σ6 p6 => ?_)
    exact jr_iret (pc := 18) hX dX13_nearest_18 rfl
def m_X13_areAllReached (t : Nat) (x0p : Int32) (σ : jd_Hp) : Option (Int32 × jd_Hp) :=
jd_b (m_X13_sinkersNow t σ) fun r1 σ1 =>
jd_b (m_X13_reachedBy t x0p σ1) fun r2 σ2 =>
jd_if (¬ (r1 &&& (r2 ^^^ (-1))) = 0) (
some (0, σ2)) (
some (1, σ2))
set_option maxHeartbeats 4000000 in
set_option maxRecDepth 20000 in
theorem c_X13_areAllReached {l : Launch} {s0 : State} {G : jd_G} (hF : jd_F s0 G) (σ : jd_Hp) (t : Nat) (ht : σ.1[t]? = some (13, 29)) (x0p : Int32) : jd_M l s0 G yX13_areAllReached cX13_areAllReached 2 (some .boolean) 4 je_i [jd_v G (some t), .int x0p] σ (m_X13_areAllReached t x0p σ) := by
  refine jd_enter hF (by decide) (fun G => [some (jd_v G (some t)), some (.int x0p)]) rfl (by simp [lv_args, jd_al, jd_v_cat, jd_cti, jd_ctl]) (by simp [lg_sl, jd_v_cat, jd_cti, jd_ctl]) (fun X hD hX => ?_)
  have hX : jd_C X RX13 "areAllReached" cX13_areAllReached 2 (some .boolean) := hX
  unfold m_X13_areAllReached
  refine jr_ald0 (pc := 0) hX dX13_areAllReached_0 ?_
  refine jr_cV0i (pc := 1) hX lX13_315 (c_X13_sinkersNow hX.F σ t ht) (jd_dd hD rfl) (Nat.le_of_ble_eq_true rfl) dX13_areAllReached_1 ht (fun r1 σ1 p1 => ?_)
  refine jr_ald0 (pc := 4) hX dX13_areAllReached_4 ?_
  refine jr_ild1 (pc := 5) hX dX13_areAllReached_5 ?_
  refine jr_cV1i (pc := 6) hX lX13_318 (c_X13_reachedBy hX.F σ1 t (p1.at ht :) _) (jd_dd hD rfl) (Nat.le_of_ble_eq_true rfl) dX13_areAllReached_6 (p1.at ht :) (fun r2 σ2 p2 => ?_)
  refine jr_iconst (pc := 9) hX (-1) rfl dX13_areAllReached_9 ?_
  refine jr_ixor (pc := 10) hX dX13_areAllReached_10 ?_
  refine jr_iand (pc := 11) hX dX13_areAllReached_11 ?_
  refine jr_ifne (pc := 12) hX 19 dX13_areAllReached_12 (by decide) ?_ ?_
  · refine jr_iconst (pc := 19) hX 0 rfl dX13_areAllReached_19 ?_
    exact jr_zret (pc := 20) hX dX13_areAllReached_20 (Or.inl rfl) rfl
  · refine jr_iconst (pc := 15) hX 1 rfl dX13_areAllReached_15 ?_
    refine jr_goto (pc := 16) hX 20 dX13_areAllReached_16 (by decide) ?_
    exact jr_zret (pc := 20) hX dX13_areAllReached_20 (Or.inr rfl) rfl
def m_X13_cover (t : Nat) (σ : jd_Hp) : Option (Int32 × jd_Hp) :=
jd_li (jd_pi σ t 0 0) fun τ1 =>
jd_if (¬ (τ1.2.2.2 t 3) = none) (
jd_b (m_X13_works t τ1) fun r2 σ2 =>
jd_b (jd_lp (S := Int32 × Int32) (T := Int32) (fun s3 σ3 =>
jd_o σ3 (13, 29) (some t) fun a5 =>
jd_o σ3 (12, 20) (σ3.2.2.2 a5 3) fun a6 =>
jd_if ((1 <<< ((σ3.2.1 a6 4) &&& 31)) ≤ s3.2) (
some ((Sum.inr s3.1), σ3)) (
jd_if (s3.1 = (-2)) (
jd_b (m_X13_areAllReached a5 s3.2 σ3) fun r7 σ7 =>
jd_if (r7 = 0) (
some (Sum.inl (s3.1, (s3.2 + 1)), σ7)) (
some (Sum.inl (s3.2, (s3.2 + 1)), σ7))) (
jd_b (m_X13_bits s3.2 σ3) fun r8 σ8 =>
jd_b (m_X13_bits s3.1 σ8) fun r9 σ9 =>
jd_if (r9 ≤ r8) (
some (Sum.inl (s3.1, (s3.2 + 1)), σ9)) (
jd_b (m_X13_areAllReached a5 s3.2 σ9) fun r10 σ10 =>
jd_if (r10 = 0) (
some (Sum.inl (s3.1, (s3.2 + 1)), σ10)) (
some (Sum.inl (s3.2, (s3.2 + 1)), σ10)))))) jd_fu ((-2), 0) σ2) fun t4 σ4 =>
jd_o σ4 (13, 29) (some t) fun a11 =>
jd_b (m_X13_good a11 t4 σ4) fun r12 σ12 =>
some (r12, σ12)) (
jd_b (m_X13_refused t 1 τ1) fun r13 σ13 =>
some (r13, σ13))
set_option maxHeartbeats 4000000 in
set_option maxRecDepth 20000 in
theorem c_X13_cover {l : Launch} {s0 : State} {G : jd_G} (hF : jd_F s0 G) (σ : jd_Hp) (t : Nat) (ht : σ.1[t]? = some (13, 29)) : jd_M l s0 G yX13_cover cX13_cover 3 (some .int) 5 je_i [jd_v G (some t)] σ (m_X13_cover t σ) := by
  refine jd_enter hF (by decide) (fun G => [some (jd_v G (some t)), none, none]) rfl (by simp [lv_args, jd_al, jd_v_cat, jd_cti, jd_ctl]) (by simp [lg_sl, jd_v_cat, jd_cti, jd_ctl]) (fun X hD hX => ?_)
  have hX : jd_C X RX13 "cover" cX13_cover 3 (some .int) := hX
  unfold m_X13_cover
  refine jr_ald0 (pc := 0) hX dX13_cover_0 ?_
  refine jr_iconst (pc := 1) hX 0 rfl dX13_cover_1 ?_
  refine jr_puti (pc := 2) hX fX13_48 rfl dX13_cover_2 ht ?_
  refine jr_li ?_
  refine jr_ald0 (pc := 5) hX dX13_cover_5 ?_
  refine jr_getr (pc := 6) hX fX13_289 rfl dX13_cover_6 ht ?_
  refine jr_ifnonnull (pc := 9) hX 18 dX13_cover_9 (by decide) ?_ ?_
  · refine jr_ald0 (pc := 18) hX dX13_cover_18 ?_
    refine jr_cV0v (pc := 19) hX lX13_324 (c_X13_works hX.F (jd_pi σ t 0 0) t ht) (jd_dd hD rfl) (Nat.le_of_ble_eq_true rfl) dX13_cover_19 ht (fun r2 σ2 p2 => ?_)
    refine jr_bipush (pc := 22) hX (-2) rfl dX13_cover_22 ?_
    refine jr_ist1 (pc := 24) hX (jn_r _ _) dX13_cover_24 ?_
    refine jr_iconst (pc := 25) hX 0 rfl dX13_cover_25 ?_
    refine jr_ist2 (pc := 26) hX (jn_i _) dX13_cover_26 ?_
    refine jr_loop (pc := 27) (fun (s3 : Int32 × Int32) => [some (jd_v (jd_gG X) (some t)), some (.int s3.1), some (.int s3.2)]) (fun (t4 : Int32) => [some (jd_v (jd_gG X) (some t)), some (.int t4), none]) 73 ((-2), 0) (fun t4 σ4 => ?_) (fun K3 bk3 ex3 s3 σ3 => ?_)
    · refine jr_ald0 (pc := 73) hX dX13_cover_73 ?_
      refine jr_ild1 (pc := 74) hX dX13_cover_74 ?_
      refine jr_ck1 (fun a11 e11 h11 => ?_)
      refine jr_cV1i (pc := 75) hX lX13_58 (c_X13_good hX.F σ4 a11 h11 _) (jd_dd hD rfl) (Nat.le_of_ble_eq_true rfl) dX13_cover_75 h11 (fun r12 σ12 p12 => ?_)
      exact jr_iret (pc := 78) hX dX13_cover_78 rfl
    · refine jr_ild2 (pc := 27) hX dX13_cover_27 ?_
      refine jr_iconst (pc := 28) hX 1 rfl dX13_cover_28 ?_
      refine jr_ald0 (pc := 29) hX dX13_cover_29 ?_
      refine jr_ck0 (fun a5 e5 h5 => ?_)
      refine jr_getr (pc := 30) hX fX13_289 rfl dX13_cover_30 h5 ?_
      refine jr_ck0 (fun a6 e6 h6 => ?_)
      refine jr_getiN (pc := 33) hX fX13_253 rfl dX13_cover_33 h6 ?_
      refine jr_ishl (pc := 36) hX dX13_cover_36 ?_
      refine jr_icge (pc := 37) hX 73 dX13_cover_37 (by decide) ?_ ?_
      · refine jr_wk [true, true, false] ?_
        exact ex3 s3.1 _
      · refine jr_ild1 (pc := 40) hX dX13_cover_40 ?_
        refine jr_bipush (pc := 41) hX (-2) rfl dX13_cover_41 ?_
        refine jr_iceq (pc := 43) hX 57 dX13_cover_43 (by decide) ?_ ?_
        · refine jr_ald0 (pc := 57) hX dX13_cover_57 ?_
          refine jr_ild2 (pc := 58) hX dX13_cover_58 ?_
          refine jr_ek1 e5 ?_
          refine jr_cV1i (pc := 59) hX lX13_345 (c_X13_areAllReached hX.F σ3 a5 h5 _) (jd_dd hD rfl) (Nat.le_of_ble_eq_true rfl) dX13_cover_59 h5 (fun r7 σ7 p7 => ?_)
          refine jr_ifeq (pc := 62) hX 67 dX13_cover_62 (by decide) ?_ ?_
          · refine jr_inc2 (pc := 67) hX 1 rfl (jn_i _) dX13_cover_67 ?_
            refine jr_goto (pc := 70) hX 27 dX13_cover_70 (by decide) ?_
            exact bk3 (s3.1, (s3.2 + 1)) _
          · refine jr_ild2 (pc := 65) hX dX13_cover_65 ?_
            refine jr_ist1 (pc := 66) hX (jn_r _ _) dX13_cover_66 ?_
            refine jr_inc2 (pc := 67) hX 1 rfl (jn_i _) dX13_cover_67 ?_
            refine jr_goto (pc := 70) hX 27 dX13_cover_70 (by decide) ?_
            exact bk3 (s3.2, (s3.2 + 1)) _
        · refine jr_ild2 (pc := 46) hX dX13_cover_46 ?_
          refine jr_cS1i (pc := 47) hX lX13_303 (c_X13_bits hX.F σ3 _) (jd_dd hD rfl) (Nat.le_of_ble_eq_true rfl) dX13_cover_47 (fun r8 σ8 p8 => ?_)
          refine jr_ild1 (pc := 50) hX dX13_cover_50 ?_
          refine jr_cS1i (pc := 51) hX lX13_303 (c_X13_bits hX.F σ8 _) (jd_dd hD rfl) (Nat.le_of_ble_eq_true rfl) dX13_cover_51 (fun r9 σ9 p9 => ?_)
          refine jr_icge (pc := 54) hX 67 dX13_cover_54 (by decide) ?_ ?_
          · refine jr_inc2 (pc := 67) hX 1 rfl (jn_i _) dX13_cover_67 ?_
            refine jr_goto (pc := 70) hX 27 dX13_cover_70 (by decide) ?_
            exact bk3 (s3.1, (s3.2 + 1)) _
          · refine jr_ald0 (pc := 57) hX dX13_cover_57 ?_
            refine jr_ild2 (pc := 58) hX dX13_cover_58 ?_
            refine jr_ek1 e5 ?_
            refine jr_cV1i (pc := 59) hX lX13_345 (c_X13_areAllReached hX.F σ9 a5 (p9.at (p8.at h5 :) :) _) (jd_dd hD rfl) (Nat.le_of_ble_eq_true rfl) dX13_cover_59 (p9.at (p8.at h5 :) :) (fun r10 σ10 p10 => ?_)
            refine jr_ifeq (pc := 62) hX 67 dX13_cover_62 (by decide) ?_ ?_
            · refine jr_inc2 (pc := 67) hX 1 rfl (jn_i _) dX13_cover_67 ?_
              refine jr_goto (pc := 70) hX 27 dX13_cover_70 (by decide) ?_
              exact bk3 (s3.1, (s3.2 + 1)) _
            · refine jr_ild2 (pc := 65) hX dX13_cover_65 ?_
              refine jr_ist1 (pc := 66) hX (jn_r _ _) dX13_cover_66 ?_
              refine jr_inc2 (pc := 67) hX 1 rfl (jn_i _) dX13_cover_67 ?_
              refine jr_goto (pc := 70) hX 27 dX13_cover_70 (by decide) ?_
              exact bk3 (s3.2, (s3.2 + 1)) _
  · refine jr_ald0 (pc := 12) hX dX13_cover_12 ?_
    refine jr_iconst (pc := 13) hX 1 rfl dX13_cover_13 ?_
    refine jr_cV1i (pc := 14) hX lX13_54 (c_X13_refused hX.F (jd_pi σ t 0 0) t ht _) (jd_dd hD rfl) (Nat.le_of_ble_eq_true rfl) dX13_cover_14 ht (fun r13 σ13 p13 => ?_)
    exact jr_iret (pc := 17) hX dX13_cover_17 rfl
def m_X13_covers (t : Nat) (σ : jd_Hp) : Option (Int32 × jd_Hp) :=
jd_li (jd_pi σ t 0 0) fun τ1 =>
jd_if (¬ (τ1.2.2.2 t 3) = none) (
jd_b (m_X13_works t τ1) fun r2 σ2 =>
jd_b (jd_lp (S := Int32 × Int32) (T := Int32) (fun s3 σ3 =>
jd_o σ3 (13, 29) (some t) fun a5 =>
jd_o σ3 (12, 20) (σ3.2.2.2 a5 3) fun a6 =>
jd_if ((1 <<< ((σ3.2.1 a6 4) &&& 31)) ≤ s3.2) (
some ((Sum.inr s3.1), σ3)) (
jd_b (m_X13_areAllReached a5 s3.2 σ3) fun r7 σ7 =>
jd_if (r7 = 0) (
jd_li (s3.1 + 0) fun x8 =>
some (Sum.inl (x8, (s3.2 + 1)), σ7)) (
jd_li (s3.1 + 1) fun x9 =>
some (Sum.inl (x9, (s3.2 + 1)), σ7)))) jd_fu (0, 0) σ2) fun t4 σ4 =>
jd_o σ4 (13, 29) (some t) fun a10 =>
jd_b (m_X13_good a10 t4 σ4) fun r11 σ11 =>
some (r11, σ11)) (
jd_b (m_X13_refused t 1 τ1) fun r12 σ12 =>
some (r12, σ12))
set_option maxHeartbeats 4000000 in
set_option maxRecDepth 20000 in
theorem c_X13_covers {l : Launch} {s0 : State} {G : jd_G} (hF : jd_F s0 G) (σ : jd_Hp) (t : Nat) (ht : σ.1[t]? = some (13, 29)) : jd_M l s0 G yX13_covers cX13_covers 3 (some .int) 5 je_i [jd_v G (some t)] σ (m_X13_covers t σ) := by
  refine jd_enter hF (by decide) (fun G => [some (jd_v G (some t)), none, none]) rfl (by simp [lv_args, jd_al, jd_v_cat, jd_cti, jd_ctl]) (by simp [lg_sl, jd_v_cat, jd_cti, jd_ctl]) (fun X hD hX => ?_)
  have hX : jd_C X RX13 "covers" cX13_covers 3 (some .int) := hX
  unfold m_X13_covers
  refine jr_ald0 (pc := 0) hX dX13_covers_0 ?_
  refine jr_iconst (pc := 1) hX 0 rfl dX13_covers_1 ?_
  refine jr_puti (pc := 2) hX fX13_48 rfl dX13_covers_2 ht ?_
  refine jr_li ?_
  refine jr_ald0 (pc := 5) hX dX13_covers_5 ?_
  refine jr_getr (pc := 6) hX fX13_289 rfl dX13_covers_6 ht ?_
  refine jr_ifnonnull (pc := 9) hX 18 dX13_covers_9 (by decide) ?_ ?_
  · refine jr_ald0 (pc := 18) hX dX13_covers_18 ?_
    refine jr_cV0v (pc := 19) hX lX13_324 (c_X13_works hX.F (jd_pi σ t 0 0) t ht) (jd_dd hD rfl) (Nat.le_of_ble_eq_true rfl) dX13_covers_19 ht (fun r2 σ2 p2 => ?_)
    refine jr_iconst (pc := 22) hX 0 rfl dX13_covers_22 ?_
    refine jr_ist1 (pc := 23) hX (jn_r _ _) dX13_covers_23 ?_
    refine jr_iconst (pc := 24) hX 0 rfl dX13_covers_24 ?_
    refine jr_ist2 (pc := 25) hX (jn_i _) dX13_covers_25 ?_
    refine jr_loop (pc := 26) (fun (s3 : Int32 × Int32) => [some (jd_v (jd_gG X) (some t)), some (.int s3.1), some (.int s3.2)]) (fun (t4 : Int32) => [some (jd_v (jd_gG X) (some t)), some (.int t4), none]) 61 (0, 0) (fun t4 σ4 => ?_) (fun K3 bk3 ex3 s3 σ3 => ?_)
    · refine jr_ald0 (pc := 61) hX dX13_covers_61 ?_
      refine jr_ild1 (pc := 62) hX dX13_covers_62 ?_
      refine jr_ck1 (fun a10 e10 h10 => ?_)
      refine jr_cV1i (pc := 63) hX lX13_58 (c_X13_good hX.F σ4 a10 h10 _) (jd_dd hD rfl) (Nat.le_of_ble_eq_true rfl) dX13_covers_63 h10 (fun r11 σ11 p11 => ?_)
      exact jr_iret (pc := 66) hX dX13_covers_66 rfl
    · refine jr_ild2 (pc := 26) hX dX13_covers_26 ?_
      refine jr_iconst (pc := 27) hX 1 rfl dX13_covers_27 ?_
      refine jr_ald0 (pc := 28) hX dX13_covers_28 ?_
      refine jr_ck0 (fun a5 e5 h5 => ?_)
      refine jr_getr (pc := 29) hX fX13_289 rfl dX13_covers_29 h5 ?_
      refine jr_ck0 (fun a6 e6 h6 => ?_)
      refine jr_getiN (pc := 32) hX fX13_253 rfl dX13_covers_32 h6 ?_
      refine jr_ishl (pc := 35) hX dX13_covers_35 ?_
      refine jr_icge (pc := 36) hX 61 dX13_covers_36 (by decide) ?_ ?_
      · refine jr_wk [true, true, false] ?_
        exact ex3 s3.1 _
      · refine jr_ild1 (pc := 39) hX dX13_covers_39 ?_
        refine jr_ald0 (pc := 40) hX dX13_covers_40 ?_
        refine jr_ild2 (pc := 41) hX dX13_covers_41 ?_
        refine jr_ek1 e5 ?_
        refine jr_cV1i (pc := 42) hX lX13_345 (c_X13_areAllReached hX.F σ3 a5 h5 _) (jd_dd hD rfl) (Nat.le_of_ble_eq_true rfl) dX13_covers_42 h5 (fun r7 σ7 p7 => ?_)
        refine jr_ifeq (pc := 45) hX 52 dX13_covers_45 (by decide) ?_ ?_
        · refine jr_iconst (pc := 52) hX 0 rfl dX13_covers_52 ?_
          refine jr_iadd (pc := 53) hX dX13_covers_53 ?_
          refine jr_ist1 (pc := 54) hX (jn_r _ _) dX13_covers_54 ?_
          refine jr_li ?_
          refine jr_inc2 (pc := 55) hX 1 rfl (jn_i _) dX13_covers_55 ?_
          refine jr_goto (pc := 58) hX 26 dX13_covers_58 (by decide) ?_
          exact bk3 ((s3.1 + 0), (s3.2 + 1)) _
        · refine jr_iconst (pc := 48) hX 1 rfl dX13_covers_48 ?_
          refine jr_goto (pc := 49) hX 53 dX13_covers_49 (by decide) ?_
          refine jr_iadd (pc := 53) hX dX13_covers_53 ?_
          refine jr_ist1 (pc := 54) hX (jn_r _ _) dX13_covers_54 ?_
          refine jr_li ?_
          refine jr_inc2 (pc := 55) hX 1 rfl (jn_i _) dX13_covers_55 ?_
          refine jr_goto (pc := 58) hX 26 dX13_covers_58 (by decide) ?_
          exact bk3 ((s3.1 + 1), (s3.2 + 1)) _
  · refine jr_ald0 (pc := 12) hX dX13_covers_12 ?_
    refine jr_iconst (pc := 13) hX 1 rfl dX13_covers_13 ?_
    refine jr_cV1i (pc := 14) hX lX13_54 (c_X13_refused hX.F (jd_pi σ t 0 0) t ht _) (jd_dd hD rfl) (Nat.le_of_ble_eq_true rfl) dX13_covers_14 ht (fun r12 σ12 p12 => ?_)
    exact jr_iret (pc := 17) hX dX13_covers_17 rfl
