theorem qX13_refusesFear : Cond.instanceMethod yX13_refusesFear ∈ jd_TB ∧ Cond.selects RX13 yX13_refusesFear yX13_refusesFear ∈ jd_TB ∧ Cond.initialized RX13 ∈ jd_TB ∧ Cond.code yX13_refusesFear cX13_refusesFear 2 (some .int) ∈ jd_TB ∧ jd_ds yX13_refusesFear 1 := ⟨jd_mem 1838 (by decide +kernel) (by decide +kernel), jd_mem 81 (by decide +kernel) (by decide +kernel), jd_mem 104 (by decide +kernel) (by decide +kernel), jd_mem 1839 (by decide +kernel) (by decide +kernel), ⟨by decide, by decide, by decide +kernel⟩⟩
theorem lX13_389 : jd_mv RX13 389 13 29 yX13_refusesFear cX13_refusesFear 2 (some .int) 1 := ⟨_, _, rfl, by decide, rfl, Or.inl (jd_mem 1836 (by decide +kernel) (by decide +kernel)), qX13_refusesFear.1, qX13_refusesFear.2.1, qX13_refusesFear.2.2.1, qX13_refusesFear.2.2.2.1, qX13_refusesFear.2.2.2.2, by decide⟩
theorem qX13_gets : Cond.static yX13_gets ∈ jd_TB ∧ Cond.initialized yX13_gets.cls ∈ jd_TB ∧ Cond.code yX13_gets cX13_gets 3 (some .int) ∈ jd_TB ∧ jd_ds yX13_gets 3 := ⟨jd_mem 1845 (by decide +kernel) (by decide +kernel), jd_mem 104 (by decide +kernel) (by decide +kernel), jd_mem 1846 (by decide +kernel) (by decide +kernel), ⟨by decide, by decide, by decide +kernel⟩⟩
theorem lX13_395 : jd_st RX13 395 yX13_gets cX13_gets 3 (some .int) 3 := ⟨Or.inl (jd_mem 1844 (by decide +kernel) (by decide +kernel)), qX13_gets.1, qX13_gets.2.1, qX13_gets.2.2.1, qX13_gets.2.2.2, by decide⟩
theorem qX13_lostBy : Cond.instanceMethod yX13_lostBy ∈ jd_TB ∧ Cond.selects RX13 yX13_lostBy yX13_lostBy ∈ jd_TB ∧ Cond.initialized RX13 ∈ jd_TB ∧ Cond.code yX13_lostBy cX13_lostBy 2 (some .int) ∈ jd_TB ∧ jd_ds yX13_lostBy 1 := ⟨jd_mem 1842 (by decide +kernel) (by decide +kernel), jd_mem 82 (by decide +kernel) (by decide +kernel), jd_mem 104 (by decide +kernel) (by decide +kernel), jd_mem 1843 (by decide +kernel) (by decide +kernel), ⟨by decide, by decide, by decide +kernel⟩⟩
theorem lX13_392 : jd_mv RX13 392 13 29 yX13_lostBy cX13_lostBy 2 (some .int) 1 := ⟨_, _, rfl, by decide, rfl, Or.inl (jd_mem 1840 (by decide +kernel) (by decide +kernel)), qX13_lostBy.1, qX13_lostBy.2.1, qX13_lostBy.2.2.1, qX13_lostBy.2.2.2.1, qX13_lostBy.2.2.2.2, by decide⟩
theorem qX13_isRest : Cond.static yX13_isRest ∈ jd_TB ∧ Cond.initialized yX13_isRest.cls ∈ jd_TB ∧ Cond.code yX13_isRest cX13_isRest 4 (some .boolean) ∈ jd_TB ∧ jd_ds yX13_isRest 2 := ⟨jd_mem 1852 (by decide +kernel) (by decide +kernel), jd_mem 104 (by decide +kernel) (by decide +kernel), jd_mem 1853 (by decide +kernel) (by decide +kernel), ⟨by decide, by decide, by decide +kernel⟩⟩
theorem lX13_399 : jd_st RX13 399 yX13_isRest cX13_isRest 4 (some .boolean) 2 := ⟨Or.inl (jd_mem 1851 (by decide +kernel) (by decide +kernel)), qX13_isRest.1, qX13_isRest.2.1, qX13_isRest.2.2.1, qX13_isRest.2.2.2, by decide⟩
theorem kX13_402 : Cond.constantLong RX13 402 100 ∈ jd_TB := jd_mem 1870 (by decide +kernel) (by decide +kernel)
theorem qX13_partOf : Cond.instanceMethod yX13_partOf ∈ jd_TB ∧ Cond.selects RX13 yX13_partOf yX13_partOf ∈ jd_TB ∧ Cond.initialized RX13 ∈ jd_TB ∧ Cond.code yX13_partOf cX13_partOf 6 (some .long) ∈ jd_TB ∧ jd_ds yX13_partOf 2 := ⟨jd_mem 1864 (by decide +kernel) (by decide +kernel), jd_mem 83 (by decide +kernel) (by decide +kernel), jd_mem 104 (by decide +kernel) (by decide +kernel), jd_mem 1865 (by decide +kernel) (by decide +kernel), ⟨by decide, by decide, by decide +kernel⟩⟩
theorem lX13_404 : jd_mv RX13 404 13 29 yX13_partOf cX13_partOf 6 (some .long) 2 := ⟨_, _, rfl, by decide, rfl, Or.inl (jd_mem 1862 (by decide +kernel) (by decide +kernel)), qX13_partOf.1, qX13_partOf.2.1, qX13_partOf.2.2.1, qX13_partOf.2.2.2.1, qX13_partOf.2.2.2.2, by decide⟩
theorem qX13_wholeOf : Cond.instanceMethod yX13_wholeOf ∈ jd_TB ∧ Cond.selects RX13 yX13_wholeOf yX13_wholeOf ∈ jd_TB ∧ Cond.initialized RX13 ∈ jd_TB ∧ Cond.code yX13_wholeOf cX13_wholeOf 5 (some .long) ∈ jd_TB ∧ jd_ds yX13_wholeOf 1 := ⟨jd_mem 1868 (by decide +kernel) (by decide +kernel), jd_mem 84 (by decide +kernel) (by decide +kernel), jd_mem 104 (by decide +kernel) (by decide +kernel), jd_mem 1869 (by decide +kernel) (by decide +kernel), ⟨by decide, by decide, by decide +kernel⟩⟩
theorem lX13_408 : jd_mv RX13 408 13 29 yX13_wholeOf cX13_wholeOf 5 (some .long) 1 := ⟨_, _, rfl, by decide, rfl, Or.inl (jd_mem 1866 (by decide +kernel) (by decide +kernel)), qX13_wholeOf.1, qX13_wholeOf.2.1, qX13_wholeOf.2.2.1, qX13_wholeOf.2.2.2.1, qX13_wholeOf.2.2.2.2, by decide⟩
theorem dX13_hears_0 : decode cX13_hears 0 = .ok (.aload_n 0, 1) := by decide +kernel
theorem dX13_hears_1 : decode cX13_hears 1 = .ok (.iconst 0, 1) := by decide +kernel
theorem dX13_hears_2 : decode cX13_hears 2 = .ok (.putfield 48, 3) := by decide +kernel
theorem dX13_hears_5 : decode cX13_hears 5 = .ok (.aload_n 0, 1) := by decide +kernel
theorem dX13_hears_6 : decode cX13_hears 6 = .ok (.iload_n 1, 1) := by decide +kernel
theorem dX13_hears_7 : decode cX13_hears 7 = .ok (.invokevirtual 321, 3) := by decide +kernel
theorem dX13_hears_10 : decode cX13_hears 10 = .ok (.ifCond .ne 9, 3) := by decide +kernel
theorem dX13_hears_13 : decode cX13_hears 13 = .ok (.aload_n 0, 1) := by decide +kernel
theorem dX13_hears_14 : decode cX13_hears 14 = .ok (.iconst 1, 1) := by decide +kernel
theorem dX13_hears_15 : decode cX13_hears 15 = .ok (.invokevirtual 54, 3) := by decide +kernel
theorem dX13_hears_18 : decode cX13_hears 18 = .ok (.ireturn, 1) := by decide +kernel
theorem dX13_hears_19 : decode cX13_hears 19 = .ok (.iconst 1, 1) := by decide +kernel
theorem dX13_hears_20 : decode cX13_hears 20 = .ok (.iload_n 1, 1) := by decide +kernel
theorem dX13_hears_21 : decode cX13_hears 21 = .ok (.ishl, 1) := by decide +kernel
theorem dX13_hears_22 : decode cX13_hears 22 = .ok (.istore_n 2, 1) := by decide +kernel
theorem dX13_hears_23 : decode cX13_hears 23 = .ok (.iconst 0, 1) := by decide +kernel
theorem dX13_hears_24 : decode cX13_hears 24 = .ok (.istore_n 3, 1) := by decide +kernel
theorem dX13_hears_25 : decode cX13_hears 25 = .ok (.iload_n 3, 1) := by decide +kernel
theorem dX13_hears_26 : decode cX13_hears 26 = .ok (.aload_n 0, 1) := by decide +kernel
theorem dX13_hears_27 : decode cX13_hears 27 = .ok (.getfield 289, 3) := by decide +kernel
theorem dX13_hears_30 : decode cX13_hears 30 = .ok (.getfield 185, 3) := by decide +kernel
theorem dX13_hears_33 : decode cX13_hears 33 = .ok (.if_icmp .ge 15, 3) := by decide +kernel
theorem dX13_hears_36 : decode cX13_hears 36 = .ok (.aload_n 0, 1) := by decide +kernel
theorem dX13_hears_37 : decode cX13_hears 37 = .ok (.iload_n 2, 1) := by decide +kernel
theorem dX13_hears_38 : decode cX13_hears 38 = .ok (.invokevirtual 386, 3) := by decide +kernel
theorem dX13_hears_41 : decode cX13_hears 41 = .ok (.istore_n 2, 1) := by decide +kernel
theorem dX13_hears_42 : decode cX13_hears 42 = .ok (.iinc 3 1, 3) := by decide +kernel
theorem dX13_hears_45 : decode cX13_hears 45 = .ok (.goto (-20), 3) := by decide +kernel
theorem dX13_hears_48 : decode cX13_hears 48 = .ok (.aload_n 0, 1) := by decide +kernel
theorem dX13_hears_49 : decode cX13_hears 49 = .ok (.iload_n 2, 1) := by decide +kernel
theorem dX13_hears_50 : decode cX13_hears 50 = .ok (.invokevirtual 58, 3) := by decide +kernel
theorem dX13_hears_53 : decode cX13_hears 53 = .ok (.ireturn, 1) := by decide +kernel
theorem dX13_gets_0 : decode cX13_gets 0 = .ok (.iload_n 1, 1) := by decide +kernel
theorem dX13_gets_1 : decode cX13_gets 1 = .ok (.ifCond .eq 17, 3) := by decide +kernel
theorem dX13_gets_4 : decode cX13_gets 4 = .ok (.iload_n 2, 1) := by decide +kernel
theorem dX13_gets_5 : decode cX13_gets 5 = .ok (.ifCond .eq 7, 3) := by decide +kernel
theorem dX13_gets_8 : decode cX13_gets 8 = .ok (.iconst 3, 1) := by decide +kernel
theorem dX13_gets_9 : decode cX13_gets 9 = .ok (.goto 18, 3) := by decide +kernel
theorem dX13_gets_12 : decode cX13_gets 12 = .ok (.iconst 1, 1) := by decide +kernel
theorem dX13_gets_13 : decode cX13_gets 13 = .ok (.iload_n 0, 1) := by decide +kernel
theorem dX13_gets_14 : decode cX13_gets 14 = .ok (.isub, 1) := by decide +kernel
theorem dX13_gets_15 : decode cX13_gets 15 = .ok (.goto 12, 3) := by decide +kernel
theorem dX13_gets_18 : decode cX13_gets 18 = .ok (.iload_n 2, 1) := by decide +kernel
theorem dX13_gets_19 : decode cX13_gets 19 = .ok (.ifCond .eq 7, 3) := by decide +kernel
theorem dX13_gets_22 : decode cX13_gets 22 = .ok (.iconst 2, 1) := by decide +kernel
theorem dX13_gets_23 : decode cX13_gets 23 = .ok (.goto 4, 3) := by decide +kernel
theorem dX13_gets_26 : decode cX13_gets 26 = .ok (.iconst 0, 1) := by decide +kernel
theorem dX13_gets_27 : decode cX13_gets 27 = .ok (.ireturn, 1) := by decide +kernel
theorem dX13_refusesFear_0 : decode cX13_refusesFear 0 = .ok (.aload_n 0, 1) := by decide +kernel
theorem dX13_refusesFear_1 : decode cX13_refusesFear 1 = .ok (.getfield 289, 3) := by decide +kernel
theorem dX13_refusesFear_4 : decode cX13_refusesFear 4 = .ok (.ifnonnull 7, 3) := by decide +kernel
theorem dX13_refusesFear_7 : decode cX13_refusesFear 7 = .ok (.iconst 1, 1) := by decide +kernel
theorem dX13_refusesFear_8 : decode cX13_refusesFear 8 = .ok (.goto 18, 3) := by decide +kernel
theorem dX13_refusesFear_11 : decode cX13_refusesFear 11 = .ok (.iload_n 1, 1) := by decide +kernel
theorem dX13_refusesFear_12 : decode cX13_refusesFear 12 = .ok (.iconst 0, 1) := by decide +kernel
theorem dX13_refusesFear_13 : decode cX13_refusesFear 13 = .ok (.bipush 9, 2) := by decide +kernel
theorem dX13_refusesFear_15 : decode cX13_refusesFear 15 = .ok (.invokestatic 131, 3) := by decide +kernel
theorem dX13_refusesFear_18 : decode cX13_refusesFear 18 = .ok (.ifCond .eq 7, 3) := by decide +kernel
theorem dX13_refusesFear_21 : decode cX13_refusesFear 21 = .ok (.iconst 0, 1) := by decide +kernel
theorem dX13_refusesFear_22 : decode cX13_refusesFear 22 = .ok (.goto 4, 3) := by decide +kernel
theorem dX13_refusesFear_25 : decode cX13_refusesFear 25 = .ok (.iconst 2, 1) := by decide +kernel
theorem dX13_refusesFear_26 : decode cX13_refusesFear 26 = .ok (.ireturn, 1) := by decide +kernel
theorem dX13_looks_0 : decode cX13_looks 0 = .ok (.aload_n 0, 1) := by decide +kernel
theorem dX13_looks_1 : decode cX13_looks 1 = .ok (.iconst 0, 1) := by decide +kernel
theorem dX13_looks_2 : decode cX13_looks 2 = .ok (.putfield 48, 3) := by decide +kernel
theorem dX13_looks_5 : decode cX13_looks 5 = .ok (.aload_n 0, 1) := by decide +kernel
theorem dX13_looks_6 : decode cX13_looks 6 = .ok (.iload_n 1, 1) := by decide +kernel
theorem dX13_looks_7 : decode cX13_looks 7 = .ok (.invokevirtual 389, 3) := by decide +kernel
theorem dX13_looks_10 : decode cX13_looks 10 = .ok (.istore 5, 2) := by decide +kernel
theorem dX13_looks_12 : decode cX13_looks 12 = .ok (.iload 5, 2) := by decide +kernel
theorem dX13_looks_14 : decode cX13_looks 14 = .ok (.ifCond .le 12, 3) := by decide +kernel
theorem dX13_looks_17 : decode cX13_looks 17 = .ok (.aload_n 0, 1) := by decide +kernel
theorem dX13_looks_18 : decode cX13_looks 18 = .ok (.iload 5, 2) := by decide +kernel
theorem dX13_looks_20 : decode cX13_looks 20 = .ok (.invokevirtual 392, 3) := by decide +kernel
theorem dX13_looks_23 : decode cX13_looks 23 = .ok (.goto 27, 3) := by decide +kernel
theorem dX13_looks_26 : decode cX13_looks 26 = .ok (.aload_n 0, 1) := by decide +kernel
theorem dX13_looks_27 : decode cX13_looks 27 = .ok (.iload 4, 2) := by decide +kernel
theorem dX13_looks_29 : decode cX13_looks 29 = .ok (.ifCond .eq 12, 3) := by decide +kernel
theorem dX13_looks_32 : decode cX13_looks 32 = .ok (.iload_n 1, 1) := by decide +kernel
theorem dX13_looks_33 : decode cX13_looks 33 = .ok (.iload_n 3, 1) := by decide +kernel
theorem dX13_looks_34 : decode cX13_looks 34 = .ok (.iload_n 2, 1) := by decide +kernel
theorem dX13_looks_35 : decode cX13_looks 35 = .ok (.invokestatic 395, 3) := by decide +kernel
theorem dX13_looks_38 : decode cX13_looks 38 = .ok (.goto 9, 3) := by decide +kernel
theorem dX13_looks_41 : decode cX13_looks 41 = .ok (.iload_n 1, 1) := by decide +kernel
theorem dX13_looks_42 : decode cX13_looks 42 = .ok (.iload_n 2, 1) := by decide +kernel
theorem dX13_looks_43 : decode cX13_looks 43 = .ok (.iload_n 3, 1) := by decide +kernel
theorem dX13_looks_44 : decode cX13_looks 44 = .ok (.invokestatic 395, 3) := by decide +kernel
theorem dX13_looks_47 : decode cX13_looks 47 = .ok (.invokevirtual 58, 3) := by decide +kernel
theorem dX13_looks_50 : decode cX13_looks 50 = .ok (.ireturn, 1) := by decide +kernel
theorem dX13_isRest_0 : decode cX13_isRest 0 = .ok (.iload_n 1, 1) := by decide +kernel
theorem dX13_isRest_1 : decode cX13_isRest 1 = .ok (.iconst 1, 1) := by decide +kernel
theorem dX13_isRest_2 : decode cX13_isRest 2 = .ok (.if_icmp .le 7, 3) := by decide +kernel
theorem dX13_isRest_5 : decode cX13_isRest 5 = .ok (.iconst 1, 1) := by decide +kernel
theorem dX13_isRest_6 : decode cX13_isRest 6 = .ok (.goto 4, 3) := by decide +kernel
theorem dX13_isRest_9 : decode cX13_isRest 9 = .ok (.iconst 0, 1) := by decide +kernel
theorem dX13_isRest_10 : decode cX13_isRest 10 = .ok (.istore_n 2, 1) := by decide +kernel
theorem dX13_isRest_11 : decode cX13_isRest 11 = .ok (.iload_n 1, 1) := by decide +kernel
theorem dX13_isRest_12 : decode cX13_isRest 12 = .ok (.iconst 2, 1) := by decide +kernel
theorem dX13_isRest_13 : decode cX13_isRest 13 = .ok (.irem, 1) := by decide +kernel
theorem dX13_isRest_14 : decode cX13_isRest 14 = .ok (.iconst 1, 1) := by decide +kernel
theorem dX13_isRest_15 : decode cX13_isRest 15 = .ok (.if_icmp .ne 7, 3) := by decide +kernel
theorem dX13_isRest_18 : decode cX13_isRest 18 = .ok (.iconst 1, 1) := by decide +kernel
theorem dX13_isRest_19 : decode cX13_isRest 19 = .ok (.goto 4, 3) := by decide +kernel
theorem dX13_isRest_22 : decode cX13_isRest 22 = .ok (.iconst 0, 1) := by decide +kernel
theorem dX13_isRest_23 : decode cX13_isRest 23 = .ok (.istore_n 3, 1) := by decide +kernel
theorem dX13_isRest_24 : decode cX13_isRest 24 = .ok (.iload_n 0, 1) := by decide +kernel
theorem dX13_isRest_25 : decode cX13_isRest 25 = .ok (.iload_n 2, 1) := by decide +kernel
theorem dX13_isRest_26 : decode cX13_isRest 26 = .ok (.ifCond .ne 7, 3) := by decide +kernel
theorem dX13_isRest_29 : decode cX13_isRest 29 = .ok (.iconst 1, 1) := by decide +kernel
theorem dX13_isRest_30 : decode cX13_isRest 30 = .ok (.goto 4, 3) := by decide +kernel
theorem dX13_isRest_33 : decode cX13_isRest 33 = .ok (.iconst 0, 1) := by decide +kernel
theorem dX13_isRest_34 : decode cX13_isRest 34 = .ok (.iload_n 3, 1) := by decide +kernel
theorem dX13_isRest_35 : decode cX13_isRest 35 = .ok (.invokestatic 395, 3) := by decide +kernel
theorem dX13_isRest_38 : decode cX13_isRest 38 = .ok (.iload_n 0, 1) := by decide +kernel
theorem dX13_isRest_39 : decode cX13_isRest 39 = .ok (.iload_n 2, 1) := by decide +kernel
theorem dX13_isRest_40 : decode cX13_isRest 40 = .ok (.iload_n 3, 1) := by decide +kernel
theorem dX13_isRest_41 : decode cX13_isRest 41 = .ok (.invokestatic 395, 3) := by decide +kernel
theorem dX13_isRest_44 : decode cX13_isRest 44 = .ok (.if_icmp .gt 30, 3) := by decide +kernel
theorem dX13_isRest_47 : decode cX13_isRest 47 = .ok (.iload_n 0, 1) := by decide +kernel
theorem dX13_isRest_48 : decode cX13_isRest 48 = .ok (.iload_n 3, 1) := by decide +kernel
theorem dX13_isRest_49 : decode cX13_isRest 49 = .ok (.ifCond .ne 7, 3) := by decide +kernel
theorem dX13_isRest_52 : decode cX13_isRest 52 = .ok (.iconst 1, 1) := by decide +kernel
theorem dX13_isRest_53 : decode cX13_isRest 53 = .ok (.goto 4, 3) := by decide +kernel
theorem dX13_isRest_56 : decode cX13_isRest 56 = .ok (.iconst 0, 1) := by decide +kernel
theorem dX13_isRest_57 : decode cX13_isRest 57 = .ok (.iload_n 2, 1) := by decide +kernel
theorem dX13_isRest_58 : decode cX13_isRest 58 = .ok (.invokestatic 395, 3) := by decide +kernel
theorem dX13_isRest_61 : decode cX13_isRest 61 = .ok (.iload_n 0, 1) := by decide +kernel
theorem dX13_isRest_62 : decode cX13_isRest 62 = .ok (.iload_n 3, 1) := by decide +kernel
theorem dX13_isRest_63 : decode cX13_isRest 63 = .ok (.iload_n 2, 1) := by decide +kernel
theorem dX13_isRest_64 : decode cX13_isRest 64 = .ok (.invokestatic 395, 3) := by decide +kernel
theorem dX13_isRest_67 : decode cX13_isRest 67 = .ok (.if_icmp .gt 7, 3) := by decide +kernel
theorem dX13_isRest_70 : decode cX13_isRest 70 = .ok (.iconst 1, 1) := by decide +kernel
theorem dX13_isRest_71 : decode cX13_isRest 71 = .ok (.goto 4, 3) := by decide +kernel
theorem dX13_isRest_74 : decode cX13_isRest 74 = .ok (.iconst 0, 1) := by decide +kernel
theorem dX13_isRest_75 : decode cX13_isRest 75 = .ok (.ireturn, 1) := by decide +kernel
theorem dX13_rests_0 : decode cX13_rests 0 = .ok (.aload_n 0, 1) := by decide +kernel
theorem dX13_rests_1 : decode cX13_rests 1 = .ok (.iconst 0, 1) := by decide +kernel
theorem dX13_rests_2 : decode cX13_rests 2 = .ok (.putfield 48, 3) := by decide +kernel
theorem dX13_rests_5 : decode cX13_rests 5 = .ok (.aload_n 0, 1) := by decide +kernel
theorem dX13_rests_6 : decode cX13_rests 6 = .ok (.iload_n 1, 1) := by decide +kernel
theorem dX13_rests_7 : decode cX13_rests 7 = .ok (.invokevirtual 389, 3) := by decide +kernel
theorem dX13_rests_10 : decode cX13_rests 10 = .ok (.istore_n 2, 1) := by decide +kernel
theorem dX13_rests_11 : decode cX13_rests 11 = .ok (.iload_n 2, 1) := by decide +kernel
theorem dX13_rests_12 : decode cX13_rests 12 = .ok (.ifCond .le 9, 3) := by decide +kernel
theorem dX13_rests_15 : decode cX13_rests 15 = .ok (.aload_n 0, 1) := by decide +kernel
theorem dX13_rests_16 : decode cX13_rests 16 = .ok (.iload_n 2, 1) := by decide +kernel
theorem dX13_rests_17 : decode cX13_rests 17 = .ok (.invokevirtual 54, 3) := by decide +kernel
theorem dX13_rests_20 : decode cX13_rests 20 = .ok (.ireturn, 1) := by decide +kernel
theorem dX13_rests_21 : decode cX13_rests 21 = .ok (.iconst 0, 1) := by decide +kernel
theorem dX13_rests_22 : decode cX13_rests 22 = .ok (.istore_n 3, 1) := by decide +kernel
theorem dX13_rests_23 : decode cX13_rests 23 = .ok (.iconst 0, 1) := by decide +kernel
theorem dX13_rests_24 : decode cX13_rests 24 = .ok (.istore 4, 2) := by decide +kernel
theorem dX13_rests_26 : decode cX13_rests 26 = .ok (.iload 4, 2) := by decide +kernel
theorem dX13_rests_28 : decode cX13_rests 28 = .ok (.iconst 4, 1) := by decide +kernel
theorem dX13_rests_29 : decode cX13_rests 29 = .ok (.if_icmp .ge 26, 3) := by decide +kernel
theorem dX13_rests_32 : decode cX13_rests 32 = .ok (.iload_n 3, 1) := by decide +kernel
theorem dX13_rests_33 : decode cX13_rests 33 = .ok (.iload_n 1, 1) := by decide +kernel
theorem dX13_rests_34 : decode cX13_rests 34 = .ok (.iload 4, 2) := by decide +kernel
theorem dX13_rests_36 : decode cX13_rests 36 = .ok (.invokestatic 399, 3) := by decide +kernel
theorem dX13_rests_39 : decode cX13_rests 39 = .ok (.ifCond .eq 7, 3) := by decide +kernel
theorem dX13_rests_42 : decode cX13_rests 42 = .ok (.iconst 1, 1) := by decide +kernel
theorem dX13_rests_43 : decode cX13_rests 43 = .ok (.goto 4, 3) := by decide +kernel
theorem dX13_rests_46 : decode cX13_rests 46 = .ok (.iconst 0, 1) := by decide +kernel
theorem dX13_rests_47 : decode cX13_rests 47 = .ok (.iadd, 1) := by decide +kernel
theorem dX13_rests_48 : decode cX13_rests 48 = .ok (.istore_n 3, 1) := by decide +kernel
theorem dX13_rests_49 : decode cX13_rests 49 = .ok (.iinc 4 1, 3) := by decide +kernel
theorem dX13_rests_52 : decode cX13_rests 52 = .ok (.goto (-26), 3) := by decide +kernel
theorem dX13_rests_55 : decode cX13_rests 55 = .ok (.aload_n 0, 1) := by decide +kernel
theorem dX13_rests_56 : decode cX13_rests 56 = .ok (.iload_n 3, 1) := by decide +kernel
theorem dX13_rests_57 : decode cX13_rests 57 = .ok (.invokevirtual 58, 3) := by decide +kernel
theorem dX13_rests_60 : decode cX13_rests 60 = .ok (.ireturn, 1) := by decide +kernel
theorem dX13_rest_0 : decode cX13_rest 0 = .ok (.aload_n 0, 1) := by decide +kernel
theorem dX13_rest_1 : decode cX13_rest 1 = .ok (.iconst 0, 1) := by decide +kernel
theorem dX13_rest_2 : decode cX13_rest 2 = .ok (.putfield 48, 3) := by decide +kernel
theorem dX13_rest_5 : decode cX13_rest 5 = .ok (.aload_n 0, 1) := by decide +kernel
theorem dX13_rest_6 : decode cX13_rest 6 = .ok (.iload_n 1, 1) := by decide +kernel
theorem dX13_rest_7 : decode cX13_rest 7 = .ok (.invokevirtual 389, 3) := by decide +kernel
theorem dX13_rest_10 : decode cX13_rest 10 = .ok (.istore_n 2, 1) := by decide +kernel
theorem dX13_rest_11 : decode cX13_rest 11 = .ok (.iload_n 2, 1) := by decide +kernel
theorem dX13_rest_12 : decode cX13_rest 12 = .ok (.ifCond .le 9, 3) := by decide +kernel
theorem dX13_rest_15 : decode cX13_rest 15 = .ok (.aload_n 0, 1) := by decide +kernel
theorem dX13_rest_16 : decode cX13_rest 16 = .ok (.iload_n 2, 1) := by decide +kernel
theorem dX13_rest_17 : decode cX13_rest 17 = .ok (.invokevirtual 54, 3) := by decide +kernel
theorem dX13_rest_20 : decode cX13_rest 20 = .ok (.ireturn, 1) := by decide +kernel
theorem dX13_rest_21 : decode cX13_rest 21 = .ok (.iconst 0, 1) := by decide +kernel
theorem dX13_rest_22 : decode cX13_rest 22 = .ok (.istore_n 3, 1) := by decide +kernel
theorem dX13_rest_23 : decode cX13_rest 23 = .ok (.iload_n 3, 1) := by decide +kernel
theorem dX13_rest_24 : decode cX13_rest 24 = .ok (.iconst 4, 1) := by decide +kernel
theorem dX13_rest_25 : decode cX13_rest 25 = .ok (.if_icmp .ge 32, 3) := by decide +kernel
theorem dX13_rest_28 : decode cX13_rest 28 = .ok (.iload_n 1, 1) := by decide +kernel
theorem dX13_rest_29 : decode cX13_rest 29 = .ok (.iload_n 3, 1) := by decide +kernel
theorem dX13_rest_30 : decode cX13_rest 30 = .ok (.invokestatic 399, 3) := by decide +kernel
theorem dX13_rest_33 : decode cX13_rest 33 = .ok (.ifCond .eq 18, 3) := by decide +kernel
theorem dX13_rest_36 : decode cX13_rest 36 = .ok (.aload_n 0, 1) := by decide +kernel
theorem dX13_rest_37 : decode cX13_rest 37 = .ok (.bipush 10, 2) := by decide +kernel
theorem dX13_rest_39 : decode cX13_rest 39 = .ok (.iload_n 3, 1) := by decide +kernel
theorem dX13_rest_40 : decode cX13_rest 40 = .ok (.iconst 2, 1) := by decide +kernel
theorem dX13_rest_41 : decode cX13_rest 41 = .ok (.idiv, 1) := by decide +kernel
theorem dX13_rest_42 : decode cX13_rest 42 = .ok (.imul, 1) := by decide +kernel
theorem dX13_rest_43 : decode cX13_rest 43 = .ok (.iload_n 3, 1) := by decide +kernel
theorem dX13_rest_44 : decode cX13_rest 44 = .ok (.iconst 2, 1) := by decide +kernel
theorem dX13_rest_45 : decode cX13_rest 45 = .ok (.irem, 1) := by decide +kernel
theorem dX13_rest_46 : decode cX13_rest 46 = .ok (.iadd, 1) := by decide +kernel
theorem dX13_rest_47 : decode cX13_rest 47 = .ok (.invokevirtual 58, 3) := by decide +kernel
theorem dX13_rest_50 : decode cX13_rest 50 = .ok (.ireturn, 1) := by decide +kernel
theorem dX13_rest_51 : decode cX13_rest 51 = .ok (.iinc 3 1, 3) := by decide +kernel
theorem dX13_rest_54 : decode cX13_rest 54 = .ok (.goto (-31), 3) := by decide +kernel
theorem dX13_rest_57 : decode cX13_rest 57 = .ok (.aload_n 0, 1) := by decide +kernel
theorem dX13_rest_58 : decode cX13_rest 58 = .ok (.bipush (-2), 2) := by decide +kernel
theorem dX13_rest_60 : decode cX13_rest 60 = .ok (.invokevirtual 58, 3) := by decide +kernel
theorem dX13_rest_63 : decode cX13_rest 63 = .ok (.ireturn, 1) := by decide +kernel
theorem dX13_wholeOf_0 : decode cX13_wholeOf 0 = .ok (.lconst 1, 1) := by decide +kernel
theorem dX13_wholeOf_1 : decode cX13_wholeOf 1 = .ok (.lstore_n 2, 1) := by decide +kernel
theorem dX13_wholeOf_2 : decode cX13_wholeOf 2 = .ok (.iload_n 1, 1) := by decide +kernel
theorem dX13_wholeOf_3 : decode cX13_wholeOf 3 = .ok (.invokestatic 303, 3) := by decide +kernel
theorem dX13_wholeOf_6 : decode cX13_wholeOf 6 = .ok (.istore 4, 2) := by decide +kernel
theorem dX13_wholeOf_8 : decode cX13_wholeOf 8 = .ok (.iload 4, 2) := by decide +kernel
theorem dX13_wholeOf_10 : decode cX13_wholeOf 10 = .ok (.ifCond .le 15, 3) := by decide +kernel
theorem dX13_wholeOf_13 : decode cX13_wholeOf 13 = .ok (.lload_n 2, 1) := by decide +kernel
theorem dX13_wholeOf_14 : decode cX13_wholeOf 14 = .ok (.ldc2_w 402, 3) := by decide +kernel
theorem dX13_wholeOf_17 : decode cX13_wholeOf 17 = .ok (.lmul, 1) := by decide +kernel
theorem dX13_wholeOf_18 : decode cX13_wholeOf 18 = .ok (.lstore_n 2, 1) := by decide +kernel
theorem dX13_wholeOf_19 : decode cX13_wholeOf 19 = .ok (.iinc 4 (-1), 3) := by decide +kernel
theorem dX13_wholeOf_22 : decode cX13_wholeOf 22 = .ok (.goto (-14), 3) := by decide +kernel
theorem dX13_wholeOf_25 : decode cX13_wholeOf 25 = .ok (.lload_n 2, 1) := by decide +kernel
theorem dX13_wholeOf_26 : decode cX13_wholeOf 26 = .ok (.lreturn, 1) := by decide +kernel
theorem dX13_partOf_0 : decode cX13_partOf 0 = .ok (.lconst 1, 1) := by decide +kernel
theorem dX13_partOf_1 : decode cX13_partOf 1 = .ok (.lstore_n 3, 1) := by decide +kernel
theorem dX13_partOf_2 : decode cX13_partOf 2 = .ok (.iconst 0, 1) := by decide +kernel
theorem dX13_partOf_3 : decode cX13_partOf 3 = .ok (.istore 5, 2) := by decide +kernel
theorem dX13_partOf_5 : decode cX13_partOf 5 = .ok (.iload 5, 2) := by decide +kernel
theorem dX13_partOf_7 : decode cX13_partOf 7 = .ok (.aload_n 0, 1) := by decide +kernel
theorem dX13_partOf_8 : decode cX13_partOf 8 = .ok (.getfield 289, 3) := by decide +kernel
theorem dX13_partOf_11 : decode cX13_partOf 11 = .ok (.getfield 185, 3) := by decide +kernel
theorem dX13_partOf_14 : decode cX13_partOf 14 = .ok (.if_icmp .ge 58, 3) := by decide +kernel
theorem dX13_partOf_17 : decode cX13_partOf 17 = .ok (.iload_n 2, 1) := by decide +kernel
theorem dX13_partOf_18 : decode cX13_partOf 18 = .ok (.iload 5, 2) := by decide +kernel
theorem dX13_partOf_20 : decode cX13_partOf 20 = .ok (.invokestatic 267, 3) := by decide +kernel
theorem dX13_partOf_23 : decode cX13_partOf 23 = .ok (.ifCond .eq 43, 3) := by decide +kernel
theorem dX13_partOf_26 : decode cX13_partOf 26 = .ok (.lload_n 3, 1) := by decide +kernel
theorem dX13_partOf_27 : decode cX13_partOf 27 = .ok (.iload_n 1, 1) := by decide +kernel
theorem dX13_partOf_28 : decode cX13_partOf 28 = .ok (.iload 5, 2) := by decide +kernel
theorem dX13_partOf_30 : decode cX13_partOf 30 = .ok (.invokestatic 267, 3) := by decide +kernel
theorem dX13_partOf_33 : decode cX13_partOf 33 = .ok (.ifCond .eq 17, 3) := by decide +kernel
theorem dX13_partOf_36 : decode cX13_partOf 36 = .ok (.aload_n 0, 1) := by decide +kernel
theorem dX13_partOf_37 : decode cX13_partOf 37 = .ok (.getfield 289, 3) := by decide +kernel
theorem dX13_partOf_40 : decode cX13_partOf 40 = .ok (.getfield 251, 3) := by decide +kernel
theorem dX13_partOf_43 : decode cX13_partOf 43 = .ok (.iload 5, 2) := by decide +kernel
theorem dX13_partOf_45 : decode cX13_partOf 45 = .ok (.iaload, 1) := by decide +kernel
theorem dX13_partOf_46 : decode cX13_partOf 46 = .ok (.i2l, 1) := by decide +kernel
theorem dX13_partOf_47 : decode cX13_partOf 47 = .ok (.goto 17, 3) := by decide +kernel
theorem dX13_partOf_50 : decode cX13_partOf 50 = .ok (.bipush 100, 2) := by decide +kernel
theorem dX13_partOf_52 : decode cX13_partOf 52 = .ok (.aload_n 0, 1) := by decide +kernel
theorem dX13_partOf_53 : decode cX13_partOf 53 = .ok (.getfield 289, 3) := by decide +kernel
theorem dX13_partOf_56 : decode cX13_partOf 56 = .ok (.getfield 251, 3) := by decide +kernel
theorem dX13_partOf_59 : decode cX13_partOf 59 = .ok (.iload 5, 2) := by decide +kernel
theorem dX13_partOf_61 : decode cX13_partOf 61 = .ok (.iaload, 1) := by decide +kernel
theorem dX13_partOf_62 : decode cX13_partOf 62 = .ok (.isub, 1) := by decide +kernel
theorem dX13_partOf_63 : decode cX13_partOf 63 = .ok (.i2l, 1) := by decide +kernel
theorem dX13_partOf_64 : decode cX13_partOf 64 = .ok (.lmul, 1) := by decide +kernel
theorem dX13_partOf_65 : decode cX13_partOf 65 = .ok (.lstore_n 3, 1) := by decide +kernel
theorem dX13_partOf_66 : decode cX13_partOf 66 = .ok (.iinc 5 1, 3) := by decide +kernel
theorem dX13_partOf_69 : decode cX13_partOf 69 = .ok (.goto (-64), 3) := by decide +kernel
theorem dX13_partOf_72 : decode cX13_partOf 72 = .ok (.lload_n 3, 1) := by decide +kernel
theorem dX13_partOf_73 : decode cX13_partOf 73 = .ok (.lreturn, 1) := by decide +kernel
theorem dX13_safe_0 : decode cX13_safe 0 = .ok (.aload_n 0, 1) := by decide +kernel
theorem dX13_safe_1 : decode cX13_safe 1 = .ok (.iconst 0, 1) := by decide +kernel
theorem dX13_safe_2 : decode cX13_safe 2 = .ok (.putfield 48, 3) := by decide +kernel
theorem dX13_safe_5 : decode cX13_safe 5 = .ok (.aload_n 0, 1) := by decide +kernel
theorem dX13_safe_6 : decode cX13_safe 6 = .ok (.getfield 289, 3) := by decide +kernel
theorem dX13_safe_9 : decode cX13_safe 9 = .ok (.ifnonnull 10, 3) := by decide +kernel
theorem dX13_safe_12 : decode cX13_safe 12 = .ok (.aload_n 0, 1) := by decide +kernel
theorem dX13_safe_13 : decode cX13_safe 13 = .ok (.iconst 1, 1) := by decide +kernel
theorem dX13_safe_14 : decode cX13_safe 14 = .ok (.invokevirtual 54, 3) := by decide +kernel
theorem dX13_safe_17 : decode cX13_safe 17 = .ok (.i2l, 1) := by decide +kernel
theorem dX13_safe_18 : decode cX13_safe 18 = .ok (.lreturn, 1) := by decide +kernel
theorem dX13_safe_19 : decode cX13_safe 19 = .ok (.aload_n 0, 1) := by decide +kernel
theorem dX13_safe_20 : decode cX13_safe 20 = .ok (.invokevirtual 324, 3) := by decide +kernel
theorem dX13_safe_23 : decode cX13_safe 23 = .ok (.aload_n 0, 1) := by decide +kernel
theorem dX13_safe_24 : decode cX13_safe 24 = .ok (.aload_n 0, 1) := by decide +kernel
theorem dX13_safe_25 : decode cX13_safe 25 = .ok (.iconst 0, 1) := by decide +kernel
theorem dX13_safe_26 : decode cX13_safe 26 = .ok (.aload_n 0, 1) := by decide +kernel
theorem dX13_safe_27 : decode cX13_safe 27 = .ok (.invokevirtual 361, 3) := by decide +kernel
theorem dX13_safe_30 : decode cX13_safe 30 = .ok (.invokevirtual 404, 3) := by decide +kernel
theorem dX13_safe_33 : decode cX13_safe 33 = .ok (.aload_n 0, 1) := by decide +kernel
theorem dX13_safe_34 : decode cX13_safe 34 = .ok (.aload_n 0, 1) := by decide +kernel
theorem dX13_safe_35 : decode cX13_safe 35 = .ok (.invokevirtual 361, 3) := by decide +kernel
theorem dX13_safe_38 : decode cX13_safe 38 = .ok (.invokevirtual 408, 3) := by decide +kernel
theorem dX13_safe_41 : decode cX13_safe 41 = .ok (.iload_n 1, 1) := by decide +kernel
theorem dX13_safe_42 : decode cX13_safe 42 = .ok (.invokevirtual 380, 3) := by decide +kernel
theorem dX13_safe_45 : decode cX13_safe 45 = .ok (.lreturn, 1) := by decide +kernel
def m_X13_hears (t : Nat) (x0p : Int32) (σ : jd_Hp) : Option (Int32 × jd_Hp) :=
jd_li (jd_pi σ t 0 0) fun τ1 =>
jd_b (m_X13_isPerson t x0p τ1) fun r2 σ2 =>
jd_if (¬ r2 = 0) (
jd_li (1 <<< (x0p &&& 31)) fun x3 =>
jd_b (jd_lp (S := Int32 × Int32) (T := Int32) (fun s4 σ4 =>
jd_o σ4 (13, 29) (some t) fun a6 =>
jd_o σ4 (12, 20) (σ4.2.2.2 a6 3) fun a7 =>
jd_if ((σ4.2.1 a7 3) ≤ s4.2) (
some ((Sum.inr s4.1), σ4)) (
jd_b (m_X13_knownBy a6 s4.1 σ4) fun r8 σ8 =>
some (Sum.inl (r8, (s4.2 + 1)), σ8))) jd_fu (x3, 0) σ2) fun t5 σ5 =>
jd_o σ5 (13, 29) (some t) fun a9 =>
jd_b (m_X13_good a9 t5 σ5) fun r10 σ10 =>
some (r10, σ10)) (
jd_b (m_X13_refused t 1 σ2) fun r11 σ11 =>
some (r11, σ11))
set_option maxHeartbeats 4000000 in
set_option maxRecDepth 20000 in
theorem c_X13_hears {l : Launch} {s0 : State} {G : jd_G} (hF : jd_F s0 G) (σ : jd_Hp) (t : Nat) (ht : σ.1[t]? = some (13, 29)) (x0p : Int32) : jd_M l s0 G yX13_hears cX13_hears 4 (some .int) 2 je_i [jd_v G (some t), .int x0p] σ (m_X13_hears t x0p σ) := by
  refine jd_enter hF (by decide) (fun G => [some (jd_v G (some t)), some (.int x0p), none, none]) rfl (by simp [lv_args, jd_al, jd_v_cat, jd_cti, jd_ctl]) (by simp [lg_sl, jd_v_cat, jd_cti, jd_ctl]) (fun X hD hX => ?_)
  have hX : jd_C X RX13 "hears" cX13_hears 4 (some .int) := hX
  unfold m_X13_hears
  refine jr_ald0 (pc := 0) hX dX13_hears_0 ?_
  refine jr_iconst (pc := 1) hX 0 rfl dX13_hears_1 ?_
  refine jr_puti (pc := 2) hX fX13_48 rfl dX13_hears_2 ht ?_
  refine jr_li ?_
  refine jr_ald0 (pc := 5) hX dX13_hears_5 ?_
  refine jr_ild1 (pc := 6) hX dX13_hears_6 ?_
  refine jr_cV1i (pc := 7) hX lX13_321 (c_X13_isPerson hX.F (jd_pi σ t 0 0) t ht _) (jd_dd hD rfl) (Nat.le_of_ble_eq_true rfl) dX13_hears_7 ht (fun r2 σ2 p2 => ?_)
  refine jr_ifne (pc := 10) hX 19 dX13_hears_10 (by decide) ?_ ?_
  · refine jr_iconst (pc := 19) hX 1 rfl dX13_hears_19 ?_
    refine jr_ild1 (pc := 20) hX dX13_hears_20 ?_
    refine jr_ishl (pc := 21) hX dX13_hears_21 ?_
    refine jr_ist2 (pc := 22) hX (jn_i _) dX13_hears_22 ?_
    refine jr_li ?_
    refine jr_iconst (pc := 23) hX 0 rfl dX13_hears_23 ?_
    refine jr_ist3 (pc := 24) hX (jn_i _) dX13_hears_24 ?_
    refine jr_wk [true, false, true, true] ?_
    refine jr_loop (pc := 25) (fun (s4 : Int32 × Int32) => [some (jd_v (jd_gG X) (some t)), none, some (.int s4.1), some (.int s4.2)]) (fun (t5 : Int32) => [some (jd_v (jd_gG X) (some t)), none, some (.int t5), none]) 48 ((1 <<< (x0p &&& 31)), 0) (fun t5 σ5 => ?_) (fun K4 bk4 ex4 s4 σ4 => ?_)
    · refine jr_ald0 (pc := 48) hX dX13_hears_48 ?_
      refine jr_ild2 (pc := 49) hX dX13_hears_49 ?_
      refine jr_ck1 (fun a9 e9 h9 => ?_)
      refine jr_cV1i (pc := 50) hX lX13_58 (c_X13_good hX.F σ5 a9 h9 _) (jd_dd hD rfl) (Nat.le_of_ble_eq_true rfl) dX13_hears_50 h9 (fun r10 σ10 p10 => ?_)
      exact jr_iret (pc := 53) hX dX13_hears_53 rfl
    · refine jr_ild3 (pc := 25) hX dX13_hears_25 ?_
      refine jr_ald0 (pc := 26) hX dX13_hears_26 ?_
      refine jr_ck0 (fun a6 e6 h6 => ?_)
      refine jr_getr (pc := 27) hX fX13_289 rfl dX13_hears_27 h6 ?_
      refine jr_ck0 (fun a7 e7 h7 => ?_)
      refine jr_getiN (pc := 30) hX fX13_185 rfl dX13_hears_30 h7 ?_
      refine jr_icge (pc := 33) hX 48 dX13_hears_33 (by decide) ?_ ?_
      · refine jr_wk [true, true, true, false] ?_
        exact ex4 s4.1 _
      · refine jr_ald0 (pc := 36) hX dX13_hears_36 ?_
        refine jr_ild2 (pc := 37) hX dX13_hears_37 ?_
        refine jr_ek1 e6 ?_
        refine jr_cV1i (pc := 38) hX lX13_386 (c_X13_knownBy hX.F σ4 a6 h6 _) (jd_dd hD rfl) (Nat.le_of_ble_eq_true rfl) dX13_hears_38 h6 (fun r8 σ8 p8 => ?_)
        refine jr_ist2 (pc := 41) hX jn_n dX13_hears_41 ?_
        refine jr_inc3 (pc := 42) hX 1 rfl (jn_i _) dX13_hears_42 ?_
        refine jr_goto (pc := 45) hX 25 dX13_hears_45 (by decide) ?_
        exact bk4 (r8, (s4.2 + 1)) _
  · refine jr_ald0 (pc := 13) hX dX13_hears_13 ?_
    refine jr_iconst (pc := 14) hX 1 rfl dX13_hears_14 ?_
    refine jr_cV1i (pc := 15) hX lX13_54 (c_X13_refused hX.F σ2 t (p2.at ht :) _) (jd_dd hD rfl) (Nat.le_of_ble_eq_true rfl) dX13_hears_15 (p2.at ht :) (fun r11 σ11 p11 => ?_)
    exact jr_iret (pc := 18) hX dX13_hears_18 rfl
def m_X13_gets (x0p : Int32) (x1p : Int32) (x2p : Int32) (σ : jd_Hp) : Option (Int32 × jd_Hp) :=
jd_if (x1p = 0) (
jd_if (x2p = 0) (
some (0, σ)) (
some (2, σ))) (
jd_if (x2p = 0) (
some ((1 - x0p), σ)) (
some (3, σ)))
set_option maxHeartbeats 4000000 in
set_option maxRecDepth 20000 in
theorem c_X13_gets {l : Launch} {s0 : State} {G : jd_G} (hF : jd_F s0 G) (σ : jd_Hp) (x0p : Int32) (x1p : Int32) (x2p : Int32) : jd_M l s0 G yX13_gets cX13_gets 3 (some .int) 0 je_i [.int x0p, .int x1p, .int x2p] σ (m_X13_gets x0p x1p x2p σ) := by
  refine jd_enter hF (by decide) (fun G => [some (.int x0p), some (.int x1p), some (.int x2p)]) rfl (by simp [lv_args, jd_al, jd_v_cat, jd_cti, jd_ctl]) (by simp [lg_sl, jd_v_cat, jd_cti, jd_ctl]) (fun X hD hX => ?_)
  have hX : jd_C X RX13 "gets" cX13_gets 3 (some .int) := hX
  unfold m_X13_gets
  refine jr_ild1 (pc := 0) hX dX13_gets_0 ?_
  refine jr_ifeq (pc := 1) hX 18 dX13_gets_1 (by decide) ?_ ?_
  · refine jr_ild2 (pc := 18) hX dX13_gets_18 ?_
    refine jr_ifeq (pc := 19) hX 26 dX13_gets_19 (by decide) ?_ ?_
    · refine jr_iconst (pc := 26) hX 0 rfl dX13_gets_26 ?_
      exact jr_iret (pc := 27) hX dX13_gets_27 rfl
    · refine jr_iconst (pc := 22) hX 2 rfl dX13_gets_22 ?_
      refine jr_goto (pc := 23) hX 27 dX13_gets_23 (by decide) ?_
      exact jr_iret (pc := 27) hX dX13_gets_27 rfl
  · refine jr_ild2 (pc := 4) hX dX13_gets_4 ?_
    refine jr_ifeq (pc := 5) hX 12 dX13_gets_5 (by decide) ?_ ?_
    · refine jr_iconst (pc := 12) hX 1 rfl dX13_gets_12 ?_
      refine jr_ild0 (pc := 13) hX dX13_gets_13 ?_
      refine jr_isub (pc := 14) hX dX13_gets_14 ?_
      refine jr_goto (pc := 15) hX 27 dX13_gets_15 (by decide) ?_
      exact jr_iret (pc := 27) hX dX13_gets_27 rfl
    · refine jr_iconst (pc := 8) hX 3 rfl dX13_gets_8 ?_
      refine jr_goto (pc := 9) hX 27 dX13_gets_9 (by decide) ?_
      exact jr_iret (pc := 27) hX dX13_gets_27 rfl
def m_X13_refusesFear (t : Nat) (x0p : Int32) (σ : jd_Hp) : Option (Int32 × jd_Hp) :=
jd_if (¬ (σ.2.2.2 t 3) = none) (
jd_b (m_X13_in x0p 0 9 σ) fun r1 σ1 =>
jd_if (r1 = 0) (
some (2, σ1)) (
some (0, σ1))) (
some (1, σ))
set_option maxHeartbeats 4000000 in
set_option maxRecDepth 20000 in
theorem c_X13_refusesFear {l : Launch} {s0 : State} {G : jd_G} (hF : jd_F s0 G) (σ : jd_Hp) (t : Nat) (ht : σ.1[t]? = some (13, 29)) (x0p : Int32) : jd_M l s0 G yX13_refusesFear cX13_refusesFear 2 (some .int) 1 je_i [jd_v G (some t), .int x0p] σ (m_X13_refusesFear t x0p σ) := by
  refine jd_enter hF (by decide) (fun G => [some (jd_v G (some t)), some (.int x0p)]) rfl (by simp [lv_args, jd_al, jd_v_cat, jd_cti, jd_ctl]) (by simp [lg_sl, jd_v_cat, jd_cti, jd_ctl]) (fun X hD hX => ?_)
  have hX : jd_C X RX13 "refusesFear" cX13_refusesFear 2 (some .int) := hX
  unfold m_X13_refusesFear
  refine jr_ald0 (pc := 0) hX dX13_refusesFear_0 ?_
  refine jr_getr (pc := 1) hX fX13_289 rfl dX13_refusesFear_1 ht ?_
  refine jr_ifnonnull (pc := 4) hX 11 dX13_refusesFear_4 (by decide) ?_ ?_
  · refine jr_ild1 (pc := 11) hX dX13_refusesFear_11 ?_
    refine jr_iconst (pc := 12) hX 0 rfl dX13_refusesFear_12 ?_
    refine jr_bipush (pc := 13) hX 9 rfl dX13_refusesFear_13 ?_
    refine jr_cS3i (pc := 15) hX lX13_131 (c_X13_in hX.F σ _ _ _) (jd_dd hD rfl) (Nat.le_of_ble_eq_true rfl) dX13_refusesFear_15 (fun r1 σ1 p1 => ?_)
    refine jr_ifeq (pc := 18) hX 25 dX13_refusesFear_18 (by decide) ?_ ?_
    · refine jr_iconst (pc := 25) hX 2 rfl dX13_refusesFear_25 ?_
      exact jr_iret (pc := 26) hX dX13_refusesFear_26 rfl
    · refine jr_iconst (pc := 21) hX 0 rfl dX13_refusesFear_21 ?_
      refine jr_goto (pc := 22) hX 26 dX13_refusesFear_22 (by decide) ?_
      exact jr_iret (pc := 26) hX dX13_refusesFear_26 rfl
  · refine jr_iconst (pc := 7) hX 1 rfl dX13_refusesFear_7 ?_
    refine jr_goto (pc := 8) hX 26 dX13_refusesFear_8 (by decide) ?_
    exact jr_iret (pc := 26) hX dX13_refusesFear_26 rfl
def m_X13_looks (t : Nat) (x0p : Int32) (x1p : Int32) (x2p : Int32) (x3p : Int32) (σ : jd_Hp) : Option (Int32 × jd_Hp) :=
jd_li (jd_pi σ t 0 0) fun τ1 =>
jd_b (m_X13_refusesFear t x0p τ1) fun r2 σ2 =>
jd_if (r2 ≤ 0) (
jd_if (x3p = 0) (
jd_b (m_X13_gets x0p x1p x2p σ2) fun r3 σ3 =>
jd_b (m_X13_good t r3 σ3) fun r4 σ4 =>
some (r4, σ4)) (
jd_b (m_X13_gets x0p x2p x1p σ2) fun r5 σ5 =>
jd_b (m_X13_good t r5 σ5) fun r6 σ6 =>
some (r6, σ6))) (
jd_b (m_X13_lostBy t r2 σ2) fun r7 σ7 =>
some (r7, σ7))
set_option maxHeartbeats 4000000 in
set_option maxRecDepth 20000 in
theorem c_X13_looks {l : Launch} {s0 : State} {G : jd_G} (hF : jd_F s0 G) (σ : jd_Hp) (t : Nat) (ht : σ.1[t]? = some (13, 29)) (x0p : Int32) (x1p : Int32) (x2p : Int32) (x3p : Int32) : jd_M l s0 G yX13_looks cX13_looks 6 (some .int) 2 je_i [jd_v G (some t), .int x0p, .int x1p, .int x2p, .int x3p] σ (m_X13_looks t x0p x1p x2p x3p σ) := by
  refine jd_enter hF (by decide) (fun G => [some (jd_v G (some t)), some (.int x0p), some (.int x1p), some (.int x2p), some (.int x3p), none]) rfl (by simp [lv_args, jd_al, jd_v_cat, jd_cti, jd_ctl]) (by simp [lg_sl, jd_v_cat, jd_cti, jd_ctl]) (fun X hD hX => ?_)
  have hX : jd_C X RX13 "looks" cX13_looks 6 (some .int) := hX
  unfold m_X13_looks
  refine jr_ald0 (pc := 0) hX dX13_looks_0 ?_
  refine jr_iconst (pc := 1) hX 0 rfl dX13_looks_1 ?_
  refine jr_puti (pc := 2) hX fX13_48 rfl dX13_looks_2 ht ?_
  refine jr_li ?_
  refine jr_ald0 (pc := 5) hX dX13_looks_5 ?_
  refine jr_ild1 (pc := 6) hX dX13_looks_6 ?_
  refine jr_cV1i (pc := 7) hX lX13_389 (c_X13_refusesFear hX.F (jd_pi σ t 0 0) t ht _) (jd_dd hD rfl) (Nat.le_of_ble_eq_true rfl) dX13_looks_7 ht (fun r2 σ2 p2 => ?_)
  refine jr_ist5 (pc := 10) hX (jn_i _) dX13_looks_10 ?_
  refine jr_ild5 (pc := 12) hX dX13_looks_12 ?_
  refine jr_ifle (pc := 14) hX 26 dX13_looks_14 (by decide) ?_ ?_
  · refine jr_ald0 (pc := 26) hX dX13_looks_26 ?_
    refine jr_ild4 (pc := 27) hX dX13_looks_27 ?_
    refine jr_ifeq (pc := 29) hX 41 dX13_looks_29 (by decide) ?_ ?_
    · refine jr_ild1 (pc := 41) hX dX13_looks_41 ?_
      refine jr_ild2 (pc := 42) hX dX13_looks_42 ?_
      refine jr_ild3 (pc := 43) hX dX13_looks_43 ?_
      refine jr_cS3i (pc := 44) hX lX13_395 (c_X13_gets hX.F σ2 _ _ _) (jd_dd hD rfl) (by simp [jd_v_cat, jd_cti, jd_ctl]) dX13_looks_44 (fun r3 σ3 p3 => ?_)
      refine jr_cV1i (pc := 47) hX lX13_58 (c_X13_good hX.F σ3 t (p3.at (p2.at ht :) :) _) (jd_dd hD rfl) (Nat.le_of_ble_eq_true rfl) dX13_looks_47 (p3.at (p2.at ht :) :) (fun r4 σ4 p4 => ?_)
      exact jr_iret (pc := 50) hX dX13_looks_50 rfl
    · refine jr_ild1 (pc := 32) hX dX13_looks_32 ?_
      refine jr_ild3 (pc := 33) hX dX13_looks_33 ?_
      refine jr_ild2 (pc := 34) hX dX13_looks_34 ?_
      refine jr_cS3i (pc := 35) hX lX13_395 (c_X13_gets hX.F σ2 _ _ _) (jd_dd hD rfl) (by simp [jd_v_cat, jd_cti, jd_ctl]) dX13_looks_35 (fun r5 σ5 p5 => ?_)
      refine jr_goto (pc := 38) hX 47 dX13_looks_38 (by decide) ?_
      refine jr_cV1i (pc := 47) hX lX13_58 (c_X13_good hX.F σ5 t (p5.at (p2.at ht :) :) _) (jd_dd hD rfl) (Nat.le_of_ble_eq_true rfl) dX13_looks_47 (p5.at (p2.at ht :) :) (fun r6 σ6 p6 => ?_)
      exact jr_iret (pc := 50) hX dX13_looks_50 rfl
  · refine jr_ald0 (pc := 17) hX dX13_looks_17 ?_
    refine jr_ild5 (pc := 18) hX dX13_looks_18 ?_
    refine jr_cV1i (pc := 20) hX lX13_392 (c_X13_lostBy hX.F σ2 t (p2.at ht :) _) (jd_dd hD rfl) (Nat.le_of_ble_eq_true rfl) dX13_looks_20 (p2.at ht :) (fun r7 σ7 p7 => ?_)
    refine jr_goto (pc := 23) hX 50 dX13_looks_23 (by decide) ?_
    exact jr_iret (pc := 50) hX dX13_looks_50 rfl
def m_X13_isRest (x0p : Int32) (x1p : Int32) (σ : jd_Hp) : Option (Int32 × jd_Hp) :=
jd_b (α := Int32) (
jd_if (x1p ≤ 1) (
some (0, σ)) (
some (1, σ))) fun t1 σ1 =>
jd_b (α := Int32) (
jd_if (¬ (x1p - x1p / 2 * 2) = 1) (
some (0, σ1)) (
some (1, σ1))) fun t2 σ2 =>
jd_b (α := Int32) (
jd_if (¬ t1 = 0) (
some (0, σ2)) (
some (1, σ2))) fun t3 σ3 =>
jd_b (m_X13_gets x0p t3 t2 σ3) fun r4 σ4 =>
jd_b (m_X13_gets x0p t1 t2 σ4) fun r5 σ5 =>
jd_if (r5 < r4) (
some (0, σ5)) (
jd_b (α := Int32) (
jd_if (¬ t2 = 0) (
some (0, σ5)) (
some (1, σ5))) fun t6 σ6 =>
jd_b (m_X13_gets x0p t6 t1 σ6) fun r7 σ7 =>
jd_b (m_X13_gets x0p t2 t1 σ7) fun r8 σ8 =>
jd_if (r8 < r7) (
some (0, σ8)) (
some (1, σ8)))
set_option maxHeartbeats 4000000 in
set_option maxRecDepth 20000 in
theorem c_X13_isRest {l : Launch} {s0 : State} {G : jd_G} (hF : jd_F s0 G) (σ : jd_Hp) (x0p : Int32) (x1p : Int32) : jd_M l s0 G yX13_isRest cX13_isRest 4 (some .boolean) 1 je_i [.int x0p, .int x1p] σ (m_X13_isRest x0p x1p σ) := by
  refine jd_enter hF (by decide) (fun G => [some (.int x0p), some (.int x1p), none, none]) rfl (by simp [lv_args, jd_al, jd_v_cat, jd_cti, jd_ctl]) (by simp [lg_sl, jd_v_cat, jd_cti, jd_ctl]) (fun X hD hX => ?_)
  have hX : jd_C X RX13 "isRest" cX13_isRest 4 (some .boolean) := hX
  unfold m_X13_isRest
  refine jr_ild1 (pc := 0) hX dX13_isRest_0 ?_
  refine jr_iconst (pc := 1) hX 1 rfl dX13_isRest_1 ?_
  refine jr_join (pc := 2) 10 (fun (t1 : Int32) => [some (.int x0p), some (.int x1p), none, none]) (fun (t1 : Int32) => [.int t1]) (fun t1 σ1 => ?_) (fun K1 jj1 => ?_)
  · refine jr_ist2 (pc := 10) hX (jn_i _) dX13_isRest_10 ?_
    refine jr_ild1 (pc := 11) hX dX13_isRest_11 ?_
    refine jr_iconst (pc := 12) hX 2 rfl dX13_isRest_12 ?_
    refine jr_irem (pc := 13) hX dX13_isRest_13 (by decide) ?_
    refine jr_iconst (pc := 14) hX 1 rfl dX13_isRest_14 ?_
    refine jr_join (pc := 15) 23 (fun (t2 : Int32) => [some (.int x0p), none, some (.int t1), none]) (fun (t2 : Int32) => [.int t2]) (fun t2 σ2 => ?_) (fun K2 jj2 => ?_)
    · refine jr_ist3 (pc := 23) hX (jn_i _) dX13_isRest_23 ?_
      refine jr_ild0 (pc := 24) hX dX13_isRest_24 ?_
      refine jr_ild2 (pc := 25) hX dX13_isRest_25 ?_
      refine jr_join (pc := 26) 34 (fun (t3 : Int32) => [some (.int x0p), none, some (.int t1), some (.int t2)]) (fun (t3 : Int32) => [.int t3, .int x0p]) (fun t3 σ3 => ?_) (fun K3 jj3 => ?_)
      · refine jr_ild3 (pc := 34) hX dX13_isRest_34 ?_
        refine jr_cS3i (pc := 35) hX lX13_395 (c_X13_gets hX.F σ3 _ _ _) (jd_dd hD rfl) (Nat.le_of_ble_eq_true rfl) dX13_isRest_35 (fun r4 σ4 p4 => ?_)
        refine jr_ild0 (pc := 38) hX dX13_isRest_38 ?_
        refine jr_ild2 (pc := 39) hX dX13_isRest_39 ?_
        refine jr_ild3 (pc := 40) hX dX13_isRest_40 ?_
        refine jr_cS3i (pc := 41) hX lX13_395 (c_X13_gets hX.F σ4 _ _ _) (jd_dd hD rfl) (Nat.le_of_ble_eq_true rfl) dX13_isRest_41 (fun r5 σ5 p5 => ?_)
        refine jr_icgt (pc := 44) hX 74 dX13_isRest_44 (by decide) ?_ ?_
        · refine jr_iconst (pc := 74) hX 0 rfl dX13_isRest_74 ?_
          exact jr_zret (pc := 75) hX dX13_isRest_75 (Or.inl rfl) rfl
        · refine jr_ild0 (pc := 47) hX dX13_isRest_47 ?_
          refine jr_ild3 (pc := 48) hX dX13_isRest_48 ?_
          refine jr_join (pc := 49) 57 (fun (t6 : Int32) => [some (.int x0p), none, some (.int t1), some (.int t2)]) (fun (t6 : Int32) => [.int t6, .int x0p]) (fun t6 σ6 => ?_) (fun K6 jj6 => ?_)
          · refine jr_ild2 (pc := 57) hX dX13_isRest_57 ?_
            refine jr_cS3i (pc := 58) hX lX13_395 (c_X13_gets hX.F σ6 _ _ _) (jd_dd hD rfl) (Nat.le_of_ble_eq_true rfl) dX13_isRest_58 (fun r7 σ7 p7 => ?_)
            refine jr_ild0 (pc := 61) hX dX13_isRest_61 ?_
            refine jr_ild3 (pc := 62) hX dX13_isRest_62 ?_
            refine jr_ild2 (pc := 63) hX dX13_isRest_63 ?_
            refine jr_cS3i (pc := 64) hX lX13_395 (c_X13_gets hX.F σ7 _ _ _) (jd_dd hD rfl) (Nat.le_of_ble_eq_true rfl) dX13_isRest_64 (fun r8 σ8 p8 => ?_)
            refine jr_icgt (pc := 67) hX 74 dX13_isRest_67 (by decide) ?_ ?_
            · refine jr_iconst (pc := 74) hX 0 rfl dX13_isRest_74 ?_
              exact jr_zret (pc := 75) hX dX13_isRest_75 (Or.inl rfl) rfl
            · refine jr_iconst (pc := 70) hX 1 rfl dX13_isRest_70 ?_
              refine jr_goto (pc := 71) hX 75 dX13_isRest_71 (by decide) ?_
              exact jr_zret (pc := 75) hX dX13_isRest_75 (Or.inr rfl) rfl
          · refine jr_ifne (pc := 49) hX 56 dX13_isRest_49 (by decide) ?_ ?_
            · refine jr_iconst (pc := 56) hX 0 rfl dX13_isRest_56 ?_
              exact jj6 0 _
            · refine jr_iconst (pc := 52) hX 1 rfl dX13_isRest_52 ?_
              refine jr_goto (pc := 53) hX 57 dX13_isRest_53 (by decide) ?_
              exact jj6 1 _
      · refine jr_ifne (pc := 26) hX 33 dX13_isRest_26 (by decide) ?_ ?_
        · refine jr_iconst (pc := 33) hX 0 rfl dX13_isRest_33 ?_
          exact jj3 0 _
        · refine jr_iconst (pc := 29) hX 1 rfl dX13_isRest_29 ?_
          refine jr_goto (pc := 30) hX 34 dX13_isRest_30 (by decide) ?_
          exact jj3 1 _
    · refine jr_icne (pc := 15) hX 22 dX13_isRest_15 (by decide) ?_ ?_
      · refine jr_iconst (pc := 22) hX 0 rfl dX13_isRest_22 ?_
        refine jr_wk [true, false, true, true] ?_
        exact jj2 0 _
      · refine jr_iconst (pc := 18) hX 1 rfl dX13_isRest_18 ?_
        refine jr_goto (pc := 19) hX 23 dX13_isRest_19 (by decide) ?_
        refine jr_wk [true, false, true, true] ?_
        exact jj2 1 _
  · refine jr_icle (pc := 2) hX 9 dX13_isRest_2 (by decide) ?_ ?_
    · refine jr_iconst (pc := 9) hX 0 rfl dX13_isRest_9 ?_
      exact jj1 0 _
    · refine jr_iconst (pc := 5) hX 1 rfl dX13_isRest_5 ?_
      refine jr_goto (pc := 6) hX 10 dX13_isRest_6 (by decide) ?_
      exact jj1 1 _
def m_X13_rests (t : Nat) (x0p : Int32) (σ : jd_Hp) : Option (Int32 × jd_Hp) :=
jd_li (jd_pi σ t 0 0) fun τ1 =>
jd_b (m_X13_refusesFear t x0p τ1) fun r2 σ2 =>
jd_if (r2 ≤ 0) (
jd_b (jd_lp (S := Int32 × Int32) (T := Int32) (fun s3 σ3 =>
jd_if (4 ≤ s3.2) (
some ((Sum.inr s3.1), σ3)) (
jd_b (m_X13_isRest x0p s3.2 σ3) fun r5 σ5 =>
jd_if (r5 = 0) (
jd_li (s3.1 + 0) fun x6 =>
some (Sum.inl (x6, (s3.2 + 1)), σ5)) (
jd_li (s3.1 + 1) fun x7 =>
some (Sum.inl (x7, (s3.2 + 1)), σ5)))) jd_fu (0, 0) σ2) fun t4 σ4 =>
jd_o σ4 (13, 29) (some t) fun a8 =>
jd_b (m_X13_good a8 t4 σ4) fun r9 σ9 =>
some (r9, σ9)) (
jd_b (m_X13_refused t r2 σ2) fun r10 σ10 =>
some (r10, σ10))
set_option maxHeartbeats 4000000 in
set_option maxRecDepth 20000 in
theorem c_X13_rests {l : Launch} {s0 : State} {G : jd_G} (hF : jd_F s0 G) (σ : jd_Hp) (t : Nat) (ht : σ.1[t]? = some (13, 29)) (x0p : Int32) : jd_M l s0 G yX13_rests cX13_rests 5 (some .int) 2 je_i [jd_v G (some t), .int x0p] σ (m_X13_rests t x0p σ) := by
  refine jd_enter hF (by decide) (fun G => [some (jd_v G (some t)), some (.int x0p), none, none, none]) rfl (by simp [lv_args, jd_al, jd_v_cat, jd_cti, jd_ctl]) (by simp [lg_sl, jd_v_cat, jd_cti, jd_ctl]) (fun X hD hX => ?_)
  have hX : jd_C X RX13 "rests" cX13_rests 5 (some .int) := hX
  unfold m_X13_rests
  refine jr_ald0 (pc := 0) hX dX13_rests_0 ?_
  refine jr_iconst (pc := 1) hX 0 rfl dX13_rests_1 ?_
  refine jr_puti (pc := 2) hX fX13_48 rfl dX13_rests_2 ht ?_
  refine jr_li ?_
  refine jr_ald0 (pc := 5) hX dX13_rests_5 ?_
  refine jr_ild1 (pc := 6) hX dX13_rests_6 ?_
  refine jr_cV1i (pc := 7) hX lX13_389 (c_X13_refusesFear hX.F (jd_pi σ t 0 0) t ht _) (jd_dd hD rfl) (Nat.le_of_ble_eq_true rfl) dX13_rests_7 ht (fun r2 σ2 p2 => ?_)
  refine jr_ist2 (pc := 10) hX (jn_i _) dX13_rests_10 ?_
  refine jr_ild2 (pc := 11) hX dX13_rests_11 ?_
  refine jr_ifle (pc := 12) hX 21 dX13_rests_12 (by decide) ?_ ?_
  · refine jr_iconst (pc := 21) hX 0 rfl dX13_rests_21 ?_
    refine jr_ist3 (pc := 22) hX (jn_i _) dX13_rests_22 ?_
    refine jr_iconst (pc := 23) hX 0 rfl dX13_rests_23 ?_
    refine jr_ist4 (pc := 24) hX (jn_i _) dX13_rests_24 ?_
    refine jr_wk [true, true, false, true, true] ?_
    refine jr_loop (pc := 26) (fun (s3 : Int32 × Int32) => [some (jd_v (jd_gG X) (some t)), some (.int x0p), none, some (.int s3.1), some (.int s3.2)]) (fun (t4 : Int32) => [some (jd_v (jd_gG X) (some t)), none, none, some (.int t4), none]) 55 (0, 0) (fun t4 σ4 => ?_) (fun K3 bk3 ex3 s3 σ3 => ?_)
    · refine jr_ald0 (pc := 55) hX dX13_rests_55 ?_
      refine jr_ild3 (pc := 56) hX dX13_rests_56 ?_
      refine jr_ck1 (fun a8 e8 h8 => ?_)
      refine jr_cV1i (pc := 57) hX lX13_58 (c_X13_good hX.F σ4 a8 h8 _) (jd_dd hD rfl) (Nat.le_of_ble_eq_true rfl) dX13_rests_57 h8 (fun r9 σ9 p9 => ?_)
      exact jr_iret (pc := 60) hX dX13_rests_60 rfl
    · refine jr_ild4 (pc := 26) hX dX13_rests_26 ?_
      refine jr_iconst (pc := 28) hX 4 rfl dX13_rests_28 ?_
      refine jr_icge (pc := 29) hX 55 dX13_rests_29 (by decide) ?_ ?_
      · refine jr_wk [true, false, true, true, false] ?_
        exact ex3 s3.1 _
      · refine jr_ild3 (pc := 32) hX dX13_rests_32 ?_
        refine jr_ild1 (pc := 33) hX dX13_rests_33 ?_
        refine jr_ild4 (pc := 34) hX dX13_rests_34 ?_
        refine jr_cS2i (pc := 36) hX lX13_399 (c_X13_isRest hX.F σ3 _ _) (jd_dd hD rfl) (Nat.le_of_ble_eq_true rfl) dX13_rests_36 (fun r5 σ5 p5 => ?_)
        refine jr_ifeq (pc := 39) hX 46 dX13_rests_39 (by decide) ?_ ?_
        · refine jr_iconst (pc := 46) hX 0 rfl dX13_rests_46 ?_
          refine jr_iadd (pc := 47) hX dX13_rests_47 ?_
          refine jr_ist3 (pc := 48) hX jn_n dX13_rests_48 ?_
          refine jr_li ?_
          refine jr_inc4 (pc := 49) hX 1 rfl (jn_i _) dX13_rests_49 ?_
          refine jr_goto (pc := 52) hX 26 dX13_rests_52 (by decide) ?_
          exact bk3 ((s3.1 + 0), (s3.2 + 1)) _
        · refine jr_iconst (pc := 42) hX 1 rfl dX13_rests_42 ?_
          refine jr_goto (pc := 43) hX 47 dX13_rests_43 (by decide) ?_
          refine jr_iadd (pc := 47) hX dX13_rests_47 ?_
          refine jr_ist3 (pc := 48) hX jn_n dX13_rests_48 ?_
          refine jr_li ?_
          refine jr_inc4 (pc := 49) hX 1 rfl (jn_i _) dX13_rests_49 ?_
          refine jr_goto (pc := 52) hX 26 dX13_rests_52 (by decide) ?_
          exact bk3 ((s3.1 + 1), (s3.2 + 1)) _
  · refine jr_ald0 (pc := 15) hX dX13_rests_15 ?_
    refine jr_ild2 (pc := 16) hX dX13_rests_16 ?_
    refine jr_cV1i (pc := 17) hX lX13_54 (c_X13_refused hX.F σ2 t (p2.at ht :) _) (jd_dd hD rfl) (Nat.le_of_ble_eq_true rfl) dX13_rests_17 (p2.at ht :) (fun r10 σ10 p10 => ?_)
    exact jr_iret (pc := 20) hX dX13_rests_20 rfl
def m_X13_rest (t : Nat) (x0p : Int32) (σ : jd_Hp) : Option (Int32 × jd_Hp) :=
jd_li (jd_pi σ t 0 0) fun τ1 =>
jd_b (m_X13_refusesFear t x0p τ1) fun r2 σ2 =>
jd_if (r2 ≤ 0) (
jd_b (jd_lp (S := Int32) (T := (Unit) ⊕ Int32) (fun s3 σ3 =>
jd_if (4 ≤ s3) (
some ((Sum.inr (Sum.inl ())), σ3)) (
jd_b (m_X13_isRest x0p s3 σ3) fun r5 σ5 =>
jd_if (r5 = 0) (
some (Sum.inl (s3 + 1), σ5)) (
jd_o σ5 (13, 29) (some t) fun a6 =>
jd_b (m_X13_good a6 ((10 * (s3 / 2)) + (s3 - s3 / 2 * 2)) σ5) fun r7 σ7 =>
some (Sum.inr (Sum.inr r7), σ7)))) jd_fu 0 σ2) (jd_q (fun t4 σ4 =>
jd_o σ4 (13, 29) (some t) fun a8 =>
jd_b (m_X13_good a8 (-2) σ4) fun r9 σ9 =>
some (r9, σ9)) (fun v3 σ4 => some (v3, σ4)))) (
jd_b (m_X13_refused t r2 σ2) fun r10 σ10 =>
some (r10, σ10))
set_option maxHeartbeats 4000000 in
set_option maxRecDepth 20000 in
theorem c_X13_rest {l : Launch} {s0 : State} {G : jd_G} (hF : jd_F s0 G) (σ : jd_Hp) (t : Nat) (ht : σ.1[t]? = some (13, 29)) (x0p : Int32) : jd_M l s0 G yX13_rest cX13_rest 4 (some .int) 2 je_i [jd_v G (some t), .int x0p] σ (m_X13_rest t x0p σ) := by
  refine jd_enter hF (by decide) (fun G => [some (jd_v G (some t)), some (.int x0p), none, none]) rfl (by simp [lv_args, jd_al, jd_v_cat, jd_cti, jd_ctl]) (by simp [lg_sl, jd_v_cat, jd_cti, jd_ctl]) (fun X hD hX => ?_)
  have hX : jd_C X RX13 "rest" cX13_rest 4 (some .int) := hX
  unfold m_X13_rest
  refine jr_ald0 (pc := 0) hX dX13_rest_0 ?_
  refine jr_iconst (pc := 1) hX 0 rfl dX13_rest_1 ?_
  refine jr_puti (pc := 2) hX fX13_48 rfl dX13_rest_2 ht ?_
  refine jr_li ?_
  refine jr_ald0 (pc := 5) hX dX13_rest_5 ?_
  refine jr_ild1 (pc := 6) hX dX13_rest_6 ?_
  refine jr_cV1i (pc := 7) hX lX13_389 (c_X13_refusesFear hX.F (jd_pi σ t 0 0) t ht _) (jd_dd hD rfl) (Nat.le_of_ble_eq_true rfl) dX13_rest_7 ht (fun r2 σ2 p2 => ?_)
  refine jr_ist2 (pc := 10) hX (jn_i _) dX13_rest_10 ?_
  refine jr_ild2 (pc := 11) hX dX13_rest_11 ?_
  refine jr_ifle (pc := 12) hX 21 dX13_rest_12 (by decide) ?_ ?_
  · refine jr_iconst (pc := 21) hX 0 rfl dX13_rest_21 ?_
    refine jr_ist3 (pc := 22) hX (jn_i _) dX13_rest_22 ?_
    refine jr_wk [true, true, false, true] ?_
    refine jr_loopR (pc := 23) (fun (s3 : Int32) => [some (jd_v (jd_gG X) (some t)), some (.int x0p), none, some (.int s3)]) (fun (t4 : Unit) => [some (jd_v (jd_gG X) (some t)), none, none, none]) 57 0 (fun t4 σ4 => ?_) (fun K3 bk3 ex3 wr3 s3 σ3 => ?_)
    · refine jr_ald0 (pc := 57) hX dX13_rest_57 ?_
      refine jr_bipush (pc := 58) hX (-2) rfl dX13_rest_58 ?_
      refine jr_ck1 (fun a8 e8 h8 => ?_)
      refine jr_cV1i (pc := 60) hX lX13_58 (c_X13_good hX.F σ4 a8 h8 _) (jd_dd hD rfl) (Nat.le_of_ble_eq_true rfl) dX13_rest_60 h8 (fun r9 σ9 p9 => ?_)
      exact jr_iret (pc := 63) hX dX13_rest_63 rfl
    · refine jr_ild3 (pc := 23) hX dX13_rest_23 ?_
      refine jr_iconst (pc := 24) hX 4 rfl dX13_rest_24 ?_
      refine jr_icge (pc := 25) hX 57 dX13_rest_25 (by decide) ?_ ?_
      · refine jr_wk [true, false, true, false] ?_
        exact ex3 () _
      · refine jr_ild1 (pc := 28) hX dX13_rest_28 ?_
        refine jr_ild3 (pc := 29) hX dX13_rest_29 ?_
        refine jr_cS2i (pc := 30) hX lX13_399 (c_X13_isRest hX.F σ3 _ _) (jd_dd hD rfl) (Nat.le_of_ble_eq_true rfl) dX13_rest_30 (fun r5 σ5 p5 => ?_)
        refine jr_ifeq (pc := 33) hX 51 dX13_rest_33 (by decide) ?_ ?_
        · refine jr_inc3 (pc := 51) hX 1 rfl jn_n dX13_rest_51 ?_
          refine jr_goto (pc := 54) hX 23 dX13_rest_54 (by decide) ?_
          exact bk3 (s3 + 1) _
        · refine jr_ald0 (pc := 36) hX dX13_rest_36 ?_
          refine jr_bipush (pc := 37) hX 10 rfl dX13_rest_37 ?_
          refine jr_ild3 (pc := 39) hX dX13_rest_39 ?_
          refine jr_iconst (pc := 40) hX 2 rfl dX13_rest_40 ?_
          refine jr_idiv (pc := 41) hX dX13_rest_41 (by decide) ?_
          refine jr_imul (pc := 42) hX dX13_rest_42 ?_
          refine jr_ild3 (pc := 43) hX dX13_rest_43 ?_
          refine jr_iconst (pc := 44) hX 2 rfl dX13_rest_44 ?_
          refine jr_irem (pc := 45) hX dX13_rest_45 (by decide) ?_
          refine jr_iadd (pc := 46) hX dX13_rest_46 ?_
          refine jr_ck1 (fun a6 e6 h6 => ?_)
          refine jr_cV1i (pc := 47) hX lX13_58 (c_X13_good hX.F σ5 a6 h6 _) (jd_dd hD rfl) (Nat.le_of_ble_eq_true rfl) dX13_rest_47 h6 (fun r7 σ7 p7 => ?_)
          exact jr_iret (pc := 50) hX dX13_rest_50 ((wr3 _ _).trans rfl)
  · refine jr_ald0 (pc := 15) hX dX13_rest_15 ?_
    refine jr_ild2 (pc := 16) hX dX13_rest_16 ?_
    refine jr_cV1i (pc := 17) hX lX13_54 (c_X13_refused hX.F σ2 t (p2.at ht :) _) (jd_dd hD rfl) (Nat.le_of_ble_eq_true rfl) dX13_rest_17 (p2.at ht :) (fun r10 σ10 p10 => ?_)
    exact jr_iret (pc := 20) hX dX13_rest_20 rfl
def m_X13_wholeOf (t : Nat) (x0p : Int32) (σ : jd_Hp) : Option (Int64 × jd_Hp) :=
jd_b (m_X13_bits x0p σ) fun r1 σ1 =>
jd_b (jd_lp (S := Int64 × Int32) (T := Int64) (fun s2 σ2 =>
jd_if (s2.2 ≤ 0) (
some ((Sum.inr s2.1), σ2)) (
jd_li (s2.1 * 100) fun x4 =>
some (Sum.inl (x4, (s2.2 + (-1))), σ2))) jd_fu (1, r1) σ1) fun t3 σ3 =>
some (t3, σ3)
set_option maxHeartbeats 4000000 in
set_option maxRecDepth 20000 in
theorem c_X13_wholeOf {l : Launch} {s0 : State} {G : jd_G} (hF : jd_F s0 G) (σ : jd_Hp) (t : Nat) (ht : σ.1[t]? = some (13, 29)) (x0p : Int32) : jd_M l s0 G yX13_wholeOf cX13_wholeOf 5 (some .long) 1 je_l [jd_v G (some t), .int x0p] σ (m_X13_wholeOf t x0p σ) := by
  refine jd_enter hF (by decide) (fun G => [some (jd_v G (some t)), some (.int x0p), none, none, none]) rfl (by simp [lv_args, jd_al, jd_v_cat, jd_cti, jd_ctl]) (by simp [lg_sl, jd_v_cat, jd_cti, jd_ctl]) (fun X hD hX => ?_)
  have hX : jd_C X RX13 "wholeOf" cX13_wholeOf 5 (some .long) := hX
  unfold m_X13_wholeOf
  refine jr_lconst (pc := 0) hX 1 rfl dX13_wholeOf_0 ?_
  refine jr_lst2 (pc := 1) hX (jn_i _) dX13_wholeOf_1 ?_
  refine jr_ild1 (pc := 2) hX dX13_wholeOf_2 ?_
  refine jr_cS1i (pc := 3) hX lX13_303 (c_X13_bits hX.F σ _) (jd_dd hD rfl) (Nat.le_of_ble_eq_true rfl) dX13_wholeOf_3 (fun r1 σ1 p1 => ?_)
  refine jr_ist4 (pc := 6) hX jn_n dX13_wholeOf_6 ?_
  refine jr_wk [false, false, true, true, true] ?_
  refine jr_loop (pc := 8) (fun (s2 : Int64 × Int32) => [none, none, some (.long s2.1), none, some (.int s2.2)]) (fun (t3 : Int64) => [none, none, some (.long t3), none, none]) 25 (1, r1) (fun t3 σ3 => ?_) (fun K2 bk2 ex2 s2 σ2 => ?_)
  · refine jr_lld2 (pc := 25) hX dX13_wholeOf_25 ?_
    exact jr_lret (pc := 26) hX dX13_wholeOf_26 rfl
  · refine jr_ild4 (pc := 8) hX dX13_wholeOf_8 ?_
    refine jr_ifle (pc := 10) hX 25 dX13_wholeOf_10 (by decide) ?_ ?_
    · refine jr_wk [true, true, true, true, false] ?_
      exact ex2 s2.1 _
    · refine jr_lld2 (pc := 13) hX dX13_wholeOf_13 ?_
      refine jr_ldc2 (pc := 14) hX kX13_402 dX13_wholeOf_14 ?_
      refine jr_lmul (pc := 17) hX dX13_wholeOf_17 ?_
      refine jr_lst2 (pc := 18) hX jn_n dX13_wholeOf_18 ?_
      refine jr_li ?_
      refine jr_inc4 (pc := 19) hX (-1) rfl jn_n dX13_wholeOf_19 ?_
      refine jr_goto (pc := 22) hX 8 dX13_wholeOf_22 (by decide) ?_
      exact bk2 ((s2.1 * 100), (s2.2 + (-1))) _
def m_X13_partOf (t : Nat) (x0p : Int32) (x1p : Int32) (σ : jd_Hp) : Option (Int64 × jd_Hp) :=
jd_b (jd_lp (S := Int64 × Int32) (T := Int64) (fun s1 σ1 =>
jd_o σ1 (13, 29) (some t) fun a3 =>
jd_o σ1 (12, 20) (σ1.2.2.2 a3 3) fun a4 =>
jd_if ((σ1.2.1 a4 3) ≤ s1.2) (
some ((Sum.inr s1.1), σ1)) (
jd_b (m_X13_bit x1p s1.2 σ1) fun r5 σ5 =>
jd_if (r5 = 0) (
some (Sum.inl (s1.1, (s1.2 + 1)), σ5)) (
jd_b (m_X13_bit x0p s1.2 σ5) fun r6 σ6 =>
jd_if (r6 = 0) (
jd_o σ6 (12, 20) (σ6.2.2.2 a3 3) fun a7 =>
jd_ia σ6 20 (σ6.2.2.2 a7 12) s1.2 fun a8 j8 =>
jd_li (s1.1 * (100 - (σ6.2.1 a8 j8)).toInt64) fun x9 =>
some (Sum.inl (x9, (s1.2 + 1)), σ6)) (
jd_o σ6 (12, 20) (σ6.2.2.2 a3 3) fun a10 =>
jd_ia σ6 20 (σ6.2.2.2 a10 12) s1.2 fun a11 j11 =>
jd_li (s1.1 * (σ6.2.1 a11 j11).toInt64) fun x12 =>
some (Sum.inl (x12, (s1.2 + 1)), σ6))))) jd_fu (1, 0) σ) fun t2 σ2 =>
some (t2, σ2)
set_option maxHeartbeats 4000000 in
set_option maxRecDepth 20000 in
theorem c_X13_partOf {l : Launch} {s0 : State} {G : jd_G} (hF : jd_F s0 G) (σ : jd_Hp) (t : Nat) (ht : σ.1[t]? = some (13, 29)) (x0p : Int32) (x1p : Int32) : jd_M l s0 G yX13_partOf cX13_partOf 6 (some .long) 1 je_l [jd_v G (some t), .int x0p, .int x1p] σ (m_X13_partOf t x0p x1p σ) := by
  refine jd_enter hF (by decide) (fun G => [some (jd_v G (some t)), some (.int x0p), some (.int x1p), none, none, none]) rfl (by simp [lv_args, jd_al, jd_v_cat, jd_cti, jd_ctl]) (by simp [lg_sl, jd_v_cat, jd_cti, jd_ctl]) (fun X hD hX => ?_)
  have hX : jd_C X RX13 "partOf" cX13_partOf 6 (some .long) := hX
  unfold m_X13_partOf
  refine jr_lconst (pc := 0) hX 1 rfl dX13_partOf_0 ?_
  refine jr_lst3 (pc := 1) hX (jn_i _) dX13_partOf_1 ?_
  refine jr_iconst (pc := 2) hX 0 rfl dX13_partOf_2 ?_
  refine jr_ist5 (pc := 3) hX jn_n dX13_partOf_3 ?_
  refine jr_loop (pc := 5) (fun (s1 : Int64 × Int32) => [some (jd_v (jd_gG X) (some t)), some (.int x0p), some (.int x1p), some (.long s1.1), none, some (.int s1.2)]) (fun (t2 : Int64) => [none, none, none, some (.long t2), none, none]) 72 (1, 0) (fun t2 σ2 => ?_) (fun K1 bk1 ex1 s1 σ1 => ?_)
  · refine jr_lld3 (pc := 72) hX dX13_partOf_72 ?_
    exact jr_lret (pc := 73) hX dX13_partOf_73 rfl
  · refine jr_ild5 (pc := 5) hX dX13_partOf_5 ?_
    refine jr_ald0 (pc := 7) hX dX13_partOf_7 ?_
    refine jr_ck0 (fun a3 e3 h3 => ?_)
    refine jr_getr (pc := 8) hX fX13_289 rfl dX13_partOf_8 h3 ?_
    refine jr_ck0 (fun a4 e4 h4 => ?_)
    refine jr_getiN (pc := 11) hX fX13_185 rfl dX13_partOf_11 h4 ?_
    refine jr_icge (pc := 14) hX 72 dX13_partOf_14 (by decide) ?_ ?_
    · refine jr_wk [false, false, false, true, true, false] ?_
      exact ex1 s1.1 _
    · refine jr_ild2 (pc := 17) hX dX13_partOf_17 ?_
      refine jr_ild5 (pc := 18) hX dX13_partOf_18 ?_
      refine jr_cS2i (pc := 20) hX lX13_267 (c_X13_bit hX.F σ1 _ _) (jd_dd hD rfl) (Nat.le_of_ble_eq_true rfl) dX13_partOf_20 (fun r5 σ5 p5 => ?_)
      refine jr_ifeq (pc := 23) hX 66 dX13_partOf_23 (by decide) ?_ ?_
      · refine jr_inc5 (pc := 66) hX 1 rfl jn_n dX13_partOf_66 ?_
        refine jr_goto (pc := 69) hX 5 dX13_partOf_69 (by decide) ?_
        exact bk1 (s1.1, (s1.2 + 1)) _
      · refine jr_lld3 (pc := 26) hX dX13_partOf_26 ?_
        refine jr_ild1 (pc := 27) hX dX13_partOf_27 ?_
        refine jr_ild5 (pc := 28) hX dX13_partOf_28 ?_
        refine jr_cS2i (pc := 30) hX lX13_267 (c_X13_bit hX.F σ5 _ _) (jd_dd hD rfl) (Nat.le_of_ble_eq_true rfl) dX13_partOf_30 (fun r6 σ6 p6 => ?_)
        refine jr_ifeq (pc := 33) hX 50 dX13_partOf_33 (by decide) ?_ ?_
        · refine jr_bipush (pc := 50) hX 100 rfl dX13_partOf_50 ?_
          refine jr_ald0 (pc := 52) hX dX13_partOf_52 ?_
          refine jr_ek0 e3 ?_
          refine jr_getr (pc := 53) hX fX13_289 rfl dX13_partOf_53 (p6.at (p5.at h3 :) :) ?_
          refine jr_ck0 (fun a7 e7 h7 => ?_)
          refine jr_getrN (pc := 56) hX fX13_251 rfl dX13_partOf_56 h7 ?_
          refine jr_ild5 (pc := 59) hX dX13_partOf_59 ?_
          refine jr_iaC (pc := 61) hX dX13_partOf_61 (fun a8 n8 e8 h8 => ?_)
          refine jr_isub (pc := 62) hX dX13_partOf_62 ?_
          refine jr_i2l (pc := 63) hX dX13_partOf_63 ?_
          refine jr_lmul (pc := 64) hX dX13_partOf_64 ?_
          refine jr_lst3 (pc := 65) hX (jn_i _) dX13_partOf_65 ?_
          refine jr_li ?_
          refine jr_inc5 (pc := 66) hX 1 rfl jn_n dX13_partOf_66 ?_
          refine jr_goto (pc := 69) hX 5 dX13_partOf_69 (by decide) ?_
          exact bk1 ((s1.1 * (100 - (σ6.2.1 a8 s1.2.toNatClampNeg)).toInt64), (s1.2 + 1)) _
        · refine jr_ald0 (pc := 36) hX dX13_partOf_36 ?_
          refine jr_ek0 e3 ?_
          refine jr_getr (pc := 37) hX fX13_289 rfl dX13_partOf_37 (p6.at (p5.at h3 :) :) ?_
          refine jr_ck0 (fun a10 e10 h10 => ?_)
          refine jr_getrN (pc := 40) hX fX13_251 rfl dX13_partOf_40 h10 ?_
          refine jr_ild5 (pc := 43) hX dX13_partOf_43 ?_
          refine jr_iaC (pc := 45) hX dX13_partOf_45 (fun a11 n11 e11 h11 => ?_)
          refine jr_i2l (pc := 46) hX dX13_partOf_46 ?_
          refine jr_goto (pc := 47) hX 64 dX13_partOf_47 (by decide) ?_
          refine jr_lmul (pc := 64) hX dX13_partOf_64 ?_
          refine jr_lst3 (pc := 65) hX (jn_i _) dX13_partOf_65 ?_
          refine jr_li ?_
          refine jr_inc5 (pc := 66) hX 1 rfl jn_n dX13_partOf_66 ?_
          refine jr_goto (pc := 69) hX 5 dX13_partOf_69 (by decide) ?_
          exact bk1 ((s1.1 * (σ6.2.1 a11 s1.2.toNatClampNeg).toInt64), (s1.2 + 1)) _
def m_X13_safe (t : Nat) (x0p : Int32) (σ : jd_Hp) : Option (Int64 × jd_Hp) :=
jd_li (jd_pi σ t 0 0) fun τ1 =>
jd_if (¬ (τ1.2.2.2 t 3) = none) (
jd_b (m_X13_works t τ1) fun r2 σ2 =>
jd_b (m_X13_unreached t σ2) fun r3 σ3 =>
jd_b (m_X13_partOf t 0 r3 σ3) fun r4 σ4 =>
jd_b (m_X13_unreached t σ4) fun r5 σ5 =>
jd_b (m_X13_wholeOf t r5 σ5) fun r6 σ6 =>
jd_b (m_X13_fraction t r4 r6 x0p σ6) fun r7 σ7 =>
some (r7, σ7)) (
jd_b (m_X13_refused t 1 τ1) fun r8 σ8 =>
some (r8.toInt64, σ8))
set_option maxHeartbeats 4000000 in
set_option maxRecDepth 20000 in
theorem c_X13_safe {l : Launch} {s0 : State} {G : jd_G} (hF : jd_F s0 G) (σ : jd_Hp) (t : Nat) (ht : σ.1[t]? = some (13, 29)) (x0p : Int32) : jd_M l s0 G yX13_safe cX13_safe 2 (some .long) 5 je_l [jd_v G (some t), .int x0p] σ (m_X13_safe t x0p σ) := by
  refine jd_enter hF (by decide) (fun G => [some (jd_v G (some t)), some (.int x0p)]) rfl (by simp [lv_args, jd_al, jd_v_cat, jd_cti, jd_ctl]) (by simp [lg_sl, jd_v_cat, jd_cti, jd_ctl]) (fun X hD hX => ?_)
  have hX : jd_C X RX13 "safe" cX13_safe 2 (some .long) := hX
  unfold m_X13_safe
  refine jr_ald0 (pc := 0) hX dX13_safe_0 ?_
  refine jr_iconst (pc := 1) hX 0 rfl dX13_safe_1 ?_
  refine jr_puti (pc := 2) hX fX13_48 rfl dX13_safe_2 ht ?_
  refine jr_li ?_
  refine jr_ald0 (pc := 5) hX dX13_safe_5 ?_
  refine jr_getr (pc := 6) hX fX13_289 rfl dX13_safe_6 ht ?_
  refine jr_ifnonnull (pc := 9) hX 19 dX13_safe_9 (by decide) ?_ ?_
  · refine jr_ald0 (pc := 19) hX dX13_safe_19 ?_
    refine jr_cV0v (pc := 20) hX lX13_324 (c_X13_works hX.F (jd_pi σ t 0 0) t ht) (jd_dd hD rfl) (Nat.le_of_ble_eq_true rfl) dX13_safe_20 ht (fun r2 σ2 p2 => ?_)
    refine jr_ald0 (pc := 23) hX dX13_safe_23 ?_
    refine jr_ald0 (pc := 24) hX dX13_safe_24 ?_
    refine jr_iconst (pc := 25) hX 0 rfl dX13_safe_25 ?_
    refine jr_ald0 (pc := 26) hX dX13_safe_26 ?_
    refine jr_cV0i (pc := 27) hX lX13_361 (c_X13_unreached hX.F σ2 t (p2.at ht :)) (jd_dd hD rfl) (by simp [jd_v_cat, jd_cti, jd_ctl]) dX13_safe_27 (p2.at ht :) (fun r3 σ3 p3 => ?_)
    refine jr_cV2l (pc := 30) hX lX13_404 (c_X13_partOf hX.F σ3 t (p3.at (p2.at ht :) :) _ _) (jd_dd hD rfl) (by simp [jd_v_cat, jd_cti, jd_ctl]) dX13_safe_30 (p3.at (p2.at ht :) :) (fun r4 σ4 p4 => ?_)
    refine jr_ald0 (pc := 33) hX dX13_safe_33 ?_
    refine jr_ald0 (pc := 34) hX dX13_safe_34 ?_
    refine jr_cV0i (pc := 35) hX lX13_361 (c_X13_unreached hX.F σ4 t (p4.at (p3.at (p2.at ht :) :) :)) (jd_dd hD rfl) (by simp [jd_v_cat, jd_cti, jd_ctl]) dX13_safe_35 (p4.at (p3.at (p2.at ht :) :) :) (fun r5 σ5 p5 => ?_)
    refine jr_cV1l (pc := 38) hX lX13_408 (c_X13_wholeOf hX.F σ5 t (p5.at (p4.at (p3.at (p2.at ht :) :) :) :) _) (jd_dd hD rfl) (by simp [jd_v_cat, jd_cti, jd_ctl]) dX13_safe_38 (p5.at (p4.at (p3.at (p2.at ht :) :) :) :) (fun r6 σ6 p6 => ?_)
    refine jr_ild1 (pc := 41) hX dX13_safe_41 ?_
    refine jr_cV3l (pc := 42) hX lX13_380 (c_X13_fraction hX.F σ6 t (p6.at (p5.at (p4.at (p3.at (p2.at ht :) :) :) :) :) _ _ _) (jd_dd hD rfl) (Nat.le_of_ble_eq_true rfl) dX13_safe_42 (p6.at (p5.at (p4.at (p3.at (p2.at ht :) :) :) :) :) (fun r7 σ7 p7 => ?_)
    exact jr_lret (pc := 45) hX dX13_safe_45 rfl
  · refine jr_ald0 (pc := 12) hX dX13_safe_12 ?_
    refine jr_iconst (pc := 13) hX 1 rfl dX13_safe_13 ?_
    refine jr_cV1i (pc := 14) hX lX13_54 (c_X13_refused hX.F (jd_pi σ t 0 0) t ht _) (jd_dd hD rfl) (Nat.le_of_ble_eq_true rfl) dX13_safe_14 ht (fun r8 σ8 p8 => ?_)
    refine jr_i2l (pc := 17) hX dX13_safe_17 ?_
    exact jr_lret (pc := 18) hX dX13_safe_18 rfl
