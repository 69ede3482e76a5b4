theorem fX13_291 : jd_fl RX13 291 13 19 29 false := ⟨_, _, rfl, by decide, by decide, rfl, rfl, jd_mem 1307 (by decide +kernel) (by decide +kernel)⟩
theorem qX13_remembers : Cond.instanceMethod yX13_remembers ∈ jd_TB ∧ Cond.selects RX13 yX13_remembers yX13_remembers ∈ jd_TB ∧ Cond.initialized RX13 ∈ jd_TB ∧ Cond.code yX13_remembers cX13_remembers 2 none ∈ jd_TB ∧ jd_ds yX13_remembers 0 := ⟨jd_mem 1913 (by decide +kernel) (by decide +kernel), jd_mem 89 (by decide +kernel) (by decide +kernel), jd_mem 104 (by decide +kernel) (by decide +kernel), jd_mem 1914 (by decide +kernel) (by decide +kernel), ⟨by decide, by decide, by decide +kernel⟩⟩
theorem lX13_431 : jd_mv RX13 431 13 29 yX13_remembers cX13_remembers 2 none 0 := ⟨_, _, rfl, by decide, rfl, Or.inl (jd_mem 1911 (by decide +kernel) (by decide +kernel)), qX13_remembers.1, qX13_remembers.2.1, qX13_remembers.2.2.1, qX13_remembers.2.2.2.1, qX13_remembers.2.2.2.2, by decide⟩
theorem qX13_granted : Cond.instanceMethod yX13_granted ∈ jd_TB ∧ Cond.selects RX13 yX13_granted yX13_granted ∈ jd_TB ∧ Cond.initialized RX13 ∈ jd_TB ∧ Cond.code yX13_granted cX13_granted 1 (some .boolean) ∈ jd_TB ∧ jd_ds yX13_granted 0 := ⟨jd_mem 1917 (by decide +kernel) (by decide +kernel), jd_mem 90 (by decide +kernel) (by decide +kernel), jd_mem 104 (by decide +kernel) (by decide +kernel), jd_mem 1918 (by decide +kernel) (by decide +kernel), ⟨by decide, by decide, by decide +kernel⟩⟩
theorem lX13_434 : jd_mv RX13 434 13 29 yX13_granted cX13_granted 1 (some .boolean) 0 := ⟨_, _, rfl, by decide, rfl, Or.inl (jd_mem 1915 (by decide +kernel) (by decide +kernel)), qX13_granted.1, qX13_granted.2.1, qX13_granted.2.2.1, qX13_granted.2.2.2.1, qX13_granted.2.2.2.2, by decide⟩
theorem qX13_denied : Cond.instanceMethod yX13_denied ∈ jd_TB ∧ Cond.selects RX13 yX13_denied yX13_denied ∈ jd_TB ∧ Cond.initialized RX13 ∈ jd_TB ∧ Cond.code yX13_denied cX13_denied 2 (some .boolean) ∈ jd_TB ∧ jd_ds yX13_denied 1 := ⟨jd_mem 1909 (by decide +kernel) (by decide +kernel), jd_mem 88 (by decide +kernel) (by decide +kernel), jd_mem 104 (by decide +kernel) (by decide +kernel), jd_mem 1910 (by decide +kernel) (by decide +kernel), ⟨by decide, by decide, by decide +kernel⟩⟩
theorem lX13_428 : jd_mv RX13 428 13 29 yX13_denied cX13_denied 2 (some .boolean) 1 := ⟨_, _, rfl, by decide, rfl, Or.inl (jd_mem 1907 (by decide +kernel) (by decide +kernel)), qX13_denied.1, qX13_denied.2.1, qX13_denied.2.2.1, qX13_denied.2.2.2.1, qX13_denied.2.2.2.2, by decide⟩
theorem qX13_changes : Cond.instanceMethod yX13_changes ∈ jd_TB ∧ Cond.selects RX13 yX13_changes yX13_changes ∈ jd_TB ∧ Cond.initialized RX13 ∈ jd_TB ∧ Cond.code yX13_changes cX13_changes 3 (some .boolean) ∈ jd_TB ∧ jd_ds yX13_changes 2 := ⟨jd_mem 1905 (by decide +kernel) (by decide +kernel), jd_mem 87 (by decide +kernel) (by decide +kernel), jd_mem 104 (by decide +kernel) (by decide +kernel), jd_mem 1906 (by decide +kernel) (by decide +kernel), ⟨by decide, by decide, by decide +kernel⟩⟩
theorem lX13_437 : jd_mv RX13 437 13 29 yX13_changes cX13_changes 3 (some .boolean) 2 := ⟨_, _, rfl, by decide, rfl, Or.inl (jd_mem 1903 (by decide +kernel) (by decide +kernel)), qX13_changes.1, qX13_changes.2.1, qX13_changes.2.2.1, qX13_changes.2.2.2.1, qX13_changes.2.2.2.2, by decide⟩
theorem dX13_remembers_0 : decode cX13_remembers 0 = .ok (.aload_n 0, 1) := by decide +kernel
theorem dX13_remembers_1 : decode cX13_remembers 1 = .ok (.getfield 291, 3) := by decide +kernel
theorem dX13_remembers_4 : decode cX13_remembers 4 = .ok (.bipush 16, 2) := by decide +kernel
theorem dX13_remembers_6 : decode cX13_remembers 6 = .ok (.if_icmp .ne 43, 3) := by decide +kernel
theorem dX13_remembers_9 : decode cX13_remembers 9 = .ok (.iconst 0, 1) := by decide +kernel
theorem dX13_remembers_10 : decode cX13_remembers 10 = .ok (.istore_n 1, 1) := by decide +kernel
theorem dX13_remembers_11 : decode cX13_remembers 11 = .ok (.iload_n 1, 1) := by decide +kernel
theorem dX13_remembers_12 : decode cX13_remembers 12 = .ok (.sipush 135, 3) := by decide +kernel
theorem dX13_remembers_15 : decode cX13_remembers 15 = .ok (.if_icmp .ge 24, 3) := by decide +kernel
theorem dX13_remembers_18 : decode cX13_remembers 18 = .ok (.aload_n 0, 1) := by decide +kernel
theorem dX13_remembers_19 : decode cX13_remembers 19 = .ok (.getfield 24, 3) := by decide +kernel
theorem dX13_remembers_22 : decode cX13_remembers 22 = .ok (.iload_n 1, 1) := by decide +kernel
theorem dX13_remembers_23 : decode cX13_remembers 23 = .ok (.aload_n 0, 1) := by decide +kernel
theorem dX13_remembers_24 : decode cX13_remembers 24 = .ok (.getfield 24, 3) := by decide +kernel
theorem dX13_remembers_27 : decode cX13_remembers 27 = .ok (.iload_n 1, 1) := by decide +kernel
theorem dX13_remembers_28 : decode cX13_remembers 28 = .ok (.bipush 9, 2) := by decide +kernel
theorem dX13_remembers_30 : decode cX13_remembers 30 = .ok (.iadd, 1) := by decide +kernel
theorem dX13_remembers_31 : decode cX13_remembers 31 = .ok (.iaload, 1) := by decide +kernel
theorem dX13_remembers_32 : decode cX13_remembers 32 = .ok (.iastore, 1) := by decide +kernel
theorem dX13_remembers_33 : decode cX13_remembers 33 = .ok (.iinc 1 1, 3) := by decide +kernel
theorem dX13_remembers_36 : decode cX13_remembers 36 = .ok (.goto (-25), 3) := by decide +kernel
theorem dX13_remembers_39 : decode cX13_remembers 39 = .ok (.aload_n 0, 1) := by decide +kernel
theorem dX13_remembers_40 : decode cX13_remembers 40 = .ok (.dup, 1) := by decide +kernel
theorem dX13_remembers_41 : decode cX13_remembers 41 = .ok (.getfield 291, 3) := by decide +kernel
theorem dX13_remembers_44 : decode cX13_remembers 44 = .ok (.iconst 1, 1) := by decide +kernel
theorem dX13_remembers_45 : decode cX13_remembers 45 = .ok (.isub, 1) := by decide +kernel
theorem dX13_remembers_46 : decode cX13_remembers 46 = .ok (.putfield 291, 3) := by decide +kernel
theorem dX13_remembers_49 : decode cX13_remembers 49 = .ok (.iconst 0, 1) := by decide +kernel
theorem dX13_remembers_50 : decode cX13_remembers 50 = .ok (.istore_n 1, 1) := by decide +kernel
theorem dX13_remembers_51 : decode cX13_remembers 51 = .ok (.iload_n 1, 1) := by decide +kernel
theorem dX13_remembers_52 : decode cX13_remembers 52 = .ok (.bipush 9, 2) := by decide +kernel
theorem dX13_remembers_54 : decode cX13_remembers 54 = .ok (.if_icmp .ge 29, 3) := by decide +kernel
theorem dX13_remembers_57 : decode cX13_remembers 57 = .ok (.aload_n 0, 1) := by decide +kernel
theorem dX13_remembers_58 : decode cX13_remembers 58 = .ok (.getfield 24, 3) := by decide +kernel
theorem dX13_remembers_61 : decode cX13_remembers 61 = .ok (.bipush 9, 2) := by decide +kernel
theorem dX13_remembers_63 : decode cX13_remembers 63 = .ok (.aload_n 0, 1) := by decide +kernel
theorem dX13_remembers_64 : decode cX13_remembers 64 = .ok (.getfield 291, 3) := by decide +kernel
theorem dX13_remembers_67 : decode cX13_remembers 67 = .ok (.imul, 1) := by decide +kernel
theorem dX13_remembers_68 : decode cX13_remembers 68 = .ok (.iload_n 1, 1) := by decide +kernel
theorem dX13_remembers_69 : decode cX13_remembers 69 = .ok (.iadd, 1) := by decide +kernel
theorem dX13_remembers_70 : decode cX13_remembers 70 = .ok (.aload_n 0, 1) := by decide +kernel
theorem dX13_remembers_71 : decode cX13_remembers 71 = .ok (.getfield 17, 3) := by decide +kernel
theorem dX13_remembers_74 : decode cX13_remembers 74 = .ok (.iload_n 1, 1) := by decide +kernel
theorem dX13_remembers_75 : decode cX13_remembers 75 = .ok (.iaload, 1) := by decide +kernel
theorem dX13_remembers_76 : decode cX13_remembers 76 = .ok (.iastore, 1) := by decide +kernel
theorem dX13_remembers_77 : decode cX13_remembers 77 = .ok (.iinc 1 1, 3) := by decide +kernel
theorem dX13_remembers_80 : decode cX13_remembers 80 = .ok (.goto (-29), 3) := by decide +kernel
theorem dX13_remembers_83 : decode cX13_remembers 83 = .ok (.aload_n 0, 1) := by decide +kernel
theorem dX13_remembers_84 : decode cX13_remembers 84 = .ok (.dup, 1) := by decide +kernel
theorem dX13_remembers_85 : decode cX13_remembers 85 = .ok (.getfield 291, 3) := by decide +kernel
theorem dX13_remembers_88 : decode cX13_remembers 88 = .ok (.iconst 1, 1) := by decide +kernel
theorem dX13_remembers_89 : decode cX13_remembers 89 = .ok (.iadd, 1) := by decide +kernel
theorem dX13_remembers_90 : decode cX13_remembers 90 = .ok (.putfield 291, 3) := by decide +kernel
theorem dX13_remembers_93 : decode cX13_remembers 93 = .ok (.return_, 1) := by decide +kernel
theorem dX13_changes_0 : decode cX13_changes 0 = .ok (.aload_n 0, 1) := by decide +kernel
theorem dX13_changes_1 : decode cX13_changes 1 = .ok (.iload_n 1, 1) := by decide +kernel
theorem dX13_changes_2 : decode cX13_changes 2 = .ok (.invokevirtual 336, 3) := by decide +kernel
theorem dX13_changes_5 : decode cX13_changes 5 = .ok (.ifCond .ne 9, 3) := by decide +kernel
theorem dX13_changes_8 : decode cX13_changes 8 = .ok (.aload_n 0, 1) := by decide +kernel
theorem dX13_changes_9 : decode cX13_changes 9 = .ok (.iconst 1, 1) := by decide +kernel
theorem dX13_changes_10 : decode cX13_changes 10 = .ok (.invokevirtual 428, 3) := by decide +kernel
theorem dX13_changes_13 : decode cX13_changes 13 = .ok (.ireturn, 1) := by decide +kernel
theorem dX13_changes_14 : decode cX13_changes 14 = .ok (.aload_n 0, 1) := by decide +kernel
theorem dX13_changes_15 : decode cX13_changes 15 = .ok (.getfield 17, 3) := by decide +kernel
theorem dX13_changes_18 : decode cX13_changes 18 = .ok (.bipush 6, 2) := by decide +kernel
theorem dX13_changes_20 : decode cX13_changes 20 = .ok (.iaload, 1) := by decide +kernel
theorem dX13_changes_21 : decode cX13_changes 21 = .ok (.iload_n 1, 1) := by decide +kernel
theorem dX13_changes_22 : decode cX13_changes 22 = .ok (.invokestatic 267, 3) := by decide +kernel
theorem dX13_changes_25 : decode cX13_changes 25 = .ok (.iload_n 2, 1) := by decide +kernel
theorem dX13_changes_26 : decode cX13_changes 26 = .ok (.if_icmp .ne 9, 3) := by decide +kernel
theorem dX13_changes_29 : decode cX13_changes 29 = .ok (.aload_n 0, 1) := by decide +kernel
theorem dX13_changes_30 : decode cX13_changes 30 = .ok (.iconst 5, 1) := by decide +kernel
theorem dX13_changes_31 : decode cX13_changes 31 = .ok (.invokevirtual 428, 3) := by decide +kernel
theorem dX13_changes_34 : decode cX13_changes 34 = .ok (.ireturn, 1) := by decide +kernel
theorem dX13_changes_35 : decode cX13_changes 35 = .ok (.aload_n 0, 1) := by decide +kernel
theorem dX13_changes_36 : decode cX13_changes 36 = .ok (.invokevirtual 431, 3) := by decide +kernel
theorem dX13_changes_39 : decode cX13_changes 39 = .ok (.aload_n 0, 1) := by decide +kernel
theorem dX13_changes_40 : decode cX13_changes 40 = .ok (.getfield 17, 3) := by decide +kernel
theorem dX13_changes_43 : decode cX13_changes 43 = .ok (.bipush 6, 2) := by decide +kernel
theorem dX13_changes_45 : decode cX13_changes 45 = .ok (.dup2, 1) := by decide +kernel
theorem dX13_changes_46 : decode cX13_changes 46 = .ok (.iaload, 1) := by decide +kernel
theorem dX13_changes_47 : decode cX13_changes 47 = .ok (.iconst 1, 1) := by decide +kernel
theorem dX13_changes_48 : decode cX13_changes 48 = .ok (.iload_n 1, 1) := by decide +kernel
theorem dX13_changes_49 : decode cX13_changes 49 = .ok (.ishl, 1) := by decide +kernel
theorem dX13_changes_50 : decode cX13_changes 50 = .ok (.ixor, 1) := by decide +kernel
theorem dX13_changes_51 : decode cX13_changes 51 = .ok (.iastore, 1) := by decide +kernel
theorem dX13_changes_52 : decode cX13_changes 52 = .ok (.aload_n 0, 1) := by decide +kernel
theorem dX13_changes_53 : decode cX13_changes 53 = .ok (.invokevirtual 434, 3) := by decide +kernel
theorem dX13_changes_56 : decode cX13_changes 56 = .ok (.ireturn, 1) := by decide +kernel
theorem dX13_man_0 : decode cX13_man 0 = .ok (.aload_n 0, 1) := by decide +kernel
theorem dX13_man_1 : decode cX13_man 1 = .ok (.iconst 0, 1) := by decide +kernel
theorem dX13_man_2 : decode cX13_man 2 = .ok (.putfield 48, 3) := by decide +kernel
theorem dX13_man_5 : decode cX13_man 5 = .ok (.aload_n 0, 1) := by decide +kernel
theorem dX13_man_6 : decode cX13_man 6 = .ok (.iload_n 1, 1) := by decide +kernel
theorem dX13_man_7 : decode cX13_man 7 = .ok (.iconst 1, 1) := by decide +kernel
theorem dX13_man_8 : decode cX13_man 8 = .ok (.invokevirtual 437, 3) := by decide +kernel
theorem dX13_man_11 : decode cX13_man 11 = .ok (.ireturn, 1) := by decide +kernel
theorem dX13_leave_0 : decode cX13_leave 0 = .ok (.aload_n 0, 1) := by decide +kernel
theorem dX13_leave_1 : decode cX13_leave 1 = .ok (.iconst 0, 1) := by decide +kernel
theorem dX13_leave_2 : decode cX13_leave 2 = .ok (.putfield 48, 3) := by decide +kernel
theorem dX13_leave_5 : decode cX13_leave 5 = .ok (.aload_n 0, 1) := by decide +kernel
theorem dX13_leave_6 : decode cX13_leave 6 = .ok (.iload_n 1, 1) := by decide +kernel
theorem dX13_leave_7 : decode cX13_leave 7 = .ok (.iconst 0, 1) := by decide +kernel
theorem dX13_leave_8 : decode cX13_leave 8 = .ok (.invokevirtual 437, 3) := by decide +kernel
theorem dX13_leave_11 : decode cX13_leave 11 = .ok (.ireturn, 1) := by decide +kernel
theorem dX13_seat_0 : decode cX13_seat 0 = .ok (.aload_n 0, 1) := by decide +kernel
theorem dX13_seat_1 : decode cX13_seat 1 = .ok (.iconst 0, 1) := by decide +kernel
theorem dX13_seat_2 : decode cX13_seat 2 = .ok (.putfield 48, 3) := by decide +kernel
theorem dX13_seat_5 : decode cX13_seat 5 = .ok (.aload_n 0, 1) := by decide +kernel
theorem dX13_seat_6 : decode cX13_seat 6 = .ok (.iload_n 1, 1) := by decide +kernel
theorem dX13_seat_7 : decode cX13_seat 7 = .ok (.invokevirtual 321, 3) := by decide +kernel
theorem dX13_seat_10 : decode cX13_seat 10 = .ok (.ifCond .ne 9, 3) := by decide +kernel
theorem dX13_seat_13 : decode cX13_seat 13 = .ok (.aload_n 0, 1) := by decide +kernel
theorem dX13_seat_14 : decode cX13_seat 14 = .ok (.iconst 1, 1) := by decide +kernel
theorem dX13_seat_15 : decode cX13_seat 15 = .ok (.invokevirtual 54, 3) := by decide +kernel
theorem dX13_seat_18 : decode cX13_seat 18 = .ok (.ireturn, 1) := by decide +kernel
theorem dX13_seat_19 : decode cX13_seat 19 = .ok (.iload_n 2, 1) := by decide +kernel
theorem dX13_seat_20 : decode cX13_seat 20 = .ok (.iconst 0, 1) := by decide +kernel
theorem dX13_seat_21 : decode cX13_seat 21 = .ok (.bipush 99, 2) := by decide +kernel
theorem dX13_seat_23 : decode cX13_seat 23 = .ok (.invokestatic 131, 3) := by decide +kernel
theorem dX13_seat_26 : decode cX13_seat 26 = .ok (.ifCond .ne 9, 3) := by decide +kernel
theorem dX13_seat_29 : decode cX13_seat 29 = .ok (.aload_n 0, 1) := by decide +kernel
theorem dX13_seat_30 : decode cX13_seat 30 = .ok (.iconst 2, 1) := by decide +kernel
theorem dX13_seat_31 : decode cX13_seat 31 = .ok (.invokevirtual 54, 3) := by decide +kernel
theorem dX13_seat_34 : decode cX13_seat 34 = .ok (.ireturn, 1) := by decide +kernel
theorem dX13_seat_35 : decode cX13_seat 35 = .ok (.aload_n 0, 1) := by decide +kernel
theorem dX13_seat_36 : decode cX13_seat 36 = .ok (.getfield 17, 3) := by decide +kernel
theorem dX13_seat_39 : decode cX13_seat 39 = .ok (.iload_n 1, 1) := by decide +kernel
theorem dX13_seat_40 : decode cX13_seat 40 = .ok (.iaload, 1) := by decide +kernel
theorem dX13_seat_41 : decode cX13_seat 41 = .ok (.iload_n 2, 1) := by decide +kernel
theorem dX13_seat_42 : decode cX13_seat 42 = .ok (.if_icmp .ne 9, 3) := by decide +kernel
theorem dX13_seat_45 : decode cX13_seat 45 = .ok (.aload_n 0, 1) := by decide +kernel
theorem dX13_seat_46 : decode cX13_seat 46 = .ok (.iconst 5, 1) := by decide +kernel
theorem dX13_seat_47 : decode cX13_seat 47 = .ok (.invokevirtual 54, 3) := by decide +kernel
theorem dX13_seat_50 : decode cX13_seat 50 = .ok (.ireturn, 1) := by decide +kernel
theorem dX13_seat_51 : decode cX13_seat 51 = .ok (.aload_n 0, 1) := by decide +kernel
theorem dX13_seat_52 : decode cX13_seat 52 = .ok (.invokevirtual 431, 3) := by decide +kernel
theorem dX13_seat_55 : decode cX13_seat 55 = .ok (.aload_n 0, 1) := by decide +kernel
theorem dX13_seat_56 : decode cX13_seat 56 = .ok (.getfield 17, 3) := by decide +kernel
theorem dX13_seat_59 : decode cX13_seat 59 = .ok (.iload_n 1, 1) := by decide +kernel
theorem dX13_seat_60 : decode cX13_seat 60 = .ok (.iload_n 2, 1) := by decide +kernel
theorem dX13_seat_61 : decode cX13_seat 61 = .ok (.iastore, 1) := by decide +kernel
theorem dX13_seat_62 : decode cX13_seat 62 = .ok (.aload_n 0, 1) := by decide +kernel
theorem dX13_seat_63 : decode cX13_seat 63 = .ok (.invokevirtual 324, 3) := by decide +kernel
theorem dX13_seat_66 : decode cX13_seat 66 = .ok (.aload_n 0, 1) := by decide +kernel
theorem dX13_seat_67 : decode cX13_seat 67 = .ok (.aload_n 0, 1) := by decide +kernel
theorem dX13_seat_68 : decode cX13_seat 68 = .ok (.iload_n 1, 1) := by decide +kernel
theorem dX13_seat_69 : decode cX13_seat 69 = .ok (.invokevirtual 306, 3) := by decide +kernel
theorem dX13_seat_72 : decode cX13_seat 72 = .ok (.invokestatic 327, 3) := by decide +kernel
theorem dX13_seat_75 : decode cX13_seat 75 = .ok (.invokevirtual 58, 3) := by decide +kernel
theorem dX13_seat_78 : decode cX13_seat 78 = .ok (.ireturn, 1) := by decide +kernel
theorem dX13_minute_0 : decode cX13_minute 0 = .ok (.aload_n 0, 1) := by decide +kernel
theorem dX13_minute_1 : decode cX13_minute 1 = .ok (.iconst 0, 1) := by decide +kernel
theorem dX13_minute_2 : decode cX13_minute 2 = .ok (.putfield 48, 3) := by decide +kernel
theorem dX13_minute_5 : decode cX13_minute 5 = .ok (.aload_n 0, 1) := by decide +kernel
theorem dX13_minute_6 : decode cX13_minute 6 = .ok (.getfield 289, 3) := by decide +kernel
theorem dX13_minute_9 : decode cX13_minute 9 = .ok (.ifnonnull 9, 3) := by decide +kernel
theorem dX13_minute_12 : decode cX13_minute 12 = .ok (.aload_n 0, 1) := by decide +kernel
theorem dX13_minute_13 : decode cX13_minute 13 = .ok (.iconst 1, 1) := by decide +kernel
theorem dX13_minute_14 : decode cX13_minute 14 = .ok (.invokevirtual 54, 3) := by decide +kernel
theorem dX13_minute_17 : decode cX13_minute 17 = .ok (.ireturn, 1) := by decide +kernel
theorem dX13_minute_18 : decode cX13_minute 18 = .ok (.iload_n 1, 1) := by decide +kernel
theorem dX13_minute_19 : decode cX13_minute 19 = .ok (.iconst 1, 1) := by decide +kernel
theorem dX13_minute_20 : decode cX13_minute 20 = .ok (.bipush 60, 2) := by decide +kernel
theorem dX13_minute_22 : decode cX13_minute 22 = .ok (.invokestatic 131, 3) := by decide +kernel
theorem dX13_minute_25 : decode cX13_minute 25 = .ok (.ifCond .ne 9, 3) := by decide +kernel
theorem dX13_minute_28 : decode cX13_minute 28 = .ok (.aload_n 0, 1) := by decide +kernel
theorem dX13_minute_29 : decode cX13_minute 29 = .ok (.iconst 2, 1) := by decide +kernel
theorem dX13_minute_30 : decode cX13_minute 30 = .ok (.invokevirtual 54, 3) := by decide +kernel
theorem dX13_minute_33 : decode cX13_minute 33 = .ok (.ireturn, 1) := by decide +kernel
theorem dX13_minute_34 : decode cX13_minute 34 = .ok (.aload_n 0, 1) := by decide +kernel
theorem dX13_minute_35 : decode cX13_minute 35 = .ok (.getfield 17, 3) := by decide +kernel
theorem dX13_minute_38 : decode cX13_minute 38 = .ok (.bipush 8, 2) := by decide +kernel
theorem dX13_minute_40 : decode cX13_minute 40 = .ok (.iaload, 1) := by decide +kernel
theorem dX13_minute_41 : decode cX13_minute 41 = .ok (.iload_n 1, 1) := by decide +kernel
theorem dX13_minute_42 : decode cX13_minute 42 = .ok (.iadd, 1) := by decide +kernel
theorem dX13_minute_43 : decode cX13_minute 43 = .ok (.sipush 999, 3) := by decide +kernel
theorem dX13_minute_46 : decode cX13_minute 46 = .ok (.if_icmp .le 9, 3) := by decide +kernel
theorem dX13_minute_49 : decode cX13_minute 49 = .ok (.aload_n 0, 1) := by decide +kernel
theorem dX13_minute_50 : decode cX13_minute 50 = .ok (.iconst 3, 1) := by decide +kernel
theorem dX13_minute_51 : decode cX13_minute 51 = .ok (.invokevirtual 54, 3) := by decide +kernel
theorem dX13_minute_54 : decode cX13_minute 54 = .ok (.ireturn, 1) := by decide +kernel
theorem dX13_minute_55 : decode cX13_minute 55 = .ok (.aload_n 0, 1) := by decide +kernel
theorem dX13_minute_56 : decode cX13_minute 56 = .ok (.invokevirtual 431, 3) := by decide +kernel
theorem dX13_minute_59 : decode cX13_minute 59 = .ok (.aload_n 0, 1) := by decide +kernel
theorem dX13_minute_60 : decode cX13_minute 60 = .ok (.getfield 17, 3) := by decide +kernel
theorem dX13_minute_63 : decode cX13_minute 63 = .ok (.bipush 8, 2) := by decide +kernel
theorem dX13_minute_65 : decode cX13_minute 65 = .ok (.dup2, 1) := by decide +kernel
theorem dX13_minute_66 : decode cX13_minute 66 = .ok (.iaload, 1) := by decide +kernel
theorem dX13_minute_67 : decode cX13_minute 67 = .ok (.iload_n 1, 1) := by decide +kernel
theorem dX13_minute_68 : decode cX13_minute 68 = .ok (.iadd, 1) := by decide +kernel
theorem dX13_minute_69 : decode cX13_minute 69 = .ok (.iastore, 1) := by decide +kernel
theorem dX13_minute_70 : decode cX13_minute 70 = .ok (.aload_n 0, 1) := by decide +kernel
theorem dX13_minute_71 : decode cX13_minute 71 = .ok (.invokevirtual 324, 3) := by decide +kernel
theorem dX13_minute_74 : decode cX13_minute 74 = .ok (.aload_n 0, 1) := by decide +kernel
theorem dX13_minute_75 : decode cX13_minute 75 = .ok (.aload_n 0, 1) := by decide +kernel
theorem dX13_minute_76 : decode cX13_minute 76 = .ok (.aload_n 0, 1) := by decide +kernel
theorem dX13_minute_77 : decode cX13_minute 77 = .ok (.getfield 17, 3) := by decide +kernel
theorem dX13_minute_80 : decode cX13_minute 80 = .ok (.bipush 8, 2) := by decide +kernel
theorem dX13_minute_82 : decode cX13_minute 82 = .ok (.iaload, 1) := by decide +kernel
theorem dX13_minute_83 : decode cX13_minute 83 = .ok (.invokevirtual 330, 3) := by decide +kernel
theorem dX13_minute_86 : decode cX13_minute 86 = .ok (.invokevirtual 58, 3) := by decide +kernel
theorem dX13_minute_89 : decode cX13_minute 89 = .ok (.ireturn, 1) := by decide +kernel
theorem dX13_lift_0 : decode cX13_lift 0 = .ok (.aload_n 0, 1) := by decide +kernel
theorem dX13_lift_1 : decode cX13_lift 1 = .ok (.iconst 0, 1) := by decide +kernel
theorem dX13_lift_2 : decode cX13_lift 2 = .ok (.putfield 48, 3) := by decide +kernel
theorem dX13_lift_5 : decode cX13_lift 5 = .ok (.aload_n 0, 1) := by decide +kernel
theorem dX13_lift_6 : decode cX13_lift 6 = .ok (.iload_n 1, 1) := by decide +kernel
theorem dX13_lift_7 : decode cX13_lift 7 = .ok (.invokevirtual 321, 3) := by decide +kernel
theorem dX13_lift_10 : decode cX13_lift 10 = .ok (.ifCond .ne 9, 3) := by decide +kernel
theorem dX13_lift_13 : decode cX13_lift 13 = .ok (.aload_n 0, 1) := by decide +kernel
theorem dX13_lift_14 : decode cX13_lift 14 = .ok (.iconst 1, 1) := by decide +kernel
theorem dX13_lift_15 : decode cX13_lift 15 = .ok (.invokevirtual 54, 3) := by decide +kernel
theorem dX13_lift_18 : decode cX13_lift 18 = .ok (.ireturn, 1) := by decide +kernel
theorem dX13_lift_19 : decode cX13_lift 19 = .ok (.aload_n 0, 1) := by decide +kernel
theorem dX13_lift_20 : decode cX13_lift 20 = .ok (.invokevirtual 324, 3) := by decide +kernel
theorem dX13_lift_23 : decode cX13_lift 23 = .ok (.aload_n 0, 1) := by decide +kernel
theorem dX13_lift_24 : decode cX13_lift 24 = .ok (.aload_n 0, 1) := by decide +kernel
theorem dX13_lift_25 : decode cX13_lift 25 = .ok (.getfield 17, 3) := by decide +kernel
theorem dX13_lift_28 : decode cX13_lift 28 = .ok (.bipush 8, 2) := by decide +kernel
theorem dX13_lift_30 : decode cX13_lift 30 = .ok (.iaload, 1) := by decide +kernel
theorem dX13_lift_31 : decode cX13_lift 31 = .ok (.invokevirtual 330, 3) := by decide +kernel
theorem dX13_lift_34 : decode cX13_lift 34 = .ok (.iload_n 1, 1) := by decide +kernel
theorem dX13_lift_35 : decode cX13_lift 35 = .ok (.invokestatic 267, 3) := by decide +kernel
theorem dX13_lift_38 : decode cX13_lift 38 = .ok (.ifCond .ne 9, 3) := by decide +kernel
theorem dX13_lift_41 : decode cX13_lift 41 = .ok (.aload_n 0, 1) := by decide +kernel
theorem dX13_lift_42 : decode cX13_lift 42 = .ok (.iconst 5, 1) := by decide +kernel
theorem dX13_lift_43 : decode cX13_lift 43 = .ok (.invokevirtual 54, 3) := by decide +kernel
theorem dX13_lift_46 : decode cX13_lift 46 = .ok (.ireturn, 1) := by decide +kernel
theorem dX13_lift_47 : decode cX13_lift 47 = .ok (.aload_n 0, 1) := by decide +kernel
theorem dX13_lift_48 : decode cX13_lift 48 = .ok (.iload_n 1, 1) := by decide +kernel
theorem dX13_lift_49 : decode cX13_lift 49 = .ok (.invokevirtual 342, 3) := by decide +kernel
theorem dX13_lift_52 : decode cX13_lift 52 = .ok (.istore_n 2, 1) := by decide +kernel
theorem dX13_lift_53 : decode cX13_lift 53 = .ok (.iload_n 2, 1) := by decide +kernel
theorem dX13_lift_54 : decode cX13_lift 54 = .ok (.bipush (-2), 2) := by decide +kernel
theorem dX13_lift_56 : decode cX13_lift 56 = .ok (.if_icmp .eq 19, 3) := by decide +kernel
theorem dX13_lift_59 : decode cX13_lift 59 = .ok (.aload_n 0, 1) := by decide +kernel
theorem dX13_lift_60 : decode cX13_lift 60 = .ok (.iload_n 2, 1) := by decide +kernel
theorem dX13_lift_61 : decode cX13_lift 61 = .ok (.iload_n 1, 1) := by decide +kernel
theorem dX13_lift_62 : decode cX13_lift 62 = .ok (.invokevirtual 309, 3) := by decide +kernel
theorem dX13_lift_65 : decode cX13_lift 65 = .ok (.aload_n 0, 1) := by decide +kernel
theorem dX13_lift_66 : decode cX13_lift 66 = .ok (.getfield 289, 3) := by decide +kernel
theorem dX13_lift_69 : decode cX13_lift 69 = .ok (.getfield 153, 3) := by decide +kernel
theorem dX13_lift_72 : decode cX13_lift 72 = .ok (.if_icmp .le 10, 3) := by decide +kernel
theorem dX13_lift_75 : decode cX13_lift 75 = .ok (.aload_n 0, 1) := by decide +kernel
theorem dX13_lift_76 : decode cX13_lift 76 = .ok (.bipush 6, 2) := by decide +kernel
theorem dX13_lift_78 : decode cX13_lift 78 = .ok (.invokevirtual 54, 3) := by decide +kernel
theorem dX13_lift_81 : decode cX13_lift 81 = .ok (.ireturn, 1) := by decide +kernel
theorem dX13_lift_82 : decode cX13_lift 82 = .ok (.aload_n 0, 1) := by decide +kernel
theorem dX13_lift_83 : decode cX13_lift 83 = .ok (.invokevirtual 431, 3) := by decide +kernel
theorem dX13_lift_86 : decode cX13_lift 86 = .ok (.aload_n 0, 1) := by decide +kernel
theorem dX13_lift_87 : decode cX13_lift 87 = .ok (.getfield 17, 3) := by decide +kernel
theorem dX13_lift_90 : decode cX13_lift 90 = .ok (.bipush 7, 2) := by decide +kernel
theorem dX13_lift_92 : decode cX13_lift 92 = .ok (.dup2, 1) := by decide +kernel
theorem dX13_lift_93 : decode cX13_lift 93 = .ok (.iaload, 1) := by decide +kernel
theorem dX13_lift_94 : decode cX13_lift 94 = .ok (.iconst 1, 1) := by decide +kernel
theorem dX13_lift_95 : decode cX13_lift 95 = .ok (.iload_n 1, 1) := by decide +kernel
theorem dX13_lift_96 : decode cX13_lift 96 = .ok (.ishl, 1) := by decide +kernel
theorem dX13_lift_97 : decode cX13_lift 97 = .ok (.ior, 1) := by decide +kernel
theorem dX13_lift_98 : decode cX13_lift 98 = .ok (.iastore, 1) := by decide +kernel
theorem dX13_lift_99 : decode cX13_lift 99 = .ok (.aload_n 0, 1) := by decide +kernel
theorem dX13_lift_100 : decode cX13_lift 100 = .ok (.iload_n 2, 1) := by decide +kernel
theorem dX13_lift_101 : decode cX13_lift 101 = .ok (.invokevirtual 58, 3) := by decide +kernel
theorem dX13_lift_104 : decode cX13_lift 104 = .ok (.ireturn, 1) := by decide +kernel
def m_X13_remembers (t : Nat) (σ : jd_Hp) : Option (Unit × jd_Hp) :=
jd_b (α := Unit) (
jd_if (¬ (σ.2.1 t 19) = 16) (
some ((), σ)) (
jd_b (jd_lp (S := Int32) (T := Unit) (fun s10 σ10 =>
jd_if (135 ≤ s10) (
some ((Sum.inr ()), σ10)) (
jd_o σ10 (13, 29) (some t) fun a12 =>
jd_ia σ10 20 (σ10.2.2.2 a12 17) (s10 + 9) fun a13 j13 =>
jd_ia σ10 20 (σ10.2.2.2 a12 17) s10 fun a14 j14 =>
jd_li (jd_pi σ10 a14 j14 (σ10.2.1 a13 j13)) fun τ15 =>
some (Sum.inl (s10 + 1), τ15))) jd_fu 0 σ) fun t11 σ11 =>
jd_o σ11 (13, 29) (some t) fun a16 =>
jd_li (jd_pi σ11 a16 19 ((σ11.2.1 a16 19) - 1)) fun τ17 =>
some ((), τ17))) fun t9 σ9 =>
jd_b (jd_lp (S := Int32) (T := Unit) (fun s18 σ18 =>
jd_if (9 ≤ s18) (
some ((Sum.inr ()), σ18)) (
jd_o σ18 (13, 29) (some t) fun a20 =>
jd_ia σ18 20 (σ18.2.2.2 a20 15) s18 fun a21 j21 =>
jd_ia σ18 20 (σ18.2.2.2 a20 17) ((9 * (σ18.2.1 a20 19)) + s18) fun a22 j22 =>
jd_li (jd_pi σ18 a22 j22 (σ18.2.1 a21 j21)) fun τ23 =>
some (Sum.inl (s18 + 1), τ23))) jd_fu 0 σ9) fun t19 σ19 =>
jd_o σ19 (13, 29) (some t) fun a24 =>
jd_li (jd_pi σ19 a24 19 ((σ19.2.1 a24 19) + 1)) fun τ25 =>
some ((), τ25)
set_option maxHeartbeats 4000000 in
set_option maxRecDepth 20000 in
theorem c_X13_remembers {l : Launch} {s0 : State} {G : jd_G} (hF : jd_F s0 G) (σ : jd_Hp) (t : Nat) (ht : σ.1[t]? = some (13, 29)) : jd_M l s0 G yX13_remembers cX13_remembers 2 none 0 je_v [jd_v G (some t)] σ (m_X13_remembers t σ) := by
  refine jd_enter hF (by decide) (fun G => [some (jd_v G (some t)), none]) rfl (by simp [lv_args, jd_al, jd_v_cat, jd_cti, jd_ctl]) (by simp [lg_sl, jd_v_cat, jd_cti, jd_ctl]) (fun X hD hX => ?_)
  have hX : jd_C X RX13 "remembers" cX13_remembers 2 none := hX
  unfold m_X13_remembers
  refine jr_ald0 (pc := 0) hX dX13_remembers_0 ?_
  refine jr_geti (pc := 1) hX fX13_291 rfl dX13_remembers_1 ht ?_
  refine jr_bipush (pc := 4) hX 16 rfl dX13_remembers_4 ?_
  refine jr_join (pc := 6) 49 (fun (t9 : Unit) => [some (jd_v (jd_gG X) (some t)), none]) (fun (t9 : Unit) => []) (fun t9 σ9 => ?_) (fun K9 jj9 => ?_)
  · refine jr_iconst (pc := 49) hX 0 rfl dX13_remembers_49 ?_
    refine jr_ist1 (pc := 50) hX (jn_r _ _) dX13_remembers_50 ?_
    refine jr_loop (pc := 51) (fun (s18 : Int32) => [some (jd_v (jd_gG X) (some t)), some (.int s18)]) (fun (t19 : Unit) => [some (jd_v (jd_gG X) (some t)), none]) 83 0 (fun t19 σ19 => ?_) (fun K18 bk18 ex18 s18 σ18 => ?_)
    · refine jr_ald0 (pc := 83) hX dX13_remembers_83 ?_
      refine jr_dup (pc := 84) hX (jd_v_cat _ _) dX13_remembers_84 ?_
      refine jr_ck0 (fun a24 e24 h24 => ?_)
      refine jr_geti (pc := 85) hX fX13_291 rfl dX13_remembers_85 h24 ?_
      refine jr_iconst (pc := 88) hX 1 rfl dX13_remembers_88 ?_
      refine jr_iadd (pc := 89) hX dX13_remembers_89 ?_
      refine jr_ek1 e24 ?_
      refine jr_puti (pc := 90) hX fX13_291 rfl dX13_remembers_90 h24 ?_
      refine jr_li ?_
      exact jr_vret (pc := 93) hX dX13_remembers_93 rfl
    · refine jr_ild1 (pc := 51) hX dX13_remembers_51 ?_
      refine jr_bipush (pc := 52) hX 9 rfl dX13_remembers_52 ?_
      refine jr_icge (pc := 54) hX 83 dX13_remembers_54 (by decide) ?_ ?_
      · refine jr_wk [true, false] ?_
        exact ex18 () _
      · refine jr_ald0 (pc := 57) hX dX13_remembers_57 ?_
        refine jr_ck0 (fun a20 e20 h20 => ?_)
        refine jr_getr (pc := 58) hX fX13_24 rfl dX13_remembers_58 h20 ?_
        refine jr_bipush (pc := 61) hX 9 rfl dX13_remembers_61 ?_
        refine jr_ald0 (pc := 63) hX dX13_remembers_63 ?_
        refine jr_ek0 e20 ?_
        refine jr_geti (pc := 64) hX fX13_291 rfl dX13_remembers_64 h20 ?_
        refine jr_imul (pc := 67) hX dX13_remembers_67 ?_
        refine jr_ild1 (pc := 68) hX dX13_remembers_68 ?_
        refine jr_iadd (pc := 69) hX dX13_remembers_69 ?_
        refine jr_ald0 (pc := 70) hX dX13_remembers_70 ?_
        refine jr_ek0 e20 ?_
        refine jr_getr (pc := 71) hX fX13_17 rfl dX13_remembers_71 h20 ?_
        refine jr_ild1 (pc := 74) hX dX13_remembers_74 ?_
        refine jr_iaC (pc := 75) hX dX13_remembers_75 (fun a21 n21 e21 h21 => ?_)
        refine jr_iaS (pc := 76) hX dX13_remembers_76 (fun a22 n22 e22 h22 => ?_)
        refine jr_li ?_
        refine jr_inc1 (pc := 77) hX 1 rfl (jn_r _ _) dX13_remembers_77 ?_
        refine jr_goto (pc := 80) hX 51 dX13_remembers_80 (by decide) ?_
        exact bk18 (s18 + 1) _
  · refine jr_icne (pc := 6) hX 49 dX13_remembers_6 (by decide) ?_ ?_
    · exact jj9 () _
    · refine jr_iconst (pc := 9) hX 0 rfl dX13_remembers_9 ?_
      refine jr_ist1 (pc := 10) hX (jn_r _ _) dX13_remembers_10 ?_
      refine jr_loop (pc := 11) (fun (s10 : Int32) => [some (jd_v (jd_gG X) (some t)), some (.int s10)]) (fun (t11 : Unit) => [some (jd_v (jd_gG X) (some t)), none]) 39 0 (fun t11 σ11 => ?_) (fun K10 bk10 ex10 s10 σ10 => ?_)
      · refine jr_ald0 (pc := 39) hX dX13_remembers_39 ?_
        refine jr_dup (pc := 40) hX (jd_v_cat _ _) dX13_remembers_40 ?_
        refine jr_ck0 (fun a16 e16 h16 => ?_)
        refine jr_geti (pc := 41) hX fX13_291 rfl dX13_remembers_41 h16 ?_
        refine jr_iconst (pc := 44) hX 1 rfl dX13_remembers_44 ?_
        refine jr_isub (pc := 45) hX dX13_remembers_45 ?_
        refine jr_ek1 e16 ?_
        refine jr_puti (pc := 46) hX fX13_291 rfl dX13_remembers_46 h16 ?_
        refine jr_li ?_
        exact jj9 () _
      · refine jr_ild1 (pc := 11) hX dX13_remembers_11 ?_
        refine jr_sipush (pc := 12) hX 135 rfl dX13_remembers_12 ?_
        refine jr_icge (pc := 15) hX 39 dX13_remembers_15 (by decide) ?_ ?_
        · refine jr_wk [true, false] ?_
          exact ex10 () _
        · refine jr_ald0 (pc := 18) hX dX13_remembers_18 ?_
          refine jr_ck0 (fun a12 e12 h12 => ?_)
          refine jr_getr (pc := 19) hX fX13_24 rfl dX13_remembers_19 h12 ?_
          refine jr_ild1 (pc := 22) hX dX13_remembers_22 ?_
          refine jr_ald0 (pc := 23) hX dX13_remembers_23 ?_
          refine jr_ek0 e12 ?_
          refine jr_getr (pc := 24) hX fX13_24 rfl dX13_remembers_24 h12 ?_
          refine jr_ild1 (pc := 27) hX dX13_remembers_27 ?_
          refine jr_bipush (pc := 28) hX 9 rfl dX13_remembers_28 ?_
          refine jr_iadd (pc := 30) hX dX13_remembers_30 ?_
          refine jr_iaC (pc := 31) hX dX13_remembers_31 (fun a13 n13 e13 h13 => ?_)
          refine jr_iaS (pc := 32) hX dX13_remembers_32 (fun a14 n14 e14 h14 => ?_)
          refine jr_li ?_
          refine jr_inc1 (pc := 33) hX 1 rfl (jn_r _ _) dX13_remembers_33 ?_
          refine jr_goto (pc := 36) hX 11 dX13_remembers_36 (by decide) ?_
          exact bk10 (s10 + 1) _
def m_X13_changes (t : Nat) (x0p : Int32) (x1p : Int32) (σ : jd_Hp) : Option (Int32 × jd_Hp) :=
jd_b (m_X13_isPost t x0p σ) fun r1 σ1 =>
jd_if (¬ r1 = 0) (
jd_ia σ1 20 (σ1.2.2.2 t 15) 6 fun a2 j2 =>
jd_b (m_X13_bit (σ1.2.1 a2 j2) x0p σ1) fun r3 σ3 =>
jd_if (¬ r3 = x1p) (
jd_b (m_X13_remembers t σ3) fun r4 σ4 =>
jd_ia σ4 20 (σ4.2.2.2 t 15) 6 fun a5 j5 =>
jd_ia σ4 20 (σ4.2.2.2 t 15) 6 fun a6 j6 =>
jd_li (jd_pi σ4 a6 j6 ((σ4.2.1 a5 j5) ^^^ (1 <<< (x0p &&& 31)))) fun τ7 =>
jd_b (m_X13_granted t τ7) fun r8 σ8 =>
some ((r8 &&& 1), σ8)) (
jd_b (m_X13_denied t 5 σ3) fun r9 σ9 =>
some ((r9 &&& 1), σ9))) (
jd_b (m_X13_denied t 1 σ1) fun r10 σ10 =>
some ((r10 &&& 1), σ10))
set_option maxHeartbeats 4000000 in
set_option maxRecDepth 20000 in
theorem c_X13_changes {l : Launch} {s0 : State} {G : jd_G} (hF : jd_F s0 G) (σ : jd_Hp) (t : Nat) (ht : σ.1[t]? = some (13, 29)) (x0p : Int32) (x1p : Int32) : jd_M l s0 G yX13_changes cX13_changes 3 (some .boolean) 2 je_i [jd_v G (some t), .int x0p, .int x1p] σ (m_X13_changes t x0p x1p σ) := by
  refine jd_enter hF (by decide) (fun G => [some (jd_v G (some t)), some (.int x0p), some (.int x1p)]) rfl (by simp [lv_args, jd_al, jd_v_cat, jd_cti, jd_ctl]) (by simp [lg_sl, jd_v_cat, jd_cti, jd_ctl]) (fun X hD hX => ?_)
  have hX : jd_C X RX13 "changes" cX13_changes 3 (some .boolean) := hX
  unfold m_X13_changes
  refine jr_ald0 (pc := 0) hX dX13_changes_0 ?_
  refine jr_ild1 (pc := 1) hX dX13_changes_1 ?_
  refine jr_cV1i (pc := 2) hX lX13_336 (c_X13_isPost hX.F σ t ht _) (jd_dd hD rfl) (Nat.le_of_ble_eq_true rfl) dX13_changes_2 ht (fun r1 σ1 p1 => ?_)
  refine jr_ifne (pc := 5) hX 14 dX13_changes_5 (by decide) ?_ ?_
  · refine jr_ald0 (pc := 14) hX dX13_changes_14 ?_
    refine jr_getr (pc := 15) hX fX13_17 rfl dX13_changes_15 (p1.at ht :) ?_
    refine jr_bipush (pc := 18) hX 6 rfl dX13_changes_18 ?_
    refine jr_iaC (pc := 20) hX dX13_changes_20 (fun a2 n2 e2 h2 => ?_)
    refine jr_ild1 (pc := 21) hX dX13_changes_21 ?_
    refine jr_cS2i (pc := 22) hX lX13_267 (c_X13_bit hX.F σ1 _ _) (jd_dd hD rfl) (Nat.le_of_ble_eq_true rfl) dX13_changes_22 (fun r3 σ3 p3 => ?_)
    refine jr_ild2 (pc := 25) hX dX13_changes_25 ?_
    refine jr_icne (pc := 26) hX 35 dX13_changes_26 (by decide) ?_ ?_
    · refine jr_ald0 (pc := 35) hX dX13_changes_35 ?_
      refine jr_cV0v (pc := 36) hX lX13_431 (c_X13_remembers hX.F σ3 t (p3.at (p1.at ht :) :)) (jd_dd hD rfl) (Nat.le_of_ble_eq_true rfl) dX13_changes_36 (p3.at (p1.at ht :) :) (fun r4 σ4 p4 => ?_)
      refine jr_ald0 (pc := 39) hX dX13_changes_39 ?_
      refine jr_getr (pc := 40) hX fX13_17 rfl dX13_changes_40 (p4.at (p3.at (p1.at ht :) :) :) ?_
      refine jr_bipush (pc := 43) hX 6 rfl dX13_changes_43 ?_
      refine jr_dup2 (pc := 45) hX rfl (jd_v_cat _ _) dX13_changes_45 ?_
      refine jr_iaC (pc := 46) hX dX13_changes_46 (fun a5 n5 e5 h5 => ?_)
      refine jr_iconst (pc := 47) hX 1 rfl dX13_changes_47 ?_
      refine jr_ild1 (pc := 48) hX dX13_changes_48 ?_
      refine jr_ishl (pc := 49) hX dX13_changes_49 ?_
      refine jr_ixor (pc := 50) hX dX13_changes_50 ?_
      refine jr_iaS (pc := 51) hX dX13_changes_51 (fun a6 n6 e6 h6 => ?_)
      refine jr_li ?_
      refine jr_ald0 (pc := 52) hX dX13_changes_52 ?_
      refine jr_cV0i (pc := 53) hX lX13_434 (c_X13_granted hX.F (jd_pi σ4 a6 ((6 : Int32).toNatClampNeg) ((σ4.2.1 a5 ((6 : Int32).toNatClampNeg)) ^^^ (1 <<< (x0p &&& 31)))) t (p4.at (p3.at (p1.at ht :) :) :)) (jd_dd hD rfl) (Nat.le_of_ble_eq_true rfl) dX13_changes_53 (p4.at (p3.at (p1.at ht :) :) :) (fun r8 σ8 p8 => ?_)
      exact jr_bret (pc := 56) hX dX13_changes_56 rfl
    · refine jr_ald0 (pc := 29) hX dX13_changes_29 ?_
      refine jr_iconst (pc := 30) hX 5 rfl dX13_changes_30 ?_
      refine jr_cV1i (pc := 31) hX lX13_428 (c_X13_denied hX.F σ3 t (p3.at (p1.at ht :) :) _) (jd_dd hD rfl) (Nat.le_of_ble_eq_true rfl) dX13_changes_31 (p3.at (p1.at ht :) :) (fun r9 σ9 p9 => ?_)
      exact jr_bret (pc := 34) hX dX13_changes_34 rfl
  · refine jr_ald0 (pc := 8) hX dX13_changes_8 ?_
    refine jr_iconst (pc := 9) hX 1 rfl dX13_changes_9 ?_
    refine jr_cV1i (pc := 10) hX lX13_428 (c_X13_denied hX.F σ1 t (p1.at ht :) _) (jd_dd hD rfl) (Nat.le_of_ble_eq_true rfl) dX13_changes_10 (p1.at ht :) (fun r10 σ10 p10 => ?_)
    exact jr_bret (pc := 13) hX dX13_changes_13 rfl
def m_X13_man (t : Nat) (x0p : Int32) (σ : jd_Hp) : Option (Int32 × jd_Hp) :=
jd_li (jd_pi σ t 0 0) fun τ1 =>
jd_b (m_X13_changes t x0p 1 τ1) fun r2 σ2 =>
some ((r2 &&& 1), σ2)
set_option maxHeartbeats 4000000 in
set_option maxRecDepth 20000 in
theorem c_X13_man {l : Launch} {s0 : State} {G : jd_G} (hF : jd_F s0 G) (σ : jd_Hp) (t : Nat) (ht : σ.1[t]? = some (13, 29)) (x0p : Int32) : jd_M l s0 G yX13_man cX13_man 2 (some .boolean) 3 je_i [jd_v G (some t), .int x0p] σ (m_X13_man t x0p σ) := by
  refine jd_enter hF (by decide) (fun G => [some (jd_v G (some t)), some (.int x0p)]) rfl (by simp [lv_args, jd_al, jd_v_cat, jd_cti, jd_ctl]) (by simp [lg_sl, jd_v_cat, jd_cti, jd_ctl]) (fun X hD hX => ?_)
  have hX : jd_C X RX13 "man" cX13_man 2 (some .boolean) := hX
  unfold m_X13_man
  refine jr_ald0 (pc := 0) hX dX13_man_0 ?_
  refine jr_iconst (pc := 1) hX 0 rfl dX13_man_1 ?_
  refine jr_puti (pc := 2) hX fX13_48 rfl dX13_man_2 ht ?_
  refine jr_li ?_
  refine jr_ald0 (pc := 5) hX dX13_man_5 ?_
  refine jr_ild1 (pc := 6) hX dX13_man_6 ?_
  refine jr_iconst (pc := 7) hX 1 rfl dX13_man_7 ?_
  refine jr_cV2i (pc := 8) hX lX13_437 (c_X13_changes hX.F (jd_pi σ t 0 0) t ht _ _) (jd_dd hD rfl) (Nat.le_of_ble_eq_true rfl) dX13_man_8 ht (fun r2 σ2 p2 => ?_)
  exact jr_bret (pc := 11) hX dX13_man_11 rfl
def m_X13_leave (t : Nat) (x0p : Int32) (σ : jd_Hp) : Option (Int32 × jd_Hp) :=
jd_li (jd_pi σ t 0 0) fun τ1 =>
jd_b (m_X13_changes t x0p 0 τ1) fun r2 σ2 =>
some ((r2 &&& 1), σ2)
set_option maxHeartbeats 4000000 in
set_option maxRecDepth 20000 in
theorem c_X13_leave {l : Launch} {s0 : State} {G : jd_G} (hF : jd_F s0 G) (σ : jd_Hp) (t : Nat) (ht : σ.1[t]? = some (13, 29)) (x0p : Int32) : jd_M l s0 G yX13_leave cX13_leave 2 (some .boolean) 3 je_i [jd_v G (some t), .int x0p] σ (m_X13_leave t x0p σ) := by
  refine jd_enter hF (by decide) (fun G => [some (jd_v G (some t)), some (.int x0p)]) rfl (by simp [lv_args, jd_al, jd_v_cat, jd_cti, jd_ctl]) (by simp [lg_sl, jd_v_cat, jd_cti, jd_ctl]) (fun X hD hX => ?_)
  have hX : jd_C X RX13 "leave" cX13_leave 2 (some .boolean) := hX
  unfold m_X13_leave
  refine jr_ald0 (pc := 0) hX dX13_leave_0 ?_
  refine jr_iconst (pc := 1) hX 0 rfl dX13_leave_1 ?_
  refine jr_puti (pc := 2) hX fX13_48 rfl dX13_leave_2 ht ?_
  refine jr_li ?_
  refine jr_ald0 (pc := 5) hX dX13_leave_5 ?_
  refine jr_ild1 (pc := 6) hX dX13_leave_6 ?_
  refine jr_iconst (pc := 7) hX 0 rfl dX13_leave_7 ?_
  refine jr_cV2i (pc := 8) hX lX13_437 (c_X13_changes hX.F (jd_pi σ t 0 0) t ht _ _) (jd_dd hD rfl) (Nat.le_of_ble_eq_true rfl) dX13_leave_8 ht (fun r2 σ2 p2 => ?_)
  exact jr_bret (pc := 11) hX dX13_leave_11 rfl
def m_X13_seat (t : Nat) (x0p : Int32) (x1p : Int32) (σ : jd_Hp) : Option (Int32 × jd_Hp) :=
jd_li (jd_pi σ t 0 0) fun τ1 =>
jd_b (m_X13_isPerson t x0p τ1) fun r2 σ2 =>
jd_if (¬ r2 = 0) (
jd_b (m_X13_in x1p 0 99 σ2) fun r3 σ3 =>
jd_if (¬ r3 = 0) (
jd_ia σ3 20 (σ3.2.2.2 t 15) x0p fun a4 j4 =>
jd_if (¬ (σ3.2.1 a4 j4) = x1p) (
jd_b (m_X13_remembers t σ3) fun r5 σ5 =>
jd_ia σ5 20 (σ5.2.2.2 t 15) x0p fun a6 j6 =>
jd_li (jd_pi σ5 a6 j6 x1p) fun τ7 =>
jd_b (m_X13_works t τ7) fun r8 σ8 =>
jd_b (m_X13_sinksAt t x0p σ8) fun r9 σ9 =>
jd_b (m_X13_orNobody r9 σ9) fun r10 σ10 =>
jd_b (m_X13_good t r10 σ10) fun r11 σ11 =>
some (r11, σ11)) (
jd_b (m_X13_refused t 5 σ3) fun r12 σ12 =>
some (r12, σ12))) (
jd_b (m_X13_refused t 2 σ3) fun r13 σ13 =>
some (r13, σ13))) (
jd_b (m_X13_refused t 1 σ2) fun r14 σ14 =>
some (r14, σ14))
set_option maxHeartbeats 4000000 in
set_option maxRecDepth 20000 in
theorem c_X13_seat {l : Launch} {s0 : State} {G : jd_G} (hF : jd_F s0 G) (σ : jd_Hp) (t : Nat) (ht : σ.1[t]? = some (13, 29)) (x0p : Int32) (x1p : Int32) : jd_M l s0 G yX13_seat cX13_seat 3 (some .int) 3 je_i [jd_v G (some t), .int x0p, .int x1p] σ (m_X13_seat t x0p x1p σ) := by
  refine jd_enter hF (by decide) (fun G => [some (jd_v G (some t)), some (.int x0p), some (.int x1p)]) rfl (by simp [lv_args, jd_al, jd_v_cat, jd_cti, jd_ctl]) (by simp [lg_sl, jd_v_cat, jd_cti, jd_ctl]) (fun X hD hX => ?_)
  have hX : jd_C X RX13 "seat" cX13_seat 3 (some .int) := hX
  unfold m_X13_seat
  refine jr_ald0 (pc := 0) hX dX13_seat_0 ?_
  refine jr_iconst (pc := 1) hX 0 rfl dX13_seat_1 ?_
  refine jr_puti (pc := 2) hX fX13_48 rfl dX13_seat_2 ht ?_
  refine jr_li ?_
  refine jr_ald0 (pc := 5) hX dX13_seat_5 ?_
  refine jr_ild1 (pc := 6) hX dX13_seat_6 ?_
  refine jr_cV1i (pc := 7) hX lX13_321 (c_X13_isPerson hX.F (jd_pi σ t 0 0) t ht _) (jd_dd hD rfl) (Nat.le_of_ble_eq_true rfl) dX13_seat_7 ht (fun r2 σ2 p2 => ?_)
  refine jr_ifne (pc := 10) hX 19 dX13_seat_10 (by decide) ?_ ?_
  · refine jr_ild2 (pc := 19) hX dX13_seat_19 ?_
    refine jr_iconst (pc := 20) hX 0 rfl dX13_seat_20 ?_
    refine jr_bipush (pc := 21) hX 99 rfl dX13_seat_21 ?_
    refine jr_cS3i (pc := 23) hX lX13_131 (c_X13_in hX.F σ2 _ _ _) (jd_dd hD rfl) (Nat.le_of_ble_eq_true rfl) dX13_seat_23 (fun r3 σ3 p3 => ?_)
    refine jr_ifne (pc := 26) hX 35 dX13_seat_26 (by decide) ?_ ?_
    · refine jr_ald0 (pc := 35) hX dX13_seat_35 ?_
      refine jr_getr (pc := 36) hX fX13_17 rfl dX13_seat_36 (p3.at (p2.at ht :) :) ?_
      refine jr_ild1 (pc := 39) hX dX13_seat_39 ?_
      refine jr_iaC (pc := 40) hX dX13_seat_40 (fun a4 n4 e4 h4 => ?_)
      refine jr_ild2 (pc := 41) hX dX13_seat_41 ?_
      refine jr_icne (pc := 42) hX 51 dX13_seat_42 (by decide) ?_ ?_
      · refine jr_ald0 (pc := 51) hX dX13_seat_51 ?_
        refine jr_cV0v (pc := 52) hX lX13_431 (c_X13_remembers hX.F σ3 t (p3.at (p2.at ht :) :)) (jd_dd hD rfl) (Nat.le_of_ble_eq_true rfl) dX13_seat_52 (p3.at (p2.at ht :) :) (fun r5 σ5 p5 => ?_)
        refine jr_ald0 (pc := 55) hX dX13_seat_55 ?_
        refine jr_getr (pc := 56) hX fX13_17 rfl dX13_seat_56 (p5.at (p3.at (p2.at ht :) :) :) ?_
        refine jr_ild1 (pc := 59) hX dX13_seat_59 ?_
        refine jr_ild2 (pc := 60) hX dX13_seat_60 ?_
        refine jr_iaS (pc := 61) hX dX13_seat_61 (fun a6 n6 e6 h6 => ?_)
        refine jr_li ?_
        refine jr_ald0 (pc := 62) hX dX13_seat_62 ?_
        refine jr_cV0v (pc := 63) hX lX13_324 (c_X13_works hX.F (jd_pi σ5 a6 x0p.toNatClampNeg x1p) t (p5.at (p3.at (p2.at ht :) :) :)) (jd_dd hD rfl) (Nat.le_of_ble_eq_true rfl) dX13_seat_63 (p5.at (p3.at (p2.at ht :) :) :) (fun r8 σ8 p8 => ?_)
        refine jr_ald0 (pc := 66) hX dX13_seat_66 ?_
        refine jr_ald0 (pc := 67) hX dX13_seat_67 ?_
        refine jr_ild1 (pc := 68) hX dX13_seat_68 ?_
        refine jr_cV1i (pc := 69) hX lX13_306 (c_X13_sinksAt hX.F σ8 t (p8.at (p5.at (p3.at (p2.at ht :) :) :) :) _) (jd_dd hD rfl) (by simp [jd_v_cat, jd_cti, jd_ctl]) dX13_seat_69 (p8.at (p5.at (p3.at (p2.at ht :) :) :) :) (fun r9 σ9 p9 => ?_)
        refine jr_cS1i (pc := 72) hX lX13_327 (c_X13_orNobody hX.F σ9 _) (jd_dd hD rfl) (by simp [jd_v_cat, jd_cti, jd_ctl]) dX13_seat_72 (fun r10 σ10 p10 => ?_)
        refine jr_cV1i (pc := 75) hX lX13_58 (c_X13_good hX.F σ10 t (p10.at (p9.at (p8.at (p5.at (p3.at (p2.at ht :) :) :) :) :) :) _) (jd_dd hD rfl) (Nat.le_of_ble_eq_true rfl) dX13_seat_75 (p10.at (p9.at (p8.at (p5.at (p3.at (p2.at ht :) :) :) :) :) :) (fun r11 σ11 p11 => ?_)
        exact jr_iret (pc := 78) hX dX13_seat_78 rfl
      · refine jr_ald0 (pc := 45) hX dX13_seat_45 ?_
        refine jr_iconst (pc := 46) hX 5 rfl dX13_seat_46 ?_
        refine jr_cV1i (pc := 47) hX lX13_54 (c_X13_refused hX.F σ3 t (p3.at (p2.at ht :) :) _) (jd_dd hD rfl) (Nat.le_of_ble_eq_true rfl) dX13_seat_47 (p3.at (p2.at ht :) :) (fun r12 σ12 p12 => ?_)
        exact jr_iret (pc := 50) hX dX13_seat_50 rfl
    · refine jr_ald0 (pc := 29) hX dX13_seat_29 ?_
      refine jr_iconst (pc := 30) hX 2 rfl dX13_seat_30 ?_
      refine jr_cV1i (pc := 31) hX lX13_54 (c_X13_refused hX.F σ3 t (p3.at (p2.at ht :) :) _) (jd_dd hD rfl) (Nat.le_of_ble_eq_true rfl) dX13_seat_31 (p3.at (p2.at ht :) :) (fun r13 σ13 p13 => ?_)
      exact jr_iret (pc := 34) hX dX13_seat_34 rfl
  · refine jr_ald0 (pc := 13) hX dX13_seat_13 ?_
    refine jr_iconst (pc := 14) hX 1 rfl dX13_seat_14 ?_
    refine jr_cV1i (pc := 15) hX lX13_54 (c_X13_refused hX.F σ2 t (p2.at ht :) _) (jd_dd hD rfl) (Nat.le_of_ble_eq_true rfl) dX13_seat_15 (p2.at ht :) (fun r14 σ14 p14 => ?_)
    exact jr_iret (pc := 18) hX dX13_seat_18 rfl
def m_X13_minute (t : Nat) (x0p : Int32) (σ : jd_Hp) : Option (Int32 × jd_Hp) :=
jd_li (jd_pi σ t 0 0) fun τ1 =>
jd_if (¬ (τ1.2.2.2 t 3) = none) (
jd_b (m_X13_in x0p 1 60 τ1) fun r2 σ2 =>
jd_if (¬ r2 = 0) (
jd_ia σ2 20 (σ2.2.2.2 t 15) 8 fun a3 j3 =>
jd_if (((σ2.2.1 a3 j3) + x0p) ≤ 999) (
jd_b (m_X13_remembers t σ2) fun r4 σ4 =>
jd_ia σ4 20 (σ4.2.2.2 t 15) 8 fun a5 j5 =>
jd_ia σ4 20 (σ4.2.2.2 t 15) 8 fun a6 j6 =>
jd_li (jd_pi σ4 a6 j6 ((σ4.2.1 a5 j5) + x0p)) fun τ7 =>
jd_b (m_X13_works t τ7) fun r8 σ8 =>
jd_ia σ8 20 (σ8.2.2.2 t 15) 8 fun a9 j9 =>
jd_b (m_X13_underAt t (σ8.2.1 a9 j9) σ8) fun r10 σ10 =>
jd_b (m_X13_good t r10 σ10) fun r11 σ11 =>
some (r11, σ11)) (
jd_b (m_X13_refused t 3 σ2) fun r12 σ12 =>
some (r12, σ12))) (
jd_b (m_X13_refused t 2 σ2) fun r13 σ13 =>
some (r13, σ13))) (
jd_b (m_X13_refused t 1 τ1) fun r14 σ14 =>
some (r14, σ14))
set_option maxHeartbeats 4000000 in
set_option maxRecDepth 20000 in
theorem c_X13_minute {l : Launch} {s0 : State} {G : jd_G} (hF : jd_F s0 G) (σ : jd_Hp) (t : Nat) (ht : σ.1[t]? = some (13, 29)) (x0p : Int32) : jd_M l s0 G yX13_minute cX13_minute 2 (some .int) 4 je_i [jd_v G (some t), .int x0p] σ (m_X13_minute t x0p σ) := by
  refine jd_enter hF (by decide) (fun G => [some (jd_v G (some t)), some (.int x0p)]) rfl (by simp [lv_args, jd_al, jd_v_cat, jd_cti, jd_ctl]) (by simp [lg_sl, jd_v_cat, jd_cti, jd_ctl]) (fun X hD hX => ?_)
  have hX : jd_C X RX13 "minute" cX13_minute 2 (some .int) := hX
  unfold m_X13_minute
  refine jr_ald0 (pc := 0) hX dX13_minute_0 ?_
  refine jr_iconst (pc := 1) hX 0 rfl dX13_minute_1 ?_
  refine jr_puti (pc := 2) hX fX13_48 rfl dX13_minute_2 ht ?_
  refine jr_li ?_
  refine jr_ald0 (pc := 5) hX dX13_minute_5 ?_
  refine jr_getr (pc := 6) hX fX13_289 rfl dX13_minute_6 ht ?_
  refine jr_ifnonnull (pc := 9) hX 18 dX13_minute_9 (by decide) ?_ ?_
  · refine jr_ild1 (pc := 18) hX dX13_minute_18 ?_
    refine jr_iconst (pc := 19) hX 1 rfl dX13_minute_19 ?_
    refine jr_bipush (pc := 20) hX 60 rfl dX13_minute_20 ?_
    refine jr_cS3i (pc := 22) hX lX13_131 (c_X13_in hX.F (jd_pi σ t 0 0) _ _ _) (jd_dd hD rfl) (Nat.le_of_ble_eq_true rfl) dX13_minute_22 (fun r2 σ2 p2 => ?_)
    refine jr_ifne (pc := 25) hX 34 dX13_minute_25 (by decide) ?_ ?_
    · refine jr_ald0 (pc := 34) hX dX13_minute_34 ?_
      refine jr_getr (pc := 35) hX fX13_17 rfl dX13_minute_35 (p2.at ht :) ?_
      refine jr_bipush (pc := 38) hX 8 rfl dX13_minute_38 ?_
      refine jr_iaC (pc := 40) hX dX13_minute_40 (fun a3 n3 e3 h3 => ?_)
      refine jr_ild1 (pc := 41) hX dX13_minute_41 ?_
      refine jr_iadd (pc := 42) hX dX13_minute_42 ?_
      refine jr_sipush (pc := 43) hX 999 rfl dX13_minute_43 ?_
      refine jr_icle (pc := 46) hX 55 dX13_minute_46 (by decide) ?_ ?_
      · refine jr_ald0 (pc := 55) hX dX13_minute_55 ?_
        refine jr_cV0v (pc := 56) hX lX13_431 (c_X13_remembers hX.F σ2 t (p2.at ht :)) (jd_dd hD rfl) (Nat.le_of_ble_eq_true rfl) dX13_minute_56 (p2.at ht :) (fun r4 σ4 p4 => ?_)
        refine jr_ald0 (pc := 59) hX dX13_minute_59 ?_
        refine jr_getr (pc := 60) hX fX13_17 rfl dX13_minute_60 (p4.at (p2.at ht :) :) ?_
        refine jr_bipush (pc := 63) hX 8 rfl dX13_minute_63 ?_
        refine jr_dup2 (pc := 65) hX rfl (jd_v_cat _ _) dX13_minute_65 ?_
        refine jr_iaC (pc := 66) hX dX13_minute_66 (fun a5 n5 e5 h5 => ?_)
        refine jr_ild1 (pc := 67) hX dX13_minute_67 ?_
        refine jr_iadd (pc := 68) hX dX13_minute_68 ?_
        refine jr_iaS (pc := 69) hX dX13_minute_69 (fun a6 n6 e6 h6 => ?_)
        refine jr_li ?_
        refine jr_ald0 (pc := 70) hX dX13_minute_70 ?_
        refine jr_cV0v (pc := 71) hX lX13_324 (c_X13_works hX.F (jd_pi σ4 a6 ((8 : Int32).toNatClampNeg) ((σ4.2.1 a5 ((8 : Int32).toNatClampNeg)) + x0p)) t (p4.at (p2.at ht :) :)) (jd_dd hD rfl) (Nat.le_of_ble_eq_true rfl) dX13_minute_71 (p4.at (p2.at ht :) :) (fun r8 σ8 p8 => ?_)
        refine jr_ald0 (pc := 74) hX dX13_minute_74 ?_
        refine jr_ald0 (pc := 75) hX dX13_minute_75 ?_
        refine jr_ald0 (pc := 76) hX dX13_minute_76 ?_
        refine jr_getr (pc := 77) hX fX13_17 rfl dX13_minute_77 (p8.at (p4.at (p2.at ht :) :) :) ?_
        refine jr_bipush (pc := 80) hX 8 rfl dX13_minute_80 ?_
        refine jr_iaC (pc := 82) hX dX13_minute_82 (fun a9 n9 e9 h9 => ?_)
        refine jr_cV1i (pc := 83) hX lX13_330 (c_X13_underAt hX.F σ8 t (p8.at (p4.at (p2.at ht :) :) :) _) (jd_dd hD rfl) (by simp [jd_v_cat, jd_cti, jd_ctl]) dX13_minute_83 (p8.at (p4.at (p2.at ht :) :) :) (fun r10 σ10 p10 => ?_)
        refine jr_cV1i (pc := 86) hX lX13_58 (c_X13_good hX.F σ10 t (p10.at (p8.at (p4.at (p2.at ht :) :) :) :) _) (jd_dd hD rfl) (Nat.le_of_ble_eq_true rfl) dX13_minute_86 (p10.at (p8.at (p4.at (p2.at ht :) :) :) :) (fun r11 σ11 p11 => ?_)
        exact jr_iret (pc := 89) hX dX13_minute_89 rfl
      · refine jr_ald0 (pc := 49) hX dX13_minute_49 ?_
        refine jr_iconst (pc := 50) hX 3 rfl dX13_minute_50 ?_
        refine jr_cV1i (pc := 51) hX lX13_54 (c_X13_refused hX.F σ2 t (p2.at ht :) _) (jd_dd hD rfl) (Nat.le_of_ble_eq_true rfl) dX13_minute_51 (p2.at ht :) (fun r12 σ12 p12 => ?_)
        exact jr_iret (pc := 54) hX dX13_minute_54 rfl
    · refine jr_ald0 (pc := 28) hX dX13_minute_28 ?_
      refine jr_iconst (pc := 29) hX 2 rfl dX13_minute_29 ?_
      refine jr_cV1i (pc := 30) hX lX13_54 (c_X13_refused hX.F σ2 t (p2.at ht :) _) (jd_dd hD rfl) (Nat.le_of_ble_eq_true rfl) dX13_minute_30 (p2.at ht :) (fun r13 σ13 p13 => ?_)
      exact jr_iret (pc := 33) hX dX13_minute_33 rfl
  · refine jr_ald0 (pc := 12) hX dX13_minute_12 ?_
    refine jr_iconst (pc := 13) hX 1 rfl dX13_minute_13 ?_
    refine jr_cV1i (pc := 14) hX lX13_54 (c_X13_refused hX.F (jd_pi σ t 0 0) t ht _) (jd_dd hD rfl) (Nat.le_of_ble_eq_true rfl) dX13_minute_14 ht (fun r14 σ14 p14 => ?_)
    exact jr_iret (pc := 17) hX dX13_minute_17 rfl
def m_X13_lift (t : Nat) (x0p : Int32) (σ : jd_Hp) : Option (Int32 × jd_Hp) :=
jd_li (jd_pi σ t 0 0) fun τ1 =>
jd_b (m_X13_isPerson t x0p τ1) fun r2 σ2 =>
jd_if (¬ r2 = 0) (
jd_b (m_X13_works t σ2) fun r3 σ3 =>
jd_ia σ3 20 (σ3.2.2.2 t 15) 8 fun a4 j4 =>
jd_b (m_X13_underAt t (σ3.2.1 a4 j4) σ3) fun r5 σ5 =>
jd_b (m_X13_bit r5 x0p σ5) fun r6 σ6 =>
jd_if (¬ r6 = 0) (
jd_b (m_X13_nearestTo t x0p σ6) fun r7 σ7 =>
jd_if (r7 = (-2)) (
jd_b (m_X13_refused t 6 σ7) fun r8 σ8 =>
some (r8, σ8)) (
jd_b (m_X13_timeTo t r7 x0p σ7) fun r9 σ9 =>
jd_o σ9 (12, 20) (σ9.2.2.2 t 3) fun a10 =>
jd_if (r9 ≤ (σ9.2.1 a10 0)) (
jd_b (m_X13_remembers t σ9) fun r11 σ11 =>
jd_ia σ11 20 (σ11.2.2.2 t 15) 7 fun a12 j12 =>
jd_ia σ11 20 (σ11.2.2.2 t 15) 7 fun a13 j13 =>
jd_li (jd_pi σ11 a13 j13 ((σ11.2.1 a12 j12) ||| (1 <<< (x0p &&& 31)))) fun τ14 =>
jd_b (m_X13_good t r7 τ14) fun r15 σ15 =>
some (r15, σ15)) (
jd_b (m_X13_refused t 6 σ9) fun r16 σ16 =>
some (r16, σ16)))) (
jd_b (m_X13_refused t 5 σ6) fun r17 σ17 =>
some (r17, σ17))) (
jd_b (m_X13_refused t 1 σ2) fun r18 σ18 =>
some (r18, σ18))
set_option maxHeartbeats 4000000 in
set_option maxRecDepth 20000 in
theorem c_X13_lift {l : Launch} {s0 : State} {G : jd_G} (hF : jd_F s0 G) (σ : jd_Hp) (t : Nat) (ht : σ.1[t]? = some (13, 29)) (x0p : Int32) : jd_M l s0 G yX13_lift cX13_lift 3 (some .int) 4 je_i [jd_v G (some t), .int x0p] σ (m_X13_lift t x0p σ) := by
  refine jd_enter hF (by decide) (fun G => [some (jd_v G (some t)), some (.int x0p), none]) rfl (by simp [lv_args, jd_al, jd_v_cat, jd_cti, jd_ctl]) (by simp [lg_sl, jd_v_cat, jd_cti, jd_ctl]) (fun X hD hX => ?_)
  have hX : jd_C X RX13 "lift" cX13_lift 3 (some .int) := hX
  unfold m_X13_lift
  refine jr_ald0 (pc := 0) hX dX13_lift_0 ?_
  refine jr_iconst (pc := 1) hX 0 rfl dX13_lift_1 ?_
  refine jr_puti (pc := 2) hX fX13_48 rfl dX13_lift_2 ht ?_
  refine jr_li ?_
  refine jr_ald0 (pc := 5) hX dX13_lift_5 ?_
  refine jr_ild1 (pc := 6) hX dX13_lift_6 ?_
  refine jr_cV1i (pc := 7) hX lX13_321 (c_X13_isPerson hX.F (jd_pi σ t 0 0) t ht _) (jd_dd hD rfl) (Nat.le_of_ble_eq_true rfl) dX13_lift_7 ht (fun r2 σ2 p2 => ?_)
  refine jr_ifne (pc := 10) hX 19 dX13_lift_10 (by decide) ?_ ?_
  · refine jr_ald0 (pc := 19) hX dX13_lift_19 ?_
    refine jr_cV0v (pc := 20) hX lX13_324 (c_X13_works hX.F σ2 t (p2.at ht :)) (jd_dd hD rfl) (Nat.le_of_ble_eq_true rfl) dX13_lift_20 (p2.at ht :) (fun r3 σ3 p3 => ?_)
    refine jr_ald0 (pc := 23) hX dX13_lift_23 ?_
    refine jr_ald0 (pc := 24) hX dX13_lift_24 ?_
    refine jr_getr (pc := 25) hX fX13_17 rfl dX13_lift_25 (p3.at (p2.at ht :) :) ?_
    refine jr_bipush (pc := 28) hX 8 rfl dX13_lift_28 ?_
    refine jr_iaC (pc := 30) hX dX13_lift_30 (fun a4 n4 e4 h4 => ?_)
    refine jr_cV1i (pc := 31) hX lX13_330 (c_X13_underAt hX.F σ3 t (p3.at (p2.at ht :) :) _) (jd_dd hD rfl) (Nat.le_of_ble_eq_true rfl) dX13_lift_31 (p3.at (p2.at ht :) :) (fun r5 σ5 p5 => ?_)
    refine jr_ild1 (pc := 34) hX dX13_lift_34 ?_
    refine jr_cS2i (pc := 35) hX lX13_267 (c_X13_bit hX.F σ5 _ _) (jd_dd hD rfl) (Nat.le_of_ble_eq_true rfl) dX13_lift_35 (fun r6 σ6 p6 => ?_)
    refine jr_ifne (pc := 38) hX 47 dX13_lift_38 (by decide) ?_ ?_
    · refine jr_ald0 (pc := 47) hX dX13_lift_47 ?_
      refine jr_ild1 (pc := 48) hX dX13_lift_48 ?_
      refine jr_cV1i (pc := 49) hX lX13_342 (c_X13_nearestTo hX.F σ6 t (p6.at (p5.at (p3.at (p2.at ht :) :) :) :) _) (jd_dd hD rfl) (Nat.le_of_ble_eq_true rfl) dX13_lift_49 (p6.at (p5.at (p3.at (p2.at ht :) :) :) :) (fun r7 σ7 p7 => ?_)
      refine jr_ist2 (pc := 52) hX (jn_i _) dX13_lift_52 ?_
      refine jr_ild2 (pc := 53) hX dX13_lift_53 ?_
      refine jr_bipush (pc := 54) hX (-2) rfl dX13_lift_54 ?_
      refine jr_iceq (pc := 56) hX 75 dX13_lift_56 (by decide) ?_ ?_
      · refine jr_ald0 (pc := 75) hX dX13_lift_75 ?_
        refine jr_bipush (pc := 76) hX 6 rfl dX13_lift_76 ?_
        refine jr_cV1i (pc := 78) hX lX13_54 (c_X13_refused hX.F σ7 t (p7.at (p6.at (p5.at (p3.at (p2.at ht :) :) :) :) :) _) (jd_dd hD rfl) (Nat.le_of_ble_eq_true rfl) dX13_lift_78 (p7.at (p6.at (p5.at (p3.at (p2.at ht :) :) :) :) :) (fun r8 σ8 p8 => ?_)
        exact jr_iret (pc := 81) hX dX13_lift_81 rfl
      · refine jr_ald0 (pc := 59) hX dX13_lift_59 ?_
        refine jr_ild2 (pc := 60) hX dX13_lift_60 ?_
        refine jr_ild1 (pc := 61) hX dX13_lift_61 ?_
        refine jr_cV2i (pc := 62) hX lX13_309 (c_X13_timeTo hX.F σ7 t (p7.at (p6.at (p5.at (p3.at (p2.at ht :) :) :) :) :) _ _) (jd_dd hD rfl) (Nat.le_of_ble_eq_true rfl) dX13_lift_62 (p7.at (p6.at (p5.at (p3.at (p2.at ht :) :) :) :) :) (fun r9 σ9 p9 => ?_)
        refine jr_ald0 (pc := 65) hX dX13_lift_65 ?_
        refine jr_getr (pc := 66) hX fX13_289 rfl dX13_lift_66 (p9.at (p7.at (p6.at (p5.at (p3.at (p2.at ht :) :) :) :) :) :) ?_
        refine jr_ck0 (fun a10 e10 h10 => ?_)
        refine jr_getiN (pc := 69) hX fX13_153 rfl dX13_lift_69 h10 ?_
        refine jr_icle (pc := 72) hX 82 dX13_lift_72 (by decide) ?_ ?_
        · refine jr_ald0 (pc := 82) hX dX13_lift_82 ?_
          refine jr_cV0v (pc := 83) hX lX13_431 (c_X13_remembers hX.F σ9 t (p9.at (p7.at (p6.at (p5.at (p3.at (p2.at ht :) :) :) :) :) :)) (jd_dd hD rfl) (Nat.le_of_ble_eq_true rfl) dX13_lift_83 (p9.at (p7.at (p6.at (p5.at (p3.at (p2.at ht :) :) :) :) :) :) (fun r11 σ11 p11 => ?_)
          refine jr_ald0 (pc := 86) hX dX13_lift_86 ?_
          refine jr_getr (pc := 87) hX fX13_17 rfl dX13_lift_87 (p11.at (p9.at (p7.at (p6.at (p5.at (p3.at (p2.at ht :) :) :) :) :) :) :) ?_
          refine jr_bipush (pc := 90) hX 7 rfl dX13_lift_90 ?_
          refine jr_dup2 (pc := 92) hX rfl (jd_v_cat _ _) dX13_lift_92 ?_
          refine jr_iaC (pc := 93) hX dX13_lift_93 (fun a12 n12 e12 h12 => ?_)
          refine jr_iconst (pc := 94) hX 1 rfl dX13_lift_94 ?_
          refine jr_ild1 (pc := 95) hX dX13_lift_95 ?_
          refine jr_ishl (pc := 96) hX dX13_lift_96 ?_
          refine jr_ior (pc := 97) hX dX13_lift_97 ?_
          refine jr_iaS (pc := 98) hX dX13_lift_98 (fun a13 n13 e13 h13 => ?_)
          refine jr_li ?_
          refine jr_ald0 (pc := 99) hX dX13_lift_99 ?_
          refine jr_ild2 (pc := 100) hX dX13_lift_100 ?_
          refine jr_cV1i (pc := 101) hX lX13_58 (c_X13_good hX.F (jd_pi σ11 a13 ((7 : Int32).toNatClampNeg) ((σ11.2.1 a12 ((7 : Int32).toNatClampNeg)) ||| (1 <<< (x0p &&& 31)))) t (p11.at (p9.at (p7.at (p6.at (p5.at (p3.at (p2.at ht :) :) :) :) :) :) :) _) (jd_dd hD rfl) (Nat.le_of_ble_eq_true rfl) dX13_lift_101 (p11.at (p9.at (p7.at (p6.at (p5.at (p3.at (p2.at ht :) :) :) :) :) :) :) (fun r15 σ15 p15 => ?_)
          exact jr_iret (pc := 104) hX dX13_lift_104 rfl
        · refine jr_ald0 (pc := 75) hX dX13_lift_75 ?_
          refine jr_bipush (pc := 76) hX 6 rfl dX13_lift_76 ?_
          refine jr_cV1i (pc := 78) hX lX13_54 (c_X13_refused hX.F σ9 t (p9.at (p7.at (p6.at (p5.at (p3.at (p2.at ht :) :) :) :) :) :) _) (jd_dd hD rfl) (Nat.le_of_ble_eq_true rfl) dX13_lift_78 (p9.at (p7.at (p6.at (p5.at (p3.at (p2.at ht :) :) :) :) :) :) (fun r16 σ16 p16 => ?_)
          exact jr_iret (pc := 81) hX dX13_lift_81 rfl
    · refine jr_ald0 (pc := 41) hX dX13_lift_41 ?_
      refine jr_iconst (pc := 42) hX 5 rfl dX13_lift_42 ?_
      refine jr_cV1i (pc := 43) hX lX13_54 (c_X13_refused hX.F σ6 t (p6.at (p5.at (p3.at (p2.at ht :) :) :) :) _) (jd_dd hD rfl) (Nat.le_of_ble_eq_true rfl) dX13_lift_43 (p6.at (p5.at (p3.at (p2.at ht :) :) :) :) (fun r17 σ17 p17 => ?_)
      exact jr_iret (pc := 46) hX dX13_lift_46 rfl
  · refine jr_ald0 (pc := 13) hX dX13_lift_13 ?_
    refine jr_iconst (pc := 14) hX 1 rfl dX13_lift_14 ?_
    refine jr_cV1i (pc := 15) hX lX13_54 (c_X13_refused hX.F σ2 t (p2.at ht :) _) (jd_dd hD rfl) (Nat.le_of_ble_eq_true rfl) dX13_lift_15 (p2.at ht :) (fun r18 σ18 p18 => ?_)
    exact jr_iret (pc := 18) hX dX13_lift_18 rfl
