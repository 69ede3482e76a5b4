theorem lX4_3 : jd_oi RX4 3 := ⟨jd_mem 210 (by decide +kernel) (by decide +kernel), jd_mem 122 (by decide +kernel) (by decide +kernel), jd_mem 123 (by decide +kernel) (by decide +kernel)⟩
theorem fX4_9 : jd_fl RX4 9 4 0 4 true := ⟨_, _, rfl, by decide, by decide, rfl, rfl, jd_mem 211 (by decide +kernel) (by decide +kernel)⟩
theorem fX4_15 : jd_fl RX4 15 4 1 4 false := ⟨_, _, rfl, by decide, by decide, rfl, rfl, jd_mem 214 (by decide +kernel) (by decide +kernel)⟩
theorem fX4_19 : jd_fl RX4 19 4 2 4 false := ⟨_, _, rfl, by decide, by decide, rfl, rfl, jd_mem 217 (by decide +kernel) (by decide +kernel)⟩
theorem fX4_22 : jd_fl RX4 22 4 3 4 false := ⟨_, _, rfl, by decide, by decide, rfl, rfl, jd_mem 221 (by decide +kernel) (by decide +kernel)⟩
theorem lX2_3 : jd_oi RX2 3 := ⟨jd_mem 371 (by decide +kernel) (by decide +kernel), jd_mem 122 (by decide +kernel) (by decide +kernel), jd_mem 123 (by decide +kernel) (by decide +kernel)⟩
theorem naX2_9 : Cond.classLink RX2 9 RX4 ∈ jd_TB := jd_mem 372 (by decide +kernel) (by decide +kernel)
theorem aO_4 : Cond.arrayOver (.object RX4) ∈ lw_tbl := List.mem_of_getElem? (i := 373) (by decide +kernel)
theorem fX2_11 : jd_fl RX2 11 2 0 5 true := ⟨_, _, rfl, by decide, by decide, rfl, rfl, jd_mem 375 (by decide +kernel) (by decide +kernel)⟩
theorem fX2_17 : jd_fl RX2 17 2 1 5 true := ⟨_, _, rfl, by decide, by decide, rfl, rfl, jd_mem 376 (by decide +kernel) (by decide +kernel)⟩
theorem fX2_20 : jd_fl RX2 20 2 2 5 false := ⟨_, _, rfl, by decide, by decide, rfl, rfl, jd_mem 377 (by decide +kernel) (by decide +kernel)⟩
theorem fX2_24 : jd_fl RX2 24 2 3 5 false := ⟨_, _, rfl, by decide, by decide, rfl, rfl, jd_mem 378 (by decide +kernel) (by decide +kernel)⟩
theorem fX2_27 : jd_fl RX2 27 2 4 5 false := ⟨_, _, rfl, by decide, by decide, rfl, rfl, jd_mem 380 (by decide +kernel) (by decide +kernel)⟩
theorem nX2_9 : jd_cr RX2 9 4 4 := ⟨_, _, rfl, by decide, jd_mem 372 (by decide +kernel) (by decide +kernel), jd_mem 206 (by decide +kernel) (by decide +kernel), jd_mem 96 (by decide +kernel) (by decide +kernel)⟩
theorem qX4_init : Cond.instanceMethod yX4_init ∈ jd_TB ∧ Cond.initialized yX4_init.cls ∈ jd_TB ∧ Cond.code yX4_init cX4_init 1 none ∈ jd_TB ∧ jd_ds yX4_init 0 := ⟨jd_mem 208 (by decide +kernel) (by decide +kernel), jd_mem 96 (by decide +kernel) (by decide +kernel), jd_mem 209 (by decide +kernel) (by decide +kernel), ⟨by decide, by decide, by decide +kernel⟩⟩
theorem lX2_30 : jd_sp RX2 30 yX4_init cX4_init 1 0 := ⟨Or.inr ⟨"ShoreGuards", List.mem_of_getElem? (i := 374) (by decide +kernel)⟩, qX4_init.1, qX4_init.2.1, qX4_init.2.2.1, qX4_init.2.2.2, by decide, rfl⟩
theorem qX4_copy : Cond.instanceMethod yX4_copy ∈ jd_TB ∧ Cond.selects RX4 yX4_copy yX4_copy ∈ jd_TB ∧ Cond.initialized RX4 ∈ jd_TB ∧ Cond.code yX4_copy cX4_copy 3 none ∈ jd_TB ∧ jd_ds yX4_copy 1 := ⟨jd_mem 1146 (by decide +kernel) (by decide +kernel), jd_mem 1147 (by decide +kernel) (by decide +kernel), jd_mem 96 (by decide +kernel) (by decide +kernel), jd_mem 1148 (by decide +kernel) (by decide +kernel), ⟨by decide, by decide, by decide +kernel⟩⟩
theorem lX2_31 : jd_mv RX2 31 4 4 yX4_copy cX4_copy 3 none 1 := ⟨_, _, rfl, by decide, rfl, Or.inl (jd_mem 1145 (by decide +kernel) (by decide +kernel)), qX4_copy.1, qX4_copy.2.1, qX4_copy.2.2.1, qX4_copy.2.2.2.1, qX4_copy.2.2.2.2, by decide⟩
theorem lX2_35 : jd_ms RX2 35 Lib.Math.min.name Lib.Math.min.code 2 := ⟨jd_mem 1149 (by decide +kernel) (by decide +kernel), jd_mem 547 (by decide +kernel) (by decide +kernel), jd_mem 105 (by decide +kernel) (by decide +kernel), jd_mem 548 (by decide +kernel) (by decide +kernel)⟩
theorem lX3_1 : jd_oi RX3 1 := ⟨jd_mem 473 (by decide +kernel) (by decide +kernel), jd_mem 122 (by decide +kernel) (by decide +kernel), jd_mem 123 (by decide +kernel) (by decide +kernel)⟩
theorem fX4_25 : jd_fl RX4 25 10 1 16 true := ⟨_, _, rfl, by decide, by decide, rfl, rfl, jd_mem 244 (by decide +kernel) (by decide +kernel)⟩
theorem fX4_28 : jd_fl RX4 28 10 13 16 false := ⟨_, _, rfl, by decide, by decide, rfl, rfl, jd_mem 287 (by decide +kernel) (by decide +kernel)⟩
theorem lX5_3 : jd_oi RX5 3 := ⟨jd_mem 420 (by decide +kernel) (by decide +kernel), jd_mem 122 (by decide +kernel) (by decide +kernel), jd_mem 123 (by decide +kernel) (by decide +kernel)⟩
theorem fX5_9 : jd_fl RX5 9 5 0 4 true := ⟨_, _, rfl, by decide, by decide, rfl, rfl, jd_mem 421 (by decide +kernel) (by decide +kernel)⟩
theorem fX5_15 : jd_fl RX5 15 5 1 4 true := ⟨_, _, rfl, by decide, by decide, rfl, rfl, jd_mem 423 (by decide +kernel) (by decide +kernel)⟩
theorem fX5_18 : jd_fl RX5 18 5 2 4 true := ⟨_, _, rfl, by decide, by decide, rfl, rfl, jd_mem 424 (by decide +kernel) (by decide +kernel)⟩
theorem fX5_21 : jd_fl RX5 21 5 3 4 false := ⟨_, _, rfl, by decide, by decide, rfl, rfl, jd_mem 425 (by decide +kernel) (by decide +kernel)⟩
theorem dX4_init_0 : decode cX4_init 0 = .ok (.aload_n 0, 1) := by decide +kernel
theorem dX4_init_1 : decode cX4_init 1 = .ok (.invokespecial 3, 3) := by decide +kernel
theorem dX4_init_4 : decode cX4_init 4 = .ok (.aload_n 0, 1) := by decide +kernel
theorem dX4_init_5 : decode cX4_init 5 = .ok (.bipush 6, 2) := by decide +kernel
theorem dX4_init_7 : decode cX4_init 7 = .ok (.newarray .int, 2) := by decide +kernel
theorem dX4_init_9 : decode cX4_init 9 = .ok (.putfield 9, 3) := by decide +kernel
theorem dX4_init_12 : decode cX4_init 12 = .ok (.aload_n 0, 1) := by decide +kernel
theorem dX4_init_13 : decode cX4_init 13 = .ok (.iconst 0, 1) := by decide +kernel
theorem dX4_init_14 : decode cX4_init 14 = .ok (.putfield 15, 3) := by decide +kernel
theorem dX4_init_17 : decode cX4_init 17 = .ok (.aload_n 0, 1) := by decide +kernel
theorem dX4_init_18 : decode cX4_init 18 = .ok (.iconst 0, 1) := by decide +kernel
theorem dX4_init_19 : decode cX4_init 19 = .ok (.putfield 19, 3) := by decide +kernel
theorem dX4_init_22 : decode cX4_init 22 = .ok (.aload_n 0, 1) := by decide +kernel
theorem dX4_init_23 : decode cX4_init 23 = .ok (.iconst 0, 1) := by decide +kernel
theorem dX4_init_24 : decode cX4_init 24 = .ok (.putfield 22, 3) := by decide +kernel
theorem dX4_init_27 : decode cX4_init 27 = .ok (.return_, 1) := by decide +kernel
theorem dX2_init_0 : decode cX2_init 0 = .ok (.aload_n 0, 1) := by decide +kernel
theorem dX2_init_1 : decode cX2_init 1 = .ok (.invokespecial 3, 3) := by decide +kernel
theorem dX2_init_4 : decode cX2_init 4 = .ok (.aload_n 0, 1) := by decide +kernel
theorem dX2_init_5 : decode cX2_init 5 = .ok (.bipush 16, 2) := by decide +kernel
theorem dX2_init_7 : decode cX2_init 7 = .ok (.anewarray 9, 3) := by decide +kernel
theorem dX2_init_10 : decode cX2_init 10 = .ok (.putfield 11, 3) := by decide +kernel
theorem dX2_init_13 : decode cX2_init 13 = .ok (.aload_n 0, 1) := by decide +kernel
theorem dX2_init_14 : decode cX2_init 14 = .ok (.iconst 3, 1) := by decide +kernel
theorem dX2_init_15 : decode cX2_init 15 = .ok (.anewarray 9, 3) := by decide +kernel
theorem dX2_init_18 : decode cX2_init 18 = .ok (.putfield 17, 3) := by decide +kernel
theorem dX2_init_21 : decode cX2_init 21 = .ok (.aload_n 0, 1) := by decide +kernel
theorem dX2_init_22 : decode cX2_init 22 = .ok (.iconst 0, 1) := by decide +kernel
theorem dX2_init_23 : decode cX2_init 23 = .ok (.putfield 20, 3) := by decide +kernel
theorem dX2_init_26 : decode cX2_init 26 = .ok (.aload_n 0, 1) := by decide +kernel
theorem dX2_init_27 : decode cX2_init 27 = .ok (.iconst 0, 1) := by decide +kernel
theorem dX2_init_28 : decode cX2_init 28 = .ok (.putfield 24, 3) := by decide +kernel
theorem dX2_init_31 : decode cX2_init 31 = .ok (.aload_n 0, 1) := by decide +kernel
theorem dX2_init_32 : decode cX2_init 32 = .ok (.iconst 0, 1) := by decide +kernel
theorem dX2_init_33 : decode cX2_init 33 = .ok (.putfield 27, 3) := by decide +kernel
theorem dX2_init_36 : decode cX2_init 36 = .ok (.iconst 0, 1) := by decide +kernel
theorem dX2_init_37 : decode cX2_init 37 = .ok (.istore_n 1, 1) := by decide +kernel
theorem dX2_init_38 : decode cX2_init 38 = .ok (.iload_n 1, 1) := by decide +kernel
theorem dX2_init_39 : decode cX2_init 39 = .ok (.bipush 16, 2) := by decide +kernel
theorem dX2_init_41 : decode cX2_init 41 = .ok (.if_icmp .ge 22, 3) := by decide +kernel
theorem dX2_init_44 : decode cX2_init 44 = .ok (.aload_n 0, 1) := by decide +kernel
theorem dX2_init_45 : decode cX2_init 45 = .ok (.getfield 11, 3) := by decide +kernel
theorem dX2_init_48 : decode cX2_init 48 = .ok (.iload_n 1, 1) := by decide +kernel
theorem dX2_init_49 : decode cX2_init 49 = .ok (.new 9, 3) := by decide +kernel
theorem dX2_init_52 : decode cX2_init 52 = .ok (.dup, 1) := by decide +kernel
theorem dX2_init_53 : decode cX2_init 53 = .ok (.invokespecial 30, 3) := by decide +kernel
theorem dX2_init_56 : decode cX2_init 56 = .ok (.aastore, 1) := by decide +kernel
theorem dX2_init_57 : decode cX2_init 57 = .ok (.iinc 1 1, 3) := by decide +kernel
theorem dX2_init_60 : decode cX2_init 60 = .ok (.goto (-22), 3) := by decide +kernel
theorem dX2_init_63 : decode cX2_init 63 = .ok (.iconst 0, 1) := by decide +kernel
theorem dX2_init_64 : decode cX2_init 64 = .ok (.istore_n 1, 1) := by decide +kernel
theorem dX2_init_65 : decode cX2_init 65 = .ok (.iload_n 1, 1) := by decide +kernel
theorem dX2_init_66 : decode cX2_init 66 = .ok (.iconst 3, 1) := by decide +kernel
theorem dX2_init_67 : decode cX2_init 67 = .ok (.if_icmp .ge 22, 3) := by decide +kernel
theorem dX2_init_70 : decode cX2_init 70 = .ok (.aload_n 0, 1) := by decide +kernel
theorem dX2_init_71 : decode cX2_init 71 = .ok (.getfield 17, 3) := by decide +kernel
theorem dX2_init_74 : decode cX2_init 74 = .ok (.iload_n 1, 1) := by decide +kernel
theorem dX2_init_75 : decode cX2_init 75 = .ok (.new 9, 3) := by decide +kernel
theorem dX2_init_78 : decode cX2_init 78 = .ok (.dup, 1) := by decide +kernel
theorem dX2_init_79 : decode cX2_init 79 = .ok (.invokespecial 30, 3) := by decide +kernel
theorem dX2_init_82 : decode cX2_init 82 = .ok (.aastore, 1) := by decide +kernel
theorem dX2_init_83 : decode cX2_init 83 = .ok (.iinc 1 1, 3) := by decide +kernel
theorem dX2_init_86 : decode cX2_init 86 = .ok (.goto (-21), 3) := by decide +kernel
theorem dX2_init_89 : decode cX2_init 89 = .ok (.return_, 1) := by decide +kernel
theorem dX2_forget_0 : decode cX2_forget 0 = .ok (.aload_n 0, 1) := by decide +kernel
theorem dX2_forget_1 : decode cX2_forget 1 = .ok (.iconst 0, 1) := by decide +kernel
theorem dX2_forget_2 : decode cX2_forget 2 = .ok (.putfield 24, 3) := by decide +kernel
theorem dX2_forget_5 : decode cX2_forget 5 = .ok (.aload_n 0, 1) := by decide +kernel
theorem dX2_forget_6 : decode cX2_forget 6 = .ok (.iconst 0, 1) := by decide +kernel
theorem dX2_forget_7 : decode cX2_forget 7 = .ok (.putfield 27, 3) := by decide +kernel
theorem dX2_forget_10 : decode cX2_forget 10 = .ok (.return_, 1) := by decide +kernel
theorem dX4_copy_0 : decode cX4_copy 0 = .ok (.iconst 0, 1) := by decide +kernel
theorem dX4_copy_1 : decode cX4_copy 1 = .ok (.istore_n 2, 1) := by decide +kernel
theorem dX4_copy_2 : decode cX4_copy 2 = .ok (.iload_n 2, 1) := by decide +kernel
theorem dX4_copy_3 : decode cX4_copy 3 = .ok (.bipush 6, 2) := by decide +kernel
theorem dX4_copy_5 : decode cX4_copy 5 = .ok (.if_icmp .ge 21, 3) := by decide +kernel
theorem dX4_copy_8 : decode cX4_copy 8 = .ok (.aload_n 0, 1) := by decide +kernel
theorem dX4_copy_9 : decode cX4_copy 9 = .ok (.getfield 9, 3) := by decide +kernel
theorem dX4_copy_12 : decode cX4_copy 12 = .ok (.iload_n 2, 1) := by decide +kernel
theorem dX4_copy_13 : decode cX4_copy 13 = .ok (.aload_n 1, 1) := by decide +kernel
theorem dX4_copy_14 : decode cX4_copy 14 = .ok (.getfield 9, 3) := by decide +kernel
theorem dX4_copy_17 : decode cX4_copy 17 = .ok (.iload_n 2, 1) := by decide +kernel
theorem dX4_copy_18 : decode cX4_copy 18 = .ok (.iaload, 1) := by decide +kernel
theorem dX4_copy_19 : decode cX4_copy 19 = .ok (.iastore, 1) := by decide +kernel
theorem dX4_copy_20 : decode cX4_copy 20 = .ok (.iinc 2 1, 3) := by decide +kernel
theorem dX4_copy_23 : decode cX4_copy 23 = .ok (.goto (-21), 3) := by decide +kernel
theorem dX4_copy_26 : decode cX4_copy 26 = .ok (.aload_n 0, 1) := by decide +kernel
theorem dX4_copy_27 : decode cX4_copy 27 = .ok (.aload_n 1, 1) := by decide +kernel
theorem dX4_copy_28 : decode cX4_copy 28 = .ok (.getfield 15, 3) := by decide +kernel
theorem dX4_copy_31 : decode cX4_copy 31 = .ok (.putfield 15, 3) := by decide +kernel
theorem dX4_copy_34 : decode cX4_copy 34 = .ok (.aload_n 0, 1) := by decide +kernel
theorem dX4_copy_35 : decode cX4_copy 35 = .ok (.aload_n 1, 1) := by decide +kernel
theorem dX4_copy_36 : decode cX4_copy 36 = .ok (.getfield 19, 3) := by decide +kernel
theorem dX4_copy_39 : decode cX4_copy 39 = .ok (.putfield 19, 3) := by decide +kernel
theorem dX4_copy_42 : decode cX4_copy 42 = .ok (.aload_n 0, 1) := by decide +kernel
theorem dX4_copy_43 : decode cX4_copy 43 = .ok (.aload_n 1, 1) := by decide +kernel
theorem dX4_copy_44 : decode cX4_copy 44 = .ok (.getfield 22, 3) := by decide +kernel
theorem dX4_copy_47 : decode cX4_copy 47 = .ok (.putfield 22, 3) := by decide +kernel
theorem dX4_copy_50 : decode cX4_copy 50 = .ok (.return_, 1) := by decide +kernel
theorem dX2_keep_0 : decode cX2_keep 0 = .ok (.aload_n 0, 1) := by decide +kernel
theorem dX2_keep_1 : decode cX2_keep 1 = .ok (.aload_n 0, 1) := by decide +kernel
theorem dX2_keep_2 : decode cX2_keep 2 = .ok (.getfield 20, 3) := by decide +kernel
theorem dX2_keep_5 : decode cX2_keep 5 = .ok (.iconst 1, 1) := by decide +kernel
theorem dX2_keep_6 : decode cX2_keep 6 = .ok (.iadd, 1) := by decide +kernel
theorem dX2_keep_7 : decode cX2_keep 7 = .ok (.bipush 16, 2) := by decide +kernel
theorem dX2_keep_9 : decode cX2_keep 9 = .ok (.if_icmp .ge 12, 3) := by decide +kernel
theorem dX2_keep_12 : decode cX2_keep 12 = .ok (.aload_n 0, 1) := by decide +kernel
theorem dX2_keep_13 : decode cX2_keep 13 = .ok (.getfield 20, 3) := by decide +kernel
theorem dX2_keep_16 : decode cX2_keep 16 = .ok (.iconst 1, 1) := by decide +kernel
theorem dX2_keep_17 : decode cX2_keep 17 = .ok (.iadd, 1) := by decide +kernel
theorem dX2_keep_18 : decode cX2_keep 18 = .ok (.goto 4, 3) := by decide +kernel
theorem dX2_keep_21 : decode cX2_keep 21 = .ok (.iconst 0, 1) := by decide +kernel
theorem dX2_keep_22 : decode cX2_keep 22 = .ok (.putfield 20, 3) := by decide +kernel
theorem dX2_keep_25 : decode cX2_keep 25 = .ok (.aload_n 0, 1) := by decide +kernel
theorem dX2_keep_26 : decode cX2_keep 26 = .ok (.getfield 11, 3) := by decide +kernel
theorem dX2_keep_29 : decode cX2_keep 29 = .ok (.aload_n 0, 1) := by decide +kernel
theorem dX2_keep_30 : decode cX2_keep 30 = .ok (.getfield 20, 3) := by decide +kernel
theorem dX2_keep_33 : decode cX2_keep 33 = .ok (.aaload, 1) := by decide +kernel
theorem dX2_keep_34 : decode cX2_keep 34 = .ok (.aload_n 1, 1) := by decide +kernel
theorem dX2_keep_35 : decode cX2_keep 35 = .ok (.invokevirtual 31, 3) := by decide +kernel
theorem dX2_keep_38 : decode cX2_keep 38 = .ok (.aload_n 0, 1) := by decide +kernel
theorem dX2_keep_39 : decode cX2_keep 39 = .ok (.aload_n 0, 1) := by decide +kernel
theorem dX2_keep_40 : decode cX2_keep 40 = .ok (.getfield 24, 3) := by decide +kernel
theorem dX2_keep_43 : decode cX2_keep 43 = .ok (.iconst 1, 1) := by decide +kernel
theorem dX2_keep_44 : decode cX2_keep 44 = .ok (.iadd, 1) := by decide +kernel
theorem dX2_keep_45 : decode cX2_keep 45 = .ok (.bipush 16, 2) := by decide +kernel
theorem dX2_keep_47 : decode cX2_keep 47 = .ok (.invokestatic 35, 3) := by decide +kernel
theorem dX2_keep_50 : decode cX2_keep 50 = .ok (.putfield 24, 3) := by decide +kernel
theorem dX2_keep_53 : decode cX2_keep 53 = .ok (.return_, 1) := by decide +kernel
theorem dX2_takeBack_0 : decode cX2_takeBack 0 = .ok (.aload_n 0, 1) := by decide +kernel
theorem dX2_takeBack_1 : decode cX2_takeBack 1 = .ok (.getfield 24, 3) := by decide +kernel
theorem dX2_takeBack_4 : decode cX2_takeBack 4 = .ok (.ifCond .gt 5, 3) := by decide +kernel
theorem dX2_takeBack_7 : decode cX2_takeBack 7 = .ok (.iconst 0, 1) := by decide +kernel
theorem dX2_takeBack_8 : decode cX2_takeBack 8 = .ok (.ireturn, 1) := by decide +kernel
theorem dX2_takeBack_9 : decode cX2_takeBack 9 = .ok (.aload_n 1, 1) := by decide +kernel
theorem dX2_takeBack_10 : decode cX2_takeBack 10 = .ok (.aload_n 0, 1) := by decide +kernel
theorem dX2_takeBack_11 : decode cX2_takeBack 11 = .ok (.getfield 11, 3) := by decide +kernel
theorem dX2_takeBack_14 : decode cX2_takeBack 14 = .ok (.aload_n 0, 1) := by decide +kernel
theorem dX2_takeBack_15 : decode cX2_takeBack 15 = .ok (.getfield 20, 3) := by decide +kernel
theorem dX2_takeBack_18 : decode cX2_takeBack 18 = .ok (.aaload, 1) := by decide +kernel
theorem dX2_takeBack_19 : decode cX2_takeBack 19 = .ok (.invokevirtual 31, 3) := by decide +kernel
theorem dX2_takeBack_22 : decode cX2_takeBack 22 = .ok (.aload_n 0, 1) := by decide +kernel
theorem dX2_takeBack_23 : decode cX2_takeBack 23 = .ok (.aload_n 0, 1) := by decide +kernel
theorem dX2_takeBack_24 : decode cX2_takeBack 24 = .ok (.getfield 20, 3) := by decide +kernel
theorem dX2_takeBack_27 : decode cX2_takeBack 27 = .ok (.ifCond .le 12, 3) := by decide +kernel
theorem dX2_takeBack_30 : decode cX2_takeBack 30 = .ok (.aload_n 0, 1) := by decide +kernel
theorem dX2_takeBack_31 : decode cX2_takeBack 31 = .ok (.getfield 20, 3) := by decide +kernel
theorem dX2_takeBack_34 : decode cX2_takeBack 34 = .ok (.iconst 1, 1) := by decide +kernel
theorem dX2_takeBack_35 : decode cX2_takeBack 35 = .ok (.isub, 1) := by decide +kernel
theorem dX2_takeBack_36 : decode cX2_takeBack 36 = .ok (.goto 5, 3) := by decide +kernel
theorem dX2_takeBack_39 : decode cX2_takeBack 39 = .ok (.bipush 15, 2) := by decide +kernel
theorem dX2_takeBack_41 : decode cX2_takeBack 41 = .ok (.putfield 20, 3) := by decide +kernel
theorem dX2_takeBack_44 : decode cX2_takeBack 44 = .ok (.aload_n 0, 1) := by decide +kernel
theorem dX2_takeBack_45 : decode cX2_takeBack 45 = .ok (.dup, 1) := by decide +kernel
theorem dX2_takeBack_46 : decode cX2_takeBack 46 = .ok (.getfield 24, 3) := by decide +kernel
theorem dX2_takeBack_49 : decode cX2_takeBack 49 = .ok (.iconst 1, 1) := by decide +kernel
theorem dX2_takeBack_50 : decode cX2_takeBack 50 = .ok (.isub, 1) := by decide +kernel
theorem dX2_takeBack_51 : decode cX2_takeBack 51 = .ok (.putfield 24, 3) := by decide +kernel
theorem dX2_takeBack_54 : decode cX2_takeBack 54 = .ok (.iconst 1, 1) := by decide +kernel
theorem dX2_takeBack_55 : decode cX2_takeBack 55 = .ok (.ireturn, 1) := by decide +kernel
theorem dX2_keepImage_0 : decode cX2_keepImage 0 = .ok (.aload_n 0, 1) := by decide +kernel
theorem dX2_keepImage_1 : decode cX2_keepImage 1 = .ok (.getfield 27, 3) := by decide +kernel
theorem dX2_keepImage_4 : decode cX2_keepImage 4 = .ok (.iconst 3, 1) := by decide +kernel
theorem dX2_keepImage_5 : decode cX2_keepImage 5 = .ok (.if_icmp .lt 5, 3) := by decide +kernel
theorem dX2_keepImage_8 : decode cX2_keepImage 8 = .ok (.iconst (-1), 1) := by decide +kernel
theorem dX2_keepImage_9 : decode cX2_keepImage 9 = .ok (.ireturn, 1) := by decide +kernel
theorem dX2_keepImage_10 : decode cX2_keepImage 10 = .ok (.aload_n 0, 1) := by decide +kernel
theorem dX2_keepImage_11 : decode cX2_keepImage 11 = .ok (.getfield 17, 3) := by decide +kernel
theorem dX2_keepImage_14 : decode cX2_keepImage 14 = .ok (.aload_n 0, 1) := by decide +kernel
theorem dX2_keepImage_15 : decode cX2_keepImage 15 = .ok (.getfield 27, 3) := by decide +kernel
theorem dX2_keepImage_18 : decode cX2_keepImage 18 = .ok (.aaload, 1) := by decide +kernel
theorem dX2_keepImage_19 : decode cX2_keepImage 19 = .ok (.aload_n 1, 1) := by decide +kernel
theorem dX2_keepImage_20 : decode cX2_keepImage 20 = .ok (.invokevirtual 31, 3) := by decide +kernel
theorem dX2_keepImage_23 : decode cX2_keepImage 23 = .ok (.aload_n 0, 1) := by decide +kernel
theorem dX2_keepImage_24 : decode cX2_keepImage 24 = .ok (.dup, 1) := by decide +kernel
theorem dX2_keepImage_25 : decode cX2_keepImage 25 = .ok (.getfield 27, 3) := by decide +kernel
theorem dX2_keepImage_28 : decode cX2_keepImage 28 = .ok (.iconst 1, 1) := by decide +kernel
theorem dX2_keepImage_29 : decode cX2_keepImage 29 = .ok (.iadd, 1) := by decide +kernel
theorem dX2_keepImage_30 : decode cX2_keepImage 30 = .ok (.putfield 27, 3) := by decide +kernel
theorem dX2_keepImage_33 : decode cX2_keepImage 33 = .ok (.aload_n 0, 1) := by decide +kernel
theorem dX2_keepImage_34 : decode cX2_keepImage 34 = .ok (.getfield 27, 3) := by decide +kernel
theorem dX2_keepImage_37 : decode cX2_keepImage 37 = .ok (.iconst 1, 1) := by decide +kernel
theorem dX2_keepImage_38 : decode cX2_keepImage 38 = .ok (.isub, 1) := by decide +kernel
theorem dX2_keepImage_39 : decode cX2_keepImage 39 = .ok (.ireturn, 1) := by decide +kernel
theorem dX2_bringBack_0 : decode cX2_bringBack 0 = .ok (.iload_n 1, 1) := by decide +kernel
theorem dX2_bringBack_1 : decode cX2_bringBack 1 = .ok (.ifCond .lt 11, 3) := by decide +kernel
theorem dX2_bringBack_4 : decode cX2_bringBack 4 = .ok (.iload_n 1, 1) := by decide +kernel
theorem dX2_bringBack_5 : decode cX2_bringBack 5 = .ok (.aload_n 0, 1) := by decide +kernel
theorem dX2_bringBack_6 : decode cX2_bringBack 6 = .ok (.getfield 27, 3) := by decide +kernel
theorem dX2_bringBack_9 : decode cX2_bringBack 9 = .ok (.if_icmp .lt 5, 3) := by decide +kernel
theorem dX2_bringBack_12 : decode cX2_bringBack 12 = .ok (.iconst 0, 1) := by decide +kernel
theorem dX2_bringBack_13 : decode cX2_bringBack 13 = .ok (.ireturn, 1) := by decide +kernel
theorem dX2_bringBack_14 : decode cX2_bringBack 14 = .ok (.aload_n 2, 1) := by decide +kernel
theorem dX2_bringBack_15 : decode cX2_bringBack 15 = .ok (.aload_n 0, 1) := by decide +kernel
theorem dX2_bringBack_16 : decode cX2_bringBack 16 = .ok (.getfield 17, 3) := by decide +kernel
theorem dX2_bringBack_19 : decode cX2_bringBack 19 = .ok (.iload_n 1, 1) := by decide +kernel
theorem dX2_bringBack_20 : decode cX2_bringBack 20 = .ok (.aaload, 1) := by decide +kernel
theorem dX2_bringBack_21 : decode cX2_bringBack 21 = .ok (.invokevirtual 31, 3) := by decide +kernel
theorem dX2_bringBack_24 : decode cX2_bringBack 24 = .ok (.aload_n 0, 1) := by decide +kernel
theorem dX2_bringBack_25 : decode cX2_bringBack 25 = .ok (.iconst 0, 1) := by decide +kernel
theorem dX2_bringBack_26 : decode cX2_bringBack 26 = .ok (.putfield 24, 3) := by decide +kernel
theorem dX2_bringBack_29 : decode cX2_bringBack 29 = .ok (.iconst 1, 1) := by decide +kernel
theorem dX2_bringBack_30 : decode cX2_bringBack 30 = .ok (.ireturn, 1) := by decide +kernel
theorem dX3_init_0 : decode cX3_init 0 = .ok (.aload_n 0, 1) := by decide +kernel
theorem dX3_init_1 : decode cX3_init 1 = .ok (.invokespecial 1, 3) := by decide +kernel
theorem dX3_init_4 : decode cX3_init 4 = .ok (.aload_n 0, 1) := by decide +kernel
theorem dX3_init_5 : decode cX3_init 5 = .ok (.lconst 0, 1) := by decide +kernel
theorem dX3_init_6 : decode cX3_init 6 = .ok (.putfield 7, 3) := by decide +kernel
theorem dX3_init_9 : decode cX3_init 9 = .ok (.aload_n 0, 1) := by decide +kernel
theorem dX3_init_10 : decode cX3_init 10 = .ok (.lconst 1, 1) := by decide +kernel
theorem dX3_init_11 : decode cX3_init 11 = .ok (.putfield 13, 3) := by decide +kernel
theorem dX3_init_14 : decode cX3_init 14 = .ok (.return_, 1) := by decide +kernel
theorem dX4_begin_0 : decode cX4_begin 0 = .ok (.iconst 0, 1) := by decide +kernel
theorem dX4_begin_1 : decode cX4_begin 1 = .ok (.istore_n 2, 1) := by decide +kernel
theorem dX4_begin_2 : decode cX4_begin 2 = .ok (.iload_n 2, 1) := by decide +kernel
theorem dX4_begin_3 : decode cX4_begin 3 = .ok (.bipush 6, 2) := by decide +kernel
theorem dX4_begin_5 : decode cX4_begin 5 = .ok (.if_icmp .ge 21, 3) := by decide +kernel
theorem dX4_begin_8 : decode cX4_begin 8 = .ok (.aload_n 0, 1) := by decide +kernel
theorem dX4_begin_9 : decode cX4_begin 9 = .ok (.getfield 9, 3) := by decide +kernel
theorem dX4_begin_12 : decode cX4_begin 12 = .ok (.iload_n 2, 1) := by decide +kernel
theorem dX4_begin_13 : decode cX4_begin 13 = .ok (.aload_n 1, 1) := by decide +kernel
theorem dX4_begin_14 : decode cX4_begin 14 = .ok (.getfield 25, 3) := by decide +kernel
theorem dX4_begin_17 : decode cX4_begin 17 = .ok (.iload_n 2, 1) := by decide +kernel
theorem dX4_begin_18 : decode cX4_begin 18 = .ok (.iaload, 1) := by decide +kernel
theorem dX4_begin_19 : decode cX4_begin 19 = .ok (.iastore, 1) := by decide +kernel
theorem dX4_begin_20 : decode cX4_begin 20 = .ok (.iinc 2 1, 3) := by decide +kernel
theorem dX4_begin_23 : decode cX4_begin 23 = .ok (.goto (-21), 3) := by decide +kernel
theorem dX4_begin_26 : decode cX4_begin 26 = .ok (.aload_n 0, 1) := by decide +kernel
theorem dX4_begin_27 : decode cX4_begin 27 = .ok (.aload_n 1, 1) := by decide +kernel
theorem dX4_begin_28 : decode cX4_begin 28 = .ok (.getfield 28, 3) := by decide +kernel
theorem dX4_begin_31 : decode cX4_begin 31 = .ok (.putfield 15, 3) := by decide +kernel
theorem dX4_begin_34 : decode cX4_begin 34 = .ok (.aload_n 0, 1) := by decide +kernel
theorem dX4_begin_35 : decode cX4_begin 35 = .ok (.iconst 0, 1) := by decide +kernel
theorem dX4_begin_36 : decode cX4_begin 36 = .ok (.putfield 19, 3) := by decide +kernel
theorem dX4_begin_39 : decode cX4_begin 39 = .ok (.aload_n 0, 1) := by decide +kernel
theorem dX4_begin_40 : decode cX4_begin 40 = .ok (.iconst 0, 1) := by decide +kernel
theorem dX4_begin_41 : decode cX4_begin 41 = .ok (.putfield 22, 3) := by decide +kernel
theorem dX4_begin_44 : decode cX4_begin 44 = .ok (.return_, 1) := by decide +kernel
theorem dX5_init_0 : decode cX5_init 0 = .ok (.aload_n 0, 1) := by decide +kernel
theorem dX5_init_1 : decode cX5_init 1 = .ok (.invokespecial 3, 3) := by decide +kernel
theorem dX5_init_4 : decode cX5_init 4 = .ok (.aload_n 0, 1) := by decide +kernel
theorem dX5_init_5 : decode cX5_init 5 = .ok (.bipush 6, 2) := by decide +kernel
theorem dX5_init_7 : decode cX5_init 7 = .ok (.newarray .int, 2) := by decide +kernel
theorem dX5_init_9 : decode cX5_init 9 = .ok (.putfield 9, 3) := by decide +kernel
theorem dX5_init_12 : decode cX5_init 12 = .ok (.aload_n 0, 1) := by decide +kernel
theorem dX5_init_13 : decode cX5_init 13 = .ok (.bipush 6, 2) := by decide +kernel
theorem dX5_init_15 : decode cX5_init 15 = .ok (.newarray .int, 2) := by decide +kernel
theorem dX5_init_17 : decode cX5_init 17 = .ok (.putfield 15, 3) := by decide +kernel
theorem dX5_init_20 : decode cX5_init 20 = .ok (.aload_n 0, 1) := by decide +kernel
theorem dX5_init_21 : decode cX5_init 21 = .ok (.bipush 6, 2) := by decide +kernel
theorem dX5_init_23 : decode cX5_init 23 = .ok (.newarray .int, 2) := by decide +kernel
theorem dX5_init_25 : decode cX5_init 25 = .ok (.putfield 18, 3) := by decide +kernel
theorem dX5_init_28 : decode cX5_init 28 = .ok (.aload_n 0, 1) := by decide +kernel
theorem dX5_init_29 : decode cX5_init 29 = .ok (.iconst 0, 1) := by decide +kernel
theorem dX5_init_30 : decode cX5_init 30 = .ok (.putfield 21, 3) := by decide +kernel
theorem dX5_init_33 : decode cX5_init 33 = .ok (.return_, 1) := by decide +kernel
def m_X4_init (t : Nat) (σ : jd_Hp) : Option (Unit × jd_Hp) :=
jd_li (jd_new σ (20, 6)) fun τ1 =>
jd_li (jd_pr τ1 t 0 (some σ.1.length)) fun τ2 =>
jd_li (jd_pi τ2 t 1 0) fun τ3 =>
jd_li (jd_pi τ3 t 2 0) fun τ4 =>
jd_li (jd_pi τ4 t 3 0) fun τ5 =>
some ((), τ5)
set_option maxHeartbeats 4000000 in
set_option maxRecDepth 20000 in
theorem c_X4_init {l : Launch} {s0 : State} {G : jd_G} (hF : jd_F s0 G) (σ : jd_Hp) (t : Nat) (ht : σ.1[t]? = some (4, 4)) : jd_M l s0 G yX4_init cX4_init 1 none 1 je_v [jd_v G (some t)] σ (m_X4_init t σ) := by
  refine jd_enter hF (by decide) (fun G => [some (jd_v G (some t))]) rfl (by simp [lv_args, jd_al, jd_v_cat, jd_cti, jd_ctl]) (by simp [lg_sl, jd_v_cat, jd_cti, jd_ctl]) (fun X hD hX => ?_)
  have hX : jd_C X RX4 "<init>" cX4_init 1 none := hX
  unfold m_X4_init
  refine jr_ald0 (pc := 0) hX dX4_init_0 ?_
  refine jr_oinit (pc := 1) hX lX4_3 (jd_d1 hD rfl) (Nat.le_of_ble_eq_true rfl) dX4_init_1 ?_
  refine jr_ald0 (pc := 4) hX dX4_init_4 ?_
  refine jr_bipush (pc := 5) hX 6 rfl dX4_init_5 ?_
  refine jr_newai (pc := 7) hX 6 (by decide) (by decide) (by decide) aC_int dX4_init_7 ?_
  refine jr_li ?_
  refine jr_putrF (pc := 9) hX fX4_9 rfl ⟨_, _, rfl, rfl⟩ rfl dX4_init_9 ((jd_p.new σ (20, 6)).at ht :) ?_
  refine jr_li ?_
  refine jr_ald0 (pc := 12) hX dX4_init_12 ?_
  refine jr_iconst (pc := 13) hX 0 rfl dX4_init_13 ?_
  refine jr_puti (pc := 14) hX fX4_15 rfl dX4_init_14 ((jd_p.new σ (20, 6)).at ht :) ?_
  refine jr_li ?_
  refine jr_ald0 (pc := 17) hX dX4_init_17 ?_
  refine jr_iconst (pc := 18) hX 0 rfl dX4_init_18 ?_
  refine jr_puti (pc := 19) hX fX4_19 rfl dX4_init_19 ((jd_p.new σ (20, 6)).at ht :) ?_
  refine jr_li ?_
  refine jr_ald0 (pc := 22) hX dX4_init_22 ?_
  refine jr_iconst (pc := 23) hX 0 rfl dX4_init_23 ?_
  refine jr_puti (pc := 24) hX fX4_22 rfl dX4_init_24 ((jd_p.new σ (20, 6)).at ht :) ?_
  refine jr_li ?_
  exact jr_vret (pc := 27) hX dX4_init_27 rfl
def m_X2_init (t : Nat) (σ : jd_Hp) : Option (Unit × jd_Hp) :=
jd_li (jd_new σ (24, 16)) fun τ1 =>
jd_li (jd_pr τ1 t 0 (some σ.1.length)) fun τ2 =>
jd_li (jd_new τ2 (24, 3)) fun τ3 =>
jd_li (jd_pr τ3 t 1 (some τ2.1.length)) fun τ4 =>
jd_li (jd_pi τ4 t 2 0) fun τ5 =>
jd_li (jd_pi τ5 t 3 0) fun τ6 =>
jd_li (jd_pi τ6 t 4 0) fun τ7 =>
jd_b (jd_lp (S := Int32) (T := Unit) (fun s8 σ8 =>
jd_if (16 ≤ s8) (
some ((Sum.inr ()), σ8)) (
jd_o σ8 (2, 5) (some t) fun a10 =>
jd_li (jd_new σ8 (4, 4)) fun τ11 =>
jd_b (m_X4_init σ8.1.length τ11) fun r12 σ12 =>
jd_ia σ12 24 (σ8.2.2.2 a10 0) s8 fun a13 j13 =>
jd_li (jd_pr σ12 a13 j13 (some σ8.1.length)) fun τ14 =>
some (Sum.inl (s8 + 1), τ14))) jd_fu 0 τ7) fun t9 σ9 =>
jd_b (jd_lp (S := Int32) (T := Unit) (fun s15 σ15 =>
jd_if (3 ≤ s15) (
some ((Sum.inr ()), σ15)) (
jd_o σ15 (2, 5) (some t) fun a17 =>
jd_li (jd_new σ15 (4, 4)) fun τ18 =>
jd_b (m_X4_init σ15.1.length τ18) fun r19 σ19 =>
jd_ia σ19 24 (σ15.2.2.2 a17 1) s15 fun a20 j20 =>
jd_li (jd_pr σ19 a20 j20 (some σ15.1.length)) fun τ21 =>
some (Sum.inl (s15 + 1), τ21))) jd_fu 0 σ9) fun t16 σ16 =>
some ((), σ16)
set_option maxHeartbeats 4000000 in
set_option maxRecDepth 20000 in
theorem c_X2_init {l : Launch} {s0 : State} {G : jd_G} (hF : jd_F s0 G) (σ : jd_Hp) (t : Nat) (ht : σ.1[t]? = some (2, 5)) : jd_M l s0 G yX2_init cX2_init 2 none 2 je_v [jd_v G (some t)] σ (m_X2_init t σ) := by
  refine jd_enter hF (by decide) (fun G => [some (jd_v G (some t)), none]) rfl (by simp [lv_args, jd_al, jd_v_cat, jd_cti, jd_ctl]) (by simp [lg_sl, jd_v_cat, jd_cti, jd_ctl]) (fun X hD hX => ?_)
  have hX : jd_C X RX2 "<init>" cX2_init 2 none := hX
  unfold m_X2_init
  refine jr_ald0 (pc := 0) hX dX2_init_0 ?_
  refine jr_oinit (pc := 1) hX lX2_3 (jd_d1 hD rfl) (Nat.le_of_ble_eq_true rfl) dX2_init_1 ?_
  refine jr_ald0 (pc := 4) hX dX2_init_4 ?_
  refine jr_bipush (pc := 5) hX 16 rfl dX2_init_5 ?_
  refine jr_newr (pc := 7) hX 16 (by decide) (by decide) (by decide) naX2_9 aO_4 dX2_init_7 ?_
  refine jr_li ?_
  refine jr_putrF (pc := 10) hX fX2_11 rfl ⟨_, _, rfl, rfl⟩ rfl dX2_init_10 ((jd_p.new σ (24, 16)).at ht :) ?_
  refine jr_li ?_
  refine jr_ald0 (pc := 13) hX dX2_init_13 ?_
  refine jr_iconst (pc := 14) hX 3 rfl dX2_init_14 ?_
  refine jr_newr (pc := 15) hX 3 (by decide) (by decide) (by decide) naX2_9 aO_4 dX2_init_15 ?_
  refine jr_li ?_
  refine jr_putrF (pc := 18) hX fX2_17 rfl ⟨_, _, rfl, rfl⟩ rfl dX2_init_18 ((jd_p.new (jd_pr (jd_new σ (24, 16)) t 0 (some σ.1.length)) (24, 3)).at ((jd_p.new σ (24, 16)).at ht :) :) ?_
  refine jr_li ?_
  refine jr_ald0 (pc := 21) hX dX2_init_21 ?_
  refine jr_iconst (pc := 22) hX 0 rfl dX2_init_22 ?_
  refine jr_puti (pc := 23) hX fX2_20 rfl dX2_init_23 ((jd_p.new (jd_pr (jd_new σ (24, 16)) t 0 (some σ.1.length)) (24, 3)).at ((jd_p.new σ (24, 16)).at ht :) :) ?_
  refine jr_li ?_
  refine jr_ald0 (pc := 26) hX dX2_init_26 ?_
  refine jr_iconst (pc := 27) hX 0 rfl dX2_init_27 ?_
  refine jr_puti (pc := 28) hX fX2_24 rfl dX2_init_28 ((jd_p.new (jd_pr (jd_new σ (24, 16)) t 0 (some σ.1.length)) (24, 3)).at ((jd_p.new σ (24, 16)).at ht :) :) ?_
  refine jr_li ?_
  refine jr_ald0 (pc := 31) hX dX2_init_31 ?_
  refine jr_iconst (pc := 32) hX 0 rfl dX2_init_32 ?_
  refine jr_puti (pc := 33) hX fX2_27 rfl dX2_init_33 ((jd_p.new (jd_pr (jd_new σ (24, 16)) t 0 (some σ.1.length)) (24, 3)).at ((jd_p.new σ (24, 16)).at ht :) :) ?_
  refine jr_li ?_
  refine jr_iconst (pc := 36) hX 0 rfl dX2_init_36 ?_
  refine jr_ist1 (pc := 37) hX (jn_r _ _) dX2_init_37 ?_
  refine jr_loop (pc := 38) (fun (s8 : Int32) => [some (jd_v (jd_gG X) (some t)), some (.int s8)]) (fun (t9 : Unit) => [some (jd_v (jd_gG X) (some t)), none]) 63 0 (fun t9 σ9 => ?_) (fun K8 bk8 ex8 s8 σ8 => ?_)
  · refine jr_iconst (pc := 63) hX 0 rfl dX2_init_63 ?_
    refine jr_ist1 (pc := 64) hX (jn_r _ _) dX2_init_64 ?_
    refine jr_loop (pc := 65) (fun (s15 : Int32) => [some (jd_v (jd_gG X) (some t)), some (.int s15)]) (fun (t16 : Unit) => [none, none]) 89 0 (fun t16 σ16 => ?_) (fun K15 bk15 ex15 s15 σ15 => ?_)
    · exact jr_vret (pc := 89) hX dX2_init_89 rfl
    · refine jr_ild1 (pc := 65) hX dX2_init_65 ?_
      refine jr_iconst (pc := 66) hX 3 rfl dX2_init_66 ?_
      refine jr_icge (pc := 67) hX 89 dX2_init_67 (by decide) ?_ ?_
      · refine jr_wk [false, false] ?_
        exact ex15 () _
      · refine jr_ald0 (pc := 70) hX dX2_init_70 ?_
        refine jr_ck0 (fun a17 e17 h17 => ?_)
        refine jr_getr (pc := 71) hX fX2_17 rfl dX2_init_71 h17 ?_
        refine jr_ild1 (pc := 74) hX dX2_init_74 ?_
        refine jr_new (pc := 75) hX nX2_9 dX2_init_75 ?_
        refine jr_li ?_
        refine jr_dup (pc := 78) hX (jd_v_cat _ _) dX2_init_78 ?_
        refine jr_cI0 (pc := 79) hX lX2_30 (c_X4_init hX.F (jd_new σ15 (4, 4)) σ15.1.length (jd_nw (σ := σ15) (x := (4, 4)) :)) (jd_dd hD rfl) (by simp [jd_v_cat, jd_cti, jd_ctl]) dX2_init_79 (fun r19 σ19 p19 => ?_)
        refine jr_aaS (pc := 82) hX dX2_init_82 (p19.at (jd_nw (σ := σ15) (x := (4, 4)) :) :) (fun a20 n20 e20 h20 => ?_)
        refine jr_li ?_
        refine jr_inc1 (pc := 83) hX 1 rfl (jn_r _ _) dX2_init_83 ?_
        refine jr_goto (pc := 86) hX 65 dX2_init_86 (by decide) ?_
        exact bk15 (s15 + 1) _
  · refine jr_ild1 (pc := 38) hX dX2_init_38 ?_
    refine jr_bipush (pc := 39) hX 16 rfl dX2_init_39 ?_
    refine jr_icge (pc := 41) hX 63 dX2_init_41 (by decide) ?_ ?_
    · refine jr_wk [true, false] ?_
      exact ex8 () _
    · refine jr_ald0 (pc := 44) hX dX2_init_44 ?_
      refine jr_ck0 (fun a10 e10 h10 => ?_)
      refine jr_getr (pc := 45) hX fX2_11 rfl dX2_init_45 h10 ?_
      refine jr_ild1 (pc := 48) hX dX2_init_48 ?_
      refine jr_new (pc := 49) hX nX2_9 dX2_init_49 ?_
      refine jr_li ?_
      refine jr_dup (pc := 52) hX (jd_v_cat _ _) dX2_init_52 ?_
      refine jr_cI0 (pc := 53) hX lX2_30 (c_X4_init hX.F (jd_new σ8 (4, 4)) σ8.1.length (jd_nw (σ := σ8) (x := (4, 4)) :)) (jd_dd hD rfl) (by simp [jd_v_cat, jd_cti, jd_ctl]) dX2_init_53 (fun r12 σ12 p12 => ?_)
      refine jr_aaS (pc := 56) hX dX2_init_56 (p12.at (jd_nw (σ := σ8) (x := (4, 4)) :) :) (fun a13 n13 e13 h13 => ?_)
      refine jr_li ?_
      refine jr_inc1 (pc := 57) hX 1 rfl (jn_r _ _) dX2_init_57 ?_
      refine jr_goto (pc := 60) hX 38 dX2_init_60 (by decide) ?_
      exact bk8 (s8 + 1) _
def m_X2_forget (t : Nat) (σ : jd_Hp) : Option (Unit × jd_Hp) :=
jd_li (jd_pi σ t 3 0) fun τ1 =>
jd_li (jd_pi τ1 t 4 0) fun τ2 =>
some ((), τ2)
set_option maxHeartbeats 4000000 in
set_option maxRecDepth 20000 in
theorem c_X2_forget {l : Launch} {s0 : State} {G : jd_G} (hF : jd_F s0 G) (σ : jd_Hp) (t : Nat) (ht : σ.1[t]? = some (2, 5)) : jd_M l s0 G yX2_forget cX2_forget 1 none 0 je_v [jd_v G (some t)] σ (m_X2_forget t σ) := by
  refine jd_enter hF (by decide) (fun G => [some (jd_v G (some t))]) rfl (by simp [lv_args, jd_al, jd_v_cat, jd_cti, jd_ctl]) (by simp [lg_sl, jd_v_cat, jd_cti, jd_ctl]) (fun X hD hX => ?_)
  have hX : jd_C X RX2 "forget" cX2_forget 1 none := hX
  unfold m_X2_forget
  refine jr_ald0 (pc := 0) hX dX2_forget_0 ?_
  refine jr_iconst (pc := 1) hX 0 rfl dX2_forget_1 ?_
  refine jr_puti (pc := 2) hX fX2_24 rfl dX2_forget_2 ht ?_
  refine jr_li ?_
  refine jr_ald0 (pc := 5) hX dX2_forget_5 ?_
  refine jr_iconst (pc := 6) hX 0 rfl dX2_forget_6 ?_
  refine jr_puti (pc := 7) hX fX2_27 rfl dX2_forget_7 ht ?_
  refine jr_li ?_
  exact jr_vret (pc := 10) hX dX2_forget_10 rfl
def m_X4_copy (t : Nat) (o0p : (Option Nat)) (σ : jd_Hp) : Option (Unit × jd_Hp) :=
jd_b (jd_lp (S := Int32) (T := Unit) (fun s1 σ1 =>
jd_if (6 ≤ s1) (
some ((Sum.inr ()), σ1)) (
jd_o σ1 (4, 4) (some t) fun a3 =>
jd_o σ1 (4, 4) o0p fun a4 =>
jd_ia σ1 20 (σ1.2.2.2 a4 0) s1 fun a5 j5 =>
jd_ia σ1 20 (σ1.2.2.2 a3 0) s1 fun a6 j6 =>
jd_li (jd_pi σ1 a6 j6 (σ1.2.1 a5 j5)) fun τ7 =>
some (Sum.inl (s1 + 1), τ7))) jd_fu 0 σ) fun t2 σ2 =>
jd_o σ2 (4, 4) o0p fun a8 =>
jd_o σ2 (4, 4) (some t) fun a9 =>
jd_li (jd_pi σ2 a9 1 (σ2.2.1 a8 1)) fun τ10 =>
jd_li (jd_pi τ10 a9 2 (τ10.2.1 a8 2)) fun τ11 =>
jd_li (jd_pi τ11 a9 3 (τ11.2.1 a8 3)) fun τ12 =>
some ((), τ12)
set_option maxHeartbeats 4000000 in
set_option maxRecDepth 20000 in
theorem c_X4_copy {l : Launch} {s0 : State} {G : jd_G} (hF : jd_F s0 G) (σ : jd_Hp) (t : Nat) (ht : σ.1[t]? = some (4, 4)) (o0p : (Option Nat)) : jd_M l s0 G yX4_copy cX4_copy 3 none 0 je_v [jd_v G (some t), jd_v G o0p] σ (m_X4_copy t o0p σ) := by
  refine jd_enter hF (by decide) (fun G => [some (jd_v G (some t)), some (jd_v G o0p), none]) rfl (by simp [lv_args, jd_al, jd_v_cat, jd_cti, jd_ctl]) (by simp [lg_sl, jd_v_cat, jd_cti, jd_ctl]) (fun X hD hX => ?_)
  have hX : jd_C X RX4 "copy" cX4_copy 3 none := hX
  unfold m_X4_copy
  refine jr_iconst (pc := 0) hX 0 rfl dX4_copy_0 ?_
  refine jr_ist2 (pc := 1) hX (jn_r _ _) dX4_copy_1 ?_
  refine jr_loop (pc := 2) (fun (s1 : Int32) => [some (jd_v (jd_gG X) (some t)), some (jd_v (jd_gG X) o0p), some (.int s1)]) (fun (t2 : Unit) => [some (jd_v (jd_gG X) (some t)), some (jd_v (jd_gG X) o0p), none]) 26 0 (fun t2 σ2 => ?_) (fun K1 bk1 ex1 s1 σ1 => ?_)
  · refine jr_ald0 (pc := 26) hX dX4_copy_26 ?_
    refine jr_ald1 (pc := 27) hX dX4_copy_27 ?_
    refine jr_ck0 (fun a8 e8 h8 => ?_)
    refine jr_geti (pc := 28) hX fX4_15 rfl dX4_copy_28 h8 ?_
    refine jr_ck1 (fun a9 e9 h9 => ?_)
    refine jr_puti (pc := 31) hX fX4_15 rfl dX4_copy_31 h9 ?_
    refine jr_li ?_
    refine jr_ald0 (pc := 34) hX dX4_copy_34 ?_
    refine jr_ald1 (pc := 35) hX dX4_copy_35 ?_
    refine jr_ek0 e8 ?_
    refine jr_geti (pc := 36) hX fX4_19 rfl dX4_copy_36 h8 ?_
    refine jr_ek1 e9 ?_
    refine jr_puti (pc := 39) hX fX4_19 rfl dX4_copy_39 h9 ?_
    refine jr_li ?_
    refine jr_ald0 (pc := 42) hX dX4_copy_42 ?_
    refine jr_ald1 (pc := 43) hX dX4_copy_43 ?_
    refine jr_ek0 e8 ?_
    refine jr_geti (pc := 44) hX fX4_22 rfl dX4_copy_44 h8 ?_
    refine jr_ek1 e9 ?_
    refine jr_puti (pc := 47) hX fX4_22 rfl dX4_copy_47 h9 ?_
    refine jr_li ?_
    exact jr_vret (pc := 50) hX dX4_copy_50 rfl
  · refine jr_ild2 (pc := 2) hX dX4_copy_2 ?_
    refine jr_bipush (pc := 3) hX 6 rfl dX4_copy_3 ?_
    refine jr_icge (pc := 5) hX 26 dX4_copy_5 (by decide) ?_ ?_
    · refine jr_wk [true, true, false] ?_
      exact ex1 () _
    · refine jr_ald0 (pc := 8) hX dX4_copy_8 ?_
      refine jr_ck0 (fun a3 e3 h3 => ?_)
      refine jr_getr (pc := 9) hX fX4_9 rfl dX4_copy_9 h3 ?_
      refine jr_ild2 (pc := 12) hX dX4_copy_12 ?_
      refine jr_ald1 (pc := 13) hX dX4_copy_13 ?_
      refine jr_ck0 (fun a4 e4 h4 => ?_)
      refine jr_getr (pc := 14) hX fX4_9 rfl dX4_copy_14 h4 ?_
      refine jr_ild2 (pc := 17) hX dX4_copy_17 ?_
      refine jr_iaC (pc := 18) hX dX4_copy_18 (fun a5 n5 e5 h5 => ?_)
      refine jr_iaS (pc := 19) hX dX4_copy_19 (fun a6 n6 e6 h6 => ?_)
      refine jr_li ?_
      refine jr_inc2 (pc := 20) hX 1 rfl (jn_r _ _) dX4_copy_20 ?_
      refine jr_goto (pc := 23) hX 2 dX4_copy_23 (by decide) ?_
      exact bk1 (s1 + 1) _
def m_X2_keep (t : Nat) (o0p : (Option Nat)) (σ : jd_Hp) : Option (Unit × jd_Hp) :=
jd_b (α := Int32) (
jd_if (16 ≤ ((σ.2.1 t 2) + 1)) (
some (0, σ)) (
some (((σ.2.1 t 2) + 1), σ))) fun t1 σ1 =>
jd_o σ1 (2, 5) (some t) fun a2 =>
jd_li (jd_pi σ1 a2 2 t1) fun τ3 =>
jd_ia τ3 24 (τ3.2.2.2 a2 0) (τ3.2.1 a2 2) fun a4 j4 =>
jd_o τ3 (4, 4) (τ3.2.2.2 a4 j4) fun a5 =>
jd_b (m_X4_copy a5 o0p τ3) fun r6 σ6 =>
jd_li (jd_pi σ6 a2 3 (jd_min ((σ6.2.1 a2 3) + 1) 16)) fun τ7 =>
some ((), τ7)
set_option maxHeartbeats 4000000 in
set_option maxRecDepth 20000 in
theorem c_X2_keep {l : Launch} {s0 : State} {G : jd_G} (hF : jd_F s0 G) (σ : jd_Hp) (t : Nat) (ht : σ.1[t]? = some (2, 5)) (o0p : (Option Nat)) : jd_M l s0 G yX2_keep cX2_keep 2 none 1 je_v [jd_v G (some t), jd_v G o0p] σ (m_X2_keep t o0p σ) := by
  refine jd_enter hF (by decide) (fun G => [some (jd_v G (some t)), some (jd_v G o0p)]) rfl (by simp [lv_args, jd_al, jd_v_cat, jd_cti, jd_ctl]) (by simp [lg_sl, jd_v_cat, jd_cti, jd_ctl]) (fun X hD hX => ?_)
  have hX : jd_C X RX2 "keep" cX2_keep 2 none := hX
  unfold m_X2_keep
  refine jr_ald0 (pc := 0) hX dX2_keep_0 ?_
  refine jr_ald0 (pc := 1) hX dX2_keep_1 ?_
  refine jr_geti (pc := 2) hX fX2_20 rfl dX2_keep_2 ht ?_
  refine jr_iconst (pc := 5) hX 1 rfl dX2_keep_5 ?_
  refine jr_iadd (pc := 6) hX dX2_keep_6 ?_
  refine jr_bipush (pc := 7) hX 16 rfl dX2_keep_7 ?_
  refine jr_join (pc := 9) 22 (fun (t1 : Int32) => [some (jd_v (jd_gG X) (some t)), some (jd_v (jd_gG X) o0p)]) (fun (t1 : Int32) => [.int t1, jd_v (jd_gG X) (some t)]) (fun t1 σ1 => ?_) (fun K1 jj1 => ?_)
  · refine jr_ck1 (fun a2 e2 h2 => ?_)
    refine jr_puti (pc := 22) hX fX2_20 rfl dX2_keep_22 h2 ?_
    refine jr_li ?_
    refine jr_ald0 (pc := 25) hX dX2_keep_25 ?_
    refine jr_ek0 e2 ?_
    refine jr_getr (pc := 26) hX fX2_11 rfl dX2_keep_26 h2 ?_
    refine jr_ald0 (pc := 29) hX dX2_keep_29 ?_
    refine jr_ek0 e2 ?_
    refine jr_geti (pc := 30) hX fX2_20 rfl dX2_keep_30 h2 ?_
    refine jr_aaC (pc := 33) hX dX2_keep_33 (fun a4 n4 e4 h4 => ?_)
    refine jr_ald1 (pc := 34) hX dX2_keep_34 ?_
    refine jr_ck1 (fun a5 e5 h5 => ?_)
    refine jr_cV1v (pc := 35) hX lX2_31 (c_X4_copy hX.F (jd_pi σ1 a2 2 t1) a5 h5 _) (jd_dd hD rfl) (Nat.le_of_ble_eq_true rfl) dX2_keep_35 h5 (fun r6 σ6 p6 => ?_)
    refine jr_ald0 (pc := 38) hX dX2_keep_38 ?_
    refine jr_ald0 (pc := 39) hX dX2_keep_39 ?_
    refine jr_ek0 e2 ?_
    refine jr_geti (pc := 40) hX fX2_24 rfl dX2_keep_40 (p6.at h2 :) ?_
    refine jr_iconst (pc := 43) hX 1 rfl dX2_keep_43 ?_
    refine jr_iadd (pc := 44) hX dX2_keep_44 ?_
    refine jr_bipush (pc := 45) hX 16 rfl dX2_keep_45 ?_
    refine jr_mmin (pc := 47) hX lX2_35 (jd_d1 hD rfl) (by simp [jd_v_cat, jd_cti, jd_ctl]) dX2_keep_47 ?_
    refine jr_ek1 e2 ?_
    refine jr_puti (pc := 50) hX fX2_24 rfl dX2_keep_50 (p6.at h2 :) ?_
    refine jr_li ?_
    exact jr_vret (pc := 53) hX dX2_keep_53 rfl
  · refine jr_icge (pc := 9) hX 21 dX2_keep_9 (by decide) ?_ ?_
    · refine jr_iconst (pc := 21) hX 0 rfl dX2_keep_21 ?_
      exact jj1 0 _
    · refine jr_ald0 (pc := 12) hX dX2_keep_12 ?_
      refine jr_geti (pc := 13) hX fX2_20 rfl dX2_keep_13 ht ?_
      refine jr_iconst (pc := 16) hX 1 rfl dX2_keep_16 ?_
      refine jr_iadd (pc := 17) hX dX2_keep_17 ?_
      refine jr_goto (pc := 18) hX 22 dX2_keep_18 (by decide) ?_
      exact jj1 ((σ.2.1 t 2) + 1) _
def m_X2_takeBack (t : Nat) (o0p : (Option Nat)) (σ : jd_Hp) : Option (Int32 × jd_Hp) :=
jd_if (0 < (σ.2.1 t 3)) (
jd_ia σ 24 (σ.2.2.2 t 0) (σ.2.1 t 2) fun a1 j1 =>
jd_o σ (4, 4) o0p fun a2 =>
jd_b (m_X4_copy a2 (σ.2.2.2 a1 j1) σ) fun r3 σ3 =>
jd_b (α := Int32) (
jd_if ((σ3.2.1 t 2) ≤ 0) (
some (15, σ3)) (
some (((σ3.2.1 t 2) - 1), σ3))) fun t4 σ4 =>
jd_o σ4 (2, 5) (some t) fun a5 =>
jd_li (jd_pi σ4 a5 2 t4) fun τ6 =>
jd_li (jd_pi τ6 a5 3 ((τ6.2.1 a5 3) - 1)) fun τ7 =>
some (1, τ7)) (
some (0, σ))
set_option maxHeartbeats 4000000 in
set_option maxRecDepth 20000 in
theorem c_X2_takeBack {l : Launch} {s0 : State} {G : jd_G} (hF : jd_F s0 G) (σ : jd_Hp) (t : Nat) (ht : σ.1[t]? = some (2, 5)) (o0p : (Option Nat)) : jd_M l s0 G yX2_takeBack cX2_takeBack 2 (some .boolean) 1 je_i [jd_v G (some t), jd_v G o0p] σ (m_X2_takeBack t o0p σ) := by
  refine jd_enter hF (by decide) (fun G => [some (jd_v G (some t)), some (jd_v G o0p)]) rfl (by simp [lv_args, jd_al, jd_v_cat, jd_cti, jd_ctl]) (by simp [lg_sl, jd_v_cat, jd_cti, jd_ctl]) (fun X hD hX => ?_)
  have hX : jd_C X RX2 "takeBack" cX2_takeBack 2 (some .boolean) := hX
  unfold m_X2_takeBack
  refine jr_ald0 (pc := 0) hX dX2_takeBack_0 ?_
  refine jr_geti (pc := 1) hX fX2_24 rfl dX2_takeBack_1 ht ?_
  refine jr_ifgt (pc := 4) hX 9 dX2_takeBack_4 (by decide) ?_ ?_
  · refine jr_ald1 (pc := 9) hX dX2_takeBack_9 ?_
    refine jr_ald0 (pc := 10) hX dX2_takeBack_10 ?_
    refine jr_getr (pc := 11) hX fX2_11 rfl dX2_takeBack_11 ht ?_
    refine jr_ald0 (pc := 14) hX dX2_takeBack_14 ?_
    refine jr_geti (pc := 15) hX fX2_20 rfl dX2_takeBack_15 ht ?_
    refine jr_aaC (pc := 18) hX dX2_takeBack_18 (fun a1 n1 e1 h1 => ?_)
    refine jr_ck1 (fun a2 e2 h2 => ?_)
    refine jr_cV1v (pc := 19) hX lX2_31 (c_X4_copy hX.F σ a2 h2 _) (jd_dd hD rfl) (Nat.le_of_ble_eq_true rfl) dX2_takeBack_19 h2 (fun r3 σ3 p3 => ?_)
    refine jr_ald0 (pc := 22) hX dX2_takeBack_22 ?_
    refine jr_ald0 (pc := 23) hX dX2_takeBack_23 ?_
    refine jr_geti (pc := 24) hX fX2_20 rfl dX2_takeBack_24 (p3.at ht :) ?_
    refine jr_join (pc := 27) 41 (fun (t4 : Int32) => [some (jd_v (jd_gG X) (some t)), none]) (fun (t4 : Int32) => [.int t4, jd_v (jd_gG X) (some t)]) (fun t4 σ4 => ?_) (fun K4 jj4 => ?_)
    · refine jr_ck1 (fun a5 e5 h5 => ?_)
      refine jr_puti (pc := 41) hX fX2_20 rfl dX2_takeBack_41 h5 ?_
      refine jr_li ?_
      refine jr_ald0 (pc := 44) hX dX2_takeBack_44 ?_
      refine jr_dup (pc := 45) hX (jd_v_cat _ _) dX2_takeBack_45 ?_
      refine jr_ek0 e5 ?_
      refine jr_geti (pc := 46) hX fX2_24 rfl dX2_takeBack_46 h5 ?_
      refine jr_iconst (pc := 49) hX 1 rfl dX2_takeBack_49 ?_
      refine jr_isub (pc := 50) hX dX2_takeBack_50 ?_
      refine jr_ek1 e5 ?_
      refine jr_puti (pc := 51) hX fX2_24 rfl dX2_takeBack_51 h5 ?_
      refine jr_li ?_
      refine jr_iconst (pc := 54) hX 1 rfl dX2_takeBack_54 ?_
      exact jr_zret (pc := 55) hX dX2_takeBack_55 (Or.inr rfl) rfl
    · refine jr_ifle (pc := 27) hX 39 dX2_takeBack_27 (by decide) ?_ ?_
      · refine jr_bipush (pc := 39) hX 15 rfl dX2_takeBack_39 ?_
        refine jr_wk [true, false] ?_
        exact jj4 15 _
      · refine jr_ald0 (pc := 30) hX dX2_takeBack_30 ?_
        refine jr_geti (pc := 31) hX fX2_20 rfl dX2_takeBack_31 (p3.at ht :) ?_
        refine jr_iconst (pc := 34) hX 1 rfl dX2_takeBack_34 ?_
        refine jr_isub (pc := 35) hX dX2_takeBack_35 ?_
        refine jr_goto (pc := 36) hX 41 dX2_takeBack_36 (by decide) ?_
        refine jr_wk [true, false] ?_
        exact jj4 ((σ3.2.1 t 2) - 1) _
  · refine jr_iconst (pc := 7) hX 0 rfl dX2_takeBack_7 ?_
    exact jr_zret (pc := 8) hX dX2_takeBack_8 (Or.inl rfl) rfl
def m_X2_keepImage (t : Nat) (o0p : (Option Nat)) (σ : jd_Hp) : Option (Int32 × jd_Hp) :=
jd_if ((σ.2.1 t 4) < 3) (
jd_ia σ 24 (σ.2.2.2 t 1) (σ.2.1 t 4) fun a1 j1 =>
jd_o σ (4, 4) (σ.2.2.2 a1 j1) fun a2 =>
jd_b (m_X4_copy a2 o0p σ) fun r3 σ3 =>
jd_li (jd_pi σ3 t 4 ((σ3.2.1 t 4) + 1)) fun τ4 =>
some (((τ4.2.1 t 4) - 1), τ4)) (
some ((-1), σ))
set_option maxHeartbeats 4000000 in
set_option maxRecDepth 20000 in
theorem c_X2_keepImage {l : Launch} {s0 : State} {G : jd_G} (hF : jd_F s0 G) (σ : jd_Hp) (t : Nat) (ht : σ.1[t]? = some (2, 5)) (o0p : (Option Nat)) : jd_M l s0 G yX2_keepImage cX2_keepImage 2 (some .int) 1 je_i [jd_v G (some t), jd_v G o0p] σ (m_X2_keepImage t o0p σ) := by
  refine jd_enter hF (by decide) (fun G => [some (jd_v G (some t)), some (jd_v G o0p)]) rfl (by simp [lv_args, jd_al, jd_v_cat, jd_cti, jd_ctl]) (by simp [lg_sl, jd_v_cat, jd_cti, jd_ctl]) (fun X hD hX => ?_)
  have hX : jd_C X RX2 "keepImage" cX2_keepImage 2 (some .int) := hX
  unfold m_X2_keepImage
  refine jr_ald0 (pc := 0) hX dX2_keepImage_0 ?_
  refine jr_geti (pc := 1) hX fX2_27 rfl dX2_keepImage_1 ht ?_
  refine jr_iconst (pc := 4) hX 3 rfl dX2_keepImage_4 ?_
  refine jr_iclt (pc := 5) hX 10 dX2_keepImage_5 (by decide) ?_ ?_
  · refine jr_ald0 (pc := 10) hX dX2_keepImage_10 ?_
    refine jr_getr (pc := 11) hX fX2_17 rfl dX2_keepImage_11 ht ?_
    refine jr_ald0 (pc := 14) hX dX2_keepImage_14 ?_
    refine jr_geti (pc := 15) hX fX2_27 rfl dX2_keepImage_15 ht ?_
    refine jr_aaC (pc := 18) hX dX2_keepImage_18 (fun a1 n1 e1 h1 => ?_)
    refine jr_ald1 (pc := 19) hX dX2_keepImage_19 ?_
    refine jr_ck1 (fun a2 e2 h2 => ?_)
    refine jr_cV1v (pc := 20) hX lX2_31 (c_X4_copy hX.F σ a2 h2 _) (jd_dd hD rfl) (Nat.le_of_ble_eq_true rfl) dX2_keepImage_20 h2 (fun r3 σ3 p3 => ?_)
    refine jr_ald0 (pc := 23) hX dX2_keepImage_23 ?_
    refine jr_dup (pc := 24) hX (jd_v_cat _ _) dX2_keepImage_24 ?_
    refine jr_geti (pc := 25) hX fX2_27 rfl dX2_keepImage_25 (p3.at ht :) ?_
    refine jr_iconst (pc := 28) hX 1 rfl dX2_keepImage_28 ?_
    refine jr_iadd (pc := 29) hX dX2_keepImage_29 ?_
    refine jr_puti (pc := 30) hX fX2_27 rfl dX2_keepImage_30 (p3.at ht :) ?_
    refine jr_li ?_
    refine jr_ald0 (pc := 33) hX dX2_keepImage_33 ?_
    refine jr_geti (pc := 34) hX fX2_27 rfl dX2_keepImage_34 (p3.at ht :) ?_
    refine jr_iconst (pc := 37) hX 1 rfl dX2_keepImage_37 ?_
    refine jr_isub (pc := 38) hX dX2_keepImage_38 ?_
    exact jr_iret (pc := 39) hX dX2_keepImage_39 rfl
  · refine jr_iconst (pc := 8) hX (-1) rfl dX2_keepImage_8 ?_
    exact jr_iret (pc := 9) hX dX2_keepImage_9 rfl
def m_X2_bringBack (t : Nat) (x0p : Int32) (o1p : (Option Nat)) (σ : jd_Hp) : Option (Int32 × jd_Hp) :=
jd_if (x0p < 0) (
some (0, σ)) (
jd_if (x0p < (σ.2.1 t 4)) (
jd_ia σ 24 (σ.2.2.2 t 1) x0p fun a1 j1 =>
jd_o σ (4, 4) o1p fun a2 =>
jd_b (m_X4_copy a2 (σ.2.2.2 a1 j1) σ) fun r3 σ3 =>
jd_li (jd_pi σ3 t 3 0) fun τ4 =>
some (1, τ4)) (
some (0, σ)))
set_option maxHeartbeats 4000000 in
set_option maxRecDepth 20000 in
theorem c_X2_bringBack {l : Launch} {s0 : State} {G : jd_G} (hF : jd_F s0 G) (σ : jd_Hp) (t : Nat) (ht : σ.1[t]? = some (2, 5)) (x0p : Int32) (o1p : (Option Nat)) : jd_M l s0 G yX2_bringBack cX2_bringBack 3 (some .boolean) 1 je_i [jd_v G (some t), .int x0p, jd_v G o1p] σ (m_X2_bringBack t x0p o1p σ) := by
  refine jd_enter hF (by decide) (fun G => [some (jd_v G (some t)), some (.int x0p), some (jd_v G o1p)]) rfl (by simp [lv_args, jd_al, jd_v_cat, jd_cti, jd_ctl]) (by simp [lg_sl, jd_v_cat, jd_cti, jd_ctl]) (fun X hD hX => ?_)
  have hX : jd_C X RX2 "bringBack" cX2_bringBack 3 (some .boolean) := hX
  unfold m_X2_bringBack
  refine jr_ild1 (pc := 0) hX dX2_bringBack_0 ?_
  refine jr_iflt (pc := 1) hX 12 dX2_bringBack_1 (by decide) ?_ ?_
  · refine jr_iconst (pc := 12) hX 0 rfl dX2_bringBack_12 ?_
    exact jr_zret (pc := 13) hX dX2_bringBack_13 (Or.inl rfl) rfl
  · refine jr_ild1 (pc := 4) hX dX2_bringBack_4 ?_
    refine jr_ald0 (pc := 5) hX dX2_bringBack_5 ?_
    refine jr_geti (pc := 6) hX fX2_27 rfl dX2_bringBack_6 ht ?_
    refine jr_iclt (pc := 9) hX 14 dX2_bringBack_9 (by decide) ?_ ?_
    · refine jr_ald2 (pc := 14) hX dX2_bringBack_14 ?_
      refine jr_ald0 (pc := 15) hX dX2_bringBack_15 ?_
      refine jr_getr (pc := 16) hX fX2_17 rfl dX2_bringBack_16 ht ?_
      refine jr_ild1 (pc := 19) hX dX2_bringBack_19 ?_
      refine jr_aaC (pc := 20) hX dX2_bringBack_20 (fun a1 n1 e1 h1 => ?_)
      refine jr_ck1 (fun a2 e2 h2 => ?_)
      refine jr_cV1v (pc := 21) hX lX2_31 (c_X4_copy hX.F σ a2 h2 _) (jd_dd hD rfl) (Nat.le_of_ble_eq_true rfl) dX2_bringBack_21 h2 (fun r3 σ3 p3 => ?_)
      refine jr_ald0 (pc := 24) hX dX2_bringBack_24 ?_
      refine jr_iconst (pc := 25) hX 0 rfl dX2_bringBack_25 ?_
      refine jr_puti (pc := 26) hX fX2_24 rfl dX2_bringBack_26 (p3.at ht :) ?_
      refine jr_li ?_
      refine jr_iconst (pc := 29) hX 1 rfl dX2_bringBack_29 ?_
      exact jr_zret (pc := 30) hX dX2_bringBack_30 (Or.inr rfl) rfl
    · refine jr_iconst (pc := 12) hX 0 rfl dX2_bringBack_12 ?_
      exact jr_zret (pc := 13) hX dX2_bringBack_13 (Or.inl rfl) rfl
def m_X3_init (t : Nat) (σ : jd_Hp) : Option (Unit × jd_Hp) :=
jd_li (jd_pl σ t 0 0) fun τ1 =>
jd_li (jd_pl τ1 t 1 1) fun τ2 =>
some ((), τ2)
set_option maxHeartbeats 4000000 in
set_option maxRecDepth 20000 in
theorem c_X3_init {l : Launch} {s0 : State} {G : jd_G} (hF : jd_F s0 G) (σ : jd_Hp) (t : Nat) (ht : σ.1[t]? = some (3, 2)) : jd_M l s0 G yX3_init cX3_init 1 none 1 je_v [jd_v G (some t)] σ (m_X3_init t σ) := by
  refine jd_enter hF (by decide) (fun G => [some (jd_v G (some t))]) rfl (by simp [lv_args, jd_al, jd_v_cat, jd_cti, jd_ctl]) (by simp [lg_sl, jd_v_cat, jd_cti, jd_ctl]) (fun X hD hX => ?_)
  have hX : jd_C X RX3 "<init>" cX3_init 1 none := hX
  unfold m_X3_init
  refine jr_ald0 (pc := 0) hX dX3_init_0 ?_
  refine jr_oinit (pc := 1) hX lX3_1 (jd_d1 hD rfl) (Nat.le_of_ble_eq_true rfl) dX3_init_1 ?_
  refine jr_ald0 (pc := 4) hX dX3_init_4 ?_
  refine jr_lconst (pc := 5) hX 0 rfl dX3_init_5 ?_
  refine jr_putl (pc := 6) hX fX3_7 rfl dX3_init_6 ht ?_
  refine jr_li ?_
  refine jr_ald0 (pc := 9) hX dX3_init_9 ?_
  refine jr_lconst (pc := 10) hX 1 rfl dX3_init_10 ?_
  refine jr_putl (pc := 11) hX fX3_13 rfl dX3_init_11 ht ?_
  refine jr_li ?_
  exact jr_vret (pc := 14) hX dX3_init_14 rfl
def m_X4_begin (t : Nat) (o0p : (Option Nat)) (σ : jd_Hp) : Option (Unit × jd_Hp) :=
jd_b (jd_lp (S := Int32) (T := Unit) (fun s1 σ1 =>
jd_if (6 ≤ s1) (
some ((Sum.inr ()), σ1)) (
jd_o σ1 (4, 4) (some t) fun a3 =>
jd_o σ1 (10, 16) o0p fun a4 =>
jd_ia σ1 20 (σ1.2.2.2 a4 1) s1 fun a5 j5 =>
jd_ia σ1 20 (σ1.2.2.2 a3 0) s1 fun a6 j6 =>
jd_li (jd_pi σ1 a6 j6 (σ1.2.1 a5 j5)) fun τ7 =>
some (Sum.inl (s1 + 1), τ7))) jd_fu 0 σ) fun t2 σ2 =>
jd_o σ2 (10, 16) o0p fun a8 =>
jd_o σ2 (4, 4) (some t) fun a9 =>
jd_li (jd_pi σ2 a9 1 (σ2.2.1 a8 13)) fun τ10 =>
jd_li (jd_pi τ10 a9 2 0) fun τ11 =>
jd_li (jd_pi τ11 a9 3 0) fun τ12 =>
some ((), τ12)
set_option maxHeartbeats 4000000 in
set_option maxRecDepth 20000 in
theorem c_X4_begin {l : Launch} {s0 : State} {G : jd_G} (hF : jd_F s0 G) (σ : jd_Hp) (t : Nat) (ht : σ.1[t]? = some (4, 4)) (o0p : (Option Nat)) : jd_M l s0 G yX4_begin cX4_begin 3 none 0 je_v [jd_v G (some t), jd_v G o0p] σ (m_X4_begin t o0p σ) := by
  refine jd_enter hF (by decide) (fun G => [some (jd_v G (some t)), some (jd_v G o0p), none]) rfl (by simp [lv_args, jd_al, jd_v_cat, jd_cti, jd_ctl]) (by simp [lg_sl, jd_v_cat, jd_cti, jd_ctl]) (fun X hD hX => ?_)
  have hX : jd_C X RX4 "begin" cX4_begin 3 none := hX
  unfold m_X4_begin
  refine jr_iconst (pc := 0) hX 0 rfl dX4_begin_0 ?_
  refine jr_ist2 (pc := 1) hX (jn_r _ _) dX4_begin_1 ?_
  refine jr_loop (pc := 2) (fun (s1 : Int32) => [some (jd_v (jd_gG X) (some t)), some (jd_v (jd_gG X) o0p), some (.int s1)]) (fun (t2 : Unit) => [some (jd_v (jd_gG X) (some t)), some (jd_v (jd_gG X) o0p), none]) 26 0 (fun t2 σ2 => ?_) (fun K1 bk1 ex1 s1 σ1 => ?_)
  · refine jr_ald0 (pc := 26) hX dX4_begin_26 ?_
    refine jr_ald1 (pc := 27) hX dX4_begin_27 ?_
    refine jr_ck0 (fun a8 e8 h8 => ?_)
    refine jr_geti (pc := 28) hX fX4_28 rfl dX4_begin_28 h8 ?_
    refine jr_ck1 (fun a9 e9 h9 => ?_)
    refine jr_puti (pc := 31) hX fX4_15 rfl dX4_begin_31 h9 ?_
    refine jr_li ?_
    refine jr_ald0 (pc := 34) hX dX4_begin_34 ?_
    refine jr_iconst (pc := 35) hX 0 rfl dX4_begin_35 ?_
    refine jr_ek1 e9 ?_
    refine jr_puti (pc := 36) hX fX4_19 rfl dX4_begin_36 h9 ?_
    refine jr_li ?_
    refine jr_ald0 (pc := 39) hX dX4_begin_39 ?_
    refine jr_iconst (pc := 40) hX 0 rfl dX4_begin_40 ?_
    refine jr_ek1 e9 ?_
    refine jr_puti (pc := 41) hX fX4_22 rfl dX4_begin_41 h9 ?_
    refine jr_li ?_
    exact jr_vret (pc := 44) hX dX4_begin_44 rfl
  · refine jr_ild2 (pc := 2) hX dX4_begin_2 ?_
    refine jr_bipush (pc := 3) hX 6 rfl dX4_begin_3 ?_
    refine jr_icge (pc := 5) hX 26 dX4_begin_5 (by decide) ?_ ?_
    · refine jr_wk [true, true, false] ?_
      exact ex1 () _
    · refine jr_ald0 (pc := 8) hX dX4_begin_8 ?_
      refine jr_ck0 (fun a3 e3 h3 => ?_)
      refine jr_getr (pc := 9) hX fX4_9 rfl dX4_begin_9 h3 ?_
      refine jr_ild2 (pc := 12) hX dX4_begin_12 ?_
      refine jr_ald1 (pc := 13) hX dX4_begin_13 ?_
      refine jr_ck0 (fun a4 e4 h4 => ?_)
      refine jr_getr (pc := 14) hX fX4_25 rfl dX4_begin_14 h4 ?_
      refine jr_ild2 (pc := 17) hX dX4_begin_17 ?_
      refine jr_iaC (pc := 18) hX dX4_begin_18 (fun a5 n5 e5 h5 => ?_)
      refine jr_iaS (pc := 19) hX dX4_begin_19 (fun a6 n6 e6 h6 => ?_)
      refine jr_li ?_
      refine jr_inc2 (pc := 20) hX 1 rfl (jn_r _ _) dX4_begin_20 ?_
      refine jr_goto (pc := 23) hX 2 dX4_begin_23 (by decide) ?_
      exact bk1 (s1 + 1) _
def m_X5_init (t : Nat) (σ : jd_Hp) : Option (Unit × jd_Hp) :=
jd_li (jd_new σ (20, 6)) fun τ1 =>
jd_li (jd_pr τ1 t 0 (some σ.1.length)) fun τ2 =>
jd_li (jd_new τ2 (20, 6)) fun τ3 =>
jd_li (jd_pr τ3 t 1 (some τ2.1.length)) fun τ4 =>
jd_li (jd_new τ4 (20, 6)) fun τ5 =>
jd_li (jd_pr τ5 t 2 (some τ4.1.length)) fun τ6 =>
jd_li (jd_pi τ6 t 3 0) fun τ7 =>
some ((), τ7)
set_option maxHeartbeats 4000000 in
set_option maxRecDepth 20000 in
theorem c_X5_init {l : Launch} {s0 : State} {G : jd_G} (hF : jd_F s0 G) (σ : jd_Hp) (t : Nat) (ht : σ.1[t]? = some (5, 4)) : jd_M l s0 G yX5_init cX5_init 1 none 1 je_v [jd_v G (some t)] σ (m_X5_init t σ) := by
  refine jd_enter hF (by decide) (fun G => [some (jd_v G (some t))]) rfl (by simp [lv_args, jd_al, jd_v_cat, jd_cti, jd_ctl]) (by simp [lg_sl, jd_v_cat, jd_cti, jd_ctl]) (fun X hD hX => ?_)
  have hX : jd_C X RX5 "<init>" cX5_init 1 none := hX
  unfold m_X5_init
  refine jr_ald0 (pc := 0) hX dX5_init_0 ?_
  refine jr_oinit (pc := 1) hX lX5_3 (jd_d1 hD rfl) (Nat.le_of_ble_eq_true rfl) dX5_init_1 ?_
  refine jr_ald0 (pc := 4) hX dX5_init_4 ?_
  refine jr_bipush (pc := 5) hX 6 rfl dX5_init_5 ?_
  refine jr_newai (pc := 7) hX 6 (by decide) (by decide) (by decide) aC_int dX5_init_7 ?_
  refine jr_li ?_
  refine jr_putrF (pc := 9) hX fX5_9 rfl ⟨_, _, rfl, rfl⟩ rfl dX5_init_9 ((jd_p.new σ (20, 6)).at ht :) ?_
  refine jr_li ?_
  refine jr_ald0 (pc := 12) hX dX5_init_12 ?_
  refine jr_bipush (pc := 13) hX 6 rfl dX5_init_13 ?_
  refine jr_newai (pc := 15) hX 6 (by decide) (by decide) (by decide) aC_int dX5_init_15 ?_
  refine jr_li ?_
  refine jr_putrF (pc := 17) hX fX5_15 rfl ⟨_, _, rfl, rfl⟩ rfl dX5_init_17 ((jd_p.new (jd_pr (jd_new σ (20, 6)) t 0 (some σ.1.length)) (20, 6)).at ((jd_p.new σ (20, 6)).at ht :) :) ?_
  refine jr_li ?_
  refine jr_ald0 (pc := 20) hX dX5_init_20 ?_
  refine jr_bipush (pc := 21) hX 6 rfl dX5_init_21 ?_
  refine jr_newai (pc := 23) hX 6 (by decide) (by decide) (by decide) aC_int dX5_init_23 ?_
  refine jr_li ?_
  refine jr_putrF (pc := 25) hX fX5_18 rfl ⟨_, _, rfl, rfl⟩ rfl dX5_init_25 ((jd_p.new (jd_pr (jd_new (jd_pr (jd_new σ (20, 6)) t 0 (some σ.1.length)) (20, 6)) t 1 (some (jd_pr (jd_new σ (20, 6)) t 0 (some σ.1.length)).1.length)) (20, 6)).at ((jd_p.new (jd_pr (jd_new σ (20, 6)) t 0 (some σ.1.length)) (20, 6)).at ((jd_p.new σ (20, 6)).at ht :) :) :) ?_
  refine jr_li ?_
  refine jr_ald0 (pc := 28) hX dX5_init_28 ?_
  refine jr_iconst (pc := 29) hX 0 rfl dX5_init_29 ?_
  refine jr_puti (pc := 30) hX fX5_21 rfl dX5_init_30 ((jd_p.new (jd_pr (jd_new (jd_pr (jd_new σ (20, 6)) t 0 (some σ.1.length)) (20, 6)) t 1 (some (jd_pr (jd_new σ (20, 6)) t 0 (some σ.1.length)).1.length)) (20, 6)).at ((jd_p.new (jd_pr (jd_new σ (20, 6)) t 0 (some σ.1.length)) (20, 6)).at ((jd_p.new σ (20, 6)).at ht :) :) :) ?_
  refine jr_li ?_
  exact jr_vret (pc := 33) hX dX5_init_33 rfl
