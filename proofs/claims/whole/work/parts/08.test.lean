theorem fX6_34 : jd_fl RX6 34 6 5 8 false := ⟨_, _, rfl, by decide, by decide, rfl, rfl, jd_mem 337 (by decide +kernel) (by decide +kernel)⟩
theorem fX6_121 : jd_fl RX6 121 10 6 16 true := ⟨_, _, rfl, by decide, by decide, rfl, rfl, jd_mem 261 (by decide +kernel) (by decide +kernel)⟩
theorem fX6_12 : jd_fl RX6 12 6 0 8 true := ⟨_, _, rfl, by decide, by decide, rfl, rfl, jd_mem 326 (by decide +kernel) (by decide +kernel)⟩
theorem fX6_55 : jd_fl RX6 55 4 0 4 true := ⟨_, _, rfl, by decide, by decide, rfl, rfl, jd_mem 212 (by decide +kernel) (by decide +kernel)⟩
theorem lX6_89 : jd_ms RX6 89 Lib.Math.abs.name Lib.Math.abs.code 1 := ⟨jd_mem 716 (by decide +kernel) (by decide +kernel), jd_mem 717 (by decide +kernel) (by decide +kernel), jd_mem 105 (by decide +kernel) (by decide +kernel), jd_mem 718 (by decide +kernel) (by decide +kernel)⟩
theorem fX6_124 : jd_fl RX6 124 10 7 16 true := ⟨_, _, rfl, by decide, by decide, rfl, rfl, jd_mem 264 (by decide +kernel) (by decide +kernel)⟩
theorem fX6_52 : jd_fl RX6 52 10 11 16 false := ⟨_, _, rfl, by decide, by decide, rfl, rfl, jd_mem 279 (by decide +kernel) (by decide +kernel)⟩
theorem fX6_38 : jd_fl RX6 38 6 6 8 false := ⟨_, _, rfl, by decide, by decide, rfl, rfl, jd_mem 342 (by decide +kernel) (by decide +kernel)⟩
theorem qX11_has : Cond.static yX11_has ∈ jd_TB ∧ Cond.initialized yX11_has.cls ∈ jd_TB ∧ Cond.code yX11_has cX11_has 2 (some .boolean) ∈ jd_TB ∧ jd_ds yX11_has 2 := ⟨jd_mem 690 (by decide +kernel) (by decide +kernel), jd_mem 92 (by decide +kernel) (by decide +kernel), jd_mem 691 (by decide +kernel) (by decide +kernel), ⟨by decide, by decide, by decide +kernel⟩⟩
theorem lX6_65 : jd_st RX6 65 yX11_has cX11_has 2 (some .boolean) 2 := ⟨Or.inr ⟨"ShoreGuards", List.mem_of_getElem? (i := 719) (by decide +kernel)⟩, qX11_has.1, qX11_has.2.1, qX11_has.2.2.1, qX11_has.2.2.2, by decide⟩
theorem fX6_127 : jd_fl RX6 127 4 1 4 false := ⟨_, _, rfl, by decide, by decide, rfl, rfl, jd_mem 215 (by decide +kernel) (by decide +kernel)⟩
theorem fX4_9 : jd_fl RX4 9 4 0 4 true := ⟨_, _, rfl, by decide, by decide, rfl, rfl, jd_mem 211 (by decide +kernel) (by decide +kernel)⟩
theorem fX4_15 : jd_fl RX4 15 4 1 4 false := ⟨_, _, rfl, by decide, by decide, rfl, rfl, jd_mem 214 (by decide +kernel) (by decide +kernel)⟩
theorem fX4_19 : jd_fl RX4 19 4 2 4 false := ⟨_, _, rfl, by decide, by decide, rfl, rfl, jd_mem 217 (by decide +kernel) (by decide +kernel)⟩
theorem fX4_22 : jd_fl RX4 22 4 3 4 false := ⟨_, _, rfl, by decide, by decide, rfl, rfl, jd_mem 221 (by decide +kernel) (by decide +kernel)⟩
theorem lX4_3 : jd_oi RX4 3 := ⟨jd_mem 210 (by decide +kernel) (by decide +kernel), jd_mem 122 (by decide +kernel) (by decide +kernel), jd_mem 123 (by decide +kernel) (by decide +kernel)⟩
theorem aC_int : Cond.arrayClass .int ∈ jd_TB := jd_mem 197 (by decide +kernel) (by decide +kernel)
theorem fX3_7 : jd_fl RX3 7 3 0 2 false := ⟨_, _, rfl, by decide, by decide, rfl, rfl, jd_mem 474 (by decide +kernel) (by decide +kernel)⟩
theorem fX3_13 : jd_fl RX3 13 3 1 2 false := ⟨_, _, rfl, by decide, by decide, rfl, rfl, jd_mem 476 (by decide +kernel) (by decide +kernel)⟩
theorem qX3_commonDivisor : Cond.static yX3_commonDivisor ∈ jd_TB ∧ Cond.initialized yX3_commonDivisor.cls ∈ jd_TB ∧ Cond.code yX3_commonDivisor cX3_commonDivisor 11 (some .long) ∈ jd_TB ∧ jd_ds yX3_commonDivisor 2 := ⟨jd_mem 985 (by decide +kernel) (by decide +kernel), jd_mem 103 (by decide +kernel) (by decide +kernel), jd_mem 986 (by decide +kernel) (by decide +kernel), ⟨by decide, by decide, by decide +kernel⟩⟩
theorem lX3_16 : jd_st RX3 16 yX3_commonDivisor cX3_commonDivisor 11 (some .long) 2 := ⟨Or.inl (jd_mem 984 (by decide +kernel) (by decide +kernel)), qX3_commonDivisor.1, qX3_commonDivisor.2.1, qX3_commonDivisor.2.2.1, qX3_commonDivisor.2.2.2, by decide⟩
theorem dX11_has_0 : decode cX11_has 0 = .ok (.iload_n 0, 1) := by decide +kernel
theorem dX11_has_1 : decode cX11_has 1 = .ok (.iload_n 1, 1) := by decide +kernel
theorem dX11_has_2 : decode cX11_has 2 = .ok (.ishr, 1) := by decide +kernel
theorem dX11_has_3 : decode cX11_has 3 = .ok (.iconst 1, 1) := by decide +kernel
theorem dX11_has_4 : decode cX11_has 4 = .ok (.iand, 1) := by decide +kernel
theorem dX11_has_5 : decode cX11_has 5 = .ok (.ifCond .eq 7, 3) := by decide +kernel
theorem dX11_has_8 : decode cX11_has 8 = .ok (.iconst 1, 1) := by decide +kernel
theorem dX11_has_9 : decode cX11_has 9 = .ok (.goto 4, 3) := by decide +kernel
theorem dX11_has_12 : decode cX11_has 12 = .ok (.iconst 0, 1) := by decide +kernel
theorem dX11_has_13 : decode cX11_has 13 = .ok (.ireturn, 1) := by decide +kernel
theorem dX6_timeTo_0 : decode cX6_timeTo 0 = .ok (.aload_n 0, 1) := by decide +kernel
theorem dX6_timeTo_1 : decode cX6_timeTo 1 = .ok (.getfield 34, 3) := by decide +kernel
theorem dX6_timeTo_4 : decode cX6_timeTo 4 = .ok (.getfield 121, 3) := by decide +kernel
theorem dX6_timeTo_7 : decode cX6_timeTo 7 = .ok (.iload_n 1, 1) := by decide +kernel
theorem dX6_timeTo_8 : decode cX6_timeTo 8 = .ok (.iaload, 1) := by decide +kernel
theorem dX6_timeTo_9 : decode cX6_timeTo 9 = .ok (.aload_n 0, 1) := by decide +kernel
theorem dX6_timeTo_10 : decode cX6_timeTo 10 = .ok (.getfield 12, 3) := by decide +kernel
theorem dX6_timeTo_13 : decode cX6_timeTo 13 = .ok (.getfield 55, 3) := by decide +kernel
theorem dX6_timeTo_16 : decode cX6_timeTo 16 = .ok (.iload_n 2, 1) := by decide +kernel
theorem dX6_timeTo_17 : decode cX6_timeTo 17 = .ok (.iaload, 1) := by decide +kernel
theorem dX6_timeTo_18 : decode cX6_timeTo 18 = .ok (.isub, 1) := by decide +kernel
theorem dX6_timeTo_19 : decode cX6_timeTo 19 = .ok (.invokestatic 89, 3) := by decide +kernel
theorem dX6_timeTo_22 : decode cX6_timeTo 22 = .ok (.aload_n 0, 1) := by decide +kernel
theorem dX6_timeTo_23 : decode cX6_timeTo 23 = .ok (.getfield 34, 3) := by decide +kernel
theorem dX6_timeTo_26 : decode cX6_timeTo 26 = .ok (.getfield 124, 3) := by decide +kernel
theorem dX6_timeTo_29 : decode cX6_timeTo 29 = .ok (.iload_n 1, 1) := by decide +kernel
theorem dX6_timeTo_30 : decode cX6_timeTo 30 = .ok (.iaload, 1) := by decide +kernel
theorem dX6_timeTo_31 : decode cX6_timeTo 31 = .ok (.iadd, 1) := by decide +kernel
theorem dX6_timeTo_32 : decode cX6_timeTo 32 = .ok (.ireturn, 1) := by decide +kernel
theorem dX6_nearIn_0 : decode cX6_nearIn 0 = .ok (.iconst 0, 1) := by decide +kernel
theorem dX6_nearIn_1 : decode cX6_nearIn 1 = .ok (.istore_n 3, 1) := by decide +kernel
theorem dX6_nearIn_2 : decode cX6_nearIn 2 = .ok (.iconst 0, 1) := by decide +kernel
theorem dX6_nearIn_3 : decode cX6_nearIn 3 = .ok (.istore 4, 2) := by decide +kernel
theorem dX6_nearIn_5 : decode cX6_nearIn 5 = .ok (.iload 4, 2) := by decide +kernel
theorem dX6_nearIn_7 : decode cX6_nearIn 7 = .ok (.aload_n 0, 1) := by decide +kernel
theorem dX6_nearIn_8 : decode cX6_nearIn 8 = .ok (.getfield 34, 3) := by decide +kernel
theorem dX6_nearIn_11 : decode cX6_nearIn 11 = .ok (.getfield 52, 3) := by decide +kernel
theorem dX6_nearIn_14 : decode cX6_nearIn 14 = .ok (.if_icmp .ge 37, 3) := by decide +kernel
theorem dX6_nearIn_17 : decode cX6_nearIn 17 = .ok (.iload 4, 2) := by decide +kernel
theorem dX6_nearIn_19 : decode cX6_nearIn 19 = .ok (.iload_n 2, 1) := by decide +kernel
theorem dX6_nearIn_20 : decode cX6_nearIn 20 = .ok (.if_icmp .eq 25, 3) := by decide +kernel
theorem dX6_nearIn_23 : decode cX6_nearIn 23 = .ok (.aload_n 1, 1) := by decide +kernel
theorem dX6_nearIn_24 : decode cX6_nearIn 24 = .ok (.iload 4, 2) := by decide +kernel
theorem dX6_nearIn_26 : decode cX6_nearIn 26 = .ok (.iaload, 1) := by decide +kernel
theorem dX6_nearIn_27 : decode cX6_nearIn 27 = .ok (.aload_n 1, 1) := by decide +kernel
theorem dX6_nearIn_28 : decode cX6_nearIn 28 = .ok (.iload_n 2, 1) := by decide +kernel
theorem dX6_nearIn_29 : decode cX6_nearIn 29 = .ok (.iaload, 1) := by decide +kernel
theorem dX6_nearIn_30 : decode cX6_nearIn 30 = .ok (.isub, 1) := by decide +kernel
theorem dX6_nearIn_31 : decode cX6_nearIn 31 = .ok (.invokestatic 89, 3) := by decide +kernel
theorem dX6_nearIn_34 : decode cX6_nearIn 34 = .ok (.iconst 5, 1) := by decide +kernel
theorem dX6_nearIn_35 : decode cX6_nearIn 35 = .ok (.if_icmp .gt 10, 3) := by decide +kernel
theorem dX6_nearIn_38 : decode cX6_nearIn 38 = .ok (.iload_n 3, 1) := by decide +kernel
theorem dX6_nearIn_39 : decode cX6_nearIn 39 = .ok (.iconst 1, 1) := by decide +kernel
theorem dX6_nearIn_40 : decode cX6_nearIn 40 = .ok (.iload 4, 2) := by decide +kernel
theorem dX6_nearIn_42 : decode cX6_nearIn 42 = .ok (.ishl, 1) := by decide +kernel
theorem dX6_nearIn_43 : decode cX6_nearIn 43 = .ok (.ior, 1) := by decide +kernel
theorem dX6_nearIn_44 : decode cX6_nearIn 44 = .ok (.istore_n 3, 1) := by decide +kernel
theorem dX6_nearIn_45 : decode cX6_nearIn 45 = .ok (.iinc 4 1, 3) := by decide +kernel
theorem dX6_nearIn_48 : decode cX6_nearIn 48 = .ok (.goto (-43), 3) := by decide +kernel
theorem dX6_nearIn_51 : decode cX6_nearIn 51 = .ok (.iload_n 3, 1) := by decide +kernel
theorem dX6_nearIn_52 : decode cX6_nearIn 52 = .ok (.ireturn, 1) := by decide +kernel
theorem dX6_sinks_0 : decode cX6_sinks 0 = .ok (.aload_n 0, 1) := by decide +kernel
theorem dX6_sinks_1 : decode cX6_sinks 1 = .ok (.getfield 38, 3) := by decide +kernel
theorem dX6_sinks_4 : decode cX6_sinks 4 = .ok (.iload_n 1, 1) := by decide +kernel
theorem dX6_sinks_5 : decode cX6_sinks 5 = .ok (.invokestatic 65, 3) := by decide +kernel
theorem dX6_sinks_8 : decode cX6_sinks 8 = .ok (.ireturn, 1) := by decide +kernel
theorem dX6_isManned_0 : decode cX6_isManned 0 = .ok (.aload_n 0, 1) := by decide +kernel
theorem dX6_isManned_1 : decode cX6_isManned 1 = .ok (.getfield 12, 3) := by decide +kernel
theorem dX6_isManned_4 : decode cX6_isManned 4 = .ok (.getfield 127, 3) := by decide +kernel
theorem dX6_isManned_7 : decode cX6_isManned 7 = .ok (.iload_n 1, 1) := by decide +kernel
theorem dX6_isManned_8 : decode cX6_isManned 8 = .ok (.invokestatic 65, 3) := by decide +kernel
theorem dX6_isManned_11 : decode cX6_isManned 11 = .ok (.ireturn, 1) := by decide +kernel
theorem dX4_copy_0 : decode cX4_copy 0 = .ok (.iconst 0, 1) := by decide +kernel
theorem dX4_copy_1 : decode cX4_copy 1 = .ok (.istore_n 2, 1) := by decide +kernel
theorem dX4_copy_2 : decode cX4_copy 2 = .ok (.iload_n 2, 1) := by decide +kernel
theorem dX4_copy_3 : decode cX4_copy 3 = .ok (.bipush 6, 2) := by decide +kernel
theorem dX4_copy_5 : decode cX4_copy 5 = .ok (.if_icmp .ge 21, 3) := by decide +kernel
theorem dX4_copy_8 : decode cX4_copy 8 = .ok (.aload_n 0, 1) := by decide +kernel
theorem dX4_copy_9 : decode cX4_copy 9 = .ok (.getfield 9, 3) := by decide +kernel
theorem dX4_copy_12 : decode cX4_copy 12 = .ok (.iload_n 2, 1) := by decide +kernel
theorem dX4_copy_13 : decode cX4_copy 13 = .ok (.aload_n 1, 1) := by decide +kernel
theorem dX4_copy_14 : decode cX4_copy 14 = .ok (.getfield 9, 3) := by decide +kernel
theorem dX4_copy_17 : decode cX4_copy 17 = .ok (.iload_n 2, 1) := by decide +kernel
theorem dX4_copy_18 : decode cX4_copy 18 = .ok (.iaload, 1) := by decide +kernel
theorem dX4_copy_19 : decode cX4_copy 19 = .ok (.iastore, 1) := by decide +kernel
theorem dX4_copy_20 : decode cX4_copy 20 = .ok (.iinc 2 1, 3) := by decide +kernel
theorem dX4_copy_23 : decode cX4_copy 23 = .ok (.goto (-21), 3) := by decide +kernel
theorem dX4_copy_26 : decode cX4_copy 26 = .ok (.aload_n 0, 1) := by decide +kernel
theorem dX4_copy_27 : decode cX4_copy 27 = .ok (.aload_n 1, 1) := by decide +kernel
theorem dX4_copy_28 : decode cX4_copy 28 = .ok (.getfield 15, 3) := by decide +kernel
theorem dX4_copy_31 : decode cX4_copy 31 = .ok (.putfield 15, 3) := by decide +kernel
theorem dX4_copy_34 : decode cX4_copy 34 = .ok (.aload_n 0, 1) := by decide +kernel
theorem dX4_copy_35 : decode cX4_copy 35 = .ok (.aload_n 1, 1) := by decide +kernel
theorem dX4_copy_36 : decode cX4_copy 36 = .ok (.getfield 19, 3) := by decide +kernel
theorem dX4_copy_39 : decode cX4_copy 39 = .ok (.putfield 19, 3) := by decide +kernel
theorem dX4_copy_42 : decode cX4_copy 42 = .ok (.aload_n 0, 1) := by decide +kernel
theorem dX4_copy_43 : decode cX4_copy 43 = .ok (.aload_n 1, 1) := by decide +kernel
theorem dX4_copy_44 : decode cX4_copy 44 = .ok (.getfield 22, 3) := by decide +kernel
theorem dX4_copy_47 : decode cX4_copy 47 = .ok (.putfield 22, 3) := by decide +kernel
theorem dX4_copy_50 : decode cX4_copy 50 = .ok (.return_, 1) := by decide +kernel
theorem dX4_init_0 : decode cX4_init 0 = .ok (.aload_n 0, 1) := by decide +kernel
theorem dX4_init_1 : decode cX4_init 1 = .ok (.invokespecial 3, 3) := by decide +kernel
theorem dX4_init_4 : decode cX4_init 4 = .ok (.aload_n 0, 1) := by decide +kernel
theorem dX4_init_5 : decode cX4_init 5 = .ok (.bipush 6, 2) := by decide +kernel
theorem dX4_init_7 : decode cX4_init 7 = .ok (.newarray .int, 2) := by decide +kernel
theorem dX4_init_9 : decode cX4_init 9 = .ok (.putfield 9, 3) := by decide +kernel
theorem dX4_init_12 : decode cX4_init 12 = .ok (.aload_n 0, 1) := by decide +kernel
theorem dX4_init_13 : decode cX4_init 13 = .ok (.iconst 0, 1) := by decide +kernel
theorem dX4_init_14 : decode cX4_init 14 = .ok (.putfield 15, 3) := by decide +kernel
theorem dX4_init_17 : decode cX4_init 17 = .ok (.aload_n 0, 1) := by decide +kernel
theorem dX4_init_18 : decode cX4_init 18 = .ok (.iconst 0, 1) := by decide +kernel
theorem dX4_init_19 : decode cX4_init 19 = .ok (.putfield 19, 3) := by decide +kernel
theorem dX4_init_22 : decode cX4_init 22 = .ok (.aload_n 0, 1) := by decide +kernel
theorem dX4_init_23 : decode cX4_init 23 = .ok (.iconst 0, 1) := by decide +kernel
theorem dX4_init_24 : decode cX4_init 24 = .ok (.putfield 22, 3) := by decide +kernel
theorem dX4_init_27 : decode cX4_init 27 = .ok (.return_, 1) := by decide +kernel
theorem dX3_commonDivisor_0 : decode cX3_commonDivisor 0 = .ok (.lload_n 0, 1) := by decide +kernel
theorem dX3_commonDivisor_1 : decode cX3_commonDivisor 1 = .ok (.lstore 4, 2) := by decide +kernel
theorem dX3_commonDivisor_3 : decode cX3_commonDivisor 3 = .ok (.lload_n 2, 1) := by decide +kernel
theorem dX3_commonDivisor_4 : decode cX3_commonDivisor 4 = .ok (.lstore 6, 2) := by decide +kernel
theorem dX3_commonDivisor_6 : decode cX3_commonDivisor 6 = .ok (.iconst 0, 1) := by decide +kernel
theorem dX3_commonDivisor_7 : decode cX3_commonDivisor 7 = .ok (.istore 8, 2) := by decide +kernel
theorem dX3_commonDivisor_9 : decode cX3_commonDivisor 9 = .ok (.iload 8, 2) := by decide +kernel
theorem dX3_commonDivisor_11 : decode cX3_commonDivisor 11 = .ok (.sipush 200, 3) := by decide +kernel
theorem dX3_commonDivisor_14 : decode cX3_commonDivisor 14 = .ok (.if_icmp .ge 31, 3) := by decide +kernel
theorem dX3_commonDivisor_17 : decode cX3_commonDivisor 17 = .ok (.lload 6, 2) := by decide +kernel
theorem dX3_commonDivisor_19 : decode cX3_commonDivisor 19 = .ok (.lconst 0, 1) := by decide +kernel
theorem dX3_commonDivisor_20 : decode cX3_commonDivisor 20 = .ok (.lcmp, 1) := by decide +kernel
theorem dX3_commonDivisor_21 : decode cX3_commonDivisor 21 = .ok (.ifCond .eq 24, 3) := by decide +kernel
theorem dX3_commonDivisor_24 : decode cX3_commonDivisor 24 = .ok (.lload 4, 2) := by decide +kernel
theorem dX3_commonDivisor_26 : decode cX3_commonDivisor 26 = .ok (.lload 6, 2) := by decide +kernel
theorem dX3_commonDivisor_28 : decode cX3_commonDivisor 28 = .ok (.lrem, 1) := by decide +kernel
theorem dX3_commonDivisor_29 : decode cX3_commonDivisor 29 = .ok (.lstore 9, 2) := by decide +kernel
theorem dX3_commonDivisor_31 : decode cX3_commonDivisor 31 = .ok (.lload 6, 2) := by decide +kernel
theorem dX3_commonDivisor_33 : decode cX3_commonDivisor 33 = .ok (.lstore 4, 2) := by decide +kernel
theorem dX3_commonDivisor_35 : decode cX3_commonDivisor 35 = .ok (.lload 9, 2) := by decide +kernel
theorem dX3_commonDivisor_37 : decode cX3_commonDivisor 37 = .ok (.lstore 6, 2) := by decide +kernel
theorem dX3_commonDivisor_39 : decode cX3_commonDivisor 39 = .ok (.iinc 8 1, 3) := by decide +kernel
theorem dX3_commonDivisor_42 : decode cX3_commonDivisor 42 = .ok (.goto (-33), 3) := by decide +kernel
theorem dX3_commonDivisor_45 : decode cX3_commonDivisor 45 = .ok (.lload 4, 2) := by decide +kernel
theorem dX3_commonDivisor_47 : decode cX3_commonDivisor 47 = .ok (.lreturn, 1) := by decide +kernel
theorem dX3_reduce_0 : decode cX3_reduce 0 = .ok (.aload_n 0, 1) := by decide +kernel
theorem dX3_reduce_1 : decode cX3_reduce 1 = .ok (.lconst 0, 1) := by decide +kernel
theorem dX3_reduce_2 : decode cX3_reduce 2 = .ok (.putfield 7, 3) := by decide +kernel
theorem dX3_reduce_5 : decode cX3_reduce 5 = .ok (.aload_n 0, 1) := by decide +kernel
theorem dX3_reduce_6 : decode cX3_reduce 6 = .ok (.lconst 1, 1) := by decide +kernel
theorem dX3_reduce_7 : decode cX3_reduce 7 = .ok (.putfield 13, 3) := by decide +kernel
theorem dX3_reduce_10 : decode cX3_reduce 10 = .ok (.lload_n 1, 1) := by decide +kernel
theorem dX3_reduce_11 : decode cX3_reduce 11 = .ok (.lconst 0, 1) := by decide +kernel
theorem dX3_reduce_12 : decode cX3_reduce 12 = .ok (.lcmp, 1) := by decide +kernel
theorem dX3_reduce_13 : decode cX3_reduce 13 = .ok (.ifCond .le 39, 3) := by decide +kernel
theorem dX3_reduce_16 : decode cX3_reduce 16 = .ok (.lload_n 3, 1) := by decide +kernel
theorem dX3_reduce_17 : decode cX3_reduce 17 = .ok (.lconst 0, 1) := by decide +kernel
theorem dX3_reduce_18 : decode cX3_reduce 18 = .ok (.lcmp, 1) := by decide +kernel
theorem dX3_reduce_19 : decode cX3_reduce 19 = .ok (.ifCond .le 33, 3) := by decide +kernel
theorem dX3_reduce_22 : decode cX3_reduce 22 = .ok (.lload_n 1, 1) := by decide +kernel
theorem dX3_reduce_23 : decode cX3_reduce 23 = .ok (.lload_n 3, 1) := by decide +kernel
theorem dX3_reduce_24 : decode cX3_reduce 24 = .ok (.invokestatic 16, 3) := by decide +kernel
theorem dX3_reduce_27 : decode cX3_reduce 27 = .ok (.lstore 5, 2) := by decide +kernel
theorem dX3_reduce_29 : decode cX3_reduce 29 = .ok (.lload 5, 2) := by decide +kernel
theorem dX3_reduce_31 : decode cX3_reduce 31 = .ok (.lconst 0, 1) := by decide +kernel
theorem dX3_reduce_32 : decode cX3_reduce 32 = .ok (.lcmp, 1) := by decide +kernel
theorem dX3_reduce_33 : decode cX3_reduce 33 = .ok (.ifCond .le 19, 3) := by decide +kernel
theorem dX3_reduce_36 : decode cX3_reduce 36 = .ok (.aload_n 0, 1) := by decide +kernel
theorem dX3_reduce_37 : decode cX3_reduce 37 = .ok (.lload_n 1, 1) := by decide +kernel
theorem dX3_reduce_38 : decode cX3_reduce 38 = .ok (.lload 5, 2) := by decide +kernel
theorem dX3_reduce_40 : decode cX3_reduce 40 = .ok (.ldiv, 1) := by decide +kernel
theorem dX3_reduce_41 : decode cX3_reduce 41 = .ok (.putfield 7, 3) := by decide +kernel
theorem dX3_reduce_44 : decode cX3_reduce 44 = .ok (.aload_n 0, 1) := by decide +kernel
theorem dX3_reduce_45 : decode cX3_reduce 45 = .ok (.lload_n 3, 1) := by decide +kernel
theorem dX3_reduce_46 : decode cX3_reduce 46 = .ok (.lload 5, 2) := by decide +kernel
theorem dX3_reduce_48 : decode cX3_reduce 48 = .ok (.ldiv, 1) := by decide +kernel
theorem dX3_reduce_49 : decode cX3_reduce 49 = .ok (.putfield 13, 3) := by decide +kernel
theorem dX3_reduce_52 : decode cX3_reduce 52 = .ok (.return_, 1) := by decide +kernel
def m_X11_has (x0p : Int32) (x1p : Int32) (σ : jd_Hp) : Option (Int32 × jd_Hp) :=
jd_if (((x0p >>> (x1p &&& 31)) &&& 1) = 0) (
some (0, σ)) (
some (1, σ))
set_option maxHeartbeats 4000000 in
set_option maxRecDepth 20000 in
theorem c_X11_has {l : Launch} {s0 : State} {G : jd_G} (hF : jd_F s0 G) (σ : jd_Hp) (x0p : Int32) (x1p : Int32) : jd_M l s0 G yX11_has cX11_has 2 (some .boolean) 0 je_i [.int x0p, .int x1p] σ (m_X11_has x0p x1p σ) := by
  refine jd_enter hF (by decide) (fun G => [some (.int x0p), some (.int x1p)]) rfl (by simp [lv_args, jd_al, jd_v_cat, jd_cti, jd_ctl]) (by simp [lg_sl, jd_v_cat, jd_cti, jd_ctl]) (fun X hD hX => ?_)
  have hX : jd_C X RX11 "has" cX11_has 2 (some .boolean) := hX
  unfold m_X11_has
  refine jr_ild0 (pc := 0) hX dX11_has_0 ?_
  refine jr_ild1 (pc := 1) hX dX11_has_1 ?_
  refine jr_ishr (pc := 2) hX dX11_has_2 ?_
  refine jr_iconst (pc := 3) hX 1 rfl dX11_has_3 ?_
  refine jr_iand (pc := 4) hX dX11_has_4 ?_
  refine jr_ifeq (pc := 5) hX 12 dX11_has_5 (by decide) ?_ ?_
  · refine jr_iconst (pc := 12) hX 0 rfl dX11_has_12 ?_
    exact jr_zret (pc := 13) hX dX11_has_13 (Or.inl rfl) rfl
  · refine jr_iconst (pc := 8) hX 1 rfl dX11_has_8 ?_
    refine jr_goto (pc := 9) hX 13 dX11_has_9 (by decide) ?_
    exact jr_zret (pc := 13) hX dX11_has_13 (Or.inr rfl) rfl
def m_X6_timeTo (t : Nat) (x0p : Int32) (x1p : Int32) (σ : jd_Hp) : Option (Int32 × jd_Hp) :=
jd_o σ (10, 16) (σ.2.2.2 t 5) fun a1 =>
jd_ia σ 20 (σ.2.2.2 a1 6) x0p fun a2 j2 =>
jd_o σ (4, 4) (σ.2.2.2 t 0) fun a3 =>
jd_ia σ 20 (σ.2.2.2 a3 0) x1p fun a4 j4 =>
jd_ia σ 20 (σ.2.2.2 a1 7) x0p fun a5 j5 =>
some (((jd_abs ((σ.2.1 a2 j2) - (σ.2.1 a4 j4))) + (σ.2.1 a5 j5)), σ)
set_option maxHeartbeats 4000000 in
set_option maxRecDepth 20000 in
theorem c_X6_timeTo {l : Launch} {s0 : State} {G : jd_G} (hF : jd_F s0 G) (σ : jd_Hp) (t : Nat) (ht : σ.1[t]? = some (6, 8)) (x0p : Int32) (x1p : Int32) : jd_M l s0 G yX6_timeTo cX6_timeTo 3 (some .int) 1 je_i [jd_v G (some t), .int x0p, .int x1p] σ (m_X6_timeTo t x0p x1p σ) := by
  refine jd_enter hF (by decide) (fun G => [some (jd_v G (some t)), some (.int x0p), some (.int x1p)]) rfl (by simp [lv_args, jd_al, jd_v_cat, jd_cti, jd_ctl]) (by simp [lg_sl, jd_v_cat, jd_cti, jd_ctl]) (fun X hD hX => ?_)
  have hX : jd_C X RX6 "timeTo" cX6_timeTo 3 (some .int) := hX
  unfold m_X6_timeTo
  refine jr_ald0 (pc := 0) hX dX6_timeTo_0 ?_
  refine jr_getr (pc := 1) hX fX6_34 rfl dX6_timeTo_1 ht ?_
  refine jr_ck0 (fun a1 e1 h1 => ?_)
  refine jr_getr (pc := 4) hX fX6_121 rfl dX6_timeTo_4 h1 ?_
  refine jr_ild1 (pc := 7) hX dX6_timeTo_7 ?_
  refine jr_iaC (pc := 8) hX dX6_timeTo_8 (fun a2 n2 e2 h2 => ?_)
  refine jr_ald0 (pc := 9) hX dX6_timeTo_9 ?_
  refine jr_getr (pc := 10) hX fX6_12 rfl dX6_timeTo_10 ht ?_
  refine jr_ck0 (fun a3 e3 h3 => ?_)
  refine jr_getr (pc := 13) hX fX6_55 rfl dX6_timeTo_13 h3 ?_
  refine jr_ild2 (pc := 16) hX dX6_timeTo_16 ?_
  refine jr_iaC (pc := 17) hX dX6_timeTo_17 (fun a4 n4 e4 h4 => ?_)
  refine jr_isub (pc := 18) hX dX6_timeTo_18 ?_
  refine jr_mabs (pc := 19) hX lX6_89 (jd_d1 hD rfl) (Nat.le_of_ble_eq_true rfl) dX6_timeTo_19 ?_
  refine jr_ald0 (pc := 22) hX dX6_timeTo_22 ?_
  refine jr_getr (pc := 23) hX fX6_34 rfl dX6_timeTo_23 ht ?_
  refine jr_ek0 e1 ?_
  refine jr_getr (pc := 26) hX fX6_124 rfl dX6_timeTo_26 h1 ?_
  refine jr_ild1 (pc := 29) hX dX6_timeTo_29 ?_
  refine jr_iaC (pc := 30) hX dX6_timeTo_30 (fun a5 n5 e5 h5 => ?_)
  refine jr_iadd (pc := 31) hX dX6_timeTo_31 ?_
  exact jr_iret (pc := 32) hX dX6_timeTo_32 rfl
def m_X6_nearIn (t : Nat) (o0p : (Option Nat)) (x1p : Int32) (σ : jd_Hp) : Option (Int32 × jd_Hp) :=
jd_b (jd_lp (S := Int32 × Int32) (T := Int32) (fun s1 σ1 =>
jd_o σ1 (6, 8) (some t) fun a3 =>
jd_o σ1 (10, 16) (σ1.2.2.2 a3 5) fun a4 =>
jd_if ((σ1.2.1 a4 11) ≤ s1.2) (
some ((Sum.inr s1.1), σ1)) (
jd_if (s1.2 = x1p) (
some (Sum.inl (s1.1, (s1.2 + 1)), σ1)) (
jd_ia σ1 20 o0p s1.2 fun a5 j5 =>
jd_ia σ1 20 o0p x1p fun a6 j6 =>
jd_if (5 < (jd_abs ((σ1.2.1 a5 j5) - (σ1.2.1 a6 j6)))) (
some (Sum.inl (s1.1, (s1.2 + 1)), σ1)) (
jd_li (s1.1 ||| (1 <<< (s1.2 &&& 31))) fun x7 =>
some (Sum.inl (x7, (s1.2 + 1)), σ1))))) jd_fu (0, 0) σ) fun t2 σ2 =>
some (t2, σ2)
set_option maxHeartbeats 4000000 in
set_option maxRecDepth 20000 in
theorem c_X6_nearIn {l : Launch} {s0 : State} {G : jd_G} (hF : jd_F s0 G) (σ : jd_Hp) (t : Nat) (ht : σ.1[t]? = some (6, 8)) (o0p : (Option Nat)) (x1p : Int32) : jd_M l s0 G yX6_nearIn cX6_nearIn 5 (some .int) 1 je_i [jd_v G (some t), jd_v G o0p, .int x1p] σ (m_X6_nearIn t o0p x1p σ) := by
  refine jd_enter hF (by decide) (fun G => [some (jd_v G (some t)), some (jd_v G o0p), some (.int x1p), none, none]) rfl (by simp [lv_args, jd_al, jd_v_cat, jd_cti, jd_ctl]) (by simp [lg_sl, jd_v_cat, jd_cti, jd_ctl]) (fun X hD hX => ?_)
  have hX : jd_C X RX6 "nearIn" cX6_nearIn 5 (some .int) := hX
  unfold m_X6_nearIn
  refine jr_iconst (pc := 0) hX 0 rfl dX6_nearIn_0 ?_
  refine jr_ist3 (pc := 1) hX (jn_i _) dX6_nearIn_1 ?_
  refine jr_iconst (pc := 2) hX 0 rfl dX6_nearIn_2 ?_
  refine jr_ist4 (pc := 3) hX (jn_i _) dX6_nearIn_3 ?_
  refine jr_loop (pc := 5) (fun s1 => [some (jd_v (jd_gG X) (some t)), some (jd_v (jd_gG X) o0p), some (.int x1p), some (.int s1.1), some (.int s1.2)]) (fun t2 => [none, none, none, some (.int t2), none]) 51 (0, 0) (fun t2 σ2 => ?_) (fun K1 bk1 ex1 s1 σ1 => ?_)
  · refine jr_ild3 (pc := 51) hX dX6_nearIn_51 ?_
    exact jr_iret (pc := 52) hX dX6_nearIn_52 rfl
  · refine jr_ild4 (pc := 5) hX dX6_nearIn_5 ?_
    refine jr_ald0 (pc := 7) hX dX6_nearIn_7 ?_
    refine jr_ck0 (fun a3 e3 h3 => ?_)
    refine jr_getr (pc := 8) hX fX6_34 rfl dX6_nearIn_8 h3 ?_
    refine jr_ck0 (fun a4 e4 h4 => ?_)
    refine jr_geti (pc := 11) hX fX6_52 rfl dX6_nearIn_11 h4 ?_
    refine jr_icge (pc := 14) hX 51 dX6_nearIn_14 (by decide) ?_ ?_
    · refine jr_wk [false, false, false, true, false] ?_
      exact ex1 s1.1 _
    · refine jr_ild4 (pc := 17) hX dX6_nearIn_17 ?_
      refine jr_ild2 (pc := 19) hX dX6_nearIn_19 ?_
      refine jr_iceq (pc := 20) hX 45 dX6_nearIn_20 (by decide) ?_ ?_
      · refine jr_inc4 (pc := 45) hX 1 rfl (jn_i _) dX6_nearIn_45 ?_
        refine jr_goto (pc := 48) hX 5 dX6_nearIn_48 (by decide) ?_
        exact bk1 (s1.1, (s1.2 + 1)) _
      · refine jr_ald1 (pc := 23) hX dX6_nearIn_23 ?_
        refine jr_ild4 (pc := 24) hX dX6_nearIn_24 ?_
        refine jr_iaC (pc := 26) hX dX6_nearIn_26 (fun a5 n5 e5 h5 => ?_)
        refine jr_ald1 (pc := 27) hX dX6_nearIn_27 ?_
        refine jr_ild2 (pc := 28) hX dX6_nearIn_28 ?_
        refine jr_iaC (pc := 29) hX dX6_nearIn_29 (fun a6 n6 e6 h6 => ?_)
        refine jr_isub (pc := 30) hX dX6_nearIn_30 ?_
        refine jr_mabs (pc := 31) hX lX6_89 (jd_d1 hD rfl) (Nat.le_of_ble_eq_true rfl) dX6_nearIn_31 ?_
        refine jr_iconst (pc := 34) hX 5 rfl dX6_nearIn_34 ?_
        refine jr_icgt (pc := 35) hX 45 dX6_nearIn_35 (by decide) ?_ ?_
        · refine jr_inc4 (pc := 45) hX 1 rfl (jn_i _) dX6_nearIn_45 ?_
          refine jr_goto (pc := 48) hX 5 dX6_nearIn_48 (by decide) ?_
          exact bk1 (s1.1, (s1.2 + 1)) _
        · refine jr_ild3 (pc := 38) hX dX6_nearIn_38 ?_
          refine jr_iconst (pc := 39) hX 1 rfl dX6_nearIn_39 ?_
          refine jr_ild4 (pc := 40) hX dX6_nearIn_40 ?_
          refine jr_ishl (pc := 42) hX dX6_nearIn_42 ?_
          refine jr_ior (pc := 43) hX dX6_nearIn_43 ?_
          refine jr_ist3 (pc := 44) hX (jn_i _) dX6_nearIn_44 ?_
          refine jr_li ?_
          refine jr_inc4 (pc := 45) hX 1 rfl (jn_i _) dX6_nearIn_45 ?_
          refine jr_goto (pc := 48) hX 5 dX6_nearIn_48 (by decide) ?_
          exact bk1 ((s1.1 ||| (1 <<< (s1.2 &&& 31))), (s1.2 + 1)) _
def m_X6_sinks (t : Nat) (x0p : Int32) (σ : jd_Hp) : Option (Int32 × jd_Hp) :=
jd_b (m_X11_has (σ.2.1 t 6) x0p σ) fun r1 σ1 =>
some ((r1 &&& 1), σ1)
set_option maxHeartbeats 4000000 in
set_option maxRecDepth 20000 in
theorem c_X6_sinks {l : Launch} {s0 : State} {G : jd_G} (hF : jd_F s0 G) (σ : jd_Hp) (t : Nat) (ht : σ.1[t]? = some (6, 8)) (x0p : Int32) : jd_M l s0 G yX6_sinks cX6_sinks 2 (some .boolean) 1 je_i [jd_v G (some t), .int x0p] σ (m_X6_sinks t x0p σ) := by
  refine jd_enter hF (by decide) (fun G => [some (jd_v G (some t)), some (.int x0p)]) rfl (by simp [lv_args, jd_al, jd_v_cat, jd_cti, jd_ctl]) (by simp [lg_sl, jd_v_cat, jd_cti, jd_ctl]) (fun X hD hX => ?_)
  have hX : jd_C X RX6 "sinks" cX6_sinks 2 (some .boolean) := hX
  unfold m_X6_sinks
  refine jr_ald0 (pc := 0) hX dX6_sinks_0 ?_
  refine jr_geti (pc := 1) hX fX6_38 rfl dX6_sinks_1 ht ?_
  refine jr_ild1 (pc := 4) hX dX6_sinks_4 ?_
  refine jr_cS2i (pc := 5) hX lX6_65 (c_X11_has hX.F _ _ _) (jd_dd hD rfl) (Nat.le_of_ble_eq_true rfl) dX6_sinks_5 (fun r1 σ1 p1 => ?_)
  exact jr_bret (pc := 8) hX dX6_sinks_8 rfl
def m_X6_isManned (t : Nat) (x0p : Int32) (σ : jd_Hp) : Option (Int32 × jd_Hp) :=
jd_o σ (4, 4) (σ.2.2.2 t 0) fun a1 =>
jd_b (m_X11_has (σ.2.1 a1 1) x0p σ) fun r2 σ2 =>
some ((r2 &&& 1), σ2)
set_option maxHeartbeats 4000000 in
set_option maxRecDepth 20000 in
theorem c_X6_isManned {l : Launch} {s0 : State} {G : jd_G} (hF : jd_F s0 G) (σ : jd_Hp) (t : Nat) (ht : σ.1[t]? = some (6, 8)) (x0p : Int32) : jd_M l s0 G yX6_isManned cX6_isManned 2 (some .boolean) 1 je_i [jd_v G (some t), .int x0p] σ (m_X6_isManned t x0p σ) := by
  refine jd_enter hF (by decide) (fun G => [some (jd_v G (some t)), some (.int x0p)]) rfl (by simp [lv_args, jd_al, jd_v_cat, jd_cti, jd_ctl]) (by simp [lg_sl, jd_v_cat, jd_cti, jd_ctl]) (fun X hD hX => ?_)
  have hX : jd_C X RX6 "isManned" cX6_isManned 2 (some .boolean) := hX
  unfold m_X6_isManned
  refine jr_ald0 (pc := 0) hX dX6_isManned_0 ?_
  refine jr_getr (pc := 1) hX fX6_12 rfl dX6_isManned_1 ht ?_
  refine jr_ck0 (fun a1 e1 h1 => ?_)
  refine jr_geti (pc := 4) hX fX6_127 rfl dX6_isManned_4 h1 ?_
  refine jr_ild1 (pc := 7) hX dX6_isManned_7 ?_
  refine jr_cS2i (pc := 8) hX lX6_65 (c_X11_has hX.F _ _ _) (jd_dd hD rfl) (Nat.le_of_ble_eq_true rfl) dX6_isManned_8 (fun r2 σ2 p2 => ?_)
  exact jr_bret (pc := 11) hX dX6_isManned_11 rfl
def m_X4_copy (t : Nat) (o0p : (Option Nat)) (σ : jd_Hp) : Option (Unit × jd_Hp) :=
jd_b (jd_lp (S := Int32) (T := Unit) (fun s1 σ1 =>
jd_if (6 ≤ s1) (
some ((Sum.inr ()), σ1)) (
jd_o σ1 (4, 4) (some t) fun a3 =>
jd_o σ1 (4, 4) o0p fun a4 =>
jd_ia σ1 20 (σ1.2.2.2 a4 0) s1 fun a5 j5 =>
jd_ia σ1 20 (σ1.2.2.2 a3 0) s1 fun a6 j6 =>
some (Sum.inl (s1 + 1), (jd_pi σ1 a6 j6 (σ1.2.1 a5 j5))))) jd_fu 0 σ) fun t2 σ2 =>
jd_o σ2 (4, 4) o0p fun a7 =>
jd_o σ2 (4, 4) (some t) fun a8 =>
some ((), (jd_pi (jd_pi (jd_pi σ2 a8 1 (σ2.2.1 a7 1)) a8 2 ((jd_pi σ2 a8 1 (σ2.2.1 a7 1)).2.1 a7 2)) a8 3 ((jd_pi (jd_pi σ2 a8 1 (σ2.2.1 a7 1)) a8 2 ((jd_pi σ2 a8 1 (σ2.2.1 a7 1)).2.1 a7 2)).2.1 a7 3)))
set_option maxHeartbeats 4000000 in
set_option maxRecDepth 20000 in
theorem c_X4_copy {l : Launch} {s0 : State} {G : jd_G} (hF : jd_F s0 G) (σ : jd_Hp) (t : Nat) (ht : σ.1[t]? = some (4, 4)) (o0p : (Option Nat)) : jd_M l s0 G yX4_copy cX4_copy 3 none 0 je_v [jd_v G (some t), jd_v G o0p] σ (m_X4_copy t o0p σ) := by
  refine jd_enter hF (by decide) (fun G => [some (jd_v G (some t)), some (jd_v G o0p), none]) rfl (by simp [lv_args, jd_al, jd_v_cat, jd_cti, jd_ctl]) (by simp [lg_sl, jd_v_cat, jd_cti, jd_ctl]) (fun X hD hX => ?_)
  have hX : jd_C X RX4 "copy" cX4_copy 3 none := hX
  unfold m_X4_copy
  refine jr_iconst (pc := 0) hX 0 rfl dX4_copy_0 ?_
  refine jr_ist2 (pc := 1) hX (jn_r _ _) dX4_copy_1 ?_
  refine jr_loop (pc := 2) (fun s1 => [some (jd_v (jd_gG X) (some t)), some (jd_v (jd_gG X) o0p), some (.int s1)]) (fun t2 => [some (jd_v (jd_gG X) (some t)), some (jd_v (jd_gG X) o0p), none]) 26 0 (fun t2 σ2 => ?_) (fun K1 bk1 ex1 s1 σ1 => ?_)
  · refine jr_ald0 (pc := 26) hX dX4_copy_26 ?_
    refine jr_ald1 (pc := 27) hX dX4_copy_27 ?_
    refine jr_ck0 (fun a7 e7 h7 => ?_)
    refine jr_geti (pc := 28) hX fX4_15 rfl dX4_copy_28 h7 ?_
    refine jr_ck1 (fun a8 e8 h8 => ?_)
    refine jr_puti (pc := 31) hX fX4_15 rfl dX4_copy_31 h8 ?_
    refine jr_ald0 (pc := 34) hX dX4_copy_34 ?_
    refine jr_ald1 (pc := 35) hX dX4_copy_35 ?_
    refine jr_ek0 e7 ?_
    refine jr_geti (pc := 36) hX fX4_19 rfl dX4_copy_36 h7 ?_
    refine jr_ek1 e8 ?_
    refine jr_puti (pc := 39) hX fX4_19 rfl dX4_copy_39 h8 ?_
    refine jr_ald0 (pc := 42) hX dX4_copy_42 ?_
    refine jr_ald1 (pc := 43) hX dX4_copy_43 ?_
    refine jr_ek0 e7 ?_
    refine jr_geti (pc := 44) hX fX4_22 rfl dX4_copy_44 h7 ?_
    refine jr_ek1 e8 ?_
    refine jr_puti (pc := 47) hX fX4_22 rfl dX4_copy_47 h8 ?_
    exact jr_vret (pc := 50) hX dX4_copy_50 rfl
  · refine jr_ild2 (pc := 2) hX dX4_copy_2 ?_
    refine jr_bipush (pc := 3) hX 6 rfl dX4_copy_3 ?_
    refine jr_icge (pc := 5) hX 26 dX4_copy_5 (by decide) ?_ ?_
    · refine jr_wk [true, true, false] ?_
      exact ex1 () _
    · refine jr_ald0 (pc := 8) hX dX4_copy_8 ?_
      refine jr_ck0 (fun a3 e3 h3 => ?_)
      refine jr_getr (pc := 9) hX fX4_9 rfl dX4_copy_9 h3 ?_
      refine jr_ild2 (pc := 12) hX dX4_copy_12 ?_
      refine jr_ald1 (pc := 13) hX dX4_copy_13 ?_
      refine jr_ck0 (fun a4 e4 h4 => ?_)
      refine jr_getr (pc := 14) hX fX4_9 rfl dX4_copy_14 h4 ?_
      refine jr_ild2 (pc := 17) hX dX4_copy_17 ?_
      refine jr_iaC (pc := 18) hX dX4_copy_18 (fun a5 n5 e5 h5 => ?_)
      refine jr_iaS (pc := 19) hX dX4_copy_19 (fun a6 n6 e6 h6 => ?_)
      refine jr_inc2 (pc := 20) hX 1 rfl (jn_r _ _) dX4_copy_20 ?_
      refine jr_goto (pc := 23) hX 2 dX4_copy_23 (by decide) ?_
      exact bk1 (s1 + 1) _
def m_X4_init (t : Nat) (σ : jd_Hp) : Option (Unit × jd_Hp) :=
some ((), (jd_pi (jd_pi (jd_pi (jd_pr (jd_new σ (20, 6)) t 0 (some σ.1.length)) t 1 0) t 2 0) t 3 0))
set_option maxHeartbeats 4000000 in
set_option maxRecDepth 20000 in
theorem c_X4_init {l : Launch} {s0 : State} {G : jd_G} (hF : jd_F s0 G) (σ : jd_Hp) (t : Nat) (ht : σ.1[t]? = some (4, 4)) : jd_M l s0 G yX4_init cX4_init 1 none 1 je_v [jd_v G (some t)] σ (m_X4_init t σ) := by
  refine jd_enter hF (by decide) (fun G => [some (jd_v G (some t))]) rfl (by simp [lv_args, jd_al, jd_v_cat, jd_cti, jd_ctl]) (by simp [lg_sl, jd_v_cat, jd_cti, jd_ctl]) (fun X hD hX => ?_)
  have hX : jd_C X RX4 "<init>" cX4_init 1 none := hX
  unfold m_X4_init
  refine jr_ald0 (pc := 0) hX dX4_init_0 ?_
  refine jr_oinit (pc := 1) hX lX4_3 (jd_d1 hD rfl) (Nat.le_of_ble_eq_true rfl) dX4_init_1 ?_
  refine jr_ald0 (pc := 4) hX dX4_init_4 ?_
  refine jr_bipush (pc := 5) hX 6 rfl dX4_init_5 ?_
  refine jr_newai (pc := 7) hX 6 (by decide) (by decide) (by decide) aC_int dX4_init_7 ?_
  refine jr_putrF (pc := 9) hX fX4_9 rfl ⟨_, _, rfl, rfl⟩ rfl dX4_init_9 ((jd_p.new _ _).at ht) ?_
  refine jr_ald0 (pc := 12) hX dX4_init_12 ?_
  refine jr_iconst (pc := 13) hX 0 rfl dX4_init_13 ?_
  refine jr_puti (pc := 14) hX fX4_15 rfl dX4_init_14 ((jd_p.new _ _).at ht) ?_
  refine jr_ald0 (pc := 17) hX dX4_init_17 ?_
  refine jr_iconst (pc := 18) hX 0 rfl dX4_init_18 ?_
  refine jr_puti (pc := 19) hX fX4_19 rfl dX4_init_19 ((jd_p.new _ _).at ht) ?_
  refine jr_ald0 (pc := 22) hX dX4_init_22 ?_
  refine jr_iconst (pc := 23) hX 0 rfl dX4_init_23 ?_
  refine jr_puti (pc := 24) hX fX4_22 rfl dX4_init_24 ((jd_p.new _ _).at ht) ?_
  exact jr_vret (pc := 27) hX dX4_init_27 rfl
def m_X3_commonDivisor (x0p : Int64) (x1p : Int64) (σ : jd_Hp) : Option (Int64 × jd_Hp) :=
jd_b (jd_lp (S := Int64 × Int64 × Int32) (T := Int64) (fun s1 σ1 =>
jd_if (200 ≤ s1.2.2) (
some ((Sum.inr s1.1), σ1)) (
jd_if ((lg_cmp s1.2.1 0) = 0) (
some ((Sum.inr s1.1), σ1)) (
jd_nz (s1.2.1 = 0) <|
jd_li (s1.1 - s1.1 / s1.2.1 * s1.2.1) fun x4 =>
some (Sum.inl (s1.2.1, x4, (s1.2.2 + 1)), σ1)))) jd_fu (x0p, x1p, 0) σ) fun t2 σ2 =>
some (t2, σ2)
set_option maxHeartbeats 4000000 in
set_option maxRecDepth 20000 in
theorem c_X3_commonDivisor {l : Launch} {s0 : State} {G : jd_G} (hF : jd_F s0 G) (σ : jd_Hp) (x0p : Int64) (x1p : Int64) : jd_M l s0 G yX3_commonDivisor cX3_commonDivisor 11 (some .long) 0 je_l [.long x0p, .long x1p] σ (m_X3_commonDivisor x0p x1p σ) := by
  refine jd_enter hF (by decide) (fun G => [some (.long x0p), none, some (.long x1p), none, none, none, none, none, none, none, none]) rfl (by simp [lv_args, jd_al, jd_v_cat, jd_cti, jd_ctl]) (by simp [lg_sl, jd_v_cat, jd_cti, jd_ctl]) (fun X hD hX => ?_)
  have hX : jd_C X RX3 "commonDivisor" cX3_commonDivisor 11 (some .long) := hX
  unfold m_X3_commonDivisor
  refine jr_lld0 (pc := 0) hX dX3_commonDivisor_0 ?_
  refine jr_lst4 (pc := 1) hX jn_n dX3_commonDivisor_1 ?_
  refine jr_lld2 (pc := 3) hX dX3_commonDivisor_3 ?_
  refine jr_lst6 (pc := 4) hX jn_n dX3_commonDivisor_4 ?_
  refine jr_iconst (pc := 6) hX 0 rfl dX3_commonDivisor_6 ?_
  refine jr_ist8 (pc := 7) hX jn_n dX3_commonDivisor_7 ?_
  refine jr_wk [false, true, false, true, true, true, true, true, true, true, true] ?_
  refine jr_loop (pc := 9) (fun s1 => [none, none, none, none, some (.long s1.1), none, some (.long s1.2.1), none, some (.int s1.2.2), none, none]) (fun t2 => [none, none, none, none, some (.long t2), none, none, none, none, none, none]) 45 (x0p, x1p, 0) (fun t2 σ2 => ?_) (fun K1 bk1 ex1 s1 σ1 => ?_)
  · refine jr_lld4 (pc := 45) hX dX3_commonDivisor_45 ?_
    exact jr_lret (pc := 47) hX dX3_commonDivisor_47 rfl
  · refine jr_ild8 (pc := 9) hX dX3_commonDivisor_9 ?_
    refine jr_sipush (pc := 11) hX 200 rfl dX3_commonDivisor_11 ?_
    refine jr_icge (pc := 14) hX 45 dX3_commonDivisor_14 (by decide) ?_ ?_
    · refine jr_wk [true, true, true, true, true, true, false, true, false, true, true] ?_
      exact ex1 s1.1 _
    · refine jr_lld6 (pc := 17) hX dX3_commonDivisor_17 ?_
      refine jr_lconst (pc := 19) hX 0 rfl dX3_commonDivisor_19 ?_
      refine jr_lcmp (pc := 20) hX dX3_commonDivisor_20 ?_
      refine jr_ifeq (pc := 21) hX 45 dX3_commonDivisor_21 (by decide) ?_ ?_
      · refine jr_wk [true, true, true, true, true, true, false, true, false, true, true] ?_
        exact ex1 s1.1 _
      · refine jr_lld4 (pc := 24) hX dX3_commonDivisor_24 ?_
        refine jr_lld6 (pc := 26) hX dX3_commonDivisor_26 ?_
        refine jr_nz (fun z3 => ?_)
        refine jr_lrem (pc := 28) hX dX3_commonDivisor_28 z3 ?_
        refine jr_lst9 (pc := 29) hX (jn_i _) dX3_commonDivisor_29 ?_
        refine jr_li ?_
        refine jr_lld6 (pc := 31) hX dX3_commonDivisor_31 ?_
        refine jr_lst4 (pc := 33) hX jn_n dX3_commonDivisor_33 ?_
        refine jr_lld9 (pc := 35) hX dX3_commonDivisor_35 ?_
        refine jr_lst6 (pc := 37) hX jn_n dX3_commonDivisor_37 ?_
        refine jr_inc8 (pc := 39) hX 1 rfl jn_n dX3_commonDivisor_39 ?_
        refine jr_goto (pc := 42) hX 9 dX3_commonDivisor_42 (by decide) ?_
        refine jr_wk [true, true, true, true, true, true, true, true, true, false, true] ?_
        exact bk1 (s1.2.1, (s1.1 - s1.1 / s1.2.1 * s1.2.1), (s1.2.2 + 1)) _
def m_X3_reduce (t : Nat) (x0p : Int64) (x1p : Int64) (σ : jd_Hp) : Option (Unit × jd_Hp) :=
jd_if ((lg_cmp x0p 0) ≤ 0) (
some ((), (jd_pl (jd_pl σ t 0 0) t 1 1))) (
jd_if ((lg_cmp x1p 0) ≤ 0) (
some ((), (jd_pl (jd_pl σ t 0 0) t 1 1))) (
jd_b (m_X3_commonDivisor x0p x1p (jd_pl (jd_pl σ t 0 0) t 1 1)) fun r1 σ1 =>
jd_if ((lg_cmp r1 0) ≤ 0) (
some ((), σ1)) (
jd_nz (r1 = 0) <|
jd_nz (r1 = 0) <|
some ((), (jd_pl (jd_pl σ1 t 0 (x0p / r1)) t 1 (x1p / r1))))))
set_option maxHeartbeats 4000000 in
set_option maxRecDepth 20000 in
theorem c_X3_reduce {l : Launch} {s0 : State} {G : jd_G} (hF : jd_F s0 G) (σ : jd_Hp) (t : Nat) (ht : σ.1[t]? = some (3, 2)) (x0p : Int64) (x1p : Int64) : jd_M l s0 G yX3_reduce cX3_reduce 7 none 1 je_v [jd_v G (some t), .long x0p, .long x1p] σ (m_X3_reduce t x0p x1p σ) := by
  refine jd_enter hF (by decide) (fun G => [some (jd_v G (some t)), some (.long x0p), none, some (.long x1p), none, none, none]) rfl (by simp [lv_args, jd_al, jd_v_cat, jd_cti, jd_ctl]) (by simp [lg_sl, jd_v_cat, jd_cti, jd_ctl]) (fun X hD hX => ?_)
  have hX : jd_C X RX3 "reduce" cX3_reduce 7 none := hX
  unfold m_X3_reduce
  refine jr_ald0 (pc := 0) hX dX3_reduce_0 ?_
  refine jr_lconst (pc := 1) hX 0 rfl dX3_reduce_1 ?_
  refine jr_putl (pc := 2) hX fX3_7 rfl dX3_reduce_2 ht ?_
  refine jr_ald0 (pc := 5) hX dX3_reduce_5 ?_
  refine jr_lconst (pc := 6) hX 1 rfl dX3_reduce_6 ?_
  refine jr_putl (pc := 7) hX fX3_13 rfl dX3_reduce_7 ht ?_
  refine jr_lld1 (pc := 10) hX dX3_reduce_10 ?_
  refine jr_lconst (pc := 11) hX 0 rfl dX3_reduce_11 ?_
  refine jr_lcmp (pc := 12) hX dX3_reduce_12 ?_
  refine jr_ifle (pc := 13) hX 52 dX3_reduce_13 (by decide) ?_ ?_
  · exact jr_vret (pc := 52) hX dX3_reduce_52 rfl
  · refine jr_lld3 (pc := 16) hX dX3_reduce_16 ?_
    refine jr_lconst (pc := 17) hX 0 rfl dX3_reduce_17 ?_
    refine jr_lcmp (pc := 18) hX dX3_reduce_18 ?_
    refine jr_ifle (pc := 19) hX 52 dX3_reduce_19 (by decide) ?_ ?_
    · exact jr_vret (pc := 52) hX dX3_reduce_52 rfl
    · refine jr_lld1 (pc := 22) hX dX3_reduce_22 ?_
      refine jr_lld3 (pc := 23) hX dX3_reduce_23 ?_
      refine jr_cS2l (pc := 24) hX lX3_16 (c_X3_commonDivisor hX.F _ _ _) (jd_dd hD rfl) (Nat.le_of_ble_eq_true rfl) dX3_reduce_24 (fun r1 σ1 p1 => ?_)
      refine jr_lst5 (pc := 27) hX jn_n dX3_reduce_27 ?_
      refine jr_lld5 (pc := 29) hX dX3_reduce_29 ?_
      refine jr_lconst (pc := 31) hX 0 rfl dX3_reduce_31 ?_
      refine jr_lcmp (pc := 32) hX dX3_reduce_32 ?_
      refine jr_ifle (pc := 33) hX 52 dX3_reduce_33 (by decide) ?_ ?_
      · exact jr_vret (pc := 52) hX dX3_reduce_52 rfl
      · refine jr_ald0 (pc := 36) hX dX3_reduce_36 ?_
        refine jr_lld1 (pc := 37) hX dX3_reduce_37 ?_
        refine jr_lld5 (pc := 38) hX dX3_reduce_38 ?_
        refine jr_nz (fun z2 => ?_)
        refine jr_ldiv (pc := 40) hX dX3_reduce_40 z2 ?_
        refine jr_putl (pc := 41) hX fX3_7 rfl dX3_reduce_41 (p1.at ht) ?_
        refine jr_ald0 (pc := 44) hX dX3_reduce_44 ?_
        refine jr_lld3 (pc := 45) hX dX3_reduce_45 ?_
        refine jr_lld5 (pc := 46) hX dX3_reduce_46 ?_
        refine jr_nz (fun z3 => ?_)
        refine jr_ldiv (pc := 48) hX dX3_reduce_48 z3 ?_
        refine jr_putl (pc := 49) hX fX3_13 rfl dX3_reduce_49 (p1.at ht) ?_
        exact jr_vret (pc := 52) hX dX3_reduce_52 rfl
