theorem fX3_7 : jd_fl RX3 7 3 0 2 false := ⟨_, _, rfl, by decide, by decide, rfl, rfl, jd_mem 474 (by decide +kernel) (by decide +kernel)⟩
theorem fX3_13 : jd_fl RX3 13 3 1 2 false := ⟨_, _, rfl, by decide, by decide, rfl, rfl, jd_mem 476 (by decide +kernel) (by decide +kernel)⟩
theorem qX3_commonDivisor : Cond.static yX3_commonDivisor ∈ jd_TB ∧ Cond.initialized yX3_commonDivisor.cls ∈ jd_TB ∧ Cond.code yX3_commonDivisor cX3_commonDivisor 11 (some .long) ∈ jd_TB ∧ jd_ds yX3_commonDivisor 2 := ⟨jd_mem 985 (by decide +kernel) (by decide +kernel), jd_mem 103 (by decide +kernel) (by decide +kernel), jd_mem 986 (by decide +kernel) (by decide +kernel), ⟨by decide, by decide, by decide +kernel⟩⟩
theorem lX3_16 : jd_st RX3 16 yX3_commonDivisor cX3_commonDivisor 11 (some .long) 2 := ⟨Or.inl (jd_mem 984 (by decide +kernel) (by decide +kernel)), qX3_commonDivisor.1, qX3_commonDivisor.2.1, qX3_commonDivisor.2.2.1, qX3_commonDivisor.2.2.2, by decide⟩
theorem fX1_19 : jd_fl RX1 19 6 5 8 false := ⟨_, _, rfl, by decide, by decide, rfl, rfl, jd_mem 339 (by decide +kernel) (by decide +kernel)⟩
theorem fX1_25 : jd_fl RX1 25 10 11 16 false := ⟨_, _, rfl, by decide, by decide, rfl, rfl, jd_mem 277 (by decide +kernel) (by decide +kernel)⟩
theorem qX1_isAtRisk : Cond.static yX1_isAtRisk ∈ jd_TB ∧ Cond.initialized yX1_isAtRisk.cls ∈ jd_TB ∧ Cond.code yX1_isAtRisk cX1_isAtRisk 2 (some .boolean) ∈ jd_TB ∧ jd_ds yX1_isAtRisk 2 := ⟨jd_mem 1083 (by decide +kernel) (by decide +kernel), jd_mem 102 (by decide +kernel) (by decide +kernel), jd_mem 1084 (by decide +kernel) (by decide +kernel), ⟨by decide, by decide, by decide +kernel⟩⟩
theorem lX1_30 : jd_st RX1 30 yX1_isAtRisk cX1_isAtRisk 2 (some .boolean) 2 := ⟨Or.inl (jd_mem 1082 (by decide +kernel) (by decide +kernel)), qX1_isAtRisk.1, qX1_isAtRisk.2.1, qX1_isAtRisk.2.2.1, qX1_isAtRisk.2.2.2, by decide⟩
theorem fX1_34 : jd_fl RX1 34 10 3 16 true := ⟨_, _, rfl, by decide, by decide, rfl, rfl, jd_mem 250 (by decide +kernel) (by decide +kernel)⟩
theorem kX1_38 : Cond.constantLong RX1 38 100 ∈ jd_TB := jd_mem 1087 (by decide +kernel) (by decide +kernel)
theorem qX3_reduce : Cond.instanceMethod yX3_reduce ∈ jd_TB ∧ Cond.selects RX3 yX3_reduce yX3_reduce ∈ jd_TB ∧ Cond.initialized RX3 ∈ jd_TB ∧ Cond.code yX3_reduce cX3_reduce 7 none ∈ jd_TB ∧ jd_ds yX3_reduce 2 := ⟨jd_mem 981 (by decide +kernel) (by decide +kernel), jd_mem 982 (by decide +kernel) (by decide +kernel), jd_mem 103 (by decide +kernel) (by decide +kernel), jd_mem 983 (by decide +kernel) (by decide +kernel), ⟨by decide, by decide, by decide +kernel⟩⟩
theorem lX1_40 : jd_mv RX1 40 3 2 yX3_reduce cX3_reduce 7 none 2 := ⟨_, _, rfl, by decide, rfl, Or.inl (jd_mem 1088 (by decide +kernel) (by decide +kernel)), qX3_reduce.1, qX3_reduce.2.1, qX3_reduce.2.2.1, qX3_reduce.2.2.2.1, qX3_reduce.2.2.2.2, by decide⟩
theorem kX1_70 : Cond.constant RX1 70 65537 ∈ jd_TB := jd_mem 1121 (by decide +kernel) (by decide +kernel)
theorem qX1_drawAfternoon : Cond.instanceMethod yX1_drawAfternoon ∈ jd_TB ∧ Cond.selects RX1 yX1_drawAfternoon yX1_drawAfternoon ∈ jd_TB ∧ Cond.initialized RX1 ∈ jd_TB ∧ Cond.code yX1_drawAfternoon cX1_drawAfternoon 4 (some .int) ∈ jd_TB ∧ jd_ds yX1_drawAfternoon 1 := ⟨jd_mem 1119 (by decide +kernel) (by decide +kernel), jd_mem 30 (by decide +kernel) (by decide +kernel), jd_mem 102 (by decide +kernel) (by decide +kernel), jd_mem 1120 (by decide +kernel) (by decide +kernel), ⟨by decide, by decide, by decide +kernel⟩⟩
theorem lX1_50 : jd_mv RX1 50 1 2 yX1_drawAfternoon cX1_drawAfternoon 4 (some .int) 1 := ⟨_, _, rfl, by decide, rfl, Or.inl (jd_mem 1117 (by decide +kernel) (by decide +kernel)), qX1_drawAfternoon.1, qX1_drawAfternoon.2.1, qX1_drawAfternoon.2.2.1, qX1_drawAfternoon.2.2.2.1, qX1_drawAfternoon.2.2.2.2, by decide⟩
theorem lX1_58 : jd_st RX1 58 yJ6_bitCount_0f7a4 cJ6_bitCount_0f7a4 1 (some .int) 1 := ⟨Or.inl (jd_mem 1130 (by decide +kernel) (by decide +kernel)), qJ6_bitCount_0f7a4.1, qJ6_bitCount_0f7a4.2.1, qJ6_bitCount_0f7a4.2.2.1, qJ6_bitCount_0f7a4.2.2.2, by decide⟩
theorem lX1_64 : jd_ms RX1 64 Lib.Math.max.name Lib.Math.max.code 2 := ⟨jd_mem 1131 (by decide +kernel) (by decide +kernel), jd_mem 731 (by decide +kernel) (by decide +kernel), jd_mem 105 (by decide +kernel) (by decide +kernel), jd_mem 732 (by decide +kernel) (by decide +kernel)⟩
theorem dX3_reduce_0 : decode cX3_reduce 0 = .ok (.aload_n 0, 1) := by decide +kernel
theorem dX3_reduce_1 : decode cX3_reduce 1 = .ok (.lconst 0, 1) := by decide +kernel
theorem dX3_reduce_2 : decode cX3_reduce 2 = .ok (.putfield 7, 3) := by decide +kernel
theorem dX3_reduce_5 : decode cX3_reduce 5 = .ok (.aload_n 0, 1) := by decide +kernel
theorem dX3_reduce_6 : decode cX3_reduce 6 = .ok (.lconst 1, 1) := by decide +kernel
theorem dX3_reduce_7 : decode cX3_reduce 7 = .ok (.putfield 13, 3) := by decide +kernel
theorem dX3_reduce_10 : decode cX3_reduce 10 = .ok (.lload_n 1, 1) := by decide +kernel
theorem dX3_reduce_11 : decode cX3_reduce 11 = .ok (.lconst 0, 1) := by decide +kernel
theorem dX3_reduce_12 : decode cX3_reduce 12 = .ok (.lcmp, 1) := by decide +kernel
theorem dX3_reduce_13 : decode cX3_reduce 13 = .ok (.ifCond .le 39, 3) := by decide +kernel
theorem dX3_reduce_16 : decode cX3_reduce 16 = .ok (.lload_n 3, 1) := by decide +kernel
theorem dX3_reduce_17 : decode cX3_reduce 17 = .ok (.lconst 0, 1) := by decide +kernel
theorem dX3_reduce_18 : decode cX3_reduce 18 = .ok (.lcmp, 1) := by decide +kernel
theorem dX3_reduce_19 : decode cX3_reduce 19 = .ok (.ifCond .le 33, 3) := by decide +kernel
theorem dX3_reduce_22 : decode cX3_reduce 22 = .ok (.lload_n 1, 1) := by decide +kernel
theorem dX3_reduce_23 : decode cX3_reduce 23 = .ok (.lload_n 3, 1) := by decide +kernel
theorem dX3_reduce_24 : decode cX3_reduce 24 = .ok (.invokestatic 16, 3) := by decide +kernel
theorem dX3_reduce_27 : decode cX3_reduce 27 = .ok (.lstore 5, 2) := by decide +kernel
theorem dX3_reduce_29 : decode cX3_reduce 29 = .ok (.lload 5, 2) := by decide +kernel
theorem dX3_reduce_31 : decode cX3_reduce 31 = .ok (.lconst 0, 1) := by decide +kernel
theorem dX3_reduce_32 : decode cX3_reduce 32 = .ok (.lcmp, 1) := by decide +kernel
theorem dX3_reduce_33 : decode cX3_reduce 33 = .ok (.ifCond .le 19, 3) := by decide +kernel
theorem dX3_reduce_36 : decode cX3_reduce 36 = .ok (.aload_n 0, 1) := by decide +kernel
theorem dX3_reduce_37 : decode cX3_reduce 37 = .ok (.lload_n 1, 1) := by decide +kernel
theorem dX3_reduce_38 : decode cX3_reduce 38 = .ok (.lload 5, 2) := by decide +kernel
theorem dX3_reduce_40 : decode cX3_reduce 40 = .ok (.ldiv, 1) := by decide +kernel
theorem dX3_reduce_41 : decode cX3_reduce 41 = .ok (.putfield 7, 3) := by decide +kernel
theorem dX3_reduce_44 : decode cX3_reduce 44 = .ok (.aload_n 0, 1) := by decide +kernel
theorem dX3_reduce_45 : decode cX3_reduce 45 = .ok (.lload_n 3, 1) := by decide +kernel
theorem dX3_reduce_46 : decode cX3_reduce 46 = .ok (.lload 5, 2) := by decide +kernel
theorem dX3_reduce_48 : decode cX3_reduce 48 = .ok (.ldiv, 1) := by decide +kernel
theorem dX3_reduce_49 : decode cX3_reduce 49 = .ok (.putfield 13, 3) := by decide +kernel
theorem dX3_reduce_52 : decode cX3_reduce 52 = .ok (.return_, 1) := by decide +kernel
theorem dX1_nobodyLost_0 : decode cX1_nobodyLost 0 = .ok (.lconst 1, 1) := by decide +kernel
theorem dX1_nobodyLost_1 : decode cX1_nobodyLost 1 = .ok (.lstore_n 3, 1) := by decide +kernel
theorem dX1_nobodyLost_2 : decode cX1_nobodyLost 2 = .ok (.lconst 1, 1) := by decide +kernel
theorem dX1_nobodyLost_3 : decode cX1_nobodyLost 3 = .ok (.lstore 5, 2) := by decide +kernel
theorem dX1_nobodyLost_5 : decode cX1_nobodyLost 5 = .ok (.iconst 0, 1) := by decide +kernel
theorem dX1_nobodyLost_6 : decode cX1_nobodyLost 6 = .ok (.istore 7, 2) := by decide +kernel
theorem dX1_nobodyLost_8 : decode cX1_nobodyLost 8 = .ok (.iload 7, 2) := by decide +kernel
theorem dX1_nobodyLost_10 : decode cX1_nobodyLost 10 = .ok (.aload_n 1, 1) := by decide +kernel
theorem dX1_nobodyLost_11 : decode cX1_nobodyLost 11 = .ok (.getfield 19, 3) := by decide +kernel
theorem dX1_nobodyLost_14 : decode cX1_nobodyLost 14 = .ok (.getfield 25, 3) := by decide +kernel
theorem dX1_nobodyLost_17 : decode cX1_nobodyLost 17 = .ok (.if_icmp .ge 43, 3) := by decide +kernel
theorem dX1_nobodyLost_20 : decode cX1_nobodyLost 20 = .ok (.aload_n 1, 1) := by decide +kernel
theorem dX1_nobodyLost_21 : decode cX1_nobodyLost 21 = .ok (.iload 7, 2) := by decide +kernel
theorem dX1_nobodyLost_23 : decode cX1_nobodyLost 23 = .ok (.invokestatic 30, 3) := by decide +kernel
theorem dX1_nobodyLost_26 : decode cX1_nobodyLost 26 = .ok (.ifCond .eq 28, 3) := by decide +kernel
theorem dX1_nobodyLost_29 : decode cX1_nobodyLost 29 = .ok (.lload_n 3, 1) := by decide +kernel
theorem dX1_nobodyLost_30 : decode cX1_nobodyLost 30 = .ok (.bipush 100, 2) := by decide +kernel
theorem dX1_nobodyLost_32 : decode cX1_nobodyLost 32 = .ok (.aload_n 1, 1) := by decide +kernel
theorem dX1_nobodyLost_33 : decode cX1_nobodyLost 33 = .ok (.getfield 19, 3) := by decide +kernel
theorem dX1_nobodyLost_36 : decode cX1_nobodyLost 36 = .ok (.getfield 34, 3) := by decide +kernel
theorem dX1_nobodyLost_39 : decode cX1_nobodyLost 39 = .ok (.iload 7, 2) := by decide +kernel
theorem dX1_nobodyLost_41 : decode cX1_nobodyLost 41 = .ok (.iaload, 1) := by decide +kernel
theorem dX1_nobodyLost_42 : decode cX1_nobodyLost 42 = .ok (.isub, 1) := by decide +kernel
theorem dX1_nobodyLost_43 : decode cX1_nobodyLost 43 = .ok (.i2l, 1) := by decide +kernel
theorem dX1_nobodyLost_44 : decode cX1_nobodyLost 44 = .ok (.lmul, 1) := by decide +kernel
theorem dX1_nobodyLost_45 : decode cX1_nobodyLost 45 = .ok (.lstore_n 3, 1) := by decide +kernel
theorem dX1_nobodyLost_46 : decode cX1_nobodyLost 46 = .ok (.lload 5, 2) := by decide +kernel
theorem dX1_nobodyLost_48 : decode cX1_nobodyLost 48 = .ok (.ldc2_w 38, 3) := by decide +kernel
theorem dX1_nobodyLost_51 : decode cX1_nobodyLost 51 = .ok (.lmul, 1) := by decide +kernel
theorem dX1_nobodyLost_52 : decode cX1_nobodyLost 52 = .ok (.lstore 5, 2) := by decide +kernel
theorem dX1_nobodyLost_54 : decode cX1_nobodyLost 54 = .ok (.iinc 7 1, 3) := by decide +kernel
theorem dX1_nobodyLost_57 : decode cX1_nobodyLost 57 = .ok (.goto (-49), 3) := by decide +kernel
theorem dX1_nobodyLost_60 : decode cX1_nobodyLost 60 = .ok (.aload_n 2, 1) := by decide +kernel
theorem dX1_nobodyLost_61 : decode cX1_nobodyLost 61 = .ok (.lload_n 3, 1) := by decide +kernel
theorem dX1_nobodyLost_62 : decode cX1_nobodyLost 62 = .ok (.lload 5, 2) := by decide +kernel
theorem dX1_nobodyLost_64 : decode cX1_nobodyLost 64 = .ok (.invokevirtual 40, 3) := by decide +kernel
theorem dX1_nobodyLost_67 : decode cX1_nobodyLost 67 = .ok (.return_, 1) := by decide +kernel
theorem dX1_soManySink_0 : decode cX1_soManySink 0 = .ok (.iconst 0, 1) := by decide +kernel
theorem dX1_soManySink_1 : decode cX1_soManySink 1 = .ok (.istore 4, 2) := by decide +kernel
theorem dX1_soManySink_3 : decode cX1_soManySink 3 = .ok (.iload 4, 2) := by decide +kernel
theorem dX1_soManySink_5 : decode cX1_soManySink 5 = .ok (.bipush 6, 2) := by decide +kernel
theorem dX1_soManySink_7 : decode cX1_soManySink 7 = .ok (.if_icmp .gt 26, 3) := by decide +kernel
theorem dX1_soManySink_10 : decode cX1_soManySink 10 = .ok (.aload_n 0, 1) := by decide +kernel
theorem dX1_soManySink_11 : decode cX1_soManySink 11 = .ok (.getfield 9, 3) := by decide +kernel
theorem dX1_soManySink_14 : decode cX1_soManySink 14 = .ok (.iload 4, 2) := by decide +kernel
theorem dX1_soManySink_16 : decode cX1_soManySink 16 = .ok (.iload 4, 2) := by decide +kernel
theorem dX1_soManySink_18 : decode cX1_soManySink 18 = .ok (.ifCond .ne 7, 3) := by decide +kernel
theorem dX1_soManySink_21 : decode cX1_soManySink 21 = .ok (.lconst 1, 1) := by decide +kernel
theorem dX1_soManySink_22 : decode cX1_soManySink 22 = .ok (.goto 4, 3) := by decide +kernel
theorem dX1_soManySink_25 : decode cX1_soManySink 25 = .ok (.lconst 0, 1) := by decide +kernel
theorem dX1_soManySink_26 : decode cX1_soManySink 26 = .ok (.lastore, 1) := by decide +kernel
theorem dX1_soManySink_27 : decode cX1_soManySink 27 = .ok (.iinc 4 1, 3) := by decide +kernel
theorem dX1_soManySink_30 : decode cX1_soManySink 30 = .ok (.goto (-27), 3) := by decide +kernel
theorem dX1_soManySink_33 : decode cX1_soManySink 33 = .ok (.lconst 1, 1) := by decide +kernel
theorem dX1_soManySink_34 : decode cX1_soManySink 34 = .ok (.lstore 4, 2) := by decide +kernel
theorem dX1_soManySink_36 : decode cX1_soManySink 36 = .ok (.iconst 0, 1) := by decide +kernel
theorem dX1_soManySink_37 : decode cX1_soManySink 37 = .ok (.istore 6, 2) := by decide +kernel
theorem dX1_soManySink_39 : decode cX1_soManySink 39 = .ok (.iload 6, 2) := by decide +kernel
theorem dX1_soManySink_41 : decode cX1_soManySink 41 = .ok (.aload_n 1, 1) := by decide +kernel
theorem dX1_soManySink_42 : decode cX1_soManySink 42 = .ok (.getfield 19, 3) := by decide +kernel
theorem dX1_soManySink_45 : decode cX1_soManySink 45 = .ok (.getfield 25, 3) := by decide +kernel
theorem dX1_soManySink_48 : decode cX1_soManySink 48 = .ok (.if_icmp .ge 103, 3) := by decide +kernel
theorem dX1_soManySink_51 : decode cX1_soManySink 51 = .ok (.aload_n 1, 1) := by decide +kernel
theorem dX1_soManySink_52 : decode cX1_soManySink 52 = .ok (.iload 6, 2) := by decide +kernel
theorem dX1_soManySink_54 : decode cX1_soManySink 54 = .ok (.invokevirtual 46, 3) := by decide +kernel
theorem dX1_soManySink_57 : decode cX1_soManySink 57 = .ok (.ifCond .eq 88, 3) := by decide +kernel
theorem dX1_soManySink_60 : decode cX1_soManySink 60 = .ok (.aload_n 1, 1) := by decide +kernel
theorem dX1_soManySink_61 : decode cX1_soManySink 61 = .ok (.getfield 19, 3) := by decide +kernel
theorem dX1_soManySink_64 : decode cX1_soManySink 64 = .ok (.getfield 34, 3) := by decide +kernel
theorem dX1_soManySink_67 : decode cX1_soManySink 67 = .ok (.iload 6, 2) := by decide +kernel
theorem dX1_soManySink_69 : decode cX1_soManySink 69 = .ok (.iaload, 1) := by decide +kernel
theorem dX1_soManySink_70 : decode cX1_soManySink 70 = .ok (.istore 7, 2) := by decide +kernel
theorem dX1_soManySink_72 : decode cX1_soManySink 72 = .ok (.bipush 6, 2) := by decide +kernel
theorem dX1_soManySink_74 : decode cX1_soManySink 74 = .ok (.istore 8, 2) := by decide +kernel
theorem dX1_soManySink_76 : decode cX1_soManySink 76 = .ok (.iload 8, 2) := by decide +kernel
theorem dX1_soManySink_78 : decode cX1_soManySink 78 = .ok (.ifCond .le 44, 3) := by decide +kernel
theorem dX1_soManySink_81 : decode cX1_soManySink 81 = .ok (.aload_n 0, 1) := by decide +kernel
theorem dX1_soManySink_82 : decode cX1_soManySink 82 = .ok (.getfield 9, 3) := by decide +kernel
theorem dX1_soManySink_85 : decode cX1_soManySink 85 = .ok (.iload 8, 2) := by decide +kernel
theorem dX1_soManySink_87 : decode cX1_soManySink 87 = .ok (.aload_n 0, 1) := by decide +kernel
theorem dX1_soManySink_88 : decode cX1_soManySink 88 = .ok (.getfield 9, 3) := by decide +kernel
theorem dX1_soManySink_91 : decode cX1_soManySink 91 = .ok (.iload 8, 2) := by decide +kernel
theorem dX1_soManySink_93 : decode cX1_soManySink 93 = .ok (.laload, 1) := by decide +kernel
theorem dX1_soManySink_94 : decode cX1_soManySink 94 = .ok (.bipush 100, 2) := by decide +kernel
theorem dX1_soManySink_96 : decode cX1_soManySink 96 = .ok (.iload 7, 2) := by decide +kernel
theorem dX1_soManySink_98 : decode cX1_soManySink 98 = .ok (.isub, 1) := by decide +kernel
theorem dX1_soManySink_99 : decode cX1_soManySink 99 = .ok (.i2l, 1) := by decide +kernel
theorem dX1_soManySink_100 : decode cX1_soManySink 100 = .ok (.lmul, 1) := by decide +kernel
theorem dX1_soManySink_101 : decode cX1_soManySink 101 = .ok (.aload_n 0, 1) := by decide +kernel
theorem dX1_soManySink_102 : decode cX1_soManySink 102 = .ok (.getfield 9, 3) := by decide +kernel
theorem dX1_soManySink_105 : decode cX1_soManySink 105 = .ok (.iload 8, 2) := by decide +kernel
theorem dX1_soManySink_107 : decode cX1_soManySink 107 = .ok (.iconst 1, 1) := by decide +kernel
theorem dX1_soManySink_108 : decode cX1_soManySink 108 = .ok (.isub, 1) := by decide +kernel
theorem dX1_soManySink_109 : decode cX1_soManySink 109 = .ok (.laload, 1) := by decide +kernel
theorem dX1_soManySink_110 : decode cX1_soManySink 110 = .ok (.iload 7, 2) := by decide +kernel
theorem dX1_soManySink_112 : decode cX1_soManySink 112 = .ok (.i2l, 1) := by decide +kernel
theorem dX1_soManySink_113 : decode cX1_soManySink 113 = .ok (.lmul, 1) := by decide +kernel
theorem dX1_soManySink_114 : decode cX1_soManySink 114 = .ok (.ladd, 1) := by decide +kernel
theorem dX1_soManySink_115 : decode cX1_soManySink 115 = .ok (.lastore, 1) := by decide +kernel
theorem dX1_soManySink_116 : decode cX1_soManySink 116 = .ok (.iinc 8 (-1), 3) := by decide +kernel
theorem dX1_soManySink_119 : decode cX1_soManySink 119 = .ok (.goto (-43), 3) := by decide +kernel
theorem dX1_soManySink_122 : decode cX1_soManySink 122 = .ok (.aload_n 0, 1) := by decide +kernel
theorem dX1_soManySink_123 : decode cX1_soManySink 123 = .ok (.getfield 9, 3) := by decide +kernel
theorem dX1_soManySink_126 : decode cX1_soManySink 126 = .ok (.iconst 0, 1) := by decide +kernel
theorem dX1_soManySink_127 : decode cX1_soManySink 127 = .ok (.dup2, 1) := by decide +kernel
theorem dX1_soManySink_128 : decode cX1_soManySink 128 = .ok (.laload, 1) := by decide +kernel
theorem dX1_soManySink_129 : decode cX1_soManySink 129 = .ok (.bipush 100, 2) := by decide +kernel
theorem dX1_soManySink_131 : decode cX1_soManySink 131 = .ok (.iload 7, 2) := by decide +kernel
theorem dX1_soManySink_133 : decode cX1_soManySink 133 = .ok (.isub, 1) := by decide +kernel
theorem dX1_soManySink_134 : decode cX1_soManySink 134 = .ok (.i2l, 1) := by decide +kernel
theorem dX1_soManySink_135 : decode cX1_soManySink 135 = .ok (.lmul, 1) := by decide +kernel
theorem dX1_soManySink_136 : decode cX1_soManySink 136 = .ok (.lastore, 1) := by decide +kernel
theorem dX1_soManySink_137 : decode cX1_soManySink 137 = .ok (.lload 4, 2) := by decide +kernel
theorem dX1_soManySink_139 : decode cX1_soManySink 139 = .ok (.ldc2_w 38, 3) := by decide +kernel
theorem dX1_soManySink_142 : decode cX1_soManySink 142 = .ok (.lmul, 1) := by decide +kernel
theorem dX1_soManySink_143 : decode cX1_soManySink 143 = .ok (.lstore 4, 2) := by decide +kernel
theorem dX1_soManySink_145 : decode cX1_soManySink 145 = .ok (.iinc 6 1, 3) := by decide +kernel
theorem dX1_soManySink_148 : decode cX1_soManySink 148 = .ok (.goto (-109), 3) := by decide +kernel
theorem dX1_soManySink_151 : decode cX1_soManySink 151 = .ok (.aload_n 3, 1) := by decide +kernel
theorem dX1_soManySink_152 : decode cX1_soManySink 152 = .ok (.iload_n 2, 1) := by decide +kernel
theorem dX1_soManySink_153 : decode cX1_soManySink 153 = .ok (.ifCond .lt 18, 3) := by decide +kernel
theorem dX1_soManySink_156 : decode cX1_soManySink 156 = .ok (.iload_n 2, 1) := by decide +kernel
theorem dX1_soManySink_157 : decode cX1_soManySink 157 = .ok (.bipush 6, 2) := by decide +kernel
theorem dX1_soManySink_159 : decode cX1_soManySink 159 = .ok (.if_icmp .gt 12, 3) := by decide +kernel
theorem dX1_soManySink_162 : decode cX1_soManySink 162 = .ok (.aload_n 0, 1) := by decide +kernel
theorem dX1_soManySink_163 : decode cX1_soManySink 163 = .ok (.getfield 9, 3) := by decide +kernel
theorem dX1_soManySink_166 : decode cX1_soManySink 166 = .ok (.iload_n 2, 1) := by decide +kernel
theorem dX1_soManySink_167 : decode cX1_soManySink 167 = .ok (.laload, 1) := by decide +kernel
theorem dX1_soManySink_168 : decode cX1_soManySink 168 = .ok (.goto 4, 3) := by decide +kernel
theorem dX1_soManySink_171 : decode cX1_soManySink 171 = .ok (.lconst 0, 1) := by decide +kernel
theorem dX1_soManySink_172 : decode cX1_soManySink 172 = .ok (.lload 4, 2) := by decide +kernel
theorem dX1_soManySink_174 : decode cX1_soManySink 174 = .ok (.invokevirtual 40, 3) := by decide +kernel
theorem dX1_soManySink_177 : decode cX1_soManySink 177 = .ok (.return_, 1) := by decide +kernel
theorem dX1_meanLost_0 : decode cX1_meanLost 0 = .ok (.lconst 0, 1) := by decide +kernel
theorem dX1_meanLost_1 : decode cX1_meanLost 1 = .ok (.lstore_n 3, 1) := by decide +kernel
theorem dX1_meanLost_2 : decode cX1_meanLost 2 = .ok (.iconst 0, 1) := by decide +kernel
theorem dX1_meanLost_3 : decode cX1_meanLost 3 = .ok (.istore 5, 2) := by decide +kernel
theorem dX1_meanLost_5 : decode cX1_meanLost 5 = .ok (.iload 5, 2) := by decide +kernel
theorem dX1_meanLost_7 : decode cX1_meanLost 7 = .ok (.aload_n 1, 1) := by decide +kernel
theorem dX1_meanLost_8 : decode cX1_meanLost 8 = .ok (.getfield 19, 3) := by decide +kernel
theorem dX1_meanLost_11 : decode cX1_meanLost 11 = .ok (.getfield 25, 3) := by decide +kernel
theorem dX1_meanLost_14 : decode cX1_meanLost 14 = .ok (.if_icmp .ge 32, 3) := by decide +kernel
theorem dX1_meanLost_17 : decode cX1_meanLost 17 = .ok (.aload_n 1, 1) := by decide +kernel
theorem dX1_meanLost_18 : decode cX1_meanLost 18 = .ok (.iload 5, 2) := by decide +kernel
theorem dX1_meanLost_20 : decode cX1_meanLost 20 = .ok (.invokestatic 30, 3) := by decide +kernel
theorem dX1_meanLost_23 : decode cX1_meanLost 23 = .ok (.ifCond .eq 17, 3) := by decide +kernel
theorem dX1_meanLost_26 : decode cX1_meanLost 26 = .ok (.lload_n 3, 1) := by decide +kernel
theorem dX1_meanLost_27 : decode cX1_meanLost 27 = .ok (.aload_n 1, 1) := by decide +kernel
theorem dX1_meanLost_28 : decode cX1_meanLost 28 = .ok (.getfield 19, 3) := by decide +kernel
theorem dX1_meanLost_31 : decode cX1_meanLost 31 = .ok (.getfield 34, 3) := by decide +kernel
theorem dX1_meanLost_34 : decode cX1_meanLost 34 = .ok (.iload 5, 2) := by decide +kernel
theorem dX1_meanLost_36 : decode cX1_meanLost 36 = .ok (.iaload, 1) := by decide +kernel
theorem dX1_meanLost_37 : decode cX1_meanLost 37 = .ok (.i2l, 1) := by decide +kernel
theorem dX1_meanLost_38 : decode cX1_meanLost 38 = .ok (.ladd, 1) := by decide +kernel
theorem dX1_meanLost_39 : decode cX1_meanLost 39 = .ok (.lstore_n 3, 1) := by decide +kernel
theorem dX1_meanLost_40 : decode cX1_meanLost 40 = .ok (.iinc 5 1, 3) := by decide +kernel
theorem dX1_meanLost_43 : decode cX1_meanLost 43 = .ok (.goto (-38), 3) := by decide +kernel
theorem dX1_meanLost_46 : decode cX1_meanLost 46 = .ok (.aload_n 2, 1) := by decide +kernel
theorem dX1_meanLost_47 : decode cX1_meanLost 47 = .ok (.lload_n 3, 1) := by decide +kernel
theorem dX1_meanLost_48 : decode cX1_meanLost 48 = .ok (.ldc2_w 38, 3) := by decide +kernel
theorem dX1_meanLost_51 : decode cX1_meanLost 51 = .ok (.invokevirtual 40, 3) := by decide +kernel
theorem dX1_meanLost_54 : decode cX1_meanLost 54 = .ok (.return_, 1) := by decide +kernel
theorem dX1_drawAfternoon_0 : decode cX1_drawAfternoon 0 = .ok (.iconst 0, 1) := by decide +kernel
theorem dX1_drawAfternoon_1 : decode cX1_drawAfternoon 1 = .ok (.istore_n 2, 1) := by decide +kernel
theorem dX1_drawAfternoon_2 : decode cX1_drawAfternoon 2 = .ok (.iconst 0, 1) := by decide +kernel
theorem dX1_drawAfternoon_3 : decode cX1_drawAfternoon 3 = .ok (.istore_n 3, 1) := by decide +kernel
theorem dX1_drawAfternoon_4 : decode cX1_drawAfternoon 4 = .ok (.iload_n 3, 1) := by decide +kernel
theorem dX1_drawAfternoon_5 : decode cX1_drawAfternoon 5 = .ok (.aload_n 1, 1) := by decide +kernel
theorem dX1_drawAfternoon_6 : decode cX1_drawAfternoon 6 = .ok (.getfield 19, 3) := by decide +kernel
theorem dX1_drawAfternoon_9 : decode cX1_drawAfternoon 9 = .ok (.getfield 25, 3) := by decide +kernel
theorem dX1_drawAfternoon_12 : decode cX1_drawAfternoon 12 = .ok (.if_icmp .ge 59, 3) := by decide +kernel
theorem dX1_drawAfternoon_15 : decode cX1_drawAfternoon 15 = .ok (.aload_n 1, 1) := by decide +kernel
theorem dX1_drawAfternoon_16 : decode cX1_drawAfternoon 16 = .ok (.iload_n 3, 1) := by decide +kernel
theorem dX1_drawAfternoon_17 : decode cX1_drawAfternoon 17 = .ok (.invokevirtual 46, 3) := by decide +kernel
theorem dX1_drawAfternoon_20 : decode cX1_drawAfternoon 20 = .ok (.ifCond .eq 45, 3) := by decide +kernel
theorem dX1_drawAfternoon_23 : decode cX1_drawAfternoon 23 = .ok (.aload_n 0, 1) := by decide +kernel
theorem dX1_drawAfternoon_24 : decode cX1_drawAfternoon 24 = .ok (.bipush 75, 2) := by decide +kernel
theorem dX1_drawAfternoon_26 : decode cX1_drawAfternoon 26 = .ok (.aload_n 0, 1) := by decide +kernel
theorem dX1_drawAfternoon_27 : decode cX1_drawAfternoon 27 = .ok (.getfield 15, 3) := by decide +kernel
theorem dX1_drawAfternoon_30 : decode cX1_drawAfternoon 30 = .ok (.imul, 1) := by decide +kernel
theorem dX1_drawAfternoon_31 : decode cX1_drawAfternoon 31 = .ok (.bipush 74, 2) := by decide +kernel
theorem dX1_drawAfternoon_33 : decode cX1_drawAfternoon 33 = .ok (.iadd, 1) := by decide +kernel
theorem dX1_drawAfternoon_34 : decode cX1_drawAfternoon 34 = .ok (.ldc 70, 2) := by decide +kernel
theorem dX1_drawAfternoon_36 : decode cX1_drawAfternoon 36 = .ok (.irem, 1) := by decide +kernel
theorem dX1_drawAfternoon_37 : decode cX1_drawAfternoon 37 = .ok (.putfield 15, 3) := by decide +kernel
theorem dX1_drawAfternoon_40 : decode cX1_drawAfternoon 40 = .ok (.aload_n 0, 1) := by decide +kernel
theorem dX1_drawAfternoon_41 : decode cX1_drawAfternoon 41 = .ok (.getfield 15, 3) := by decide +kernel
theorem dX1_drawAfternoon_44 : decode cX1_drawAfternoon 44 = .ok (.bipush 100, 2) := by decide +kernel
theorem dX1_drawAfternoon_46 : decode cX1_drawAfternoon 46 = .ok (.irem, 1) := by decide +kernel
theorem dX1_drawAfternoon_47 : decode cX1_drawAfternoon 47 = .ok (.aload_n 1, 1) := by decide +kernel
theorem dX1_drawAfternoon_48 : decode cX1_drawAfternoon 48 = .ok (.getfield 19, 3) := by decide +kernel
theorem dX1_drawAfternoon_51 : decode cX1_drawAfternoon 51 = .ok (.getfield 34, 3) := by decide +kernel
theorem dX1_drawAfternoon_54 : decode cX1_drawAfternoon 54 = .ok (.iload_n 3, 1) := by decide +kernel
theorem dX1_drawAfternoon_55 : decode cX1_drawAfternoon 55 = .ok (.iaload, 1) := by decide +kernel
theorem dX1_drawAfternoon_56 : decode cX1_drawAfternoon 56 = .ok (.if_icmp .ge 9, 3) := by decide +kernel
theorem dX1_drawAfternoon_59 : decode cX1_drawAfternoon 59 = .ok (.iload_n 2, 1) := by decide +kernel
theorem dX1_drawAfternoon_60 : decode cX1_drawAfternoon 60 = .ok (.iconst 1, 1) := by decide +kernel
theorem dX1_drawAfternoon_61 : decode cX1_drawAfternoon 61 = .ok (.iload_n 3, 1) := by decide +kernel
theorem dX1_drawAfternoon_62 : decode cX1_drawAfternoon 62 = .ok (.ishl, 1) := by decide +kernel
theorem dX1_drawAfternoon_63 : decode cX1_drawAfternoon 63 = .ok (.ior, 1) := by decide +kernel
theorem dX1_drawAfternoon_64 : decode cX1_drawAfternoon 64 = .ok (.istore_n 2, 1) := by decide +kernel
theorem dX1_drawAfternoon_65 : decode cX1_drawAfternoon 65 = .ok (.iinc 3 1, 3) := by decide +kernel
theorem dX1_drawAfternoon_68 : decode cX1_drawAfternoon 68 = .ok (.goto (-64), 3) := by decide +kernel
theorem dX1_drawAfternoon_71 : decode cX1_drawAfternoon 71 = .ok (.iload_n 2, 1) := by decide +kernel
theorem dX1_drawAfternoon_72 : decode cX1_drawAfternoon 72 = .ok (.ireturn, 1) := by decide +kernel
theorem dX1_timesLost_0 : decode cX1_timesLost 0 = .ok (.aload_n 0, 1) := by decide +kernel
theorem dX1_timesLost_1 : decode cX1_timesLost 1 = .ok (.iload_n 3, 1) := by decide +kernel
theorem dX1_timesLost_2 : decode cX1_timesLost 2 = .ok (.putfield 15, 3) := by decide +kernel
theorem dX1_timesLost_5 : decode cX1_timesLost 5 = .ok (.iconst 0, 1) := by decide +kernel
theorem dX1_timesLost_6 : decode cX1_timesLost 6 = .ok (.istore 5, 2) := by decide +kernel
theorem dX1_timesLost_8 : decode cX1_timesLost 8 = .ok (.iconst 0, 1) := by decide +kernel
theorem dX1_timesLost_9 : decode cX1_timesLost 9 = .ok (.istore 6, 2) := by decide +kernel
theorem dX1_timesLost_11 : decode cX1_timesLost 11 = .ok (.iload 6, 2) := by decide +kernel
theorem dX1_timesLost_13 : decode cX1_timesLost 13 = .ok (.iload 4, 2) := by decide +kernel
theorem dX1_timesLost_15 : decode cX1_timesLost 15 = .ok (.if_icmp .ge 36, 3) := by decide +kernel
theorem dX1_timesLost_18 : decode cX1_timesLost 18 = .ok (.aload_n 0, 1) := by decide +kernel
theorem dX1_timesLost_19 : decode cX1_timesLost 19 = .ok (.aload_n 1, 1) := by decide +kernel
theorem dX1_timesLost_20 : decode cX1_timesLost 20 = .ok (.invokevirtual 50, 3) := by decide +kernel
theorem dX1_timesLost_23 : decode cX1_timesLost 23 = .ok (.istore 7, 2) := by decide +kernel
theorem dX1_timesLost_25 : decode cX1_timesLost 25 = .ok (.iload 7, 2) := by decide +kernel
theorem dX1_timesLost_27 : decode cX1_timesLost 27 = .ok (.iload_n 2, 1) := by decide +kernel
theorem dX1_timesLost_28 : decode cX1_timesLost 28 = .ok (.invokestatic 54, 3) := by decide +kernel
theorem dX1_timesLost_31 : decode cX1_timesLost 31 = .ok (.ifCond .eq 14, 3) := by decide +kernel
theorem dX1_timesLost_34 : decode cX1_timesLost 34 = .ok (.aload_n 1, 1) := by decide +kernel
theorem dX1_timesLost_35 : decode cX1_timesLost 35 = .ok (.iload_n 2, 1) := by decide +kernel
theorem dX1_timesLost_36 : decode cX1_timesLost 36 = .ok (.invokestatic 30, 3) := by decide +kernel
theorem dX1_timesLost_39 : decode cX1_timesLost 39 = .ok (.ifCond .eq 6, 3) := by decide +kernel
theorem dX1_timesLost_42 : decode cX1_timesLost 42 = .ok (.iinc 5 1, 3) := by decide +kernel
theorem dX1_timesLost_45 : decode cX1_timesLost 45 = .ok (.iinc 6 1, 3) := by decide +kernel
theorem dX1_timesLost_48 : decode cX1_timesLost 48 = .ok (.goto (-37), 3) := by decide +kernel
theorem dX1_timesLost_51 : decode cX1_timesLost 51 = .ok (.iload 5, 2) := by decide +kernel
theorem dX1_timesLost_53 : decode cX1_timesLost 53 = .ok (.ireturn, 1) := by decide +kernel
theorem dX1_mostAtOnce_0 : decode cX1_mostAtOnce 0 = .ok (.aload_n 0, 1) := by decide +kernel
theorem dX1_mostAtOnce_1 : decode cX1_mostAtOnce 1 = .ok (.iload_n 2, 1) := by decide +kernel
theorem dX1_mostAtOnce_2 : decode cX1_mostAtOnce 2 = .ok (.putfield 15, 3) := by decide +kernel
theorem dX1_mostAtOnce_5 : decode cX1_mostAtOnce 5 = .ok (.iconst 0, 1) := by decide +kernel
theorem dX1_mostAtOnce_6 : decode cX1_mostAtOnce 6 = .ok (.istore 4, 2) := by decide +kernel
theorem dX1_mostAtOnce_8 : decode cX1_mostAtOnce 8 = .ok (.iconst 0, 1) := by decide +kernel
theorem dX1_mostAtOnce_9 : decode cX1_mostAtOnce 9 = .ok (.istore 5, 2) := by decide +kernel
theorem dX1_mostAtOnce_11 : decode cX1_mostAtOnce 11 = .ok (.iload 5, 2) := by decide +kernel
theorem dX1_mostAtOnce_13 : decode cX1_mostAtOnce 13 = .ok (.iload_n 3, 1) := by decide +kernel
theorem dX1_mostAtOnce_14 : decode cX1_mostAtOnce 14 = .ok (.if_icmp .ge 24, 3) := by decide +kernel
theorem dX1_mostAtOnce_17 : decode cX1_mostAtOnce 17 = .ok (.iload 4, 2) := by decide +kernel
theorem dX1_mostAtOnce_19 : decode cX1_mostAtOnce 19 = .ok (.aload_n 0, 1) := by decide +kernel
theorem dX1_mostAtOnce_20 : decode cX1_mostAtOnce 20 = .ok (.aload_n 1, 1) := by decide +kernel
theorem dX1_mostAtOnce_21 : decode cX1_mostAtOnce 21 = .ok (.invokevirtual 50, 3) := by decide +kernel
theorem dX1_mostAtOnce_24 : decode cX1_mostAtOnce 24 = .ok (.invokestatic 58, 3) := by decide +kernel
theorem dX1_mostAtOnce_27 : decode cX1_mostAtOnce 27 = .ok (.invokestatic 64, 3) := by decide +kernel
theorem dX1_mostAtOnce_30 : decode cX1_mostAtOnce 30 = .ok (.istore 4, 2) := by decide +kernel
theorem dX1_mostAtOnce_32 : decode cX1_mostAtOnce 32 = .ok (.iinc 5 1, 3) := by decide +kernel
theorem dX1_mostAtOnce_35 : decode cX1_mostAtOnce 35 = .ok (.goto (-24), 3) := by decide +kernel
theorem dX1_mostAtOnce_38 : decode cX1_mostAtOnce 38 = .ok (.iload 4, 2) := by decide +kernel
theorem dX1_mostAtOnce_40 : decode cX1_mostAtOnce 40 = .ok (.ireturn, 1) := by decide +kernel
def m_X3_reduce (t : Nat) (x0p : Int64) (x1p : Int64) (σ : jd_Hp) : Option (Unit × jd_Hp) :=
jd_li (jd_pl σ t 0 0) fun τ1 =>
jd_li (jd_pl τ1 t 1 1) fun τ2 =>
jd_if ((lg_cmp x0p 0) ≤ 0) (
some ((), τ2)) (
jd_if ((lg_cmp x1p 0) ≤ 0) (
some ((), τ2)) (
jd_b (m_X3_commonDivisor x0p x1p τ2) fun r3 σ3 =>
jd_if ((lg_cmp r3 0) ≤ 0) (
some ((), σ3)) (
jd_nz (r3 = 0) <|
jd_li (jd_pl σ3 t 0 (x0p / r3)) fun τ5 =>
jd_nz (r3 = 0) <|
jd_li (jd_pl τ5 t 1 (x1p / r3)) fun τ7 =>
some ((), τ7))))
set_option maxHeartbeats 4000000 in
set_option maxRecDepth 20000 in
theorem c_X3_reduce {l : Launch} {s0 : State} {G : jd_G} (hF : jd_F s0 G) (σ : jd_Hp) (t : Nat) (ht : σ.1[t]? = some (3, 2)) (x0p : Int64) (x1p : Int64) : jd_M l s0 G yX3_reduce cX3_reduce 7 none 1 je_v [jd_v G (some t), .long x0p, .long x1p] σ (m_X3_reduce t x0p x1p σ) := by
  refine jd_enter hF (by decide) (fun G => [some (jd_v G (some t)), some (.long x0p), none, some (.long x1p), none, none, none]) rfl (by simp [lv_args, jd_al, jd_v_cat, jd_cti, jd_ctl]) (by simp [lg_sl, jd_v_cat, jd_cti, jd_ctl]) (fun X hD hX => ?_)
  have hX : jd_C X RX3 "reduce" cX3_reduce 7 none := hX
  unfold m_X3_reduce
  refine jr_ald0 (pc := 0) hX dX3_reduce_0 ?_
  refine jr_lconst (pc := 1) hX 0 rfl dX3_reduce_1 ?_
  refine jr_putl (pc := 2) hX fX3_7 rfl dX3_reduce_2 ht ?_
  refine jr_li ?_
  refine jr_ald0 (pc := 5) hX dX3_reduce_5 ?_
  refine jr_lconst (pc := 6) hX 1 rfl dX3_reduce_6 ?_
  refine jr_putl (pc := 7) hX fX3_13 rfl dX3_reduce_7 ht ?_
  refine jr_li ?_
  refine jr_lld1 (pc := 10) hX dX3_reduce_10 ?_
  refine jr_lconst (pc := 11) hX 0 rfl dX3_reduce_11 ?_
  refine jr_lcmp (pc := 12) hX dX3_reduce_12 ?_
  refine jr_ifle (pc := 13) hX 52 dX3_reduce_13 (by decide) ?_ ?_
  · exact jr_vret (pc := 52) hX dX3_reduce_52 rfl
  · refine jr_lld3 (pc := 16) hX dX3_reduce_16 ?_
    refine jr_lconst (pc := 17) hX 0 rfl dX3_reduce_17 ?_
    refine jr_lcmp (pc := 18) hX dX3_reduce_18 ?_
    refine jr_ifle (pc := 19) hX 52 dX3_reduce_19 (by decide) ?_ ?_
    · exact jr_vret (pc := 52) hX dX3_reduce_52 rfl
    · refine jr_lld1 (pc := 22) hX dX3_reduce_22 ?_
      refine jr_lld3 (pc := 23) hX dX3_reduce_23 ?_
      refine jr_cS2l (pc := 24) hX lX3_16 (c_X3_commonDivisor hX.F (jd_pl (jd_pl σ t 0 0) t 1 1) _ _) (jd_dd hD rfl) (Nat.le_of_ble_eq_true rfl) dX3_reduce_24 (fun r3 σ3 p3 => ?_)
      refine jr_lst5 (pc := 27) hX jn_n dX3_reduce_27 ?_
      refine jr_lld5 (pc := 29) hX dX3_reduce_29 ?_
      refine jr_lconst (pc := 31) hX 0 rfl dX3_reduce_31 ?_
      refine jr_lcmp (pc := 32) hX dX3_reduce_32 ?_
      refine jr_ifle (pc := 33) hX 52 dX3_reduce_33 (by decide) ?_ ?_
      · exact jr_vret (pc := 52) hX dX3_reduce_52 rfl
      · refine jr_ald0 (pc := 36) hX dX3_reduce_36 ?_
        refine jr_lld1 (pc := 37) hX dX3_reduce_37 ?_
        refine jr_lld5 (pc := 38) hX dX3_reduce_38 ?_
        refine jr_nz (fun z4 => ?_)
        refine jr_ldiv (pc := 40) hX dX3_reduce_40 z4 ?_
        refine jr_putl (pc := 41) hX fX3_7 rfl dX3_reduce_41 (p3.at ht :) ?_
        refine jr_li ?_
        refine jr_ald0 (pc := 44) hX dX3_reduce_44 ?_
        refine jr_lld3 (pc := 45) hX dX3_reduce_45 ?_
        refine jr_lld5 (pc := 46) hX dX3_reduce_46 ?_
        refine jr_nz (fun z6 => ?_)
        refine jr_ldiv (pc := 48) hX dX3_reduce_48 z6 ?_
        refine jr_putl (pc := 49) hX fX3_13 rfl dX3_reduce_49 (p3.at ht :) ?_
        refine jr_li ?_
        exact jr_vret (pc := 52) hX dX3_reduce_52 rfl
def m_X1_nobodyLost (t : Nat) (o0p : (Option Nat)) (o1p : (Option Nat)) (σ : jd_Hp) : Option (Unit × jd_Hp) :=
jd_b (jd_lp (S := Int64 × Int64 × Int32) (T := Int64 × Int64) (fun s1 σ1 =>
jd_o σ1 (6, 8) o0p fun a3 =>
jd_o σ1 (10, 16) (σ1.2.2.2 a3 5) fun a4 =>
jd_if ((σ1.2.1 a4 11) ≤ s1.2.2) (
some ((Sum.inr (s1.1, s1.2.1)), σ1)) (
jd_b (m_X1_isAtRisk o0p s1.2.2 σ1) fun r5 σ5 =>
jd_if (r5 = 0) (
some (Sum.inl (s1.1, s1.2.1, (s1.2.2 + 1)), σ5)) (
jd_o σ5 (10, 16) (σ5.2.2.2 a3 5) fun a6 =>
jd_ia σ5 20 (σ5.2.2.2 a6 3) s1.2.2 fun a7 j7 =>
jd_li (s1.1 * (100 - (σ5.2.1 a7 j7)).toInt64) fun x8 =>
jd_li (s1.2.1 * 100) fun x9 =>
some (Sum.inl (x8, x9, (s1.2.2 + 1)), σ5)))) jd_fu (1, 1, 0) σ) fun t2 σ2 =>
jd_o σ2 (3, 2) o1p fun a10 =>
jd_b (m_X3_reduce a10 t2.1 t2.2 σ2) fun r11 σ11 =>
some ((), σ11)
set_option maxHeartbeats 4000000 in
set_option maxRecDepth 20000 in
theorem c_X1_nobodyLost {l : Launch} {s0 : State} {G : jd_G} (hF : jd_F s0 G) (σ : jd_Hp) (t : Nat) (ht : σ.1[t]? = some (1, 2)) (o0p : (Option Nat)) (o1p : (Option Nat)) : jd_M l s0 G yX1_nobodyLost cX1_nobodyLost 8 none 3 je_v [jd_v G (some t), jd_v G o0p, jd_v G o1p] σ (m_X1_nobodyLost t o0p o1p σ) := by
  refine jd_enter hF (by decide) (fun G => [some (jd_v G (some t)), some (jd_v G o0p), some (jd_v G o1p), none, none, none, none, none]) rfl (by simp [lv_args, jd_al, jd_v_cat, jd_cti, jd_ctl]) (by simp [lg_sl, jd_v_cat, jd_cti, jd_ctl]) (fun X hD hX => ?_)
  have hX : jd_C X RX1 "nobodyLost" cX1_nobodyLost 8 none := hX
  unfold m_X1_nobodyLost
  refine jr_lconst (pc := 0) hX 1 rfl dX1_nobodyLost_0 ?_
  refine jr_lst3 (pc := 1) hX (jn_r _ _) dX1_nobodyLost_1 ?_
  refine jr_lconst (pc := 2) hX 1 rfl dX1_nobodyLost_2 ?_
  refine jr_lst5 (pc := 3) hX jn_n dX1_nobodyLost_3 ?_
  refine jr_iconst (pc := 5) hX 0 rfl dX1_nobodyLost_5 ?_
  refine jr_ist7 (pc := 6) hX jn_n dX1_nobodyLost_6 ?_
  refine jr_wk [false, true, true, true, true, true, true, true] ?_
  refine jr_loop (pc := 8) (fun (s1 : Int64 × Int64 × Int32) => [none, some (jd_v (jd_gG X) o0p), some (jd_v (jd_gG X) o1p), some (.long s1.1), none, some (.long s1.2.1), none, some (.int s1.2.2)]) (fun (t2 : Int64 × Int64) => [none, none, some (jd_v (jd_gG X) o1p), some (.long t2.1), none, some (.long t2.2), none, none]) 60 (1, 1, 0) (fun t2 σ2 => ?_) (fun K1 bk1 ex1 s1 σ1 => ?_)
  · refine jr_ald2 (pc := 60) hX dX1_nobodyLost_60 ?_
    refine jr_lld3 (pc := 61) hX dX1_nobodyLost_61 ?_
    refine jr_lld5 (pc := 62) hX dX1_nobodyLost_62 ?_
    refine jr_ck2 (fun a10 e10 h10 => ?_)
    refine jr_cV2v (pc := 64) hX lX1_40 (c_X3_reduce hX.F σ2 a10 h10 _ _) (jd_dd hD rfl) (Nat.le_of_ble_eq_true rfl) dX1_nobodyLost_64 h10 (fun r11 σ11 p11 => ?_)
    exact jr_vret (pc := 67) hX dX1_nobodyLost_67 rfl
  · refine jr_ild7 (pc := 8) hX dX1_nobodyLost_8 ?_
    refine jr_ald1 (pc := 10) hX dX1_nobodyLost_10 ?_
    refine jr_ck0 (fun a3 e3 h3 => ?_)
    refine jr_getr (pc := 11) hX fX1_19 rfl dX1_nobodyLost_11 h3 ?_
    refine jr_ck0 (fun a4 e4 h4 => ?_)
    refine jr_geti (pc := 14) hX fX1_25 rfl dX1_nobodyLost_14 h4 ?_
    refine jr_icge (pc := 17) hX 60 dX1_nobodyLost_17 (by decide) ?_ ?_
    · refine jr_wk [true, false, true, true, true, true, true, false] ?_
      exact ex1 (s1.1, s1.2.1) _
    · refine jr_ald1 (pc := 20) hX dX1_nobodyLost_20 ?_
      refine jr_ild7 (pc := 21) hX dX1_nobodyLost_21 ?_
      refine jr_cS2i (pc := 23) hX lX1_30 (c_X1_isAtRisk hX.F σ1 _ _) (jd_dd hD rfl) (Nat.le_of_ble_eq_true rfl) dX1_nobodyLost_23 (fun r5 σ5 p5 => ?_)
      refine jr_ifeq (pc := 26) hX 54 dX1_nobodyLost_26 (by decide) ?_ ?_
      · refine jr_inc7 (pc := 54) hX 1 rfl jn_n dX1_nobodyLost_54 ?_
        refine jr_goto (pc := 57) hX 8 dX1_nobodyLost_57 (by decide) ?_
        exact bk1 (s1.1, s1.2.1, (s1.2.2 + 1)) _
      · refine jr_lld3 (pc := 29) hX dX1_nobodyLost_29 ?_
        refine jr_bipush (pc := 30) hX 100 rfl dX1_nobodyLost_30 ?_
        refine jr_ald1 (pc := 32) hX dX1_nobodyLost_32 ?_
        refine jr_ek0 e3 ?_
        refine jr_getr (pc := 33) hX fX1_19 rfl dX1_nobodyLost_33 (p5.at h3 :) ?_
        refine jr_ck0 (fun a6 e6 h6 => ?_)
        refine jr_getr (pc := 36) hX fX1_34 rfl dX1_nobodyLost_36 h6 ?_
        refine jr_ild7 (pc := 39) hX dX1_nobodyLost_39 ?_
        refine jr_iaC (pc := 41) hX dX1_nobodyLost_41 (fun a7 n7 e7 h7 => ?_)
        refine jr_isub (pc := 42) hX dX1_nobodyLost_42 ?_
        refine jr_i2l (pc := 43) hX dX1_nobodyLost_43 ?_
        refine jr_lmul (pc := 44) hX dX1_nobodyLost_44 ?_
        refine jr_lst3 (pc := 45) hX (jn_r _ _) dX1_nobodyLost_45 ?_
        refine jr_li ?_
        refine jr_lld5 (pc := 46) hX dX1_nobodyLost_46 ?_
        refine jr_ldc2 (pc := 48) hX kX1_38 dX1_nobodyLost_48 ?_
        refine jr_lmul (pc := 51) hX dX1_nobodyLost_51 ?_
        refine jr_lst5 (pc := 52) hX jn_n dX1_nobodyLost_52 ?_
        refine jr_li ?_
        refine jr_inc7 (pc := 54) hX 1 rfl jn_n dX1_nobodyLost_54 ?_
        refine jr_goto (pc := 57) hX 8 dX1_nobodyLost_57 (by decide) ?_
        exact bk1 ((s1.1 * (100 - (σ5.2.1 a7 s1.2.2.toNatClampNeg)).toInt64), (s1.2.1 * 100), (s1.2.2 + 1)) _
def m_X1_soManySink (t : Nat) (o0p : (Option Nat)) (x1p : Int32) (o2p : (Option Nat)) (σ : jd_Hp) : Option (Unit × jd_Hp) :=
jd_b (jd_lp (S := Int32) (T := Unit) (fun s1 σ1 =>
jd_if (6 < s1) (
some ((Sum.inr ()), σ1)) (
jd_o σ1 (1, 2) (some t) fun a3 =>
jd_if (¬ s1 = 0) (
jd_ia σ1 23 (σ1.2.2.2 a3 0) s1 fun a4 j4 =>
jd_li (jd_pl σ1 a4 j4 0) fun τ5 =>
some (Sum.inl (s1 + 1), τ5)) (
jd_ia σ1 23 (σ1.2.2.2 a3 0) s1 fun a6 j6 =>
jd_li (jd_pl σ1 a6 j6 1) fun τ7 =>
some (Sum.inl (s1 + 1), τ7)))) jd_fu 0 σ) fun t2 σ2 =>
jd_b (jd_lp (S := Int64 × Int32) (T := Int64) (fun s8 σ8 =>
jd_o σ8 (6, 8) o0p fun a10 =>
jd_o σ8 (10, 16) (σ8.2.2.2 a10 5) fun a11 =>
jd_if ((σ8.2.1 a11 11) ≤ s8.2) (
some ((Sum.inr s8.1), σ8)) (
jd_b (m_X6_sinks a10 s8.2 σ8) fun r12 σ12 =>
jd_if (r12 = 0) (
some (Sum.inl (s8.1, (s8.2 + 1)), σ12)) (
jd_o σ12 (10, 16) (σ12.2.2.2 a10 5) fun a13 =>
jd_ia σ12 20 (σ12.2.2.2 a13 3) s8.2 fun a14 j14 =>
jd_li (σ12.2.1 a14 j14) fun x15 =>
jd_b (jd_lp (S := Int32) (T := Unit) (fun s16 σ16 =>
jd_if (s16 ≤ 0) (
some ((Sum.inr ()), σ16)) (
jd_o σ16 (1, 2) (some t) fun a18 =>
jd_ia σ16 23 (σ16.2.2.2 a18 0) s16 fun a19 j19 =>
jd_ia σ16 23 (σ16.2.2.2 a18 0) (s16 - 1) fun a20 j20 =>
jd_ia σ16 23 (σ16.2.2.2 a18 0) s16 fun a21 j21 =>
jd_li (jd_pl σ16 a21 j21 (((σ16.2.2.1 a19 j19) * (100 - x15).toInt64) + ((σ16.2.2.1 a20 j20) * x15.toInt64))) fun τ22 =>
some (Sum.inl (s16 + (-1)), τ22))) jd_fu 6 σ12) fun t17 σ17 =>
jd_o σ17 (1, 2) (some t) fun a23 =>
jd_ia σ17 23 (σ17.2.2.2 a23 0) 0 fun a24 j24 =>
jd_ia σ17 23 (σ17.2.2.2 a23 0) 0 fun a25 j25 =>
jd_li (jd_pl σ17 a25 j25 ((σ17.2.2.1 a24 j24) * (100 - x15).toInt64)) fun τ26 =>
jd_li (s8.1 * 100) fun x27 =>
some (Sum.inl (x27, (s8.2 + 1)), τ26)))) jd_fu (1, 0) σ2) fun t9 σ9 =>
jd_if (x1p < 0) (
jd_o σ9 (3, 2) o2p fun a28 =>
jd_b (m_X3_reduce a28 0 t9 σ9) fun r29 σ29 =>
some ((), σ29)) (
jd_if (6 < x1p) (
jd_o σ9 (3, 2) o2p fun a30 =>
jd_b (m_X3_reduce a30 0 t9 σ9) fun r31 σ31 =>
some ((), σ31)) (
jd_o σ9 (1, 2) (some t) fun a32 =>
jd_ia σ9 23 (σ9.2.2.2 a32 0) x1p fun a33 j33 =>
jd_o σ9 (3, 2) o2p fun a34 =>
jd_b (m_X3_reduce a34 (σ9.2.2.1 a33 j33) t9 σ9) fun r35 σ35 =>
some ((), σ35)))
set_option maxHeartbeats 4000000 in
set_option maxRecDepth 20000 in
theorem c_X1_soManySink {l : Launch} {s0 : State} {G : jd_G} (hF : jd_F s0 G) (σ : jd_Hp) (t : Nat) (ht : σ.1[t]? = some (1, 2)) (o0p : (Option Nat)) (x1p : Int32) (o2p : (Option Nat)) : jd_M l s0 G yX1_soManySink cX1_soManySink 9 none 2 je_v [jd_v G (some t), jd_v G o0p, .int x1p, jd_v G o2p] σ (m_X1_soManySink t o0p x1p o2p σ) := by
  refine jd_enter hF (by decide) (fun G => [some (jd_v G (some t)), some (jd_v G o0p), some (.int x1p), some (jd_v G o2p), none, none, none, none, none]) rfl (by simp [lv_args, jd_al, jd_v_cat, jd_cti, jd_ctl]) (by simp [lg_sl, jd_v_cat, jd_cti, jd_ctl]) (fun X hD hX => ?_)
  have hX : jd_C X RX1 "soManySink" cX1_soManySink 9 none := hX
  unfold m_X1_soManySink
  refine jr_iconst (pc := 0) hX 0 rfl dX1_soManySink_0 ?_
  refine jr_ist4 (pc := 1) hX (jn_r _ _) dX1_soManySink_1 ?_
  refine jr_loop (pc := 3) (fun (s1 : Int32) => [some (jd_v (jd_gG X) (some t)), some (jd_v (jd_gG X) o0p), some (.int x1p), some (jd_v (jd_gG X) o2p), some (.int s1), none, none, none, none]) (fun (t2 : Unit) => [some (jd_v (jd_gG X) (some t)), some (jd_v (jd_gG X) o0p), some (.int x1p), some (jd_v (jd_gG X) o2p), none, none, none, none, none]) 33 0 (fun t2 σ2 => ?_) (fun K1 bk1 ex1 s1 σ1 => ?_)
  · refine jr_lconst (pc := 33) hX 1 rfl dX1_soManySink_33 ?_
    refine jr_lst4 (pc := 34) hX (jn_r _ _) dX1_soManySink_34 ?_
    refine jr_iconst (pc := 36) hX 0 rfl dX1_soManySink_36 ?_
    refine jr_ist6 (pc := 37) hX jn_n dX1_soManySink_37 ?_
    refine jr_loop (pc := 39) (fun (s8 : Int64 × Int32) => [some (jd_v (jd_gG X) (some t)), some (jd_v (jd_gG X) o0p), some (.int x1p), some (jd_v (jd_gG X) o2p), some (.long s8.1), none, some (.int s8.2), none, none]) (fun (t9 : Int64) => [some (jd_v (jd_gG X) (some t)), none, some (.int x1p), some (jd_v (jd_gG X) o2p), some (.long t9), none, none, none, none]) 151 (1, 0) (fun t9 σ9 => ?_) (fun K8 bk8 ex8 s8 σ8 => ?_)
    · refine jr_ald3 (pc := 151) hX dX1_soManySink_151 ?_
      refine jr_ild2 (pc := 152) hX dX1_soManySink_152 ?_
      refine jr_iflt (pc := 153) hX 171 dX1_soManySink_153 (by decide) ?_ ?_
      · refine jr_lconst (pc := 171) hX 0 rfl dX1_soManySink_171 ?_
        refine jr_lld4 (pc := 172) hX dX1_soManySink_172 ?_
        refine jr_ck2 (fun a28 e28 h28 => ?_)
        refine jr_cV2v (pc := 174) hX lX1_40 (c_X3_reduce hX.F σ9 a28 h28 _ _) (jd_dd hD rfl) (Nat.le_of_ble_eq_true rfl) dX1_soManySink_174 h28 (fun r29 σ29 p29 => ?_)
        exact jr_vret (pc := 177) hX dX1_soManySink_177 rfl
      · refine jr_ild2 (pc := 156) hX dX1_soManySink_156 ?_
        refine jr_bipush (pc := 157) hX 6 rfl dX1_soManySink_157 ?_
        refine jr_icgt (pc := 159) hX 171 dX1_soManySink_159 (by decide) ?_ ?_
        · refine jr_lconst (pc := 171) hX 0 rfl dX1_soManySink_171 ?_
          refine jr_lld4 (pc := 172) hX dX1_soManySink_172 ?_
          refine jr_ck2 (fun a30 e30 h30 => ?_)
          refine jr_cV2v (pc := 174) hX lX1_40 (c_X3_reduce hX.F σ9 a30 h30 _ _) (jd_dd hD rfl) (Nat.le_of_ble_eq_true rfl) dX1_soManySink_174 h30 (fun r31 σ31 p31 => ?_)
          exact jr_vret (pc := 177) hX dX1_soManySink_177 rfl
        · refine jr_ald0 (pc := 162) hX dX1_soManySink_162 ?_
          refine jr_ck0 (fun a32 e32 h32 => ?_)
          refine jr_getr (pc := 163) hX fX1_9 rfl dX1_soManySink_163 h32 ?_
          refine jr_ild2 (pc := 166) hX dX1_soManySink_166 ?_
          refine jr_laC (pc := 167) hX dX1_soManySink_167 (fun a33 n33 e33 h33 => ?_)
          refine jr_goto (pc := 168) hX 172 dX1_soManySink_168 (by decide) ?_
          refine jr_lld4 (pc := 172) hX dX1_soManySink_172 ?_
          refine jr_ck2 (fun a34 e34 h34 => ?_)
          refine jr_cV2v (pc := 174) hX lX1_40 (c_X3_reduce hX.F σ9 a34 h34 _ _) (jd_dd hD rfl) (Nat.le_of_ble_eq_true rfl) dX1_soManySink_174 h34 (fun r35 σ35 p35 => ?_)
          exact jr_vret (pc := 177) hX dX1_soManySink_177 rfl
    · refine jr_ild6 (pc := 39) hX dX1_soManySink_39 ?_
      refine jr_ald1 (pc := 41) hX dX1_soManySink_41 ?_
      refine jr_ck0 (fun a10 e10 h10 => ?_)
      refine jr_getr (pc := 42) hX fX1_19 rfl dX1_soManySink_42 h10 ?_
      refine jr_ck0 (fun a11 e11 h11 => ?_)
      refine jr_geti (pc := 45) hX fX1_25 rfl dX1_soManySink_45 h11 ?_
      refine jr_icge (pc := 48) hX 151 dX1_soManySink_48 (by decide) ?_ ?_
      · refine jr_wk [true, false, true, true, true, true, false, true, true] ?_
        exact ex8 s8.1 _
      · refine jr_ald1 (pc := 51) hX dX1_soManySink_51 ?_
        refine jr_ild6 (pc := 52) hX dX1_soManySink_52 ?_
        refine jr_ek1 e10 ?_
        refine jr_cV1i (pc := 54) hX lX1_46 (c_X6_sinks hX.F σ8 a10 h10 _) (jd_dd hD rfl) (Nat.le_of_ble_eq_true rfl) dX1_soManySink_54 h10 (fun r12 σ12 p12 => ?_)
        refine jr_ifeq (pc := 57) hX 145 dX1_soManySink_57 (by decide) ?_ ?_
        · refine jr_inc6 (pc := 145) hX 1 rfl jn_n dX1_soManySink_145 ?_
          refine jr_goto (pc := 148) hX 39 dX1_soManySink_148 (by decide) ?_
          exact bk8 (s8.1, (s8.2 + 1)) _
        · refine jr_ald1 (pc := 60) hX dX1_soManySink_60 ?_
          refine jr_ek0 e10 ?_
          refine jr_getr (pc := 61) hX fX1_19 rfl dX1_soManySink_61 (p12.at h10 :) ?_
          refine jr_ck0 (fun a13 e13 h13 => ?_)
          refine jr_getr (pc := 64) hX fX1_34 rfl dX1_soManySink_64 h13 ?_
          refine jr_ild6 (pc := 67) hX dX1_soManySink_67 ?_
          refine jr_iaC (pc := 69) hX dX1_soManySink_69 (fun a14 n14 e14 h14 => ?_)
          refine jr_ist7 (pc := 70) hX (jn_i _) dX1_soManySink_70 ?_
          refine jr_li ?_
          refine jr_bipush (pc := 72) hX 6 rfl dX1_soManySink_72 ?_
          refine jr_ist8 (pc := 74) hX (jn_i _) dX1_soManySink_74 ?_
          refine jr_loop (pc := 76) (fun (s16 : Int32) => [some (jd_v (jd_gG X) (some t)), some (jd_v (jd_gG X) o0p), some (.int x1p), some (jd_v (jd_gG X) o2p), some (.long s8.1), none, some (.int s8.2), some (.int (σ12.2.1 a14 s8.2.toNatClampNeg)), some (.int s16)]) (fun (t17 : Unit) => [some (jd_v (jd_gG X) (some t)), some (jd_v (jd_gG X) o0p), some (.int x1p), some (jd_v (jd_gG X) o2p), some (.long s8.1), none, some (.int s8.2), some (.int (σ12.2.1 a14 s8.2.toNatClampNeg)), none]) 122 6 (fun t17 σ17 => ?_) (fun K16 bk16 ex16 s16 σ16 => ?_)
          · refine jr_ald0 (pc := 122) hX dX1_soManySink_122 ?_
            refine jr_ck0 (fun a23 e23 h23 => ?_)
            refine jr_getr (pc := 123) hX fX1_9 rfl dX1_soManySink_123 h23 ?_
            refine jr_iconst (pc := 126) hX 0 rfl dX1_soManySink_126 ?_
            refine jr_dup2 (pc := 127) hX rfl (jd_v_cat _ _) dX1_soManySink_127 ?_
            refine jr_laC (pc := 128) hX dX1_soManySink_128 (fun a24 n24 e24 h24 => ?_)
            refine jr_bipush (pc := 129) hX 100 rfl dX1_soManySink_129 ?_
            refine jr_ild7 (pc := 131) hX dX1_soManySink_131 ?_
            refine jr_isub (pc := 133) hX dX1_soManySink_133 ?_
            refine jr_i2l (pc := 134) hX dX1_soManySink_134 ?_
            refine jr_lmul (pc := 135) hX dX1_soManySink_135 ?_
            refine jr_laS (pc := 136) hX dX1_soManySink_136 (fun a25 n25 e25 h25 => ?_)
            refine jr_li ?_
            refine jr_lld4 (pc := 137) hX dX1_soManySink_137 ?_
            refine jr_ldc2 (pc := 139) hX kX1_38 dX1_soManySink_139 ?_
            refine jr_lmul (pc := 142) hX dX1_soManySink_142 ?_
            refine jr_lst4 (pc := 143) hX (jn_r _ _) dX1_soManySink_143 ?_
            refine jr_li ?_
            refine jr_inc6 (pc := 145) hX 1 rfl jn_n dX1_soManySink_145 ?_
            refine jr_goto (pc := 148) hX 39 dX1_soManySink_148 (by decide) ?_
            refine jr_wk [true, true, true, true, true, true, true, false, true] ?_
            exact bk8 ((s8.1 * 100), (s8.2 + 1)) _
          · refine jr_ild8 (pc := 76) hX dX1_soManySink_76 ?_
            refine jr_ifle (pc := 78) hX 122 dX1_soManySink_78 (by decide) ?_ ?_
            · refine jr_wk [true, true, true, true, true, true, true, true, false] ?_
              exact ex16 () _
            · refine jr_ald0 (pc := 81) hX dX1_soManySink_81 ?_
              refine jr_ck0 (fun a18 e18 h18 => ?_)
              refine jr_getr (pc := 82) hX fX1_9 rfl dX1_soManySink_82 h18 ?_
              refine jr_ild8 (pc := 85) hX dX1_soManySink_85 ?_
              refine jr_ald0 (pc := 87) hX dX1_soManySink_87 ?_
              refine jr_ek0 e18 ?_
              refine jr_getr (pc := 88) hX fX1_9 rfl dX1_soManySink_88 h18 ?_
              refine jr_ild8 (pc := 91) hX dX1_soManySink_91 ?_
              refine jr_laC (pc := 93) hX dX1_soManySink_93 (fun a19 n19 e19 h19 => ?_)
              refine jr_bipush (pc := 94) hX 100 rfl dX1_soManySink_94 ?_
              refine jr_ild7 (pc := 96) hX dX1_soManySink_96 ?_
              refine jr_isub (pc := 98) hX dX1_soManySink_98 ?_
              refine jr_i2l (pc := 99) hX dX1_soManySink_99 ?_
              refine jr_lmul (pc := 100) hX dX1_soManySink_100 ?_
              refine jr_ald0 (pc := 101) hX dX1_soManySink_101 ?_
              refine jr_ek0 e18 ?_
              refine jr_getr (pc := 102) hX fX1_9 rfl dX1_soManySink_102 h18 ?_
              refine jr_ild8 (pc := 105) hX dX1_soManySink_105 ?_
              refine jr_iconst (pc := 107) hX 1 rfl dX1_soManySink_107 ?_
              refine jr_isub (pc := 108) hX dX1_soManySink_108 ?_
              refine jr_laC (pc := 109) hX dX1_soManySink_109 (fun a20 n20 e20 h20 => ?_)
              refine jr_ild7 (pc := 110) hX dX1_soManySink_110 ?_
              refine jr_i2l (pc := 112) hX dX1_soManySink_112 ?_
              refine jr_lmul (pc := 113) hX dX1_soManySink_113 ?_
              refine jr_ladd (pc := 114) hX dX1_soManySink_114 ?_
              refine jr_laS (pc := 115) hX dX1_soManySink_115 (fun a21 n21 e21 h21 => ?_)
              refine jr_li ?_
              refine jr_inc8 (pc := 116) hX (-1) rfl (jn_i _) dX1_soManySink_116 ?_
              refine jr_goto (pc := 119) hX 76 dX1_soManySink_119 (by decide) ?_
              exact bk16 (s16 + (-1)) _
  · refine jr_ild4 (pc := 3) hX dX1_soManySink_3 ?_
    refine jr_bipush (pc := 5) hX 6 rfl dX1_soManySink_5 ?_
    refine jr_icgt (pc := 7) hX 33 dX1_soManySink_7 (by decide) ?_ ?_
    · refine jr_wk [true, true, true, true, false, true, true, true, true] ?_
      exact ex1 () _
    · refine jr_ald0 (pc := 10) hX dX1_soManySink_10 ?_
      refine jr_ck0 (fun a3 e3 h3 => ?_)
      refine jr_getr (pc := 11) hX fX1_9 rfl dX1_soManySink_11 h3 ?_
      refine jr_ild4 (pc := 14) hX dX1_soManySink_14 ?_
      refine jr_ild4 (pc := 16) hX dX1_soManySink_16 ?_
      refine jr_ifne (pc := 18) hX 25 dX1_soManySink_18 (by decide) ?_ ?_
      · refine jr_lconst (pc := 25) hX 0 rfl dX1_soManySink_25 ?_
        refine jr_laS (pc := 26) hX dX1_soManySink_26 (fun a4 n4 e4 h4 => ?_)
        refine jr_li ?_
        refine jr_inc4 (pc := 27) hX 1 rfl (jn_r _ _) dX1_soManySink_27 ?_
        refine jr_goto (pc := 30) hX 3 dX1_soManySink_30 (by decide) ?_
        exact bk1 (s1 + 1) _
      · refine jr_lconst (pc := 21) hX 1 rfl dX1_soManySink_21 ?_
        refine jr_goto (pc := 22) hX 26 dX1_soManySink_22 (by decide) ?_
        refine jr_laS (pc := 26) hX dX1_soManySink_26 (fun a6 n6 e6 h6 => ?_)
        refine jr_li ?_
        refine jr_inc4 (pc := 27) hX 1 rfl (jn_r _ _) dX1_soManySink_27 ?_
        refine jr_goto (pc := 30) hX 3 dX1_soManySink_30 (by decide) ?_
        exact bk1 (s1 + 1) _
def m_X1_meanLost (t : Nat) (o0p : (Option Nat)) (o1p : (Option Nat)) (σ : jd_Hp) : Option (Unit × jd_Hp) :=
jd_b (jd_lp (S := Int64 × Int32) (T := Int64) (fun s1 σ1 =>
jd_o σ1 (6, 8) o0p fun a3 =>
jd_o σ1 (10, 16) (σ1.2.2.2 a3 5) fun a4 =>
jd_if ((σ1.2.1 a4 11) ≤ s1.2) (
some ((Sum.inr s1.1), σ1)) (
jd_b (m_X1_isAtRisk o0p s1.2 σ1) fun r5 σ5 =>
jd_if (r5 = 0) (
some (Sum.inl (s1.1, (s1.2 + 1)), σ5)) (
jd_o σ5 (10, 16) (σ5.2.2.2 a3 5) fun a6 =>
jd_ia σ5 20 (σ5.2.2.2 a6 3) s1.2 fun a7 j7 =>
jd_li (s1.1 + (σ5.2.1 a7 j7).toInt64) fun x8 =>
some (Sum.inl (x8, (s1.2 + 1)), σ5)))) jd_fu (0, 0) σ) fun t2 σ2 =>
jd_o σ2 (3, 2) o1p fun a9 =>
jd_b (m_X3_reduce a9 t2 100 σ2) fun r10 σ10 =>
some ((), σ10)
set_option maxHeartbeats 4000000 in
set_option maxRecDepth 20000 in
theorem c_X1_meanLost {l : Launch} {s0 : State} {G : jd_G} (hF : jd_F s0 G) (σ : jd_Hp) (t : Nat) (ht : σ.1[t]? = some (1, 2)) (o0p : (Option Nat)) (o1p : (Option Nat)) : jd_M l s0 G yX1_meanLost cX1_meanLost 6 none 3 je_v [jd_v G (some t), jd_v G o0p, jd_v G o1p] σ (m_X1_meanLost t o0p o1p σ) := by
  refine jd_enter hF (by decide) (fun G => [some (jd_v G (some t)), some (jd_v G o0p), some (jd_v G o1p), none, none, none]) rfl (by simp [lv_args, jd_al, jd_v_cat, jd_cti, jd_ctl]) (by simp [lg_sl, jd_v_cat, jd_cti, jd_ctl]) (fun X hD hX => ?_)
  have hX : jd_C X RX1 "meanLost" cX1_meanLost 6 none := hX
  unfold m_X1_meanLost
  refine jr_lconst (pc := 0) hX 0 rfl dX1_meanLost_0 ?_
  refine jr_lst3 (pc := 1) hX (jn_r _ _) dX1_meanLost_1 ?_
  refine jr_iconst (pc := 2) hX 0 rfl dX1_meanLost_2 ?_
  refine jr_ist5 (pc := 3) hX jn_n dX1_meanLost_3 ?_
  refine jr_wk [false, true, true, true, true, true] ?_
  refine jr_loop (pc := 5) (fun (s1 : Int64 × Int32) => [none, some (jd_v (jd_gG X) o0p), some (jd_v (jd_gG X) o1p), some (.long s1.1), none, some (.int s1.2)]) (fun (t2 : Int64) => [none, none, some (jd_v (jd_gG X) o1p), some (.long t2), none, none]) 46 (0, 0) (fun t2 σ2 => ?_) (fun K1 bk1 ex1 s1 σ1 => ?_)
  · refine jr_ald2 (pc := 46) hX dX1_meanLost_46 ?_
    refine jr_lld3 (pc := 47) hX dX1_meanLost_47 ?_
    refine jr_ldc2 (pc := 48) hX kX1_38 dX1_meanLost_48 ?_
    refine jr_ck2 (fun a9 e9 h9 => ?_)
    refine jr_cV2v (pc := 51) hX lX1_40 (c_X3_reduce hX.F σ2 a9 h9 _ _) (jd_dd hD rfl) (Nat.le_of_ble_eq_true rfl) dX1_meanLost_51 h9 (fun r10 σ10 p10 => ?_)
    exact jr_vret (pc := 54) hX dX1_meanLost_54 rfl
  · refine jr_ild5 (pc := 5) hX dX1_meanLost_5 ?_
    refine jr_ald1 (pc := 7) hX dX1_meanLost_7 ?_
    refine jr_ck0 (fun a3 e3 h3 => ?_)
    refine jr_getr (pc := 8) hX fX1_19 rfl dX1_meanLost_8 h3 ?_
    refine jr_ck0 (fun a4 e4 h4 => ?_)
    refine jr_geti (pc := 11) hX fX1_25 rfl dX1_meanLost_11 h4 ?_
    refine jr_icge (pc := 14) hX 46 dX1_meanLost_14 (by decide) ?_ ?_
    · refine jr_wk [true, false, true, true, true, false] ?_
      exact ex1 s1.1 _
    · refine jr_ald1 (pc := 17) hX dX1_meanLost_17 ?_
      refine jr_ild5 (pc := 18) hX dX1_meanLost_18 ?_
      refine jr_cS2i (pc := 20) hX lX1_30 (c_X1_isAtRisk hX.F σ1 _ _) (jd_dd hD rfl) (Nat.le_of_ble_eq_true rfl) dX1_meanLost_20 (fun r5 σ5 p5 => ?_)
      refine jr_ifeq (pc := 23) hX 40 dX1_meanLost_23 (by decide) ?_ ?_
      · refine jr_inc5 (pc := 40) hX 1 rfl jn_n dX1_meanLost_40 ?_
        refine jr_goto (pc := 43) hX 5 dX1_meanLost_43 (by decide) ?_
        exact bk1 (s1.1, (s1.2 + 1)) _
      · refine jr_lld3 (pc := 26) hX dX1_meanLost_26 ?_
        refine jr_ald1 (pc := 27) hX dX1_meanLost_27 ?_
        refine jr_ek0 e3 ?_
        refine jr_getr (pc := 28) hX fX1_19 rfl dX1_meanLost_28 (p5.at h3 :) ?_
        refine jr_ck0 (fun a6 e6 h6 => ?_)
        refine jr_getr (pc := 31) hX fX1_34 rfl dX1_meanLost_31 h6 ?_
        refine jr_ild5 (pc := 34) hX dX1_meanLost_34 ?_
        refine jr_iaC (pc := 36) hX dX1_meanLost_36 (fun a7 n7 e7 h7 => ?_)
        refine jr_i2l (pc := 37) hX dX1_meanLost_37 ?_
        refine jr_ladd (pc := 38) hX dX1_meanLost_38 ?_
        refine jr_lst3 (pc := 39) hX (jn_r _ _) dX1_meanLost_39 ?_
        refine jr_li ?_
        refine jr_inc5 (pc := 40) hX 1 rfl jn_n dX1_meanLost_40 ?_
        refine jr_goto (pc := 43) hX 5 dX1_meanLost_43 (by decide) ?_
        exact bk1 ((s1.1 + (σ5.2.1 a7 s1.2.toNatClampNeg).toInt64), (s1.2 + 1)) _
def m_X1_drawAfternoon (t : Nat) (o0p : (Option Nat)) (σ : jd_Hp) : Option (Int32 × jd_Hp) :=
jd_b (jd_lp (S := Int32 × Int32) (T := Int32) (fun s1 σ1 =>
jd_o σ1 (6, 8) o0p fun a3 =>
jd_o σ1 (10, 16) (σ1.2.2.2 a3 5) fun a4 =>
jd_if ((σ1.2.1 a4 11) ≤ s1.2) (
some ((Sum.inr s1.1), σ1)) (
jd_b (m_X6_sinks a3 s1.2 σ1) fun r5 σ5 =>
jd_if (r5 = 0) (
some (Sum.inl (s1.1, (s1.2 + 1)), σ5)) (
jd_o σ5 (1, 2) (some t) fun a6 =>
jd_li (jd_pi σ5 a6 1 (((75 * (σ5.2.1 a6 1)) + 74) - ((75 * (σ5.2.1 a6 1)) + 74) / 65537 * 65537)) fun τ7 =>
jd_o τ7 (10, 16) (τ7.2.2.2 a3 5) fun a8 =>
jd_ia τ7 20 (τ7.2.2.2 a8 3) s1.2 fun a9 j9 =>
jd_if ((τ7.2.1 a9 j9) ≤ ((τ7.2.1 a6 1) - (τ7.2.1 a6 1) / 100 * 100)) (
some (Sum.inl (s1.1, (s1.2 + 1)), τ7)) (
jd_li (s1.1 ||| (1 <<< (s1.2 &&& 31))) fun x10 =>
some (Sum.inl (x10, (s1.2 + 1)), τ7))))) jd_fu (0, 0) σ) fun t2 σ2 =>
some (t2, σ2)
set_option maxHeartbeats 4000000 in
set_option maxRecDepth 20000 in
theorem c_X1_drawAfternoon {l : Launch} {s0 : State} {G : jd_G} (hF : jd_F s0 G) (σ : jd_Hp) (t : Nat) (ht : σ.1[t]? = some (1, 2)) (o0p : (Option Nat)) : jd_M l s0 G yX1_drawAfternoon cX1_drawAfternoon 4 (some .int) 2 je_i [jd_v G (some t), jd_v G o0p] σ (m_X1_drawAfternoon t o0p σ) := by
  refine jd_enter hF (by decide) (fun G => [some (jd_v G (some t)), some (jd_v G o0p), none, none]) rfl (by simp [lv_args, jd_al, jd_v_cat, jd_cti, jd_ctl]) (by simp [lg_sl, jd_v_cat, jd_cti, jd_ctl]) (fun X hD hX => ?_)
  have hX : jd_C X RX1 "drawAfternoon" cX1_drawAfternoon 4 (some .int) := hX
  unfold m_X1_drawAfternoon
  refine jr_iconst (pc := 0) hX 0 rfl dX1_drawAfternoon_0 ?_
  refine jr_ist2 (pc := 1) hX (jn_r _ _) dX1_drawAfternoon_1 ?_
  refine jr_iconst (pc := 2) hX 0 rfl dX1_drawAfternoon_2 ?_
  refine jr_ist3 (pc := 3) hX (jn_i _) dX1_drawAfternoon_3 ?_
  refine jr_loop (pc := 4) (fun (s1 : Int32 × Int32) => [some (jd_v (jd_gG X) (some t)), some (jd_v (jd_gG X) o0p), some (.int s1.1), some (.int s1.2)]) (fun (t2 : Int32) => [none, none, some (.int t2), none]) 71 (0, 0) (fun t2 σ2 => ?_) (fun K1 bk1 ex1 s1 σ1 => ?_)
  · refine jr_ild2 (pc := 71) hX dX1_drawAfternoon_71 ?_
    exact jr_iret (pc := 72) hX dX1_drawAfternoon_72 rfl
  · refine jr_ild3 (pc := 4) hX dX1_drawAfternoon_4 ?_
    refine jr_ald1 (pc := 5) hX dX1_drawAfternoon_5 ?_
    refine jr_ck0 (fun a3 e3 h3 => ?_)
    refine jr_getr (pc := 6) hX fX1_19 rfl dX1_drawAfternoon_6 h3 ?_
    refine jr_ck0 (fun a4 e4 h4 => ?_)
    refine jr_geti (pc := 9) hX fX1_25 rfl dX1_drawAfternoon_9 h4 ?_
    refine jr_icge (pc := 12) hX 71 dX1_drawAfternoon_12 (by decide) ?_ ?_
    · refine jr_wk [false, false, true, false] ?_
      exact ex1 s1.1 _
    · refine jr_ald1 (pc := 15) hX dX1_drawAfternoon_15 ?_
      refine jr_ild3 (pc := 16) hX dX1_drawAfternoon_16 ?_
      refine jr_ek1 e3 ?_
      refine jr_cV1i (pc := 17) hX lX1_46 (c_X6_sinks hX.F σ1 a3 h3 _) (jd_dd hD rfl) (Nat.le_of_ble_eq_true rfl) dX1_drawAfternoon_17 h3 (fun r5 σ5 p5 => ?_)
      refine jr_ifeq (pc := 20) hX 65 dX1_drawAfternoon_20 (by decide) ?_ ?_
      · refine jr_inc3 (pc := 65) hX 1 rfl (jn_i _) dX1_drawAfternoon_65 ?_
        refine jr_goto (pc := 68) hX 4 dX1_drawAfternoon_68 (by decide) ?_
        exact bk1 (s1.1, (s1.2 + 1)) _
      · refine jr_ald0 (pc := 23) hX dX1_drawAfternoon_23 ?_
        refine jr_bipush (pc := 24) hX 75 rfl dX1_drawAfternoon_24 ?_
        refine jr_ald0 (pc := 26) hX dX1_drawAfternoon_26 ?_
        refine jr_ck0 (fun a6 e6 h6 => ?_)
        refine jr_geti (pc := 27) hX fX1_15 rfl dX1_drawAfternoon_27 h6 ?_
        refine jr_imul (pc := 30) hX dX1_drawAfternoon_30 ?_
        refine jr_bipush (pc := 31) hX 74 rfl dX1_drawAfternoon_31 ?_
        refine jr_iadd (pc := 33) hX dX1_drawAfternoon_33 ?_
        refine jr_ldc (pc := 34) hX kX1_70 dX1_drawAfternoon_34 ?_
        refine jr_irem (pc := 36) hX dX1_drawAfternoon_36 (by decide) ?_
        refine jr_ek1 e6 ?_
        refine jr_puti (pc := 37) hX fX1_15 rfl dX1_drawAfternoon_37 h6 ?_
        refine jr_li ?_
        refine jr_ald0 (pc := 40) hX dX1_drawAfternoon_40 ?_
        refine jr_ek0 e6 ?_
        refine jr_geti (pc := 41) hX fX1_15 rfl dX1_drawAfternoon_41 h6 ?_
        refine jr_bipush (pc := 44) hX 100 rfl dX1_drawAfternoon_44 ?_
        refine jr_irem (pc := 46) hX dX1_drawAfternoon_46 (by decide) ?_
        refine jr_ald1 (pc := 47) hX dX1_drawAfternoon_47 ?_
        refine jr_ek0 e3 ?_
        refine jr_getr (pc := 48) hX fX1_19 rfl dX1_drawAfternoon_48 (p5.at h3 :) ?_
        refine jr_ck0 (fun a8 e8 h8 => ?_)
        refine jr_getr (pc := 51) hX fX1_34 rfl dX1_drawAfternoon_51 h8 ?_
        refine jr_ild3 (pc := 54) hX dX1_drawAfternoon_54 ?_
        refine jr_iaC (pc := 55) hX dX1_drawAfternoon_55 (fun a9 n9 e9 h9 => ?_)
        refine jr_icge (pc := 56) hX 65 dX1_drawAfternoon_56 (by decide) ?_ ?_
        · refine jr_inc3 (pc := 65) hX 1 rfl (jn_i _) dX1_drawAfternoon_65 ?_
          refine jr_goto (pc := 68) hX 4 dX1_drawAfternoon_68 (by decide) ?_
          exact bk1 (s1.1, (s1.2 + 1)) _
        · refine jr_ild2 (pc := 59) hX dX1_drawAfternoon_59 ?_
          refine jr_iconst (pc := 60) hX 1 rfl dX1_drawAfternoon_60 ?_
          refine jr_ild3 (pc := 61) hX dX1_drawAfternoon_61 ?_
          refine jr_ishl (pc := 62) hX dX1_drawAfternoon_62 ?_
          refine jr_ior (pc := 63) hX dX1_drawAfternoon_63 ?_
          refine jr_ist2 (pc := 64) hX (jn_r _ _) dX1_drawAfternoon_64 ?_
          refine jr_li ?_
          refine jr_inc3 (pc := 65) hX 1 rfl (jn_i _) dX1_drawAfternoon_65 ?_
          refine jr_goto (pc := 68) hX 4 dX1_drawAfternoon_68 (by decide) ?_
          exact bk1 ((s1.1 ||| (1 <<< (s1.2 &&& 31))), (s1.2 + 1)) _
def m_X1_timesLost (t : Nat) (o0p : (Option Nat)) (x1p : Int32) (x2p : Int32) (x3p : Int32) (σ : jd_Hp) : Option (Int32 × jd_Hp) :=
jd_li (jd_pi σ t 1 x2p) fun τ1 =>
jd_b (jd_lp (S := Int32 × Int32) (T := Int32) (fun s2 σ2 =>
jd_if (x3p ≤ s2.2) (
some ((Sum.inr s2.1), σ2)) (
jd_o σ2 (1, 2) (some t) fun a4 =>
jd_b (m_X1_drawAfternoon a4 o0p σ2) fun r5 σ5 =>
jd_b (m_X11_has r5 x1p σ5) fun r6 σ6 =>
jd_if (r6 = 0) (
some (Sum.inl (s2.1, (s2.2 + 1)), σ6)) (
jd_b (m_X1_isAtRisk o0p x1p σ6) fun r7 σ7 =>
jd_if (r7 = 0) (
some (Sum.inl (s2.1, (s2.2 + 1)), σ7)) (
some (Sum.inl ((s2.1 + 1), (s2.2 + 1)), σ7))))) jd_fu (0, 0) τ1) fun t3 σ3 =>
some (t3, σ3)
set_option maxHeartbeats 4000000 in
set_option maxRecDepth 20000 in
theorem c_X1_timesLost {l : Launch} {s0 : State} {G : jd_G} (hF : jd_F s0 G) (σ : jd_Hp) (t : Nat) (ht : σ.1[t]? = some (1, 2)) (o0p : (Option Nat)) (x1p : Int32) (x2p : Int32) (x3p : Int32) : jd_M l s0 G yX1_timesLost cX1_timesLost 8 (some .int) 3 je_i [jd_v G (some t), jd_v G o0p, .int x1p, .int x2p, .int x3p] σ (m_X1_timesLost t o0p x1p x2p x3p σ) := by
  refine jd_enter hF (by decide) (fun G => [some (jd_v G (some t)), some (jd_v G o0p), some (.int x1p), some (.int x2p), some (.int x3p), none, none, none]) rfl (by simp [lv_args, jd_al, jd_v_cat, jd_cti, jd_ctl]) (by simp [lg_sl, jd_v_cat, jd_cti, jd_ctl]) (fun X hD hX => ?_)
  have hX : jd_C X RX1 "timesLost" cX1_timesLost 8 (some .int) := hX
  unfold m_X1_timesLost
  refine jr_ald0 (pc := 0) hX dX1_timesLost_0 ?_
  refine jr_ild3 (pc := 1) hX dX1_timesLost_1 ?_
  refine jr_puti (pc := 2) hX fX1_15 rfl dX1_timesLost_2 ht ?_
  refine jr_li ?_
  refine jr_iconst (pc := 5) hX 0 rfl dX1_timesLost_5 ?_
  refine jr_ist5 (pc := 6) hX (jn_i _) dX1_timesLost_6 ?_
  refine jr_iconst (pc := 8) hX 0 rfl dX1_timesLost_8 ?_
  refine jr_ist6 (pc := 9) hX (jn_i _) dX1_timesLost_9 ?_
  refine jr_wk [true, true, true, false, true, true, true, true] ?_
  refine jr_loop (pc := 11) (fun (s2 : Int32 × Int32) => [some (jd_v (jd_gG X) (some t)), some (jd_v (jd_gG X) o0p), some (.int x1p), none, some (.int x3p), some (.int s2.1), some (.int s2.2), none]) (fun (t3 : Int32) => [none, none, none, none, none, some (.int t3), none, none]) 51 (0, 0) (fun t3 σ3 => ?_) (fun K2 bk2 ex2 s2 σ2 => ?_)
  · refine jr_ild5 (pc := 51) hX dX1_timesLost_51 ?_
    exact jr_iret (pc := 53) hX dX1_timesLost_53 rfl
  · refine jr_ild6 (pc := 11) hX dX1_timesLost_11 ?_
    refine jr_ild4 (pc := 13) hX dX1_timesLost_13 ?_
    refine jr_icge (pc := 15) hX 51 dX1_timesLost_15 (by decide) ?_ ?_
    · refine jr_wk [false, false, false, true, false, true, false, true] ?_
      exact ex2 s2.1 _
    · refine jr_ald0 (pc := 18) hX dX1_timesLost_18 ?_
      refine jr_ald1 (pc := 19) hX dX1_timesLost_19 ?_
      refine jr_ck1 (fun a4 e4 h4 => ?_)
      refine jr_cV1i (pc := 20) hX lX1_50 (c_X1_drawAfternoon hX.F σ2 a4 h4 _) (jd_dd hD rfl) (Nat.le_of_ble_eq_true rfl) dX1_timesLost_20 h4 (fun r5 σ5 p5 => ?_)
      refine jr_ist7 (pc := 23) hX (jn_i _) dX1_timesLost_23 ?_
      refine jr_ild7 (pc := 25) hX dX1_timesLost_25 ?_
      refine jr_ild2 (pc := 27) hX dX1_timesLost_27 ?_
      refine jr_cS2i (pc := 28) hX lX1_54 (c_X11_has hX.F σ5 _ _) (jd_dd hD rfl) (Nat.le_of_ble_eq_true rfl) dX1_timesLost_28 (fun r6 σ6 p6 => ?_)
      refine jr_ifeq (pc := 31) hX 45 dX1_timesLost_31 (by decide) ?_ ?_
      · refine jr_inc6 (pc := 45) hX 1 rfl (jn_i _) dX1_timesLost_45 ?_
        refine jr_goto (pc := 48) hX 11 dX1_timesLost_48 (by decide) ?_
        refine jr_wk [true, true, true, true, true, true, true, false] ?_
        exact bk2 (s2.1, (s2.2 + 1)) _
      · refine jr_ald1 (pc := 34) hX dX1_timesLost_34 ?_
        refine jr_ild2 (pc := 35) hX dX1_timesLost_35 ?_
        refine jr_cS2i (pc := 36) hX lX1_30 (c_X1_isAtRisk hX.F σ6 _ _) (jd_dd hD rfl) (Nat.le_of_ble_eq_true rfl) dX1_timesLost_36 (fun r7 σ7 p7 => ?_)
        refine jr_ifeq (pc := 39) hX 45 dX1_timesLost_39 (by decide) ?_ ?_
        · refine jr_inc6 (pc := 45) hX 1 rfl (jn_i _) dX1_timesLost_45 ?_
          refine jr_goto (pc := 48) hX 11 dX1_timesLost_48 (by decide) ?_
          refine jr_wk [true, true, true, true, true, true, true, false] ?_
          exact bk2 (s2.1, (s2.2 + 1)) _
        · refine jr_inc5 (pc := 42) hX 1 rfl (jn_i _) dX1_timesLost_42 ?_
          refine jr_inc6 (pc := 45) hX 1 rfl (jn_i _) dX1_timesLost_45 ?_
          refine jr_goto (pc := 48) hX 11 dX1_timesLost_48 (by decide) ?_
          refine jr_wk [true, true, true, true, true, true, true, false] ?_
          exact bk2 ((s2.1 + 1), (s2.2 + 1)) _
def m_X1_mostAtOnce (t : Nat) (o0p : (Option Nat)) (x1p : Int32) (x2p : Int32) (σ : jd_Hp) : Option (Int32 × jd_Hp) :=
jd_li (jd_pi σ t 1 x1p) fun τ1 =>
jd_b (jd_lp (S := Int32 × Int32) (T := Int32) (fun s2 σ2 =>
jd_if (x2p ≤ s2.2) (
some ((Sum.inr s2.1), σ2)) (
jd_o σ2 (1, 2) (some t) fun a4 =>
jd_b (m_X1_drawAfternoon a4 o0p σ2) fun r5 σ5 =>
jd_b (m_J6_bitCount_0f7a4 r5 σ5) fun r6 σ6 =>
jd_li (jd_max s2.1 r6) fun x7 =>
some (Sum.inl (x7, (s2.2 + 1)), σ6))) jd_fu (0, 0) τ1) fun t3 σ3 =>
some (t3, σ3)
set_option maxHeartbeats 4000000 in
set_option maxRecDepth 20000 in
theorem c_X1_mostAtOnce {l : Launch} {s0 : State} {G : jd_G} (hF : jd_F s0 G) (σ : jd_Hp) (t : Nat) (ht : σ.1[t]? = some (1, 2)) (o0p : (Option Nat)) (x1p : Int32) (x2p : Int32) : jd_M l s0 G yX1_mostAtOnce cX1_mostAtOnce 6 (some .int) 3 je_i [jd_v G (some t), jd_v G o0p, .int x1p, .int x2p] σ (m_X1_mostAtOnce t o0p x1p x2p σ) := by
  refine jd_enter hF (by decide) (fun G => [some (jd_v G (some t)), some (jd_v G o0p), some (.int x1p), some (.int x2p), none, none]) rfl (by simp [lv_args, jd_al, jd_v_cat, jd_cti, jd_ctl]) (by simp [lg_sl, jd_v_cat, jd_cti, jd_ctl]) (fun X hD hX => ?_)
  have hX : jd_C X RX1 "mostAtOnce" cX1_mostAtOnce 6 (some .int) := hX
  unfold m_X1_mostAtOnce
  refine jr_ald0 (pc := 0) hX dX1_mostAtOnce_0 ?_
  refine jr_ild2 (pc := 1) hX dX1_mostAtOnce_1 ?_
  refine jr_puti (pc := 2) hX fX1_15 rfl dX1_mostAtOnce_2 ht ?_
  refine jr_li ?_
  refine jr_iconst (pc := 5) hX 0 rfl dX1_mostAtOnce_5 ?_
  refine jr_ist4 (pc := 6) hX (jn_i _) dX1_mostAtOnce_6 ?_
  refine jr_iconst (pc := 8) hX 0 rfl dX1_mostAtOnce_8 ?_
  refine jr_ist5 (pc := 9) hX (jn_i _) dX1_mostAtOnce_9 ?_
  refine jr_wk [true, true, false, true, true, true] ?_
  refine jr_loop (pc := 11) (fun (s2 : Int32 × Int32) => [some (jd_v (jd_gG X) (some t)), some (jd_v (jd_gG X) o0p), none, some (.int x2p), some (.int s2.1), some (.int s2.2)]) (fun (t3 : Int32) => [none, none, none, none, some (.int t3), none]) 38 (0, 0) (fun t3 σ3 => ?_) (fun K2 bk2 ex2 s2 σ2 => ?_)
  · refine jr_ild4 (pc := 38) hX dX1_mostAtOnce_38 ?_
    exact jr_iret (pc := 40) hX dX1_mostAtOnce_40 rfl
  · refine jr_ild5 (pc := 11) hX dX1_mostAtOnce_11 ?_
    refine jr_ild3 (pc := 13) hX dX1_mostAtOnce_13 ?_
    refine jr_icge (pc := 14) hX 38 dX1_mostAtOnce_14 (by decide) ?_ ?_
    · refine jr_wk [false, false, true, false, true, false] ?_
      exact ex2 s2.1 _
    · refine jr_ild4 (pc := 17) hX dX1_mostAtOnce_17 ?_
      refine jr_ald0 (pc := 19) hX dX1_mostAtOnce_19 ?_
      refine jr_ald1 (pc := 20) hX dX1_mostAtOnce_20 ?_
      refine jr_ck1 (fun a4 e4 h4 => ?_)
      refine jr_cV1i (pc := 21) hX lX1_50 (c_X1_drawAfternoon hX.F σ2 a4 h4 _) (jd_dd hD rfl) (Nat.le_of_ble_eq_true rfl) dX1_mostAtOnce_21 h4 (fun r5 σ5 p5 => ?_)
      refine jr_cS1i (pc := 24) hX lX1_58 (c_J6_bitCount_0f7a4 hX.F σ5 _) (jd_dd hD rfl) (Nat.le_of_ble_eq_true rfl) dX1_mostAtOnce_24 (fun r6 σ6 p6 => ?_)
      refine jr_mmax (pc := 27) hX lX1_64 (jd_d1 hD rfl) (Nat.le_of_ble_eq_true rfl) dX1_mostAtOnce_27 ?_
      refine jr_ist4 (pc := 30) hX (jn_i _) dX1_mostAtOnce_30 ?_
      refine jr_li ?_
      refine jr_inc5 (pc := 32) hX 1 rfl (jn_i _) dX1_mostAtOnce_32 ?_
      refine jr_goto (pc := 35) hX 11 dX1_mostAtOnce_35 (by decide) ?_
      exact bk2 ((jd_max s2.1 r6), (s2.2 + 1)) _
