theorem fX13_411 : jd_fl RX13 411 13 28 29 false := ⟨_, _, rfl, by decide, by decide, rfl, rfl, jd_mem 1316 (by decide +kernel) (by decide +kernel)⟩
theorem kX13_414 : Cond.constantLong RX13 414 75 ∈ jd_TB := jd_mem 1892 (by decide +kernel) (by decide +kernel)
theorem kX13_416 : Cond.constantLong RX13 416 74 ∈ jd_TB := jd_mem 1893 (by decide +kernel) (by decide +kernel)
theorem kX13_418 : Cond.constantLong RX13 418 65537 ∈ jd_TB := jd_mem 1894 (by decide +kernel) (by decide +kernel)
theorem kX13_420 : Cond.constant RX13 420 65536 ∈ jd_TB := jd_mem 1887 (by decide +kernel) (by decide +kernel)
theorem qX13_refusesSeed : Cond.instanceMethod yX13_refusesSeed ∈ jd_TB ∧ Cond.selects RX13 yX13_refusesSeed yX13_refusesSeed ∈ jd_TB ∧ Cond.initialized RX13 ∈ jd_TB ∧ Cond.code yX13_refusesSeed cX13_refusesSeed 4 (some .int) ∈ jd_TB ∧ jd_ds yX13_refusesSeed 3 := ⟨jd_mem 1885 (by decide +kernel) (by decide +kernel), jd_mem 85 (by decide +kernel) (by decide +kernel), jd_mem 104 (by decide +kernel) (by decide +kernel), jd_mem 1886 (by decide +kernel) (by decide +kernel), ⟨by decide, by decide, by decide +kernel⟩⟩
theorem lX13_421 : jd_mv RX13 421 13 29 yX13_refusesSeed cX13_refusesSeed 4 (some .int) 3 := ⟨_, _, rfl, by decide, rfl, Or.inl (jd_mem 1883 (by decide +kernel) (by decide +kernel)), qX13_refusesSeed.1, qX13_refusesSeed.2.1, qX13_refusesSeed.2.2.1, qX13_refusesSeed.2.2.2.1, qX13_refusesSeed.2.2.2.2, by decide⟩
theorem qX13_afternoonsAll : Cond.instanceMethod yX13_afternoonsAll ∈ jd_TB ∧ Cond.selects RX13 yX13_afternoonsAll yX13_afternoonsAll ∈ jd_TB ∧ Cond.initialized RX13 ∈ jd_TB ∧ Cond.code yX13_afternoonsAll cX13_afternoonsAll 9 none ∈ jd_TB ∧ jd_ds yX13_afternoonsAll 2 := ⟨jd_mem 1890 (by decide +kernel) (by decide +kernel), jd_mem 86 (by decide +kernel) (by decide +kernel), jd_mem 104 (by decide +kernel) (by decide +kernel), jd_mem 1891 (by decide +kernel) (by decide +kernel), ⟨by decide, by decide, by decide +kernel⟩⟩
theorem lX13_425 : jd_mv RX13 425 13 29 yX13_afternoonsAll cX13_afternoonsAll 9 none 2 := ⟨_, _, rfl, by decide, rfl, Or.inl (jd_mem 1888 (by decide +kernel) (by decide +kernel)), qX13_afternoonsAll.1, qX13_afternoonsAll.2.1, qX13_afternoonsAll.2.2.1, qX13_afternoonsAll.2.2.2.1, qX13_afternoonsAll.2.2.2.2, by decide⟩
theorem dX13_sinking_0 : decode cX13_sinking 0 = .ok (.aload_n 0, 1) := by decide +kernel
theorem dX13_sinking_1 : decode cX13_sinking 1 = .ok (.iconst 0, 1) := by decide +kernel
theorem dX13_sinking_2 : decode cX13_sinking 2 = .ok (.putfield 48, 3) := by decide +kernel
theorem dX13_sinking_5 : decode cX13_sinking 5 = .ok (.aload_n 0, 1) := by decide +kernel
theorem dX13_sinking_6 : decode cX13_sinking 6 = .ok (.getfield 289, 3) := by decide +kernel
theorem dX13_sinking_9 : decode cX13_sinking 9 = .ok (.ifnonnull 10, 3) := by decide +kernel
theorem dX13_sinking_12 : decode cX13_sinking 12 = .ok (.aload_n 0, 1) := by decide +kernel
theorem dX13_sinking_13 : decode cX13_sinking 13 = .ok (.iconst 1, 1) := by decide +kernel
theorem dX13_sinking_14 : decode cX13_sinking 14 = .ok (.invokevirtual 54, 3) := by decide +kernel
theorem dX13_sinking_17 : decode cX13_sinking 17 = .ok (.i2l, 1) := by decide +kernel
theorem dX13_sinking_18 : decode cX13_sinking 18 = .ok (.lreturn, 1) := by decide +kernel
theorem dX13_sinking_19 : decode cX13_sinking 19 = .ok (.iload_n 1, 1) := by decide +kernel
theorem dX13_sinking_20 : decode cX13_sinking 20 = .ok (.iconst 0, 1) := by decide +kernel
theorem dX13_sinking_21 : decode cX13_sinking 21 = .ok (.bipush 6, 2) := by decide +kernel
theorem dX13_sinking_23 : decode cX13_sinking 23 = .ok (.invokestatic 131, 3) := by decide +kernel
theorem dX13_sinking_26 : decode cX13_sinking 26 = .ok (.ifCond .ne 10, 3) := by decide +kernel
theorem dX13_sinking_29 : decode cX13_sinking 29 = .ok (.aload_n 0, 1) := by decide +kernel
theorem dX13_sinking_30 : decode cX13_sinking 30 = .ok (.iconst 2, 1) := by decide +kernel
theorem dX13_sinking_31 : decode cX13_sinking 31 = .ok (.invokevirtual 54, 3) := by decide +kernel
theorem dX13_sinking_34 : decode cX13_sinking 34 = .ok (.i2l, 1) := by decide +kernel
theorem dX13_sinking_35 : decode cX13_sinking 35 = .ok (.lreturn, 1) := by decide +kernel
theorem dX13_sinking_36 : decode cX13_sinking 36 = .ok (.aload_n 0, 1) := by decide +kernel
theorem dX13_sinking_37 : decode cX13_sinking 37 = .ok (.invokevirtual 324, 3) := by decide +kernel
theorem dX13_sinking_40 : decode cX13_sinking 40 = .ok (.aload_n 0, 1) := by decide +kernel
theorem dX13_sinking_41 : decode cX13_sinking 41 = .ok (.invokevirtual 315, 3) := by decide +kernel
theorem dX13_sinking_44 : decode cX13_sinking 44 = .ok (.istore_n 3, 1) := by decide +kernel
theorem dX13_sinking_45 : decode cX13_sinking 45 = .ok (.lconst 0, 1) := by decide +kernel
theorem dX13_sinking_46 : decode cX13_sinking 46 = .ok (.lstore 4, 2) := by decide +kernel
theorem dX13_sinking_48 : decode cX13_sinking 48 = .ok (.iconst 0, 1) := by decide +kernel
theorem dX13_sinking_49 : decode cX13_sinking 49 = .ok (.istore 6, 2) := by decide +kernel
theorem dX13_sinking_51 : decode cX13_sinking 51 = .ok (.iload 6, 2) := by decide +kernel
theorem dX13_sinking_53 : decode cX13_sinking 53 = .ok (.iload_n 3, 1) := by decide +kernel
theorem dX13_sinking_54 : decode cX13_sinking 54 = .ok (.if_icmp .gt 39, 3) := by decide +kernel
theorem dX13_sinking_57 : decode cX13_sinking 57 = .ok (.iload 6, 2) := by decide +kernel
theorem dX13_sinking_59 : decode cX13_sinking 59 = .ok (.iload_n 3, 1) := by decide +kernel
theorem dX13_sinking_60 : decode cX13_sinking 60 = .ok (.iconst (-1), 1) := by decide +kernel
theorem dX13_sinking_61 : decode cX13_sinking 61 = .ok (.ixor, 1) := by decide +kernel
theorem dX13_sinking_62 : decode cX13_sinking 62 = .ok (.iand, 1) := by decide +kernel
theorem dX13_sinking_63 : decode cX13_sinking 63 = .ok (.ifCond .ne 24, 3) := by decide +kernel
theorem dX13_sinking_66 : decode cX13_sinking 66 = .ok (.iload 6, 2) := by decide +kernel
theorem dX13_sinking_68 : decode cX13_sinking 68 = .ok (.invokestatic 303, 3) := by decide +kernel
theorem dX13_sinking_71 : decode cX13_sinking 71 = .ok (.iload_n 1, 1) := by decide +kernel
theorem dX13_sinking_72 : decode cX13_sinking 72 = .ok (.if_icmp .ne 15, 3) := by decide +kernel
theorem dX13_sinking_75 : decode cX13_sinking 75 = .ok (.lload 4, 2) := by decide +kernel
theorem dX13_sinking_77 : decode cX13_sinking 77 = .ok (.aload_n 0, 1) := by decide +kernel
theorem dX13_sinking_78 : decode cX13_sinking 78 = .ok (.iload 6, 2) := by decide +kernel
theorem dX13_sinking_80 : decode cX13_sinking 80 = .ok (.iload_n 3, 1) := by decide +kernel
theorem dX13_sinking_81 : decode cX13_sinking 81 = .ok (.invokevirtual 404, 3) := by decide +kernel
theorem dX13_sinking_84 : decode cX13_sinking 84 = .ok (.ladd, 1) := by decide +kernel
theorem dX13_sinking_85 : decode cX13_sinking 85 = .ok (.lstore 4, 2) := by decide +kernel
theorem dX13_sinking_87 : decode cX13_sinking 87 = .ok (.iinc 6 1, 3) := by decide +kernel
theorem dX13_sinking_90 : decode cX13_sinking 90 = .ok (.goto (-39), 3) := by decide +kernel
theorem dX13_sinking_93 : decode cX13_sinking 93 = .ok (.aload_n 0, 1) := by decide +kernel
theorem dX13_sinking_94 : decode cX13_sinking 94 = .ok (.lload 4, 2) := by decide +kernel
theorem dX13_sinking_96 : decode cX13_sinking 96 = .ok (.aload_n 0, 1) := by decide +kernel
theorem dX13_sinking_97 : decode cX13_sinking 97 = .ok (.iload_n 3, 1) := by decide +kernel
theorem dX13_sinking_98 : decode cX13_sinking 98 = .ok (.invokevirtual 408, 3) := by decide +kernel
theorem dX13_sinking_101 : decode cX13_sinking 101 = .ok (.iload_n 2, 1) := by decide +kernel
theorem dX13_sinking_102 : decode cX13_sinking 102 = .ok (.invokevirtual 380, 3) := by decide +kernel
theorem dX13_sinking_105 : decode cX13_sinking 105 = .ok (.lreturn, 1) := by decide +kernel
theorem dX13_mean_0 : decode cX13_mean 0 = .ok (.aload_n 0, 1) := by decide +kernel
theorem dX13_mean_1 : decode cX13_mean 1 = .ok (.iconst 0, 1) := by decide +kernel
theorem dX13_mean_2 : decode cX13_mean 2 = .ok (.putfield 48, 3) := by decide +kernel
theorem dX13_mean_5 : decode cX13_mean 5 = .ok (.aload_n 0, 1) := by decide +kernel
theorem dX13_mean_6 : decode cX13_mean 6 = .ok (.getfield 289, 3) := by decide +kernel
theorem dX13_mean_9 : decode cX13_mean 9 = .ok (.ifnonnull 10, 3) := by decide +kernel
theorem dX13_mean_12 : decode cX13_mean 12 = .ok (.aload_n 0, 1) := by decide +kernel
theorem dX13_mean_13 : decode cX13_mean 13 = .ok (.iconst 1, 1) := by decide +kernel
theorem dX13_mean_14 : decode cX13_mean 14 = .ok (.invokevirtual 54, 3) := by decide +kernel
theorem dX13_mean_17 : decode cX13_mean 17 = .ok (.i2l, 1) := by decide +kernel
theorem dX13_mean_18 : decode cX13_mean 18 = .ok (.lreturn, 1) := by decide +kernel
theorem dX13_mean_19 : decode cX13_mean 19 = .ok (.aload_n 0, 1) := by decide +kernel
theorem dX13_mean_20 : decode cX13_mean 20 = .ok (.invokevirtual 324, 3) := by decide +kernel
theorem dX13_mean_23 : decode cX13_mean 23 = .ok (.lconst 0, 1) := by decide +kernel
theorem dX13_mean_24 : decode cX13_mean 24 = .ok (.lstore_n 2, 1) := by decide +kernel
theorem dX13_mean_25 : decode cX13_mean 25 = .ok (.iconst 0, 1) := by decide +kernel
theorem dX13_mean_26 : decode cX13_mean 26 = .ok (.istore 4, 2) := by decide +kernel
theorem dX13_mean_28 : decode cX13_mean 28 = .ok (.iload 4, 2) := by decide +kernel
theorem dX13_mean_30 : decode cX13_mean 30 = .ok (.aload_n 0, 1) := by decide +kernel
theorem dX13_mean_31 : decode cX13_mean 31 = .ok (.getfield 289, 3) := by decide +kernel
theorem dX13_mean_34 : decode cX13_mean 34 = .ok (.getfield 185, 3) := by decide +kernel
theorem dX13_mean_37 : decode cX13_mean 37 = .ok (.if_icmp .ge 39, 3) := by decide +kernel
theorem dX13_mean_40 : decode cX13_mean 40 = .ok (.lload_n 2, 1) := by decide +kernel
theorem dX13_mean_41 : decode cX13_mean 41 = .ok (.aload_n 0, 1) := by decide +kernel
theorem dX13_mean_42 : decode cX13_mean 42 = .ok (.invokevirtual 361, 3) := by decide +kernel
theorem dX13_mean_45 : decode cX13_mean 45 = .ok (.iload 4, 2) := by decide +kernel
theorem dX13_mean_47 : decode cX13_mean 47 = .ok (.invokestatic 267, 3) := by decide +kernel
theorem dX13_mean_50 : decode cX13_mean 50 = .ok (.ifCond .eq 17, 3) := by decide +kernel
theorem dX13_mean_53 : decode cX13_mean 53 = .ok (.aload_n 0, 1) := by decide +kernel
theorem dX13_mean_54 : decode cX13_mean 54 = .ok (.getfield 289, 3) := by decide +kernel
theorem dX13_mean_57 : decode cX13_mean 57 = .ok (.getfield 251, 3) := by decide +kernel
theorem dX13_mean_60 : decode cX13_mean 60 = .ok (.iload 4, 2) := by decide +kernel
theorem dX13_mean_62 : decode cX13_mean 62 = .ok (.iaload, 1) := by decide +kernel
theorem dX13_mean_63 : decode cX13_mean 63 = .ok (.i2l, 1) := by decide +kernel
theorem dX13_mean_64 : decode cX13_mean 64 = .ok (.goto 4, 3) := by decide +kernel
theorem dX13_mean_67 : decode cX13_mean 67 = .ok (.lconst 0, 1) := by decide +kernel
theorem dX13_mean_68 : decode cX13_mean 68 = .ok (.ladd, 1) := by decide +kernel
theorem dX13_mean_69 : decode cX13_mean 69 = .ok (.lstore_n 2, 1) := by decide +kernel
theorem dX13_mean_70 : decode cX13_mean 70 = .ok (.iinc 4 1, 3) := by decide +kernel
theorem dX13_mean_73 : decode cX13_mean 73 = .ok (.goto (-45), 3) := by decide +kernel
theorem dX13_mean_76 : decode cX13_mean 76 = .ok (.aload_n 0, 1) := by decide +kernel
theorem dX13_mean_77 : decode cX13_mean 77 = .ok (.lload_n 2, 1) := by decide +kernel
theorem dX13_mean_78 : decode cX13_mean 78 = .ok (.ldc2_w 402, 3) := by decide +kernel
theorem dX13_mean_81 : decode cX13_mean 81 = .ok (.iload_n 1, 1) := by decide +kernel
theorem dX13_mean_82 : decode cX13_mean 82 = .ok (.invokevirtual 380, 3) := by decide +kernel
theorem dX13_mean_85 : decode cX13_mean 85 = .ok (.lreturn, 1) := by decide +kernel
theorem dX13_afternoonsAll_0 : decode cX13_afternoonsAll 0 = .ok (.aload_n 0, 1) := by decide +kernel
theorem dX13_afternoonsAll_1 : decode cX13_afternoonsAll 1 = .ok (.invokevirtual 324, 3) := by decide +kernel
theorem dX13_afternoonsAll_4 : decode cX13_afternoonsAll 4 = .ok (.iload_n 1, 1) := by decide +kernel
theorem dX13_afternoonsAll_5 : decode cX13_afternoonsAll 5 = .ok (.istore_n 3, 1) := by decide +kernel
theorem dX13_afternoonsAll_6 : decode cX13_afternoonsAll 6 = .ok (.aload_n 0, 1) := by decide +kernel
theorem dX13_afternoonsAll_7 : decode cX13_afternoonsAll 7 = .ok (.invokevirtual 315, 3) := by decide +kernel
theorem dX13_afternoonsAll_10 : decode cX13_afternoonsAll 10 = .ok (.istore 4, 2) := by decide +kernel
theorem dX13_afternoonsAll_12 : decode cX13_afternoonsAll 12 = .ok (.aload_n 0, 1) := by decide +kernel
theorem dX13_afternoonsAll_13 : decode cX13_afternoonsAll 13 = .ok (.invokevirtual 361, 3) := by decide +kernel
theorem dX13_afternoonsAll_16 : decode cX13_afternoonsAll 16 = .ok (.istore 5, 2) := by decide +kernel
theorem dX13_afternoonsAll_18 : decode cX13_afternoonsAll 18 = .ok (.aload_n 0, 1) := by decide +kernel
theorem dX13_afternoonsAll_19 : decode cX13_afternoonsAll 19 = .ok (.iconst 0, 1) := by decide +kernel
theorem dX13_afternoonsAll_20 : decode cX13_afternoonsAll 20 = .ok (.putfield 411, 3) := by decide +kernel
theorem dX13_afternoonsAll_23 : decode cX13_afternoonsAll 23 = .ok (.iconst 0, 1) := by decide +kernel
theorem dX13_afternoonsAll_24 : decode cX13_afternoonsAll 24 = .ok (.istore 6, 2) := by decide +kernel
theorem dX13_afternoonsAll_26 : decode cX13_afternoonsAll 26 = .ok (.iload 6, 2) := by decide +kernel
theorem dX13_afternoonsAll_28 : decode cX13_afternoonsAll 28 = .ok (.bipush 6, 2) := by decide +kernel
theorem dX13_afternoonsAll_30 : decode cX13_afternoonsAll 30 = .ok (.if_icmp .ge 17, 3) := by decide +kernel
theorem dX13_afternoonsAll_33 : decode cX13_afternoonsAll 33 = .ok (.aload_n 0, 1) := by decide +kernel
theorem dX13_afternoonsAll_34 : decode cX13_afternoonsAll 34 = .ok (.getfield 45, 3) := by decide +kernel
theorem dX13_afternoonsAll_37 : decode cX13_afternoonsAll 37 = .ok (.iload 6, 2) := by decide +kernel
theorem dX13_afternoonsAll_39 : decode cX13_afternoonsAll 39 = .ok (.iconst 0, 1) := by decide +kernel
theorem dX13_afternoonsAll_40 : decode cX13_afternoonsAll 40 = .ok (.iastore, 1) := by decide +kernel
theorem dX13_afternoonsAll_41 : decode cX13_afternoonsAll 41 = .ok (.iinc 6 1, 3) := by decide +kernel
theorem dX13_afternoonsAll_44 : decode cX13_afternoonsAll 44 = .ok (.goto (-18), 3) := by decide +kernel
theorem dX13_afternoonsAll_47 : decode cX13_afternoonsAll 47 = .ok (.iconst 0, 1) := by decide +kernel
theorem dX13_afternoonsAll_48 : decode cX13_afternoonsAll 48 = .ok (.istore 6, 2) := by decide +kernel
theorem dX13_afternoonsAll_50 : decode cX13_afternoonsAll 50 = .ok (.iload 6, 2) := by decide +kernel
theorem dX13_afternoonsAll_52 : decode cX13_afternoonsAll 52 = .ok (.iload_n 2, 1) := by decide +kernel
theorem dX13_afternoonsAll_53 : decode cX13_afternoonsAll 53 = .ok (.if_icmp .ge 125, 3) := by decide +kernel
theorem dX13_afternoonsAll_56 : decode cX13_afternoonsAll 56 = .ok (.iconst 0, 1) := by decide +kernel
theorem dX13_afternoonsAll_57 : decode cX13_afternoonsAll 57 = .ok (.istore 7, 2) := by decide +kernel
theorem dX13_afternoonsAll_59 : decode cX13_afternoonsAll 59 = .ok (.iconst 0, 1) := by decide +kernel
theorem dX13_afternoonsAll_60 : decode cX13_afternoonsAll 60 = .ok (.istore 8, 2) := by decide +kernel
theorem dX13_afternoonsAll_62 : decode cX13_afternoonsAll 62 = .ok (.iload 8, 2) := by decide +kernel
theorem dX13_afternoonsAll_64 : decode cX13_afternoonsAll 64 = .ok (.aload_n 0, 1) := by decide +kernel
theorem dX13_afternoonsAll_65 : decode cX13_afternoonsAll 65 = .ok (.getfield 289, 3) := by decide +kernel
theorem dX13_afternoonsAll_68 : decode cX13_afternoonsAll 68 = .ok (.getfield 185, 3) := by decide +kernel
theorem dX13_afternoonsAll_71 : decode cX13_afternoonsAll 71 = .ok (.if_icmp .ge 86, 3) := by decide +kernel
theorem dX13_afternoonsAll_74 : decode cX13_afternoonsAll 74 = .ok (.iload 4, 2) := by decide +kernel
theorem dX13_afternoonsAll_76 : decode cX13_afternoonsAll 76 = .ok (.iload 8, 2) := by decide +kernel
theorem dX13_afternoonsAll_78 : decode cX13_afternoonsAll 78 = .ok (.invokestatic 267, 3) := by decide +kernel
theorem dX13_afternoonsAll_81 : decode cX13_afternoonsAll 81 = .ok (.ifCond .ne 6, 3) := by decide +kernel
theorem dX13_afternoonsAll_84 : decode cX13_afternoonsAll 84 = .ok (.goto 67, 3) := by decide +kernel
theorem dX13_afternoonsAll_87 : decode cX13_afternoonsAll 87 = .ok (.ldc2_w 414, 3) := by decide +kernel
theorem dX13_afternoonsAll_90 : decode cX13_afternoonsAll 90 = .ok (.iload_n 3, 1) := by decide +kernel
theorem dX13_afternoonsAll_91 : decode cX13_afternoonsAll 91 = .ok (.i2l, 1) := by decide +kernel
theorem dX13_afternoonsAll_92 : decode cX13_afternoonsAll 92 = .ok (.lmul, 1) := by decide +kernel
theorem dX13_afternoonsAll_93 : decode cX13_afternoonsAll 93 = .ok (.ldc2_w 416, 3) := by decide +kernel
theorem dX13_afternoonsAll_96 : decode cX13_afternoonsAll 96 = .ok (.ladd, 1) := by decide +kernel
theorem dX13_afternoonsAll_97 : decode cX13_afternoonsAll 97 = .ok (.ldc2_w 418, 3) := by decide +kernel
theorem dX13_afternoonsAll_100 : decode cX13_afternoonsAll 100 = .ok (.lrem, 1) := by decide +kernel
theorem dX13_afternoonsAll_101 : decode cX13_afternoonsAll 101 = .ok (.l2i, 1) := by decide +kernel
theorem dX13_afternoonsAll_102 : decode cX13_afternoonsAll 102 = .ok (.istore_n 3, 1) := by decide +kernel
theorem dX13_afternoonsAll_103 : decode cX13_afternoonsAll 103 = .ok (.iload_n 3, 1) := by decide +kernel
theorem dX13_afternoonsAll_104 : decode cX13_afternoonsAll 104 = .ok (.bipush 100, 2) := by decide +kernel
theorem dX13_afternoonsAll_106 : decode cX13_afternoonsAll 106 = .ok (.irem, 1) := by decide +kernel
theorem dX13_afternoonsAll_107 : decode cX13_afternoonsAll 107 = .ok (.aload_n 0, 1) := by decide +kernel
theorem dX13_afternoonsAll_108 : decode cX13_afternoonsAll 108 = .ok (.getfield 289, 3) := by decide +kernel
theorem dX13_afternoonsAll_111 : decode cX13_afternoonsAll 111 = .ok (.getfield 251, 3) := by decide +kernel
theorem dX13_afternoonsAll_114 : decode cX13_afternoonsAll 114 = .ok (.iload 8, 2) := by decide +kernel
theorem dX13_afternoonsAll_116 : decode cX13_afternoonsAll 116 = .ok (.iaload, 1) := by decide +kernel
theorem dX13_afternoonsAll_117 : decode cX13_afternoonsAll 117 = .ok (.if_icmp .lt 6, 3) := by decide +kernel
theorem dX13_afternoonsAll_120 : decode cX13_afternoonsAll 120 = .ok (.goto 31, 3) := by decide +kernel
theorem dX13_afternoonsAll_123 : decode cX13_afternoonsAll 123 = .ok (.iinc 7 1, 3) := by decide +kernel
theorem dX13_afternoonsAll_126 : decode cX13_afternoonsAll 126 = .ok (.aload_n 0, 1) := by decide +kernel
theorem dX13_afternoonsAll_127 : decode cX13_afternoonsAll 127 = .ok (.getfield 45, 3) := by decide +kernel
theorem dX13_afternoonsAll_130 : decode cX13_afternoonsAll 130 = .ok (.iload 8, 2) := by decide +kernel
theorem dX13_afternoonsAll_132 : decode cX13_afternoonsAll 132 = .ok (.dup2, 1) := by decide +kernel
theorem dX13_afternoonsAll_133 : decode cX13_afternoonsAll 133 = .ok (.iaload, 1) := by decide +kernel
theorem dX13_afternoonsAll_134 : decode cX13_afternoonsAll 134 = .ok (.iload 5, 2) := by decide +kernel
theorem dX13_afternoonsAll_136 : decode cX13_afternoonsAll 136 = .ok (.iload 8, 2) := by decide +kernel
theorem dX13_afternoonsAll_138 : decode cX13_afternoonsAll 138 = .ok (.invokestatic 267, 3) := by decide +kernel
theorem dX13_afternoonsAll_141 : decode cX13_afternoonsAll 141 = .ok (.ifCond .eq 7, 3) := by decide +kernel
theorem dX13_afternoonsAll_144 : decode cX13_afternoonsAll 144 = .ok (.iconst 1, 1) := by decide +kernel
theorem dX13_afternoonsAll_145 : decode cX13_afternoonsAll 145 = .ok (.goto 4, 3) := by decide +kernel
theorem dX13_afternoonsAll_148 : decode cX13_afternoonsAll 148 = .ok (.iconst 0, 1) := by decide +kernel
theorem dX13_afternoonsAll_149 : decode cX13_afternoonsAll 149 = .ok (.iadd, 1) := by decide +kernel
theorem dX13_afternoonsAll_150 : decode cX13_afternoonsAll 150 = .ok (.iastore, 1) := by decide +kernel
theorem dX13_afternoonsAll_151 : decode cX13_afternoonsAll 151 = .ok (.iinc 8 1, 3) := by decide +kernel
theorem dX13_afternoonsAll_154 : decode cX13_afternoonsAll 154 = .ok (.goto (-92), 3) := by decide +kernel
theorem dX13_afternoonsAll_157 : decode cX13_afternoonsAll 157 = .ok (.iload 7, 2) := by decide +kernel
theorem dX13_afternoonsAll_159 : decode cX13_afternoonsAll 159 = .ok (.aload_n 0, 1) := by decide +kernel
theorem dX13_afternoonsAll_160 : decode cX13_afternoonsAll 160 = .ok (.getfield 411, 3) := by decide +kernel
theorem dX13_afternoonsAll_163 : decode cX13_afternoonsAll 163 = .ok (.if_icmp .le 9, 3) := by decide +kernel
theorem dX13_afternoonsAll_166 : decode cX13_afternoonsAll 166 = .ok (.aload_n 0, 1) := by decide +kernel
theorem dX13_afternoonsAll_167 : decode cX13_afternoonsAll 167 = .ok (.iload 7, 2) := by decide +kernel
theorem dX13_afternoonsAll_169 : decode cX13_afternoonsAll 169 = .ok (.putfield 411, 3) := by decide +kernel
theorem dX13_afternoonsAll_172 : decode cX13_afternoonsAll 172 = .ok (.iinc 6 1, 3) := by decide +kernel
theorem dX13_afternoonsAll_175 : decode cX13_afternoonsAll 175 = .ok (.goto (-125), 3) := by decide +kernel
theorem dX13_afternoonsAll_178 : decode cX13_afternoonsAll 178 = .ok (.return_, 1) := by decide +kernel
theorem dX13_refusesSeed_0 : decode cX13_refusesSeed 0 = .ok (.iload_n 1, 1) := by decide +kernel
theorem dX13_refusesSeed_1 : decode cX13_refusesSeed 1 = .ok (.ifCond .ne 7, 3) := by decide +kernel
theorem dX13_refusesSeed_4 : decode cX13_refusesSeed 4 = .ok (.iconst 1, 1) := by decide +kernel
theorem dX13_refusesSeed_5 : decode cX13_refusesSeed 5 = .ok (.goto 29, 3) := by decide +kernel
theorem dX13_refusesSeed_8 : decode cX13_refusesSeed 8 = .ok (.iload_n 2, 1) := by decide +kernel
theorem dX13_refusesSeed_9 : decode cX13_refusesSeed 9 = .ok (.iconst 0, 1) := by decide +kernel
theorem dX13_refusesSeed_10 : decode cX13_refusesSeed 10 = .ok (.ldc_w 420, 3) := by decide +kernel
theorem dX13_refusesSeed_13 : decode cX13_refusesSeed 13 = .ok (.invokestatic 131, 3) := by decide +kernel
theorem dX13_refusesSeed_16 : decode cX13_refusesSeed 16 = .ok (.ifCond .eq 17, 3) := by decide +kernel
theorem dX13_refusesSeed_19 : decode cX13_refusesSeed 19 = .ok (.iload_n 3, 1) := by decide +kernel
theorem dX13_refusesSeed_20 : decode cX13_refusesSeed 20 = .ok (.iconst 0, 1) := by decide +kernel
theorem dX13_refusesSeed_21 : decode cX13_refusesSeed 21 = .ok (.bipush 90, 2) := by decide +kernel
theorem dX13_refusesSeed_23 : decode cX13_refusesSeed 23 = .ok (.invokestatic 131, 3) := by decide +kernel
theorem dX13_refusesSeed_26 : decode cX13_refusesSeed 26 = .ok (.ifCond .eq 7, 3) := by decide +kernel
theorem dX13_refusesSeed_29 : decode cX13_refusesSeed 29 = .ok (.iconst 0, 1) := by decide +kernel
theorem dX13_refusesSeed_30 : decode cX13_refusesSeed 30 = .ok (.goto 4, 3) := by decide +kernel
theorem dX13_refusesSeed_33 : decode cX13_refusesSeed 33 = .ok (.iconst 2, 1) := by decide +kernel
theorem dX13_refusesSeed_34 : decode cX13_refusesSeed 34 = .ok (.ireturn, 1) := by decide +kernel
theorem dX13_afternoons_0 : decode cX13_afternoons 0 = .ok (.aload_n 0, 1) := by decide +kernel
theorem dX13_afternoons_1 : decode cX13_afternoons 1 = .ok (.iconst 0, 1) := by decide +kernel
theorem dX13_afternoons_2 : decode cX13_afternoons 2 = .ok (.putfield 48, 3) := by decide +kernel
theorem dX13_afternoons_5 : decode cX13_afternoons 5 = .ok (.aload_n 0, 1) := by decide +kernel
theorem dX13_afternoons_6 : decode cX13_afternoons 6 = .ok (.aload_n 0, 1) := by decide +kernel
theorem dX13_afternoons_7 : decode cX13_afternoons 7 = .ok (.iload_n 1, 1) := by decide +kernel
theorem dX13_afternoons_8 : decode cX13_afternoons 8 = .ok (.invokevirtual 321, 3) := by decide +kernel
theorem dX13_afternoons_11 : decode cX13_afternoons 11 = .ok (.iload_n 2, 1) := by decide +kernel
theorem dX13_afternoons_12 : decode cX13_afternoons 12 = .ok (.iload_n 3, 1) := by decide +kernel
theorem dX13_afternoons_13 : decode cX13_afternoons 13 = .ok (.invokevirtual 421, 3) := by decide +kernel
theorem dX13_afternoons_16 : decode cX13_afternoons 16 = .ok (.istore 4, 2) := by decide +kernel
theorem dX13_afternoons_18 : decode cX13_afternoons 18 = .ok (.iload 4, 2) := by decide +kernel
theorem dX13_afternoons_20 : decode cX13_afternoons 20 = .ok (.ifCond .le 10, 3) := by decide +kernel
theorem dX13_afternoons_23 : decode cX13_afternoons 23 = .ok (.aload_n 0, 1) := by decide +kernel
theorem dX13_afternoons_24 : decode cX13_afternoons 24 = .ok (.iload 4, 2) := by decide +kernel
theorem dX13_afternoons_26 : decode cX13_afternoons 26 = .ok (.invokevirtual 54, 3) := by decide +kernel
theorem dX13_afternoons_29 : decode cX13_afternoons 29 = .ok (.ireturn, 1) := by decide +kernel
theorem dX13_afternoons_30 : decode cX13_afternoons 30 = .ok (.aload_n 0, 1) := by decide +kernel
theorem dX13_afternoons_31 : decode cX13_afternoons 31 = .ok (.iload_n 2, 1) := by decide +kernel
theorem dX13_afternoons_32 : decode cX13_afternoons 32 = .ok (.iload_n 3, 1) := by decide +kernel
theorem dX13_afternoons_33 : decode cX13_afternoons 33 = .ok (.invokevirtual 425, 3) := by decide +kernel
theorem dX13_afternoons_36 : decode cX13_afternoons 36 = .ok (.aload_n 0, 1) := by decide +kernel
theorem dX13_afternoons_37 : decode cX13_afternoons 37 = .ok (.aload_n 0, 1) := by decide +kernel
theorem dX13_afternoons_38 : decode cX13_afternoons 38 = .ok (.getfield 45, 3) := by decide +kernel
theorem dX13_afternoons_41 : decode cX13_afternoons 41 = .ok (.iload_n 1, 1) := by decide +kernel
theorem dX13_afternoons_42 : decode cX13_afternoons 42 = .ok (.iaload, 1) := by decide +kernel
theorem dX13_afternoons_43 : decode cX13_afternoons 43 = .ok (.invokevirtual 58, 3) := by decide +kernel
theorem dX13_afternoons_46 : decode cX13_afternoons 46 = .ok (.ireturn, 1) := by decide +kernel
theorem dX13_worst_0 : decode cX13_worst 0 = .ok (.aload_n 0, 1) := by decide +kernel
theorem dX13_worst_1 : decode cX13_worst 1 = .ok (.iconst 0, 1) := by decide +kernel
theorem dX13_worst_2 : decode cX13_worst 2 = .ok (.putfield 48, 3) := by decide +kernel
theorem dX13_worst_5 : decode cX13_worst 5 = .ok (.aload_n 0, 1) := by decide +kernel
theorem dX13_worst_6 : decode cX13_worst 6 = .ok (.aload_n 0, 1) := by decide +kernel
theorem dX13_worst_7 : decode cX13_worst 7 = .ok (.getfield 289, 3) := by decide +kernel
theorem dX13_worst_10 : decode cX13_worst 10 = .ok (.ifnull 7, 3) := by decide +kernel
theorem dX13_worst_13 : decode cX13_worst 13 = .ok (.iconst 1, 1) := by decide +kernel
theorem dX13_worst_14 : decode cX13_worst 14 = .ok (.goto 4, 3) := by decide +kernel
theorem dX13_worst_17 : decode cX13_worst 17 = .ok (.iconst 0, 1) := by decide +kernel
theorem dX13_worst_18 : decode cX13_worst 18 = .ok (.iload_n 1, 1) := by decide +kernel
theorem dX13_worst_19 : decode cX13_worst 19 = .ok (.iload_n 2, 1) := by decide +kernel
theorem dX13_worst_20 : decode cX13_worst 20 = .ok (.invokevirtual 421, 3) := by decide +kernel
theorem dX13_worst_23 : decode cX13_worst 23 = .ok (.istore_n 3, 1) := by decide +kernel
theorem dX13_worst_24 : decode cX13_worst 24 = .ok (.iload_n 3, 1) := by decide +kernel
theorem dX13_worst_25 : decode cX13_worst 25 = .ok (.ifCond .le 9, 3) := by decide +kernel
theorem dX13_worst_28 : decode cX13_worst 28 = .ok (.aload_n 0, 1) := by decide +kernel
theorem dX13_worst_29 : decode cX13_worst 29 = .ok (.iload_n 3, 1) := by decide +kernel
theorem dX13_worst_30 : decode cX13_worst 30 = .ok (.invokevirtual 54, 3) := by decide +kernel
theorem dX13_worst_33 : decode cX13_worst 33 = .ok (.ireturn, 1) := by decide +kernel
theorem dX13_worst_34 : decode cX13_worst 34 = .ok (.aload_n 0, 1) := by decide +kernel
theorem dX13_worst_35 : decode cX13_worst 35 = .ok (.iload_n 1, 1) := by decide +kernel
theorem dX13_worst_36 : decode cX13_worst 36 = .ok (.iload_n 2, 1) := by decide +kernel
theorem dX13_worst_37 : decode cX13_worst 37 = .ok (.invokevirtual 425, 3) := by decide +kernel
theorem dX13_worst_40 : decode cX13_worst 40 = .ok (.aload_n 0, 1) := by decide +kernel
theorem dX13_worst_41 : decode cX13_worst 41 = .ok (.aload_n 0, 1) := by decide +kernel
theorem dX13_worst_42 : decode cX13_worst 42 = .ok (.getfield 411, 3) := by decide +kernel
theorem dX13_worst_45 : decode cX13_worst 45 = .ok (.invokevirtual 58, 3) := by decide +kernel
theorem dX13_worst_48 : decode cX13_worst 48 = .ok (.ireturn, 1) := by decide +kernel
def m_X13_sinking (t : Nat) (x0p : Int32) (x1p : Int32) (σ : jd_Hp) : Option (Int64 × jd_Hp) :=
jd_li (jd_pi σ t 0 0) fun τ1 =>
jd_if (¬ (τ1.2.2.2 t 3) = none) (
jd_b (m_X13_in x0p 0 6 τ1) fun r2 σ2 =>
jd_if (¬ r2 = 0) (
jd_b (m_X13_works t σ2) fun r3 σ3 =>
jd_b (m_X13_sinkersNow t σ3) fun r4 σ4 =>
jd_b (jd_lp (S := Int64 × Int32) (T := Int64) (fun s5 σ5 =>
jd_if (r4 < s5.2) (
some ((Sum.inr s5.1), σ5)) (
jd_if (¬ (s5.2 &&& (r4 ^^^ (-1))) = 0) (
some (Sum.inl (s5.1, (s5.2 + 1)), σ5)) (
jd_b (m_X13_bits s5.2 σ5) fun r7 σ7 =>
jd_if (¬ r7 = x0p) (
some (Sum.inl (s5.1, (s5.2 + 1)), σ7)) (
jd_o σ7 (13, 29) (some t) fun a8 =>
jd_b (m_X13_partOf a8 s5.2 r4 σ7) fun r9 σ9 =>
jd_li (s5.1 + r9) fun x10 =>
some (Sum.inl (x10, (s5.2 + 1)), σ9))))) jd_fu (0, 0) σ4) fun t6 σ6 =>
jd_o σ6 (13, 29) (some t) fun a11 =>
jd_b (m_X13_wholeOf a11 r4 σ6) fun r12 σ12 =>
jd_b (m_X13_fraction a11 t6 r12 x1p σ12) fun r13 σ13 =>
some (r13, σ13)) (
jd_b (m_X13_refused t 2 σ2) fun r14 σ14 =>
some (r14.toInt64, σ14))) (
jd_b (m_X13_refused t 1 τ1) fun r15 σ15 =>
some (r15.toInt64, σ15))
set_option maxHeartbeats 4000000 in
set_option maxRecDepth 20000 in
theorem c_X13_sinking {l : Launch} {s0 : State} {G : jd_G} (hF : jd_F s0 G) (σ : jd_Hp) (t : Nat) (ht : σ.1[t]? = some (13, 29)) (x0p : Int32) (x1p : Int32) : jd_M l s0 G yX13_sinking cX13_sinking 7 (some .long) 4 je_l [jd_v G (some t), .int x0p, .int x1p] σ (m_X13_sinking t x0p x1p σ) := by
  refine jd_enter hF (by decide) (fun G => [some (jd_v G (some t)), some (.int x0p), some (.int x1p), none, none, none, none]) rfl (by simp [lv_args, jd_al, jd_v_cat, jd_cti, jd_ctl]) (by simp [lg_sl, jd_v_cat, jd_cti, jd_ctl]) (fun X hD hX => ?_)
  have hX : jd_C X RX13 "sinking" cX13_sinking 7 (some .long) := hX
  unfold m_X13_sinking
  refine jr_ald0 (pc := 0) hX dX13_sinking_0 ?_
  refine jr_iconst (pc := 1) hX 0 rfl dX13_sinking_1 ?_
  refine jr_puti (pc := 2) hX fX13_48 rfl dX13_sinking_2 ht ?_
  refine jr_li ?_
  refine jr_ald0 (pc := 5) hX dX13_sinking_5 ?_
  refine jr_getr (pc := 6) hX fX13_289 rfl dX13_sinking_6 ht ?_
  refine jr_ifnonnull (pc := 9) hX 19 dX13_sinking_9 (by decide) ?_ ?_
  · refine jr_ild1 (pc := 19) hX dX13_sinking_19 ?_
    refine jr_iconst (pc := 20) hX 0 rfl dX13_sinking_20 ?_
    refine jr_bipush (pc := 21) hX 6 rfl dX13_sinking_21 ?_
    refine jr_cS3i (pc := 23) hX lX13_131 (c_X13_in hX.F (jd_pi σ t 0 0) _ _ _) (jd_dd hD rfl) (Nat.le_of_ble_eq_true rfl) dX13_sinking_23 (fun r2 σ2 p2 => ?_)
    refine jr_ifne (pc := 26) hX 36 dX13_sinking_26 (by decide) ?_ ?_
    · refine jr_ald0 (pc := 36) hX dX13_sinking_36 ?_
      refine jr_cV0v (pc := 37) hX lX13_324 (c_X13_works hX.F σ2 t (p2.at ht :)) (jd_dd hD rfl) (Nat.le_of_ble_eq_true rfl) dX13_sinking_37 (p2.at ht :) (fun r3 σ3 p3 => ?_)
      refine jr_ald0 (pc := 40) hX dX13_sinking_40 ?_
      refine jr_cV0i (pc := 41) hX lX13_315 (c_X13_sinkersNow hX.F σ3 t (p3.at (p2.at ht :) :)) (jd_dd hD rfl) (Nat.le_of_ble_eq_true rfl) dX13_sinking_41 (p3.at (p2.at ht :) :) (fun r4 σ4 p4 => ?_)
      refine jr_ist3 (pc := 44) hX (jn_i _) dX13_sinking_44 ?_
      refine jr_lconst (pc := 45) hX 0 rfl dX13_sinking_45 ?_
      refine jr_lst4 (pc := 46) hX (jn_i _) dX13_sinking_46 ?_
      refine jr_iconst (pc := 48) hX 0 rfl dX13_sinking_48 ?_
      refine jr_ist6 (pc := 49) hX jn_n dX13_sinking_49 ?_
      refine jr_loop (pc := 51) (fun (s5 : Int64 × Int32) => [some (jd_v (jd_gG X) (some t)), some (.int x0p), some (.int x1p), some (.int r4), some (.long s5.1), none, some (.int s5.2)]) (fun (t6 : Int64) => [some (jd_v (jd_gG X) (some t)), none, some (.int x1p), some (.int r4), some (.long t6), none, none]) 93 (0, 0) (fun t6 σ6 => ?_) (fun K5 bk5 ex5 s5 σ5 => ?_)
      · refine jr_ald0 (pc := 93) hX dX13_sinking_93 ?_
        refine jr_lld4 (pc := 94) hX dX13_sinking_94 ?_
        refine jr_ald0 (pc := 96) hX dX13_sinking_96 ?_
        refine jr_ild3 (pc := 97) hX dX13_sinking_97 ?_
        refine jr_ck1 (fun a11 e11 h11 => ?_)
        refine jr_cV1l (pc := 98) hX lX13_408 (c_X13_wholeOf hX.F σ6 a11 h11 _) (jd_dd hD rfl) (by simp [jd_v_cat, jd_cti, jd_ctl]) dX13_sinking_98 h11 (fun r12 σ12 p12 => ?_)
        refine jr_ild2 (pc := 101) hX dX13_sinking_101 ?_
        refine jr_ek3 e11 ?_
        refine jr_cV3l (pc := 102) hX lX13_380 (c_X13_fraction hX.F σ12 a11 (p12.at h11 :) _ _ _) (jd_dd hD rfl) (Nat.le_of_ble_eq_true rfl) dX13_sinking_102 (p12.at h11 :) (fun r13 σ13 p13 => ?_)
        exact jr_lret (pc := 105) hX dX13_sinking_105 rfl
      · refine jr_ild6 (pc := 51) hX dX13_sinking_51 ?_
        refine jr_ild3 (pc := 53) hX dX13_sinking_53 ?_
        refine jr_icgt (pc := 54) hX 93 dX13_sinking_54 (by decide) ?_ ?_
        · refine jr_wk [true, false, true, true, true, true, false] ?_
          exact ex5 s5.1 _
        · refine jr_ild6 (pc := 57) hX dX13_sinking_57 ?_
          refine jr_ild3 (pc := 59) hX dX13_sinking_59 ?_
          refine jr_iconst (pc := 60) hX (-1) rfl dX13_sinking_60 ?_
          refine jr_ixor (pc := 61) hX dX13_sinking_61 ?_
          refine jr_iand (pc := 62) hX dX13_sinking_62 ?_
          refine jr_ifne (pc := 63) hX 87 dX13_sinking_63 (by decide) ?_ ?_
          · refine jr_inc6 (pc := 87) hX 1 rfl jn_n dX13_sinking_87 ?_
            refine jr_goto (pc := 90) hX 51 dX13_sinking_90 (by decide) ?_
            exact bk5 (s5.1, (s5.2 + 1)) _
          · refine jr_ild6 (pc := 66) hX dX13_sinking_66 ?_
            refine jr_cS1i (pc := 68) hX lX13_303 (c_X13_bits hX.F σ5 _) (jd_dd hD rfl) (Nat.le_of_ble_eq_true rfl) dX13_sinking_68 (fun r7 σ7 p7 => ?_)
            refine jr_ild1 (pc := 71) hX dX13_sinking_71 ?_
            refine jr_icne (pc := 72) hX 87 dX13_sinking_72 (by decide) ?_ ?_
            · refine jr_inc6 (pc := 87) hX 1 rfl jn_n dX13_sinking_87 ?_
              refine jr_goto (pc := 90) hX 51 dX13_sinking_90 (by decide) ?_
              exact bk5 (s5.1, (s5.2 + 1)) _
            · refine jr_lld4 (pc := 75) hX dX13_sinking_75 ?_
              refine jr_ald0 (pc := 77) hX dX13_sinking_77 ?_
              refine jr_ild6 (pc := 78) hX dX13_sinking_78 ?_
              refine jr_ild3 (pc := 80) hX dX13_sinking_80 ?_
              refine jr_ck2 (fun a8 e8 h8 => ?_)
              refine jr_cV2l (pc := 81) hX lX13_404 (c_X13_partOf hX.F σ7 a8 h8 _ _) (jd_dd hD rfl) (Nat.le_of_ble_eq_true rfl) dX13_sinking_81 h8 (fun r9 σ9 p9 => ?_)
              refine jr_ladd (pc := 84) hX dX13_sinking_84 ?_
              refine jr_lst4 (pc := 85) hX (jn_i _) dX13_sinking_85 ?_
              refine jr_li ?_
              refine jr_inc6 (pc := 87) hX 1 rfl jn_n dX13_sinking_87 ?_
              refine jr_goto (pc := 90) hX 51 dX13_sinking_90 (by decide) ?_
              exact bk5 ((s5.1 + r9), (s5.2 + 1)) _
    · refine jr_ald0 (pc := 29) hX dX13_sinking_29 ?_
      refine jr_iconst (pc := 30) hX 2 rfl dX13_sinking_30 ?_
      refine jr_cV1i (pc := 31) hX lX13_54 (c_X13_refused hX.F σ2 t (p2.at ht :) _) (jd_dd hD rfl) (Nat.le_of_ble_eq_true rfl) dX13_sinking_31 (p2.at ht :) (fun r14 σ14 p14 => ?_)
      refine jr_i2l (pc := 34) hX dX13_sinking_34 ?_
      exact jr_lret (pc := 35) hX dX13_sinking_35 rfl
  · refine jr_ald0 (pc := 12) hX dX13_sinking_12 ?_
    refine jr_iconst (pc := 13) hX 1 rfl dX13_sinking_13 ?_
    refine jr_cV1i (pc := 14) hX lX13_54 (c_X13_refused hX.F (jd_pi σ t 0 0) t ht _) (jd_dd hD rfl) (Nat.le_of_ble_eq_true rfl) dX13_sinking_14 ht (fun r15 σ15 p15 => ?_)
    refine jr_i2l (pc := 17) hX dX13_sinking_17 ?_
    exact jr_lret (pc := 18) hX dX13_sinking_18 rfl
def m_X13_mean (t : Nat) (x0p : Int32) (σ : jd_Hp) : Option (Int64 × jd_Hp) :=
jd_li (jd_pi σ t 0 0) fun τ1 =>
jd_if (¬ (τ1.2.2.2 t 3) = none) (
jd_b (m_X13_works t τ1) fun r2 σ2 =>
jd_b (jd_lp (S := Int64 × Int32) (T := Int64) (fun s3 σ3 =>
jd_o σ3 (13, 29) (some t) fun a5 =>
jd_o σ3 (12, 20) (σ3.2.2.2 a5 3) fun a6 =>
jd_if ((σ3.2.1 a6 3) ≤ s3.2) (
some ((Sum.inr s3.1), σ3)) (
jd_b (m_X13_unreached a5 σ3) fun r7 σ7 =>
jd_b (m_X13_bit r7 s3.2 σ7) fun r8 σ8 =>
jd_if (r8 = 0) (
jd_li (s3.1 + 0) fun x9 =>
some (Sum.inl (x9, (s3.2 + 1)), σ8)) (
jd_o σ8 (12, 20) (σ8.2.2.2 a5 3) fun a10 =>
jd_ia σ8 20 (σ8.2.2.2 a10 12) s3.2 fun a11 j11 =>
jd_li (s3.1 + (σ8.2.1 a11 j11).toInt64) fun x12 =>
some (Sum.inl (x12, (s3.2 + 1)), σ8)))) jd_fu (0, 0) σ2) fun t4 σ4 =>
jd_o σ4 (13, 29) (some t) fun a13 =>
jd_b (m_X13_fraction a13 t4 100 x0p σ4) fun r14 σ14 =>
some (r14, σ14)) (
jd_b (m_X13_refused t 1 τ1) fun r15 σ15 =>
some (r15.toInt64, σ15))
set_option maxHeartbeats 4000000 in
set_option maxRecDepth 20000 in
theorem c_X13_mean {l : Launch} {s0 : State} {G : jd_G} (hF : jd_F s0 G) (σ : jd_Hp) (t : Nat) (ht : σ.1[t]? = some (13, 29)) (x0p : Int32) : jd_M l s0 G yX13_mean cX13_mean 5 (some .long) 5 je_l [jd_v G (some t), .int x0p] σ (m_X13_mean t x0p σ) := by
  refine jd_enter hF (by decide) (fun G => [some (jd_v G (some t)), some (.int x0p), none, none, none]) rfl (by simp [lv_args, jd_al, jd_v_cat, jd_cti, jd_ctl]) (by simp [lg_sl, jd_v_cat, jd_cti, jd_ctl]) (fun X hD hX => ?_)
  have hX : jd_C X RX13 "mean" cX13_mean 5 (some .long) := hX
  unfold m_X13_mean
  refine jr_ald0 (pc := 0) hX dX13_mean_0 ?_
  refine jr_iconst (pc := 1) hX 0 rfl dX13_mean_1 ?_
  refine jr_puti (pc := 2) hX fX13_48 rfl dX13_mean_2 ht ?_
  refine jr_li ?_
  refine jr_ald0 (pc := 5) hX dX13_mean_5 ?_
  refine jr_getr (pc := 6) hX fX13_289 rfl dX13_mean_6 ht ?_
  refine jr_ifnonnull (pc := 9) hX 19 dX13_mean_9 (by decide) ?_ ?_
  · refine jr_ald0 (pc := 19) hX dX13_mean_19 ?_
    refine jr_cV0v (pc := 20) hX lX13_324 (c_X13_works hX.F (jd_pi σ t 0 0) t ht) (jd_dd hD rfl) (Nat.le_of_ble_eq_true rfl) dX13_mean_20 ht (fun r2 σ2 p2 => ?_)
    refine jr_lconst (pc := 23) hX 0 rfl dX13_mean_23 ?_
    refine jr_lst2 (pc := 24) hX (jn_i _) dX13_mean_24 ?_
    refine jr_iconst (pc := 25) hX 0 rfl dX13_mean_25 ?_
    refine jr_ist4 (pc := 26) hX jn_n dX13_mean_26 ?_
    refine jr_loop (pc := 28) (fun (s3 : Int64 × Int32) => [some (jd_v (jd_gG X) (some t)), some (.int x0p), some (.long s3.1), none, some (.int s3.2)]) (fun (t4 : Int64) => [some (jd_v (jd_gG X) (some t)), some (.int x0p), some (.long t4), none, none]) 76 (0, 0) (fun t4 σ4 => ?_) (fun K3 bk3 ex3 s3 σ3 => ?_)
    · refine jr_ald0 (pc := 76) hX dX13_mean_76 ?_
      refine jr_lld2 (pc := 77) hX dX13_mean_77 ?_
      refine jr_ldc2 (pc := 78) hX kX13_402 dX13_mean_78 ?_
      refine jr_ild1 (pc := 81) hX dX13_mean_81 ?_
      refine jr_ck3 (fun a13 e13 h13 => ?_)
      refine jr_cV3l (pc := 82) hX lX13_380 (c_X13_fraction hX.F σ4 a13 h13 _ _ _) (jd_dd hD rfl) (Nat.le_of_ble_eq_true rfl) dX13_mean_82 h13 (fun r14 σ14 p14 => ?_)
      exact jr_lret (pc := 85) hX dX13_mean_85 rfl
    · refine jr_ild4 (pc := 28) hX dX13_mean_28 ?_
      refine jr_ald0 (pc := 30) hX dX13_mean_30 ?_
      refine jr_ck0 (fun a5 e5 h5 => ?_)
      refine jr_getr (pc := 31) hX fX13_289 rfl dX13_mean_31 h5 ?_
      refine jr_ck0 (fun a6 e6 h6 => ?_)
      refine jr_getiN (pc := 34) hX fX13_185 rfl dX13_mean_34 h6 ?_
      refine jr_icge (pc := 37) hX 76 dX13_mean_37 (by decide) ?_ ?_
      · refine jr_wk [true, true, true, true, false] ?_
        exact ex3 s3.1 _
      · refine jr_lld2 (pc := 40) hX dX13_mean_40 ?_
        refine jr_ald0 (pc := 41) hX dX13_mean_41 ?_
        refine jr_ek0 e5 ?_
        refine jr_cV0i (pc := 42) hX lX13_361 (c_X13_unreached hX.F σ3 a5 h5) (jd_dd hD rfl) (Nat.le_of_ble_eq_true rfl) dX13_mean_42 h5 (fun r7 σ7 p7 => ?_)
        refine jr_ild4 (pc := 45) hX dX13_mean_45 ?_
        refine jr_cS2i (pc := 47) hX lX13_267 (c_X13_bit hX.F σ7 _ _) (jd_dd hD rfl) (Nat.le_of_ble_eq_true rfl) dX13_mean_47 (fun r8 σ8 p8 => ?_)
        refine jr_ifeq (pc := 50) hX 67 dX13_mean_50 (by decide) ?_ ?_
        · refine jr_lconst (pc := 67) hX 0 rfl dX13_mean_67 ?_
          refine jr_ladd (pc := 68) hX dX13_mean_68 ?_
          refine jr_lst2 (pc := 69) hX (jn_i _) dX13_mean_69 ?_
          refine jr_li ?_
          refine jr_inc4 (pc := 70) hX 1 rfl jn_n dX13_mean_70 ?_
          refine jr_goto (pc := 73) hX 28 dX13_mean_73 (by decide) ?_
          exact bk3 ((s3.1 + 0), (s3.2 + 1)) _
        · refine jr_ald0 (pc := 53) hX dX13_mean_53 ?_
          refine jr_ek0 e5 ?_
          refine jr_getr (pc := 54) hX fX13_289 rfl dX13_mean_54 (p8.at (p7.at h5 :) :) ?_
          refine jr_ck0 (fun a10 e10 h10 => ?_)
          refine jr_getrN (pc := 57) hX fX13_251 rfl dX13_mean_57 h10 ?_
          refine jr_ild4 (pc := 60) hX dX13_mean_60 ?_
          refine jr_iaC (pc := 62) hX dX13_mean_62 (fun a11 n11 e11 h11 => ?_)
          refine jr_i2l (pc := 63) hX dX13_mean_63 ?_
          refine jr_goto (pc := 64) hX 68 dX13_mean_64 (by decide) ?_
          refine jr_ladd (pc := 68) hX dX13_mean_68 ?_
          refine jr_lst2 (pc := 69) hX (jn_i _) dX13_mean_69 ?_
          refine jr_li ?_
          refine jr_inc4 (pc := 70) hX 1 rfl jn_n dX13_mean_70 ?_
          refine jr_goto (pc := 73) hX 28 dX13_mean_73 (by decide) ?_
          exact bk3 ((s3.1 + (σ8.2.1 a11 s3.2.toNatClampNeg).toInt64), (s3.2 + 1)) _
  · refine jr_ald0 (pc := 12) hX dX13_mean_12 ?_
    refine jr_iconst (pc := 13) hX 1 rfl dX13_mean_13 ?_
    refine jr_cV1i (pc := 14) hX lX13_54 (c_X13_refused hX.F (jd_pi σ t 0 0) t ht _) (jd_dd hD rfl) (Nat.le_of_ble_eq_true rfl) dX13_mean_14 ht (fun r15 σ15 p15 => ?_)
    refine jr_i2l (pc := 17) hX dX13_mean_17 ?_
    exact jr_lret (pc := 18) hX dX13_mean_18 rfl
def m_X13_afternoonsAll (t : Nat) (x0p : Int32) (x1p : Int32) (σ : jd_Hp) : Option (Unit × jd_Hp) :=
jd_b (m_X13_works t σ) fun r1 σ1 =>
jd_b (m_X13_sinkersNow t σ1) fun r2 σ2 =>
jd_b (m_X13_unreached t σ2) fun r3 σ3 =>
jd_li (jd_pi σ3 t 28 0) fun τ4 =>
jd_b (jd_lp (S := Int32) (T := Unit) (fun s5 σ5 =>
jd_if (6 ≤ s5) (
some ((Sum.inr ()), σ5)) (
jd_o σ5 (13, 29) (some t) fun a7 =>
jd_ia σ5 20 (σ5.2.2.2 a7 27) s5 fun a8 j8 =>
jd_li (jd_pi σ5 a8 j8 0) fun τ9 =>
some (Sum.inl (s5 + 1), τ9))) jd_fu 0 τ4) fun t6 σ6 =>
jd_b (jd_lp (S := Int32 × Int32) (T := Unit) (fun s10 σ10 =>
jd_if (x1p ≤ s10.2) (
some ((Sum.inr ()), σ10)) (
jd_b (jd_lp (S := Int32 × Int32 × Int32) (T := Int32 × Int32) (fun s12 σ12 =>
jd_o σ12 (13, 29) (some t) fun a14 =>
jd_o σ12 (12, 20) (σ12.2.2.2 a14 3) fun a15 =>
jd_if ((σ12.2.1 a15 3) ≤ s12.2.2) (
some ((Sum.inr (s12.1, s12.2.1)), σ12)) (
jd_b (m_X13_bit r2 s12.2.2 σ12) fun r16 σ16 =>
jd_if (¬ r16 = 0) (
jd_li ((((75 * s12.1.toInt64) + 74) - ((75 * s12.1.toInt64) + 74) / 65537 * 65537).toInt32) fun x17 =>
jd_o σ16 (12, 20) (σ16.2.2.2 a14 3) fun a18 =>
jd_ia σ16 20 (σ16.2.2.2 a18 12) s12.2.2 fun a19 j19 =>
jd_if ((x17 - x17 / 100 * 100) < (σ16.2.1 a19 j19)) (
jd_ia σ16 20 (σ16.2.2.2 a14 27) s12.2.2 fun a20 j20 =>
jd_b (m_X13_bit r3 s12.2.2 σ16) fun r21 σ21 =>
jd_if (r21 = 0) (
jd_ia σ21 20 (σ16.2.2.2 a14 27) s12.2.2 fun a22 j22 =>
jd_li (jd_pi σ21 a22 j22 ((σ16.2.1 a20 j20) + 0)) fun τ23 =>
some (Sum.inl (x17, (s12.2.1 + 1), (s12.2.2 + 1)), τ23)) (
jd_ia σ21 20 (σ16.2.2.2 a14 27) s12.2.2 fun a24 j24 =>
jd_li (jd_pi σ21 a24 j24 ((σ16.2.1 a20 j20) + 1)) fun τ25 =>
some (Sum.inl (x17, (s12.2.1 + 1), (s12.2.2 + 1)), τ25))) (
some (Sum.inl (x17, s12.2.1, (s12.2.2 + 1)), σ16))) (
some (Sum.inl (s12.1, s12.2.1, (s12.2.2 + 1)), σ16)))) jd_fu (s10.1, 0, 0) σ10) fun t13 σ13 =>
jd_o σ13 (13, 29) (some t) fun a26 =>
jd_if (t13.2 ≤ (σ13.2.1 a26 28)) (
some (Sum.inl (t13.1, (s10.2 + 1)), σ13)) (
jd_li (jd_pi σ13 a26 28 t13.2) fun τ27 =>
some (Sum.inl (t13.1, (s10.2 + 1)), τ27)))) jd_fu (x0p, 0) σ6) fun t11 σ11 =>
some ((), σ11)
set_option maxHeartbeats 4000000 in
set_option maxRecDepth 20000 in
theorem c_X13_afternoonsAll {l : Launch} {s0 : State} {G : jd_G} (hF : jd_F s0 G) (σ : jd_Hp) (t : Nat) (ht : σ.1[t]? = some (13, 29)) (x0p : Int32) (x1p : Int32) : jd_M l s0 G yX13_afternoonsAll cX13_afternoonsAll 9 none 5 je_v [jd_v G (some t), .int x0p, .int x1p] σ (m_X13_afternoonsAll t x0p x1p σ) := by
  refine jd_enter hF (by decide) (fun G => [some (jd_v G (some t)), some (.int x0p), some (.int x1p), none, none, none, none, none, none]) rfl (by simp [lv_args, jd_al, jd_v_cat, jd_cti, jd_ctl]) (by simp [lg_sl, jd_v_cat, jd_cti, jd_ctl]) (fun X hD hX => ?_)
  have hX : jd_C X RX13 "afternoonsAll" cX13_afternoonsAll 9 none := hX
  unfold m_X13_afternoonsAll
  refine jr_ald0 (pc := 0) hX dX13_afternoonsAll_0 ?_
  refine jr_cV0v (pc := 1) hX lX13_324 (c_X13_works hX.F σ t ht) (jd_dd hD rfl) (Nat.le_of_ble_eq_true rfl) dX13_afternoonsAll_1 ht (fun r1 σ1 p1 => ?_)
  refine jr_ild1 (pc := 4) hX dX13_afternoonsAll_4 ?_
  refine jr_ist3 (pc := 5) hX (jn_i _) dX13_afternoonsAll_5 ?_
  refine jr_ald0 (pc := 6) hX dX13_afternoonsAll_6 ?_
  refine jr_cV0i (pc := 7) hX lX13_315 (c_X13_sinkersNow hX.F σ1 t (p1.at ht :)) (jd_dd hD rfl) (Nat.le_of_ble_eq_true rfl) dX13_afternoonsAll_7 (p1.at ht :) (fun r2 σ2 p2 => ?_)
  refine jr_ist4 (pc := 10) hX (jn_i _) dX13_afternoonsAll_10 ?_
  refine jr_ald0 (pc := 12) hX dX13_afternoonsAll_12 ?_
  refine jr_cV0i (pc := 13) hX lX13_361 (c_X13_unreached hX.F σ2 t (p2.at (p1.at ht :) :)) (jd_dd hD rfl) (Nat.le_of_ble_eq_true rfl) dX13_afternoonsAll_13 (p2.at (p1.at ht :) :) (fun r3 σ3 p3 => ?_)
  refine jr_ist5 (pc := 16) hX (jn_i _) dX13_afternoonsAll_16 ?_
  refine jr_ald0 (pc := 18) hX dX13_afternoonsAll_18 ?_
  refine jr_iconst (pc := 19) hX 0 rfl dX13_afternoonsAll_19 ?_
  refine jr_puti (pc := 20) hX fX13_411 rfl dX13_afternoonsAll_20 (p3.at (p2.at (p1.at ht :) :) :) ?_
  refine jr_li ?_
  refine jr_iconst (pc := 23) hX 0 rfl dX13_afternoonsAll_23 ?_
  refine jr_ist6 (pc := 24) hX (jn_i _) dX13_afternoonsAll_24 ?_
  refine jr_wk [true, false, true, true, true, true, true, true, true] ?_
  refine jr_loop (pc := 26) (fun (s5 : Int32) => [some (jd_v (jd_gG X) (some t)), none, some (.int x1p), some (.int x0p), some (.int r2), some (.int r3), some (.int s5), none, none]) (fun (t6 : Unit) => [some (jd_v (jd_gG X) (some t)), none, some (.int x1p), some (.int x0p), some (.int r2), some (.int r3), none, none, none]) 47 0 (fun t6 σ6 => ?_) (fun K5 bk5 ex5 s5 σ5 => ?_)
  · refine jr_iconst (pc := 47) hX 0 rfl dX13_afternoonsAll_47 ?_
    refine jr_ist6 (pc := 48) hX (jn_i _) dX13_afternoonsAll_48 ?_
    refine jr_loop (pc := 50) (fun (s10 : Int32 × Int32) => [some (jd_v (jd_gG X) (some t)), none, some (.int x1p), some (.int s10.1), some (.int r2), some (.int r3), some (.int s10.2), none, none]) (fun (t11 : Unit) => [none, none, none, none, none, none, none, none, none]) 178 (x0p, 0) (fun t11 σ11 => ?_) (fun K10 bk10 ex10 s10 σ10 => ?_)
    · exact jr_vret (pc := 178) hX dX13_afternoonsAll_178 rfl
    · refine jr_ild6 (pc := 50) hX dX13_afternoonsAll_50 ?_
      refine jr_ild2 (pc := 52) hX dX13_afternoonsAll_52 ?_
      refine jr_icge (pc := 53) hX 178 dX13_afternoonsAll_53 (by decide) ?_ ?_
      · refine jr_wk [false, true, false, false, false, false, false, true, true] ?_
        exact ex10 () _
      · refine jr_iconst (pc := 56) hX 0 rfl dX13_afternoonsAll_56 ?_
        refine jr_ist7 (pc := 57) hX (jn_i _) dX13_afternoonsAll_57 ?_
        refine jr_iconst (pc := 59) hX 0 rfl dX13_afternoonsAll_59 ?_
        refine jr_ist8 (pc := 60) hX (jn_i _) dX13_afternoonsAll_60 ?_
        refine jr_loop (pc := 62) (fun (s12 : Int32 × Int32 × Int32) => [some (jd_v (jd_gG X) (some t)), none, some (.int x1p), some (.int s12.1), some (.int r2), some (.int r3), some (.int s10.2), some (.int s12.2.1), some (.int s12.2.2)]) (fun (t13 : Int32 × Int32) => [some (jd_v (jd_gG X) (some t)), none, some (.int x1p), some (.int t13.1), some (.int r2), some (.int r3), some (.int s10.2), some (.int t13.2), none]) 157 (s10.1, 0, 0) (fun t13 σ13 => ?_) (fun K12 bk12 ex12 s12 σ12 => ?_)
        · refine jr_ild7 (pc := 157) hX dX13_afternoonsAll_157 ?_
          refine jr_ald0 (pc := 159) hX dX13_afternoonsAll_159 ?_
          refine jr_ck0 (fun a26 e26 h26 => ?_)
          refine jr_geti (pc := 160) hX fX13_411 rfl dX13_afternoonsAll_160 h26 ?_
          refine jr_icle (pc := 163) hX 172 dX13_afternoonsAll_163 (by decide) ?_ ?_
          · refine jr_inc6 (pc := 172) hX 1 rfl (jn_i _) dX13_afternoonsAll_172 ?_
            refine jr_goto (pc := 175) hX 50 dX13_afternoonsAll_175 (by decide) ?_
            refine jr_wk [true, true, true, true, true, true, true, false, true] ?_
            exact bk10 (t13.1, (s10.2 + 1)) _
          · refine jr_ald0 (pc := 166) hX dX13_afternoonsAll_166 ?_
            refine jr_ild7 (pc := 167) hX dX13_afternoonsAll_167 ?_
            refine jr_ek1 e26 ?_
            refine jr_puti (pc := 169) hX fX13_411 rfl dX13_afternoonsAll_169 h26 ?_
            refine jr_li ?_
            refine jr_inc6 (pc := 172) hX 1 rfl (jn_i _) dX13_afternoonsAll_172 ?_
            refine jr_goto (pc := 175) hX 50 dX13_afternoonsAll_175 (by decide) ?_
            refine jr_wk [true, true, true, true, true, true, true, false, true] ?_
            exact bk10 (t13.1, (s10.2 + 1)) _
        · refine jr_ild8 (pc := 62) hX dX13_afternoonsAll_62 ?_
          refine jr_ald0 (pc := 64) hX dX13_afternoonsAll_64 ?_
          refine jr_ck0 (fun a14 e14 h14 => ?_)
          refine jr_getr (pc := 65) hX fX13_289 rfl dX13_afternoonsAll_65 h14 ?_
          refine jr_ck0 (fun a15 e15 h15 => ?_)
          refine jr_getiN (pc := 68) hX fX13_185 rfl dX13_afternoonsAll_68 h15 ?_
          refine jr_icge (pc := 71) hX 157 dX13_afternoonsAll_71 (by decide) ?_ ?_
          · refine jr_wk [true, true, true, true, true, true, true, true, false] ?_
            exact ex12 (s12.1, s12.2.1) _
          · refine jr_ild4 (pc := 74) hX dX13_afternoonsAll_74 ?_
            refine jr_ild8 (pc := 76) hX dX13_afternoonsAll_76 ?_
            refine jr_cS2i (pc := 78) hX lX13_267 (c_X13_bit hX.F σ12 _ _) (jd_dd hD rfl) (Nat.le_of_ble_eq_true rfl) dX13_afternoonsAll_78 (fun r16 σ16 p16 => ?_)
            refine jr_ifne (pc := 81) hX 87 dX13_afternoonsAll_81 (by decide) ?_ ?_
            · refine jr_ldc2 (pc := 87) hX kX13_414 dX13_afternoonsAll_87 ?_
              refine jr_ild3 (pc := 90) hX dX13_afternoonsAll_90 ?_
              refine jr_i2l (pc := 91) hX dX13_afternoonsAll_91 ?_
              refine jr_lmul (pc := 92) hX dX13_afternoonsAll_92 ?_
              refine jr_ldc2 (pc := 93) hX kX13_416 dX13_afternoonsAll_93 ?_
              refine jr_ladd (pc := 96) hX dX13_afternoonsAll_96 ?_
              refine jr_ldc2 (pc := 97) hX kX13_418 dX13_afternoonsAll_97 ?_
              refine jr_lrem (pc := 100) hX dX13_afternoonsAll_100 (by decide) ?_
              refine jr_l2i (pc := 101) hX dX13_afternoonsAll_101 ?_
              refine jr_ist3 (pc := 102) hX (jn_i _) dX13_afternoonsAll_102 ?_
              refine jr_li ?_
              refine jr_ild3 (pc := 103) hX dX13_afternoonsAll_103 ?_
              refine jr_bipush (pc := 104) hX 100 rfl dX13_afternoonsAll_104 ?_
              refine jr_irem (pc := 106) hX dX13_afternoonsAll_106 (by decide) ?_
              refine jr_ald0 (pc := 107) hX dX13_afternoonsAll_107 ?_
              refine jr_ek0 e14 ?_
              refine jr_getr (pc := 108) hX fX13_289 rfl dX13_afternoonsAll_108 (p16.at h14 :) ?_
              refine jr_ck0 (fun a18 e18 h18 => ?_)
              refine jr_getrN (pc := 111) hX fX13_251 rfl dX13_afternoonsAll_111 h18 ?_
              refine jr_ild8 (pc := 114) hX dX13_afternoonsAll_114 ?_
              refine jr_iaC (pc := 116) hX dX13_afternoonsAll_116 (fun a19 n19 e19 h19 => ?_)
              refine jr_iclt (pc := 117) hX 123 dX13_afternoonsAll_117 (by decide) ?_ ?_
              · refine jr_inc7 (pc := 123) hX 1 rfl (jn_i _) dX13_afternoonsAll_123 ?_
                refine jr_ald0 (pc := 126) hX dX13_afternoonsAll_126 ?_
                refine jr_ek0 e14 ?_
                refine jr_getr (pc := 127) hX fX13_45 rfl dX13_afternoonsAll_127 (p16.at h14 :) ?_
                refine jr_ild8 (pc := 130) hX dX13_afternoonsAll_130 ?_
                refine jr_dup2 (pc := 132) hX rfl (jd_v_cat _ _) dX13_afternoonsAll_132 ?_
                refine jr_iaC (pc := 133) hX dX13_afternoonsAll_133 (fun a20 n20 e20 h20 => ?_)
                refine jr_ild5 (pc := 134) hX dX13_afternoonsAll_134 ?_
                refine jr_ild8 (pc := 136) hX dX13_afternoonsAll_136 ?_
                refine jr_cS2i (pc := 138) hX lX13_267 (c_X13_bit hX.F σ16 _ _) (jd_dd hD rfl) (by simp [jd_v_cat, jd_cti, jd_ctl]) dX13_afternoonsAll_138 (fun r21 σ21 p21 => ?_)
                refine jr_ifeq (pc := 141) hX 148 dX13_afternoonsAll_141 (by decide) ?_ ?_
                · refine jr_iconst (pc := 148) hX 0 rfl dX13_afternoonsAll_148 ?_
                  refine jr_iadd (pc := 149) hX dX13_afternoonsAll_149 ?_
                  refine jr_iaS (pc := 150) hX dX13_afternoonsAll_150 (fun a22 n22 e22 h22 => ?_)
                  refine jr_li ?_
                  refine jr_inc8 (pc := 151) hX 1 rfl (jn_i _) dX13_afternoonsAll_151 ?_
                  refine jr_goto (pc := 154) hX 62 dX13_afternoonsAll_154 (by decide) ?_
                  exact bk12 (((((75 * s12.1.toInt64) + 74) - ((75 * s12.1.toInt64) + 74) / 65537 * 65537).toInt32), (s12.2.1 + 1), (s12.2.2 + 1)) _
                · refine jr_iconst (pc := 144) hX 1 rfl dX13_afternoonsAll_144 ?_
                  refine jr_goto (pc := 145) hX 149 dX13_afternoonsAll_145 (by decide) ?_
                  refine jr_iadd (pc := 149) hX dX13_afternoonsAll_149 ?_
                  refine jr_iaS (pc := 150) hX dX13_afternoonsAll_150 (fun a24 n24 e24 h24 => ?_)
                  refine jr_li ?_
                  refine jr_inc8 (pc := 151) hX 1 rfl (jn_i _) dX13_afternoonsAll_151 ?_
                  refine jr_goto (pc := 154) hX 62 dX13_afternoonsAll_154 (by decide) ?_
                  exact bk12 (((((75 * s12.1.toInt64) + 74) - ((75 * s12.1.toInt64) + 74) / 65537 * 65537).toInt32), (s12.2.1 + 1), (s12.2.2 + 1)) _
              · refine jr_goto (pc := 120) hX 151 dX13_afternoonsAll_120 (by decide) ?_
                refine jr_inc8 (pc := 151) hX 1 rfl (jn_i _) dX13_afternoonsAll_151 ?_
                refine jr_goto (pc := 154) hX 62 dX13_afternoonsAll_154 (by decide) ?_
                exact bk12 (((((75 * s12.1.toInt64) + 74) - ((75 * s12.1.toInt64) + 74) / 65537 * 65537).toInt32), s12.2.1, (s12.2.2 + 1)) _
            · refine jr_goto (pc := 84) hX 151 dX13_afternoonsAll_84 (by decide) ?_
              refine jr_inc8 (pc := 151) hX 1 rfl (jn_i _) dX13_afternoonsAll_151 ?_
              refine jr_goto (pc := 154) hX 62 dX13_afternoonsAll_154 (by decide) ?_
              exact bk12 (s12.1, s12.2.1, (s12.2.2 + 1)) _
  · refine jr_ild6 (pc := 26) hX dX13_afternoonsAll_26 ?_
    refine jr_bipush (pc := 28) hX 6 rfl dX13_afternoonsAll_28 ?_
    refine jr_icge (pc := 30) hX 47 dX13_afternoonsAll_30 (by decide) ?_ ?_
    · refine jr_wk [true, true, true, true, true, true, false, true, true] ?_
      exact ex5 () _
    · refine jr_ald0 (pc := 33) hX dX13_afternoonsAll_33 ?_
      refine jr_ck0 (fun a7 e7 h7 => ?_)
      refine jr_getr (pc := 34) hX fX13_45 rfl dX13_afternoonsAll_34 h7 ?_
      refine jr_ild6 (pc := 37) hX dX13_afternoonsAll_37 ?_
      refine jr_iconst (pc := 39) hX 0 rfl dX13_afternoonsAll_39 ?_
      refine jr_iaS (pc := 40) hX dX13_afternoonsAll_40 (fun a8 n8 e8 h8 => ?_)
      refine jr_li ?_
      refine jr_inc6 (pc := 41) hX 1 rfl (jn_i _) dX13_afternoonsAll_41 ?_
      refine jr_goto (pc := 44) hX 26 dX13_afternoonsAll_44 (by decide) ?_
      exact bk5 (s5 + 1) _
def m_X13_refusesSeed (t : Nat) (x0p : Int32) (x1p : Int32) (x2p : Int32) (σ : jd_Hp) : Option (Int32 × jd_Hp) :=
jd_if (¬ x0p = 0) (
jd_b (m_X13_in x1p 0 65536 σ) fun r1 σ1 =>
jd_if (r1 = 0) (
some (2, σ1)) (
jd_b (m_X13_in x2p 0 90 σ1) fun r2 σ2 =>
jd_if (r2 = 0) (
some (2, σ2)) (
some (0, σ2)))) (
some (1, σ))
set_option maxHeartbeats 4000000 in
set_option maxRecDepth 20000 in
theorem c_X13_refusesSeed {l : Launch} {s0 : State} {G : jd_G} (hF : jd_F s0 G) (σ : jd_Hp) (t : Nat) (ht : σ.1[t]? = some (13, 29)) (x0p : Int32) (x1p : Int32) (x2p : Int32) : jd_M l s0 G yX13_refusesSeed cX13_refusesSeed 4 (some .int) 1 je_i [jd_v G (some t), .int x0p, .int x1p, .int x2p] σ (m_X13_refusesSeed t x0p x1p x2p σ) := by
  refine jd_enter hF (by decide) (fun G => [some (jd_v G (some t)), some (.int x0p), some (.int x1p), some (.int x2p)]) rfl (by simp [lv_args, jd_al, jd_v_cat, jd_cti, jd_ctl]) (by simp [lg_sl, jd_v_cat, jd_cti, jd_ctl]) (fun X hD hX => ?_)
  have hX : jd_C X RX13 "refusesSeed" cX13_refusesSeed 4 (some .int) := hX
  unfold m_X13_refusesSeed
  refine jr_ild1 (pc := 0) hX dX13_refusesSeed_0 ?_
  refine jr_ifne (pc := 1) hX 8 dX13_refusesSeed_1 (by decide) ?_ ?_
  · refine jr_ild2 (pc := 8) hX dX13_refusesSeed_8 ?_
    refine jr_iconst (pc := 9) hX 0 rfl dX13_refusesSeed_9 ?_
    refine jr_ldcw (pc := 10) hX kX13_420 dX13_refusesSeed_10 ?_
    refine jr_cS3i (pc := 13) hX lX13_131 (c_X13_in hX.F σ _ _ _) (jd_dd hD rfl) (Nat.le_of_ble_eq_true rfl) dX13_refusesSeed_13 (fun r1 σ1 p1 => ?_)
    refine jr_ifeq (pc := 16) hX 33 dX13_refusesSeed_16 (by decide) ?_ ?_
    · refine jr_iconst (pc := 33) hX 2 rfl dX13_refusesSeed_33 ?_
      exact jr_iret (pc := 34) hX dX13_refusesSeed_34 rfl
    · refine jr_ild3 (pc := 19) hX dX13_refusesSeed_19 ?_
      refine jr_iconst (pc := 20) hX 0 rfl dX13_refusesSeed_20 ?_
      refine jr_bipush (pc := 21) hX 90 rfl dX13_refusesSeed_21 ?_
      refine jr_cS3i (pc := 23) hX lX13_131 (c_X13_in hX.F σ1 _ _ _) (jd_dd hD rfl) (Nat.le_of_ble_eq_true rfl) dX13_refusesSeed_23 (fun r2 σ2 p2 => ?_)
      refine jr_ifeq (pc := 26) hX 33 dX13_refusesSeed_26 (by decide) ?_ ?_
      · refine jr_iconst (pc := 33) hX 2 rfl dX13_refusesSeed_33 ?_
        exact jr_iret (pc := 34) hX dX13_refusesSeed_34 rfl
      · refine jr_iconst (pc := 29) hX 0 rfl dX13_refusesSeed_29 ?_
        refine jr_goto (pc := 30) hX 34 dX13_refusesSeed_30 (by decide) ?_
        exact jr_iret (pc := 34) hX dX13_refusesSeed_34 rfl
  · refine jr_iconst (pc := 4) hX 1 rfl dX13_refusesSeed_4 ?_
    refine jr_goto (pc := 5) hX 34 dX13_refusesSeed_5 (by decide) ?_
    exact jr_iret (pc := 34) hX dX13_refusesSeed_34 rfl
def m_X13_afternoons (t : Nat) (x0p : Int32) (x1p : Int32) (x2p : Int32) (σ : jd_Hp) : Option (Int32 × jd_Hp) :=
jd_li (jd_pi σ t 0 0) fun τ1 =>
jd_b (m_X13_isPerson t x0p τ1) fun r2 σ2 =>
jd_b (m_X13_refusesSeed t r2 x1p x2p σ2) fun r3 σ3 =>
jd_if (r3 ≤ 0) (
jd_b (m_X13_afternoonsAll t x1p x2p σ3) fun r4 σ4 =>
jd_ia σ4 20 (σ4.2.2.2 t 27) x0p fun a5 j5 =>
jd_b (m_X13_good t (σ4.2.1 a5 j5) σ4) fun r6 σ6 =>
some (r6, σ6)) (
jd_b (m_X13_refused t r3 σ3) fun r7 σ7 =>
some (r7, σ7))
set_option maxHeartbeats 4000000 in
set_option maxRecDepth 20000 in
theorem c_X13_afternoons {l : Launch} {s0 : State} {G : jd_G} (hF : jd_F s0 G) (σ : jd_Hp) (t : Nat) (ht : σ.1[t]? = some (13, 29)) (x0p : Int32) (x1p : Int32) (x2p : Int32) : jd_M l s0 G yX13_afternoons cX13_afternoons 5 (some .int) 6 je_i [jd_v G (some t), .int x0p, .int x1p, .int x2p] σ (m_X13_afternoons t x0p x1p x2p σ) := by
  refine jd_enter hF (by decide) (fun G => [some (jd_v G (some t)), some (.int x0p), some (.int x1p), some (.int x2p), none]) rfl (by simp [lv_args, jd_al, jd_v_cat, jd_cti, jd_ctl]) (by simp [lg_sl, jd_v_cat, jd_cti, jd_ctl]) (fun X hD hX => ?_)
  have hX : jd_C X RX13 "afternoons" cX13_afternoons 5 (some .int) := hX
  unfold m_X13_afternoons
  refine jr_ald0 (pc := 0) hX dX13_afternoons_0 ?_
  refine jr_iconst (pc := 1) hX 0 rfl dX13_afternoons_1 ?_
  refine jr_puti (pc := 2) hX fX13_48 rfl dX13_afternoons_2 ht ?_
  refine jr_li ?_
  refine jr_ald0 (pc := 5) hX dX13_afternoons_5 ?_
  refine jr_ald0 (pc := 6) hX dX13_afternoons_6 ?_
  refine jr_ild1 (pc := 7) hX dX13_afternoons_7 ?_
  refine jr_cV1i (pc := 8) hX lX13_321 (c_X13_isPerson hX.F (jd_pi σ t 0 0) t ht _) (jd_dd hD rfl) (by simp [jd_v_cat, jd_cti, jd_ctl]) dX13_afternoons_8 ht (fun r2 σ2 p2 => ?_)
  refine jr_ild2 (pc := 11) hX dX13_afternoons_11 ?_
  refine jr_ild3 (pc := 12) hX dX13_afternoons_12 ?_
  refine jr_cV3i (pc := 13) hX lX13_421 (c_X13_refusesSeed hX.F σ2 t (p2.at ht :) _ _ _) (jd_dd hD rfl) (Nat.le_of_ble_eq_true rfl) dX13_afternoons_13 (p2.at ht :) (fun r3 σ3 p3 => ?_)
  refine jr_ist4 (pc := 16) hX (jn_i _) dX13_afternoons_16 ?_
  refine jr_ild4 (pc := 18) hX dX13_afternoons_18 ?_
  refine jr_ifle (pc := 20) hX 30 dX13_afternoons_20 (by decide) ?_ ?_
  · refine jr_ald0 (pc := 30) hX dX13_afternoons_30 ?_
    refine jr_ild2 (pc := 31) hX dX13_afternoons_31 ?_
    refine jr_ild3 (pc := 32) hX dX13_afternoons_32 ?_
    refine jr_cV2v (pc := 33) hX lX13_425 (c_X13_afternoonsAll hX.F σ3 t (p3.at (p2.at ht :) :) _ _) (jd_dd hD rfl) (Nat.le_of_ble_eq_true rfl) dX13_afternoons_33 (p3.at (p2.at ht :) :) (fun r4 σ4 p4 => ?_)
    refine jr_ald0 (pc := 36) hX dX13_afternoons_36 ?_
    refine jr_ald0 (pc := 37) hX dX13_afternoons_37 ?_
    refine jr_getr (pc := 38) hX fX13_45 rfl dX13_afternoons_38 (p4.at (p3.at (p2.at ht :) :) :) ?_
    refine jr_ild1 (pc := 41) hX dX13_afternoons_41 ?_
    refine jr_iaC (pc := 42) hX dX13_afternoons_42 (fun a5 n5 e5 h5 => ?_)
    refine jr_cV1i (pc := 43) hX lX13_58 (c_X13_good hX.F σ4 t (p4.at (p3.at (p2.at ht :) :) :) _) (jd_dd hD rfl) (Nat.le_of_ble_eq_true rfl) dX13_afternoons_43 (p4.at (p3.at (p2.at ht :) :) :) (fun r6 σ6 p6 => ?_)
    exact jr_iret (pc := 46) hX dX13_afternoons_46 rfl
  · refine jr_ald0 (pc := 23) hX dX13_afternoons_23 ?_
    refine jr_ild4 (pc := 24) hX dX13_afternoons_24 ?_
    refine jr_cV1i (pc := 26) hX lX13_54 (c_X13_refused hX.F σ3 t (p3.at (p2.at ht :) :) _) (jd_dd hD rfl) (Nat.le_of_ble_eq_true rfl) dX13_afternoons_26 (p3.at (p2.at ht :) :) (fun r7 σ7 p7 => ?_)
    exact jr_iret (pc := 29) hX dX13_afternoons_29 rfl
def m_X13_worst (t : Nat) (x0p : Int32) (x1p : Int32) (σ : jd_Hp) : Option (Int32 × jd_Hp) :=
jd_li (jd_pi σ t 0 0) fun τ1 =>
jd_b (α := Int32) (
jd_if ((τ1.2.2.2 t 3) = none) (
some (0, τ1)) (
some (1, τ1))) fun t2 σ2 =>
jd_o σ2 (13, 29) (some t) fun a3 =>
jd_b (m_X13_refusesSeed a3 t2 x0p x1p σ2) fun r4 σ4 =>
jd_if (r4 ≤ 0) (
jd_b (m_X13_afternoonsAll a3 x0p x1p σ4) fun r5 σ5 =>
jd_b (m_X13_good a3 (σ5.2.1 a3 28) σ5) fun r6 σ6 =>
some (r6, σ6)) (
jd_b (m_X13_refused a3 r4 σ4) fun r7 σ7 =>
some (r7, σ7))
set_option maxHeartbeats 4000000 in
set_option maxRecDepth 20000 in
theorem c_X13_worst {l : Launch} {s0 : State} {G : jd_G} (hF : jd_F s0 G) (σ : jd_Hp) (t : Nat) (ht : σ.1[t]? = some (13, 29)) (x0p : Int32) (x1p : Int32) : jd_M l s0 G yX13_worst cX13_worst 4 (some .int) 6 je_i [jd_v G (some t), .int x0p, .int x1p] σ (m_X13_worst t x0p x1p σ) := by
  refine jd_enter hF (by decide) (fun G => [some (jd_v G (some t)), some (.int x0p), some (.int x1p), none]) rfl (by simp [lv_args, jd_al, jd_v_cat, jd_cti, jd_ctl]) (by simp [lg_sl, jd_v_cat, jd_cti, jd_ctl]) (fun X hD hX => ?_)
  have hX : jd_C X RX13 "worst" cX13_worst 4 (some .int) := hX
  unfold m_X13_worst
  refine jr_ald0 (pc := 0) hX dX13_worst_0 ?_
  refine jr_iconst (pc := 1) hX 0 rfl dX13_worst_1 ?_
  refine jr_puti (pc := 2) hX fX13_48 rfl dX13_worst_2 ht ?_
  refine jr_li ?_
  refine jr_ald0 (pc := 5) hX dX13_worst_5 ?_
  refine jr_ald0 (pc := 6) hX dX13_worst_6 ?_
  refine jr_getr (pc := 7) hX fX13_289 rfl dX13_worst_7 ht ?_
  refine jr_join (pc := 10) 18 (fun (t2 : Int32) => [some (jd_v (jd_gG X) (some t)), some (.int x0p), some (.int x1p), none]) (fun (t2 : Int32) => [.int t2, jd_v (jd_gG X) (some t)]) (fun t2 σ2 => ?_) (fun K2 jj2 => ?_)
  · refine jr_ild1 (pc := 18) hX dX13_worst_18 ?_
    refine jr_ild2 (pc := 19) hX dX13_worst_19 ?_
    refine jr_ck3 (fun a3 e3 h3 => ?_)
    refine jr_cV3i (pc := 20) hX lX13_421 (c_X13_refusesSeed hX.F σ2 a3 h3 _ _ _) (jd_dd hD rfl) (Nat.le_of_ble_eq_true rfl) dX13_worst_20 h3 (fun r4 σ4 p4 => ?_)
    refine jr_ist3 (pc := 23) hX (jn_i _) dX13_worst_23 ?_
    refine jr_ild3 (pc := 24) hX dX13_worst_24 ?_
    refine jr_ifle (pc := 25) hX 34 dX13_worst_25 (by decide) ?_ ?_
    · refine jr_ald0 (pc := 34) hX dX13_worst_34 ?_
      refine jr_ild1 (pc := 35) hX dX13_worst_35 ?_
      refine jr_ild2 (pc := 36) hX dX13_worst_36 ?_
      refine jr_ek2 e3 ?_
      refine jr_cV2v (pc := 37) hX lX13_425 (c_X13_afternoonsAll hX.F σ4 a3 (p4.at h3 :) _ _) (jd_dd hD rfl) (Nat.le_of_ble_eq_true rfl) dX13_worst_37 (p4.at h3 :) (fun r5 σ5 p5 => ?_)
      refine jr_ald0 (pc := 40) hX dX13_worst_40 ?_
      refine jr_ald0 (pc := 41) hX dX13_worst_41 ?_
      refine jr_ek0 e3 ?_
      refine jr_geti (pc := 42) hX fX13_411 rfl dX13_worst_42 (p5.at (p4.at h3 :) :) ?_
      refine jr_ek1 e3 ?_
      refine jr_cV1i (pc := 45) hX lX13_58 (c_X13_good hX.F σ5 a3 (p5.at (p4.at h3 :) :) _) (jd_dd hD rfl) (Nat.le_of_ble_eq_true rfl) dX13_worst_45 (p5.at (p4.at h3 :) :) (fun r6 σ6 p6 => ?_)
      exact jr_iret (pc := 48) hX dX13_worst_48 rfl
    · refine jr_ald0 (pc := 28) hX dX13_worst_28 ?_
      refine jr_ild3 (pc := 29) hX dX13_worst_29 ?_
      refine jr_ek1 e3 ?_
      refine jr_cV1i (pc := 30) hX lX13_54 (c_X13_refused hX.F σ4 a3 (p4.at h3 :) _) (jd_dd hD rfl) (Nat.le_of_ble_eq_true rfl) dX13_worst_30 (p4.at h3 :) (fun r7 σ7 p7 => ?_)
      exact jr_iret (pc := 33) hX dX13_worst_33 rfl
  · refine jr_ifnull (pc := 10) hX 17 dX13_worst_10 (by decide) ?_ ?_
    · refine jr_iconst (pc := 17) hX 0 rfl dX13_worst_17 ?_
      exact jj2 0 _
    · refine jr_iconst (pc := 13) hX 1 rfl dX13_worst_13 ?_
      refine jr_goto (pc := 14) hX 18 dX13_worst_14 (by decide) ?_
      exact jj2 1 _
