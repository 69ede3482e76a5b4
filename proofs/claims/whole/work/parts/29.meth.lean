theorem dX13_bestPost_0 : decode cX13_bestPost 0 = .ok (.aload_n 0, 1) := by decide +kernel
theorem dX13_bestPost_1 : decode cX13_bestPost 1 = .ok (.iconst 0, 1) := by decide +kernel
theorem dX13_bestPost_2 : decode cX13_bestPost 2 = .ok (.putfield 48, 3) := by decide +kernel
theorem dX13_bestPost_5 : decode cX13_bestPost 5 = .ok (.aload_n 0, 1) := by decide +kernel
theorem dX13_bestPost_6 : decode cX13_bestPost 6 = .ok (.getfield 289, 3) := by decide +kernel
theorem dX13_bestPost_9 : decode cX13_bestPost 9 = .ok (.ifnonnull 9, 3) := by decide +kernel
theorem dX13_bestPost_12 : decode cX13_bestPost 12 = .ok (.aload_n 0, 1) := by decide +kernel
theorem dX13_bestPost_13 : decode cX13_bestPost 13 = .ok (.iconst 1, 1) := by decide +kernel
theorem dX13_bestPost_14 : decode cX13_bestPost 14 = .ok (.invokevirtual 54, 3) := by decide +kernel
theorem dX13_bestPost_17 : decode cX13_bestPost 17 = .ok (.ireturn, 1) := by decide +kernel
theorem dX13_bestPost_18 : decode cX13_bestPost 18 = .ok (.aload_n 0, 1) := by decide +kernel
theorem dX13_bestPost_19 : decode cX13_bestPost 19 = .ok (.invokevirtual 324, 3) := by decide +kernel
theorem dX13_bestPost_22 : decode cX13_bestPost 22 = .ok (.aload_n 0, 1) := by decide +kernel
theorem dX13_bestPost_23 : decode cX13_bestPost 23 = .ok (.invokevirtual 315, 3) := by decide +kernel
theorem dX13_bestPost_26 : decode cX13_bestPost 26 = .ok (.aload_n 0, 1) := by decide +kernel
theorem dX13_bestPost_27 : decode cX13_bestPost 27 = .ok (.aload_n 0, 1) := by decide +kernel
theorem dX13_bestPost_28 : decode cX13_bestPost 28 = .ok (.getfield 17, 3) := by decide +kernel
theorem dX13_bestPost_31 : decode cX13_bestPost 31 = .ok (.bipush 6, 2) := by decide +kernel
theorem dX13_bestPost_33 : decode cX13_bestPost 33 = .ok (.iaload, 1) := by decide +kernel
theorem dX13_bestPost_34 : decode cX13_bestPost 34 = .ok (.invokevirtual 318, 3) := by decide +kernel
theorem dX13_bestPost_37 : decode cX13_bestPost 37 = .ok (.iand, 1) := by decide +kernel
theorem dX13_bestPost_38 : decode cX13_bestPost 38 = .ok (.invokestatic 303, 3) := by decide +kernel
theorem dX13_bestPost_41 : decode cX13_bestPost 41 = .ok (.istore_n 1, 1) := by decide +kernel
theorem dX13_bestPost_42 : decode cX13_bestPost 42 = .ok (.bipush (-2), 2) := by decide +kernel
theorem dX13_bestPost_44 : decode cX13_bestPost 44 = .ok (.istore_n 2, 1) := by decide +kernel
theorem dX13_bestPost_45 : decode cX13_bestPost 45 = .ok (.iconst 0, 1) := by decide +kernel
theorem dX13_bestPost_46 : decode cX13_bestPost 46 = .ok (.istore_n 3, 1) := by decide +kernel
theorem dX13_bestPost_47 : decode cX13_bestPost 47 = .ok (.iload_n 3, 1) := by decide +kernel
theorem dX13_bestPost_48 : decode cX13_bestPost 48 = .ok (.aload_n 0, 1) := by decide +kernel
theorem dX13_bestPost_49 : decode cX13_bestPost 49 = .ok (.getfield 289, 3) := by decide +kernel
theorem dX13_bestPost_52 : decode cX13_bestPost 52 = .ok (.getfield 253, 3) := by decide +kernel
theorem dX13_bestPost_55 : decode cX13_bestPost 55 = .ok (.if_icmp .ge 48, 3) := by decide +kernel
theorem dX13_bestPost_58 : decode cX13_bestPost 58 = .ok (.aload_n 0, 1) := by decide +kernel
theorem dX13_bestPost_59 : decode cX13_bestPost 59 = .ok (.invokevirtual 315, 3) := by decide +kernel
theorem dX13_bestPost_62 : decode cX13_bestPost 62 = .ok (.aload_n 0, 1) := by decide +kernel
theorem dX13_bestPost_63 : decode cX13_bestPost 63 = .ok (.aload_n 0, 1) := by decide +kernel
theorem dX13_bestPost_64 : decode cX13_bestPost 64 = .ok (.getfield 17, 3) := by decide +kernel
theorem dX13_bestPost_67 : decode cX13_bestPost 67 = .ok (.bipush 6, 2) := by decide +kernel
theorem dX13_bestPost_69 : decode cX13_bestPost 69 = .ok (.iaload, 1) := by decide +kernel
theorem dX13_bestPost_70 : decode cX13_bestPost 70 = .ok (.iconst 1, 1) := by decide +kernel
theorem dX13_bestPost_71 : decode cX13_bestPost 71 = .ok (.iload_n 3, 1) := by decide +kernel
theorem dX13_bestPost_72 : decode cX13_bestPost 72 = .ok (.ishl, 1) := by decide +kernel
theorem dX13_bestPost_73 : decode cX13_bestPost 73 = .ok (.ior, 1) := by decide +kernel
theorem dX13_bestPost_74 : decode cX13_bestPost 74 = .ok (.invokevirtual 318, 3) := by decide +kernel
theorem dX13_bestPost_77 : decode cX13_bestPost 77 = .ok (.iand, 1) := by decide +kernel
theorem dX13_bestPost_78 : decode cX13_bestPost 78 = .ok (.invokestatic 303, 3) := by decide +kernel
theorem dX13_bestPost_81 : decode cX13_bestPost 81 = .ok (.istore 4, 2) := by decide +kernel
theorem dX13_bestPost_83 : decode cX13_bestPost 83 = .ok (.iload 4, 2) := by decide +kernel
theorem dX13_bestPost_85 : decode cX13_bestPost 85 = .ok (.iload_n 1, 1) := by decide +kernel
theorem dX13_bestPost_86 : decode cX13_bestPost 86 = .ok (.if_icmp .gt 6, 3) := by decide +kernel
theorem dX13_bestPost_89 : decode cX13_bestPost 89 = .ok (.goto 8, 3) := by decide +kernel
theorem dX13_bestPost_92 : decode cX13_bestPost 92 = .ok (.iload 4, 2) := by decide +kernel
theorem dX13_bestPost_94 : decode cX13_bestPost 94 = .ok (.istore_n 1, 1) := by decide +kernel
theorem dX13_bestPost_95 : decode cX13_bestPost 95 = .ok (.iload_n 3, 1) := by decide +kernel
theorem dX13_bestPost_96 : decode cX13_bestPost 96 = .ok (.istore_n 2, 1) := by decide +kernel
theorem dX13_bestPost_97 : decode cX13_bestPost 97 = .ok (.iinc 3 1, 3) := by decide +kernel
theorem dX13_bestPost_100 : decode cX13_bestPost 100 = .ok (.goto (-53), 3) := by decide +kernel
theorem dX13_bestPost_103 : decode cX13_bestPost 103 = .ok (.aload_n 0, 1) := by decide +kernel
theorem dX13_bestPost_104 : decode cX13_bestPost 104 = .ok (.iload_n 2, 1) := by decide +kernel
theorem dX13_bestPost_105 : decode cX13_bestPost 105 = .ok (.invokevirtual 58, 3) := by decide +kernel
theorem dX13_bestPost_108 : decode cX13_bestPost 108 = .ok (.ireturn, 1) := by decide +kernel
theorem dX13_bestPlace_0 : decode cX13_bestPlace 0 = .ok (.aload_n 0, 1) := by decide +kernel
theorem dX13_bestPlace_1 : decode cX13_bestPlace 1 = .ok (.iconst 0, 1) := by decide +kernel
theorem dX13_bestPlace_2 : decode cX13_bestPlace 2 = .ok (.putfield 48, 3) := by decide +kernel
theorem dX13_bestPlace_5 : decode cX13_bestPlace 5 = .ok (.aload_n 0, 1) := by decide +kernel
theorem dX13_bestPlace_6 : decode cX13_bestPlace 6 = .ok (.getfield 289, 3) := by decide +kernel
theorem dX13_bestPlace_9 : decode cX13_bestPlace 9 = .ok (.ifnonnull 9, 3) := by decide +kernel
theorem dX13_bestPlace_12 : decode cX13_bestPlace 12 = .ok (.aload_n 0, 1) := by decide +kernel
theorem dX13_bestPlace_13 : decode cX13_bestPlace 13 = .ok (.iconst 1, 1) := by decide +kernel
theorem dX13_bestPlace_14 : decode cX13_bestPlace 14 = .ok (.invokevirtual 54, 3) := by decide +kernel
theorem dX13_bestPlace_17 : decode cX13_bestPlace 17 = .ok (.ireturn, 1) := by decide +kernel
theorem dX13_bestPlace_18 : decode cX13_bestPlace 18 = .ok (.iload_n 1, 1) := by decide +kernel
theorem dX13_bestPlace_19 : decode cX13_bestPlace 19 = .ok (.iconst 1, 1) := by decide +kernel
theorem dX13_bestPlace_20 : decode cX13_bestPlace 20 = .ok (.bipush 40, 2) := by decide +kernel
theorem dX13_bestPlace_22 : decode cX13_bestPlace 22 = .ok (.invokestatic 131, 3) := by decide +kernel
theorem dX13_bestPlace_25 : decode cX13_bestPlace 25 = .ok (.ifCond .ne 9, 3) := by decide +kernel
theorem dX13_bestPlace_28 : decode cX13_bestPlace 28 = .ok (.aload_n 0, 1) := by decide +kernel
theorem dX13_bestPlace_29 : decode cX13_bestPlace 29 = .ok (.iconst 2, 1) := by decide +kernel
theorem dX13_bestPlace_30 : decode cX13_bestPlace 30 = .ok (.invokevirtual 54, 3) := by decide +kernel
theorem dX13_bestPlace_33 : decode cX13_bestPlace 33 = .ok (.ireturn, 1) := by decide +kernel
theorem dX13_bestPlace_34 : decode cX13_bestPlace 34 = .ok (.aload_n 0, 1) := by decide +kernel
theorem dX13_bestPlace_35 : decode cX13_bestPlace 35 = .ok (.invokevirtual 324, 3) := by decide +kernel
theorem dX13_bestPlace_38 : decode cX13_bestPlace 38 = .ok (.iconst 0, 1) := by decide +kernel
theorem dX13_bestPlace_39 : decode cX13_bestPlace 39 = .ok (.istore_n 2, 1) := by decide +kernel
theorem dX13_bestPlace_40 : decode cX13_bestPlace 40 = .ok (.iconst (-1), 1) := by decide +kernel
theorem dX13_bestPlace_41 : decode cX13_bestPlace 41 = .ok (.istore_n 3, 1) := by decide +kernel
theorem dX13_bestPlace_42 : decode cX13_bestPlace 42 = .ok (.iconst 0, 1) := by decide +kernel
theorem dX13_bestPlace_43 : decode cX13_bestPlace 43 = .ok (.istore 4, 2) := by decide +kernel
theorem dX13_bestPlace_45 : decode cX13_bestPlace 45 = .ok (.iload 4, 2) := by decide +kernel
theorem dX13_bestPlace_47 : decode cX13_bestPlace 47 = .ok (.bipush 99, 2) := by decide +kernel
theorem dX13_bestPlace_49 : decode cX13_bestPlace 49 = .ok (.if_icmp .gt 94, 3) := by decide +kernel
theorem dX13_bestPlace_52 : decode cX13_bestPlace 52 = .ok (.iconst 0, 1) := by decide +kernel
theorem dX13_bestPlace_53 : decode cX13_bestPlace 53 = .ok (.istore 5, 2) := by decide +kernel
theorem dX13_bestPlace_55 : decode cX13_bestPlace 55 = .ok (.iconst 0, 1) := by decide +kernel
theorem dX13_bestPlace_56 : decode cX13_bestPlace 56 = .ok (.istore 6, 2) := by decide +kernel
theorem dX13_bestPlace_58 : decode cX13_bestPlace 58 = .ok (.iload 6, 2) := by decide +kernel
theorem dX13_bestPlace_60 : decode cX13_bestPlace 60 = .ok (.aload_n 0, 1) := by decide +kernel
theorem dX13_bestPlace_61 : decode cX13_bestPlace 61 = .ok (.getfield 289, 3) := by decide +kernel
theorem dX13_bestPlace_64 : decode cX13_bestPlace 64 = .ok (.getfield 185, 3) := by decide +kernel
theorem dX13_bestPlace_67 : decode cX13_bestPlace 67 = .ok (.if_icmp .ge 55, 3) := by decide +kernel
theorem dX13_bestPlace_70 : decode cX13_bestPlace 70 = .ok (.iload 5, 2) := by decide +kernel
theorem dX13_bestPlace_72 : decode cX13_bestPlace 72 = .ok (.aload_n 0, 1) := by decide +kernel
theorem dX13_bestPlace_73 : decode cX13_bestPlace 73 = .ok (.iload 6, 2) := by decide +kernel
theorem dX13_bestPlace_75 : decode cX13_bestPlace 75 = .ok (.invokevirtual 306, 3) := by decide +kernel
theorem dX13_bestPlace_78 : decode cX13_bestPlace 78 = .ok (.sipush 9999, 3) := by decide +kernel
theorem dX13_bestPlace_81 : decode cX13_bestPlace 81 = .ok (.if_icmp .ge 31, 3) := by decide +kernel
theorem dX13_bestPlace_84 : decode cX13_bestPlace 84 = .ok (.iload 4, 2) := by decide +kernel
theorem dX13_bestPlace_86 : decode cX13_bestPlace 86 = .ok (.aload_n 0, 1) := by decide +kernel
theorem dX13_bestPlace_87 : decode cX13_bestPlace 87 = .ok (.getfield 21, 3) := by decide +kernel
theorem dX13_bestPlace_90 : decode cX13_bestPlace 90 = .ok (.iload 6, 2) := by decide +kernel
theorem dX13_bestPlace_92 : decode cX13_bestPlace 92 = .ok (.iaload, 1) := by decide +kernel
theorem dX13_bestPlace_93 : decode cX13_bestPlace 93 = .ok (.invokestatic 297, 3) := by decide +kernel
theorem dX13_bestPlace_96 : decode cX13_bestPlace 96 = .ok (.iload_n 1, 1) := by decide +kernel
theorem dX13_bestPlace_97 : decode cX13_bestPlace 97 = .ok (.iadd, 1) := by decide +kernel
theorem dX13_bestPlace_98 : decode cX13_bestPlace 98 = .ok (.aload_n 0, 1) := by decide +kernel
theorem dX13_bestPlace_99 : decode cX13_bestPlace 99 = .ok (.getfield 289, 3) := by decide +kernel
theorem dX13_bestPlace_102 : decode cX13_bestPlace 102 = .ok (.getfield 153, 3) := by decide +kernel
theorem dX13_bestPlace_105 : decode cX13_bestPlace 105 = .ok (.if_icmp .gt 7, 3) := by decide +kernel
theorem dX13_bestPlace_108 : decode cX13_bestPlace 108 = .ok (.iconst 1, 1) := by decide +kernel
theorem dX13_bestPlace_109 : decode cX13_bestPlace 109 = .ok (.goto 4, 3) := by decide +kernel
theorem dX13_bestPlace_112 : decode cX13_bestPlace 112 = .ok (.iconst 0, 1) := by decide +kernel
theorem dX13_bestPlace_113 : decode cX13_bestPlace 113 = .ok (.iadd, 1) := by decide +kernel
theorem dX13_bestPlace_114 : decode cX13_bestPlace 114 = .ok (.istore 5, 2) := by decide +kernel
theorem dX13_bestPlace_116 : decode cX13_bestPlace 116 = .ok (.iinc 6 1, 3) := by decide +kernel
theorem dX13_bestPlace_119 : decode cX13_bestPlace 119 = .ok (.goto (-61), 3) := by decide +kernel
theorem dX13_bestPlace_122 : decode cX13_bestPlace 122 = .ok (.iload 5, 2) := by decide +kernel
theorem dX13_bestPlace_124 : decode cX13_bestPlace 124 = .ok (.iload_n 3, 1) := by decide +kernel
theorem dX13_bestPlace_125 : decode cX13_bestPlace 125 = .ok (.if_icmp .gt 6, 3) := by decide +kernel
theorem dX13_bestPlace_128 : decode cX13_bestPlace 128 = .ok (.goto 9, 3) := by decide +kernel
theorem dX13_bestPlace_131 : decode cX13_bestPlace 131 = .ok (.iload 5, 2) := by decide +kernel
theorem dX13_bestPlace_133 : decode cX13_bestPlace 133 = .ok (.istore_n 3, 1) := by decide +kernel
theorem dX13_bestPlace_134 : decode cX13_bestPlace 134 = .ok (.iload 4, 2) := by decide +kernel
theorem dX13_bestPlace_136 : decode cX13_bestPlace 136 = .ok (.istore_n 2, 1) := by decide +kernel
theorem dX13_bestPlace_137 : decode cX13_bestPlace 137 = .ok (.iinc 4 1, 3) := by decide +kernel
theorem dX13_bestPlace_140 : decode cX13_bestPlace 140 = .ok (.goto (-95), 3) := by decide +kernel
theorem dX13_bestPlace_143 : decode cX13_bestPlace 143 = .ok (.aload_n 0, 1) := by decide +kernel
theorem dX13_bestPlace_144 : decode cX13_bestPlace 144 = .ok (.iload_n 2, 1) := by decide +kernel
theorem dX13_bestPlace_145 : decode cX13_bestPlace 145 = .ok (.invokevirtual 58, 3) := by decide +kernel
theorem dX13_bestPlace_148 : decode cX13_bestPlace 148 = .ok (.ireturn, 1) := by decide +kernel
theorem dX13_limitFor_0 : decode cX13_limitFor 0 = .ok (.aload_n 0, 1) := by decide +kernel
theorem dX13_limitFor_1 : decode cX13_limitFor 1 = .ok (.iconst 0, 1) := by decide +kernel
theorem dX13_limitFor_2 : decode cX13_limitFor 2 = .ok (.putfield 48, 3) := by decide +kernel
theorem dX13_limitFor_5 : decode cX13_limitFor 5 = .ok (.aload_n 0, 1) := by decide +kernel
theorem dX13_limitFor_6 : decode cX13_limitFor 6 = .ok (.getfield 289, 3) := by decide +kernel
theorem dX13_limitFor_9 : decode cX13_limitFor 9 = .ok (.ifnonnull 9, 3) := by decide +kernel
theorem dX13_limitFor_12 : decode cX13_limitFor 12 = .ok (.aload_n 0, 1) := by decide +kernel
theorem dX13_limitFor_13 : decode cX13_limitFor 13 = .ok (.iconst 1, 1) := by decide +kernel
theorem dX13_limitFor_14 : decode cX13_limitFor 14 = .ok (.invokevirtual 54, 3) := by decide +kernel
theorem dX13_limitFor_17 : decode cX13_limitFor 17 = .ok (.ireturn, 1) := by decide +kernel
theorem dX13_limitFor_18 : decode cX13_limitFor 18 = .ok (.aload_n 0, 1) := by decide +kernel
theorem dX13_limitFor_19 : decode cX13_limitFor 19 = .ok (.getfield 17, 3) := by decide +kernel
theorem dX13_limitFor_22 : decode cX13_limitFor 22 = .ok (.bipush 6, 2) := by decide +kernel
theorem dX13_limitFor_24 : decode cX13_limitFor 24 = .ok (.iaload, 1) := by decide +kernel
theorem dX13_limitFor_25 : decode cX13_limitFor 25 = .ok (.ifCond .ne 10, 3) := by decide +kernel
theorem dX13_limitFor_28 : decode cX13_limitFor 28 = .ok (.aload_n 0, 1) := by decide +kernel
theorem dX13_limitFor_29 : decode cX13_limitFor 29 = .ok (.bipush (-2), 2) := by decide +kernel
theorem dX13_limitFor_31 : decode cX13_limitFor 31 = .ok (.invokevirtual 58, 3) := by decide +kernel
theorem dX13_limitFor_34 : decode cX13_limitFor 34 = .ok (.ireturn, 1) := by decide +kernel
theorem dX13_limitFor_35 : decode cX13_limitFor 35 = .ok (.aload_n 0, 1) := by decide +kernel
theorem dX13_limitFor_36 : decode cX13_limitFor 36 = .ok (.invokevirtual 324, 3) := by decide +kernel
theorem dX13_limitFor_39 : decode cX13_limitFor 39 = .ok (.iconst 1, 1) := by decide +kernel
theorem dX13_limitFor_40 : decode cX13_limitFor 40 = .ok (.istore_n 1, 1) := by decide +kernel
theorem dX13_limitFor_41 : decode cX13_limitFor 41 = .ok (.iconst 0, 1) := by decide +kernel
theorem dX13_limitFor_42 : decode cX13_limitFor 42 = .ok (.istore_n 2, 1) := by decide +kernel
theorem dX13_limitFor_43 : decode cX13_limitFor 43 = .ok (.iload_n 2, 1) := by decide +kernel
theorem dX13_limitFor_44 : decode cX13_limitFor 44 = .ok (.aload_n 0, 1) := by decide +kernel
theorem dX13_limitFor_45 : decode cX13_limitFor 45 = .ok (.getfield 289, 3) := by decide +kernel
theorem dX13_limitFor_48 : decode cX13_limitFor 48 = .ok (.getfield 185, 3) := by decide +kernel
theorem dX13_limitFor_51 : decode cX13_limitFor 51 = .ok (.if_icmp .ge 46, 3) := by decide +kernel
theorem dX13_limitFor_54 : decode cX13_limitFor 54 = .ok (.aload_n 0, 1) := by decide +kernel
theorem dX13_limitFor_55 : decode cX13_limitFor 55 = .ok (.iload_n 2, 1) := by decide +kernel
theorem dX13_limitFor_56 : decode cX13_limitFor 56 = .ok (.invokevirtual 306, 3) := by decide +kernel
theorem dX13_limitFor_59 : decode cX13_limitFor 59 = .ok (.sipush 9999, 3) := by decide +kernel
theorem dX13_limitFor_62 : decode cX13_limitFor 62 = .ok (.if_icmp .ne 6, 3) := by decide +kernel
theorem dX13_limitFor_65 : decode cX13_limitFor 65 = .ok (.goto 26, 3) := by decide +kernel
theorem dX13_limitFor_68 : decode cX13_limitFor 68 = .ok (.aload_n 0, 1) := by decide +kernel
theorem dX13_limitFor_69 : decode cX13_limitFor 69 = .ok (.iload_n 2, 1) := by decide +kernel
theorem dX13_limitFor_70 : decode cX13_limitFor 70 = .ok (.invokevirtual 342, 3) := by decide +kernel
theorem dX13_limitFor_73 : decode cX13_limitFor 73 = .ok (.istore_n 3, 1) := by decide +kernel
theorem dX13_limitFor_74 : decode cX13_limitFor 74 = .ok (.aload_n 0, 1) := by decide +kernel
theorem dX13_limitFor_75 : decode cX13_limitFor 75 = .ok (.iload_n 3, 1) := by decide +kernel
theorem dX13_limitFor_76 : decode cX13_limitFor 76 = .ok (.iload_n 2, 1) := by decide +kernel
theorem dX13_limitFor_77 : decode cX13_limitFor 77 = .ok (.invokevirtual 309, 3) := by decide +kernel
theorem dX13_limitFor_80 : decode cX13_limitFor 80 = .ok (.iload_n 1, 1) := by decide +kernel
theorem dX13_limitFor_81 : decode cX13_limitFor 81 = .ok (.if_icmp .le 10, 3) := by decide +kernel
theorem dX13_limitFor_84 : decode cX13_limitFor 84 = .ok (.aload_n 0, 1) := by decide +kernel
theorem dX13_limitFor_85 : decode cX13_limitFor 85 = .ok (.iload_n 3, 1) := by decide +kernel
theorem dX13_limitFor_86 : decode cX13_limitFor 86 = .ok (.iload_n 2, 1) := by decide +kernel
theorem dX13_limitFor_87 : decode cX13_limitFor 87 = .ok (.invokevirtual 309, 3) := by decide +kernel
theorem dX13_limitFor_90 : decode cX13_limitFor 90 = .ok (.istore_n 1, 1) := by decide +kernel
theorem dX13_limitFor_91 : decode cX13_limitFor 91 = .ok (.iinc 2 1, 3) := by decide +kernel
theorem dX13_limitFor_94 : decode cX13_limitFor 94 = .ok (.goto (-51), 3) := by decide +kernel
theorem dX13_limitFor_97 : decode cX13_limitFor 97 = .ok (.aload_n 0, 1) := by decide +kernel
theorem dX13_limitFor_98 : decode cX13_limitFor 98 = .ok (.iload_n 1, 1) := by decide +kernel
theorem dX13_limitFor_99 : decode cX13_limitFor 99 = .ok (.invokevirtual 58, 3) := by decide +kernel
theorem dX13_limitFor_102 : decode cX13_limitFor 102 = .ok (.ireturn, 1) := by decide +kernel
theorem dX13_freeBehind_0 : decode cX13_freeBehind 0 = .ok (.aload_n 0, 1) := by decide +kernel
theorem dX13_freeBehind_1 : decode cX13_freeBehind 1 = .ok (.iload_n 2, 1) := by decide +kernel
theorem dX13_freeBehind_2 : decode cX13_freeBehind 2 = .ok (.invokevirtual 306, 3) := by decide +kernel
theorem dX13_freeBehind_5 : decode cX13_freeBehind 5 = .ok (.sipush 9999, 3) := by decide +kernel
theorem dX13_freeBehind_8 : decode cX13_freeBehind 8 = .ok (.if_icmp .ne 7, 3) := by decide +kernel
theorem dX13_freeBehind_11 : decode cX13_freeBehind 11 = .ok (.sipush 9999, 3) := by decide +kernel
theorem dX13_freeBehind_14 : decode cX13_freeBehind 14 = .ok (.ireturn, 1) := by decide +kernel
theorem dX13_freeBehind_15 : decode cX13_freeBehind 15 = .ok (.iload_n 3, 1) := by decide +kernel
theorem dX13_freeBehind_16 : decode cX13_freeBehind 16 = .ok (.aload_n 0, 1) := by decide +kernel
theorem dX13_freeBehind_17 : decode cX13_freeBehind 17 = .ok (.iload_n 2, 1) := by decide +kernel
theorem dX13_freeBehind_18 : decode cX13_freeBehind 18 = .ok (.invokevirtual 306, 3) := by decide +kernel
theorem dX13_freeBehind_21 : decode cX13_freeBehind 21 = .ok (.if_icmp .le 7, 3) := by decide +kernel
theorem dX13_freeBehind_24 : decode cX13_freeBehind 24 = .ok (.iload_n 3, 1) := by decide +kernel
theorem dX13_freeBehind_25 : decode cX13_freeBehind 25 = .ok (.goto 8, 3) := by decide +kernel
theorem dX13_freeBehind_28 : decode cX13_freeBehind 28 = .ok (.aload_n 0, 1) := by decide +kernel
theorem dX13_freeBehind_29 : decode cX13_freeBehind 29 = .ok (.iload_n 2, 1) := by decide +kernel
theorem dX13_freeBehind_30 : decode cX13_freeBehind 30 = .ok (.invokevirtual 306, 3) := by decide +kernel
theorem dX13_freeBehind_33 : decode cX13_freeBehind 33 = .ok (.aload_n 0, 1) := by decide +kernel
theorem dX13_freeBehind_34 : decode cX13_freeBehind 34 = .ok (.iload_n 1, 1) := by decide +kernel
theorem dX13_freeBehind_35 : decode cX13_freeBehind 35 = .ok (.iload_n 2, 1) := by decide +kernel
theorem dX13_freeBehind_36 : decode cX13_freeBehind 36 = .ok (.invokevirtual 309, 3) := by decide +kernel
theorem dX13_freeBehind_39 : decode cX13_freeBehind 39 = .ok (.iadd, 1) := by decide +kernel
theorem dX13_freeBehind_40 : decode cX13_freeBehind 40 = .ok (.istore 4, 2) := by decide +kernel
theorem dX13_freeBehind_42 : decode cX13_freeBehind 42 = .ok (.iload 4, 2) := by decide +kernel
theorem dX13_freeBehind_44 : decode cX13_freeBehind 44 = .ok (.aload_n 0, 1) := by decide +kernel
theorem dX13_freeBehind_45 : decode cX13_freeBehind 45 = .ok (.iload_n 2, 1) := by decide +kernel
theorem dX13_freeBehind_46 : decode cX13_freeBehind 46 = .ok (.invokevirtual 306, 3) := by decide +kernel
theorem dX13_freeBehind_49 : decode cX13_freeBehind 49 = .ok (.aload_n 0, 1) := by decide +kernel
theorem dX13_freeBehind_50 : decode cX13_freeBehind 50 = .ok (.getfield 289, 3) := by decide +kernel
theorem dX13_freeBehind_53 : decode cX13_freeBehind 53 = .ok (.getfield 153, 3) := by decide +kernel
theorem dX13_freeBehind_56 : decode cX13_freeBehind 56 = .ok (.iadd, 1) := by decide +kernel
theorem dX13_freeBehind_57 : decode cX13_freeBehind 57 = .ok (.if_icmp .le 9, 3) := by decide +kernel
theorem dX13_freeBehind_60 : decode cX13_freeBehind 60 = .ok (.sipush 9999, 3) := by decide +kernel
theorem dX13_freeBehind_63 : decode cX13_freeBehind 63 = .ok (.goto 12, 3) := by decide +kernel
theorem dX13_freeBehind_66 : decode cX13_freeBehind 66 = .ok (.iload 4, 2) := by decide +kernel
theorem dX13_freeBehind_68 : decode cX13_freeBehind 68 = .ok (.aload_n 0, 1) := by decide +kernel
theorem dX13_freeBehind_69 : decode cX13_freeBehind 69 = .ok (.iload_n 1, 1) := by decide +kernel
theorem dX13_freeBehind_70 : decode cX13_freeBehind 70 = .ok (.iload_n 2, 1) := by decide +kernel
theorem dX13_freeBehind_71 : decode cX13_freeBehind 71 = .ok (.invokevirtual 309, 3) := by decide +kernel
theorem dX13_freeBehind_74 : decode cX13_freeBehind 74 = .ok (.iadd, 1) := by decide +kernel
theorem dX13_freeBehind_75 : decode cX13_freeBehind 75 = .ok (.ireturn, 1) := by decide +kernel
def m_X13_bestPost (t : Nat) (σ : jd_Hp) : Option (Int32 × jd_Hp) :=
jd_li (jd_pi σ t 0 0) fun τ1 =>
jd_if (¬ (τ1.2.2.2 t 3) = none) (
jd_b (m_X13_works t τ1) fun r2 σ2 =>
jd_b (m_X13_sinkersNow t σ2) fun r3 σ3 =>
jd_ia σ3 20 (σ3.2.2.2 t 15) 6 fun a4 j4 =>
jd_b (m_X13_reachedBy t (σ3.2.1 a4 j4) σ3) fun r5 σ5 =>
jd_b (m_X13_bits (r3 &&& r5) σ5) fun r6 σ6 =>
jd_b (jd_lp (S := Int32 × Int32 × Int32) (T := Int32) (fun s7 σ7 =>
jd_o σ7 (13, 29) (some t) fun a9 =>
jd_o σ7 (12, 20) (σ7.2.2.2 a9 3) fun a10 =>
jd_if ((σ7.2.1 a10 4) ≤ s7.2.2) (
some ((Sum.inr s7.2.1), σ7)) (
jd_b (m_X13_sinkersNow a9 σ7) fun r11 σ11 =>
jd_ia σ11 20 (σ11.2.2.2 a9 15) 6 fun a12 j12 =>
jd_b (m_X13_reachedBy a9 ((σ11.2.1 a12 j12) ||| (1 <<< (s7.2.2 &&& 31))) σ11) fun r13 σ13 =>
jd_b (m_X13_bits (r11 &&& r13) σ13) fun r14 σ14 =>
jd_if (s7.1 < r14) (
some (Sum.inl (r14, s7.2.2, (s7.2.2 + 1)), σ14)) (
some (Sum.inl (s7.1, s7.2.1, (s7.2.2 + 1)), σ14)))) jd_fu (r6, (-2), 0) σ6) fun t8 σ8 =>
jd_o σ8 (13, 29) (some t) fun a15 =>
jd_b (m_X13_good a15 t8 σ8) fun r16 σ16 =>
some (r16, σ16)) (
jd_b (m_X13_refused t 1 τ1) fun r17 σ17 =>
some (r17, σ17))
set_option maxHeartbeats 4000000 in
set_option maxRecDepth 20000 in
theorem c_X13_bestPost {l : Launch} {s0 : State} {G : jd_G} (hF : jd_F s0 G) (σ : jd_Hp) (t : Nat) (ht : σ.1[t]? = some (13, 29)) : jd_M l s0 G yX13_bestPost cX13_bestPost 5 (some .int) 4 je_i [jd_v G (some t)] σ (m_X13_bestPost t σ) := by
  refine jd_enter hF (by decide) (fun G => [some (jd_v G (some t)), none, none, none, none]) rfl (by simp [lv_args, jd_al, jd_v_cat, jd_cti, jd_ctl]) (by simp [lg_sl, jd_v_cat, jd_cti, jd_ctl]) (fun X hD hX => ?_)
  have hX : jd_C X RX13 "bestPost" cX13_bestPost 5 (some .int) := hX
  unfold m_X13_bestPost
  refine jr_ald0 (pc := 0) hX dX13_bestPost_0 ?_
  refine jr_iconst (pc := 1) hX 0 rfl dX13_bestPost_1 ?_
  refine jr_puti (pc := 2) hX fX13_48 rfl dX13_bestPost_2 ht ?_
  refine jr_li ?_
  refine jr_ald0 (pc := 5) hX dX13_bestPost_5 ?_
  refine jr_getr (pc := 6) hX fX13_289 rfl dX13_bestPost_6 ht ?_
  refine jr_ifnonnull (pc := 9) hX 18 dX13_bestPost_9 (by decide) ?_ ?_
  · refine jr_ald0 (pc := 18) hX dX13_bestPost_18 ?_
    refine jr_cV0v (pc := 19) hX lX13_324 (c_X13_works hX.F (jd_pi σ t 0 0) t ht) (jd_dd hD rfl) (Nat.le_of_ble_eq_true rfl) dX13_bestPost_19 ht (fun r2 σ2 p2 => ?_)
    refine jr_ald0 (pc := 22) hX dX13_bestPost_22 ?_
    refine jr_cV0i (pc := 23) hX lX13_315 (c_X13_sinkersNow hX.F σ2 t (p2.at ht :)) (jd_dd hD rfl) (Nat.le_of_ble_eq_true rfl) dX13_bestPost_23 (p2.at ht :) (fun r3 σ3 p3 => ?_)
    refine jr_ald0 (pc := 26) hX dX13_bestPost_26 ?_
    refine jr_ald0 (pc := 27) hX dX13_bestPost_27 ?_
    refine jr_getr (pc := 28) hX fX13_17 rfl dX13_bestPost_28 (p3.at (p2.at ht :) :) ?_
    refine jr_bipush (pc := 31) hX 6 rfl dX13_bestPost_31 ?_
    refine jr_iaC (pc := 33) hX dX13_bestPost_33 (fun a4 n4 e4 h4 => ?_)
    refine jr_cV1i (pc := 34) hX lX13_318 (c_X13_reachedBy hX.F σ3 t (p3.at (p2.at ht :) :) _) (jd_dd hD rfl) (Nat.le_of_ble_eq_true rfl) dX13_bestPost_34 (p3.at (p2.at ht :) :) (fun r5 σ5 p5 => ?_)
    refine jr_iand (pc := 37) hX dX13_bestPost_37 ?_
    refine jr_cS1i (pc := 38) hX lX13_303 (c_X13_bits hX.F σ5 _) (jd_dd hD rfl) (Nat.le_of_ble_eq_true rfl) dX13_bestPost_38 (fun r6 σ6 p6 => ?_)
    refine jr_ist1 (pc := 41) hX (jn_r _ _) dX13_bestPost_41 ?_
    refine jr_bipush (pc := 42) hX (-2) rfl dX13_bestPost_42 ?_
    refine jr_ist2 (pc := 44) hX (jn_i _) dX13_bestPost_44 ?_
    refine jr_iconst (pc := 45) hX 0 rfl dX13_bestPost_45 ?_
    refine jr_ist3 (pc := 46) hX (jn_i _) dX13_bestPost_46 ?_
    refine jr_loop (pc := 47) (fun (s7 : Int32 × Int32 × Int32) => [some (jd_v (jd_gG X) (some t)), some (.int s7.1), some (.int s7.2.1), some (.int s7.2.2), none]) (fun (t8 : Int32) => [some (jd_v (jd_gG X) (some t)), none, some (.int t8), none, none]) 103 (r6, (-2), 0) (fun t8 σ8 => ?_) (fun K7 bk7 ex7 s7 σ7 => ?_)
    · refine jr_ald0 (pc := 103) hX dX13_bestPost_103 ?_
      refine jr_ild2 (pc := 104) hX dX13_bestPost_104 ?_
      refine jr_ck1 (fun a15 e15 h15 => ?_)
      refine jr_cV1i (pc := 105) hX lX13_58 (c_X13_good hX.F σ8 a15 h15 _) (jd_dd hD rfl) (Nat.le_of_ble_eq_true rfl) dX13_bestPost_105 h15 (fun r16 σ16 p16 => ?_)
      exact jr_iret (pc := 108) hX dX13_bestPost_108 rfl
    · refine jr_ild3 (pc := 47) hX dX13_bestPost_47 ?_
      refine jr_ald0 (pc := 48) hX dX13_bestPost_48 ?_
      refine jr_ck0 (fun a9 e9 h9 => ?_)
      refine jr_getr (pc := 49) hX fX13_289 rfl dX13_bestPost_49 h9 ?_
      refine jr_ck0 (fun a10 e10 h10 => ?_)
      refine jr_getiN (pc := 52) hX fX13_253 rfl dX13_bestPost_52 h10 ?_
      refine jr_icge (pc := 55) hX 103 dX13_bestPost_55 (by decide) ?_ ?_
      · refine jr_wk [true, false, true, false, true] ?_
        exact ex7 s7.2.1 _
      · refine jr_ald0 (pc := 58) hX dX13_bestPost_58 ?_
        refine jr_ek0 e9 ?_
        refine jr_cV0i (pc := 59) hX lX13_315 (c_X13_sinkersNow hX.F σ7 a9 h9) (jd_dd hD rfl) (Nat.le_of_ble_eq_true rfl) dX13_bestPost_59 h9 (fun r11 σ11 p11 => ?_)
        refine jr_ald0 (pc := 62) hX dX13_bestPost_62 ?_
        refine jr_ald0 (pc := 63) hX dX13_bestPost_63 ?_
        refine jr_ek0 e9 ?_
        refine jr_getr (pc := 64) hX fX13_17 rfl dX13_bestPost_64 (p11.at h9 :) ?_
        refine jr_bipush (pc := 67) hX 6 rfl dX13_bestPost_67 ?_
        refine jr_iaC (pc := 69) hX dX13_bestPost_69 (fun a12 n12 e12 h12 => ?_)
        refine jr_iconst (pc := 70) hX 1 rfl dX13_bestPost_70 ?_
        refine jr_ild3 (pc := 71) hX dX13_bestPost_71 ?_
        refine jr_ishl (pc := 72) hX dX13_bestPost_72 ?_
        refine jr_ior (pc := 73) hX dX13_bestPost_73 ?_
        refine jr_ek1 e9 ?_
        refine jr_cV1i (pc := 74) hX lX13_318 (c_X13_reachedBy hX.F σ11 a9 (p11.at h9 :) _) (jd_dd hD rfl) (Nat.le_of_ble_eq_true rfl) dX13_bestPost_74 (p11.at h9 :) (fun r13 σ13 p13 => ?_)
        refine jr_iand (pc := 77) hX dX13_bestPost_77 ?_
        refine jr_cS1i (pc := 78) hX lX13_303 (c_X13_bits hX.F σ13 _) (jd_dd hD rfl) (Nat.le_of_ble_eq_true rfl) dX13_bestPost_78 (fun r14 σ14 p14 => ?_)
        refine jr_ist4 (pc := 81) hX (jn_i _) dX13_bestPost_81 ?_
        refine jr_ild4 (pc := 83) hX dX13_bestPost_83 ?_
        refine jr_ild1 (pc := 85) hX dX13_bestPost_85 ?_
        refine jr_icgt (pc := 86) hX 92 dX13_bestPost_86 (by decide) ?_ ?_
        · refine jr_ild4 (pc := 92) hX dX13_bestPost_92 ?_
          refine jr_ist1 (pc := 94) hX (jn_r _ _) dX13_bestPost_94 ?_
          refine jr_ild3 (pc := 95) hX dX13_bestPost_95 ?_
          refine jr_ist2 (pc := 96) hX (jn_i _) dX13_bestPost_96 ?_
          refine jr_inc3 (pc := 97) hX 1 rfl (jn_i _) dX13_bestPost_97 ?_
          refine jr_goto (pc := 100) hX 47 dX13_bestPost_100 (by decide) ?_
          refine jr_wk [true, true, true, true, false] ?_
          exact bk7 (r14, s7.2.2, (s7.2.2 + 1)) _
        · refine jr_goto (pc := 89) hX 97 dX13_bestPost_89 (by decide) ?_
          refine jr_inc3 (pc := 97) hX 1 rfl (jn_i _) dX13_bestPost_97 ?_
          refine jr_goto (pc := 100) hX 47 dX13_bestPost_100 (by decide) ?_
          refine jr_wk [true, true, true, true, false] ?_
          exact bk7 (s7.1, s7.2.1, (s7.2.2 + 1)) _
  · refine jr_ald0 (pc := 12) hX dX13_bestPost_12 ?_
    refine jr_iconst (pc := 13) hX 1 rfl dX13_bestPost_13 ?_
    refine jr_cV1i (pc := 14) hX lX13_54 (c_X13_refused hX.F (jd_pi σ t 0 0) t ht _) (jd_dd hD rfl) (Nat.le_of_ble_eq_true rfl) dX13_bestPost_14 ht (fun r17 σ17 p17 => ?_)
    exact jr_iret (pc := 17) hX dX13_bestPost_17 rfl
def m_X13_bestPlace (t : Nat) (x0p : Int32) (σ : jd_Hp) : Option (Int32 × jd_Hp) :=
jd_li (jd_pi σ t 0 0) fun τ1 =>
jd_if (¬ (τ1.2.2.2 t 3) = none) (
jd_b (m_X13_in x0p 1 40 τ1) fun r2 σ2 =>
jd_if (¬ r2 = 0) (
jd_b (m_X13_works t σ2) fun r3 σ3 =>
jd_b (jd_lp (S := Int32 × Int32 × Int32) (T := Int32) (fun s4 σ4 =>
jd_if (99 < s4.2.2) (
some ((Sum.inr s4.1), σ4)) (
jd_b (jd_lp (S := Int32 × Int32) (T := Int32) (fun s6 σ6 =>
jd_o σ6 (13, 29) (some t) fun a8 =>
jd_o σ6 (12, 20) (σ6.2.2.2 a8 3) fun a9 =>
jd_if ((σ6.2.1 a9 3) ≤ s6.2) (
some ((Sum.inr s6.1), σ6)) (
jd_b (m_X13_sinksAt a8 s6.2 σ6) fun r10 σ10 =>
jd_if (9999 ≤ r10) (
jd_li (s6.1 + 0) fun x11 =>
some (Sum.inl (x11, (s6.2 + 1)), σ10)) (
jd_ia σ10 20 (σ10.2.2.2 a8 16) s6.2 fun a12 j12 =>
jd_b (m_X13_off s4.2.2 (σ10.2.1 a12 j12) σ10) fun r13 σ13 =>
jd_o σ13 (12, 20) (σ13.2.2.2 a8 3) fun a14 =>
jd_if ((σ13.2.1 a14 0) < (r13 + x0p)) (
jd_li (s6.1 + 0) fun x15 =>
some (Sum.inl (x15, (s6.2 + 1)), σ13)) (
jd_li (s6.1 + 1) fun x16 =>
some (Sum.inl (x16, (s6.2 + 1)), σ13))))) jd_fu (0, 0) σ4) fun t7 σ7 =>
jd_if (s4.2.1 < t7) (
some (Sum.inl (s4.2.2, t7, (s4.2.2 + 1)), σ7)) (
some (Sum.inl (s4.1, s4.2.1, (s4.2.2 + 1)), σ7)))) jd_fu (0, (-1), 0) σ3) fun t5 σ5 =>
jd_o σ5 (13, 29) (some t) fun a17 =>
jd_b (m_X13_good a17 t5 σ5) fun r18 σ18 =>
some (r18, σ18)) (
jd_b (m_X13_refused t 2 σ2) fun r19 σ19 =>
some (r19, σ19))) (
jd_b (m_X13_refused t 1 τ1) fun r20 σ20 =>
some (r20, σ20))
set_option maxHeartbeats 4000000 in
set_option maxRecDepth 20000 in
theorem c_X13_bestPlace {l : Launch} {s0 : State} {G : jd_G} (hF : jd_F s0 G) (σ : jd_Hp) (t : Nat) (ht : σ.1[t]? = some (13, 29)) (x0p : Int32) : jd_M l s0 G yX13_bestPlace cX13_bestPlace 7 (some .int) 3 je_i [jd_v G (some t), .int x0p] σ (m_X13_bestPlace t x0p σ) := by
  refine jd_enter hF (by decide) (fun G => [some (jd_v G (some t)), some (.int x0p), none, none, none, none, none]) rfl (by simp [lv_args, jd_al, jd_v_cat, jd_cti, jd_ctl]) (by simp [lg_sl, jd_v_cat, jd_cti, jd_ctl]) (fun X hD hX => ?_)
  have hX : jd_C X RX13 "bestPlace" cX13_bestPlace 7 (some .int) := hX
  unfold m_X13_bestPlace
  refine jr_ald0 (pc := 0) hX dX13_bestPlace_0 ?_
  refine jr_iconst (pc := 1) hX 0 rfl dX13_bestPlace_1 ?_
  refine jr_puti (pc := 2) hX fX13_48 rfl dX13_bestPlace_2 ht ?_
  refine jr_li ?_
  refine jr_ald0 (pc := 5) hX dX13_bestPlace_5 ?_
  refine jr_getr (pc := 6) hX fX13_289 rfl dX13_bestPlace_6 ht ?_
  refine jr_ifnonnull (pc := 9) hX 18 dX13_bestPlace_9 (by decide) ?_ ?_
  · refine jr_ild1 (pc := 18) hX dX13_bestPlace_18 ?_
    refine jr_iconst (pc := 19) hX 1 rfl dX13_bestPlace_19 ?_
    refine jr_bipush (pc := 20) hX 40 rfl dX13_bestPlace_20 ?_
    refine jr_cS3i (pc := 22) hX lX13_131 (c_X13_in hX.F (jd_pi σ t 0 0) _ _ _) (jd_dd hD rfl) (Nat.le_of_ble_eq_true rfl) dX13_bestPlace_22 (fun r2 σ2 p2 => ?_)
    refine jr_ifne (pc := 25) hX 34 dX13_bestPlace_25 (by decide) ?_ ?_
    · refine jr_ald0 (pc := 34) hX dX13_bestPlace_34 ?_
      refine jr_cV0v (pc := 35) hX lX13_324 (c_X13_works hX.F σ2 t (p2.at ht :)) (jd_dd hD rfl) (Nat.le_of_ble_eq_true rfl) dX13_bestPlace_35 (p2.at ht :) (fun r3 σ3 p3 => ?_)
      refine jr_iconst (pc := 38) hX 0 rfl dX13_bestPlace_38 ?_
      refine jr_ist2 (pc := 39) hX (jn_i _) dX13_bestPlace_39 ?_
      refine jr_iconst (pc := 40) hX (-1) rfl dX13_bestPlace_40 ?_
      refine jr_ist3 (pc := 41) hX (jn_i _) dX13_bestPlace_41 ?_
      refine jr_iconst (pc := 42) hX 0 rfl dX13_bestPlace_42 ?_
      refine jr_ist4 (pc := 43) hX (jn_i _) dX13_bestPlace_43 ?_
      refine jr_loop (pc := 45) (fun (s4 : Int32 × Int32 × Int32) => [some (jd_v (jd_gG X) (some t)), some (.int x0p), some (.int s4.1), some (.int s4.2.1), some (.int s4.2.2), none, none]) (fun (t5 : Int32) => [some (jd_v (jd_gG X) (some t)), none, some (.int t5), none, none, none, none]) 143 (0, (-1), 0) (fun t5 σ5 => ?_) (fun K4 bk4 ex4 s4 σ4 => ?_)
      · refine jr_ald0 (pc := 143) hX dX13_bestPlace_143 ?_
        refine jr_ild2 (pc := 144) hX dX13_bestPlace_144 ?_
        refine jr_ck1 (fun a17 e17 h17 => ?_)
        refine jr_cV1i (pc := 145) hX lX13_58 (c_X13_good hX.F σ5 a17 h17 _) (jd_dd hD rfl) (Nat.le_of_ble_eq_true rfl) dX13_bestPlace_145 h17 (fun r18 σ18 p18 => ?_)
        exact jr_iret (pc := 148) hX dX13_bestPlace_148 rfl
      · refine jr_ild4 (pc := 45) hX dX13_bestPlace_45 ?_
        refine jr_bipush (pc := 47) hX 99 rfl dX13_bestPlace_47 ?_
        refine jr_icgt (pc := 49) hX 143 dX13_bestPlace_49 (by decide) ?_ ?_
        · refine jr_wk [true, false, true, false, false, true, true] ?_
          exact ex4 s4.1 _
        · refine jr_iconst (pc := 52) hX 0 rfl dX13_bestPlace_52 ?_
          refine jr_ist5 (pc := 53) hX (jn_i _) dX13_bestPlace_53 ?_
          refine jr_iconst (pc := 55) hX 0 rfl dX13_bestPlace_55 ?_
          refine jr_ist6 (pc := 56) hX (jn_i _) dX13_bestPlace_56 ?_
          refine jr_loop (pc := 58) (fun (s6 : Int32 × Int32) => [some (jd_v (jd_gG X) (some t)), some (.int x0p), some (.int s4.1), some (.int s4.2.1), some (.int s4.2.2), some (.int s6.1), some (.int s6.2)]) (fun (t7 : Int32) => [some (jd_v (jd_gG X) (some t)), some (.int x0p), some (.int s4.1), some (.int s4.2.1), some (.int s4.2.2), some (.int t7), none]) 122 (0, 0) (fun t7 σ7 => ?_) (fun K6 bk6 ex6 s6 σ6 => ?_)
          · refine jr_ild5 (pc := 122) hX dX13_bestPlace_122 ?_
            refine jr_ild3 (pc := 124) hX dX13_bestPlace_124 ?_
            refine jr_icgt (pc := 125) hX 131 dX13_bestPlace_125 (by decide) ?_ ?_
            · refine jr_ild5 (pc := 131) hX dX13_bestPlace_131 ?_
              refine jr_ist3 (pc := 133) hX (jn_i _) dX13_bestPlace_133 ?_
              refine jr_ild4 (pc := 134) hX dX13_bestPlace_134 ?_
              refine jr_ist2 (pc := 136) hX (jn_i _) dX13_bestPlace_136 ?_
              refine jr_inc4 (pc := 137) hX 1 rfl (jn_i _) dX13_bestPlace_137 ?_
              refine jr_goto (pc := 140) hX 45 dX13_bestPlace_140 (by decide) ?_
              refine jr_wk [true, true, true, true, true, false, true] ?_
              exact bk4 (s4.2.2, t7, (s4.2.2 + 1)) _
            · refine jr_goto (pc := 128) hX 137 dX13_bestPlace_128 (by decide) ?_
              refine jr_inc4 (pc := 137) hX 1 rfl (jn_i _) dX13_bestPlace_137 ?_
              refine jr_goto (pc := 140) hX 45 dX13_bestPlace_140 (by decide) ?_
              refine jr_wk [true, true, true, true, true, false, true] ?_
              exact bk4 (s4.1, s4.2.1, (s4.2.2 + 1)) _
          · refine jr_ild6 (pc := 58) hX dX13_bestPlace_58 ?_
            refine jr_ald0 (pc := 60) hX dX13_bestPlace_60 ?_
            refine jr_ck0 (fun a8 e8 h8 => ?_)
            refine jr_getr (pc := 61) hX fX13_289 rfl dX13_bestPlace_61 h8 ?_
            refine jr_ck0 (fun a9 e9 h9 => ?_)
            refine jr_getiN (pc := 64) hX fX13_185 rfl dX13_bestPlace_64 h9 ?_
            refine jr_icge (pc := 67) hX 122 dX13_bestPlace_67 (by decide) ?_ ?_
            · refine jr_wk [true, true, true, true, true, true, false] ?_
              exact ex6 s6.1 _
            · refine jr_ild5 (pc := 70) hX dX13_bestPlace_70 ?_
              refine jr_ald0 (pc := 72) hX dX13_bestPlace_72 ?_
              refine jr_ild6 (pc := 73) hX dX13_bestPlace_73 ?_
              refine jr_ek1 e8 ?_
              refine jr_cV1i (pc := 75) hX lX13_306 (c_X13_sinksAt hX.F σ6 a8 h8 _) (jd_dd hD rfl) (Nat.le_of_ble_eq_true rfl) dX13_bestPlace_75 h8 (fun r10 σ10 p10 => ?_)
              refine jr_sipush (pc := 78) hX 9999 rfl dX13_bestPlace_78 ?_
              refine jr_icge (pc := 81) hX 112 dX13_bestPlace_81 (by decide) ?_ ?_
              · refine jr_iconst (pc := 112) hX 0 rfl dX13_bestPlace_112 ?_
                refine jr_iadd (pc := 113) hX dX13_bestPlace_113 ?_
                refine jr_ist5 (pc := 114) hX (jn_i _) dX13_bestPlace_114 ?_
                refine jr_li ?_
                refine jr_inc6 (pc := 116) hX 1 rfl (jn_i _) dX13_bestPlace_116 ?_
                refine jr_goto (pc := 119) hX 58 dX13_bestPlace_119 (by decide) ?_
                exact bk6 ((s6.1 + 0), (s6.2 + 1)) _
              · refine jr_ild4 (pc := 84) hX dX13_bestPlace_84 ?_
                refine jr_ald0 (pc := 86) hX dX13_bestPlace_86 ?_
                refine jr_ek0 e8 ?_
                refine jr_getr (pc := 87) hX fX13_21 rfl dX13_bestPlace_87 (p10.at h8 :) ?_
                refine jr_ild6 (pc := 90) hX dX13_bestPlace_90 ?_
                refine jr_iaC (pc := 92) hX dX13_bestPlace_92 (fun a12 n12 e12 h12 => ?_)
                refine jr_cS2i (pc := 93) hX lX13_297 (c_X13_off hX.F σ10 _ _) (jd_dd hD rfl) (Nat.le_of_ble_eq_true rfl) dX13_bestPlace_93 (fun r13 σ13 p13 => ?_)
                refine jr_ild1 (pc := 96) hX dX13_bestPlace_96 ?_
                refine jr_iadd (pc := 97) hX dX13_bestPlace_97 ?_
                refine jr_ald0 (pc := 98) hX dX13_bestPlace_98 ?_
                refine jr_ek0 e8 ?_
                refine jr_getr (pc := 99) hX fX13_289 rfl dX13_bestPlace_99 (p13.at (p10.at h8 :) :) ?_
                refine jr_ck0 (fun a14 e14 h14 => ?_)
                refine jr_getiN (pc := 102) hX fX13_153 rfl dX13_bestPlace_102 h14 ?_
                refine jr_icgt (pc := 105) hX 112 dX13_bestPlace_105 (by decide) ?_ ?_
                · refine jr_iconst (pc := 112) hX 0 rfl dX13_bestPlace_112 ?_
                  refine jr_iadd (pc := 113) hX dX13_bestPlace_113 ?_
                  refine jr_ist5 (pc := 114) hX (jn_i _) dX13_bestPlace_114 ?_
                  refine jr_li ?_
                  refine jr_inc6 (pc := 116) hX 1 rfl (jn_i _) dX13_bestPlace_116 ?_
                  refine jr_goto (pc := 119) hX 58 dX13_bestPlace_119 (by decide) ?_
                  exact bk6 ((s6.1 + 0), (s6.2 + 1)) _
                · refine jr_iconst (pc := 108) hX 1 rfl dX13_bestPlace_108 ?_
                  refine jr_goto (pc := 109) hX 113 dX13_bestPlace_109 (by decide) ?_
                  refine jr_iadd (pc := 113) hX dX13_bestPlace_113 ?_
                  refine jr_ist5 (pc := 114) hX (jn_i _) dX13_bestPlace_114 ?_
                  refine jr_li ?_
                  refine jr_inc6 (pc := 116) hX 1 rfl (jn_i _) dX13_bestPlace_116 ?_
                  refine jr_goto (pc := 119) hX 58 dX13_bestPlace_119 (by decide) ?_
                  exact bk6 ((s6.1 + 1), (s6.2 + 1)) _
    · refine jr_ald0 (pc := 28) hX dX13_bestPlace_28 ?_
      refine jr_iconst (pc := 29) hX 2 rfl dX13_bestPlace_29 ?_
      refine jr_cV1i (pc := 30) hX lX13_54 (c_X13_refused hX.F σ2 t (p2.at ht :) _) (jd_dd hD rfl) (Nat.le_of_ble_eq_true rfl) dX13_bestPlace_30 (p2.at ht :) (fun r19 σ19 p19 => ?_)
      exact jr_iret (pc := 33) hX dX13_bestPlace_33 rfl
  · refine jr_ald0 (pc := 12) hX dX13_bestPlace_12 ?_
    refine jr_iconst (pc := 13) hX 1 rfl dX13_bestPlace_13 ?_
    refine jr_cV1i (pc := 14) hX lX13_54 (c_X13_refused hX.F (jd_pi σ t 0 0) t ht _) (jd_dd hD rfl) (Nat.le_of_ble_eq_true rfl) dX13_bestPlace_14 ht (fun r20 σ20 p20 => ?_)
    exact jr_iret (pc := 17) hX dX13_bestPlace_17 rfl
def m_X13_limitFor (t : Nat) (σ : jd_Hp) : Option (Int32 × jd_Hp) :=
jd_li (jd_pi σ t 0 0) fun τ1 =>
jd_if (¬ (τ1.2.2.2 t 3) = none) (
jd_ia τ1 20 (τ1.2.2.2 t 15) 6 fun a2 j2 =>
jd_if (¬ (τ1.2.1 a2 j2) = 0) (
jd_b (m_X13_works t τ1) fun r3 σ3 =>
jd_b (jd_lp (S := Int32 × Int32) (T := Int32) (fun s4 σ4 =>
jd_o σ4 (13, 29) (some t) fun a6 =>
jd_o σ4 (12, 20) (σ4.2.2.2 a6 3) fun a7 =>
jd_if ((σ4.2.1 a7 3) ≤ s4.2) (
some ((Sum.inr s4.1), σ4)) (
jd_b (m_X13_sinksAt a6 s4.2 σ4) fun r8 σ8 =>
jd_if (¬ r8 = 9999) (
jd_b (m_X13_nearestTo a6 s4.2 σ8) fun r9 σ9 =>
jd_b (m_X13_timeTo a6 r9 s4.2 σ9) fun r10 σ10 =>
jd_if (r10 ≤ s4.1) (
some (Sum.inl (s4.1, (s4.2 + 1)), σ10)) (
jd_b (m_X13_timeTo a6 r9 s4.2 σ10) fun r11 σ11 =>
some (Sum.inl (r11, (s4.2 + 1)), σ11))) (
some (Sum.inl (s4.1, (s4.2 + 1)), σ8)))) jd_fu (1, 0) σ3) fun t5 σ5 =>
jd_o σ5 (13, 29) (some t) fun a12 =>
jd_b (m_X13_good a12 t5 σ5) fun r13 σ13 =>
some (r13, σ13)) (
jd_b (m_X13_good t (-2) τ1) fun r14 σ14 =>
some (r14, σ14))) (
jd_b (m_X13_refused t 1 τ1) fun r15 σ15 =>
some (r15, σ15))
set_option maxHeartbeats 4000000 in
set_option maxRecDepth 20000 in
theorem c_X13_limitFor {l : Launch} {s0 : State} {G : jd_G} (hF : jd_F s0 G) (σ : jd_Hp) (t : Nat) (ht : σ.1[t]? = some (13, 29)) : jd_M l s0 G yX13_limitFor cX13_limitFor 4 (some .int) 3 je_i [jd_v G (some t)] σ (m_X13_limitFor t σ) := by
  refine jd_enter hF (by decide) (fun G => [some (jd_v G (some t)), none, none, none]) rfl (by simp [lv_args, jd_al, jd_v_cat, jd_cti, jd_ctl]) (by simp [lg_sl, jd_v_cat, jd_cti, jd_ctl]) (fun X hD hX => ?_)
  have hX : jd_C X RX13 "limitFor" cX13_limitFor 4 (some .int) := hX
  unfold m_X13_limitFor
  refine jr_ald0 (pc := 0) hX dX13_limitFor_0 ?_
  refine jr_iconst (pc := 1) hX 0 rfl dX13_limitFor_1 ?_
  refine jr_puti (pc := 2) hX fX13_48 rfl dX13_limitFor_2 ht ?_
  refine jr_li ?_
  refine jr_ald0 (pc := 5) hX dX13_limitFor_5 ?_
  refine jr_getr (pc := 6) hX fX13_289 rfl dX13_limitFor_6 ht ?_
  refine jr_ifnonnull (pc := 9) hX 18 dX13_limitFor_9 (by decide) ?_ ?_
  · refine jr_ald0 (pc := 18) hX dX13_limitFor_18 ?_
    refine jr_getr (pc := 19) hX fX13_17 rfl dX13_limitFor_19 ht ?_
    refine jr_bipush (pc := 22) hX 6 rfl dX13_limitFor_22 ?_
    refine jr_iaC (pc := 24) hX dX13_limitFor_24 (fun a2 n2 e2 h2 => ?_)
    refine jr_ifne (pc := 25) hX 35 dX13_limitFor_25 (by decide) ?_ ?_
    · refine jr_ald0 (pc := 35) hX dX13_limitFor_35 ?_
      refine jr_cV0v (pc := 36) hX lX13_324 (c_X13_works hX.F (jd_pi σ t 0 0) t ht) (jd_dd hD rfl) (Nat.le_of_ble_eq_true rfl) dX13_limitFor_36 ht (fun r3 σ3 p3 => ?_)
      refine jr_iconst (pc := 39) hX 1 rfl dX13_limitFor_39 ?_
      refine jr_ist1 (pc := 40) hX (jn_r _ _) dX13_limitFor_40 ?_
      refine jr_iconst (pc := 41) hX 0 rfl dX13_limitFor_41 ?_
      refine jr_ist2 (pc := 42) hX (jn_i _) dX13_limitFor_42 ?_
      refine jr_loop (pc := 43) (fun (s4 : Int32 × Int32) => [some (jd_v (jd_gG X) (some t)), some (.int s4.1), some (.int s4.2), none]) (fun (t5 : Int32) => [some (jd_v (jd_gG X) (some t)), some (.int t5), none, none]) 97 (1, 0) (fun t5 σ5 => ?_) (fun K4 bk4 ex4 s4 σ4 => ?_)
      · refine jr_ald0 (pc := 97) hX dX13_limitFor_97 ?_
        refine jr_ild1 (pc := 98) hX dX13_limitFor_98 ?_
        refine jr_ck1 (fun a12 e12 h12 => ?_)
        refine jr_cV1i (pc := 99) hX lX13_58 (c_X13_good hX.F σ5 a12 h12 _) (jd_dd hD rfl) (Nat.le_of_ble_eq_true rfl) dX13_limitFor_99 h12 (fun r13 σ13 p13 => ?_)
        exact jr_iret (pc := 102) hX dX13_limitFor_102 rfl
      · refine jr_ild2 (pc := 43) hX dX13_limitFor_43 ?_
        refine jr_ald0 (pc := 44) hX dX13_limitFor_44 ?_
        refine jr_ck0 (fun a6 e6 h6 => ?_)
        refine jr_getr (pc := 45) hX fX13_289 rfl dX13_limitFor_45 h6 ?_
        refine jr_ck0 (fun a7 e7 h7 => ?_)
        refine jr_getiN (pc := 48) hX fX13_185 rfl dX13_limitFor_48 h7 ?_
        refine jr_icge (pc := 51) hX 97 dX13_limitFor_51 (by decide) ?_ ?_
        · refine jr_wk [true, true, false, true] ?_
          exact ex4 s4.1 _
        · refine jr_ald0 (pc := 54) hX dX13_limitFor_54 ?_
          refine jr_ild2 (pc := 55) hX dX13_limitFor_55 ?_
          refine jr_ek1 e6 ?_
          refine jr_cV1i (pc := 56) hX lX13_306 (c_X13_sinksAt hX.F σ4 a6 h6 _) (jd_dd hD rfl) (Nat.le_of_ble_eq_true rfl) dX13_limitFor_56 h6 (fun r8 σ8 p8 => ?_)
          refine jr_sipush (pc := 59) hX 9999 rfl dX13_limitFor_59 ?_
          refine jr_icne (pc := 62) hX 68 dX13_limitFor_62 (by decide) ?_ ?_
          · refine jr_ald0 (pc := 68) hX dX13_limitFor_68 ?_
            refine jr_ild2 (pc := 69) hX dX13_limitFor_69 ?_
            refine jr_ek1 e6 ?_
            refine jr_cV1i (pc := 70) hX lX13_342 (c_X13_nearestTo hX.F σ8 a6 (p8.at h6 :) _) (jd_dd hD rfl) (Nat.le_of_ble_eq_true rfl) dX13_limitFor_70 (p8.at h6 :) (fun r9 σ9 p9 => ?_)
            refine jr_ist3 (pc := 73) hX (jn_i _) dX13_limitFor_73 ?_
            refine jr_ald0 (pc := 74) hX dX13_limitFor_74 ?_
            refine jr_ild3 (pc := 75) hX dX13_limitFor_75 ?_
            refine jr_ild2 (pc := 76) hX dX13_limitFor_76 ?_
            refine jr_ek2 e6 ?_
            refine jr_cV2i (pc := 77) hX lX13_309 (c_X13_timeTo hX.F σ9 a6 (p9.at (p8.at h6 :) :) _ _) (jd_dd hD rfl) (Nat.le_of_ble_eq_true rfl) dX13_limitFor_77 (p9.at (p8.at h6 :) :) (fun r10 σ10 p10 => ?_)
            refine jr_ild1 (pc := 80) hX dX13_limitFor_80 ?_
            refine jr_icle (pc := 81) hX 91 dX13_limitFor_81 (by decide) ?_ ?_
            · refine jr_inc2 (pc := 91) hX 1 rfl (jn_i _) dX13_limitFor_91 ?_
              refine jr_goto (pc := 94) hX 43 dX13_limitFor_94 (by decide) ?_
              refine jr_wk [true, true, true, false] ?_
              exact bk4 (s4.1, (s4.2 + 1)) _
            · refine jr_ald0 (pc := 84) hX dX13_limitFor_84 ?_
              refine jr_ild3 (pc := 85) hX dX13_limitFor_85 ?_
              refine jr_ild2 (pc := 86) hX dX13_limitFor_86 ?_
              refine jr_ek2 e6 ?_
              refine jr_cV2i (pc := 87) hX lX13_309 (c_X13_timeTo hX.F σ10 a6 (p10.at (p9.at (p8.at h6 :) :) :) _ _) (jd_dd hD rfl) (Nat.le_of_ble_eq_true rfl) dX13_limitFor_87 (p10.at (p9.at (p8.at h6 :) :) :) (fun r11 σ11 p11 => ?_)
              refine jr_ist1 (pc := 90) hX (jn_r _ _) dX13_limitFor_90 ?_
              refine jr_inc2 (pc := 91) hX 1 rfl (jn_i _) dX13_limitFor_91 ?_
              refine jr_goto (pc := 94) hX 43 dX13_limitFor_94 (by decide) ?_
              refine jr_wk [true, true, true, false] ?_
              exact bk4 (r11, (s4.2 + 1)) _
          · refine jr_goto (pc := 65) hX 91 dX13_limitFor_65 (by decide) ?_
            refine jr_inc2 (pc := 91) hX 1 rfl (jn_i _) dX13_limitFor_91 ?_
            refine jr_goto (pc := 94) hX 43 dX13_limitFor_94 (by decide) ?_
            exact bk4 (s4.1, (s4.2 + 1)) _
    · refine jr_ald0 (pc := 28) hX dX13_limitFor_28 ?_
      refine jr_bipush (pc := 29) hX (-2) rfl dX13_limitFor_29 ?_
      refine jr_cV1i (pc := 31) hX lX13_58 (c_X13_good hX.F (jd_pi σ t 0 0) t ht _) (jd_dd hD rfl) (Nat.le_of_ble_eq_true rfl) dX13_limitFor_31 ht (fun r14 σ14 p14 => ?_)
      exact jr_iret (pc := 34) hX dX13_limitFor_34 rfl
  · refine jr_ald0 (pc := 12) hX dX13_limitFor_12 ?_
    refine jr_iconst (pc := 13) hX 1 rfl dX13_limitFor_13 ?_
    refine jr_cV1i (pc := 14) hX lX13_54 (c_X13_refused hX.F (jd_pi σ t 0 0) t ht _) (jd_dd hD rfl) (Nat.le_of_ble_eq_true rfl) dX13_limitFor_14 ht (fun r15 σ15 p15 => ?_)
    exact jr_iret (pc := 17) hX dX13_limitFor_17 rfl
def m_X13_freeBehind (t : Nat) (x0p : Int32) (x1p : Int32) (x2p : Int32) (σ : jd_Hp) : Option (Int32 × jd_Hp) :=
jd_b (m_X13_sinksAt t x1p σ) fun r1 σ1 =>
jd_if (¬ r1 = 9999) (
jd_b (m_X13_sinksAt t x1p σ1) fun r2 σ2 =>
jd_b (α := Int32) (
jd_if (x2p ≤ r2) (
jd_b (m_X13_sinksAt t x1p σ2) fun r5 σ5 =>
some (r5, σ5)) (
some (x2p, σ2))) fun t4 σ4 =>
jd_o σ4 (13, 29) (some t) fun a6 =>
jd_b (m_X13_timeTo a6 x0p x1p σ4) fun r7 σ7 =>
jd_li (t4 + r7) fun x8 =>
jd_b (m_X13_sinksAt a6 x1p σ7) fun r9 σ9 =>
jd_o σ9 (12, 20) (σ9.2.2.2 a6 3) fun a10 =>
jd_if (x8 ≤ (r9 + (σ9.2.1 a10 0))) (
jd_b (m_X13_timeTo a6 x0p x1p σ9) fun r11 σ11 =>
some ((x8 + r11), σ11)) (
some (9999, σ9))) (
some (9999, σ1))
set_option maxHeartbeats 4000000 in
set_option maxRecDepth 20000 in
theorem c_X13_freeBehind {l : Launch} {s0 : State} {G : jd_G} (hF : jd_F s0 G) (σ : jd_Hp) (t : Nat) (ht : σ.1[t]? = some (13, 29)) (x0p : Int32) (x1p : Int32) (x2p : Int32) : jd_M l s0 G yX13_freeBehind cX13_freeBehind 5 (some .int) 3 je_i [jd_v G (some t), .int x0p, .int x1p, .int x2p] σ (m_X13_freeBehind t x0p x1p x2p σ) := by
  refine jd_enter hF (by decide) (fun G => [some (jd_v G (some t)), some (.int x0p), some (.int x1p), some (.int x2p), none]) rfl (by simp [lv_args, jd_al, jd_v_cat, jd_cti, jd_ctl]) (by simp [lg_sl, jd_v_cat, jd_cti, jd_ctl]) (fun X hD hX => ?_)
  have hX : jd_C X RX13 "freeBehind" cX13_freeBehind 5 (some .int) := hX
  unfold m_X13_freeBehind
  refine jr_ald0 (pc := 0) hX dX13_freeBehind_0 ?_
  refine jr_ild2 (pc := 1) hX dX13_freeBehind_1 ?_
  refine jr_cV1i (pc := 2) hX lX13_306 (c_X13_sinksAt hX.F σ t ht _) (jd_dd hD rfl) (Nat.le_of_ble_eq_true rfl) dX13_freeBehind_2 ht (fun r1 σ1 p1 => ?_)
  refine jr_sipush (pc := 5) hX 9999 rfl dX13_freeBehind_5 ?_
  refine jr_icne (pc := 8) hX 15 dX13_freeBehind_8 (by decide) ?_ ?_
  · refine jr_ild3 (pc := 15) hX dX13_freeBehind_15 ?_
    refine jr_ald0 (pc := 16) hX dX13_freeBehind_16 ?_
    refine jr_ild2 (pc := 17) hX dX13_freeBehind_17 ?_
    refine jr_cV1i (pc := 18) hX lX13_306 (c_X13_sinksAt hX.F σ1 t (p1.at ht :) _) (jd_dd hD rfl) (Nat.le_of_ble_eq_true rfl) dX13_freeBehind_18 (p1.at ht :) (fun r2 σ2 p2 => ?_)
    refine jr_join (pc := 21) 33 (fun (t4 : Int32) => [some (jd_v (jd_gG X) (some t)), some (.int x0p), some (.int x1p), none, none]) (fun (t4 : Int32) => [.int t4]) (fun t4 σ4 => ?_) (fun K4 jj4 => ?_)
    · refine jr_ald0 (pc := 33) hX dX13_freeBehind_33 ?_
      refine jr_ild1 (pc := 34) hX dX13_freeBehind_34 ?_
      refine jr_ild2 (pc := 35) hX dX13_freeBehind_35 ?_
      refine jr_ck2 (fun a6 e6 h6 => ?_)
      refine jr_cV2i (pc := 36) hX lX13_309 (c_X13_timeTo hX.F σ4 a6 h6 _ _) (jd_dd hD rfl) (Nat.le_of_ble_eq_true rfl) dX13_freeBehind_36 h6 (fun r7 σ7 p7 => ?_)
      refine jr_iadd (pc := 39) hX dX13_freeBehind_39 ?_
      refine jr_ist4 (pc := 40) hX jn_n dX13_freeBehind_40 ?_
      refine jr_li ?_
      refine jr_ild4 (pc := 42) hX dX13_freeBehind_42 ?_
      refine jr_ald0 (pc := 44) hX dX13_freeBehind_44 ?_
      refine jr_ild2 (pc := 45) hX dX13_freeBehind_45 ?_
      refine jr_ek1 e6 ?_
      refine jr_cV1i (pc := 46) hX lX13_306 (c_X13_sinksAt hX.F σ7 a6 (p7.at h6 :) _) (jd_dd hD rfl) (Nat.le_of_ble_eq_true rfl) dX13_freeBehind_46 (p7.at h6 :) (fun r9 σ9 p9 => ?_)
      refine jr_ald0 (pc := 49) hX dX13_freeBehind_49 ?_
      refine jr_ek0 e6 ?_
      refine jr_getr (pc := 50) hX fX13_289 rfl dX13_freeBehind_50 (p9.at (p7.at h6 :) :) ?_
      refine jr_ck0 (fun a10 e10 h10 => ?_)
      refine jr_getiN (pc := 53) hX fX13_153 rfl dX13_freeBehind_53 h10 ?_
      refine jr_iadd (pc := 56) hX dX13_freeBehind_56 ?_
      refine jr_icle (pc := 57) hX 66 dX13_freeBehind_57 (by decide) ?_ ?_
      · refine jr_ild4 (pc := 66) hX dX13_freeBehind_66 ?_
        refine jr_ald0 (pc := 68) hX dX13_freeBehind_68 ?_
        refine jr_ild1 (pc := 69) hX dX13_freeBehind_69 ?_
        refine jr_ild2 (pc := 70) hX dX13_freeBehind_70 ?_
        refine jr_ek2 e6 ?_
        refine jr_cV2i (pc := 71) hX lX13_309 (c_X13_timeTo hX.F σ9 a6 (p9.at (p7.at h6 :) :) _ _) (jd_dd hD rfl) (Nat.le_of_ble_eq_true rfl) dX13_freeBehind_71 (p9.at (p7.at h6 :) :) (fun r11 σ11 p11 => ?_)
        refine jr_iadd (pc := 74) hX dX13_freeBehind_74 ?_
        exact jr_iret (pc := 75) hX dX13_freeBehind_75 rfl
      · refine jr_sipush (pc := 60) hX 9999 rfl dX13_freeBehind_60 ?_
        refine jr_goto (pc := 63) hX 75 dX13_freeBehind_63 (by decide) ?_
        exact jr_iret (pc := 75) hX dX13_freeBehind_75 rfl
    · refine jr_icle (pc := 21) hX 28 dX13_freeBehind_21 (by decide) ?_ ?_
      · refine jr_ald0 (pc := 28) hX dX13_freeBehind_28 ?_
        refine jr_ild2 (pc := 29) hX dX13_freeBehind_29 ?_
        refine jr_cV1i (pc := 30) hX lX13_306 (c_X13_sinksAt hX.F σ2 t (p2.at (p1.at ht :) :) _) (jd_dd hD rfl) (Nat.le_of_ble_eq_true rfl) dX13_freeBehind_30 (p2.at (p1.at ht :) :) (fun r5 σ5 p5 => ?_)
        refine jr_wk [true, true, true, false, true] ?_
        exact jj4 r5 _
      · refine jr_ild3 (pc := 24) hX dX13_freeBehind_24 ?_
        refine jr_goto (pc := 25) hX 33 dX13_freeBehind_25 (by decide) ?_
        refine jr_wk [true, true, true, false, true] ?_
        exact jj4 x2p _
  · refine jr_sipush (pc := 11) hX 9999 rfl dX13_freeBehind_11 ?_
    exact jr_iret (pc := 14) hX dX13_freeBehind_14 rfl
