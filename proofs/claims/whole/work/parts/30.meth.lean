theorem fX13_348 : jd_fl RX13 348 13 24 29 false := ⟨_, _, rfl, by decide, by decide, rfl, rfl, jd_mem 1312 (by decide +kernel) (by decide +kernel)⟩
theorem qX13_freeBehind : Cond.instanceMethod yX13_freeBehind ∈ jd_TB ∧ Cond.selects RX13 yX13_freeBehind yX13_freeBehind ∈ jd_TB ∧ Cond.initialized RX13 ∈ jd_TB ∧ Cond.code yX13_freeBehind cX13_freeBehind 5 (some .int) ∈ jd_TB ∧ jd_ds yX13_freeBehind 3 := ⟨jd_mem 1738 (by decide +kernel) (by decide +kernel), jd_mem 71 (by decide +kernel) (by decide +kernel), jd_mem 104 (by decide +kernel) (by decide +kernel), jd_mem 1739 (by decide +kernel) (by decide +kernel), ⟨by decide, by decide, by decide +kernel⟩⟩
theorem lX13_351 : jd_mv RX13 351 13 29 yX13_freeBehind cX13_freeBehind 5 (some .int) 3 := ⟨_, _, rfl, by decide, rfl, Or.inl (jd_mem 1736 (by decide +kernel) (by decide +kernel)), qX13_freeBehind.1, qX13_freeBehind.2.1, qX13_freeBehind.2.2.1, qX13_freeBehind.2.2.2.1, qX13_freeBehind.2.2.2.2, by decide⟩
theorem qX13_alones : Cond.instanceMethod yX13_alones ∈ jd_TB ∧ Cond.selects RX13 yX13_alones yX13_alones ∈ jd_TB ∧ Cond.initialized RX13 ∈ jd_TB ∧ Cond.code yX13_alones cX13_alones 7 (some .int) ∈ jd_TB ∧ jd_ds yX13_alones 1 := ⟨jd_mem 1734 (by decide +kernel) (by decide +kernel), jd_mem 70 (by decide +kernel) (by decide +kernel), jd_mem 104 (by decide +kernel) (by decide +kernel), jd_mem 1735 (by decide +kernel) (by decide +kernel), ⟨by decide, by decide, by decide +kernel⟩⟩
theorem lX13_355 : jd_mv RX13 355 13 29 yX13_alones cX13_alones 7 (some .int) 1 := ⟨_, _, rfl, by decide, rfl, Or.inl (jd_mem 1732 (by decide +kernel) (by decide +kernel)), qX13_alones.1, qX13_alones.2.1, qX13_alones.2.2.1, qX13_alones.2.2.2.1, qX13_alones.2.2.2.2, by decide⟩
theorem dX13_alones_0 : decode cX13_alones 0 = .ok (.iconst 0, 1) := by decide +kernel
theorem dX13_alones_1 : decode cX13_alones 1 = .ok (.istore_n 2, 1) := by decide +kernel
theorem dX13_alones_2 : decode cX13_alones 2 = .ok (.iconst 0, 1) := by decide +kernel
theorem dX13_alones_3 : decode cX13_alones 3 = .ok (.istore_n 3, 1) := by decide +kernel
theorem dX13_alones_4 : decode cX13_alones 4 = .ok (.iconst 0, 1) := by decide +kernel
theorem dX13_alones_5 : decode cX13_alones 5 = .ok (.istore 4, 2) := by decide +kernel
theorem dX13_alones_7 : decode cX13_alones 7 = .ok (.aload_n 0, 1) := by decide +kernel
theorem dX13_alones_8 : decode cX13_alones 8 = .ok (.getfield 33, 3) := by decide +kernel
theorem dX13_alones_11 : decode cX13_alones 11 = .ok (.iconst 0, 1) := by decide +kernel
theorem dX13_alones_12 : decode cX13_alones 12 = .ok (.aload_n 0, 1) := by decide +kernel
theorem dX13_alones_13 : decode cX13_alones 13 = .ok (.getfield 17, 3) := by decide +kernel
theorem dX13_alones_16 : decode cX13_alones 16 = .ok (.bipush 8, 2) := by decide +kernel
theorem dX13_alones_18 : decode cX13_alones 18 = .ok (.iaload, 1) := by decide +kernel
theorem dX13_alones_19 : decode cX13_alones 19 = .ok (.iastore, 1) := by decide +kernel
theorem dX13_alones_20 : decode cX13_alones 20 = .ok (.aload_n 0, 1) := by decide +kernel
theorem dX13_alones_21 : decode cX13_alones 21 = .ok (.aload_n 0, 1) := by decide +kernel
theorem dX13_alones_22 : decode cX13_alones 22 = .ok (.getfield 33, 3) := by decide +kernel
theorem dX13_alones_25 : decode cX13_alones 25 = .ok (.iconst 0, 1) := by decide +kernel
theorem dX13_alones_26 : decode cX13_alones 26 = .ok (.iaload, 1) := by decide +kernel
theorem dX13_alones_27 : decode cX13_alones 27 = .ok (.putfield 348, 3) := by decide +kernel
theorem dX13_alones_30 : decode cX13_alones 30 = .ok (.aload_n 0, 1) := by decide +kernel
theorem dX13_alones_31 : decode cX13_alones 31 = .ok (.getfield 30, 3) := by decide +kernel
theorem dX13_alones_34 : decode cX13_alones 34 = .ok (.iconst 0, 1) := by decide +kernel
theorem dX13_alones_35 : decode cX13_alones 35 = .ok (.iconst (-1), 1) := by decide +kernel
theorem dX13_alones_36 : decode cX13_alones 36 = .ok (.iastore, 1) := by decide +kernel
theorem dX13_alones_37 : decode cX13_alones 37 = .ok (.iload 4, 2) := by decide +kernel
theorem dX13_alones_39 : decode cX13_alones 39 = .ok (.ifCond .lt 208, 3) := by decide +kernel
theorem dX13_alones_42 : decode cX13_alones 42 = .ok (.aload_n 0, 1) := by decide +kernel
theorem dX13_alones_43 : decode cX13_alones 43 = .ok (.getfield 30, 3) := by decide +kernel
theorem dX13_alones_46 : decode cX13_alones 46 = .ok (.iload 4, 2) := by decide +kernel
theorem dX13_alones_48 : decode cX13_alones 48 = .ok (.iaload, 1) := by decide +kernel
theorem dX13_alones_49 : decode cX13_alones 49 = .ok (.ifCond .lt 17, 3) := by decide +kernel
theorem dX13_alones_52 : decode cX13_alones 52 = .ok (.iload_n 3, 1) := by decide +kernel
theorem dX13_alones_53 : decode cX13_alones 53 = .ok (.iconst 1, 1) := by decide +kernel
theorem dX13_alones_54 : decode cX13_alones 54 = .ok (.aload_n 0, 1) := by decide +kernel
theorem dX13_alones_55 : decode cX13_alones 55 = .ok (.getfield 30, 3) := by decide +kernel
theorem dX13_alones_58 : decode cX13_alones 58 = .ok (.iload 4, 2) := by decide +kernel
theorem dX13_alones_60 : decode cX13_alones 60 = .ok (.iaload, 1) := by decide +kernel
theorem dX13_alones_61 : decode cX13_alones 61 = .ok (.ishl, 1) := by decide +kernel
theorem dX13_alones_62 : decode cX13_alones 62 = .ok (.iconst (-1), 1) := by decide +kernel
theorem dX13_alones_63 : decode cX13_alones 63 = .ok (.ixor, 1) := by decide +kernel
theorem dX13_alones_64 : decode cX13_alones 64 = .ok (.iand, 1) := by decide +kernel
theorem dX13_alones_65 : decode cX13_alones 65 = .ok (.istore_n 3, 1) := by decide +kernel
theorem dX13_alones_66 : decode cX13_alones 66 = .ok (.aload_n 0, 1) := by decide +kernel
theorem dX13_alones_67 : decode cX13_alones 67 = .ok (.getfield 30, 3) := by decide +kernel
theorem dX13_alones_70 : decode cX13_alones 70 = .ok (.iload 4, 2) := by decide +kernel
theorem dX13_alones_72 : decode cX13_alones 72 = .ok (.iaload, 1) := by decide +kernel
theorem dX13_alones_73 : decode cX13_alones 73 = .ok (.iconst 1, 1) := by decide +kernel
theorem dX13_alones_74 : decode cX13_alones 74 = .ok (.iadd, 1) := by decide +kernel
theorem dX13_alones_75 : decode cX13_alones 75 = .ok (.istore 5, 2) := by decide +kernel
theorem dX13_alones_77 : decode cX13_alones 77 = .ok (.iload 5, 2) := by decide +kernel
theorem dX13_alones_79 : decode cX13_alones 79 = .ok (.aload_n 0, 1) := by decide +kernel
theorem dX13_alones_80 : decode cX13_alones 80 = .ok (.getfield 289, 3) := by decide +kernel
theorem dX13_alones_83 : decode cX13_alones 83 = .ok (.getfield 185, 3) := by decide +kernel
theorem dX13_alones_86 : decode cX13_alones 86 = .ok (.if_icmp .ge 38, 3) := by decide +kernel
theorem dX13_alones_89 : decode cX13_alones 89 = .ok (.iload_n 3, 1) := by decide +kernel
theorem dX13_alones_90 : decode cX13_alones 90 = .ok (.iload 5, 2) := by decide +kernel
theorem dX13_alones_92 : decode cX13_alones 92 = .ok (.invokestatic 267, 3) := by decide +kernel
theorem dX13_alones_95 : decode cX13_alones 95 = .ok (.ifCond .ne 23, 3) := by decide +kernel
theorem dX13_alones_98 : decode cX13_alones 98 = .ok (.aload_n 0, 1) := by decide +kernel
theorem dX13_alones_99 : decode cX13_alones 99 = .ok (.iload_n 1, 1) := by decide +kernel
theorem dX13_alones_100 : decode cX13_alones 100 = .ok (.iload 5, 2) := by decide +kernel
theorem dX13_alones_102 : decode cX13_alones 102 = .ok (.aload_n 0, 1) := by decide +kernel
theorem dX13_alones_103 : decode cX13_alones 103 = .ok (.getfield 33, 3) := by decide +kernel
theorem dX13_alones_106 : decode cX13_alones 106 = .ok (.iload 4, 2) := by decide +kernel
theorem dX13_alones_108 : decode cX13_alones 108 = .ok (.iaload, 1) := by decide +kernel
theorem dX13_alones_109 : decode cX13_alones 109 = .ok (.invokevirtual 351, 3) := by decide +kernel
theorem dX13_alones_112 : decode cX13_alones 112 = .ok (.sipush 9999, 3) := by decide +kernel
theorem dX13_alones_115 : decode cX13_alones 115 = .ok (.if_icmp .ne 9, 3) := by decide +kernel
theorem dX13_alones_118 : decode cX13_alones 118 = .ok (.iinc 5 1, 3) := by decide +kernel
theorem dX13_alones_121 : decode cX13_alones 121 = .ok (.goto (-44), 3) := by decide +kernel
theorem dX13_alones_124 : decode cX13_alones 124 = .ok (.iload 5, 2) := by decide +kernel
theorem dX13_alones_126 : decode cX13_alones 126 = .ok (.aload_n 0, 1) := by decide +kernel
theorem dX13_alones_127 : decode cX13_alones 127 = .ok (.getfield 289, 3) := by decide +kernel
theorem dX13_alones_130 : decode cX13_alones 130 = .ok (.getfield 185, 3) := by decide +kernel
theorem dX13_alones_133 : decode cX13_alones 133 = .ok (.if_icmp .ne 9, 3) := by decide +kernel
theorem dX13_alones_136 : decode cX13_alones 136 = .ok (.iinc 4 (-1), 3) := by decide +kernel
theorem dX13_alones_139 : decode cX13_alones 139 = .ok (.goto (-102), 3) := by decide +kernel
theorem dX13_alones_142 : decode cX13_alones 142 = .ok (.aload_n 0, 1) := by decide +kernel
theorem dX13_alones_143 : decode cX13_alones 143 = .ok (.getfield 30, 3) := by decide +kernel
theorem dX13_alones_146 : decode cX13_alones 146 = .ok (.iload 4, 2) := by decide +kernel
theorem dX13_alones_148 : decode cX13_alones 148 = .ok (.iload 5, 2) := by decide +kernel
theorem dX13_alones_150 : decode cX13_alones 150 = .ok (.iastore, 1) := by decide +kernel
theorem dX13_alones_151 : decode cX13_alones 151 = .ok (.iload_n 3, 1) := by decide +kernel
theorem dX13_alones_152 : decode cX13_alones 152 = .ok (.iconst 1, 1) := by decide +kernel
theorem dX13_alones_153 : decode cX13_alones 153 = .ok (.iload 5, 2) := by decide +kernel
theorem dX13_alones_155 : decode cX13_alones 155 = .ok (.ishl, 1) := by decide +kernel
theorem dX13_alones_156 : decode cX13_alones 156 = .ok (.ior, 1) := by decide +kernel
theorem dX13_alones_157 : decode cX13_alones 157 = .ok (.istore_n 3, 1) := by decide +kernel
theorem dX13_alones_158 : decode cX13_alones 158 = .ok (.aload_n 0, 1) := by decide +kernel
theorem dX13_alones_159 : decode cX13_alones 159 = .ok (.getfield 33, 3) := by decide +kernel
theorem dX13_alones_162 : decode cX13_alones 162 = .ok (.iload 4, 2) := by decide +kernel
theorem dX13_alones_164 : decode cX13_alones 164 = .ok (.iconst 1, 1) := by decide +kernel
theorem dX13_alones_165 : decode cX13_alones 165 = .ok (.iadd, 1) := by decide +kernel
theorem dX13_alones_166 : decode cX13_alones 166 = .ok (.aload_n 0, 1) := by decide +kernel
theorem dX13_alones_167 : decode cX13_alones 167 = .ok (.iload_n 1, 1) := by decide +kernel
theorem dX13_alones_168 : decode cX13_alones 168 = .ok (.iload 5, 2) := by decide +kernel
theorem dX13_alones_170 : decode cX13_alones 170 = .ok (.aload_n 0, 1) := by decide +kernel
theorem dX13_alones_171 : decode cX13_alones 171 = .ok (.getfield 33, 3) := by decide +kernel
theorem dX13_alones_174 : decode cX13_alones 174 = .ok (.iload 4, 2) := by decide +kernel
theorem dX13_alones_176 : decode cX13_alones 176 = .ok (.iaload, 1) := by decide +kernel
theorem dX13_alones_177 : decode cX13_alones 177 = .ok (.invokevirtual 351, 3) := by decide +kernel
theorem dX13_alones_180 : decode cX13_alones 180 = .ok (.iastore, 1) := by decide +kernel
theorem dX13_alones_181 : decode cX13_alones 181 = .ok (.iload 4, 2) := by decide +kernel
theorem dX13_alones_183 : decode cX13_alones 183 = .ok (.iconst 1, 1) := by decide +kernel
theorem dX13_alones_184 : decode cX13_alones 184 = .ok (.iadd, 1) := by decide +kernel
theorem dX13_alones_185 : decode cX13_alones 185 = .ok (.iload_n 2, 1) := by decide +kernel
theorem dX13_alones_186 : decode cX13_alones 186 = .ok (.if_icmp .le 47, 3) := by decide +kernel
theorem dX13_alones_189 : decode cX13_alones 189 = .ok (.iload 4, 2) := by decide +kernel
theorem dX13_alones_191 : decode cX13_alones 191 = .ok (.iconst 1, 1) := by decide +kernel
theorem dX13_alones_192 : decode cX13_alones 192 = .ok (.iadd, 1) := by decide +kernel
theorem dX13_alones_193 : decode cX13_alones 193 = .ok (.istore_n 2, 1) := by decide +kernel
theorem dX13_alones_194 : decode cX13_alones 194 = .ok (.aload_n 0, 1) := by decide +kernel
theorem dX13_alones_195 : decode cX13_alones 195 = .ok (.aload_n 0, 1) := by decide +kernel
theorem dX13_alones_196 : decode cX13_alones 196 = .ok (.getfield 33, 3) := by decide +kernel
theorem dX13_alones_199 : decode cX13_alones 199 = .ok (.iload_n 2, 1) := by decide +kernel
theorem dX13_alones_200 : decode cX13_alones 200 = .ok (.iaload, 1) := by decide +kernel
theorem dX13_alones_201 : decode cX13_alones 201 = .ok (.putfield 348, 3) := by decide +kernel
theorem dX13_alones_204 : decode cX13_alones 204 = .ok (.iconst 0, 1) := by decide +kernel
theorem dX13_alones_205 : decode cX13_alones 205 = .ok (.istore 6, 2) := by decide +kernel
theorem dX13_alones_207 : decode cX13_alones 207 = .ok (.iload 6, 2) := by decide +kernel
theorem dX13_alones_209 : decode cX13_alones 209 = .ok (.iload_n 2, 1) := by decide +kernel
theorem dX13_alones_210 : decode cX13_alones 210 = .ok (.if_icmp .ge 23, 3) := by decide +kernel
theorem dX13_alones_213 : decode cX13_alones 213 = .ok (.aload_n 0, 1) := by decide +kernel
theorem dX13_alones_214 : decode cX13_alones 214 = .ok (.getfield 36, 3) := by decide +kernel
theorem dX13_alones_217 : decode cX13_alones 217 = .ok (.iload 6, 2) := by decide +kernel
theorem dX13_alones_219 : decode cX13_alones 219 = .ok (.aload_n 0, 1) := by decide +kernel
theorem dX13_alones_220 : decode cX13_alones 220 = .ok (.getfield 30, 3) := by decide +kernel
theorem dX13_alones_223 : decode cX13_alones 223 = .ok (.iload 6, 2) := by decide +kernel
theorem dX13_alones_225 : decode cX13_alones 225 = .ok (.iaload, 1) := by decide +kernel
theorem dX13_alones_226 : decode cX13_alones 226 = .ok (.iastore, 1) := by decide +kernel
theorem dX13_alones_227 : decode cX13_alones 227 = .ok (.iinc 6 1, 3) := by decide +kernel
theorem dX13_alones_230 : decode cX13_alones 230 = .ok (.goto (-23), 3) := by decide +kernel
theorem dX13_alones_233 : decode cX13_alones 233 = .ok (.iinc 4 1, 3) := by decide +kernel
theorem dX13_alones_236 : decode cX13_alones 236 = .ok (.aload_n 0, 1) := by decide +kernel
theorem dX13_alones_237 : decode cX13_alones 237 = .ok (.getfield 30, 3) := by decide +kernel
theorem dX13_alones_240 : decode cX13_alones 240 = .ok (.iload 4, 2) := by decide +kernel
theorem dX13_alones_242 : decode cX13_alones 242 = .ok (.iconst (-1), 1) := by decide +kernel
theorem dX13_alones_243 : decode cX13_alones 243 = .ok (.iastore, 1) := by decide +kernel
theorem dX13_alones_244 : decode cX13_alones 244 = .ok (.goto (-207), 3) := by decide +kernel
theorem dX13_alones_247 : decode cX13_alones 247 = .ok (.iload_n 2, 1) := by decide +kernel
theorem dX13_alones_248 : decode cX13_alones 248 = .ok (.ireturn, 1) := by decide +kernel
theorem dX13_alone_0 : decode cX13_alone 0 = .ok (.aload_n 0, 1) := by decide +kernel
theorem dX13_alone_1 : decode cX13_alone 1 = .ok (.iconst 0, 1) := by decide +kernel
theorem dX13_alone_2 : decode cX13_alone 2 = .ok (.putfield 48, 3) := by decide +kernel
theorem dX13_alone_5 : decode cX13_alone 5 = .ok (.aload_n 0, 1) := by decide +kernel
theorem dX13_alone_6 : decode cX13_alone 6 = .ok (.iload_n 1, 1) := by decide +kernel
theorem dX13_alone_7 : decode cX13_alone 7 = .ok (.invokevirtual 336, 3) := by decide +kernel
theorem dX13_alone_10 : decode cX13_alone 10 = .ok (.ifCond .ne 9, 3) := by decide +kernel
theorem dX13_alone_13 : decode cX13_alone 13 = .ok (.aload_n 0, 1) := by decide +kernel
theorem dX13_alone_14 : decode cX13_alone 14 = .ok (.iconst 1, 1) := by decide +kernel
theorem dX13_alone_15 : decode cX13_alone 15 = .ok (.invokevirtual 54, 3) := by decide +kernel
theorem dX13_alone_18 : decode cX13_alone 18 = .ok (.ireturn, 1) := by decide +kernel
theorem dX13_alone_19 : decode cX13_alone 19 = .ok (.aload_n 0, 1) := by decide +kernel
theorem dX13_alone_20 : decode cX13_alone 20 = .ok (.invokevirtual 324, 3) := by decide +kernel
theorem dX13_alone_23 : decode cX13_alone 23 = .ok (.aload_n 0, 1) := by decide +kernel
theorem dX13_alone_24 : decode cX13_alone 24 = .ok (.aload_n 0, 1) := by decide +kernel
theorem dX13_alone_25 : decode cX13_alone 25 = .ok (.iload_n 1, 1) := by decide +kernel
theorem dX13_alone_26 : decode cX13_alone 26 = .ok (.invokevirtual 355, 3) := by decide +kernel
theorem dX13_alone_29 : decode cX13_alone 29 = .ok (.invokevirtual 58, 3) := by decide +kernel
theorem dX13_alone_32 : decode cX13_alone 32 = .ok (.ireturn, 1) := by decide +kernel
theorem dX13_aloneAt_0 : decode cX13_aloneAt 0 = .ok (.aload_n 0, 1) := by decide +kernel
theorem dX13_aloneAt_1 : decode cX13_aloneAt 1 = .ok (.iconst 0, 1) := by decide +kernel
theorem dX13_aloneAt_2 : decode cX13_aloneAt 2 = .ok (.putfield 48, 3) := by decide +kernel
theorem dX13_aloneAt_5 : decode cX13_aloneAt 5 = .ok (.aload_n 0, 1) := by decide +kernel
theorem dX13_aloneAt_6 : decode cX13_aloneAt 6 = .ok (.iload_n 1, 1) := by decide +kernel
theorem dX13_aloneAt_7 : decode cX13_aloneAt 7 = .ok (.invokevirtual 336, 3) := by decide +kernel
theorem dX13_aloneAt_10 : decode cX13_aloneAt 10 = .ok (.ifCond .ne 9, 3) := by decide +kernel
theorem dX13_aloneAt_13 : decode cX13_aloneAt 13 = .ok (.aload_n 0, 1) := by decide +kernel
theorem dX13_aloneAt_14 : decode cX13_aloneAt 14 = .ok (.iconst 1, 1) := by decide +kernel
theorem dX13_aloneAt_15 : decode cX13_aloneAt 15 = .ok (.invokevirtual 54, 3) := by decide +kernel
theorem dX13_aloneAt_18 : decode cX13_aloneAt 18 = .ok (.ireturn, 1) := by decide +kernel
theorem dX13_aloneAt_19 : decode cX13_aloneAt 19 = .ok (.aload_n 0, 1) := by decide +kernel
theorem dX13_aloneAt_20 : decode cX13_aloneAt 20 = .ok (.invokevirtual 324, 3) := by decide +kernel
theorem dX13_aloneAt_23 : decode cX13_aloneAt 23 = .ok (.iload_n 2, 1) := by decide +kernel
theorem dX13_aloneAt_24 : decode cX13_aloneAt 24 = .ok (.iconst 0, 1) := by decide +kernel
theorem dX13_aloneAt_25 : decode cX13_aloneAt 25 = .ok (.aload_n 0, 1) := by decide +kernel
theorem dX13_aloneAt_26 : decode cX13_aloneAt 26 = .ok (.iload_n 1, 1) := by decide +kernel
theorem dX13_aloneAt_27 : decode cX13_aloneAt 27 = .ok (.invokevirtual 355, 3) := by decide +kernel
theorem dX13_aloneAt_30 : decode cX13_aloneAt 30 = .ok (.iconst 1, 1) := by decide +kernel
theorem dX13_aloneAt_31 : decode cX13_aloneAt 31 = .ok (.isub, 1) := by decide +kernel
theorem dX13_aloneAt_32 : decode cX13_aloneAt 32 = .ok (.invokestatic 131, 3) := by decide +kernel
theorem dX13_aloneAt_35 : decode cX13_aloneAt 35 = .ok (.ifCond .eq 16, 3) := by decide +kernel
theorem dX13_aloneAt_38 : decode cX13_aloneAt 38 = .ok (.aload_n 0, 1) := by decide +kernel
theorem dX13_aloneAt_39 : decode cX13_aloneAt 39 = .ok (.aload_n 0, 1) := by decide +kernel
theorem dX13_aloneAt_40 : decode cX13_aloneAt 40 = .ok (.getfield 36, 3) := by decide +kernel
theorem dX13_aloneAt_43 : decode cX13_aloneAt 43 = .ok (.iload_n 2, 1) := by decide +kernel
theorem dX13_aloneAt_44 : decode cX13_aloneAt 44 = .ok (.iaload, 1) := by decide +kernel
theorem dX13_aloneAt_45 : decode cX13_aloneAt 45 = .ok (.invokevirtual 58, 3) := by decide +kernel
theorem dX13_aloneAt_48 : decode cX13_aloneAt 48 = .ok (.goto 8, 3) := by decide +kernel
theorem dX13_aloneAt_51 : decode cX13_aloneAt 51 = .ok (.aload_n 0, 1) := by decide +kernel
theorem dX13_aloneAt_52 : decode cX13_aloneAt 52 = .ok (.iconst 1, 1) := by decide +kernel
theorem dX13_aloneAt_53 : decode cX13_aloneAt 53 = .ok (.invokevirtual 54, 3) := by decide +kernel
theorem dX13_aloneAt_56 : decode cX13_aloneAt 56 = .ok (.ireturn, 1) := by decide +kernel
theorem dX13_aloneFree_0 : decode cX13_aloneFree 0 = .ok (.aload_n 0, 1) := by decide +kernel
theorem dX13_aloneFree_1 : decode cX13_aloneFree 1 = .ok (.iconst 0, 1) := by decide +kernel
theorem dX13_aloneFree_2 : decode cX13_aloneFree 2 = .ok (.putfield 48, 3) := by decide +kernel
theorem dX13_aloneFree_5 : decode cX13_aloneFree 5 = .ok (.aload_n 0, 1) := by decide +kernel
theorem dX13_aloneFree_6 : decode cX13_aloneFree 6 = .ok (.iload_n 1, 1) := by decide +kernel
theorem dX13_aloneFree_7 : decode cX13_aloneFree 7 = .ok (.invokevirtual 336, 3) := by decide +kernel
theorem dX13_aloneFree_10 : decode cX13_aloneFree 10 = .ok (.ifCond .ne 9, 3) := by decide +kernel
theorem dX13_aloneFree_13 : decode cX13_aloneFree 13 = .ok (.aload_n 0, 1) := by decide +kernel
theorem dX13_aloneFree_14 : decode cX13_aloneFree 14 = .ok (.iconst 1, 1) := by decide +kernel
theorem dX13_aloneFree_15 : decode cX13_aloneFree 15 = .ok (.invokevirtual 54, 3) := by decide +kernel
theorem dX13_aloneFree_18 : decode cX13_aloneFree 18 = .ok (.ireturn, 1) := by decide +kernel
theorem dX13_aloneFree_19 : decode cX13_aloneFree 19 = .ok (.aload_n 0, 1) := by decide +kernel
theorem dX13_aloneFree_20 : decode cX13_aloneFree 20 = .ok (.invokevirtual 324, 3) := by decide +kernel
theorem dX13_aloneFree_23 : decode cX13_aloneFree 23 = .ok (.aload_n 0, 1) := by decide +kernel
theorem dX13_aloneFree_24 : decode cX13_aloneFree 24 = .ok (.iload_n 1, 1) := by decide +kernel
theorem dX13_aloneFree_25 : decode cX13_aloneFree 25 = .ok (.invokevirtual 355, 3) := by decide +kernel
theorem dX13_aloneFree_28 : decode cX13_aloneFree 28 = .ok (.pop, 1) := by decide +kernel
theorem dX13_aloneFree_29 : decode cX13_aloneFree 29 = .ok (.aload_n 0, 1) := by decide +kernel
theorem dX13_aloneFree_30 : decode cX13_aloneFree 30 = .ok (.aload_n 0, 1) := by decide +kernel
theorem dX13_aloneFree_31 : decode cX13_aloneFree 31 = .ok (.getfield 348, 3) := by decide +kernel
theorem dX13_aloneFree_34 : decode cX13_aloneFree 34 = .ok (.invokevirtual 58, 3) := by decide +kernel
theorem dX13_aloneFree_37 : decode cX13_aloneFree 37 = .ok (.ireturn, 1) := by decide +kernel
theorem dX13_bestAlone_0 : decode cX13_bestAlone 0 = .ok (.aload_n 0, 1) := by decide +kernel
theorem dX13_bestAlone_1 : decode cX13_bestAlone 1 = .ok (.iconst 0, 1) := by decide +kernel
theorem dX13_bestAlone_2 : decode cX13_bestAlone 2 = .ok (.putfield 48, 3) := by decide +kernel
theorem dX13_bestAlone_5 : decode cX13_bestAlone 5 = .ok (.aload_n 0, 1) := by decide +kernel
theorem dX13_bestAlone_6 : decode cX13_bestAlone 6 = .ok (.getfield 289, 3) := by decide +kernel
theorem dX13_bestAlone_9 : decode cX13_bestAlone 9 = .ok (.ifnonnull 9, 3) := by decide +kernel
theorem dX13_bestAlone_12 : decode cX13_bestAlone 12 = .ok (.aload_n 0, 1) := by decide +kernel
theorem dX13_bestAlone_13 : decode cX13_bestAlone 13 = .ok (.iconst 1, 1) := by decide +kernel
theorem dX13_bestAlone_14 : decode cX13_bestAlone 14 = .ok (.invokevirtual 54, 3) := by decide +kernel
theorem dX13_bestAlone_17 : decode cX13_bestAlone 17 = .ok (.ireturn, 1) := by decide +kernel
theorem dX13_bestAlone_18 : decode cX13_bestAlone 18 = .ok (.aload_n 0, 1) := by decide +kernel
theorem dX13_bestAlone_19 : decode cX13_bestAlone 19 = .ok (.invokevirtual 324, 3) := by decide +kernel
theorem dX13_bestAlone_22 : decode cX13_bestAlone 22 = .ok (.bipush (-2), 2) := by decide +kernel
theorem dX13_bestAlone_24 : decode cX13_bestAlone 24 = .ok (.istore_n 1, 1) := by decide +kernel
theorem dX13_bestAlone_25 : decode cX13_bestAlone 25 = .ok (.iconst (-1), 1) := by decide +kernel
theorem dX13_bestAlone_26 : decode cX13_bestAlone 26 = .ok (.istore_n 2, 1) := by decide +kernel
theorem dX13_bestAlone_27 : decode cX13_bestAlone 27 = .ok (.iconst 0, 1) := by decide +kernel
theorem dX13_bestAlone_28 : decode cX13_bestAlone 28 = .ok (.istore_n 3, 1) := by decide +kernel
theorem dX13_bestAlone_29 : decode cX13_bestAlone 29 = .ok (.iload_n 3, 1) := by decide +kernel
theorem dX13_bestAlone_30 : decode cX13_bestAlone 30 = .ok (.aload_n 0, 1) := by decide +kernel
theorem dX13_bestAlone_31 : decode cX13_bestAlone 31 = .ok (.getfield 289, 3) := by decide +kernel
theorem dX13_bestAlone_34 : decode cX13_bestAlone 34 = .ok (.getfield 253, 3) := by decide +kernel
theorem dX13_bestAlone_37 : decode cX13_bestAlone 37 = .ok (.if_icmp .ge 30, 3) := by decide +kernel
theorem dX13_bestAlone_40 : decode cX13_bestAlone 40 = .ok (.aload_n 0, 1) := by decide +kernel
theorem dX13_bestAlone_41 : decode cX13_bestAlone 41 = .ok (.iload_n 3, 1) := by decide +kernel
theorem dX13_bestAlone_42 : decode cX13_bestAlone 42 = .ok (.invokevirtual 355, 3) := by decide +kernel
theorem dX13_bestAlone_45 : decode cX13_bestAlone 45 = .ok (.istore 4, 2) := by decide +kernel
theorem dX13_bestAlone_47 : decode cX13_bestAlone 47 = .ok (.iload 4, 2) := by decide +kernel
theorem dX13_bestAlone_49 : decode cX13_bestAlone 49 = .ok (.iload_n 2, 1) := by decide +kernel
theorem dX13_bestAlone_50 : decode cX13_bestAlone 50 = .ok (.if_icmp .gt 6, 3) := by decide +kernel
theorem dX13_bestAlone_53 : decode cX13_bestAlone 53 = .ok (.goto 8, 3) := by decide +kernel
theorem dX13_bestAlone_56 : decode cX13_bestAlone 56 = .ok (.iload 4, 2) := by decide +kernel
theorem dX13_bestAlone_58 : decode cX13_bestAlone 58 = .ok (.istore_n 2, 1) := by decide +kernel
theorem dX13_bestAlone_59 : decode cX13_bestAlone 59 = .ok (.iload_n 3, 1) := by decide +kernel
theorem dX13_bestAlone_60 : decode cX13_bestAlone 60 = .ok (.istore_n 1, 1) := by decide +kernel
theorem dX13_bestAlone_61 : decode cX13_bestAlone 61 = .ok (.iinc 3 1, 3) := by decide +kernel
theorem dX13_bestAlone_64 : decode cX13_bestAlone 64 = .ok (.goto (-35), 3) := by decide +kernel
theorem dX13_bestAlone_67 : decode cX13_bestAlone 67 = .ok (.aload_n 0, 1) := by decide +kernel
theorem dX13_bestAlone_68 : decode cX13_bestAlone 68 = .ok (.iload_n 1, 1) := by decide +kernel
theorem dX13_bestAlone_69 : decode cX13_bestAlone 69 = .ok (.invokevirtual 58, 3) := by decide +kernel
theorem dX13_bestAlone_72 : decode cX13_bestAlone 72 = .ok (.ireturn, 1) := by decide +kernel
theorem dX13_swaps_0 : decode cX13_swaps 0 = .ok (.aload_n 0, 1) := by decide +kernel
theorem dX13_swaps_1 : decode cX13_swaps 1 = .ok (.getfield 39, 3) := by decide +kernel
theorem dX13_swaps_4 : decode cX13_swaps 4 = .ok (.iload_n 1, 1) := by decide +kernel
theorem dX13_swaps_5 : decode cX13_swaps 5 = .ok (.iaload, 1) := by decide +kernel
theorem dX13_swaps_6 : decode cX13_swaps 6 = .ok (.istore_n 3, 1) := by decide +kernel
theorem dX13_swaps_7 : decode cX13_swaps 7 = .ok (.aload_n 0, 1) := by decide +kernel
theorem dX13_swaps_8 : decode cX13_swaps 8 = .ok (.getfield 39, 3) := by decide +kernel
theorem dX13_swaps_11 : decode cX13_swaps 11 = .ok (.iload_n 1, 1) := by decide +kernel
theorem dX13_swaps_12 : decode cX13_swaps 12 = .ok (.aload_n 0, 1) := by decide +kernel
theorem dX13_swaps_13 : decode cX13_swaps 13 = .ok (.getfield 39, 3) := by decide +kernel
theorem dX13_swaps_16 : decode cX13_swaps 16 = .ok (.iload_n 2, 1) := by decide +kernel
theorem dX13_swaps_17 : decode cX13_swaps 17 = .ok (.iaload, 1) := by decide +kernel
theorem dX13_swaps_18 : decode cX13_swaps 18 = .ok (.iastore, 1) := by decide +kernel
theorem dX13_swaps_19 : decode cX13_swaps 19 = .ok (.aload_n 0, 1) := by decide +kernel
theorem dX13_swaps_20 : decode cX13_swaps 20 = .ok (.getfield 39, 3) := by decide +kernel
theorem dX13_swaps_23 : decode cX13_swaps 23 = .ok (.iload_n 2, 1) := by decide +kernel
theorem dX13_swaps_24 : decode cX13_swaps 24 = .ok (.iload_n 3, 1) := by decide +kernel
theorem dX13_swaps_25 : decode cX13_swaps 25 = .ok (.iastore, 1) := by decide +kernel
theorem dX13_swaps_26 : decode cX13_swaps 26 = .ok (.return_, 1) := by decide +kernel
def m_X13_alones (t : Nat) (x0p : Int32) (σ : jd_Hp) : Option (Int32 × jd_Hp) :=
jd_ia σ 20 (σ.2.2.2 t 15) 8 fun a1 j1 =>
jd_ia σ 20 (σ.2.2.2 t 22) 0 fun a2 j2 =>
jd_li (jd_pi σ a2 j2 (σ.2.1 a1 j1)) fun τ3 =>
jd_ia τ3 20 (τ3.2.2.2 t 22) 0 fun a4 j4 =>
jd_li (jd_pi τ3 t 24 (τ3.2.1 a4 j4)) fun τ5 =>
jd_ia τ5 20 (τ5.2.2.2 t 21) 0 fun a6 j6 =>
jd_li (jd_pi τ5 a6 j6 (-1)) fun τ7 =>
jd_b (jd_lp (S := Int32 × Int32 × Int32) (T := Int32) (fun s8 σ8 =>
jd_if (s8.2.2 < 0) (
some ((Sum.inr s8.1), σ8)) (
jd_o σ8 (13, 29) (some t) fun a10 =>
jd_ia σ8 20 (σ8.2.2.2 a10 21) s8.2.2 fun a11 j11 =>
jd_b (α := Int32) (
jd_if ((σ8.2.1 a11 j11) < 0) (
some (s8.2.1, σ8)) (
jd_ia σ8 20 (σ8.2.2.2 a10 21) s8.2.2 fun a15 j15 =>
jd_li (s8.2.1 &&& ((1 <<< ((σ8.2.1 a15 j15) &&& 31)) ^^^ (-1))) fun x16 =>
some (x16, σ8))) fun t14 σ14 =>
jd_o σ14 (13, 29) (some t) fun a17 =>
jd_ia σ14 20 (σ14.2.2.2 a17 21) s8.2.2 fun a18 j18 =>
jd_li ((σ14.2.1 a18 j18) + 1) fun x19 =>
jd_b (jd_lp (S := Int32) (T := Int32) (fun s20 σ20 =>
jd_o σ20 (13, 29) (some t) fun a22 =>
jd_o σ20 (12, 20) (σ20.2.2.2 a22 3) fun a23 =>
jd_if ((σ20.2.1 a23 3) ≤ s20) (
some ((Sum.inr s20), σ20)) (
jd_b (m_X13_bit t14 s20 σ20) fun r24 σ24 =>
jd_if (¬ r24 = 0) (
some (Sum.inl (s20 + 1), σ24)) (
jd_ia σ24 20 (σ24.2.2.2 a22 22) s8.2.2 fun a25 j25 =>
jd_b (m_X13_freeBehind a22 x0p s20 (σ24.2.1 a25 j25) σ24) fun r26 σ26 =>
jd_if (¬ r26 = 9999) (
some ((Sum.inr s20), σ26)) (
some (Sum.inl (s20 + 1), σ26))))) jd_fu x19 σ14) fun t21 σ21 =>
jd_o σ21 (13, 29) (some t) fun a27 =>
jd_o σ21 (12, 20) (σ21.2.2.2 a27 3) fun a28 =>
jd_if (¬ t21 = (σ21.2.1 a28 3)) (
jd_ia σ21 20 (σ21.2.2.2 a27 21) s8.2.2 fun a29 j29 =>
jd_li (jd_pi σ21 a29 j29 t21) fun τ30 =>
jd_li (t14 ||| (1 <<< (t21 &&& 31))) fun x31 =>
jd_ia τ30 20 (τ30.2.2.2 a27 22) s8.2.2 fun a32 j32 =>
jd_b (m_X13_freeBehind a27 x0p t21 (τ30.2.1 a32 j32) τ30) fun r33 σ33 =>
jd_ia σ33 20 (τ30.2.2.2 a27 22) (s8.2.2 + 1) fun a34 j34 =>
jd_li (jd_pi σ33 a34 j34 r33) fun τ35 =>
jd_b (α := Int32) (
jd_if ((s8.2.2 + 1) ≤ s8.1) (
some (s8.1, τ35)) (
jd_li (s8.2.2 + 1) fun x46 =>
jd_ia τ35 20 (τ35.2.2.2 a27 22) x46 fun a47 j47 =>
jd_li (jd_pi τ35 a27 24 (τ35.2.1 a47 j47)) fun τ48 =>
jd_b (jd_lp (S := Int32) (T := Unit) (fun s49 σ49 =>
jd_if (x46 ≤ s49) (
some ((Sum.inr ()), σ49)) (
jd_o σ49 (13, 29) (some t) fun a51 =>
jd_ia σ49 20 (σ49.2.2.2 a51 21) s49 fun a52 j52 =>
jd_ia σ49 20 (σ49.2.2.2 a51 23) s49 fun a53 j53 =>
jd_li (jd_pi σ49 a53 j53 (σ49.2.1 a52 j52)) fun τ54 =>
some (Sum.inl (s49 + 1), τ54))) jd_fu 0 τ48) fun t50 σ50 =>
some (x46, σ50))) fun t45 σ45 =>
jd_o σ45 (13, 29) (some t) fun a55 =>
jd_ia σ45 20 (σ45.2.2.2 a55 21) (s8.2.2 + 1) fun a56 j56 =>
jd_li (jd_pi σ45 a56 j56 (-1)) fun τ57 =>
some (Sum.inl (t45, x31, (s8.2.2 + 1)), τ57)) (
some (Sum.inl (s8.1, t14, (s8.2.2 + (-1))), σ21)))) jd_fu (0, 0, 0) τ7) fun t9 σ9 =>
some (t9, σ9)
set_option maxHeartbeats 4000000 in
set_option maxRecDepth 20000 in
theorem c_X13_alones {l : Launch} {s0 : State} {G : jd_G} (hF : jd_F s0 G) (σ : jd_Hp) (t : Nat) (ht : σ.1[t]? = some (13, 29)) (x0p : Int32) : jd_M l s0 G yX13_alones cX13_alones 7 (some .int) 4 je_i [jd_v G (some t), .int x0p] σ (m_X13_alones t x0p σ) := by
  refine jd_enter hF (by decide) (fun G => [some (jd_v G (some t)), some (.int x0p), none, none, none, none, none]) rfl (by simp [lv_args, jd_al, jd_v_cat, jd_cti, jd_ctl]) (by simp [lg_sl, jd_v_cat, jd_cti, jd_ctl]) (fun X hD hX => ?_)
  have hX : jd_C X RX13 "alones" cX13_alones 7 (some .int) := hX
  unfold m_X13_alones
  refine jr_iconst (pc := 0) hX 0 rfl dX13_alones_0 ?_
  refine jr_ist2 (pc := 1) hX (jn_i _) dX13_alones_1 ?_
  refine jr_iconst (pc := 2) hX 0 rfl dX13_alones_2 ?_
  refine jr_ist3 (pc := 3) hX (jn_i _) dX13_alones_3 ?_
  refine jr_iconst (pc := 4) hX 0 rfl dX13_alones_4 ?_
  refine jr_ist4 (pc := 5) hX (jn_i _) dX13_alones_5 ?_
  refine jr_ald0 (pc := 7) hX dX13_alones_7 ?_
  refine jr_getr (pc := 8) hX fX13_33 rfl dX13_alones_8 ht ?_
  refine jr_iconst (pc := 11) hX 0 rfl dX13_alones_11 ?_
  refine jr_ald0 (pc := 12) hX dX13_alones_12 ?_
  refine jr_getr (pc := 13) hX fX13_17 rfl dX13_alones_13 ht ?_
  refine jr_bipush (pc := 16) hX 8 rfl dX13_alones_16 ?_
  refine jr_iaC (pc := 18) hX dX13_alones_18 (fun a1 n1 e1 h1 => ?_)
  refine jr_iaS (pc := 19) hX dX13_alones_19 (fun a2 n2 e2 h2 => ?_)
  refine jr_li ?_
  refine jr_ald0 (pc := 20) hX dX13_alones_20 ?_
  refine jr_ald0 (pc := 21) hX dX13_alones_21 ?_
  refine jr_getr (pc := 22) hX fX13_33 rfl dX13_alones_22 ht ?_
  refine jr_iconst (pc := 25) hX 0 rfl dX13_alones_25 ?_
  refine jr_iaC (pc := 26) hX dX13_alones_26 (fun a4 n4 e4 h4 => ?_)
  refine jr_puti (pc := 27) hX fX13_348 rfl dX13_alones_27 ht ?_
  refine jr_li ?_
  refine jr_ald0 (pc := 30) hX dX13_alones_30 ?_
  refine jr_getr (pc := 31) hX fX13_30 rfl dX13_alones_31 ht ?_
  refine jr_iconst (pc := 34) hX 0 rfl dX13_alones_34 ?_
  refine jr_iconst (pc := 35) hX (-1) rfl dX13_alones_35 ?_
  refine jr_iaS (pc := 36) hX dX13_alones_36 (fun a6 n6 e6 h6 => ?_)
  refine jr_li ?_
  refine jr_loop (pc := 37) (fun (s8 : Int32 × Int32 × Int32) => [some (jd_v (jd_gG X) (some t)), some (.int x0p), some (.int s8.1), some (.int s8.2.1), some (.int s8.2.2), none, none]) (fun (t9 : Int32) => [none, none, some (.int t9), none, none, none, none]) 247 (0, 0, 0) (fun t9 σ9 => ?_) (fun K8 bk8 ex8 s8 σ8 => ?_)
  · refine jr_ild2 (pc := 247) hX dX13_alones_247 ?_
    exact jr_iret (pc := 248) hX dX13_alones_248 rfl
  · refine jr_ild4 (pc := 37) hX dX13_alones_37 ?_
    refine jr_iflt (pc := 39) hX 247 dX13_alones_39 (by decide) ?_ ?_
    · refine jr_wk [false, false, true, false, false, true, true] ?_
      exact ex8 s8.1 _
    · refine jr_ald0 (pc := 42) hX dX13_alones_42 ?_
      refine jr_ck0 (fun a10 e10 h10 => ?_)
      refine jr_getr (pc := 43) hX fX13_30 rfl dX13_alones_43 h10 ?_
      refine jr_ild4 (pc := 46) hX dX13_alones_46 ?_
      refine jr_iaC (pc := 48) hX dX13_alones_48 (fun a11 n11 e11 h11 => ?_)
      refine jr_join (pc := 49) 66 (fun (t14 : Int32) => [some (jd_v (jd_gG X) (some t)), some (.int x0p), some (.int s8.1), some (.int t14), some (.int s8.2.2), none, none]) (fun (t14 : Int32) => []) (fun t14 σ14 => ?_) (fun K14 jj14 => ?_)
      · refine jr_ald0 (pc := 66) hX dX13_alones_66 ?_
        refine jr_ck0 (fun a17 e17 h17 => ?_)
        refine jr_getr (pc := 67) hX fX13_30 rfl dX13_alones_67 h17 ?_
        refine jr_ild4 (pc := 70) hX dX13_alones_70 ?_
        refine jr_iaC (pc := 72) hX dX13_alones_72 (fun a18 n18 e18 h18 => ?_)
        refine jr_iconst (pc := 73) hX 1 rfl dX13_alones_73 ?_
        refine jr_iadd (pc := 74) hX dX13_alones_74 ?_
        refine jr_ist5 (pc := 75) hX (jn_i _) dX13_alones_75 ?_
        refine jr_li ?_
        refine jr_loop (pc := 77) (fun (s20 : Int32) => [some (jd_v (jd_gG X) (some t)), some (.int x0p), some (.int s8.1), some (.int t14), some (.int s8.2.2), some (.int s20), none]) (fun (t21 : Int32) => [some (jd_v (jd_gG X) (some t)), some (.int x0p), some (.int s8.1), some (.int t14), some (.int s8.2.2), some (.int t21), none]) 124 ((σ14.2.1 a18 s8.2.2.toNatClampNeg) + 1) (fun t21 σ21 => ?_) (fun K20 bk20 ex20 s20 σ20 => ?_)
        · refine jr_ild5 (pc := 124) hX dX13_alones_124 ?_
          refine jr_ald0 (pc := 126) hX dX13_alones_126 ?_
          refine jr_ck0 (fun a27 e27 h27 => ?_)
          refine jr_getr (pc := 127) hX fX13_289 rfl dX13_alones_127 h27 ?_
          refine jr_ck0 (fun a28 e28 h28 => ?_)
          refine jr_getiN (pc := 130) hX fX13_185 rfl dX13_alones_130 h28 ?_
          refine jr_icne (pc := 133) hX 142 dX13_alones_133 (by decide) ?_ ?_
          · refine jr_ald0 (pc := 142) hX dX13_alones_142 ?_
            refine jr_ek0 e27 ?_
            refine jr_getr (pc := 143) hX fX13_30 rfl dX13_alones_143 h27 ?_
            refine jr_ild4 (pc := 146) hX dX13_alones_146 ?_
            refine jr_ild5 (pc := 148) hX dX13_alones_148 ?_
            refine jr_iaS (pc := 150) hX dX13_alones_150 (fun a29 n29 e29 h29 => ?_)
            refine jr_li ?_
            refine jr_ild3 (pc := 151) hX dX13_alones_151 ?_
            refine jr_iconst (pc := 152) hX 1 rfl dX13_alones_152 ?_
            refine jr_ild5 (pc := 153) hX dX13_alones_153 ?_
            refine jr_ishl (pc := 155) hX dX13_alones_155 ?_
            refine jr_ior (pc := 156) hX dX13_alones_156 ?_
            refine jr_ist3 (pc := 157) hX (jn_i _) dX13_alones_157 ?_
            refine jr_li ?_
            refine jr_ald0 (pc := 158) hX dX13_alones_158 ?_
            refine jr_ek0 e27 ?_
            refine jr_getr (pc := 159) hX fX13_33 rfl dX13_alones_159 h27 ?_
            refine jr_ild4 (pc := 162) hX dX13_alones_162 ?_
            refine jr_iconst (pc := 164) hX 1 rfl dX13_alones_164 ?_
            refine jr_iadd (pc := 165) hX dX13_alones_165 ?_
            refine jr_ald0 (pc := 166) hX dX13_alones_166 ?_
            refine jr_ild1 (pc := 167) hX dX13_alones_167 ?_
            refine jr_ild5 (pc := 168) hX dX13_alones_168 ?_
            refine jr_ald0 (pc := 170) hX dX13_alones_170 ?_
            refine jr_ek0 e27 ?_
            refine jr_getr (pc := 171) hX fX13_33 rfl dX13_alones_171 h27 ?_
            refine jr_ild4 (pc := 174) hX dX13_alones_174 ?_
            refine jr_iaC (pc := 176) hX dX13_alones_176 (fun a32 n32 e32 h32 => ?_)
            refine jr_ek3 e27 ?_
            refine jr_cV3i (pc := 177) hX lX13_351 (c_X13_freeBehind hX.F (jd_pi σ21 a29 s8.2.2.toNatClampNeg t21) a27 h27 _ _ _) (jd_dd hD rfl) (by simp [jd_v_cat, jd_cti, jd_ctl]) dX13_alones_177 h27 (fun r33 σ33 p33 => ?_)
            refine jr_iaS (pc := 180) hX dX13_alones_180 (fun a34 n34 e34 h34 => ?_)
            refine jr_li ?_
            refine jr_ild4 (pc := 181) hX dX13_alones_181 ?_
            refine jr_iconst (pc := 183) hX 1 rfl dX13_alones_183 ?_
            refine jr_iadd (pc := 184) hX dX13_alones_184 ?_
            refine jr_ild2 (pc := 185) hX dX13_alones_185 ?_
            refine jr_join (pc := 186) 233 (fun (t45 : Int32) => [some (jd_v (jd_gG X) (some t)), some (.int x0p), some (.int t45), some (.int (t14 ||| (1 <<< (t21 &&& 31)))), some (.int s8.2.2), none, none]) (fun (t45 : Int32) => []) (fun t45 σ45 => ?_) (fun K45 jj45 => ?_)
            · refine jr_inc4 (pc := 233) hX 1 rfl (jn_i _) dX13_alones_233 ?_
              refine jr_ald0 (pc := 236) hX dX13_alones_236 ?_
              refine jr_ck0 (fun a55 e55 h55 => ?_)
              refine jr_getr (pc := 237) hX fX13_30 rfl dX13_alones_237 h55 ?_
              refine jr_ild4 (pc := 240) hX dX13_alones_240 ?_
              refine jr_iconst (pc := 242) hX (-1) rfl dX13_alones_242 ?_
              refine jr_iaS (pc := 243) hX dX13_alones_243 (fun a56 n56 e56 h56 => ?_)
              refine jr_li ?_
              refine jr_goto (pc := 244) hX 37 dX13_alones_244 (by decide) ?_
              exact bk8 (t45, (t14 ||| (1 <<< (t21 &&& 31))), (s8.2.2 + 1)) _
            · refine jr_icle (pc := 186) hX 233 dX13_alones_186 (by decide) ?_ ?_
              · refine jr_wk [true, true, true, true, true, false, true] ?_
                exact jj45 s8.1 _
              · refine jr_ild4 (pc := 189) hX dX13_alones_189 ?_
                refine jr_iconst (pc := 191) hX 1 rfl dX13_alones_191 ?_
                refine jr_iadd (pc := 192) hX dX13_alones_192 ?_
                refine jr_ist2 (pc := 193) hX (jn_i _) dX13_alones_193 ?_
                refine jr_li ?_
                refine jr_ald0 (pc := 194) hX dX13_alones_194 ?_
                refine jr_ald0 (pc := 195) hX dX13_alones_195 ?_
                refine jr_ek0 e27 ?_
                refine jr_getr (pc := 196) hX fX13_33 rfl dX13_alones_196 (p33.at h27 :) ?_
                refine jr_ild2 (pc := 199) hX dX13_alones_199 ?_
                refine jr_iaC (pc := 200) hX dX13_alones_200 (fun a47 n47 e47 h47 => ?_)
                refine jr_ek1 e27 ?_
                refine jr_puti (pc := 201) hX fX13_348 rfl dX13_alones_201 (p33.at h27 :) ?_
                refine jr_li ?_
                refine jr_iconst (pc := 204) hX 0 rfl dX13_alones_204 ?_
                refine jr_ist6 (pc := 205) hX (jn_i _) dX13_alones_205 ?_
                refine jr_wk [true, true, true, true, true, false, true] ?_
                refine jr_loop (pc := 207) (fun (s49 : Int32) => [some (jd_v (jd_gG X) (some t)), some (.int x0p), some (.int (s8.2.2 + 1)), some (.int (t14 ||| (1 <<< (t21 &&& 31)))), some (.int s8.2.2), none, some (.int s49)]) (fun (t50 : Unit) => [some (jd_v (jd_gG X) (some t)), some (.int x0p), some (.int (s8.2.2 + 1)), some (.int (t14 ||| (1 <<< (t21 &&& 31)))), some (.int s8.2.2), none, none]) 233 0 (fun t50 σ50 => ?_) (fun K49 bk49 ex49 s49 σ49 => ?_)
                · exact jj45 (s8.2.2 + 1) _
                · refine jr_ild6 (pc := 207) hX dX13_alones_207 ?_
                  refine jr_ild2 (pc := 209) hX dX13_alones_209 ?_
                  refine jr_icge (pc := 210) hX 233 dX13_alones_210 (by decide) ?_ ?_
                  · refine jr_wk [true, true, true, true, true, true, false] ?_
                    exact ex49 () _
                  · refine jr_ald0 (pc := 213) hX dX13_alones_213 ?_
                    refine jr_ck0 (fun a51 e51 h51 => ?_)
                    refine jr_getr (pc := 214) hX fX13_36 rfl dX13_alones_214 h51 ?_
                    refine jr_ild6 (pc := 217) hX dX13_alones_217 ?_
                    refine jr_ald0 (pc := 219) hX dX13_alones_219 ?_
                    refine jr_ek0 e51 ?_
                    refine jr_getr (pc := 220) hX fX13_30 rfl dX13_alones_220 h51 ?_
                    refine jr_ild6 (pc := 223) hX dX13_alones_223 ?_
                    refine jr_iaC (pc := 225) hX dX13_alones_225 (fun a52 n52 e52 h52 => ?_)
                    refine jr_iaS (pc := 226) hX dX13_alones_226 (fun a53 n53 e53 h53 => ?_)
                    refine jr_li ?_
                    refine jr_inc6 (pc := 227) hX 1 rfl jn_n dX13_alones_227 ?_
                    refine jr_goto (pc := 230) hX 207 dX13_alones_230 (by decide) ?_
                    exact bk49 (s49 + 1) _
          · refine jr_inc4 (pc := 136) hX (-1) rfl (jn_i _) dX13_alones_136 ?_
            refine jr_goto (pc := 139) hX 37 dX13_alones_139 (by decide) ?_
            refine jr_wk [true, true, true, true, true, false, true] ?_
            exact bk8 (s8.1, t14, (s8.2.2 + (-1))) _
        · refine jr_ild5 (pc := 77) hX dX13_alones_77 ?_
          refine jr_ald0 (pc := 79) hX dX13_alones_79 ?_
          refine jr_ck0 (fun a22 e22 h22 => ?_)
          refine jr_getr (pc := 80) hX fX13_289 rfl dX13_alones_80 h22 ?_
          refine jr_ck0 (fun a23 e23 h23 => ?_)
          refine jr_getiN (pc := 83) hX fX13_185 rfl dX13_alones_83 h23 ?_
          refine jr_icge (pc := 86) hX 124 dX13_alones_86 (by decide) ?_ ?_
          · exact ex20 s20 _
          · refine jr_ild3 (pc := 89) hX dX13_alones_89 ?_
            refine jr_ild5 (pc := 90) hX dX13_alones_90 ?_
            refine jr_cS2i (pc := 92) hX lX13_267 (c_X13_bit hX.F σ20 _ _) (jd_dd hD rfl) (Nat.le_of_ble_eq_true rfl) dX13_alones_92 (fun r24 σ24 p24 => ?_)
            refine jr_ifne (pc := 95) hX 118 dX13_alones_95 (by decide) ?_ ?_
            · refine jr_inc5 (pc := 118) hX 1 rfl (jn_i _) dX13_alones_118 ?_
              refine jr_goto (pc := 121) hX 77 dX13_alones_121 (by decide) ?_
              exact bk20 (s20 + 1) _
            · refine jr_ald0 (pc := 98) hX dX13_alones_98 ?_
              refine jr_ild1 (pc := 99) hX dX13_alones_99 ?_
              refine jr_ild5 (pc := 100) hX dX13_alones_100 ?_
              refine jr_ald0 (pc := 102) hX dX13_alones_102 ?_
              refine jr_ek0 e22 ?_
              refine jr_getr (pc := 103) hX fX13_33 rfl dX13_alones_103 (p24.at h22 :) ?_
              refine jr_ild4 (pc := 106) hX dX13_alones_106 ?_
              refine jr_iaC (pc := 108) hX dX13_alones_108 (fun a25 n25 e25 h25 => ?_)
              refine jr_ek3 e22 ?_
              refine jr_cV3i (pc := 109) hX lX13_351 (c_X13_freeBehind hX.F σ24 a22 (p24.at h22 :) _ _ _) (jd_dd hD rfl) (Nat.le_of_ble_eq_true rfl) dX13_alones_109 (p24.at h22 :) (fun r26 σ26 p26 => ?_)
              refine jr_sipush (pc := 112) hX 9999 rfl dX13_alones_112 ?_
              refine jr_icne (pc := 115) hX 124 dX13_alones_115 (by decide) ?_ ?_
              · exact ex20 s20 _
              · refine jr_inc5 (pc := 118) hX 1 rfl (jn_i _) dX13_alones_118 ?_
                refine jr_goto (pc := 121) hX 77 dX13_alones_121 (by decide) ?_
                exact bk20 (s20 + 1) _
      · refine jr_iflt (pc := 49) hX 66 dX13_alones_49 (by decide) ?_ ?_
        · exact jj14 s8.2.1 _
        · refine jr_ild3 (pc := 52) hX dX13_alones_52 ?_
          refine jr_iconst (pc := 53) hX 1 rfl dX13_alones_53 ?_
          refine jr_ald0 (pc := 54) hX dX13_alones_54 ?_
          refine jr_ek0 e10 ?_
          refine jr_getr (pc := 55) hX fX13_30 rfl dX13_alones_55 h10 ?_
          refine jr_ild4 (pc := 58) hX dX13_alones_58 ?_
          refine jr_iaC (pc := 60) hX dX13_alones_60 (fun a15 n15 e15 h15 => ?_)
          refine jr_ishl (pc := 61) hX dX13_alones_61 ?_
          refine jr_iconst (pc := 62) hX (-1) rfl dX13_alones_62 ?_
          refine jr_ixor (pc := 63) hX dX13_alones_63 ?_
          refine jr_iand (pc := 64) hX dX13_alones_64 ?_
          refine jr_ist3 (pc := 65) hX (jn_i _) dX13_alones_65 ?_
          refine jr_li ?_
          exact jj14 (s8.2.1 &&& ((1 <<< ((σ8.2.1 a15 s8.2.2.toNatClampNeg) &&& 31)) ^^^ (-1))) _
def m_X13_alone (t : Nat) (x0p : Int32) (σ : jd_Hp) : Option (Int32 × jd_Hp) :=
jd_li (jd_pi σ t 0 0) fun τ1 =>
jd_b (m_X13_isPost t x0p τ1) fun r2 σ2 =>
jd_if (¬ r2 = 0) (
jd_b (m_X13_works t σ2) fun r3 σ3 =>
jd_b (m_X13_alones t x0p σ3) fun r4 σ4 =>
jd_b (m_X13_good t r4 σ4) fun r5 σ5 =>
some (r5, σ5)) (
jd_b (m_X13_refused t 1 σ2) fun r6 σ6 =>
some (r6, σ6))
set_option maxHeartbeats 4000000 in
set_option maxRecDepth 20000 in
theorem c_X13_alone {l : Launch} {s0 : State} {G : jd_G} (hF : jd_F s0 G) (σ : jd_Hp) (t : Nat) (ht : σ.1[t]? = some (13, 29)) (x0p : Int32) : jd_M l s0 G yX13_alone cX13_alone 2 (some .int) 5 je_i [jd_v G (some t), .int x0p] σ (m_X13_alone t x0p σ) := by
  refine jd_enter hF (by decide) (fun G => [some (jd_v G (some t)), some (.int x0p)]) rfl (by simp [lv_args, jd_al, jd_v_cat, jd_cti, jd_ctl]) (by simp [lg_sl, jd_v_cat, jd_cti, jd_ctl]) (fun X hD hX => ?_)
  have hX : jd_C X RX13 "alone" cX13_alone 2 (some .int) := hX
  unfold m_X13_alone
  refine jr_ald0 (pc := 0) hX dX13_alone_0 ?_
  refine jr_iconst (pc := 1) hX 0 rfl dX13_alone_1 ?_
  refine jr_puti (pc := 2) hX fX13_48 rfl dX13_alone_2 ht ?_
  refine jr_li ?_
  refine jr_ald0 (pc := 5) hX dX13_alone_5 ?_
  refine jr_ild1 (pc := 6) hX dX13_alone_6 ?_
  refine jr_cV1i (pc := 7) hX lX13_336 (c_X13_isPost hX.F (jd_pi σ t 0 0) t ht _) (jd_dd hD rfl) (Nat.le_of_ble_eq_true rfl) dX13_alone_7 ht (fun r2 σ2 p2 => ?_)
  refine jr_ifne (pc := 10) hX 19 dX13_alone_10 (by decide) ?_ ?_
  · refine jr_ald0 (pc := 19) hX dX13_alone_19 ?_
    refine jr_cV0v (pc := 20) hX lX13_324 (c_X13_works hX.F σ2 t (p2.at ht :)) (jd_dd hD rfl) (Nat.le_of_ble_eq_true rfl) dX13_alone_20 (p2.at ht :) (fun r3 σ3 p3 => ?_)
    refine jr_ald0 (pc := 23) hX dX13_alone_23 ?_
    refine jr_ald0 (pc := 24) hX dX13_alone_24 ?_
    refine jr_ild1 (pc := 25) hX dX13_alone_25 ?_
    refine jr_cV1i (pc := 26) hX lX13_355 (c_X13_alones hX.F σ3 t (p3.at (p2.at ht :) :) _) (jd_dd hD rfl) (by simp [jd_v_cat, jd_cti, jd_ctl]) dX13_alone_26 (p3.at (p2.at ht :) :) (fun r4 σ4 p4 => ?_)
    refine jr_cV1i (pc := 29) hX lX13_58 (c_X13_good hX.F σ4 t (p4.at (p3.at (p2.at ht :) :) :) _) (jd_dd hD rfl) (Nat.le_of_ble_eq_true rfl) dX13_alone_29 (p4.at (p3.at (p2.at ht :) :) :) (fun r5 σ5 p5 => ?_)
    exact jr_iret (pc := 32) hX dX13_alone_32 rfl
  · refine jr_ald0 (pc := 13) hX dX13_alone_13 ?_
    refine jr_iconst (pc := 14) hX 1 rfl dX13_alone_14 ?_
    refine jr_cV1i (pc := 15) hX lX13_54 (c_X13_refused hX.F σ2 t (p2.at ht :) _) (jd_dd hD rfl) (Nat.le_of_ble_eq_true rfl) dX13_alone_15 (p2.at ht :) (fun r6 σ6 p6 => ?_)
    exact jr_iret (pc := 18) hX dX13_alone_18 rfl
def m_X13_aloneAt (t : Nat) (x0p : Int32) (x1p : Int32) (σ : jd_Hp) : Option (Int32 × jd_Hp) :=
jd_li (jd_pi σ t 0 0) fun τ1 =>
jd_b (m_X13_isPost t x0p τ1) fun r2 σ2 =>
jd_if (¬ r2 = 0) (
jd_b (m_X13_works t σ2) fun r3 σ3 =>
jd_b (m_X13_alones t x0p σ3) fun r4 σ4 =>
jd_b (m_X13_in x1p 0 (r4 - 1) σ4) fun r5 σ5 =>
jd_if (r5 = 0) (
jd_b (m_X13_refused t 1 σ5) fun r6 σ6 =>
some (r6, σ6)) (
jd_ia σ5 20 (σ5.2.2.2 t 23) x1p fun a7 j7 =>
jd_b (m_X13_good t (σ5.2.1 a7 j7) σ5) fun r8 σ8 =>
some (r8, σ8))) (
jd_b (m_X13_refused t 1 σ2) fun r9 σ9 =>
some (r9, σ9))
set_option maxHeartbeats 4000000 in
set_option maxRecDepth 20000 in
theorem c_X13_aloneAt {l : Launch} {s0 : State} {G : jd_G} (hF : jd_F s0 G) (σ : jd_Hp) (t : Nat) (ht : σ.1[t]? = some (13, 29)) (x0p : Int32) (x1p : Int32) : jd_M l s0 G yX13_aloneAt cX13_aloneAt 3 (some .int) 5 je_i [jd_v G (some t), .int x0p, .int x1p] σ (m_X13_aloneAt t x0p x1p σ) := by
  refine jd_enter hF (by decide) (fun G => [some (jd_v G (some t)), some (.int x0p), some (.int x1p)]) rfl (by simp [lv_args, jd_al, jd_v_cat, jd_cti, jd_ctl]) (by simp [lg_sl, jd_v_cat, jd_cti, jd_ctl]) (fun X hD hX => ?_)
  have hX : jd_C X RX13 "aloneAt" cX13_aloneAt 3 (some .int) := hX
  unfold m_X13_aloneAt
  refine jr_ald0 (pc := 0) hX dX13_aloneAt_0 ?_
  refine jr_iconst (pc := 1) hX 0 rfl dX13_aloneAt_1 ?_
  refine jr_puti (pc := 2) hX fX13_48 rfl dX13_aloneAt_2 ht ?_
  refine jr_li ?_
  refine jr_ald0 (pc := 5) hX dX13_aloneAt_5 ?_
  refine jr_ild1 (pc := 6) hX dX13_aloneAt_6 ?_
  refine jr_cV1i (pc := 7) hX lX13_336 (c_X13_isPost hX.F (jd_pi σ t 0 0) t ht _) (jd_dd hD rfl) (Nat.le_of_ble_eq_true rfl) dX13_aloneAt_7 ht (fun r2 σ2 p2 => ?_)
  refine jr_ifne (pc := 10) hX 19 dX13_aloneAt_10 (by decide) ?_ ?_
  · refine jr_ald0 (pc := 19) hX dX13_aloneAt_19 ?_
    refine jr_cV0v (pc := 20) hX lX13_324 (c_X13_works hX.F σ2 t (p2.at ht :)) (jd_dd hD rfl) (Nat.le_of_ble_eq_true rfl) dX13_aloneAt_20 (p2.at ht :) (fun r3 σ3 p3 => ?_)
    refine jr_ild2 (pc := 23) hX dX13_aloneAt_23 ?_
    refine jr_iconst (pc := 24) hX 0 rfl dX13_aloneAt_24 ?_
    refine jr_ald0 (pc := 25) hX dX13_aloneAt_25 ?_
    refine jr_ild1 (pc := 26) hX dX13_aloneAt_26 ?_
    refine jr_cV1i (pc := 27) hX lX13_355 (c_X13_alones hX.F σ3 t (p3.at (p2.at ht :) :) _) (jd_dd hD rfl) (Nat.le_of_ble_eq_true rfl) dX13_aloneAt_27 (p3.at (p2.at ht :) :) (fun r4 σ4 p4 => ?_)
    refine jr_iconst (pc := 30) hX 1 rfl dX13_aloneAt_30 ?_
    refine jr_isub (pc := 31) hX dX13_aloneAt_31 ?_
    refine jr_cS3i (pc := 32) hX lX13_131 (c_X13_in hX.F σ4 _ _ _) (jd_dd hD rfl) (Nat.le_of_ble_eq_true rfl) dX13_aloneAt_32 (fun r5 σ5 p5 => ?_)
    refine jr_ifeq (pc := 35) hX 51 dX13_aloneAt_35 (by decide) ?_ ?_
    · refine jr_ald0 (pc := 51) hX dX13_aloneAt_51 ?_
      refine jr_iconst (pc := 52) hX 1 rfl dX13_aloneAt_52 ?_
      refine jr_cV1i (pc := 53) hX lX13_54 (c_X13_refused hX.F σ5 t (p5.at (p4.at (p3.at (p2.at ht :) :) :) :) _) (jd_dd hD rfl) (Nat.le_of_ble_eq_true rfl) dX13_aloneAt_53 (p5.at (p4.at (p3.at (p2.at ht :) :) :) :) (fun r6 σ6 p6 => ?_)
      exact jr_iret (pc := 56) hX dX13_aloneAt_56 rfl
    · refine jr_ald0 (pc := 38) hX dX13_aloneAt_38 ?_
      refine jr_ald0 (pc := 39) hX dX13_aloneAt_39 ?_
      refine jr_getr (pc := 40) hX fX13_36 rfl dX13_aloneAt_40 (p5.at (p4.at (p3.at (p2.at ht :) :) :) :) ?_
      refine jr_ild2 (pc := 43) hX dX13_aloneAt_43 ?_
      refine jr_iaC (pc := 44) hX dX13_aloneAt_44 (fun a7 n7 e7 h7 => ?_)
      refine jr_cV1i (pc := 45) hX lX13_58 (c_X13_good hX.F σ5 t (p5.at (p4.at (p3.at (p2.at ht :) :) :) :) _) (jd_dd hD rfl) (Nat.le_of_ble_eq_true rfl) dX13_aloneAt_45 (p5.at (p4.at (p3.at (p2.at ht :) :) :) :) (fun r8 σ8 p8 => ?_)
      refine jr_goto (pc := 48) hX 56 dX13_aloneAt_48 (by decide) ?_
      exact jr_iret (pc := 56) hX dX13_aloneAt_56 rfl
  · refine jr_ald0 (pc := 13) hX dX13_aloneAt_13 ?_
    refine jr_iconst (pc := 14) hX 1 rfl dX13_aloneAt_14 ?_
    refine jr_cV1i (pc := 15) hX lX13_54 (c_X13_refused hX.F σ2 t (p2.at ht :) _) (jd_dd hD rfl) (Nat.le_of_ble_eq_true rfl) dX13_aloneAt_15 (p2.at ht :) (fun r9 σ9 p9 => ?_)
    exact jr_iret (pc := 18) hX dX13_aloneAt_18 rfl
def m_X13_aloneFree (t : Nat) (x0p : Int32) (σ : jd_Hp) : Option (Int32 × jd_Hp) :=
jd_li (jd_pi σ t 0 0) fun τ1 =>
jd_b (m_X13_isPost t x0p τ1) fun r2 σ2 =>
jd_if (¬ r2 = 0) (
jd_b (m_X13_works t σ2) fun r3 σ3 =>
jd_b (m_X13_alones t x0p σ3) fun r4 σ4 =>
jd_b (m_X13_good t (σ4.2.1 t 24) σ4) fun r5 σ5 =>
some (r5, σ5)) (
jd_b (m_X13_refused t 1 σ2) fun r6 σ6 =>
some (r6, σ6))
set_option maxHeartbeats 4000000 in
set_option maxRecDepth 20000 in
theorem c_X13_aloneFree {l : Launch} {s0 : State} {G : jd_G} (hF : jd_F s0 G) (σ : jd_Hp) (t : Nat) (ht : σ.1[t]? = some (13, 29)) (x0p : Int32) : jd_M l s0 G yX13_aloneFree cX13_aloneFree 2 (some .int) 5 je_i [jd_v G (some t), .int x0p] σ (m_X13_aloneFree t x0p σ) := by
  refine jd_enter hF (by decide) (fun G => [some (jd_v G (some t)), some (.int x0p)]) rfl (by simp [lv_args, jd_al, jd_v_cat, jd_cti, jd_ctl]) (by simp [lg_sl, jd_v_cat, jd_cti, jd_ctl]) (fun X hD hX => ?_)
  have hX : jd_C X RX13 "aloneFree" cX13_aloneFree 2 (some .int) := hX
  unfold m_X13_aloneFree
  refine jr_ald0 (pc := 0) hX dX13_aloneFree_0 ?_
  refine jr_iconst (pc := 1) hX 0 rfl dX13_aloneFree_1 ?_
  refine jr_puti (pc := 2) hX fX13_48 rfl dX13_aloneFree_2 ht ?_
  refine jr_li ?_
  refine jr_ald0 (pc := 5) hX dX13_aloneFree_5 ?_
  refine jr_ild1 (pc := 6) hX dX13_aloneFree_6 ?_
  refine jr_cV1i (pc := 7) hX lX13_336 (c_X13_isPost hX.F (jd_pi σ t 0 0) t ht _) (jd_dd hD rfl) (Nat.le_of_ble_eq_true rfl) dX13_aloneFree_7 ht (fun r2 σ2 p2 => ?_)
  refine jr_ifne (pc := 10) hX 19 dX13_aloneFree_10 (by decide) ?_ ?_
  · refine jr_ald0 (pc := 19) hX dX13_aloneFree_19 ?_
    refine jr_cV0v (pc := 20) hX lX13_324 (c_X13_works hX.F σ2 t (p2.at ht :)) (jd_dd hD rfl) (Nat.le_of_ble_eq_true rfl) dX13_aloneFree_20 (p2.at ht :) (fun r3 σ3 p3 => ?_)
    refine jr_ald0 (pc := 23) hX dX13_aloneFree_23 ?_
    refine jr_ild1 (pc := 24) hX dX13_aloneFree_24 ?_
    refine jr_cV1i (pc := 25) hX lX13_355 (c_X13_alones hX.F σ3 t (p3.at (p2.at ht :) :) _) (jd_dd hD rfl) (Nat.le_of_ble_eq_true rfl) dX13_aloneFree_25 (p3.at (p2.at ht :) :) (fun r4 σ4 p4 => ?_)
    refine jr_pop (pc := 28) hX rfl dX13_aloneFree_28 ?_
    refine jr_ald0 (pc := 29) hX dX13_aloneFree_29 ?_
    refine jr_ald0 (pc := 30) hX dX13_aloneFree_30 ?_
    refine jr_geti (pc := 31) hX fX13_348 rfl dX13_aloneFree_31 (p4.at (p3.at (p2.at ht :) :) :) ?_
    refine jr_cV1i (pc := 34) hX lX13_58 (c_X13_good hX.F σ4 t (p4.at (p3.at (p2.at ht :) :) :) _) (jd_dd hD rfl) (Nat.le_of_ble_eq_true rfl) dX13_aloneFree_34 (p4.at (p3.at (p2.at ht :) :) :) (fun r5 σ5 p5 => ?_)
    exact jr_iret (pc := 37) hX dX13_aloneFree_37 rfl
  · refine jr_ald0 (pc := 13) hX dX13_aloneFree_13 ?_
    refine jr_iconst (pc := 14) hX 1 rfl dX13_aloneFree_14 ?_
    refine jr_cV1i (pc := 15) hX lX13_54 (c_X13_refused hX.F σ2 t (p2.at ht :) _) (jd_dd hD rfl) (Nat.le_of_ble_eq_true rfl) dX13_aloneFree_15 (p2.at ht :) (fun r6 σ6 p6 => ?_)
    exact jr_iret (pc := 18) hX dX13_aloneFree_18 rfl
def m_X13_bestAlone (t : Nat) (σ : jd_Hp) : Option (Int32 × jd_Hp) :=
jd_li (jd_pi σ t 0 0) fun τ1 =>
jd_if (¬ (τ1.2.2.2 t 3) = none) (
jd_b (m_X13_works t τ1) fun r2 σ2 =>
jd_b (jd_lp (S := Int32 × Int32 × Int32) (T := Int32) (fun s3 σ3 =>
jd_o σ3 (13, 29) (some t) fun a5 =>
jd_o σ3 (12, 20) (σ3.2.2.2 a5 3) fun a6 =>
jd_if ((σ3.2.1 a6 4) ≤ s3.2.2) (
some ((Sum.inr s3.1), σ3)) (
jd_b (m_X13_alones a5 s3.2.2 σ3) fun r7 σ7 =>
jd_if (s3.2.1 < r7) (
some (Sum.inl (s3.2.2, r7, (s3.2.2 + 1)), σ7)) (
some (Sum.inl (s3.1, s3.2.1, (s3.2.2 + 1)), σ7)))) jd_fu ((-2), (-1), 0) σ2) fun t4 σ4 =>
jd_o σ4 (13, 29) (some t) fun a8 =>
jd_b (m_X13_good a8 t4 σ4) fun r9 σ9 =>
some (r9, σ9)) (
jd_b (m_X13_refused t 1 τ1) fun r10 σ10 =>
some (r10, σ10))
set_option maxHeartbeats 4000000 in
set_option maxRecDepth 20000 in
theorem c_X13_bestAlone {l : Launch} {s0 : State} {G : jd_G} (hF : jd_F s0 G) (σ : jd_Hp) (t : Nat) (ht : σ.1[t]? = some (13, 29)) : jd_M l s0 G yX13_bestAlone cX13_bestAlone 5 (some .int) 5 je_i [jd_v G (some t)] σ (m_X13_bestAlone t σ) := by
  refine jd_enter hF (by decide) (fun G => [some (jd_v G (some t)), none, none, none, none]) rfl (by simp [lv_args, jd_al, jd_v_cat, jd_cti, jd_ctl]) (by simp [lg_sl, jd_v_cat, jd_cti, jd_ctl]) (fun X hD hX => ?_)
  have hX : jd_C X RX13 "bestAlone" cX13_bestAlone 5 (some .int) := hX
  unfold m_X13_bestAlone
  refine jr_ald0 (pc := 0) hX dX13_bestAlone_0 ?_
  refine jr_iconst (pc := 1) hX 0 rfl dX13_bestAlone_1 ?_
  refine jr_puti (pc := 2) hX fX13_48 rfl dX13_bestAlone_2 ht ?_
  refine jr_li ?_
  refine jr_ald0 (pc := 5) hX dX13_bestAlone_5 ?_
  refine jr_getr (pc := 6) hX fX13_289 rfl dX13_bestAlone_6 ht ?_
  refine jr_ifnonnull (pc := 9) hX 18 dX13_bestAlone_9 (by decide) ?_ ?_
  · refine jr_ald0 (pc := 18) hX dX13_bestAlone_18 ?_
    refine jr_cV0v (pc := 19) hX lX13_324 (c_X13_works hX.F (jd_pi σ t 0 0) t ht) (jd_dd hD rfl) (Nat.le_of_ble_eq_true rfl) dX13_bestAlone_19 ht (fun r2 σ2 p2 => ?_)
    refine jr_bipush (pc := 22) hX (-2) rfl dX13_bestAlone_22 ?_
    refine jr_ist1 (pc := 24) hX (jn_r _ _) dX13_bestAlone_24 ?_
    refine jr_iconst (pc := 25) hX (-1) rfl dX13_bestAlone_25 ?_
    refine jr_ist2 (pc := 26) hX (jn_i _) dX13_bestAlone_26 ?_
    refine jr_iconst (pc := 27) hX 0 rfl dX13_bestAlone_27 ?_
    refine jr_ist3 (pc := 28) hX (jn_i _) dX13_bestAlone_28 ?_
    refine jr_loop (pc := 29) (fun (s3 : Int32 × Int32 × Int32) => [some (jd_v (jd_gG X) (some t)), some (.int s3.1), some (.int s3.2.1), some (.int s3.2.2), none]) (fun (t4 : Int32) => [some (jd_v (jd_gG X) (some t)), some (.int t4), none, none, none]) 67 ((-2), (-1), 0) (fun t4 σ4 => ?_) (fun K3 bk3 ex3 s3 σ3 => ?_)
    · refine jr_ald0 (pc := 67) hX dX13_bestAlone_67 ?_
      refine jr_ild1 (pc := 68) hX dX13_bestAlone_68 ?_
      refine jr_ck1 (fun a8 e8 h8 => ?_)
      refine jr_cV1i (pc := 69) hX lX13_58 (c_X13_good hX.F σ4 a8 h8 _) (jd_dd hD rfl) (Nat.le_of_ble_eq_true rfl) dX13_bestAlone_69 h8 (fun r9 σ9 p9 => ?_)
      exact jr_iret (pc := 72) hX dX13_bestAlone_72 rfl
    · refine jr_ild3 (pc := 29) hX dX13_bestAlone_29 ?_
      refine jr_ald0 (pc := 30) hX dX13_bestAlone_30 ?_
      refine jr_ck0 (fun a5 e5 h5 => ?_)
      refine jr_getr (pc := 31) hX fX13_289 rfl dX13_bestAlone_31 h5 ?_
      refine jr_ck0 (fun a6 e6 h6 => ?_)
      refine jr_getiN (pc := 34) hX fX13_253 rfl dX13_bestAlone_34 h6 ?_
      refine jr_icge (pc := 37) hX 67 dX13_bestAlone_37 (by decide) ?_ ?_
      · refine jr_wk [true, true, false, false, true] ?_
        exact ex3 s3.1 _
      · refine jr_ald0 (pc := 40) hX dX13_bestAlone_40 ?_
        refine jr_ild3 (pc := 41) hX dX13_bestAlone_41 ?_
        refine jr_ek1 e5 ?_
        refine jr_cV1i (pc := 42) hX lX13_355 (c_X13_alones hX.F σ3 a5 h5 _) (jd_dd hD rfl) (Nat.le_of_ble_eq_true rfl) dX13_bestAlone_42 h5 (fun r7 σ7 p7 => ?_)
        refine jr_ist4 (pc := 45) hX (jn_i _) dX13_bestAlone_45 ?_
        refine jr_ild4 (pc := 47) hX dX13_bestAlone_47 ?_
        refine jr_ild2 (pc := 49) hX dX13_bestAlone_49 ?_
        refine jr_icgt (pc := 50) hX 56 dX13_bestAlone_50 (by decide) ?_ ?_
        · refine jr_ild4 (pc := 56) hX dX13_bestAlone_56 ?_
          refine jr_ist2 (pc := 58) hX (jn_i _) dX13_bestAlone_58 ?_
          refine jr_ild3 (pc := 59) hX dX13_bestAlone_59 ?_
          refine jr_ist1 (pc := 60) hX (jn_r _ _) dX13_bestAlone_60 ?_
          refine jr_inc3 (pc := 61) hX 1 rfl (jn_i _) dX13_bestAlone_61 ?_
          refine jr_goto (pc := 64) hX 29 dX13_bestAlone_64 (by decide) ?_
          refine jr_wk [true, true, true, true, false] ?_
          exact bk3 (s3.2.2, r7, (s3.2.2 + 1)) _
        · refine jr_goto (pc := 53) hX 61 dX13_bestAlone_53 (by decide) ?_
          refine jr_inc3 (pc := 61) hX 1 rfl (jn_i _) dX13_bestAlone_61 ?_
          refine jr_goto (pc := 64) hX 29 dX13_bestAlone_64 (by decide) ?_
          refine jr_wk [true, true, true, true, false] ?_
          exact bk3 (s3.1, s3.2.1, (s3.2.2 + 1)) _
  · refine jr_ald0 (pc := 12) hX dX13_bestAlone_12 ?_
    refine jr_iconst (pc := 13) hX 1 rfl dX13_bestAlone_13 ?_
    refine jr_cV1i (pc := 14) hX lX13_54 (c_X13_refused hX.F (jd_pi σ t 0 0) t ht _) (jd_dd hD rfl) (Nat.le_of_ble_eq_true rfl) dX13_bestAlone_14 ht (fun r10 σ10 p10 => ?_)
    exact jr_iret (pc := 17) hX dX13_bestAlone_17 rfl
def m_X13_swaps (t : Nat) (x0p : Int32) (x1p : Int32) (σ : jd_Hp) : Option (Unit × jd_Hp) :=
jd_ia σ 20 (σ.2.2.2 t 25) x0p fun a1 j1 =>
jd_li (σ.2.1 a1 j1) fun x2 =>
jd_ia σ 20 (σ.2.2.2 t 25) x1p fun a3 j3 =>
jd_ia σ 20 (σ.2.2.2 t 25) x0p fun a4 j4 =>
jd_li (jd_pi σ a4 j4 (σ.2.1 a3 j3)) fun τ5 =>
jd_ia τ5 20 (τ5.2.2.2 t 25) x1p fun a6 j6 =>
jd_li (jd_pi τ5 a6 j6 x2) fun τ7 =>
some ((), τ7)
set_option maxHeartbeats 4000000 in
set_option maxRecDepth 20000 in
theorem c_X13_swaps {l : Launch} {s0 : State} {G : jd_G} (hF : jd_F s0 G) (σ : jd_Hp) (t : Nat) (ht : σ.1[t]? = some (13, 29)) (x0p : Int32) (x1p : Int32) : jd_M l s0 G yX13_swaps cX13_swaps 4 none 0 je_v [jd_v G (some t), .int x0p, .int x1p] σ (m_X13_swaps t x0p x1p σ) := by
  refine jd_enter hF (by decide) (fun G => [some (jd_v G (some t)), some (.int x0p), some (.int x1p), none]) rfl (by simp [lv_args, jd_al, jd_v_cat, jd_cti, jd_ctl]) (by simp [lg_sl, jd_v_cat, jd_cti, jd_ctl]) (fun X hD hX => ?_)
  have hX : jd_C X RX13 "swaps" cX13_swaps 4 none := hX
  unfold m_X13_swaps
  refine jr_ald0 (pc := 0) hX dX13_swaps_0 ?_
  refine jr_getr (pc := 1) hX fX13_39 rfl dX13_swaps_1 ht ?_
  refine jr_ild1 (pc := 4) hX dX13_swaps_4 ?_
  refine jr_iaC (pc := 5) hX dX13_swaps_5 (fun a1 n1 e1 h1 => ?_)
  refine jr_ist3 (pc := 6) hX (jn_i _) dX13_swaps_6 ?_
  refine jr_li ?_
  refine jr_ald0 (pc := 7) hX dX13_swaps_7 ?_
  refine jr_getr (pc := 8) hX fX13_39 rfl dX13_swaps_8 ht ?_
  refine jr_ild1 (pc := 11) hX dX13_swaps_11 ?_
  refine jr_ald0 (pc := 12) hX dX13_swaps_12 ?_
  refine jr_getr (pc := 13) hX fX13_39 rfl dX13_swaps_13 ht ?_
  refine jr_ild2 (pc := 16) hX dX13_swaps_16 ?_
  refine jr_iaC (pc := 17) hX dX13_swaps_17 (fun a3 n3 e3 h3 => ?_)
  refine jr_iaS (pc := 18) hX dX13_swaps_18 (fun a4 n4 e4 h4 => ?_)
  refine jr_li ?_
  refine jr_ald0 (pc := 19) hX dX13_swaps_19 ?_
  refine jr_getr (pc := 20) hX fX13_39 rfl dX13_swaps_20 ht ?_
  refine jr_ild2 (pc := 23) hX dX13_swaps_23 ?_
  refine jr_ild3 (pc := 24) hX dX13_swaps_24 ?_
  refine jr_iaS (pc := 25) hX dX13_swaps_25 (fun a6 n6 e6 h6 => ?_)
  refine jr_li ?_
  exact jr_vret (pc := 26) hX dX13_swaps_26 rfl
