theorem fX13_80 : jd_fl RX13 80 13 9 29 false := ⟨_, _, rfl, by decide, by decide, rfl, rfl, jd_mem 1297 (by decide +kernel) (by decide +kernel)⟩
theorem fX13_83 : jd_fl RX13 83 13 8 29 false := ⟨_, _, rfl, by decide, by decide, rfl, rfl, jd_mem 1296 (by decide +kernel) (by decide +kernel)⟩
theorem qX13_byteAt : Cond.instanceMethod yX13_byteAt ∈ jd_TB ∧ Cond.selects RX13 yX13_byteAt yX13_byteAt ∈ jd_TB ∧ Cond.initialized RX13 ∈ jd_TB ∧ Cond.code yX13_byteAt cX13_byteAt 2 (some .int) ∈ jd_TB ∧ jd_ds yX13_byteAt 1 := ⟨jd_mem 1477 (by decide +kernel) (by decide +kernel), jd_mem 36 (by decide +kernel) (by decide +kernel), jd_mem 104 (by decide +kernel) (by decide +kernel), jd_mem 1478 (by decide +kernel) (by decide +kernel), ⟨by decide, by decide, by decide +kernel⟩⟩
theorem lX13_86 : jd_mv RX13 86 13 29 yX13_byteAt cX13_byteAt 2 (some .int) 1 := ⟨_, _, rfl, by decide, rfl, Or.inl (jd_mem 1475 (by decide +kernel) (by decide +kernel)), qX13_byteAt.1, qX13_byteAt.2.1, qX13_byteAt.2.2.1, qX13_byteAt.2.2.2.1, qX13_byteAt.2.2.2.2, by decide⟩
theorem fX13_89 : jd_fl RX13 89 13 10 29 false := ⟨_, _, rfl, by decide, by decide, rfl, rfl, jd_mem 1298 (by decide +kernel) (by decide +kernel)⟩
theorem qX13_isLetter : Cond.static yX13_isLetter ∈ jd_TB ∧ Cond.initialized yX13_isLetter.cls ∈ jd_TB ∧ Cond.code yX13_isLetter cX13_isLetter 1 (some .boolean) ∈ jd_TB ∧ jd_ds yX13_isLetter 1 := ⟨jd_mem 1480 (by decide +kernel) (by decide +kernel), jd_mem 104 (by decide +kernel) (by decide +kernel), jd_mem 1481 (by decide +kernel) (by decide +kernel), ⟨by decide, by decide, by decide +kernel⟩⟩
theorem lX13_92 : jd_st RX13 92 yX13_isLetter cX13_isLetter 1 (some .boolean) 1 := ⟨Or.inl (jd_mem 1479 (by decide +kernel) (by decide +kernel)), qX13_isLetter.1, qX13_isLetter.2.1, qX13_isLetter.2.2.1, qX13_isLetter.2.2.2, by decide⟩
theorem qX13_isDigit : Cond.static yX13_isDigit ∈ jd_TB ∧ Cond.initialized yX13_isDigit.cls ∈ jd_TB ∧ Cond.code yX13_isDigit cX13_isDigit 1 (some .boolean) ∈ jd_TB ∧ jd_ds yX13_isDigit 1 := ⟨jd_mem 1484 (by decide +kernel) (by decide +kernel), jd_mem 104 (by decide +kernel) (by decide +kernel), jd_mem 1485 (by decide +kernel) (by decide +kernel), ⟨by decide, by decide, by decide +kernel⟩⟩
theorem lX13_100 : jd_st RX13 100 yX13_isDigit cX13_isDigit 1 (some .boolean) 1 := ⟨Or.inl (jd_mem 1483 (by decide +kernel) (by decide +kernel)), qX13_isDigit.1, qX13_isDigit.2.1, qX13_isDigit.2.2.1, qX13_isDigit.2.2.2, by decide⟩
theorem fX13_103 : jd_fl RX13 103 13 11 29 false := ⟨_, _, rfl, by decide, by decide, rfl, rfl, jd_mem 1299 (by decide +kernel) (by decide +kernel)⟩
theorem fX13_96 : jd_fl RX13 96 13 14 29 false := ⟨_, _, rfl, by decide, by decide, rfl, rfl, jd_mem 1302 (by decide +kernel) (by decide +kernel)⟩
theorem kX13_74 : Cond.constantLong RX13 74 32 ∈ jd_TB := jd_mem 1482 (by decide +kernel) (by decide +kernel)
theorem fX13_106 : jd_fl RX13 106 13 12 29 false := ⟨_, _, rfl, by decide, by decide, rfl, rfl, jd_mem 1300 (by decide +kernel) (by decide +kernel)⟩
theorem fX13_109 : jd_fl RX13 109 13 13 29 false := ⟨_, _, rfl, by decide, by decide, rfl, rfl, jd_mem 1301 (by decide +kernel) (by decide +kernel)⟩
theorem qX13_goesOn : Cond.instanceMethod yX13_goesOn ∈ jd_TB ∧ Cond.selects RX13 yX13_goesOn yX13_goesOn ∈ jd_TB ∧ Cond.initialized RX13 ∈ jd_TB ∧ Cond.code yX13_goesOn cX13_goesOn 3 none ∈ jd_TB ∧ jd_ds yX13_goesOn 0 := ⟨jd_mem 1473 (by decide +kernel) (by decide +kernel), jd_mem 35 (by decide +kernel) (by decide +kernel), jd_mem 104 (by decide +kernel) (by decide +kernel), jd_mem 1474 (by decide +kernel) (by decide +kernel), ⟨by decide, by decide, by decide +kernel⟩⟩
theorem lX13_116 : jd_mv RX13 116 13 29 yX13_goesOn cX13_goesOn 3 none 0 := ⟨_, _, rfl, by decide, rfl, Or.inl (jd_mem 1471 (by decide +kernel) (by decide +kernel)), qX13_goesOn.1, qX13_goesOn.2.1, qX13_goesOn.2.2.1, qX13_goesOn.2.2.2.1, qX13_goesOn.2.2.2.2, by decide⟩
theorem qX13_flaw : Cond.instanceMethod yX13_flaw ∈ jd_TB ∧ Cond.selects RX13 yX13_flaw yX13_flaw ∈ jd_TB ∧ Cond.initialized RX13 ∈ jd_TB ∧ Cond.code yX13_flaw cX13_flaw 2 none ∈ jd_TB ∧ jd_ds yX13_flaw 1 := ⟨jd_mem 1510 (by decide +kernel) (by decide +kernel), jd_mem 41 (by decide +kernel) (by decide +kernel), jd_mem 104 (by decide +kernel) (by decide +kernel), jd_mem 1511 (by decide +kernel) (by decide +kernel), ⟨by decide, by decide, by decide +kernel⟩⟩
theorem lX13_123 : jd_mv RX13 123 13 29 yX13_flaw cX13_flaw 2 none 1 := ⟨_, _, rfl, by decide, rfl, Or.inl (jd_mem 1508 (by decide +kernel) (by decide +kernel)), qX13_flaw.1, qX13_flaw.2.1, qX13_flaw.2.2.1, qX13_flaw.2.2.2.1, qX13_flaw.2.2.2.2, by decide⟩
theorem fX13_149 : jd_fl RX13 149 13 4 29 false := ⟨_, _, rfl, by decide, by decide, rfl, rfl, jd_mem 1292 (by decide +kernel) (by decide +kernel)⟩
theorem fX13_153 : jd_fn RX13 153 12 0 20 false := ⟨_, _, "ShoreGuardsModel", rfl, by decide, by decide, rfl, rfl, List.mem_of_getElem? (i := 1398) (by decide +kernel)⟩
theorem fX13_166 : jd_fn RX13 166 12 17 20 true := ⟨_, _, "ShoreGuardsModel", rfl, by decide, by decide, rfl, rfl, List.mem_of_getElem? (i := 1425) (by decide +kernel)⟩
theorem fX13_170 : jd_fn RX13 170 12 8 20 false := ⟨_, _, "ShoreGuardsModel", rfl, by decide, by decide, rfl, rfl, List.mem_of_getElem? (i := 1407) (by decide +kernel)⟩
theorem fX13_173 : jd_fn RX13 173 12 18 20 true := ⟨_, _, "ShoreGuardsModel", rfl, by decide, by decide, rfl, rfl, List.mem_of_getElem? (i := 1427) (by decide +kernel)⟩
theorem fX13_176 : jd_fn RX13 176 12 19 20 true := ⟨_, _, "ShoreGuardsModel", rfl, by decide, by decide, rfl, rfl, List.mem_of_getElem? (i := 1429) (by decide +kernel)⟩
theorem fX13_282 : jd_fl RX13 282 13 6 29 false := ⟨_, _, rfl, by decide, by decide, rfl, rfl, jd_mem 1294 (by decide +kernel) (by decide +kernel)⟩
theorem dX13_goesOn_0 : decode cX13_goesOn 0 = .ok (.aload_n 0, 1) := by decide +kernel
theorem dX13_goesOn_1 : decode cX13_goesOn 1 = .ok (.getfield 80, 3) := by decide +kernel
theorem dX13_goesOn_4 : decode cX13_goesOn 4 = .ok (.iconst 5, 1) := by decide +kernel
theorem dX13_goesOn_5 : decode cX13_goesOn 5 = .ok (.if_icmp .ne 4, 3) := by decide +kernel
theorem dX13_goesOn_8 : decode cX13_goesOn 8 = .ok (.return_, 1) := by decide +kernel
theorem dX13_goesOn_9 : decode cX13_goesOn 9 = .ok (.aload_n 0, 1) := by decide +kernel
theorem dX13_goesOn_10 : decode cX13_goesOn 10 = .ok (.aload_n 0, 1) := by decide +kernel
theorem dX13_goesOn_11 : decode cX13_goesOn 11 = .ok (.getfield 83, 3) := by decide +kernel
theorem dX13_goesOn_14 : decode cX13_goesOn 14 = .ok (.invokevirtual 86, 3) := by decide +kernel
theorem dX13_goesOn_17 : decode cX13_goesOn 17 = .ok (.bipush 32, 2) := by decide +kernel
theorem dX13_goesOn_19 : decode cX13_goesOn 19 = .ok (.if_icmp .ne 16, 3) := by decide +kernel
theorem dX13_goesOn_22 : decode cX13_goesOn 22 = .ok (.aload_n 0, 1) := by decide +kernel
theorem dX13_goesOn_23 : decode cX13_goesOn 23 = .ok (.dup, 1) := by decide +kernel
theorem dX13_goesOn_24 : decode cX13_goesOn 24 = .ok (.getfield 83, 3) := by decide +kernel
theorem dX13_goesOn_27 : decode cX13_goesOn 27 = .ok (.iconst 1, 1) := by decide +kernel
theorem dX13_goesOn_28 : decode cX13_goesOn 28 = .ok (.iadd, 1) := by decide +kernel
theorem dX13_goesOn_29 : decode cX13_goesOn 29 = .ok (.putfield 83, 3) := by decide +kernel
theorem dX13_goesOn_32 : decode cX13_goesOn 32 = .ok (.goto (-23), 3) := by decide +kernel
theorem dX13_goesOn_35 : decode cX13_goesOn 35 = .ok (.aload_n 0, 1) := by decide +kernel
theorem dX13_goesOn_36 : decode cX13_goesOn 36 = .ok (.aload_n 0, 1) := by decide +kernel
theorem dX13_goesOn_37 : decode cX13_goesOn 37 = .ok (.getfield 83, 3) := by decide +kernel
theorem dX13_goesOn_40 : decode cX13_goesOn 40 = .ok (.putfield 89, 3) := by decide +kernel
theorem dX13_goesOn_43 : decode cX13_goesOn 43 = .ok (.aload_n 0, 1) := by decide +kernel
theorem dX13_goesOn_44 : decode cX13_goesOn 44 = .ok (.iconst 0, 1) := by decide +kernel
theorem dX13_goesOn_45 : decode cX13_goesOn 45 = .ok (.putfield 80, 3) := by decide +kernel
theorem dX13_goesOn_48 : decode cX13_goesOn 48 = .ok (.aload_n 0, 1) := by decide +kernel
theorem dX13_goesOn_49 : decode cX13_goesOn 49 = .ok (.aload_n 0, 1) := by decide +kernel
theorem dX13_goesOn_50 : decode cX13_goesOn 50 = .ok (.getfield 83, 3) := by decide +kernel
theorem dX13_goesOn_53 : decode cX13_goesOn 53 = .ok (.invokevirtual 86, 3) := by decide +kernel
theorem dX13_goesOn_56 : decode cX13_goesOn 56 = .ok (.istore_n 1, 1) := by decide +kernel
theorem dX13_goesOn_57 : decode cX13_goesOn 57 = .ok (.iconst 0, 1) := by decide +kernel
theorem dX13_goesOn_58 : decode cX13_goesOn 58 = .ok (.istore_n 2, 1) := by decide +kernel
theorem dX13_goesOn_59 : decode cX13_goesOn 59 = .ok (.iload_n 1, 1) := by decide +kernel
theorem dX13_goesOn_60 : decode cX13_goesOn 60 = .ok (.iconst (-1), 1) := by decide +kernel
theorem dX13_goesOn_61 : decode cX13_goesOn 61 = .ok (.if_icmp .ne 11, 3) := by decide +kernel
theorem dX13_goesOn_64 : decode cX13_goesOn 64 = .ok (.aload_n 0, 1) := by decide +kernel
theorem dX13_goesOn_65 : decode cX13_goesOn 65 = .ok (.iconst 1, 1) := by decide +kernel
theorem dX13_goesOn_66 : decode cX13_goesOn 66 = .ok (.putfield 80, 3) := by decide +kernel
theorem dX13_goesOn_69 : decode cX13_goesOn 69 = .ok (.goto 196, 3) := by decide +kernel
theorem dX13_goesOn_72 : decode cX13_goesOn 72 = .ok (.iload_n 1, 1) := by decide +kernel
theorem dX13_goesOn_73 : decode cX13_goesOn 73 = .ok (.invokestatic 92, 3) := by decide +kernel
theorem dX13_goesOn_76 : decode cX13_goesOn 76 = .ok (.ifCond .eq 85, 3) := by decide +kernel
theorem dX13_goesOn_79 : decode cX13_goesOn 79 = .ok (.aload_n 0, 1) := by decide +kernel
theorem dX13_goesOn_80 : decode cX13_goesOn 80 = .ok (.lconst 0, 1) := by decide +kernel
theorem dX13_goesOn_81 : decode cX13_goesOn 81 = .ok (.putfield 96, 3) := by decide +kernel
theorem dX13_goesOn_84 : decode cX13_goesOn 84 = .ok (.aload_n 0, 1) := by decide +kernel
theorem dX13_goesOn_85 : decode cX13_goesOn 85 = .ok (.aload_n 0, 1) := by decide +kernel
theorem dX13_goesOn_86 : decode cX13_goesOn 86 = .ok (.getfield 83, 3) := by decide +kernel
theorem dX13_goesOn_89 : decode cX13_goesOn 89 = .ok (.invokevirtual 86, 3) := by decide +kernel
theorem dX13_goesOn_92 : decode cX13_goesOn 92 = .ok (.invokestatic 92, 3) := by decide +kernel
theorem dX13_goesOn_95 : decode cX13_goesOn 95 = .ok (.ifCond .eq 52, 3) := by decide +kernel
theorem dX13_goesOn_98 : decode cX13_goesOn 98 = .ok (.iload_n 2, 1) := by decide +kernel
theorem dX13_goesOn_99 : decode cX13_goesOn 99 = .ok (.bipush 8, 2) := by decide +kernel
theorem dX13_goesOn_101 : decode cX13_goesOn 101 = .ok (.if_icmp .ge 30, 3) := by decide +kernel
theorem dX13_goesOn_104 : decode cX13_goesOn 104 = .ok (.aload_n 0, 1) := by decide +kernel
theorem dX13_goesOn_105 : decode cX13_goesOn 105 = .ok (.ldc2_w 74, 3) := by decide +kernel
theorem dX13_goesOn_108 : decode cX13_goesOn 108 = .ok (.aload_n 0, 1) := by decide +kernel
theorem dX13_goesOn_109 : decode cX13_goesOn 109 = .ok (.getfield 96, 3) := by decide +kernel
theorem dX13_goesOn_112 : decode cX13_goesOn 112 = .ok (.lmul, 1) := by decide +kernel
theorem dX13_goesOn_113 : decode cX13_goesOn 113 = .ok (.aload_n 0, 1) := by decide +kernel
theorem dX13_goesOn_114 : decode cX13_goesOn 114 = .ok (.aload_n 0, 1) := by decide +kernel
theorem dX13_goesOn_115 : decode cX13_goesOn 115 = .ok (.getfield 83, 3) := by decide +kernel
theorem dX13_goesOn_118 : decode cX13_goesOn 118 = .ok (.invokevirtual 86, 3) := by decide +kernel
theorem dX13_goesOn_121 : decode cX13_goesOn 121 = .ok (.bipush 97, 2) := by decide +kernel
theorem dX13_goesOn_123 : decode cX13_goesOn 123 = .ok (.isub, 1) := by decide +kernel
theorem dX13_goesOn_124 : decode cX13_goesOn 124 = .ok (.iconst 1, 1) := by decide +kernel
theorem dX13_goesOn_125 : decode cX13_goesOn 125 = .ok (.iadd, 1) := by decide +kernel
theorem dX13_goesOn_126 : decode cX13_goesOn 126 = .ok (.i2l, 1) := by decide +kernel
theorem dX13_goesOn_127 : decode cX13_goesOn 127 = .ok (.ladd, 1) := by decide +kernel
theorem dX13_goesOn_128 : decode cX13_goesOn 128 = .ok (.putfield 96, 3) := by decide +kernel
theorem dX13_goesOn_131 : decode cX13_goesOn 131 = .ok (.iinc 2 1, 3) := by decide +kernel
theorem dX13_goesOn_134 : decode cX13_goesOn 134 = .ok (.aload_n 0, 1) := by decide +kernel
theorem dX13_goesOn_135 : decode cX13_goesOn 135 = .ok (.dup, 1) := by decide +kernel
theorem dX13_goesOn_136 : decode cX13_goesOn 136 = .ok (.getfield 83, 3) := by decide +kernel
theorem dX13_goesOn_139 : decode cX13_goesOn 139 = .ok (.iconst 1, 1) := by decide +kernel
theorem dX13_goesOn_140 : decode cX13_goesOn 140 = .ok (.iadd, 1) := by decide +kernel
theorem dX13_goesOn_141 : decode cX13_goesOn 141 = .ok (.putfield 83, 3) := by decide +kernel
theorem dX13_goesOn_144 : decode cX13_goesOn 144 = .ok (.goto (-60), 3) := by decide +kernel
theorem dX13_goesOn_147 : decode cX13_goesOn 147 = .ok (.iload_n 2, 1) := by decide +kernel
theorem dX13_goesOn_148 : decode cX13_goesOn 148 = .ok (.bipush 8, 2) := by decide +kernel
theorem dX13_goesOn_150 : decode cX13_goesOn 150 = .ok (.if_icmp .gt 115, 3) := by decide +kernel
theorem dX13_goesOn_153 : decode cX13_goesOn 153 = .ok (.aload_n 0, 1) := by decide +kernel
theorem dX13_goesOn_154 : decode cX13_goesOn 154 = .ok (.iconst 2, 1) := by decide +kernel
theorem dX13_goesOn_155 : decode cX13_goesOn 155 = .ok (.putfield 80, 3) := by decide +kernel
theorem dX13_goesOn_158 : decode cX13_goesOn 158 = .ok (.goto 107, 3) := by decide +kernel
theorem dX13_goesOn_161 : decode cX13_goesOn 161 = .ok (.iload_n 1, 1) := by decide +kernel
theorem dX13_goesOn_162 : decode cX13_goesOn 162 = .ok (.invokestatic 100, 3) := by decide +kernel
theorem dX13_goesOn_165 : decode cX13_goesOn 165 = .ok (.ifCond .eq 79, 3) := by decide +kernel
theorem dX13_goesOn_168 : decode cX13_goesOn 168 = .ok (.aload_n 0, 1) := by decide +kernel
theorem dX13_goesOn_169 : decode cX13_goesOn 169 = .ok (.iconst 0, 1) := by decide +kernel
theorem dX13_goesOn_170 : decode cX13_goesOn 170 = .ok (.putfield 103, 3) := by decide +kernel
theorem dX13_goesOn_173 : decode cX13_goesOn 173 = .ok (.aload_n 0, 1) := by decide +kernel
theorem dX13_goesOn_174 : decode cX13_goesOn 174 = .ok (.aload_n 0, 1) := by decide +kernel
theorem dX13_goesOn_175 : decode cX13_goesOn 175 = .ok (.getfield 83, 3) := by decide +kernel
theorem dX13_goesOn_178 : decode cX13_goesOn 178 = .ok (.invokevirtual 86, 3) := by decide +kernel
theorem dX13_goesOn_181 : decode cX13_goesOn 181 = .ok (.invokestatic 100, 3) := by decide +kernel
theorem dX13_goesOn_184 : decode cX13_goesOn 184 = .ok (.ifCond .eq 47, 3) := by decide +kernel
theorem dX13_goesOn_187 : decode cX13_goesOn 187 = .ok (.iload_n 2, 1) := by decide +kernel
theorem dX13_goesOn_188 : decode cX13_goesOn 188 = .ok (.iconst 3, 1) := by decide +kernel
theorem dX13_goesOn_189 : decode cX13_goesOn 189 = .ok (.if_icmp .ge 26, 3) := by decide +kernel
theorem dX13_goesOn_192 : decode cX13_goesOn 192 = .ok (.aload_n 0, 1) := by decide +kernel
theorem dX13_goesOn_193 : decode cX13_goesOn 193 = .ok (.bipush 10, 2) := by decide +kernel
theorem dX13_goesOn_195 : decode cX13_goesOn 195 = .ok (.aload_n 0, 1) := by decide +kernel
theorem dX13_goesOn_196 : decode cX13_goesOn 196 = .ok (.getfield 103, 3) := by decide +kernel
theorem dX13_goesOn_199 : decode cX13_goesOn 199 = .ok (.imul, 1) := by decide +kernel
theorem dX13_goesOn_200 : decode cX13_goesOn 200 = .ok (.aload_n 0, 1) := by decide +kernel
theorem dX13_goesOn_201 : decode cX13_goesOn 201 = .ok (.aload_n 0, 1) := by decide +kernel
theorem dX13_goesOn_202 : decode cX13_goesOn 202 = .ok (.getfield 83, 3) := by decide +kernel
theorem dX13_goesOn_205 : decode cX13_goesOn 205 = .ok (.invokevirtual 86, 3) := by decide +kernel
theorem dX13_goesOn_208 : decode cX13_goesOn 208 = .ok (.iadd, 1) := by decide +kernel
theorem dX13_goesOn_209 : decode cX13_goesOn 209 = .ok (.bipush 48, 2) := by decide +kernel
theorem dX13_goesOn_211 : decode cX13_goesOn 211 = .ok (.isub, 1) := by decide +kernel
theorem dX13_goesOn_212 : decode cX13_goesOn 212 = .ok (.putfield 103, 3) := by decide +kernel
theorem dX13_goesOn_215 : decode cX13_goesOn 215 = .ok (.iinc 2 1, 3) := by decide +kernel
theorem dX13_goesOn_218 : decode cX13_goesOn 218 = .ok (.aload_n 0, 1) := by decide +kernel
theorem dX13_goesOn_219 : decode cX13_goesOn 219 = .ok (.dup, 1) := by decide +kernel
theorem dX13_goesOn_220 : decode cX13_goesOn 220 = .ok (.getfield 83, 3) := by decide +kernel
theorem dX13_goesOn_223 : decode cX13_goesOn 223 = .ok (.iconst 1, 1) := by decide +kernel
theorem dX13_goesOn_224 : decode cX13_goesOn 224 = .ok (.iadd, 1) := by decide +kernel
theorem dX13_goesOn_225 : decode cX13_goesOn 225 = .ok (.putfield 83, 3) := by decide +kernel
theorem dX13_goesOn_228 : decode cX13_goesOn 228 = .ok (.goto (-55), 3) := by decide +kernel
theorem dX13_goesOn_231 : decode cX13_goesOn 231 = .ok (.iload_n 2, 1) := by decide +kernel
theorem dX13_goesOn_232 : decode cX13_goesOn 232 = .ok (.iconst 3, 1) := by decide +kernel
theorem dX13_goesOn_233 : decode cX13_goesOn 233 = .ok (.if_icmp .gt 32, 3) := by decide +kernel
theorem dX13_goesOn_236 : decode cX13_goesOn 236 = .ok (.aload_n 0, 1) := by decide +kernel
theorem dX13_goesOn_237 : decode cX13_goesOn 237 = .ok (.iconst 3, 1) := by decide +kernel
theorem dX13_goesOn_238 : decode cX13_goesOn 238 = .ok (.putfield 80, 3) := by decide +kernel
theorem dX13_goesOn_241 : decode cX13_goesOn 241 = .ok (.goto 24, 3) := by decide +kernel
theorem dX13_goesOn_244 : decode cX13_goesOn 244 = .ok (.iload_n 1, 1) := by decide +kernel
theorem dX13_goesOn_245 : decode cX13_goesOn 245 = .ok (.bipush 59, 2) := by decide +kernel
theorem dX13_goesOn_247 : decode cX13_goesOn 247 = .ok (.if_icmp .ne 18, 3) := by decide +kernel
theorem dX13_goesOn_250 : decode cX13_goesOn 250 = .ok (.aload_n 0, 1) := by decide +kernel
theorem dX13_goesOn_251 : decode cX13_goesOn 251 = .ok (.iconst 4, 1) := by decide +kernel
theorem dX13_goesOn_252 : decode cX13_goesOn 252 = .ok (.putfield 80, 3) := by decide +kernel
theorem dX13_goesOn_255 : decode cX13_goesOn 255 = .ok (.aload_n 0, 1) := by decide +kernel
theorem dX13_goesOn_256 : decode cX13_goesOn 256 = .ok (.dup, 1) := by decide +kernel
theorem dX13_goesOn_257 : decode cX13_goesOn 257 = .ok (.getfield 83, 3) := by decide +kernel
theorem dX13_goesOn_260 : decode cX13_goesOn 260 = .ok (.iconst 1, 1) := by decide +kernel
theorem dX13_goesOn_261 : decode cX13_goesOn 261 = .ok (.iadd, 1) := by decide +kernel
theorem dX13_goesOn_262 : decode cX13_goesOn 262 = .ok (.putfield 83, 3) := by decide +kernel
theorem dX13_goesOn_265 : decode cX13_goesOn 265 = .ok (.return_, 1) := by decide +kernel
theorem dX13_flaw_0 : decode cX13_flaw 0 = .ok (.aload_n 0, 1) := by decide +kernel
theorem dX13_flaw_1 : decode cX13_flaw 1 = .ok (.getfield 80, 3) := by decide +kernel
theorem dX13_flaw_4 : decode cX13_flaw 4 = .ok (.iconst 5, 1) := by decide +kernel
theorem dX13_flaw_5 : decode cX13_flaw 5 = .ok (.if_icmp .ne 4, 3) := by decide +kernel
theorem dX13_flaw_8 : decode cX13_flaw 8 = .ok (.return_, 1) := by decide +kernel
theorem dX13_flaw_9 : decode cX13_flaw 9 = .ok (.aload_n 0, 1) := by decide +kernel
theorem dX13_flaw_10 : decode cX13_flaw 10 = .ok (.iload_n 1, 1) := by decide +kernel
theorem dX13_flaw_11 : decode cX13_flaw 11 = .ok (.putfield 106, 3) := by decide +kernel
theorem dX13_flaw_14 : decode cX13_flaw 14 = .ok (.aload_n 0, 1) := by decide +kernel
theorem dX13_flaw_15 : decode cX13_flaw 15 = .ok (.aload_n 0, 1) := by decide +kernel
theorem dX13_flaw_16 : decode cX13_flaw 16 = .ok (.getfield 89, 3) := by decide +kernel
theorem dX13_flaw_19 : decode cX13_flaw 19 = .ok (.putfield 109, 3) := by decide +kernel
theorem dX13_flaw_22 : decode cX13_flaw 22 = .ok (.aload_n 0, 1) := by decide +kernel
theorem dX13_flaw_23 : decode cX13_flaw 23 = .ok (.iconst 5, 1) := by decide +kernel
theorem dX13_flaw_24 : decode cX13_flaw 24 = .ok (.putfield 80, 3) := by decide +kernel
theorem dX13_flaw_27 : decode cX13_flaw 27 = .ok (.return_, 1) := by decide +kernel
theorem dX13_eatsSemicolon_0 : decode cX13_eatsSemicolon 0 = .ok (.aload_n 0, 1) := by decide +kernel
theorem dX13_eatsSemicolon_1 : decode cX13_eatsSemicolon 1 = .ok (.getfield 80, 3) := by decide +kernel
theorem dX13_eatsSemicolon_4 : decode cX13_eatsSemicolon 4 = .ok (.iconst 4, 1) := by decide +kernel
theorem dX13_eatsSemicolon_5 : decode cX13_eatsSemicolon 5 = .ok (.if_icmp .ne 7, 3) := by decide +kernel
theorem dX13_eatsSemicolon_8 : decode cX13_eatsSemicolon 8 = .ok (.iconst 1, 1) := by decide +kernel
theorem dX13_eatsSemicolon_9 : decode cX13_eatsSemicolon 9 = .ok (.goto 4, 3) := by decide +kernel
theorem dX13_eatsSemicolon_12 : decode cX13_eatsSemicolon 12 = .ok (.iconst 0, 1) := by decide +kernel
theorem dX13_eatsSemicolon_13 : decode cX13_eatsSemicolon 13 = .ok (.istore_n 1, 1) := by decide +kernel
theorem dX13_eatsSemicolon_14 : decode cX13_eatsSemicolon 14 = .ok (.iload_n 1, 1) := by decide +kernel
theorem dX13_eatsSemicolon_15 : decode cX13_eatsSemicolon 15 = .ok (.ifCond .eq 7, 3) := by decide +kernel
theorem dX13_eatsSemicolon_18 : decode cX13_eatsSemicolon 18 = .ok (.aload_n 0, 1) := by decide +kernel
theorem dX13_eatsSemicolon_19 : decode cX13_eatsSemicolon 19 = .ok (.invokevirtual 116, 3) := by decide +kernel
theorem dX13_eatsSemicolon_22 : decode cX13_eatsSemicolon 22 = .ok (.iload_n 1, 1) := by decide +kernel
theorem dX13_eatsSemicolon_23 : decode cX13_eatsSemicolon 23 = .ok (.ireturn, 1) := by decide +kernel
theorem dX13_lineBegins_0 : decode cX13_lineBegins 0 = .ok (.iload_n 1, 1) := by decide +kernel
theorem dX13_lineBegins_1 : decode cX13_lineBegins 1 = .ok (.iload_n 2, 1) := by decide +kernel
theorem dX13_lineBegins_2 : decode cX13_lineBegins 2 = .ok (.if_icmp .ne 8, 3) := by decide +kernel
theorem dX13_lineBegins_5 : decode cX13_lineBegins 5 = .ok (.aload_n 0, 1) := by decide +kernel
theorem dX13_lineBegins_6 : decode cX13_lineBegins 6 = .ok (.iconst 5, 1) := by decide +kernel
theorem dX13_lineBegins_7 : decode cX13_lineBegins 7 = .ok (.invokevirtual 123, 3) := by decide +kernel
theorem dX13_lineBegins_10 : decode cX13_lineBegins 10 = .ok (.aload_n 0, 1) := by decide +kernel
theorem dX13_lineBegins_11 : decode cX13_lineBegins 11 = .ok (.getfield 149, 3) := by decide +kernel
theorem dX13_lineBegins_14 : decode cX13_lineBegins 14 = .ok (.getfield 153, 3) := by decide +kernel
theorem dX13_lineBegins_17 : decode cX13_lineBegins 17 = .ok (.ifCond .ne 9, 3) := by decide +kernel
theorem dX13_lineBegins_20 : decode cX13_lineBegins 20 = .ok (.aload_n 0, 1) := by decide +kernel
theorem dX13_lineBegins_21 : decode cX13_lineBegins 21 = .ok (.bipush 6, 2) := by decide +kernel
theorem dX13_lineBegins_23 : decode cX13_lineBegins 23 = .ok (.invokevirtual 123, 3) := by decide +kernel
theorem dX13_lineBegins_26 : decode cX13_lineBegins 26 = .ok (.aload_n 0, 1) := by decide +kernel
theorem dX13_lineBegins_27 : decode cX13_lineBegins 27 = .ok (.invokevirtual 116, 3) := by decide +kernel
theorem dX13_lineBegins_30 : decode cX13_lineBegins 30 = .ok (.return_, 1) := by decide +kernel
theorem dX13_names_0 : decode cX13_names 0 = .ok (.aload_n 0, 1) := by decide +kernel
theorem dX13_names_1 : decode cX13_names 1 = .ok (.getfield 149, 3) := by decide +kernel
theorem dX13_names_4 : decode cX13_names 4 = .ok (.getfield 166, 3) := by decide +kernel
theorem dX13_names_7 : decode cX13_names 7 = .ok (.aload_n 0, 1) := by decide +kernel
theorem dX13_names_8 : decode cX13_names 8 = .ok (.getfield 149, 3) := by decide +kernel
theorem dX13_names_11 : decode cX13_names 11 = .ok (.getfield 170, 3) := by decide +kernel
theorem dX13_names_14 : decode cX13_names 14 = .ok (.lload_n 1, 1) := by decide +kernel
theorem dX13_names_15 : decode cX13_names 15 = .ok (.lastore, 1) := by decide +kernel
theorem dX13_names_16 : decode cX13_names 16 = .ok (.aload_n 0, 1) := by decide +kernel
theorem dX13_names_17 : decode cX13_names 17 = .ok (.getfield 149, 3) := by decide +kernel
theorem dX13_names_20 : decode cX13_names 20 = .ok (.getfield 173, 3) := by decide +kernel
theorem dX13_names_23 : decode cX13_names 23 = .ok (.aload_n 0, 1) := by decide +kernel
theorem dX13_names_24 : decode cX13_names 24 = .ok (.getfield 149, 3) := by decide +kernel
theorem dX13_names_27 : decode cX13_names 27 = .ok (.getfield 170, 3) := by decide +kernel
theorem dX13_names_30 : decode cX13_names 30 = .ok (.iload_n 3, 1) := by decide +kernel
theorem dX13_names_31 : decode cX13_names 31 = .ok (.iastore, 1) := by decide +kernel
theorem dX13_names_32 : decode cX13_names 32 = .ok (.aload_n 0, 1) := by decide +kernel
theorem dX13_names_33 : decode cX13_names 33 = .ok (.getfield 149, 3) := by decide +kernel
theorem dX13_names_36 : decode cX13_names 36 = .ok (.getfield 176, 3) := by decide +kernel
theorem dX13_names_39 : decode cX13_names 39 = .ok (.aload_n 0, 1) := by decide +kernel
theorem dX13_names_40 : decode cX13_names 40 = .ok (.getfield 149, 3) := by decide +kernel
theorem dX13_names_43 : decode cX13_names 43 = .ok (.getfield 170, 3) := by decide +kernel
theorem dX13_names_46 : decode cX13_names 46 = .ok (.iload 4, 2) := by decide +kernel
theorem dX13_names_48 : decode cX13_names 48 = .ok (.iastore, 1) := by decide +kernel
theorem dX13_names_49 : decode cX13_names 49 = .ok (.aload_n 0, 1) := by decide +kernel
theorem dX13_names_50 : decode cX13_names 50 = .ok (.getfield 149, 3) := by decide +kernel
theorem dX13_names_53 : decode cX13_names 53 = .ok (.dup, 1) := by decide +kernel
theorem dX13_names_54 : decode cX13_names 54 = .ok (.getfield 170, 3) := by decide +kernel
theorem dX13_names_57 : decode cX13_names 57 = .ok (.iconst 1, 1) := by decide +kernel
theorem dX13_names_58 : decode cX13_names 58 = .ok (.iadd, 1) := by decide +kernel
theorem dX13_names_59 : decode cX13_names 59 = .ok (.putfield 170, 3) := by decide +kernel
theorem dX13_names_62 : decode cX13_names 62 = .ok (.return_, 1) := by decide +kernel
theorem dX13_feed_0 : decode cX13_feed 0 = .ok (.aload_n 0, 1) := by decide +kernel
theorem dX13_feed_1 : decode cX13_feed 1 = .ok (.iconst 0, 1) := by decide +kernel
theorem dX13_feed_2 : decode cX13_feed 2 = .ok (.putfield 48, 3) := by decide +kernel
theorem dX13_feed_5 : decode cX13_feed 5 = .ok (.aload_n 0, 1) := by decide +kernel
theorem dX13_feed_6 : decode cX13_feed 6 = .ok (.getfield 282, 3) := by decide +kernel
theorem dX13_feed_9 : decode cX13_feed 9 = .ok (.bipush 20, 2) := by decide +kernel
theorem dX13_feed_11 : decode cX13_feed 11 = .ok (.iadd, 1) := by decide +kernel
theorem dX13_feed_12 : decode cX13_feed 12 = .ok (.sipush 900, 3) := by decide +kernel
theorem dX13_feed_15 : decode cX13_feed 15 = .ok (.if_icmp .le 5, 3) := by decide +kernel
theorem dX13_feed_18 : decode cX13_feed 18 = .ok (.iconst (-1), 1) := by decide +kernel
theorem dX13_feed_19 : decode cX13_feed 19 = .ok (.ireturn, 1) := by decide +kernel
theorem dX13_feed_20 : decode cX13_feed 20 = .ok (.iconst 0, 1) := by decide +kernel
theorem dX13_feed_21 : decode cX13_feed 21 = .ok (.istore 6, 2) := by decide +kernel
theorem dX13_feed_23 : decode cX13_feed 23 = .ok (.iload 6, 2) := by decide +kernel
theorem dX13_feed_25 : decode cX13_feed 25 = .ok (.bipush 20, 2) := by decide +kernel
theorem dX13_feed_27 : decode cX13_feed 27 = .ok (.if_icmp .ge 90, 3) := by decide +kernel
theorem dX13_feed_30 : decode cX13_feed 30 = .ok (.iload 6, 2) := by decide +kernel
theorem dX13_feed_32 : decode cX13_feed 32 = .ok (.iconst 4, 1) := by decide +kernel
theorem dX13_feed_33 : decode cX13_feed 33 = .ok (.if_icmp .ge 7, 3) := by decide +kernel
theorem dX13_feed_36 : decode cX13_feed 36 = .ok (.iload_n 1, 1) := by decide +kernel
theorem dX13_feed_37 : decode cX13_feed 37 = .ok (.goto 39, 3) := by decide +kernel
theorem dX13_feed_40 : decode cX13_feed 40 = .ok (.iload 6, 2) := by decide +kernel
theorem dX13_feed_42 : decode cX13_feed 42 = .ok (.bipush 8, 2) := by decide +kernel
theorem dX13_feed_44 : decode cX13_feed 44 = .ok (.if_icmp .ge 7, 3) := by decide +kernel
theorem dX13_feed_47 : decode cX13_feed 47 = .ok (.iload_n 2, 1) := by decide +kernel
theorem dX13_feed_48 : decode cX13_feed 48 = .ok (.goto 28, 3) := by decide +kernel
theorem dX13_feed_51 : decode cX13_feed 51 = .ok (.iload 6, 2) := by decide +kernel
theorem dX13_feed_53 : decode cX13_feed 53 = .ok (.bipush 12, 2) := by decide +kernel
theorem dX13_feed_55 : decode cX13_feed 55 = .ok (.if_icmp .ge 7, 3) := by decide +kernel
theorem dX13_feed_58 : decode cX13_feed 58 = .ok (.iload_n 3, 1) := by decide +kernel
theorem dX13_feed_59 : decode cX13_feed 59 = .ok (.goto 17, 3) := by decide +kernel
theorem dX13_feed_62 : decode cX13_feed 62 = .ok (.iload 6, 2) := by decide +kernel
theorem dX13_feed_64 : decode cX13_feed 64 = .ok (.bipush 16, 2) := by decide +kernel
theorem dX13_feed_66 : decode cX13_feed 66 = .ok (.if_icmp .ge 8, 3) := by decide +kernel
theorem dX13_feed_69 : decode cX13_feed 69 = .ok (.iload 4, 2) := by decide +kernel
theorem dX13_feed_71 : decode cX13_feed 71 = .ok (.goto 5, 3) := by decide +kernel
theorem dX13_feed_74 : decode cX13_feed 74 = .ok (.iload 5, 2) := by decide +kernel
theorem dX13_feed_76 : decode cX13_feed 76 = .ok (.istore 7, 2) := by decide +kernel
theorem dX13_feed_78 : decode cX13_feed 78 = .ok (.aload_n 0, 1) := by decide +kernel
theorem dX13_feed_79 : decode cX13_feed 79 = .ok (.getfield 13, 3) := by decide +kernel
theorem dX13_feed_82 : decode cX13_feed 82 = .ok (.aload_n 0, 1) := by decide +kernel
theorem dX13_feed_83 : decode cX13_feed 83 = .ok (.getfield 282, 3) := by decide +kernel
theorem dX13_feed_86 : decode cX13_feed 86 = .ok (.iload 7, 2) := by decide +kernel
theorem dX13_feed_88 : decode cX13_feed 88 = .ok (.bipush 24, 2) := by decide +kernel
theorem dX13_feed_90 : decode cX13_feed 90 = .ok (.bipush 8, 2) := by decide +kernel
theorem dX13_feed_92 : decode cX13_feed 92 = .ok (.iload 6, 2) := by decide +kernel
theorem dX13_feed_94 : decode cX13_feed 94 = .ok (.iconst 4, 1) := by decide +kernel
theorem dX13_feed_95 : decode cX13_feed 95 = .ok (.irem, 1) := by decide +kernel
theorem dX13_feed_96 : decode cX13_feed 96 = .ok (.imul, 1) := by decide +kernel
theorem dX13_feed_97 : decode cX13_feed 97 = .ok (.isub, 1) := by decide +kernel
theorem dX13_feed_98 : decode cX13_feed 98 = .ok (.ishr, 1) := by decide +kernel
theorem dX13_feed_99 : decode cX13_feed 99 = .ok (.i2b, 1) := by decide +kernel
theorem dX13_feed_100 : decode cX13_feed 100 = .ok (.bastore, 1) := by decide +kernel
theorem dX13_feed_101 : decode cX13_feed 101 = .ok (.aload_n 0, 1) := by decide +kernel
theorem dX13_feed_102 : decode cX13_feed 102 = .ok (.dup, 1) := by decide +kernel
theorem dX13_feed_103 : decode cX13_feed 103 = .ok (.getfield 282, 3) := by decide +kernel
theorem dX13_feed_106 : decode cX13_feed 106 = .ok (.iconst 1, 1) := by decide +kernel
theorem dX13_feed_107 : decode cX13_feed 107 = .ok (.iadd, 1) := by decide +kernel
theorem dX13_feed_108 : decode cX13_feed 108 = .ok (.putfield 282, 3) := by decide +kernel
theorem dX13_feed_111 : decode cX13_feed 111 = .ok (.iinc 6 1, 3) := by decide +kernel
theorem dX13_feed_114 : decode cX13_feed 114 = .ok (.goto (-91), 3) := by decide +kernel
theorem dX13_feed_117 : decode cX13_feed 117 = .ok (.aload_n 0, 1) := by decide +kernel
theorem dX13_feed_118 : decode cX13_feed 118 = .ok (.getfield 282, 3) := by decide +kernel
theorem dX13_feed_121 : decode cX13_feed 121 = .ok (.ireturn, 1) := by decide +kernel
theorem dX13_fault_0 : decode cX13_fault 0 = .ok (.aload_n 0, 1) := by decide +kernel
theorem dX13_fault_1 : decode cX13_fault 1 = .ok (.iconst 0, 1) := by decide +kernel
theorem dX13_fault_2 : decode cX13_fault 2 = .ok (.putfield 48, 3) := by decide +kernel
theorem dX13_fault_5 : decode cX13_fault 5 = .ok (.aload_n 0, 1) := by decide +kernel
theorem dX13_fault_6 : decode cX13_fault 6 = .ok (.getfield 106, 3) := by decide +kernel
theorem dX13_fault_9 : decode cX13_fault 9 = .ok (.ireturn, 1) := by decide +kernel
theorem dX13_where_0 : decode cX13_where 0 = .ok (.aload_n 0, 1) := by decide +kernel
theorem dX13_where_1 : decode cX13_where 1 = .ok (.iconst 0, 1) := by decide +kernel
theorem dX13_where_2 : decode cX13_where 2 = .ok (.putfield 48, 3) := by decide +kernel
theorem dX13_where_5 : decode cX13_where 5 = .ok (.aload_n 0, 1) := by decide +kernel
theorem dX13_where_6 : decode cX13_where 6 = .ok (.getfield 9, 3) := by decide +kernel
theorem dX13_where_9 : decode cX13_where 9 = .ok (.ireturn, 1) := by decide +kernel
def m_X13_goesOn (t : Nat) (σ : jd_Hp) : Option (Unit × jd_Hp) :=
jd_if (¬ (σ.2.1 t 9) = 5) (
jd_b (jd_lp (S := Unit) (T := Unit) (fun s1 σ1 =>
jd_o σ1 (13, 29) (some t) fun a3 =>
jd_b (m_X13_byteAt a3 (σ1.2.1 a3 8) σ1) fun r4 σ4 =>
jd_if (¬ r4 = 32) (
some ((Sum.inr ()), σ4)) (
jd_li (jd_pi σ4 a3 8 ((σ4.2.1 a3 8) + 1)) fun τ5 =>
some (Sum.inl (), τ5))) jd_fu () σ) fun t2 σ2 =>
jd_o σ2 (13, 29) (some t) fun a6 =>
jd_li (jd_pi σ2 a6 10 (σ2.2.1 a6 8)) fun τ7 =>
jd_li (jd_pi τ7 a6 9 0) fun τ8 =>
jd_b (m_X13_byteAt a6 (τ8.2.1 a6 8) τ8) fun r9 σ9 =>
jd_if (¬ r9 = (-1)) (
jd_b (m_X13_isLetter r9 σ9) fun r10 σ10 =>
jd_if (r10 = 0) (
jd_b (m_X13_isDigit r9 σ10) fun r11 σ11 =>
jd_if (r11 = 0) (
jd_if (¬ r9 = 59) (
some ((), σ11)) (
jd_li (jd_pi σ11 a6 9 4) fun τ12 =>
jd_li (jd_pi τ12 a6 8 ((τ12.2.1 a6 8) + 1)) fun τ13 =>
some ((), τ13))) (
jd_li (jd_pi σ11 a6 11 0) fun τ14 =>
jd_b (jd_lp (S := Int32) (T := Int32) (fun s15 σ15 =>
jd_o σ15 (13, 29) (some t) fun a17 =>
jd_b (m_X13_byteAt a17 (σ15.2.1 a17 8) σ15) fun r18 σ18 =>
jd_b (m_X13_isDigit r18 σ18) fun r19 σ19 =>
jd_if (r19 = 0) (
some ((Sum.inr s15), σ19)) (
jd_b (α := Unit) (
jd_if (3 ≤ s15) (
some ((), σ19)) (
jd_b (m_X13_byteAt a17 (σ19.2.1 a17 8) σ19) fun r23 σ23 =>
jd_li (jd_pi σ23 a17 11 (((10 * (σ19.2.1 a17 11)) + r23) - 48)) fun τ24 =>
some ((), τ24))) fun t22 σ22 =>
jd_o σ22 (13, 29) (some t) fun a25 =>
jd_li (jd_pi σ22 a25 8 ((σ22.2.1 a25 8) + 1)) fun τ26 =>
some (Sum.inl (s15 + 1), τ26))) jd_fu 0 τ14) fun t16 σ16 =>
jd_if (3 < t16) (
some ((), σ16)) (
jd_o σ16 (13, 29) (some t) fun a27 =>
jd_li (jd_pi σ16 a27 9 3) fun τ28 =>
some ((), τ28)))) (
jd_li (jd_pl σ10 a6 14 0) fun τ29 =>
jd_b (jd_lp (S := Int32) (T := Int32) (fun s30 σ30 =>
jd_o σ30 (13, 29) (some t) fun a32 =>
jd_b (m_X13_byteAt a32 (σ30.2.1 a32 8) σ30) fun r33 σ33 =>
jd_b (m_X13_isLetter r33 σ33) fun r34 σ34 =>
jd_if (r34 = 0) (
some ((Sum.inr s30), σ34)) (
jd_b (α := Unit) (
jd_if (8 ≤ s30) (
some ((), σ34)) (
jd_b (m_X13_byteAt a32 (σ34.2.1 a32 8) σ34) fun r38 σ38 =>
jd_li (jd_pl σ38 a32 14 ((32 * (σ34.2.2.1 a32 14)) + ((r38 - 97) + 1).toInt64)) fun τ39 =>
some ((), τ39))) fun t37 σ37 =>
jd_o σ37 (13, 29) (some t) fun a40 =>
jd_li (jd_pi σ37 a40 8 ((σ37.2.1 a40 8) + 1)) fun τ41 =>
some (Sum.inl (s30 + 1), τ41))) jd_fu 0 τ29) fun t31 σ31 =>
jd_if (8 < t31) (
some ((), σ31)) (
jd_o σ31 (13, 29) (some t) fun a42 =>
jd_li (jd_pi σ31 a42 9 2) fun τ43 =>
some ((), τ43)))) (
jd_li (jd_pi σ9 a6 9 1) fun τ44 =>
some ((), τ44))) (
some ((), σ))
set_option maxHeartbeats 4000000 in
set_option maxRecDepth 20000 in
theorem c_X13_goesOn {l : Launch} {s0 : State} {G : jd_G} (hF : jd_F s0 G) (σ : jd_Hp) (t : Nat) (ht : σ.1[t]? = some (13, 29)) : jd_M l s0 G yX13_goesOn cX13_goesOn 3 none 1 je_v [jd_v G (some t)] σ (m_X13_goesOn t σ) := by
  refine jd_enter hF (by decide) (fun G => [some (jd_v G (some t)), none, none]) rfl (by simp [lv_args, jd_al, jd_v_cat, jd_cti, jd_ctl]) (by simp [lg_sl, jd_v_cat, jd_cti, jd_ctl]) (fun X hD hX => ?_)
  have hX : jd_C X RX13 "goesOn" cX13_goesOn 3 none := hX
  unfold m_X13_goesOn
  refine jr_ald0 (pc := 0) hX dX13_goesOn_0 ?_
  refine jr_geti (pc := 1) hX fX13_80 rfl dX13_goesOn_1 ht ?_
  refine jr_iconst (pc := 4) hX 5 rfl dX13_goesOn_4 ?_
  refine jr_icne (pc := 5) hX 9 dX13_goesOn_5 (by decide) ?_ ?_
  · refine jr_loop (pc := 9) (fun (s1 : Unit) => [some (jd_v (jd_gG X) (some t)), none, none]) (fun (t2 : Unit) => [some (jd_v (jd_gG X) (some t)), none, none]) 35 () (fun t2 σ2 => ?_) (fun K1 bk1 ex1 s1 σ1 => ?_)
    · refine jr_ald0 (pc := 35) hX dX13_goesOn_35 ?_
      refine jr_ald0 (pc := 36) hX dX13_goesOn_36 ?_
      refine jr_ck0 (fun a6 e6 h6 => ?_)
      refine jr_geti (pc := 37) hX fX13_83 rfl dX13_goesOn_37 h6 ?_
      refine jr_ek1 e6 ?_
      refine jr_puti (pc := 40) hX fX13_89 rfl dX13_goesOn_40 h6 ?_
      refine jr_li ?_
      refine jr_ald0 (pc := 43) hX dX13_goesOn_43 ?_
      refine jr_iconst (pc := 44) hX 0 rfl dX13_goesOn_44 ?_
      refine jr_ek1 e6 ?_
      refine jr_puti (pc := 45) hX fX13_80 rfl dX13_goesOn_45 h6 ?_
      refine jr_li ?_
      refine jr_ald0 (pc := 48) hX dX13_goesOn_48 ?_
      refine jr_ald0 (pc := 49) hX dX13_goesOn_49 ?_
      refine jr_ek0 e6 ?_
      refine jr_geti (pc := 50) hX fX13_83 rfl dX13_goesOn_50 h6 ?_
      refine jr_ek1 e6 ?_
      refine jr_cV1i (pc := 53) hX lX13_86 (c_X13_byteAt hX.F (jd_pi (jd_pi σ2 a6 10 (σ2.2.1 a6 8)) a6 9 0) a6 h6 _) (jd_dd hD rfl) (Nat.le_of_ble_eq_true rfl) dX13_goesOn_53 h6 (fun r9 σ9 p9 => ?_)
      refine jr_ist1 (pc := 56) hX (jn_r _ _) dX13_goesOn_56 ?_
      refine jr_iconst (pc := 57) hX 0 rfl dX13_goesOn_57 ?_
      refine jr_ist2 (pc := 58) hX (jn_i _) dX13_goesOn_58 ?_
      refine jr_ild1 (pc := 59) hX dX13_goesOn_59 ?_
      refine jr_iconst (pc := 60) hX (-1) rfl dX13_goesOn_60 ?_
      refine jr_icne (pc := 61) hX 72 dX13_goesOn_61 (by decide) ?_ ?_
      · refine jr_ild1 (pc := 72) hX dX13_goesOn_72 ?_
        refine jr_cS1i (pc := 73) hX lX13_92 (c_X13_isLetter hX.F σ9 _) (jd_dd hD rfl) (Nat.le_of_ble_eq_true rfl) dX13_goesOn_73 (fun r10 σ10 p10 => ?_)
        refine jr_ifeq (pc := 76) hX 161 dX13_goesOn_76 (by decide) ?_ ?_
        · refine jr_ild1 (pc := 161) hX dX13_goesOn_161 ?_
          refine jr_cS1i (pc := 162) hX lX13_100 (c_X13_isDigit hX.F σ10 _) (jd_dd hD rfl) (Nat.le_of_ble_eq_true rfl) dX13_goesOn_162 (fun r11 σ11 p11 => ?_)
          refine jr_ifeq (pc := 165) hX 244 dX13_goesOn_165 (by decide) ?_ ?_
          · refine jr_ild1 (pc := 244) hX dX13_goesOn_244 ?_
            refine jr_bipush (pc := 245) hX 59 rfl dX13_goesOn_245 ?_
            refine jr_icne (pc := 247) hX 265 dX13_goesOn_247 (by decide) ?_ ?_
            · exact jr_vret (pc := 265) hX dX13_goesOn_265 rfl
            · refine jr_ald0 (pc := 250) hX dX13_goesOn_250 ?_
              refine jr_iconst (pc := 251) hX 4 rfl dX13_goesOn_251 ?_
              refine jr_ek1 e6 ?_
              refine jr_puti (pc := 252) hX fX13_80 rfl dX13_goesOn_252 (p11.at (p10.at (p9.at h6 :) :) :) ?_
              refine jr_li ?_
              refine jr_ald0 (pc := 255) hX dX13_goesOn_255 ?_
              refine jr_dup (pc := 256) hX (jd_v_cat _ _) dX13_goesOn_256 ?_
              refine jr_ek0 e6 ?_
              refine jr_geti (pc := 257) hX fX13_83 rfl dX13_goesOn_257 (p11.at (p10.at (p9.at h6 :) :) :) ?_
              refine jr_iconst (pc := 260) hX 1 rfl dX13_goesOn_260 ?_
              refine jr_iadd (pc := 261) hX dX13_goesOn_261 ?_
              refine jr_ek1 e6 ?_
              refine jr_puti (pc := 262) hX fX13_83 rfl dX13_goesOn_262 (p11.at (p10.at (p9.at h6 :) :) :) ?_
              refine jr_li ?_
              exact jr_vret (pc := 265) hX dX13_goesOn_265 rfl
          · refine jr_ald0 (pc := 168) hX dX13_goesOn_168 ?_
            refine jr_iconst (pc := 169) hX 0 rfl dX13_goesOn_169 ?_
            refine jr_ek1 e6 ?_
            refine jr_puti (pc := 170) hX fX13_103 rfl dX13_goesOn_170 (p11.at (p10.at (p9.at h6 :) :) :) ?_
            refine jr_li ?_
            refine jr_wk [true, false, true] ?_
            refine jr_loop (pc := 173) (fun (s15 : Int32) => [some (jd_v (jd_gG X) (some t)), none, some (.int s15)]) (fun (t16 : Int32) => [some (jd_v (jd_gG X) (some t)), none, some (.int t16)]) 231 0 (fun t16 σ16 => ?_) (fun K15 bk15 ex15 s15 σ15 => ?_)
            · refine jr_ild2 (pc := 231) hX dX13_goesOn_231 ?_
              refine jr_iconst (pc := 232) hX 3 rfl dX13_goesOn_232 ?_
              refine jr_icgt (pc := 233) hX 265 dX13_goesOn_233 (by decide) ?_ ?_
              · exact jr_vret (pc := 265) hX dX13_goesOn_265 rfl
              · refine jr_ald0 (pc := 236) hX dX13_goesOn_236 ?_
                refine jr_iconst (pc := 237) hX 3 rfl dX13_goesOn_237 ?_
                refine jr_ck1 (fun a27 e27 h27 => ?_)
                refine jr_puti (pc := 238) hX fX13_80 rfl dX13_goesOn_238 h27 ?_
                refine jr_li ?_
                refine jr_goto (pc := 241) hX 265 dX13_goesOn_241 (by decide) ?_
                exact jr_vret (pc := 265) hX dX13_goesOn_265 rfl
            · refine jr_ald0 (pc := 173) hX dX13_goesOn_173 ?_
              refine jr_ald0 (pc := 174) hX dX13_goesOn_174 ?_
              refine jr_ck0 (fun a17 e17 h17 => ?_)
              refine jr_geti (pc := 175) hX fX13_83 rfl dX13_goesOn_175 h17 ?_
              refine jr_ek1 e17 ?_
              refine jr_cV1i (pc := 178) hX lX13_86 (c_X13_byteAt hX.F σ15 a17 h17 _) (jd_dd hD rfl) (Nat.le_of_ble_eq_true rfl) dX13_goesOn_178 h17 (fun r18 σ18 p18 => ?_)
              refine jr_cS1i (pc := 181) hX lX13_100 (c_X13_isDigit hX.F σ18 _) (jd_dd hD rfl) (Nat.le_of_ble_eq_true rfl) dX13_goesOn_181 (fun r19 σ19 p19 => ?_)
              refine jr_ifeq (pc := 184) hX 231 dX13_goesOn_184 (by decide) ?_ ?_
              · exact ex15 s15 _
              · refine jr_ild2 (pc := 187) hX dX13_goesOn_187 ?_
                refine jr_iconst (pc := 188) hX 3 rfl dX13_goesOn_188 ?_
                refine jr_join (pc := 189) 215 (fun (t22 : Unit) => [some (jd_v (jd_gG X) (some t)), none, some (.int s15)]) (fun (t22 : Unit) => []) (fun t22 σ22 => ?_) (fun K22 jj22 => ?_)
                · refine jr_inc2 (pc := 215) hX 1 rfl jn_n dX13_goesOn_215 ?_
                  refine jr_ald0 (pc := 218) hX dX13_goesOn_218 ?_
                  refine jr_dup (pc := 219) hX (jd_v_cat _ _) dX13_goesOn_219 ?_
                  refine jr_ck0 (fun a25 e25 h25 => ?_)
                  refine jr_geti (pc := 220) hX fX13_83 rfl dX13_goesOn_220 h25 ?_
                  refine jr_iconst (pc := 223) hX 1 rfl dX13_goesOn_223 ?_
                  refine jr_iadd (pc := 224) hX dX13_goesOn_224 ?_
                  refine jr_ek1 e25 ?_
                  refine jr_puti (pc := 225) hX fX13_83 rfl dX13_goesOn_225 h25 ?_
                  refine jr_li ?_
                  refine jr_goto (pc := 228) hX 173 dX13_goesOn_228 (by decide) ?_
                  exact bk15 (s15 + 1) _
                · refine jr_icge (pc := 189) hX 215 dX13_goesOn_189 (by decide) ?_ ?_
                  · exact jj22 () _
                  · refine jr_ald0 (pc := 192) hX dX13_goesOn_192 ?_
                    refine jr_bipush (pc := 193) hX 10 rfl dX13_goesOn_193 ?_
                    refine jr_ald0 (pc := 195) hX dX13_goesOn_195 ?_
                    refine jr_ek0 e17 ?_
                    refine jr_geti (pc := 196) hX fX13_103 rfl dX13_goesOn_196 (p19.at (p18.at h17 :) :) ?_
                    refine jr_imul (pc := 199) hX dX13_goesOn_199 ?_
                    refine jr_ald0 (pc := 200) hX dX13_goesOn_200 ?_
                    refine jr_ald0 (pc := 201) hX dX13_goesOn_201 ?_
                    refine jr_ek0 e17 ?_
                    refine jr_geti (pc := 202) hX fX13_83 rfl dX13_goesOn_202 (p19.at (p18.at h17 :) :) ?_
                    refine jr_ek1 e17 ?_
                    refine jr_cV1i (pc := 205) hX lX13_86 (c_X13_byteAt hX.F σ19 a17 (p19.at (p18.at h17 :) :) _) (jd_dd hD rfl) (by simp [jd_v_cat, jd_cti, jd_ctl]) dX13_goesOn_205 (p19.at (p18.at h17 :) :) (fun r23 σ23 p23 => ?_)
                    refine jr_iadd (pc := 208) hX dX13_goesOn_208 ?_
                    refine jr_bipush (pc := 209) hX 48 rfl dX13_goesOn_209 ?_
                    refine jr_isub (pc := 211) hX dX13_goesOn_211 ?_
                    refine jr_ek1 e17 ?_
                    refine jr_puti (pc := 212) hX fX13_103 rfl dX13_goesOn_212 (p23.at (p19.at (p18.at h17 :) :) :) ?_
                    refine jr_li ?_
                    exact jj22 () _
        · refine jr_ald0 (pc := 79) hX dX13_goesOn_79 ?_
          refine jr_lconst (pc := 80) hX 0 rfl dX13_goesOn_80 ?_
          refine jr_ek1 e6 ?_
          refine jr_putl (pc := 81) hX fX13_96 rfl dX13_goesOn_81 (p10.at (p9.at h6 :) :) ?_
          refine jr_li ?_
          refine jr_wk [true, false, true] ?_
          refine jr_loop (pc := 84) (fun (s30 : Int32) => [some (jd_v (jd_gG X) (some t)), none, some (.int s30)]) (fun (t31 : Int32) => [some (jd_v (jd_gG X) (some t)), none, some (.int t31)]) 147 0 (fun t31 σ31 => ?_) (fun K30 bk30 ex30 s30 σ30 => ?_)
          · refine jr_ild2 (pc := 147) hX dX13_goesOn_147 ?_
            refine jr_bipush (pc := 148) hX 8 rfl dX13_goesOn_148 ?_
            refine jr_icgt (pc := 150) hX 265 dX13_goesOn_150 (by decide) ?_ ?_
            · exact jr_vret (pc := 265) hX dX13_goesOn_265 rfl
            · refine jr_ald0 (pc := 153) hX dX13_goesOn_153 ?_
              refine jr_iconst (pc := 154) hX 2 rfl dX13_goesOn_154 ?_
              refine jr_ck1 (fun a42 e42 h42 => ?_)
              refine jr_puti (pc := 155) hX fX13_80 rfl dX13_goesOn_155 h42 ?_
              refine jr_li ?_
              refine jr_goto (pc := 158) hX 265 dX13_goesOn_158 (by decide) ?_
              exact jr_vret (pc := 265) hX dX13_goesOn_265 rfl
          · refine jr_ald0 (pc := 84) hX dX13_goesOn_84 ?_
            refine jr_ald0 (pc := 85) hX dX13_goesOn_85 ?_
            refine jr_ck0 (fun a32 e32 h32 => ?_)
            refine jr_geti (pc := 86) hX fX13_83 rfl dX13_goesOn_86 h32 ?_
            refine jr_ek1 e32 ?_
            refine jr_cV1i (pc := 89) hX lX13_86 (c_X13_byteAt hX.F σ30 a32 h32 _) (jd_dd hD rfl) (Nat.le_of_ble_eq_true rfl) dX13_goesOn_89 h32 (fun r33 σ33 p33 => ?_)
            refine jr_cS1i (pc := 92) hX lX13_92 (c_X13_isLetter hX.F σ33 _) (jd_dd hD rfl) (Nat.le_of_ble_eq_true rfl) dX13_goesOn_92 (fun r34 σ34 p34 => ?_)
            refine jr_ifeq (pc := 95) hX 147 dX13_goesOn_95 (by decide) ?_ ?_
            · exact ex30 s30 _
            · refine jr_ild2 (pc := 98) hX dX13_goesOn_98 ?_
              refine jr_bipush (pc := 99) hX 8 rfl dX13_goesOn_99 ?_
              refine jr_join (pc := 101) 131 (fun (t37 : Unit) => [some (jd_v (jd_gG X) (some t)), none, some (.int s30)]) (fun (t37 : Unit) => []) (fun t37 σ37 => ?_) (fun K37 jj37 => ?_)
              · refine jr_inc2 (pc := 131) hX 1 rfl jn_n dX13_goesOn_131 ?_
                refine jr_ald0 (pc := 134) hX dX13_goesOn_134 ?_
                refine jr_dup (pc := 135) hX (jd_v_cat _ _) dX13_goesOn_135 ?_
                refine jr_ck0 (fun a40 e40 h40 => ?_)
                refine jr_geti (pc := 136) hX fX13_83 rfl dX13_goesOn_136 h40 ?_
                refine jr_iconst (pc := 139) hX 1 rfl dX13_goesOn_139 ?_
                refine jr_iadd (pc := 140) hX dX13_goesOn_140 ?_
                refine jr_ek1 e40 ?_
                refine jr_puti (pc := 141) hX fX13_83 rfl dX13_goesOn_141 h40 ?_
                refine jr_li ?_
                refine jr_goto (pc := 144) hX 84 dX13_goesOn_144 (by decide) ?_
                exact bk30 (s30 + 1) _
              · refine jr_icge (pc := 101) hX 131 dX13_goesOn_101 (by decide) ?_ ?_
                · exact jj37 () _
                · refine jr_ald0 (pc := 104) hX dX13_goesOn_104 ?_
                  refine jr_ldc2 (pc := 105) hX kX13_74 dX13_goesOn_105 ?_
                  refine jr_ald0 (pc := 108) hX dX13_goesOn_108 ?_
                  refine jr_ek0 e32 ?_
                  refine jr_getl (pc := 109) hX fX13_96 rfl dX13_goesOn_109 (p34.at (p33.at h32 :) :) ?_
                  refine jr_lmul (pc := 112) hX dX13_goesOn_112 ?_
                  refine jr_ald0 (pc := 113) hX dX13_goesOn_113 ?_
                  refine jr_ald0 (pc := 114) hX dX13_goesOn_114 ?_
                  refine jr_ek0 e32 ?_
                  refine jr_geti (pc := 115) hX fX13_83 rfl dX13_goesOn_115 (p34.at (p33.at h32 :) :) ?_
                  refine jr_ek1 e32 ?_
                  refine jr_cV1i (pc := 118) hX lX13_86 (c_X13_byteAt hX.F σ34 a32 (p34.at (p33.at h32 :) :) _) (jd_dd hD rfl) (by simp [jd_v_cat, jd_cti, jd_ctl]) dX13_goesOn_118 (p34.at (p33.at h32 :) :) (fun r38 σ38 p38 => ?_)
                  refine jr_bipush (pc := 121) hX 97 rfl dX13_goesOn_121 ?_
                  refine jr_isub (pc := 123) hX dX13_goesOn_123 ?_
                  refine jr_iconst (pc := 124) hX 1 rfl dX13_goesOn_124 ?_
                  refine jr_iadd (pc := 125) hX dX13_goesOn_125 ?_
                  refine jr_i2l (pc := 126) hX dX13_goesOn_126 ?_
                  refine jr_ladd (pc := 127) hX dX13_goesOn_127 ?_
                  refine jr_ek1 e32 ?_
                  refine jr_putl (pc := 128) hX fX13_96 rfl dX13_goesOn_128 (p38.at (p34.at (p33.at h32 :) :) :) ?_
                  refine jr_li ?_
                  exact jj37 () _
      · refine jr_ald0 (pc := 64) hX dX13_goesOn_64 ?_
        refine jr_iconst (pc := 65) hX 1 rfl dX13_goesOn_65 ?_
        refine jr_ek1 e6 ?_
        refine jr_puti (pc := 66) hX fX13_80 rfl dX13_goesOn_66 (p9.at h6 :) ?_
        refine jr_li ?_
        refine jr_goto (pc := 69) hX 265 dX13_goesOn_69 (by decide) ?_
        exact jr_vret (pc := 265) hX dX13_goesOn_265 rfl
    · refine jr_ald0 (pc := 9) hX dX13_goesOn_9 ?_
      refine jr_ald0 (pc := 10) hX dX13_goesOn_10 ?_
      refine jr_ck0 (fun a3 e3 h3 => ?_)
      refine jr_geti (pc := 11) hX fX13_83 rfl dX13_goesOn_11 h3 ?_
      refine jr_ek1 e3 ?_
      refine jr_cV1i (pc := 14) hX lX13_86 (c_X13_byteAt hX.F σ1 a3 h3 _) (jd_dd hD rfl) (Nat.le_of_ble_eq_true rfl) dX13_goesOn_14 h3 (fun r4 σ4 p4 => ?_)
      refine jr_bipush (pc := 17) hX 32 rfl dX13_goesOn_17 ?_
      refine jr_icne (pc := 19) hX 35 dX13_goesOn_19 (by decide) ?_ ?_
      · exact ex1 () _
      · refine jr_ald0 (pc := 22) hX dX13_goesOn_22 ?_
        refine jr_dup (pc := 23) hX (jd_v_cat _ _) dX13_goesOn_23 ?_
        refine jr_ek0 e3 ?_
        refine jr_geti (pc := 24) hX fX13_83 rfl dX13_goesOn_24 (p4.at h3 :) ?_
        refine jr_iconst (pc := 27) hX 1 rfl dX13_goesOn_27 ?_
        refine jr_iadd (pc := 28) hX dX13_goesOn_28 ?_
        refine jr_ek1 e3 ?_
        refine jr_puti (pc := 29) hX fX13_83 rfl dX13_goesOn_29 (p4.at h3 :) ?_
        refine jr_li ?_
        refine jr_goto (pc := 32) hX 9 dX13_goesOn_32 (by decide) ?_
        exact bk1 () _
  · exact jr_vret (pc := 8) hX dX13_goesOn_8 rfl
def m_X13_flaw (t : Nat) (x0p : Int32) (σ : jd_Hp) : Option (Unit × jd_Hp) :=
jd_if (¬ (σ.2.1 t 9) = 5) (
jd_li (jd_pi σ t 12 x0p) fun τ1 =>
jd_li (jd_pi τ1 t 13 (τ1.2.1 t 10)) fun τ2 =>
jd_li (jd_pi τ2 t 9 5) fun τ3 =>
some ((), τ3)) (
some ((), σ))
set_option maxHeartbeats 4000000 in
set_option maxRecDepth 20000 in
theorem c_X13_flaw {l : Launch} {s0 : State} {G : jd_G} (hF : jd_F s0 G) (σ : jd_Hp) (t : Nat) (ht : σ.1[t]? = some (13, 29)) (x0p : Int32) : jd_M l s0 G yX13_flaw cX13_flaw 2 none 0 je_v [jd_v G (some t), .int x0p] σ (m_X13_flaw t x0p σ) := by
  refine jd_enter hF (by decide) (fun G => [some (jd_v G (some t)), some (.int x0p)]) rfl (by simp [lv_args, jd_al, jd_v_cat, jd_cti, jd_ctl]) (by simp [lg_sl, jd_v_cat, jd_cti, jd_ctl]) (fun X hD hX => ?_)
  have hX : jd_C X RX13 "flaw" cX13_flaw 2 none := hX
  unfold m_X13_flaw
  refine jr_ald0 (pc := 0) hX dX13_flaw_0 ?_
  refine jr_geti (pc := 1) hX fX13_80 rfl dX13_flaw_1 ht ?_
  refine jr_iconst (pc := 4) hX 5 rfl dX13_flaw_4 ?_
  refine jr_icne (pc := 5) hX 9 dX13_flaw_5 (by decide) ?_ ?_
  · refine jr_ald0 (pc := 9) hX dX13_flaw_9 ?_
    refine jr_ild1 (pc := 10) hX dX13_flaw_10 ?_
    refine jr_puti (pc := 11) hX fX13_106 rfl dX13_flaw_11 ht ?_
    refine jr_li ?_
    refine jr_ald0 (pc := 14) hX dX13_flaw_14 ?_
    refine jr_ald0 (pc := 15) hX dX13_flaw_15 ?_
    refine jr_geti (pc := 16) hX fX13_89 rfl dX13_flaw_16 ht ?_
    refine jr_puti (pc := 19) hX fX13_109 rfl dX13_flaw_19 ht ?_
    refine jr_li ?_
    refine jr_ald0 (pc := 22) hX dX13_flaw_22 ?_
    refine jr_iconst (pc := 23) hX 5 rfl dX13_flaw_23 ?_
    refine jr_puti (pc := 24) hX fX13_80 rfl dX13_flaw_24 ht ?_
    refine jr_li ?_
    exact jr_vret (pc := 27) hX dX13_flaw_27 rfl
  · exact jr_vret (pc := 8) hX dX13_flaw_8 rfl
def m_X13_eatsSemicolon (t : Nat) (σ : jd_Hp) : Option (Int32 × jd_Hp) :=
jd_b (α := Int32) (
jd_if (¬ (σ.2.1 t 9) = 4) (
some (0, σ)) (
some (1, σ))) fun t1 σ1 =>
jd_if (t1 = 0) (
some ((t1 &&& 1), σ1)) (
jd_o σ1 (13, 29) (some t) fun a2 =>
jd_b (m_X13_goesOn a2 σ1) fun r3 σ3 =>
some ((t1 &&& 1), σ3))
set_option maxHeartbeats 4000000 in
set_option maxRecDepth 20000 in
theorem c_X13_eatsSemicolon {l : Launch} {s0 : State} {G : jd_G} (hF : jd_F s0 G) (σ : jd_Hp) (t : Nat) (ht : σ.1[t]? = some (13, 29)) : jd_M l s0 G yX13_eatsSemicolon cX13_eatsSemicolon 2 (some .boolean) 2 je_i [jd_v G (some t)] σ (m_X13_eatsSemicolon t σ) := by
  refine jd_enter hF (by decide) (fun G => [some (jd_v G (some t)), none]) rfl (by simp [lv_args, jd_al, jd_v_cat, jd_cti, jd_ctl]) (by simp [lg_sl, jd_v_cat, jd_cti, jd_ctl]) (fun X hD hX => ?_)
  have hX : jd_C X RX13 "eatsSemicolon" cX13_eatsSemicolon 2 (some .boolean) := hX
  unfold m_X13_eatsSemicolon
  refine jr_ald0 (pc := 0) hX dX13_eatsSemicolon_0 ?_
  refine jr_geti (pc := 1) hX fX13_80 rfl dX13_eatsSemicolon_1 ht ?_
  refine jr_iconst (pc := 4) hX 4 rfl dX13_eatsSemicolon_4 ?_
  refine jr_join (pc := 5) 13 (fun (t1 : Int32) => [some (jd_v (jd_gG X) (some t)), none]) (fun (t1 : Int32) => [.int t1]) (fun t1 σ1 => ?_) (fun K1 jj1 => ?_)
  · refine jr_ist1 (pc := 13) hX (jn_r _ _) dX13_eatsSemicolon_13 ?_
    refine jr_ild1 (pc := 14) hX dX13_eatsSemicolon_14 ?_
    refine jr_ifeq (pc := 15) hX 22 dX13_eatsSemicolon_15 (by decide) ?_ ?_
    · refine jr_ild1 (pc := 22) hX dX13_eatsSemicolon_22 ?_
      exact jr_bret (pc := 23) hX dX13_eatsSemicolon_23 rfl
    · refine jr_ald0 (pc := 18) hX dX13_eatsSemicolon_18 ?_
      refine jr_ck0 (fun a2 e2 h2 => ?_)
      refine jr_cV0v (pc := 19) hX lX13_116 (c_X13_goesOn hX.F σ1 a2 h2) (jd_dd hD rfl) (Nat.le_of_ble_eq_true rfl) dX13_eatsSemicolon_19 h2 (fun r3 σ3 p3 => ?_)
      refine jr_ild1 (pc := 22) hX dX13_eatsSemicolon_22 ?_
      exact jr_bret (pc := 23) hX dX13_eatsSemicolon_23 rfl
  · refine jr_icne (pc := 5) hX 12 dX13_eatsSemicolon_5 (by decide) ?_ ?_
    · refine jr_iconst (pc := 12) hX 0 rfl dX13_eatsSemicolon_12 ?_
      exact jj1 0 _
    · refine jr_iconst (pc := 8) hX 1 rfl dX13_eatsSemicolon_8 ?_
      refine jr_goto (pc := 9) hX 13 dX13_eatsSemicolon_9 (by decide) ?_
      exact jj1 1 _
def m_X13_lineBegins (t : Nat) (x0p : Int32) (x1p : Int32) (σ : jd_Hp) : Option (Unit × jd_Hp) :=
jd_b (α := Unit) (
jd_if (¬ x0p = x1p) (
some ((), σ)) (
jd_b (m_X13_flaw t 5 σ) fun r3 σ3 =>
some ((), σ3))) fun t2 σ2 =>
jd_o σ2 (13, 29) (some t) fun a4 =>
jd_o σ2 (12, 20) (σ2.2.2.2 a4 4) fun a5 =>
jd_if (¬ (σ2.2.1 a5 0) = 0) (
jd_b (m_X13_goesOn a4 σ2) fun r6 σ6 =>
some ((), σ6)) (
jd_b (m_X13_flaw a4 6 σ2) fun r7 σ7 =>
jd_b (m_X13_goesOn a4 σ7) fun r8 σ8 =>
some ((), σ8))
set_option maxHeartbeats 4000000 in
set_option maxRecDepth 20000 in
theorem c_X13_lineBegins {l : Launch} {s0 : State} {G : jd_G} (hF : jd_F s0 G) (σ : jd_Hp) (t : Nat) (ht : σ.1[t]? = some (13, 29)) (x0p : Int32) (x1p : Int32) : jd_M l s0 G yX13_lineBegins cX13_lineBegins 3 none 2 je_v [jd_v G (some t), .int x0p, .int x1p] σ (m_X13_lineBegins t x0p x1p σ) := by
  refine jd_enter hF (by decide) (fun G => [some (jd_v G (some t)), some (.int x0p), some (.int x1p)]) rfl (by simp [lv_args, jd_al, jd_v_cat, jd_cti, jd_ctl]) (by simp [lg_sl, jd_v_cat, jd_cti, jd_ctl]) (fun X hD hX => ?_)
  have hX : jd_C X RX13 "lineBegins" cX13_lineBegins 3 none := hX
  unfold m_X13_lineBegins
  refine jr_ild1 (pc := 0) hX dX13_lineBegins_0 ?_
  refine jr_ild2 (pc := 1) hX dX13_lineBegins_1 ?_
  refine jr_join (pc := 2) 10 (fun (t2 : Unit) => [some (jd_v (jd_gG X) (some t)), none, none]) (fun (t2 : Unit) => []) (fun t2 σ2 => ?_) (fun K2 jj2 => ?_)
  · refine jr_ald0 (pc := 10) hX dX13_lineBegins_10 ?_
    refine jr_ck0 (fun a4 e4 h4 => ?_)
    refine jr_getr (pc := 11) hX fX13_149 rfl dX13_lineBegins_11 h4 ?_
    refine jr_ck0 (fun a5 e5 h5 => ?_)
    refine jr_getiN (pc := 14) hX fX13_153 rfl dX13_lineBegins_14 h5 ?_
    refine jr_ifne (pc := 17) hX 26 dX13_lineBegins_17 (by decide) ?_ ?_
    · refine jr_ald0 (pc := 26) hX dX13_lineBegins_26 ?_
      refine jr_ek0 e4 ?_
      refine jr_cV0v (pc := 27) hX lX13_116 (c_X13_goesOn hX.F σ2 a4 h4) (jd_dd hD rfl) (Nat.le_of_ble_eq_true rfl) dX13_lineBegins_27 h4 (fun r6 σ6 p6 => ?_)
      exact jr_vret (pc := 30) hX dX13_lineBegins_30 rfl
    · refine jr_ald0 (pc := 20) hX dX13_lineBegins_20 ?_
      refine jr_bipush (pc := 21) hX 6 rfl dX13_lineBegins_21 ?_
      refine jr_ek1 e4 ?_
      refine jr_cV1v (pc := 23) hX lX13_123 (c_X13_flaw hX.F σ2 a4 h4 _) (jd_dd hD rfl) (Nat.le_of_ble_eq_true rfl) dX13_lineBegins_23 h4 (fun r7 σ7 p7 => ?_)
      refine jr_ald0 (pc := 26) hX dX13_lineBegins_26 ?_
      refine jr_ek0 e4 ?_
      refine jr_cV0v (pc := 27) hX lX13_116 (c_X13_goesOn hX.F σ7 a4 (p7.at h4 :)) (jd_dd hD rfl) (Nat.le_of_ble_eq_true rfl) dX13_lineBegins_27 (p7.at h4 :) (fun r8 σ8 p8 => ?_)
      exact jr_vret (pc := 30) hX dX13_lineBegins_30 rfl
  · refine jr_icne (pc := 2) hX 10 dX13_lineBegins_2 (by decide) ?_ ?_
    · refine jr_wk [true, false, false] ?_
      exact jj2 () _
    · refine jr_ald0 (pc := 5) hX dX13_lineBegins_5 ?_
      refine jr_iconst (pc := 6) hX 5 rfl dX13_lineBegins_6 ?_
      refine jr_cV1v (pc := 7) hX lX13_123 (c_X13_flaw hX.F σ t ht _) (jd_dd hD rfl) (Nat.le_of_ble_eq_true rfl) dX13_lineBegins_7 ht (fun r3 σ3 p3 => ?_)
      refine jr_wk [true, false, false] ?_
      exact jj2 () _
def m_X13_names (t : Nat) (x0p : Int64) (x1p : Int32) (x2p : Int32) (σ : jd_Hp) : Option (Unit × jd_Hp) :=
jd_o σ (12, 20) (σ.2.2.2 t 4) fun a1 =>
jd_ia σ 23 (σ.2.2.2 a1 17) (σ.2.1 a1 8) fun a2 j2 =>
jd_li (jd_pl σ a2 j2 x0p) fun τ3 =>
jd_o τ3 (12, 20) (τ3.2.2.2 t 4) fun a4 =>
jd_ia τ3 20 (τ3.2.2.2 a4 18) (τ3.2.1 a4 8) fun a5 j5 =>
jd_li (jd_pi τ3 a5 j5 x1p) fun τ6 =>
jd_o τ6 (12, 20) (τ6.2.2.2 t 4) fun a7 =>
jd_ia τ6 20 (τ6.2.2.2 a7 19) (τ6.2.1 a7 8) fun a8 j8 =>
jd_li (jd_pi τ6 a8 j8 x2p) fun τ9 =>
jd_o τ9 (12, 20) (τ9.2.2.2 t 4) fun a10 =>
jd_li (jd_pi τ9 a10 8 ((τ9.2.1 a10 8) + 1)) fun τ11 =>
some ((), τ11)
set_option maxHeartbeats 4000000 in
set_option maxRecDepth 20000 in
theorem c_X13_names {l : Launch} {s0 : State} {G : jd_G} (hF : jd_F s0 G) (σ : jd_Hp) (t : Nat) (ht : σ.1[t]? = some (13, 29)) (x0p : Int64) (x1p : Int32) (x2p : Int32) : jd_M l s0 G yX13_names cX13_names 5 none 0 je_v [jd_v G (some t), .long x0p, .int x1p, .int x2p] σ (m_X13_names t x0p x1p x2p σ) := by
  refine jd_enter hF (by decide) (fun G => [some (jd_v G (some t)), some (.long x0p), none, some (.int x1p), some (.int x2p)]) rfl (by simp [lv_args, jd_al, jd_v_cat, jd_cti, jd_ctl]) (by simp [lg_sl, jd_v_cat, jd_cti, jd_ctl]) (fun X hD hX => ?_)
  have hX : jd_C X RX13 "names" cX13_names 5 none := hX
  unfold m_X13_names
  refine jr_ald0 (pc := 0) hX dX13_names_0 ?_
  refine jr_getr (pc := 1) hX fX13_149 rfl dX13_names_1 ht ?_
  refine jr_ck0 (fun a1 e1 h1 => ?_)
  refine jr_getrN (pc := 4) hX fX13_166 rfl dX13_names_4 h1 ?_
  refine jr_ald0 (pc := 7) hX dX13_names_7 ?_
  refine jr_getr (pc := 8) hX fX13_149 rfl dX13_names_8 ht ?_
  refine jr_ek0 e1 ?_
  refine jr_getiN (pc := 11) hX fX13_170 rfl dX13_names_11 h1 ?_
  refine jr_lld1 (pc := 14) hX dX13_names_14 ?_
  refine jr_laS (pc := 15) hX dX13_names_15 (fun a2 n2 e2 h2 => ?_)
  refine jr_li ?_
  refine jr_ald0 (pc := 16) hX dX13_names_16 ?_
  refine jr_getr (pc := 17) hX fX13_149 rfl dX13_names_17 ht ?_
  refine jr_ck0 (fun a4 e4 h4 => ?_)
  refine jr_getrN (pc := 20) hX fX13_173 rfl dX13_names_20 h4 ?_
  refine jr_ald0 (pc := 23) hX dX13_names_23 ?_
  refine jr_getr (pc := 24) hX fX13_149 rfl dX13_names_24 ht ?_
  refine jr_ek0 e4 ?_
  refine jr_getiN (pc := 27) hX fX13_170 rfl dX13_names_27 h4 ?_
  refine jr_ild3 (pc := 30) hX dX13_names_30 ?_
  refine jr_iaS (pc := 31) hX dX13_names_31 (fun a5 n5 e5 h5 => ?_)
  refine jr_li ?_
  refine jr_ald0 (pc := 32) hX dX13_names_32 ?_
  refine jr_getr (pc := 33) hX fX13_149 rfl dX13_names_33 ht ?_
  refine jr_ck0 (fun a7 e7 h7 => ?_)
  refine jr_getrN (pc := 36) hX fX13_176 rfl dX13_names_36 h7 ?_
  refine jr_ald0 (pc := 39) hX dX13_names_39 ?_
  refine jr_getr (pc := 40) hX fX13_149 rfl dX13_names_40 ht ?_
  refine jr_ek0 e7 ?_
  refine jr_getiN (pc := 43) hX fX13_170 rfl dX13_names_43 h7 ?_
  refine jr_ild4 (pc := 46) hX dX13_names_46 ?_
  refine jr_iaS (pc := 48) hX dX13_names_48 (fun a8 n8 e8 h8 => ?_)
  refine jr_li ?_
  refine jr_ald0 (pc := 49) hX dX13_names_49 ?_
  refine jr_getr (pc := 50) hX fX13_149 rfl dX13_names_50 ht ?_
  refine jr_dup (pc := 53) hX (jd_v_cat _ _) dX13_names_53 ?_
  refine jr_ck0 (fun a10 e10 h10 => ?_)
  refine jr_getiN (pc := 54) hX fX13_170 rfl dX13_names_54 h10 ?_
  refine jr_iconst (pc := 57) hX 1 rfl dX13_names_57 ?_
  refine jr_iadd (pc := 58) hX dX13_names_58 ?_
  refine jr_ek1 e10 ?_
  refine jr_putiN (pc := 59) hX fX13_170 rfl dX13_names_59 h10 ?_
  refine jr_li ?_
  exact jr_vret (pc := 62) hX dX13_names_62 rfl
def m_X13_feed (t : Nat) (x0p : Int32) (x1p : Int32) (x2p : Int32) (x3p : Int32) (x4p : Int32) (σ : jd_Hp) : Option (Int32 × jd_Hp) :=
jd_li (jd_pi σ t 0 0) fun τ1 =>
jd_if (((τ1.2.1 t 6) + 20) ≤ 900) (
jd_b (jd_lp (S := Int32) (T := Unit) (fun s2 σ2 =>
jd_if (20 ≤ s2) (
some ((Sum.inr ()), σ2)) (
jd_b (α := Int32) (
jd_if (4 ≤ s2) (
jd_if (8 ≤ s2) (
jd_if (12 ≤ s2) (
jd_if (16 ≤ s2) (
some (x4p, σ2)) (
some (x3p, σ2))) (
some (x2p, σ2))) (
some (x1p, σ2))) (
some (x0p, σ2))) fun t4 σ4 =>
jd_o σ4 (13, 29) (some t) fun a5 =>
jd_ia σ4 21 (σ4.2.2.2 a5 5) (σ4.2.1 a5 6) fun a6 j6 =>
jd_li (jd_pi σ4 a6 j6 (vp_nar .byte ((t4 >>> ((24 - (8 * (s2 - s2 / 4 * 4))) &&& 31)).toInt8.toInt32))) fun τ7 =>
jd_li (jd_pi τ7 a5 6 ((τ7.2.1 a5 6) + 1)) fun τ8 =>
some (Sum.inl (s2 + 1), τ8))) jd_fu 0 τ1) fun t3 σ3 =>
jd_o σ3 (13, 29) (some t) fun a9 =>
some ((σ3.2.1 a9 6), σ3)) (
some ((-1), τ1))
set_option maxHeartbeats 4000000 in
set_option maxRecDepth 20000 in
theorem c_X13_feed {l : Launch} {s0 : State} {G : jd_G} (hF : jd_F s0 G) (σ : jd_Hp) (t : Nat) (ht : σ.1[t]? = some (13, 29)) (x0p : Int32) (x1p : Int32) (x2p : Int32) (x3p : Int32) (x4p : Int32) : jd_M l s0 G yX13_feed cX13_feed 8 (some .int) 0 je_i [jd_v G (some t), .int x0p, .int x1p, .int x2p, .int x3p, .int x4p] σ (m_X13_feed t x0p x1p x2p x3p x4p σ) := by
  refine jd_enter hF (by decide) (fun G => [some (jd_v G (some t)), some (.int x0p), some (.int x1p), some (.int x2p), some (.int x3p), some (.int x4p), none, none]) rfl (by simp [lv_args, jd_al, jd_v_cat, jd_cti, jd_ctl]) (by simp [lg_sl, jd_v_cat, jd_cti, jd_ctl]) (fun X hD hX => ?_)
  have hX : jd_C X RX13 "feed" cX13_feed 8 (some .int) := hX
  unfold m_X13_feed
  refine jr_ald0 (pc := 0) hX dX13_feed_0 ?_
  refine jr_iconst (pc := 1) hX 0 rfl dX13_feed_1 ?_
  refine jr_puti (pc := 2) hX fX13_48 rfl dX13_feed_2 ht ?_
  refine jr_li ?_
  refine jr_ald0 (pc := 5) hX dX13_feed_5 ?_
  refine jr_geti (pc := 6) hX fX13_282 rfl dX13_feed_6 ht ?_
  refine jr_bipush (pc := 9) hX 20 rfl dX13_feed_9 ?_
  refine jr_iadd (pc := 11) hX dX13_feed_11 ?_
  refine jr_sipush (pc := 12) hX 900 rfl dX13_feed_12 ?_
  refine jr_icle (pc := 15) hX 20 dX13_feed_15 (by decide) ?_ ?_
  · refine jr_iconst (pc := 20) hX 0 rfl dX13_feed_20 ?_
    refine jr_ist6 (pc := 21) hX (jn_i _) dX13_feed_21 ?_
    refine jr_loop (pc := 23) (fun (s2 : Int32) => [some (jd_v (jd_gG X) (some t)), some (.int x0p), some (.int x1p), some (.int x2p), some (.int x3p), some (.int x4p), some (.int s2), none]) (fun (t3 : Unit) => [some (jd_v (jd_gG X) (some t)), none, none, none, none, none, none, none]) 117 0 (fun t3 σ3 => ?_) (fun K2 bk2 ex2 s2 σ2 => ?_)
    · refine jr_ald0 (pc := 117) hX dX13_feed_117 ?_
      refine jr_ck0 (fun a9 e9 h9 => ?_)
      refine jr_geti (pc := 118) hX fX13_282 rfl dX13_feed_118 h9 ?_
      exact jr_iret (pc := 121) hX dX13_feed_121 rfl
    · refine jr_ild6 (pc := 23) hX dX13_feed_23 ?_
      refine jr_bipush (pc := 25) hX 20 rfl dX13_feed_25 ?_
      refine jr_icge (pc := 27) hX 117 dX13_feed_27 (by decide) ?_ ?_
      · refine jr_wk [true, false, false, false, false, false, false, true] ?_
        exact ex2 () _
      · refine jr_ild6 (pc := 30) hX dX13_feed_30 ?_
        refine jr_iconst (pc := 32) hX 4 rfl dX13_feed_32 ?_
        refine jr_join (pc := 33) 76 (fun (t4 : Int32) => [some (jd_v (jd_gG X) (some t)), some (.int x0p), some (.int x1p), some (.int x2p), some (.int x3p), some (.int x4p), some (.int s2), none]) (fun (t4 : Int32) => [.int t4]) (fun t4 σ4 => ?_) (fun K4 jj4 => ?_)
        · refine jr_ist7 (pc := 76) hX (jn_i _) dX13_feed_76 ?_
          refine jr_ald0 (pc := 78) hX dX13_feed_78 ?_
          refine jr_ck0 (fun a5 e5 h5 => ?_)
          refine jr_getr (pc := 79) hX fX13_13 rfl dX13_feed_79 h5 ?_
          refine jr_ald0 (pc := 82) hX dX13_feed_82 ?_
          refine jr_ek0 e5 ?_
          refine jr_geti (pc := 83) hX fX13_282 rfl dX13_feed_83 h5 ?_
          refine jr_ild7 (pc := 86) hX dX13_feed_86 ?_
          refine jr_bipush (pc := 88) hX 24 rfl dX13_feed_88 ?_
          refine jr_bipush (pc := 90) hX 8 rfl dX13_feed_90 ?_
          refine jr_ild6 (pc := 92) hX dX13_feed_92 ?_
          refine jr_iconst (pc := 94) hX 4 rfl dX13_feed_94 ?_
          refine jr_irem (pc := 95) hX dX13_feed_95 (by decide) ?_
          refine jr_imul (pc := 96) hX dX13_feed_96 ?_
          refine jr_isub (pc := 97) hX dX13_feed_97 ?_
          refine jr_ishr (pc := 98) hX dX13_feed_98 ?_
          refine jr_i2b (pc := 99) hX dX13_feed_99 ?_
          refine jr_baS (pc := 100) hX dX13_feed_100 (fun a6 n6 e6 h6 => ?_)
          refine jr_li ?_
          refine jr_ald0 (pc := 101) hX dX13_feed_101 ?_
          refine jr_dup (pc := 102) hX (jd_v_cat _ _) dX13_feed_102 ?_
          refine jr_ek0 e5 ?_
          refine jr_geti (pc := 103) hX fX13_282 rfl dX13_feed_103 h5 ?_
          refine jr_iconst (pc := 106) hX 1 rfl dX13_feed_106 ?_
          refine jr_iadd (pc := 107) hX dX13_feed_107 ?_
          refine jr_ek1 e5 ?_
          refine jr_puti (pc := 108) hX fX13_282 rfl dX13_feed_108 h5 ?_
          refine jr_li ?_
          refine jr_inc6 (pc := 111) hX 1 rfl (jn_i _) dX13_feed_111 ?_
          refine jr_goto (pc := 114) hX 23 dX13_feed_114 (by decide) ?_
          refine jr_wk [true, true, true, true, true, true, true, false] ?_
          exact bk2 (s2 + 1) _
        · refine jr_icge (pc := 33) hX 40 dX13_feed_33 (by decide) ?_ ?_
          · refine jr_ild6 (pc := 40) hX dX13_feed_40 ?_
            refine jr_bipush (pc := 42) hX 8 rfl dX13_feed_42 ?_
            refine jr_icge (pc := 44) hX 51 dX13_feed_44 (by decide) ?_ ?_
            · refine jr_ild6 (pc := 51) hX dX13_feed_51 ?_
              refine jr_bipush (pc := 53) hX 12 rfl dX13_feed_53 ?_
              refine jr_icge (pc := 55) hX 62 dX13_feed_55 (by decide) ?_ ?_
              · refine jr_ild6 (pc := 62) hX dX13_feed_62 ?_
                refine jr_bipush (pc := 64) hX 16 rfl dX13_feed_64 ?_
                refine jr_icge (pc := 66) hX 74 dX13_feed_66 (by decide) ?_ ?_
                · refine jr_ild5 (pc := 74) hX dX13_feed_74 ?_
                  exact jj4 x4p _
                · refine jr_ild4 (pc := 69) hX dX13_feed_69 ?_
                  refine jr_goto (pc := 71) hX 76 dX13_feed_71 (by decide) ?_
                  exact jj4 x3p _
              · refine jr_ild3 (pc := 58) hX dX13_feed_58 ?_
                refine jr_goto (pc := 59) hX 76 dX13_feed_59 (by decide) ?_
                exact jj4 x2p _
            · refine jr_ild2 (pc := 47) hX dX13_feed_47 ?_
              refine jr_goto (pc := 48) hX 76 dX13_feed_48 (by decide) ?_
              exact jj4 x1p _
          · refine jr_ild1 (pc := 36) hX dX13_feed_36 ?_
            refine jr_goto (pc := 37) hX 76 dX13_feed_37 (by decide) ?_
            exact jj4 x0p _
  · refine jr_iconst (pc := 18) hX (-1) rfl dX13_feed_18 ?_
    exact jr_iret (pc := 19) hX dX13_feed_19 rfl
def m_X13_fault (t : Nat) (σ : jd_Hp) : Option (Int32 × jd_Hp) :=
jd_li (jd_pi σ t 0 0) fun τ1 =>
some ((τ1.2.1 t 12), τ1)
set_option maxHeartbeats 4000000 in
set_option maxRecDepth 20000 in
theorem c_X13_fault {l : Launch} {s0 : State} {G : jd_G} (hF : jd_F s0 G) (σ : jd_Hp) (t : Nat) (ht : σ.1[t]? = some (13, 29)) : jd_M l s0 G yX13_fault cX13_fault 1 (some .int) 0 je_i [jd_v G (some t)] σ (m_X13_fault t σ) := by
  refine jd_enter hF (by decide) (fun G => [some (jd_v G (some t))]) rfl (by simp [lv_args, jd_al, jd_v_cat, jd_cti, jd_ctl]) (by simp [lg_sl, jd_v_cat, jd_cti, jd_ctl]) (fun X hD hX => ?_)
  have hX : jd_C X RX13 "fault" cX13_fault 1 (some .int) := hX
  unfold m_X13_fault
  refine jr_ald0 (pc := 0) hX dX13_fault_0 ?_
  refine jr_iconst (pc := 1) hX 0 rfl dX13_fault_1 ?_
  refine jr_puti (pc := 2) hX fX13_48 rfl dX13_fault_2 ht ?_
  refine jr_li ?_
  refine jr_ald0 (pc := 5) hX dX13_fault_5 ?_
  refine jr_geti (pc := 6) hX fX13_106 rfl dX13_fault_6 ht ?_
  exact jr_iret (pc := 9) hX dX13_fault_9 rfl
def m_X13_where (t : Nat) (σ : jd_Hp) : Option (Int32 × jd_Hp) :=
jd_li (jd_pi σ t 0 0) fun τ1 =>
some ((τ1.2.1 t 2), τ1)
set_option maxHeartbeats 4000000 in
set_option maxRecDepth 20000 in
theorem c_X13_where {l : Launch} {s0 : State} {G : jd_G} (hF : jd_F s0 G) (σ : jd_Hp) (t : Nat) (ht : σ.1[t]? = some (13, 29)) : jd_M l s0 G yX13_where cX13_where 1 (some .int) 0 je_i [jd_v G (some t)] σ (m_X13_where t σ) := by
  refine jd_enter hF (by decide) (fun G => [some (jd_v G (some t))]) rfl (by simp [lv_args, jd_al, jd_v_cat, jd_cti, jd_ctl]) (by simp [lg_sl, jd_v_cat, jd_cti, jd_ctl]) (fun X hD hX => ?_)
  have hX : jd_C X RX13 "where" cX13_where 1 (some .int) := hX
  unfold m_X13_where
  refine jr_ald0 (pc := 0) hX dX13_where_0 ?_
  refine jr_iconst (pc := 1) hX 0 rfl dX13_where_1 ?_
  refine jr_puti (pc := 2) hX fX13_48 rfl dX13_where_2 ht ?_
  refine jr_li ?_
  refine jr_ald0 (pc := 5) hX dX13_where_5 ?_
  refine jr_geti (pc := 6) hX fX13_9 rfl dX13_where_6 ht ?_
  exact jr_iret (pc := 9) hX dX13_where_9 rfl
