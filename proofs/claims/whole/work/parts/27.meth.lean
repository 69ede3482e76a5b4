theorem qX13_isPerson : Cond.instanceMethod yX13_isPerson ∈ jd_TB ∧ Cond.selects RX13 yX13_isPerson yX13_isPerson ∈ jd_TB ∧ Cond.initialized RX13 ∈ jd_TB ∧ Cond.code yX13_isPerson cX13_isPerson 2 (some .boolean) ∈ jd_TB ∧ jd_ds yX13_isPerson 1 := ⟨jd_mem 1609 (by decide +kernel) (by decide +kernel), jd_mem 56 (by decide +kernel) (by decide +kernel), jd_mem 104 (by decide +kernel) (by decide +kernel), jd_mem 1610 (by decide +kernel) (by decide +kernel), ⟨by decide, by decide, by decide +kernel⟩⟩
theorem lX13_321 : jd_mv RX13 321 13 29 yX13_isPerson cX13_isPerson 2 (some .boolean) 1 := ⟨_, _, rfl, by decide, rfl, Or.inl (jd_mem 1607 (by decide +kernel) (by decide +kernel)), qX13_isPerson.1, qX13_isPerson.2.1, qX13_isPerson.2.2.1, qX13_isPerson.2.2.2.1, qX13_isPerson.2.2.2.2, by decide⟩
theorem qX13_in : Cond.static yX13_in ∈ jd_TB ∧ Cond.initialized yX13_in.cls ∈ jd_TB ∧ Cond.code yX13_in cX13_in 3 (some .boolean) ∈ jd_TB ∧ jd_ds yX13_in 3 := ⟨jd_mem 1522 (by decide +kernel) (by decide +kernel), jd_mem 104 (by decide +kernel) (by decide +kernel), jd_mem 1523 (by decide +kernel) (by decide +kernel), ⟨by decide, by decide, by decide +kernel⟩⟩
theorem lX13_131 : jd_st RX13 131 yX13_in cX13_in 3 (some .boolean) 3 := ⟨Or.inl (jd_mem 1521 (by decide +kernel) (by decide +kernel)), qX13_in.1, qX13_in.2.1, qX13_in.2.2.1, qX13_in.2.2.2, by decide⟩
theorem qX13_works : Cond.instanceMethod yX13_works ∈ jd_TB ∧ Cond.selects RX13 yX13_works yX13_works ∈ jd_TB ∧ Cond.initialized RX13 ∈ jd_TB ∧ Cond.code yX13_works cX13_works 2 none ∈ jd_TB ∧ jd_ds yX13_works 0 := ⟨jd_mem 1613 (by decide +kernel) (by decide +kernel), jd_mem 57 (by decide +kernel) (by decide +kernel), jd_mem 104 (by decide +kernel) (by decide +kernel), jd_mem 1614 (by decide +kernel) (by decide +kernel), ⟨by decide, by decide, by decide +kernel⟩⟩
theorem lX13_324 : jd_mv RX13 324 13 29 yX13_works cX13_works 2 none 0 := ⟨_, _, rfl, by decide, rfl, Or.inl (jd_mem 1611 (by decide +kernel) (by decide +kernel)), qX13_works.1, qX13_works.2.1, qX13_works.2.2.1, qX13_works.2.2.2.1, qX13_works.2.2.2.2, by decide⟩
theorem fX13_251 : jd_fn RX13 251 12 12 20 true := ⟨_, _, "ShoreGuardsModel", rfl, by decide, by decide, rfl, rfl, List.mem_of_getElem? (i := 1415) (by decide +kernel)⟩
theorem qX13_orNobody : Cond.static yX13_orNobody ∈ jd_TB ∧ Cond.initialized yX13_orNobody.cls ∈ jd_TB ∧ Cond.code yX13_orNobody cX13_orNobody 1 (some .int) ∈ jd_TB ∧ jd_ds yX13_orNobody 1 := ⟨jd_mem 1630 (by decide +kernel) (by decide +kernel), jd_mem 104 (by decide +kernel) (by decide +kernel), jd_mem 1631 (by decide +kernel) (by decide +kernel), ⟨by decide, by decide, by decide +kernel⟩⟩
theorem lX13_327 : jd_st RX13 327 yX13_orNobody cX13_orNobody 1 (some .int) 1 := ⟨Or.inl (jd_mem 1629 (by decide +kernel) (by decide +kernel)), qX13_orNobody.1, qX13_orNobody.2.1, qX13_orNobody.2.2.1, qX13_orNobody.2.2.2, by decide⟩
theorem qX13_underAt : Cond.instanceMethod yX13_underAt ∈ jd_TB ∧ Cond.selects RX13 yX13_underAt yX13_underAt ∈ jd_TB ∧ Cond.initialized RX13 ∈ jd_TB ∧ Cond.code yX13_underAt cX13_underAt 4 (some .int) ∈ jd_TB ∧ jd_ds yX13_underAt 1 := ⟨jd_mem 1634 (by decide +kernel) (by decide +kernel), jd_mem 60 (by decide +kernel) (by decide +kernel), jd_mem 104 (by decide +kernel) (by decide +kernel), jd_mem 1635 (by decide +kernel) (by decide +kernel), ⟨by decide, by decide, by decide +kernel⟩⟩
theorem lX13_330 : jd_mv RX13 330 13 29 yX13_underAt cX13_underAt 4 (some .int) 1 := ⟨_, _, rfl, by decide, rfl, Or.inl (jd_mem 1632 (by decide +kernel) (by decide +kernel)), qX13_underAt.1, qX13_underAt.2.1, qX13_underAt.2.2.1, qX13_underAt.2.2.2.1, qX13_underAt.2.2.2.2, by decide⟩
theorem qX13_lostAt : Cond.instanceMethod yX13_lostAt ∈ jd_TB ∧ Cond.selects RX13 yX13_lostAt yX13_lostAt ∈ jd_TB ∧ Cond.initialized RX13 ∈ jd_TB ∧ Cond.code yX13_lostAt cX13_lostAt 4 (some .int) ∈ jd_TB ∧ jd_ds yX13_lostAt 1 := ⟨jd_mem 1638 (by decide +kernel) (by decide +kernel), jd_mem 61 (by decide +kernel) (by decide +kernel), jd_mem 104 (by decide +kernel) (by decide +kernel), jd_mem 1639 (by decide +kernel) (by decide +kernel), ⟨by decide, by decide, by decide +kernel⟩⟩
theorem lX13_333 : jd_mv RX13 333 13 29 yX13_lostAt cX13_lostAt 4 (some .int) 1 := ⟨_, _, rfl, by decide, rfl, Or.inl (jd_mem 1636 (by decide +kernel) (by decide +kernel)), qX13_lostAt.1, qX13_lostAt.2.1, qX13_lostAt.2.2.1, qX13_lostAt.2.2.2.1, qX13_lostAt.2.2.2.2, by decide⟩
theorem fX13_274 : jd_fn RX13 274 12 13 20 true := ⟨_, _, "ShoreGuardsModel", rfl, by decide, by decide, rfl, rfl, List.mem_of_getElem? (i := 1417) (by decide +kernel)⟩
theorem qX13_isPost : Cond.instanceMethod yX13_isPost ∈ jd_TB ∧ Cond.selects RX13 yX13_isPost yX13_isPost ∈ jd_TB ∧ Cond.initialized RX13 ∈ jd_TB ∧ Cond.code yX13_isPost cX13_isPost 2 (some .boolean) ∈ jd_TB ∧ jd_ds yX13_isPost 1 := ⟨jd_mem 1646 (by decide +kernel) (by decide +kernel), jd_mem 62 (by decide +kernel) (by decide +kernel), jd_mem 104 (by decide +kernel) (by decide +kernel), jd_mem 1647 (by decide +kernel) (by decide +kernel), ⟨by decide, by decide, by decide +kernel⟩⟩
theorem lX13_336 : jd_mv RX13 336 13 29 yX13_isPost cX13_isPost 2 (some .boolean) 1 := ⟨_, _, rfl, by decide, rfl, Or.inl (jd_mem 1644 (by decide +kernel) (by decide +kernel)), qX13_isPost.1, qX13_isPost.2.1, qX13_isPost.2.2.1, qX13_isPost.2.2.2.1, qX13_isPost.2.2.2.2, by decide⟩
theorem dX13_lostAt_0 : decode cX13_lostAt 0 = .ok (.iconst 0, 1) := by decide +kernel
theorem dX13_lostAt_1 : decode cX13_lostAt 1 = .ok (.istore_n 2, 1) := by decide +kernel
theorem dX13_lostAt_2 : decode cX13_lostAt 2 = .ok (.iconst 0, 1) := by decide +kernel
theorem dX13_lostAt_3 : decode cX13_lostAt 3 = .ok (.istore_n 3, 1) := by decide +kernel
theorem dX13_lostAt_4 : decode cX13_lostAt 4 = .ok (.iload_n 3, 1) := by decide +kernel
theorem dX13_lostAt_5 : decode cX13_lostAt 5 = .ok (.aload_n 0, 1) := by decide +kernel
theorem dX13_lostAt_6 : decode cX13_lostAt 6 = .ok (.getfield 289, 3) := by decide +kernel
theorem dX13_lostAt_9 : decode cX13_lostAt 9 = .ok (.getfield 185, 3) := by decide +kernel
theorem dX13_lostAt_12 : decode cX13_lostAt 12 = .ok (.if_icmp .ge 47, 3) := by decide +kernel
theorem dX13_lostAt_15 : decode cX13_lostAt 15 = .ok (.iload_n 2, 1) := by decide +kernel
theorem dX13_lostAt_16 : decode cX13_lostAt 16 = .ok (.aload_n 0, 1) := by decide +kernel
theorem dX13_lostAt_17 : decode cX13_lostAt 17 = .ok (.iload_n 3, 1) := by decide +kernel
theorem dX13_lostAt_18 : decode cX13_lostAt 18 = .ok (.invokevirtual 306, 3) := by decide +kernel
theorem dX13_lostAt_21 : decode cX13_lostAt 21 = .ok (.sipush 9999, 3) := by decide +kernel
theorem dX13_lostAt_24 : decode cX13_lostAt 24 = .ok (.if_icmp .ge 26, 3) := by decide +kernel
theorem dX13_lostAt_27 : decode cX13_lostAt 27 = .ok (.aload_n 0, 1) := by decide +kernel
theorem dX13_lostAt_28 : decode cX13_lostAt 28 = .ok (.iload_n 3, 1) := by decide +kernel
theorem dX13_lostAt_29 : decode cX13_lostAt 29 = .ok (.invokevirtual 306, 3) := by decide +kernel
theorem dX13_lostAt_32 : decode cX13_lostAt 32 = .ok (.aload_n 0, 1) := by decide +kernel
theorem dX13_lostAt_33 : decode cX13_lostAt 33 = .ok (.getfield 289, 3) := by decide +kernel
theorem dX13_lostAt_36 : decode cX13_lostAt 36 = .ok (.getfield 153, 3) := by decide +kernel
theorem dX13_lostAt_39 : decode cX13_lostAt 39 = .ok (.iadd, 1) := by decide +kernel
theorem dX13_lostAt_40 : decode cX13_lostAt 40 = .ok (.iload_n 1, 1) := by decide +kernel
theorem dX13_lostAt_41 : decode cX13_lostAt 41 = .ok (.if_icmp .gt 9, 3) := by decide +kernel
theorem dX13_lostAt_44 : decode cX13_lostAt 44 = .ok (.iconst 1, 1) := by decide +kernel
theorem dX13_lostAt_45 : decode cX13_lostAt 45 = .ok (.iload_n 3, 1) := by decide +kernel
theorem dX13_lostAt_46 : decode cX13_lostAt 46 = .ok (.ishl, 1) := by decide +kernel
theorem dX13_lostAt_47 : decode cX13_lostAt 47 = .ok (.goto 4, 3) := by decide +kernel
theorem dX13_lostAt_50 : decode cX13_lostAt 50 = .ok (.iconst 0, 1) := by decide +kernel
theorem dX13_lostAt_51 : decode cX13_lostAt 51 = .ok (.ior, 1) := by decide +kernel
theorem dX13_lostAt_52 : decode cX13_lostAt 52 = .ok (.istore_n 2, 1) := by decide +kernel
theorem dX13_lostAt_53 : decode cX13_lostAt 53 = .ok (.iinc 3 1, 3) := by decide +kernel
theorem dX13_lostAt_56 : decode cX13_lostAt 56 = .ok (.goto (-52), 3) := by decide +kernel
theorem dX13_lostAt_59 : decode cX13_lostAt 59 = .ok (.iload_n 2, 1) := by decide +kernel
theorem dX13_lostAt_60 : decode cX13_lostAt 60 = .ok (.ireturn, 1) := by decide +kernel
theorem dX13_orNobody_0 : decode cX13_orNobody 0 = .ok (.iload_n 0, 1) := by decide +kernel
theorem dX13_orNobody_1 : decode cX13_orNobody 1 = .ok (.sipush 9999, 3) := by decide +kernel
theorem dX13_orNobody_4 : decode cX13_orNobody 4 = .ok (.if_icmp .ne 8, 3) := by decide +kernel
theorem dX13_orNobody_7 : decode cX13_orNobody 7 = .ok (.bipush (-2), 2) := by decide +kernel
theorem dX13_orNobody_9 : decode cX13_orNobody 9 = .ok (.goto 4, 3) := by decide +kernel
theorem dX13_orNobody_12 : decode cX13_orNobody 12 = .ok (.iload_n 0, 1) := by decide +kernel
theorem dX13_orNobody_13 : decode cX13_orNobody 13 = .ok (.ireturn, 1) := by decide +kernel
theorem dX13_person_0 : decode cX13_person 0 = .ok (.aload_n 0, 1) := by decide +kernel
theorem dX13_person_1 : decode cX13_person 1 = .ok (.iconst 0, 1) := by decide +kernel
theorem dX13_person_2 : decode cX13_person 2 = .ok (.putfield 48, 3) := by decide +kernel
theorem dX13_person_5 : decode cX13_person 5 = .ok (.aload_n 0, 1) := by decide +kernel
theorem dX13_person_6 : decode cX13_person 6 = .ok (.iload_n 1, 1) := by decide +kernel
theorem dX13_person_7 : decode cX13_person 7 = .ok (.invokevirtual 321, 3) := by decide +kernel
theorem dX13_person_10 : decode cX13_person 10 = .ok (.ifCond .eq 13, 3) := by decide +kernel
theorem dX13_person_13 : decode cX13_person 13 = .ok (.iload_n 2, 1) := by decide +kernel
theorem dX13_person_14 : decode cX13_person 14 = .ok (.iconst 0, 1) := by decide +kernel
theorem dX13_person_15 : decode cX13_person 15 = .ok (.bipush 8, 2) := by decide +kernel
theorem dX13_person_17 : decode cX13_person 17 = .ok (.invokestatic 131, 3) := by decide +kernel
theorem dX13_person_20 : decode cX13_person 20 = .ok (.ifCond .ne 9, 3) := by decide +kernel
theorem dX13_person_23 : decode cX13_person 23 = .ok (.aload_n 0, 1) := by decide +kernel
theorem dX13_person_24 : decode cX13_person 24 = .ok (.iconst 1, 1) := by decide +kernel
theorem dX13_person_25 : decode cX13_person 25 = .ok (.invokevirtual 54, 3) := by decide +kernel
theorem dX13_person_28 : decode cX13_person 28 = .ok (.ireturn, 1) := by decide +kernel
theorem dX13_person_29 : decode cX13_person 29 = .ok (.aload_n 0, 1) := by decide +kernel
theorem dX13_person_30 : decode cX13_person 30 = .ok (.invokevirtual 324, 3) := by decide +kernel
theorem dX13_person_33 : decode cX13_person 33 = .ok (.iload_n 2, 1) := by decide +kernel
theorem dX13_person_34 : decode cX13_person 34 = .ok (.tableswitch 196 0 7 #[46, 60, 71, 85, 99, 112, 122, 146], 46) := by decide +kernel
theorem dX13_person_80 : decode cX13_person 80 = .ok (.aload_n 0, 1) := by decide +kernel
theorem dX13_person_81 : decode cX13_person 81 = .ok (.aload_n 0, 1) := by decide +kernel
theorem dX13_person_82 : decode cX13_person 82 = .ok (.getfield 289, 3) := by decide +kernel
theorem dX13_person_85 : decode cX13_person 85 = .ok (.getfield 244, 3) := by decide +kernel
theorem dX13_person_88 : decode cX13_person 88 = .ok (.iload_n 1, 1) := by decide +kernel
theorem dX13_person_89 : decode cX13_person 89 = .ok (.iaload, 1) := by decide +kernel
theorem dX13_person_90 : decode cX13_person 90 = .ok (.invokevirtual 58, 3) := by decide +kernel
theorem dX13_person_93 : decode cX13_person 93 = .ok (.ireturn, 1) := by decide +kernel
theorem dX13_person_94 : decode cX13_person 94 = .ok (.aload_n 0, 1) := by decide +kernel
theorem dX13_person_95 : decode cX13_person 95 = .ok (.aload_n 0, 1) := by decide +kernel
theorem dX13_person_96 : decode cX13_person 96 = .ok (.getfield 17, 3) := by decide +kernel
theorem dX13_person_99 : decode cX13_person 99 = .ok (.iload_n 1, 1) := by decide +kernel
theorem dX13_person_100 : decode cX13_person 100 = .ok (.iaload, 1) := by decide +kernel
theorem dX13_person_101 : decode cX13_person 101 = .ok (.invokevirtual 58, 3) := by decide +kernel
theorem dX13_person_104 : decode cX13_person 104 = .ok (.ireturn, 1) := by decide +kernel
theorem dX13_person_105 : decode cX13_person 105 = .ok (.aload_n 0, 1) := by decide +kernel
theorem dX13_person_106 : decode cX13_person 106 = .ok (.aload_n 0, 1) := by decide +kernel
theorem dX13_person_107 : decode cX13_person 107 = .ok (.getfield 289, 3) := by decide +kernel
theorem dX13_person_110 : decode cX13_person 110 = .ok (.getfield 249, 3) := by decide +kernel
theorem dX13_person_113 : decode cX13_person 113 = .ok (.iload_n 1, 1) := by decide +kernel
theorem dX13_person_114 : decode cX13_person 114 = .ok (.iaload, 1) := by decide +kernel
theorem dX13_person_115 : decode cX13_person 115 = .ok (.invokevirtual 58, 3) := by decide +kernel
theorem dX13_person_118 : decode cX13_person 118 = .ok (.ireturn, 1) := by decide +kernel
theorem dX13_person_119 : decode cX13_person 119 = .ok (.aload_n 0, 1) := by decide +kernel
theorem dX13_person_120 : decode cX13_person 120 = .ok (.aload_n 0, 1) := by decide +kernel
theorem dX13_person_121 : decode cX13_person 121 = .ok (.getfield 289, 3) := by decide +kernel
theorem dX13_person_124 : decode cX13_person 124 = .ok (.getfield 251, 3) := by decide +kernel
theorem dX13_person_127 : decode cX13_person 127 = .ok (.iload_n 1, 1) := by decide +kernel
theorem dX13_person_128 : decode cX13_person 128 = .ok (.iaload, 1) := by decide +kernel
theorem dX13_person_129 : decode cX13_person 129 = .ok (.invokevirtual 58, 3) := by decide +kernel
theorem dX13_person_132 : decode cX13_person 132 = .ok (.ireturn, 1) := by decide +kernel
theorem dX13_person_133 : decode cX13_person 133 = .ok (.aload_n 0, 1) := by decide +kernel
theorem dX13_person_134 : decode cX13_person 134 = .ok (.aload_n 0, 1) := by decide +kernel
theorem dX13_person_135 : decode cX13_person 135 = .ok (.iload_n 1, 1) := by decide +kernel
theorem dX13_person_136 : decode cX13_person 136 = .ok (.invokevirtual 306, 3) := by decide +kernel
theorem dX13_person_139 : decode cX13_person 139 = .ok (.invokestatic 327, 3) := by decide +kernel
theorem dX13_person_142 : decode cX13_person 142 = .ok (.invokevirtual 58, 3) := by decide +kernel
theorem dX13_person_145 : decode cX13_person 145 = .ok (.ireturn, 1) := by decide +kernel
theorem dX13_person_146 : decode cX13_person 146 = .ok (.aload_n 0, 1) := by decide +kernel
theorem dX13_person_147 : decode cX13_person 147 = .ok (.aload_n 0, 1) := by decide +kernel
theorem dX13_person_148 : decode cX13_person 148 = .ok (.iload_n 1, 1) := by decide +kernel
theorem dX13_person_149 : decode cX13_person 149 = .ok (.invokevirtual 300, 3) := by decide +kernel
theorem dX13_person_152 : decode cX13_person 152 = .ok (.invokevirtual 58, 3) := by decide +kernel
theorem dX13_person_155 : decode cX13_person 155 = .ok (.ireturn, 1) := by decide +kernel
theorem dX13_person_156 : decode cX13_person 156 = .ok (.aload_n 0, 1) := by decide +kernel
theorem dX13_person_157 : decode cX13_person 157 = .ok (.aload_n 0, 1) := by decide +kernel
theorem dX13_person_158 : decode cX13_person 158 = .ok (.getfield 17, 3) := by decide +kernel
theorem dX13_person_161 : decode cX13_person 161 = .ok (.bipush 7, 2) := by decide +kernel
theorem dX13_person_163 : decode cX13_person 163 = .ok (.iaload, 1) := by decide +kernel
theorem dX13_person_164 : decode cX13_person 164 = .ok (.iload_n 1, 1) := by decide +kernel
theorem dX13_person_165 : decode cX13_person 165 = .ok (.invokestatic 267, 3) := by decide +kernel
theorem dX13_person_168 : decode cX13_person 168 = .ok (.ifCond .eq 7, 3) := by decide +kernel
theorem dX13_person_171 : decode cX13_person 171 = .ok (.iconst 1, 1) := by decide +kernel
theorem dX13_person_172 : decode cX13_person 172 = .ok (.goto 4, 3) := by decide +kernel
theorem dX13_person_175 : decode cX13_person 175 = .ok (.iconst 0, 1) := by decide +kernel
theorem dX13_person_176 : decode cX13_person 176 = .ok (.invokevirtual 58, 3) := by decide +kernel
theorem dX13_person_179 : decode cX13_person 179 = .ok (.ireturn, 1) := by decide +kernel
theorem dX13_person_180 : decode cX13_person 180 = .ok (.aload_n 0, 1) := by decide +kernel
theorem dX13_person_181 : decode cX13_person 181 = .ok (.aload_n 0, 1) := by decide +kernel
theorem dX13_person_182 : decode cX13_person 182 = .ok (.aload_n 0, 1) := by decide +kernel
theorem dX13_person_183 : decode cX13_person 183 = .ok (.getfield 17, 3) := by decide +kernel
theorem dX13_person_186 : decode cX13_person 186 = .ok (.bipush 8, 2) := by decide +kernel
theorem dX13_person_188 : decode cX13_person 188 = .ok (.iaload, 1) := by decide +kernel
theorem dX13_person_189 : decode cX13_person 189 = .ok (.invokevirtual 330, 3) := by decide +kernel
theorem dX13_person_192 : decode cX13_person 192 = .ok (.iload_n 1, 1) := by decide +kernel
theorem dX13_person_193 : decode cX13_person 193 = .ok (.invokestatic 267, 3) := by decide +kernel
theorem dX13_person_196 : decode cX13_person 196 = .ok (.ifCond .eq 7, 3) := by decide +kernel
theorem dX13_person_199 : decode cX13_person 199 = .ok (.iconst 1, 1) := by decide +kernel
theorem dX13_person_200 : decode cX13_person 200 = .ok (.goto 26, 3) := by decide +kernel
theorem dX13_person_203 : decode cX13_person 203 = .ok (.aload_n 0, 1) := by decide +kernel
theorem dX13_person_204 : decode cX13_person 204 = .ok (.aload_n 0, 1) := by decide +kernel
theorem dX13_person_205 : decode cX13_person 205 = .ok (.getfield 17, 3) := by decide +kernel
theorem dX13_person_208 : decode cX13_person 208 = .ok (.bipush 8, 2) := by decide +kernel
theorem dX13_person_210 : decode cX13_person 210 = .ok (.iaload, 1) := by decide +kernel
theorem dX13_person_211 : decode cX13_person 211 = .ok (.invokevirtual 333, 3) := by decide +kernel
theorem dX13_person_214 : decode cX13_person 214 = .ok (.iload_n 1, 1) := by decide +kernel
theorem dX13_person_215 : decode cX13_person 215 = .ok (.invokestatic 267, 3) := by decide +kernel
theorem dX13_person_218 : decode cX13_person 218 = .ok (.ifCond .eq 7, 3) := by decide +kernel
theorem dX13_person_221 : decode cX13_person 221 = .ok (.iconst 2, 1) := by decide +kernel
theorem dX13_person_222 : decode cX13_person 222 = .ok (.goto 4, 3) := by decide +kernel
theorem dX13_person_225 : decode cX13_person 225 = .ok (.iconst 0, 1) := by decide +kernel
theorem dX13_person_226 : decode cX13_person 226 = .ok (.invokevirtual 58, 3) := by decide +kernel
theorem dX13_person_229 : decode cX13_person 229 = .ok (.ireturn, 1) := by decide +kernel
theorem dX13_person_230 : decode cX13_person 230 = .ok (.aload_n 0, 1) := by decide +kernel
theorem dX13_person_231 : decode cX13_person 231 = .ok (.aload_n 0, 1) := by decide +kernel
theorem dX13_person_232 : decode cX13_person 232 = .ok (.getfield 289, 3) := by decide +kernel
theorem dX13_person_235 : decode cX13_person 235 = .ok (.getfield 274, 3) := by decide +kernel
theorem dX13_person_238 : decode cX13_person 238 = .ok (.iload_n 1, 1) := by decide +kernel
theorem dX13_person_239 : decode cX13_person 239 = .ok (.iaload, 1) := by decide +kernel
theorem dX13_person_240 : decode cX13_person 240 = .ok (.invokevirtual 58, 3) := by decide +kernel
theorem dX13_person_243 : decode cX13_person 243 = .ok (.ireturn, 1) := by decide +kernel
theorem dX13_post_0 : decode cX13_post 0 = .ok (.aload_n 0, 1) := by decide +kernel
theorem dX13_post_1 : decode cX13_post 1 = .ok (.iconst 0, 1) := by decide +kernel
theorem dX13_post_2 : decode cX13_post 2 = .ok (.putfield 48, 3) := by decide +kernel
theorem dX13_post_5 : decode cX13_post 5 = .ok (.aload_n 0, 1) := by decide +kernel
theorem dX13_post_6 : decode cX13_post 6 = .ok (.iload_n 1, 1) := by decide +kernel
theorem dX13_post_7 : decode cX13_post 7 = .ok (.invokevirtual 336, 3) := by decide +kernel
theorem dX13_post_10 : decode cX13_post 10 = .ok (.ifCond .eq 12, 3) := by decide +kernel
theorem dX13_post_13 : decode cX13_post 13 = .ok (.iload_n 2, 1) := by decide +kernel
theorem dX13_post_14 : decode cX13_post 14 = .ok (.iconst 0, 1) := by decide +kernel
theorem dX13_post_15 : decode cX13_post 15 = .ok (.iconst 3, 1) := by decide +kernel
theorem dX13_post_16 : decode cX13_post 16 = .ok (.invokestatic 131, 3) := by decide +kernel
theorem dX13_post_19 : decode cX13_post 19 = .ok (.ifCond .ne 9, 3) := by decide +kernel
theorem dX13_post_22 : decode cX13_post 22 = .ok (.aload_n 0, 1) := by decide +kernel
theorem dX13_post_23 : decode cX13_post 23 = .ok (.iconst 1, 1) := by decide +kernel
theorem dX13_post_24 : decode cX13_post 24 = .ok (.invokevirtual 54, 3) := by decide +kernel
theorem dX13_post_27 : decode cX13_post 27 = .ok (.ireturn, 1) := by decide +kernel
theorem dX13_post_28 : decode cX13_post 28 = .ok (.aload_n 0, 1) := by decide +kernel
theorem dX13_post_29 : decode cX13_post 29 = .ok (.invokevirtual 324, 3) := by decide +kernel
theorem dX13_post_32 : decode cX13_post 32 = .ok (.aload_n 0, 1) := by decide +kernel
theorem dX13_post_33 : decode cX13_post 33 = .ok (.iload_n 2, 1) := by decide +kernel
theorem dX13_post_34 : decode cX13_post 34 = .ok (.ifCond .ne 15, 3) := by decide +kernel
theorem dX13_post_37 : decode cX13_post 37 = .ok (.aload_n 0, 1) := by decide +kernel
theorem dX13_post_38 : decode cX13_post 38 = .ok (.getfield 289, 3) := by decide +kernel
theorem dX13_post_41 : decode cX13_post 41 = .ok (.getfield 258, 3) := by decide +kernel
theorem dX13_post_44 : decode cX13_post 44 = .ok (.iload_n 1, 1) := by decide +kernel
theorem dX13_post_45 : decode cX13_post 45 = .ok (.iaload, 1) := by decide +kernel
theorem dX13_post_46 : decode cX13_post 46 = .ok (.goto 44, 3) := by decide +kernel
theorem dX13_post_49 : decode cX13_post 49 = .ok (.iload_n 2, 1) := by decide +kernel
theorem dX13_post_50 : decode cX13_post 50 = .ok (.iconst 1, 1) := by decide +kernel
theorem dX13_post_51 : decode cX13_post 51 = .ok (.if_icmp .ne 15, 3) := by decide +kernel
theorem dX13_post_54 : decode cX13_post 54 = .ok (.aload_n 0, 1) := by decide +kernel
theorem dX13_post_55 : decode cX13_post 55 = .ok (.getfield 289, 3) := by decide +kernel
theorem dX13_post_58 : decode cX13_post 58 = .ok (.getfield 260, 3) := by decide +kernel
theorem dX13_post_61 : decode cX13_post 61 = .ok (.iload_n 1, 1) := by decide +kernel
theorem dX13_post_62 : decode cX13_post 62 = .ok (.iaload, 1) := by decide +kernel
theorem dX13_post_63 : decode cX13_post 63 = .ok (.goto 27, 3) := by decide +kernel
theorem dX13_post_66 : decode cX13_post 66 = .ok (.iload_n 2, 1) := by decide +kernel
theorem dX13_post_67 : decode cX13_post 67 = .ok (.iconst 2, 1) := by decide +kernel
theorem dX13_post_68 : decode cX13_post 68 = .ok (.if_icmp .ne 17, 3) := by decide +kernel
theorem dX13_post_71 : decode cX13_post 71 = .ok (.aload_n 0, 1) := by decide +kernel
theorem dX13_post_72 : decode cX13_post 72 = .ok (.getfield 17, 3) := by decide +kernel
theorem dX13_post_75 : decode cX13_post 75 = .ok (.bipush 6, 2) := by decide +kernel
theorem dX13_post_77 : decode cX13_post 77 = .ok (.iaload, 1) := by decide +kernel
theorem dX13_post_78 : decode cX13_post 78 = .ok (.iload_n 1, 1) := by decide +kernel
theorem dX13_post_79 : decode cX13_post 79 = .ok (.ishr, 1) := by decide +kernel
theorem dX13_post_80 : decode cX13_post 80 = .ok (.iconst 1, 1) := by decide +kernel
theorem dX13_post_81 : decode cX13_post 81 = .ok (.iand, 1) := by decide +kernel
theorem dX13_post_82 : decode cX13_post 82 = .ok (.goto 8, 3) := by decide +kernel
theorem dX13_post_85 : decode cX13_post 85 = .ok (.aload_n 0, 1) := by decide +kernel
theorem dX13_post_86 : decode cX13_post 86 = .ok (.iload_n 1, 1) := by decide +kernel
theorem dX13_post_87 : decode cX13_post 87 = .ok (.invokevirtual 312, 3) := by decide +kernel
theorem dX13_post_90 : decode cX13_post 90 = .ok (.invokevirtual 58, 3) := by decide +kernel
theorem dX13_post_93 : decode cX13_post 93 = .ok (.ireturn, 1) := by decide +kernel
theorem dX13_time_0 : decode cX13_time 0 = .ok (.aload_n 0, 1) := by decide +kernel
theorem dX13_time_1 : decode cX13_time 1 = .ok (.iconst 0, 1) := by decide +kernel
theorem dX13_time_2 : decode cX13_time 2 = .ok (.putfield 48, 3) := by decide +kernel
theorem dX13_time_5 : decode cX13_time 5 = .ok (.aload_n 0, 1) := by decide +kernel
theorem dX13_time_6 : decode cX13_time 6 = .ok (.iload_n 1, 1) := by decide +kernel
theorem dX13_time_7 : decode cX13_time 7 = .ok (.invokevirtual 336, 3) := by decide +kernel
theorem dX13_time_10 : decode cX13_time 10 = .ok (.ifCond .eq 11, 3) := by decide +kernel
theorem dX13_time_13 : decode cX13_time 13 = .ok (.aload_n 0, 1) := by decide +kernel
theorem dX13_time_14 : decode cX13_time 14 = .ok (.iload_n 2, 1) := by decide +kernel
theorem dX13_time_15 : decode cX13_time 15 = .ok (.invokevirtual 321, 3) := by decide +kernel
theorem dX13_time_18 : decode cX13_time 18 = .ok (.ifCond .ne 9, 3) := by decide +kernel
theorem dX13_time_21 : decode cX13_time 21 = .ok (.aload_n 0, 1) := by decide +kernel
theorem dX13_time_22 : decode cX13_time 22 = .ok (.iconst 1, 1) := by decide +kernel
theorem dX13_time_23 : decode cX13_time 23 = .ok (.invokevirtual 54, 3) := by decide +kernel
theorem dX13_time_26 : decode cX13_time 26 = .ok (.ireturn, 1) := by decide +kernel
theorem dX13_time_27 : decode cX13_time 27 = .ok (.aload_n 0, 1) := by decide +kernel
theorem dX13_time_28 : decode cX13_time 28 = .ok (.invokevirtual 324, 3) := by decide +kernel
theorem dX13_time_31 : decode cX13_time 31 = .ok (.aload_n 0, 1) := by decide +kernel
theorem dX13_time_32 : decode cX13_time 32 = .ok (.aload_n 0, 1) := by decide +kernel
theorem dX13_time_33 : decode cX13_time 33 = .ok (.iload_n 1, 1) := by decide +kernel
theorem dX13_time_34 : decode cX13_time 34 = .ok (.iload_n 2, 1) := by decide +kernel
theorem dX13_time_35 : decode cX13_time 35 = .ok (.invokevirtual 309, 3) := by decide +kernel
theorem dX13_time_38 : decode cX13_time 38 = .ok (.invokevirtual 58, 3) := by decide +kernel
theorem dX13_time_41 : decode cX13_time 41 = .ok (.ireturn, 1) := by decide +kernel
theorem dX13_sinkers_0 : decode cX13_sinkers 0 = .ok (.aload_n 0, 1) := by decide +kernel
theorem dX13_sinkers_1 : decode cX13_sinkers 1 = .ok (.iconst 0, 1) := by decide +kernel
theorem dX13_sinkers_2 : decode cX13_sinkers 2 = .ok (.putfield 48, 3) := by decide +kernel
theorem dX13_sinkers_5 : decode cX13_sinkers 5 = .ok (.aload_n 0, 1) := by decide +kernel
theorem dX13_sinkers_6 : decode cX13_sinkers 6 = .ok (.getfield 289, 3) := by decide +kernel
theorem dX13_sinkers_9 : decode cX13_sinkers 9 = .ok (.ifnonnull 9, 3) := by decide +kernel
theorem dX13_sinkers_12 : decode cX13_sinkers 12 = .ok (.aload_n 0, 1) := by decide +kernel
theorem dX13_sinkers_13 : decode cX13_sinkers 13 = .ok (.iconst 1, 1) := by decide +kernel
theorem dX13_sinkers_14 : decode cX13_sinkers 14 = .ok (.invokevirtual 54, 3) := by decide +kernel
theorem dX13_sinkers_17 : decode cX13_sinkers 17 = .ok (.ireturn, 1) := by decide +kernel
theorem dX13_sinkers_18 : decode cX13_sinkers 18 = .ok (.aload_n 0, 1) := by decide +kernel
theorem dX13_sinkers_19 : decode cX13_sinkers 19 = .ok (.invokevirtual 324, 3) := by decide +kernel
theorem dX13_sinkers_22 : decode cX13_sinkers 22 = .ok (.aload_n 0, 1) := by decide +kernel
theorem dX13_sinkers_23 : decode cX13_sinkers 23 = .ok (.aload_n 0, 1) := by decide +kernel
theorem dX13_sinkers_24 : decode cX13_sinkers 24 = .ok (.invokevirtual 315, 3) := by decide +kernel
theorem dX13_sinkers_27 : decode cX13_sinkers 27 = .ok (.invokevirtual 58, 3) := by decide +kernel
theorem dX13_sinkers_30 : decode cX13_sinkers 30 = .ok (.ireturn, 1) := by decide +kernel
theorem dX13_first_0 : decode cX13_first 0 = .ok (.aload_n 0, 1) := by decide +kernel
theorem dX13_first_1 : decode cX13_first 1 = .ok (.iconst 0, 1) := by decide +kernel
theorem dX13_first_2 : decode cX13_first 2 = .ok (.putfield 48, 3) := by decide +kernel
theorem dX13_first_5 : decode cX13_first 5 = .ok (.aload_n 0, 1) := by decide +kernel
theorem dX13_first_6 : decode cX13_first 6 = .ok (.getfield 289, 3) := by decide +kernel
theorem dX13_first_9 : decode cX13_first 9 = .ok (.ifnonnull 9, 3) := by decide +kernel
theorem dX13_first_12 : decode cX13_first 12 = .ok (.aload_n 0, 1) := by decide +kernel
theorem dX13_first_13 : decode cX13_first 13 = .ok (.iconst 1, 1) := by decide +kernel
theorem dX13_first_14 : decode cX13_first 14 = .ok (.invokevirtual 54, 3) := by decide +kernel
theorem dX13_first_17 : decode cX13_first 17 = .ok (.ireturn, 1) := by decide +kernel
theorem dX13_first_18 : decode cX13_first 18 = .ok (.aload_n 0, 1) := by decide +kernel
theorem dX13_first_19 : decode cX13_first 19 = .ok (.invokevirtual 324, 3) := by decide +kernel
theorem dX13_first_22 : decode cX13_first 22 = .ok (.bipush (-2), 2) := by decide +kernel
theorem dX13_first_24 : decode cX13_first 24 = .ok (.istore_n 1, 1) := by decide +kernel
theorem dX13_first_25 : decode cX13_first 25 = .ok (.iconst 0, 1) := by decide +kernel
theorem dX13_first_26 : decode cX13_first 26 = .ok (.istore_n 2, 1) := by decide +kernel
theorem dX13_first_27 : decode cX13_first 27 = .ok (.iload_n 2, 1) := by decide +kernel
theorem dX13_first_28 : decode cX13_first 28 = .ok (.aload_n 0, 1) := by decide +kernel
theorem dX13_first_29 : decode cX13_first 29 = .ok (.getfield 289, 3) := by decide +kernel
theorem dX13_first_32 : decode cX13_first 32 = .ok (.getfield 185, 3) := by decide +kernel
theorem dX13_first_35 : decode cX13_first 35 = .ok (.if_icmp .ge 41, 3) := by decide +kernel
theorem dX13_first_38 : decode cX13_first 38 = .ok (.aload_n 0, 1) := by decide +kernel
theorem dX13_first_39 : decode cX13_first 39 = .ok (.iload_n 2, 1) := by decide +kernel
theorem dX13_first_40 : decode cX13_first 40 = .ok (.invokevirtual 306, 3) := by decide +kernel
theorem dX13_first_43 : decode cX13_first 43 = .ok (.sipush 9999, 3) := by decide +kernel
theorem dX13_first_46 : decode cX13_first 46 = .ok (.if_icmp .ge 24, 3) := by decide +kernel
theorem dX13_first_49 : decode cX13_first 49 = .ok (.iload_n 1, 1) := by decide +kernel
theorem dX13_first_50 : decode cX13_first 50 = .ok (.bipush (-2), 2) := by decide +kernel
theorem dX13_first_52 : decode cX13_first 52 = .ok (.if_icmp .eq 16, 3) := by decide +kernel
theorem dX13_first_55 : decode cX13_first 55 = .ok (.aload_n 0, 1) := by decide +kernel
theorem dX13_first_56 : decode cX13_first 56 = .ok (.iload_n 2, 1) := by decide +kernel
theorem dX13_first_57 : decode cX13_first 57 = .ok (.invokevirtual 306, 3) := by decide +kernel
theorem dX13_first_60 : decode cX13_first 60 = .ok (.aload_n 0, 1) := by decide +kernel
theorem dX13_first_61 : decode cX13_first 61 = .ok (.iload_n 1, 1) := by decide +kernel
theorem dX13_first_62 : decode cX13_first 62 = .ok (.invokevirtual 306, 3) := by decide +kernel
theorem dX13_first_65 : decode cX13_first 65 = .ok (.if_icmp .ge 5, 3) := by decide +kernel
theorem dX13_first_68 : decode cX13_first 68 = .ok (.iload_n 2, 1) := by decide +kernel
theorem dX13_first_69 : decode cX13_first 69 = .ok (.istore_n 1, 1) := by decide +kernel
theorem dX13_first_70 : decode cX13_first 70 = .ok (.iinc 2 1, 3) := by decide +kernel
theorem dX13_first_73 : decode cX13_first 73 = .ok (.goto (-46), 3) := by decide +kernel
theorem dX13_first_76 : decode cX13_first 76 = .ok (.aload_n 0, 1) := by decide +kernel
theorem dX13_first_77 : decode cX13_first 77 = .ok (.iload_n 1, 1) := by decide +kernel
theorem dX13_first_78 : decode cX13_first 78 = .ok (.invokevirtual 58, 3) := by decide +kernel
theorem dX13_first_81 : decode cX13_first 81 = .ok (.ireturn, 1) := by decide +kernel
def m_X13_lostAt (t : Nat) (x0p : Int32) (σ : jd_Hp) : Option (Int32 × jd_Hp) :=
jd_b (jd_lp (S := Int32 × Int32) (T := Int32) (fun s1 σ1 =>
jd_o σ1 (13, 29) (some t) fun a3 =>
jd_o σ1 (12, 20) (σ1.2.2.2 a3 3) fun a4 =>
jd_if ((σ1.2.1 a4 3) ≤ s1.2) (
some ((Sum.inr s1.1), σ1)) (
jd_b (m_X13_sinksAt a3 s1.2 σ1) fun r5 σ5 =>
jd_if (9999 ≤ r5) (
jd_li (s1.1 ||| 0) fun x6 =>
some (Sum.inl (x6, (s1.2 + 1)), σ5)) (
jd_b (m_X13_sinksAt a3 s1.2 σ5) fun r7 σ7 =>
jd_o σ7 (12, 20) (σ7.2.2.2 a3 3) fun a8 =>
jd_if (x0p < (r7 + (σ7.2.1 a8 0))) (
jd_li (s1.1 ||| 0) fun x9 =>
some (Sum.inl (x9, (s1.2 + 1)), σ7)) (
jd_li (s1.1 ||| (1 <<< (s1.2 &&& 31))) fun x10 =>
some (Sum.inl (x10, (s1.2 + 1)), σ7))))) jd_fu (0, 0) σ) fun t2 σ2 =>
some (t2, σ2)
set_option maxHeartbeats 4000000 in
set_option maxRecDepth 20000 in
theorem c_X13_lostAt {l : Launch} {s0 : State} {G : jd_G} (hF : jd_F s0 G) (σ : jd_Hp) (t : Nat) (ht : σ.1[t]? = some (13, 29)) (x0p : Int32) : jd_M l s0 G yX13_lostAt cX13_lostAt 4 (some .int) 3 je_i [jd_v G (some t), .int x0p] σ (m_X13_lostAt t x0p σ) := by
  refine jd_enter hF (by decide) (fun G => [some (jd_v G (some t)), some (.int x0p), none, none]) rfl (by simp [lv_args, jd_al, jd_v_cat, jd_cti, jd_ctl]) (by simp [lg_sl, jd_v_cat, jd_cti, jd_ctl]) (fun X hD hX => ?_)
  have hX : jd_C X RX13 "lostAt" cX13_lostAt 4 (some .int) := hX
  unfold m_X13_lostAt
  refine jr_iconst (pc := 0) hX 0 rfl dX13_lostAt_0 ?_
  refine jr_ist2 (pc := 1) hX (jn_i _) dX13_lostAt_1 ?_
  refine jr_iconst (pc := 2) hX 0 rfl dX13_lostAt_2 ?_
  refine jr_ist3 (pc := 3) hX (jn_i _) dX13_lostAt_3 ?_
  refine jr_loop (pc := 4) (fun (s1 : Int32 × Int32) => [some (jd_v (jd_gG X) (some t)), some (.int x0p), some (.int s1.1), some (.int s1.2)]) (fun (t2 : Int32) => [none, none, some (.int t2), none]) 59 (0, 0) (fun t2 σ2 => ?_) (fun K1 bk1 ex1 s1 σ1 => ?_)
  · refine jr_ild2 (pc := 59) hX dX13_lostAt_59 ?_
    exact jr_iret (pc := 60) hX dX13_lostAt_60 rfl
  · refine jr_ild3 (pc := 4) hX dX13_lostAt_4 ?_
    refine jr_ald0 (pc := 5) hX dX13_lostAt_5 ?_
    refine jr_ck0 (fun a3 e3 h3 => ?_)
    refine jr_getr (pc := 6) hX fX13_289 rfl dX13_lostAt_6 h3 ?_
    refine jr_ck0 (fun a4 e4 h4 => ?_)
    refine jr_getiN (pc := 9) hX fX13_185 rfl dX13_lostAt_9 h4 ?_
    refine jr_icge (pc := 12) hX 59 dX13_lostAt_12 (by decide) ?_ ?_
    · refine jr_wk [false, false, true, false] ?_
      exact ex1 s1.1 _
    · refine jr_ild2 (pc := 15) hX dX13_lostAt_15 ?_
      refine jr_ald0 (pc := 16) hX dX13_lostAt_16 ?_
      refine jr_ild3 (pc := 17) hX dX13_lostAt_17 ?_
      refine jr_ek1 e3 ?_
      refine jr_cV1i (pc := 18) hX lX13_306 (c_X13_sinksAt hX.F σ1 a3 h3 _) (jd_dd hD rfl) (Nat.le_of_ble_eq_true rfl) dX13_lostAt_18 h3 (fun r5 σ5 p5 => ?_)
      refine jr_sipush (pc := 21) hX 9999 rfl dX13_lostAt_21 ?_
      refine jr_icge (pc := 24) hX 50 dX13_lostAt_24 (by decide) ?_ ?_
      · refine jr_iconst (pc := 50) hX 0 rfl dX13_lostAt_50 ?_
        refine jr_ior (pc := 51) hX dX13_lostAt_51 ?_
        refine jr_ist2 (pc := 52) hX (jn_i _) dX13_lostAt_52 ?_
        refine jr_li ?_
        refine jr_inc3 (pc := 53) hX 1 rfl (jn_i _) dX13_lostAt_53 ?_
        refine jr_goto (pc := 56) hX 4 dX13_lostAt_56 (by decide) ?_
        exact bk1 ((s1.1 ||| 0), (s1.2 + 1)) _
      · refine jr_ald0 (pc := 27) hX dX13_lostAt_27 ?_
        refine jr_ild3 (pc := 28) hX dX13_lostAt_28 ?_
        refine jr_ek1 e3 ?_
        refine jr_cV1i (pc := 29) hX lX13_306 (c_X13_sinksAt hX.F σ5 a3 (p5.at h3 :) _) (jd_dd hD rfl) (Nat.le_of_ble_eq_true rfl) dX13_lostAt_29 (p5.at h3 :) (fun r7 σ7 p7 => ?_)
        refine jr_ald0 (pc := 32) hX dX13_lostAt_32 ?_
        refine jr_ek0 e3 ?_
        refine jr_getr (pc := 33) hX fX13_289 rfl dX13_lostAt_33 (p7.at (p5.at h3 :) :) ?_
        refine jr_ck0 (fun a8 e8 h8 => ?_)
        refine jr_getiN (pc := 36) hX fX13_153 rfl dX13_lostAt_36 h8 ?_
        refine jr_iadd (pc := 39) hX dX13_lostAt_39 ?_
        refine jr_ild1 (pc := 40) hX dX13_lostAt_40 ?_
        refine jr_icgt (pc := 41) hX 50 dX13_lostAt_41 (by decide) ?_ ?_
        · refine jr_iconst (pc := 50) hX 0 rfl dX13_lostAt_50 ?_
          refine jr_ior (pc := 51) hX dX13_lostAt_51 ?_
          refine jr_ist2 (pc := 52) hX (jn_i _) dX13_lostAt_52 ?_
          refine jr_li ?_
          refine jr_inc3 (pc := 53) hX 1 rfl (jn_i _) dX13_lostAt_53 ?_
          refine jr_goto (pc := 56) hX 4 dX13_lostAt_56 (by decide) ?_
          exact bk1 ((s1.1 ||| 0), (s1.2 + 1)) _
        · refine jr_iconst (pc := 44) hX 1 rfl dX13_lostAt_44 ?_
          refine jr_ild3 (pc := 45) hX dX13_lostAt_45 ?_
          refine jr_ishl (pc := 46) hX dX13_lostAt_46 ?_
          refine jr_goto (pc := 47) hX 51 dX13_lostAt_47 (by decide) ?_
          refine jr_ior (pc := 51) hX dX13_lostAt_51 ?_
          refine jr_ist2 (pc := 52) hX (jn_i _) dX13_lostAt_52 ?_
          refine jr_li ?_
          refine jr_inc3 (pc := 53) hX 1 rfl (jn_i _) dX13_lostAt_53 ?_
          refine jr_goto (pc := 56) hX 4 dX13_lostAt_56 (by decide) ?_
          exact bk1 ((s1.1 ||| (1 <<< (s1.2 &&& 31))), (s1.2 + 1)) _
def m_X13_orNobody (x0p : Int32) (σ : jd_Hp) : Option (Int32 × jd_Hp) :=
jd_if (¬ x0p = 9999) (
some (x0p, σ)) (
some ((-2), σ))
set_option maxHeartbeats 4000000 in
set_option maxRecDepth 20000 in
theorem c_X13_orNobody {l : Launch} {s0 : State} {G : jd_G} (hF : jd_F s0 G) (σ : jd_Hp) (x0p : Int32) : jd_M l s0 G yX13_orNobody cX13_orNobody 1 (some .int) 0 je_i [.int x0p] σ (m_X13_orNobody x0p σ) := by
  refine jd_enter hF (by decide) (fun G => [some (.int x0p)]) rfl (by simp [lv_args, jd_al, jd_v_cat, jd_cti, jd_ctl]) (by simp [lg_sl, jd_v_cat, jd_cti, jd_ctl]) (fun X hD hX => ?_)
  have hX : jd_C X RX13 "orNobody" cX13_orNobody 1 (some .int) := hX
  unfold m_X13_orNobody
  refine jr_ild0 (pc := 0) hX dX13_orNobody_0 ?_
  refine jr_sipush (pc := 1) hX 9999 rfl dX13_orNobody_1 ?_
  refine jr_icne (pc := 4) hX 12 dX13_orNobody_4 (by decide) ?_ ?_
  · refine jr_ild0 (pc := 12) hX dX13_orNobody_12 ?_
    exact jr_iret (pc := 13) hX dX13_orNobody_13 rfl
  · refine jr_bipush (pc := 7) hX (-2) rfl dX13_orNobody_7 ?_
    refine jr_goto (pc := 9) hX 13 dX13_orNobody_9 (by decide) ?_
    exact jr_iret (pc := 13) hX dX13_orNobody_13 rfl
def m_X13_person (t : Nat) (x0p : Int32) (x1p : Int32) (σ : jd_Hp) : Option (Int32 × jd_Hp) :=
jd_li (jd_pi σ t 0 0) fun τ1 =>
jd_b (m_X13_isPerson t x0p τ1) fun r2 σ2 =>
jd_if (r2 = 0) (
jd_b (m_X13_refused t 1 σ2) fun r3 σ3 =>
some (r3, σ3)) (
jd_b (m_X13_in x1p 0 8 σ2) fun r4 σ4 =>
jd_if (¬ r4 = 0) (
jd_b (m_X13_works t σ4) fun r5 σ5 =>
jd_sw x1p 0 [
jd_o σ5 (12, 20) (σ5.2.2.2 t 3) fun a6 =>
jd_ia σ5 20 (σ5.2.2.2 a6 9) x0p fun a7 j7 =>
jd_b (m_X13_good t (σ5.2.1 a7 j7) σ5) fun r8 σ8 =>
some (r8, σ8),
jd_ia σ5 20 (σ5.2.2.2 t 15) x0p fun a9 j9 =>
jd_b (m_X13_good t (σ5.2.1 a9 j9) σ5) fun r10 σ10 =>
some (r10, σ10),
jd_o σ5 (12, 20) (σ5.2.2.2 t 3) fun a11 =>
jd_ia σ5 20 (σ5.2.2.2 a11 11) x0p fun a12 j12 =>
jd_b (m_X13_good t (σ5.2.1 a12 j12) σ5) fun r13 σ13 =>
some (r13, σ13),
jd_o σ5 (12, 20) (σ5.2.2.2 t 3) fun a14 =>
jd_ia σ5 20 (σ5.2.2.2 a14 12) x0p fun a15 j15 =>
jd_b (m_X13_good t (σ5.2.1 a15 j15) σ5) fun r16 σ16 =>
some (r16, σ16),
jd_b (m_X13_sinksAt t x0p σ5) fun r17 σ17 =>
jd_b (m_X13_orNobody r17 σ17) fun r18 σ18 =>
jd_b (m_X13_good t r18 σ18) fun r19 σ19 =>
some (r19, σ19),
jd_b (m_X13_nearTo t x0p σ5) fun r20 σ20 =>
jd_b (m_X13_good t r20 σ20) fun r21 σ21 =>
some (r21, σ21),
jd_ia σ5 20 (σ5.2.2.2 t 15) 7 fun a22 j22 =>
jd_b (m_X13_bit (σ5.2.1 a22 j22) x0p σ5) fun r23 σ23 =>
jd_if (r23 = 0) (
jd_b (m_X13_good t 0 σ23) fun r24 σ24 =>
some (r24, σ24)) (
jd_b (m_X13_good t 1 σ23) fun r25 σ25 =>
some (r25, σ25)),
jd_ia σ5 20 (σ5.2.2.2 t 15) 8 fun a26 j26 =>
jd_b (m_X13_underAt t (σ5.2.1 a26 j26) σ5) fun r27 σ27 =>
jd_b (m_X13_bit r27 x0p σ27) fun r28 σ28 =>
jd_if (r28 = 0) (
jd_ia σ28 20 (σ28.2.2.2 t 15) 8 fun a29 j29 =>
jd_b (m_X13_lostAt t (σ28.2.1 a29 j29) σ28) fun r30 σ30 =>
jd_b (m_X13_bit r30 x0p σ30) fun r31 σ31 =>
jd_if (r31 = 0) (
jd_b (m_X13_good t 0 σ31) fun r32 σ32 =>
some (r32, σ32)) (
jd_b (m_X13_good t 2 σ31) fun r33 σ33 =>
some (r33, σ33))) (
jd_b (m_X13_good t 1 σ28) fun r34 σ34 =>
some (r34, σ34))] (
jd_o σ5 (12, 20) (σ5.2.2.2 t 3) fun a35 =>
jd_ia σ5 20 (σ5.2.2.2 a35 13) x0p fun a36 j36 =>
jd_b (m_X13_good t (σ5.2.1 a36 j36) σ5) fun r37 σ37 =>
some (r37, σ37))) (
jd_b (m_X13_refused t 1 σ4) fun r38 σ38 =>
some (r38, σ38)))
set_option maxHeartbeats 4000000 in
set_option maxRecDepth 20000 in
theorem c_X13_person {l : Launch} {s0 : State} {G : jd_G} (hF : jd_F s0 G) (σ : jd_Hp) (t : Nat) (ht : σ.1[t]? = some (13, 29)) (x0p : Int32) (x1p : Int32) : jd_M l s0 G yX13_person cX13_person 3 (some .int) 4 je_i [jd_v G (some t), .int x0p, .int x1p] σ (m_X13_person t x0p x1p σ) := by
  refine jd_enter hF (by decide) (fun G => [some (jd_v G (some t)), some (.int x0p), some (.int x1p)]) rfl (by simp [lv_args, jd_al, jd_v_cat, jd_cti, jd_ctl]) (by simp [lg_sl, jd_v_cat, jd_cti, jd_ctl]) (fun X hD hX => ?_)
  have hX : jd_C X RX13 "person" cX13_person 3 (some .int) := hX
  unfold m_X13_person
  refine jr_ald0 (pc := 0) hX dX13_person_0 ?_
  refine jr_iconst (pc := 1) hX 0 rfl dX13_person_1 ?_
  refine jr_puti (pc := 2) hX fX13_48 rfl dX13_person_2 ht ?_
  refine jr_li ?_
  refine jr_ald0 (pc := 5) hX dX13_person_5 ?_
  refine jr_ild1 (pc := 6) hX dX13_person_6 ?_
  refine jr_cV1i (pc := 7) hX lX13_321 (c_X13_isPerson hX.F (jd_pi σ t 0 0) t ht _) (jd_dd hD rfl) (Nat.le_of_ble_eq_true rfl) dX13_person_7 ht (fun r2 σ2 p2 => ?_)
  refine jr_ifeq (pc := 10) hX 23 dX13_person_10 (by decide) ?_ ?_
  · refine jr_ald0 (pc := 23) hX dX13_person_23 ?_
    refine jr_iconst (pc := 24) hX 1 rfl dX13_person_24 ?_
    refine jr_cV1i (pc := 25) hX lX13_54 (c_X13_refused hX.F σ2 t (p2.at ht :) _) (jd_dd hD rfl) (Nat.le_of_ble_eq_true rfl) dX13_person_25 (p2.at ht :) (fun r3 σ3 p3 => ?_)
    exact jr_iret (pc := 28) hX dX13_person_28 rfl
  · refine jr_ild2 (pc := 13) hX dX13_person_13 ?_
    refine jr_iconst (pc := 14) hX 0 rfl dX13_person_14 ?_
    refine jr_bipush (pc := 15) hX 8 rfl dX13_person_15 ?_
    refine jr_cS3i (pc := 17) hX lX13_131 (c_X13_in hX.F σ2 _ _ _) (jd_dd hD rfl) (Nat.le_of_ble_eq_true rfl) dX13_person_17 (fun r4 σ4 p4 => ?_)
    refine jr_ifne (pc := 20) hX 29 dX13_person_20 (by decide) ?_ ?_
    · refine jr_ald0 (pc := 29) hX dX13_person_29 ?_
      refine jr_cV0v (pc := 30) hX lX13_324 (c_X13_works hX.F σ4 t (p4.at (p2.at ht :) :)) (jd_dd hD rfl) (Nat.le_of_ble_eq_true rfl) dX13_person_30 (p4.at (p2.at ht :) :) (fun r5 σ5 p5 => ?_)
      refine jr_ild2 (pc := 33) hX dX13_person_33 ?_
      refine jr_tsw (pc := 34) hX [80, 94, 105, 119, 133, 146, 156, 180] 230 dX13_person_34 (by decide) rfl (by decide) rfl (fun i t A h1 h2 => ?_) ?_
      · match i, h1, h2 with
        | 0, h1, h2 =>
          cases h1
          cases h2
          refine jr_ald0 (pc := 80) hX dX13_person_80 ?_
          refine jr_ald0 (pc := 81) hX dX13_person_81 ?_
          refine jr_getr (pc := 82) hX fX13_289 rfl dX13_person_82 (p5.at (p4.at (p2.at ht :) :) :) ?_
          refine jr_ck0 (fun a6 e6 h6 => ?_)
          refine jr_getrN (pc := 85) hX fX13_244 rfl dX13_person_85 h6 ?_
          refine jr_ild1 (pc := 88) hX dX13_person_88 ?_
          refine jr_iaC (pc := 89) hX dX13_person_89 (fun a7 n7 e7 h7 => ?_)
          refine jr_cV1i (pc := 90) hX lX13_58 (c_X13_good hX.F σ5 t (p5.at (p4.at (p2.at ht :) :) :) _) (jd_dd hD rfl) (Nat.le_of_ble_eq_true rfl) dX13_person_90 (p5.at (p4.at (p2.at ht :) :) :) (fun r8 σ8 p8 => ?_)
          exact jr_iret (pc := 93) hX dX13_person_93 rfl
        | 1, h1, h2 =>
          cases h1
          cases h2
          refine jr_ald0 (pc := 94) hX dX13_person_94 ?_
          refine jr_ald0 (pc := 95) hX dX13_person_95 ?_
          refine jr_getr (pc := 96) hX fX13_17 rfl dX13_person_96 (p5.at (p4.at (p2.at ht :) :) :) ?_
          refine jr_ild1 (pc := 99) hX dX13_person_99 ?_
          refine jr_iaC (pc := 100) hX dX13_person_100 (fun a9 n9 e9 h9 => ?_)
          refine jr_cV1i (pc := 101) hX lX13_58 (c_X13_good hX.F σ5 t (p5.at (p4.at (p2.at ht :) :) :) _) (jd_dd hD rfl) (Nat.le_of_ble_eq_true rfl) dX13_person_101 (p5.at (p4.at (p2.at ht :) :) :) (fun r10 σ10 p10 => ?_)
          exact jr_iret (pc := 104) hX dX13_person_104 rfl
        | 2, h1, h2 =>
          cases h1
          cases h2
          refine jr_ald0 (pc := 105) hX dX13_person_105 ?_
          refine jr_ald0 (pc := 106) hX dX13_person_106 ?_
          refine jr_getr (pc := 107) hX fX13_289 rfl dX13_person_107 (p5.at (p4.at (p2.at ht :) :) :) ?_
          refine jr_ck0 (fun a11 e11 h11 => ?_)
          refine jr_getrN (pc := 110) hX fX13_249 rfl dX13_person_110 h11 ?_
          refine jr_ild1 (pc := 113) hX dX13_person_113 ?_
          refine jr_iaC (pc := 114) hX dX13_person_114 (fun a12 n12 e12 h12 => ?_)
          refine jr_cV1i (pc := 115) hX lX13_58 (c_X13_good hX.F σ5 t (p5.at (p4.at (p2.at ht :) :) :) _) (jd_dd hD rfl) (Nat.le_of_ble_eq_true rfl) dX13_person_115 (p5.at (p4.at (p2.at ht :) :) :) (fun r13 σ13 p13 => ?_)
          exact jr_iret (pc := 118) hX dX13_person_118 rfl
        | 3, h1, h2 =>
          cases h1
          cases h2
          refine jr_ald0 (pc := 119) hX dX13_person_119 ?_
          refine jr_ald0 (pc := 120) hX dX13_person_120 ?_
          refine jr_getr (pc := 121) hX fX13_289 rfl dX13_person_121 (p5.at (p4.at (p2.at ht :) :) :) ?_
          refine jr_ck0 (fun a14 e14 h14 => ?_)
          refine jr_getrN (pc := 124) hX fX13_251 rfl dX13_person_124 h14 ?_
          refine jr_ild1 (pc := 127) hX dX13_person_127 ?_
          refine jr_iaC (pc := 128) hX dX13_person_128 (fun a15 n15 e15 h15 => ?_)
          refine jr_cV1i (pc := 129) hX lX13_58 (c_X13_good hX.F σ5 t (p5.at (p4.at (p2.at ht :) :) :) _) (jd_dd hD rfl) (Nat.le_of_ble_eq_true rfl) dX13_person_129 (p5.at (p4.at (p2.at ht :) :) :) (fun r16 σ16 p16 => ?_)
          exact jr_iret (pc := 132) hX dX13_person_132 rfl
        | 4, h1, h2 =>
          cases h1
          cases h2
          refine jr_ald0 (pc := 133) hX dX13_person_133 ?_
          refine jr_ald0 (pc := 134) hX dX13_person_134 ?_
          refine jr_ild1 (pc := 135) hX dX13_person_135 ?_
          refine jr_cV1i (pc := 136) hX lX13_306 (c_X13_sinksAt hX.F σ5 t (p5.at (p4.at (p2.at ht :) :) :) _) (jd_dd hD rfl) (by simp [jd_v_cat, jd_cti, jd_ctl]) dX13_person_136 (p5.at (p4.at (p2.at ht :) :) :) (fun r17 σ17 p17 => ?_)
          refine jr_cS1i (pc := 139) hX lX13_327 (c_X13_orNobody hX.F σ17 _) (jd_dd hD rfl) (by simp [jd_v_cat, jd_cti, jd_ctl]) dX13_person_139 (fun r18 σ18 p18 => ?_)
          refine jr_cV1i (pc := 142) hX lX13_58 (c_X13_good hX.F σ18 t (p18.at (p17.at (p5.at (p4.at (p2.at ht :) :) :) :) :) _) (jd_dd hD rfl) (Nat.le_of_ble_eq_true rfl) dX13_person_142 (p18.at (p17.at (p5.at (p4.at (p2.at ht :) :) :) :) :) (fun r19 σ19 p19 => ?_)
          exact jr_iret (pc := 145) hX dX13_person_145 rfl
        | 5, h1, h2 =>
          cases h1
          cases h2
          refine jr_ald0 (pc := 146) hX dX13_person_146 ?_
          refine jr_ald0 (pc := 147) hX dX13_person_147 ?_
          refine jr_ild1 (pc := 148) hX dX13_person_148 ?_
          refine jr_cV1i (pc := 149) hX lX13_300 (c_X13_nearTo hX.F σ5 t (p5.at (p4.at (p2.at ht :) :) :) _) (jd_dd hD rfl) (by simp [jd_v_cat, jd_cti, jd_ctl]) dX13_person_149 (p5.at (p4.at (p2.at ht :) :) :) (fun r20 σ20 p20 => ?_)
          refine jr_cV1i (pc := 152) hX lX13_58 (c_X13_good hX.F σ20 t (p20.at (p5.at (p4.at (p2.at ht :) :) :) :) _) (jd_dd hD rfl) (Nat.le_of_ble_eq_true rfl) dX13_person_152 (p20.at (p5.at (p4.at (p2.at ht :) :) :) :) (fun r21 σ21 p21 => ?_)
          exact jr_iret (pc := 155) hX dX13_person_155 rfl
        | 6, h1, h2 =>
          cases h1
          cases h2
          refine jr_ald0 (pc := 156) hX dX13_person_156 ?_
          refine jr_ald0 (pc := 157) hX dX13_person_157 ?_
          refine jr_getr (pc := 158) hX fX13_17 rfl dX13_person_158 (p5.at (p4.at (p2.at ht :) :) :) ?_
          refine jr_bipush (pc := 161) hX 7 rfl dX13_person_161 ?_
          refine jr_iaC (pc := 163) hX dX13_person_163 (fun a22 n22 e22 h22 => ?_)
          refine jr_ild1 (pc := 164) hX dX13_person_164 ?_
          refine jr_cS2i (pc := 165) hX lX13_267 (c_X13_bit hX.F σ5 _ _) (jd_dd hD rfl) (by simp [jd_v_cat, jd_cti, jd_ctl]) dX13_person_165 (fun r23 σ23 p23 => ?_)
          refine jr_ifeq (pc := 168) hX 175 dX13_person_168 (by decide) ?_ ?_
          · refine jr_iconst (pc := 175) hX 0 rfl dX13_person_175 ?_
            refine jr_cV1i (pc := 176) hX lX13_58 (c_X13_good hX.F σ23 t (p23.at (p5.at (p4.at (p2.at ht :) :) :) :) _) (jd_dd hD rfl) (Nat.le_of_ble_eq_true rfl) dX13_person_176 (p23.at (p5.at (p4.at (p2.at ht :) :) :) :) (fun r24 σ24 p24 => ?_)
            exact jr_iret (pc := 179) hX dX13_person_179 rfl
          · refine jr_iconst (pc := 171) hX 1 rfl dX13_person_171 ?_
            refine jr_goto (pc := 172) hX 176 dX13_person_172 (by decide) ?_
            refine jr_cV1i (pc := 176) hX lX13_58 (c_X13_good hX.F σ23 t (p23.at (p5.at (p4.at (p2.at ht :) :) :) :) _) (jd_dd hD rfl) (Nat.le_of_ble_eq_true rfl) dX13_person_176 (p23.at (p5.at (p4.at (p2.at ht :) :) :) :) (fun r25 σ25 p25 => ?_)
            exact jr_iret (pc := 179) hX dX13_person_179 rfl
        | 7, h1, h2 =>
          cases h1
          cases h2
          refine jr_ald0 (pc := 180) hX dX13_person_180 ?_
          refine jr_ald0 (pc := 181) hX dX13_person_181 ?_
          refine jr_ald0 (pc := 182) hX dX13_person_182 ?_
          refine jr_getr (pc := 183) hX fX13_17 rfl dX13_person_183 (p5.at (p4.at (p2.at ht :) :) :) ?_
          refine jr_bipush (pc := 186) hX 8 rfl dX13_person_186 ?_
          refine jr_iaC (pc := 188) hX dX13_person_188 (fun a26 n26 e26 h26 => ?_)
          refine jr_cV1i (pc := 189) hX lX13_330 (c_X13_underAt hX.F σ5 t (p5.at (p4.at (p2.at ht :) :) :) _) (jd_dd hD rfl) (by simp [jd_v_cat, jd_cti, jd_ctl]) dX13_person_189 (p5.at (p4.at (p2.at ht :) :) :) (fun r27 σ27 p27 => ?_)
          refine jr_ild1 (pc := 192) hX dX13_person_192 ?_
          refine jr_cS2i (pc := 193) hX lX13_267 (c_X13_bit hX.F σ27 _ _) (jd_dd hD rfl) (by simp [jd_v_cat, jd_cti, jd_ctl]) dX13_person_193 (fun r28 σ28 p28 => ?_)
          refine jr_ifeq (pc := 196) hX 203 dX13_person_196 (by decide) ?_ ?_
          · refine jr_ald0 (pc := 203) hX dX13_person_203 ?_
            refine jr_ald0 (pc := 204) hX dX13_person_204 ?_
            refine jr_getr (pc := 205) hX fX13_17 rfl dX13_person_205 (p28.at (p27.at (p5.at (p4.at (p2.at ht :) :) :) :) :) ?_
            refine jr_bipush (pc := 208) hX 8 rfl dX13_person_208 ?_
            refine jr_iaC (pc := 210) hX dX13_person_210 (fun a29 n29 e29 h29 => ?_)
            refine jr_cV1i (pc := 211) hX lX13_333 (c_X13_lostAt hX.F σ28 t (p28.at (p27.at (p5.at (p4.at (p2.at ht :) :) :) :) :) _) (jd_dd hD rfl) (by simp [jd_v_cat, jd_cti, jd_ctl]) dX13_person_211 (p28.at (p27.at (p5.at (p4.at (p2.at ht :) :) :) :) :) (fun r30 σ30 p30 => ?_)
            refine jr_ild1 (pc := 214) hX dX13_person_214 ?_
            refine jr_cS2i (pc := 215) hX lX13_267 (c_X13_bit hX.F σ30 _ _) (jd_dd hD rfl) (by simp [jd_v_cat, jd_cti, jd_ctl]) dX13_person_215 (fun r31 σ31 p31 => ?_)
            refine jr_ifeq (pc := 218) hX 225 dX13_person_218 (by decide) ?_ ?_
            · refine jr_iconst (pc := 225) hX 0 rfl dX13_person_225 ?_
              refine jr_cV1i (pc := 226) hX lX13_58 (c_X13_good hX.F σ31 t (p31.at (p30.at (p28.at (p27.at (p5.at (p4.at (p2.at ht :) :) :) :) :) :) :) _) (jd_dd hD rfl) (Nat.le_of_ble_eq_true rfl) dX13_person_226 (p31.at (p30.at (p28.at (p27.at (p5.at (p4.at (p2.at ht :) :) :) :) :) :) :) (fun r32 σ32 p32 => ?_)
              exact jr_iret (pc := 229) hX dX13_person_229 rfl
            · refine jr_iconst (pc := 221) hX 2 rfl dX13_person_221 ?_
              refine jr_goto (pc := 222) hX 226 dX13_person_222 (by decide) ?_
              refine jr_cV1i (pc := 226) hX lX13_58 (c_X13_good hX.F σ31 t (p31.at (p30.at (p28.at (p27.at (p5.at (p4.at (p2.at ht :) :) :) :) :) :) :) _) (jd_dd hD rfl) (Nat.le_of_ble_eq_true rfl) dX13_person_226 (p31.at (p30.at (p28.at (p27.at (p5.at (p4.at (p2.at ht :) :) :) :) :) :) :) (fun r33 σ33 p33 => ?_)
              exact jr_iret (pc := 229) hX dX13_person_229 rfl
          · refine jr_iconst (pc := 199) hX 1 rfl dX13_person_199 ?_
            refine jr_goto (pc := 200) hX 226 dX13_person_200 (by decide) ?_
            refine jr_cV1i (pc := 226) hX lX13_58 (c_X13_good hX.F σ28 t (p28.at (p27.at (p5.at (p4.at (p2.at ht :) :) :) :) :) _) (jd_dd hD rfl) (Nat.le_of_ble_eq_true rfl) dX13_person_226 (p28.at (p27.at (p5.at (p4.at (p2.at ht :) :) :) :) :) (fun r34 σ34 p34 => ?_)
            exact jr_iret (pc := 229) hX dX13_person_229 rfl
        | i + 8, h1, h2 => simp at h1
      · refine jr_ald0 (pc := 230) hX dX13_person_230 ?_
        refine jr_ald0 (pc := 231) hX dX13_person_231 ?_
        refine jr_getr (pc := 232) hX fX13_289 rfl dX13_person_232 (p5.at (p4.at (p2.at ht :) :) :) ?_
        refine jr_ck0 (fun a35 e35 h35 => ?_)
        refine jr_getrN (pc := 235) hX fX13_274 rfl dX13_person_235 h35 ?_
        refine jr_ild1 (pc := 238) hX dX13_person_238 ?_
        refine jr_iaC (pc := 239) hX dX13_person_239 (fun a36 n36 e36 h36 => ?_)
        refine jr_cV1i (pc := 240) hX lX13_58 (c_X13_good hX.F σ5 t (p5.at (p4.at (p2.at ht :) :) :) _) (jd_dd hD rfl) (Nat.le_of_ble_eq_true rfl) dX13_person_240 (p5.at (p4.at (p2.at ht :) :) :) (fun r37 σ37 p37 => ?_)
        exact jr_iret (pc := 243) hX dX13_person_243 rfl
    · refine jr_ald0 (pc := 23) hX dX13_person_23 ?_
      refine jr_iconst (pc := 24) hX 1 rfl dX13_person_24 ?_
      refine jr_cV1i (pc := 25) hX lX13_54 (c_X13_refused hX.F σ4 t (p4.at (p2.at ht :) :) _) (jd_dd hD rfl) (Nat.le_of_ble_eq_true rfl) dX13_person_25 (p4.at (p2.at ht :) :) (fun r38 σ38 p38 => ?_)
      exact jr_iret (pc := 28) hX dX13_person_28 rfl
def m_X13_post (t : Nat) (x0p : Int32) (x1p : Int32) (σ : jd_Hp) : Option (Int32 × jd_Hp) :=
jd_li (jd_pi σ t 0 0) fun τ1 =>
jd_b (m_X13_isPost t x0p τ1) fun r2 σ2 =>
jd_if (r2 = 0) (
jd_b (m_X13_refused t 1 σ2) fun r3 σ3 =>
some (r3, σ3)) (
jd_b (m_X13_in x1p 0 3 σ2) fun r4 σ4 =>
jd_if (¬ r4 = 0) (
jd_b (m_X13_works t σ4) fun r5 σ5 =>
jd_if (¬ x1p = 0) (
jd_if (¬ x1p = 1) (
jd_if (¬ x1p = 2) (
jd_b (m_X13_reaches t x0p σ5) fun r6 σ6 =>
jd_b (m_X13_good t r6 σ6) fun r7 σ7 =>
some (r7, σ7)) (
jd_ia σ5 20 (σ5.2.2.2 t 15) 6 fun a8 j8 =>
jd_b (m_X13_good t (((σ5.2.1 a8 j8) >>> (x0p &&& 31)) &&& 1) σ5) fun r9 σ9 =>
some (r9, σ9))) (
jd_o σ5 (12, 20) (σ5.2.2.2 t 3) fun a10 =>
jd_ia σ5 20 (σ5.2.2.2 a10 16) x0p fun a11 j11 =>
jd_b (m_X13_good t (σ5.2.1 a11 j11) σ5) fun r12 σ12 =>
some (r12, σ12))) (
jd_o σ5 (12, 20) (σ5.2.2.2 t 3) fun a13 =>
jd_ia σ5 20 (σ5.2.2.2 a13 15) x0p fun a14 j14 =>
jd_b (m_X13_good t (σ5.2.1 a14 j14) σ5) fun r15 σ15 =>
some (r15, σ15))) (
jd_b (m_X13_refused t 1 σ4) fun r16 σ16 =>
some (r16, σ16)))
set_option maxHeartbeats 4000000 in
set_option maxRecDepth 20000 in
theorem c_X13_post {l : Launch} {s0 : State} {G : jd_G} (hF : jd_F s0 G) (σ : jd_Hp) (t : Nat) (ht : σ.1[t]? = some (13, 29)) (x0p : Int32) (x1p : Int32) : jd_M l s0 G yX13_post cX13_post 3 (some .int) 3 je_i [jd_v G (some t), .int x0p, .int x1p] σ (m_X13_post t x0p x1p σ) := by
  refine jd_enter hF (by decide) (fun G => [some (jd_v G (some t)), some (.int x0p), some (.int x1p)]) rfl (by simp [lv_args, jd_al, jd_v_cat, jd_cti, jd_ctl]) (by simp [lg_sl, jd_v_cat, jd_cti, jd_ctl]) (fun X hD hX => ?_)
  have hX : jd_C X RX13 "post" cX13_post 3 (some .int) := hX
  unfold m_X13_post
  refine jr_ald0 (pc := 0) hX dX13_post_0 ?_
  refine jr_iconst (pc := 1) hX 0 rfl dX13_post_1 ?_
  refine jr_puti (pc := 2) hX fX13_48 rfl dX13_post_2 ht ?_
  refine jr_li ?_
  refine jr_ald0 (pc := 5) hX dX13_post_5 ?_
  refine jr_ild1 (pc := 6) hX dX13_post_6 ?_
  refine jr_cV1i (pc := 7) hX lX13_336 (c_X13_isPost hX.F (jd_pi σ t 0 0) t ht _) (jd_dd hD rfl) (Nat.le_of_ble_eq_true rfl) dX13_post_7 ht (fun r2 σ2 p2 => ?_)
  refine jr_ifeq (pc := 10) hX 22 dX13_post_10 (by decide) ?_ ?_
  · refine jr_ald0 (pc := 22) hX dX13_post_22 ?_
    refine jr_iconst (pc := 23) hX 1 rfl dX13_post_23 ?_
    refine jr_cV1i (pc := 24) hX lX13_54 (c_X13_refused hX.F σ2 t (p2.at ht :) _) (jd_dd hD rfl) (Nat.le_of_ble_eq_true rfl) dX13_post_24 (p2.at ht :) (fun r3 σ3 p3 => ?_)
    exact jr_iret (pc := 27) hX dX13_post_27 rfl
  · refine jr_ild2 (pc := 13) hX dX13_post_13 ?_
    refine jr_iconst (pc := 14) hX 0 rfl dX13_post_14 ?_
    refine jr_iconst (pc := 15) hX 3 rfl dX13_post_15 ?_
    refine jr_cS3i (pc := 16) hX lX13_131 (c_X13_in hX.F σ2 _ _ _) (jd_dd hD rfl) (Nat.le_of_ble_eq_true rfl) dX13_post_16 (fun r4 σ4 p4 => ?_)
    refine jr_ifne (pc := 19) hX 28 dX13_post_19 (by decide) ?_ ?_
    · refine jr_ald0 (pc := 28) hX dX13_post_28 ?_
      refine jr_cV0v (pc := 29) hX lX13_324 (c_X13_works hX.F σ4 t (p4.at (p2.at ht :) :)) (jd_dd hD rfl) (Nat.le_of_ble_eq_true rfl) dX13_post_29 (p4.at (p2.at ht :) :) (fun r5 σ5 p5 => ?_)
      refine jr_ald0 (pc := 32) hX dX13_post_32 ?_
      refine jr_ild2 (pc := 33) hX dX13_post_33 ?_
      refine jr_ifne (pc := 34) hX 49 dX13_post_34 (by decide) ?_ ?_
      · refine jr_ild2 (pc := 49) hX dX13_post_49 ?_
        refine jr_iconst (pc := 50) hX 1 rfl dX13_post_50 ?_
        refine jr_icne (pc := 51) hX 66 dX13_post_51 (by decide) ?_ ?_
        · refine jr_ild2 (pc := 66) hX dX13_post_66 ?_
          refine jr_iconst (pc := 67) hX 2 rfl dX13_post_67 ?_
          refine jr_icne (pc := 68) hX 85 dX13_post_68 (by decide) ?_ ?_
          · refine jr_ald0 (pc := 85) hX dX13_post_85 ?_
            refine jr_ild1 (pc := 86) hX dX13_post_86 ?_
            refine jr_cV1i (pc := 87) hX lX13_312 (c_X13_reaches hX.F σ5 t (p5.at (p4.at (p2.at ht :) :) :) _) (jd_dd hD rfl) (by simp [jd_v_cat, jd_cti, jd_ctl]) dX13_post_87 (p5.at (p4.at (p2.at ht :) :) :) (fun r6 σ6 p6 => ?_)
            refine jr_cV1i (pc := 90) hX lX13_58 (c_X13_good hX.F σ6 t (p6.at (p5.at (p4.at (p2.at ht :) :) :) :) _) (jd_dd hD rfl) (Nat.le_of_ble_eq_true rfl) dX13_post_90 (p6.at (p5.at (p4.at (p2.at ht :) :) :) :) (fun r7 σ7 p7 => ?_)
            exact jr_iret (pc := 93) hX dX13_post_93 rfl
          · refine jr_ald0 (pc := 71) hX dX13_post_71 ?_
            refine jr_getr (pc := 72) hX fX13_17 rfl dX13_post_72 (p5.at (p4.at (p2.at ht :) :) :) ?_
            refine jr_bipush (pc := 75) hX 6 rfl dX13_post_75 ?_
            refine jr_iaC (pc := 77) hX dX13_post_77 (fun a8 n8 e8 h8 => ?_)
            refine jr_ild1 (pc := 78) hX dX13_post_78 ?_
            refine jr_ishr (pc := 79) hX dX13_post_79 ?_
            refine jr_iconst (pc := 80) hX 1 rfl dX13_post_80 ?_
            refine jr_iand (pc := 81) hX dX13_post_81 ?_
            refine jr_goto (pc := 82) hX 90 dX13_post_82 (by decide) ?_
            refine jr_cV1i (pc := 90) hX lX13_58 (c_X13_good hX.F σ5 t (p5.at (p4.at (p2.at ht :) :) :) _) (jd_dd hD rfl) (Nat.le_of_ble_eq_true rfl) dX13_post_90 (p5.at (p4.at (p2.at ht :) :) :) (fun r9 σ9 p9 => ?_)
            exact jr_iret (pc := 93) hX dX13_post_93 rfl
        · refine jr_ald0 (pc := 54) hX dX13_post_54 ?_
          refine jr_getr (pc := 55) hX fX13_289 rfl dX13_post_55 (p5.at (p4.at (p2.at ht :) :) :) ?_
          refine jr_ck0 (fun a10 e10 h10 => ?_)
          refine jr_getrN (pc := 58) hX fX13_260 rfl dX13_post_58 h10 ?_
          refine jr_ild1 (pc := 61) hX dX13_post_61 ?_
          refine jr_iaC (pc := 62) hX dX13_post_62 (fun a11 n11 e11 h11 => ?_)
          refine jr_goto (pc := 63) hX 90 dX13_post_63 (by decide) ?_
          refine jr_cV1i (pc := 90) hX lX13_58 (c_X13_good hX.F σ5 t (p5.at (p4.at (p2.at ht :) :) :) _) (jd_dd hD rfl) (Nat.le_of_ble_eq_true rfl) dX13_post_90 (p5.at (p4.at (p2.at ht :) :) :) (fun r12 σ12 p12 => ?_)
          exact jr_iret (pc := 93) hX dX13_post_93 rfl
      · refine jr_ald0 (pc := 37) hX dX13_post_37 ?_
        refine jr_getr (pc := 38) hX fX13_289 rfl dX13_post_38 (p5.at (p4.at (p2.at ht :) :) :) ?_
        refine jr_ck0 (fun a13 e13 h13 => ?_)
        refine jr_getrN (pc := 41) hX fX13_258 rfl dX13_post_41 h13 ?_
        refine jr_ild1 (pc := 44) hX dX13_post_44 ?_
        refine jr_iaC (pc := 45) hX dX13_post_45 (fun a14 n14 e14 h14 => ?_)
        refine jr_goto (pc := 46) hX 90 dX13_post_46 (by decide) ?_
        refine jr_cV1i (pc := 90) hX lX13_58 (c_X13_good hX.F σ5 t (p5.at (p4.at (p2.at ht :) :) :) _) (jd_dd hD rfl) (Nat.le_of_ble_eq_true rfl) dX13_post_90 (p5.at (p4.at (p2.at ht :) :) :) (fun r15 σ15 p15 => ?_)
        exact jr_iret (pc := 93) hX dX13_post_93 rfl
    · refine jr_ald0 (pc := 22) hX dX13_post_22 ?_
      refine jr_iconst (pc := 23) hX 1 rfl dX13_post_23 ?_
      refine jr_cV1i (pc := 24) hX lX13_54 (c_X13_refused hX.F σ4 t (p4.at (p2.at ht :) :) _) (jd_dd hD rfl) (Nat.le_of_ble_eq_true rfl) dX13_post_24 (p4.at (p2.at ht :) :) (fun r16 σ16 p16 => ?_)
      exact jr_iret (pc := 27) hX dX13_post_27 rfl
def m_X13_time (t : Nat) (x0p : Int32) (x1p : Int32) (σ : jd_Hp) : Option (Int32 × jd_Hp) :=
jd_li (jd_pi σ t 0 0) fun τ1 =>
jd_b (m_X13_isPost t x0p τ1) fun r2 σ2 =>
jd_if (r2 = 0) (
jd_b (m_X13_refused t 1 σ2) fun r3 σ3 =>
some (r3, σ3)) (
jd_b (m_X13_isPerson t x1p σ2) fun r4 σ4 =>
jd_if (¬ r4 = 0) (
jd_b (m_X13_works t σ4) fun r5 σ5 =>
jd_b (m_X13_timeTo t x0p x1p σ5) fun r6 σ6 =>
jd_b (m_X13_good t r6 σ6) fun r7 σ7 =>
some (r7, σ7)) (
jd_b (m_X13_refused t 1 σ4) fun r8 σ8 =>
some (r8, σ8)))
set_option maxHeartbeats 4000000 in
set_option maxRecDepth 20000 in
theorem c_X13_time {l : Launch} {s0 : State} {G : jd_G} (hF : jd_F s0 G) (σ : jd_Hp) (t : Nat) (ht : σ.1[t]? = some (13, 29)) (x0p : Int32) (x1p : Int32) : jd_M l s0 G yX13_time cX13_time 3 (some .int) 2 je_i [jd_v G (some t), .int x0p, .int x1p] σ (m_X13_time t x0p x1p σ) := by
  refine jd_enter hF (by decide) (fun G => [some (jd_v G (some t)), some (.int x0p), some (.int x1p)]) rfl (by simp [lv_args, jd_al, jd_v_cat, jd_cti, jd_ctl]) (by simp [lg_sl, jd_v_cat, jd_cti, jd_ctl]) (fun X hD hX => ?_)
  have hX : jd_C X RX13 "time" cX13_time 3 (some .int) := hX
  unfold m_X13_time
  refine jr_ald0 (pc := 0) hX dX13_time_0 ?_
  refine jr_iconst (pc := 1) hX 0 rfl dX13_time_1 ?_
  refine jr_puti (pc := 2) hX fX13_48 rfl dX13_time_2 ht ?_
  refine jr_li ?_
  refine jr_ald0 (pc := 5) hX dX13_time_5 ?_
  refine jr_ild1 (pc := 6) hX dX13_time_6 ?_
  refine jr_cV1i (pc := 7) hX lX13_336 (c_X13_isPost hX.F (jd_pi σ t 0 0) t ht _) (jd_dd hD rfl) (Nat.le_of_ble_eq_true rfl) dX13_time_7 ht (fun r2 σ2 p2 => ?_)
  refine jr_ifeq (pc := 10) hX 21 dX13_time_10 (by decide) ?_ ?_
  · refine jr_ald0 (pc := 21) hX dX13_time_21 ?_
    refine jr_iconst (pc := 22) hX 1 rfl dX13_time_22 ?_
    refine jr_cV1i (pc := 23) hX lX13_54 (c_X13_refused hX.F σ2 t (p2.at ht :) _) (jd_dd hD rfl) (Nat.le_of_ble_eq_true rfl) dX13_time_23 (p2.at ht :) (fun r3 σ3 p3 => ?_)
    exact jr_iret (pc := 26) hX dX13_time_26 rfl
  · refine jr_ald0 (pc := 13) hX dX13_time_13 ?_
    refine jr_ild2 (pc := 14) hX dX13_time_14 ?_
    refine jr_cV1i (pc := 15) hX lX13_321 (c_X13_isPerson hX.F σ2 t (p2.at ht :) _) (jd_dd hD rfl) (Nat.le_of_ble_eq_true rfl) dX13_time_15 (p2.at ht :) (fun r4 σ4 p4 => ?_)
    refine jr_ifne (pc := 18) hX 27 dX13_time_18 (by decide) ?_ ?_
    · refine jr_ald0 (pc := 27) hX dX13_time_27 ?_
      refine jr_cV0v (pc := 28) hX lX13_324 (c_X13_works hX.F σ4 t (p4.at (p2.at ht :) :)) (jd_dd hD rfl) (Nat.le_of_ble_eq_true rfl) dX13_time_28 (p4.at (p2.at ht :) :) (fun r5 σ5 p5 => ?_)
      refine jr_ald0 (pc := 31) hX dX13_time_31 ?_
      refine jr_ald0 (pc := 32) hX dX13_time_32 ?_
      refine jr_ild1 (pc := 33) hX dX13_time_33 ?_
      refine jr_ild2 (pc := 34) hX dX13_time_34 ?_
      refine jr_cV2i (pc := 35) hX lX13_309 (c_X13_timeTo hX.F σ5 t (p5.at (p4.at (p2.at ht :) :) :) _ _) (jd_dd hD rfl) (by simp [jd_v_cat, jd_cti, jd_ctl]) dX13_time_35 (p5.at (p4.at (p2.at ht :) :) :) (fun r6 σ6 p6 => ?_)
      refine jr_cV1i (pc := 38) hX lX13_58 (c_X13_good hX.F σ6 t (p6.at (p5.at (p4.at (p2.at ht :) :) :) :) _) (jd_dd hD rfl) (Nat.le_of_ble_eq_true rfl) dX13_time_38 (p6.at (p5.at (p4.at (p2.at ht :) :) :) :) (fun r7 σ7 p7 => ?_)
      exact jr_iret (pc := 41) hX dX13_time_41 rfl
    · refine jr_ald0 (pc := 21) hX dX13_time_21 ?_
      refine jr_iconst (pc := 22) hX 1 rfl dX13_time_22 ?_
      refine jr_cV1i (pc := 23) hX lX13_54 (c_X13_refused hX.F σ4 t (p4.at (p2.at ht :) :) _) (jd_dd hD rfl) (Nat.le_of_ble_eq_true rfl) dX13_time_23 (p4.at (p2.at ht :) :) (fun r8 σ8 p8 => ?_)
      exact jr_iret (pc := 26) hX dX13_time_26 rfl
def m_X13_sinkers (t : Nat) (σ : jd_Hp) : Option (Int32 × jd_Hp) :=
jd_li (jd_pi σ t 0 0) fun τ1 =>
jd_if (¬ (τ1.2.2.2 t 3) = none) (
jd_b (m_X13_works t τ1) fun r2 σ2 =>
jd_b (m_X13_sinkersNow t σ2) fun r3 σ3 =>
jd_b (m_X13_good t r3 σ3) fun r4 σ4 =>
some (r4, σ4)) (
jd_b (m_X13_refused t 1 τ1) fun r5 σ5 =>
some (r5, σ5))
set_option maxHeartbeats 4000000 in
set_option maxRecDepth 20000 in
theorem c_X13_sinkers {l : Launch} {s0 : State} {G : jd_G} (hF : jd_F s0 G) (σ : jd_Hp) (t : Nat) (ht : σ.1[t]? = some (13, 29)) : jd_M l s0 G yX13_sinkers cX13_sinkers 1 (some .int) 4 je_i [jd_v G (some t)] σ (m_X13_sinkers t σ) := by
  refine jd_enter hF (by decide) (fun G => [some (jd_v G (some t))]) rfl (by simp [lv_args, jd_al, jd_v_cat, jd_cti, jd_ctl]) (by simp [lg_sl, jd_v_cat, jd_cti, jd_ctl]) (fun X hD hX => ?_)
  have hX : jd_C X RX13 "sinkers" cX13_sinkers 1 (some .int) := hX
  unfold m_X13_sinkers
  refine jr_ald0 (pc := 0) hX dX13_sinkers_0 ?_
  refine jr_iconst (pc := 1) hX 0 rfl dX13_sinkers_1 ?_
  refine jr_puti (pc := 2) hX fX13_48 rfl dX13_sinkers_2 ht ?_
  refine jr_li ?_
  refine jr_ald0 (pc := 5) hX dX13_sinkers_5 ?_
  refine jr_getr (pc := 6) hX fX13_289 rfl dX13_sinkers_6 ht ?_
  refine jr_ifnonnull (pc := 9) hX 18 dX13_sinkers_9 (by decide) ?_ ?_
  · refine jr_ald0 (pc := 18) hX dX13_sinkers_18 ?_
    refine jr_cV0v (pc := 19) hX lX13_324 (c_X13_works hX.F (jd_pi σ t 0 0) t ht) (jd_dd hD rfl) (Nat.le_of_ble_eq_true rfl) dX13_sinkers_19 ht (fun r2 σ2 p2 => ?_)
    refine jr_ald0 (pc := 22) hX dX13_sinkers_22 ?_
    refine jr_ald0 (pc := 23) hX dX13_sinkers_23 ?_
    refine jr_cV0i (pc := 24) hX lX13_315 (c_X13_sinkersNow hX.F σ2 t (p2.at ht :)) (jd_dd hD rfl) (by simp [jd_v_cat, jd_cti, jd_ctl]) dX13_sinkers_24 (p2.at ht :) (fun r3 σ3 p3 => ?_)
    refine jr_cV1i (pc := 27) hX lX13_58 (c_X13_good hX.F σ3 t (p3.at (p2.at ht :) :) _) (jd_dd hD rfl) (Nat.le_of_ble_eq_true rfl) dX13_sinkers_27 (p3.at (p2.at ht :) :) (fun r4 σ4 p4 => ?_)
    exact jr_iret (pc := 30) hX dX13_sinkers_30 rfl
  · refine jr_ald0 (pc := 12) hX dX13_sinkers_12 ?_
    refine jr_iconst (pc := 13) hX 1 rfl dX13_sinkers_13 ?_
    refine jr_cV1i (pc := 14) hX lX13_54 (c_X13_refused hX.F (jd_pi σ t 0 0) t ht _) (jd_dd hD rfl) (Nat.le_of_ble_eq_true rfl) dX13_sinkers_14 ht (fun r5 σ5 p5 => ?_)
    exact jr_iret (pc := 17) hX dX13_sinkers_17 rfl
def m_X13_first (t : Nat) (σ : jd_Hp) : Option (Int32 × jd_Hp) :=
jd_li (jd_pi σ t 0 0) fun τ1 =>
jd_if (¬ (τ1.2.2.2 t 3) = none) (
jd_b (m_X13_works t τ1) fun r2 σ2 =>
jd_b (jd_lp (S := Int32 × Int32) (T := Int32) (fun s3 σ3 =>
jd_o σ3 (13, 29) (some t) fun a5 =>
jd_o σ3 (12, 20) (σ3.2.2.2 a5 3) fun a6 =>
jd_if ((σ3.2.1 a6 3) ≤ s3.2) (
some ((Sum.inr s3.1), σ3)) (
jd_b (m_X13_sinksAt a5 s3.2 σ3) fun r7 σ7 =>
jd_if (9999 ≤ r7) (
some (Sum.inl (s3.1, (s3.2 + 1)), σ7)) (
jd_if (s3.1 = (-2)) (
some (Sum.inl (s3.2, (s3.2 + 1)), σ7)) (
jd_b (m_X13_sinksAt a5 s3.2 σ7) fun r8 σ8 =>
jd_b (m_X13_sinksAt a5 s3.1 σ8) fun r9 σ9 =>
jd_if (r9 ≤ r8) (
some (Sum.inl (s3.1, (s3.2 + 1)), σ9)) (
some (Sum.inl (s3.2, (s3.2 + 1)), σ9)))))) jd_fu ((-2), 0) σ2) fun t4 σ4 =>
jd_o σ4 (13, 29) (some t) fun a10 =>
jd_b (m_X13_good a10 t4 σ4) fun r11 σ11 =>
some (r11, σ11)) (
jd_b (m_X13_refused t 1 τ1) fun r12 σ12 =>
some (r12, σ12))
set_option maxHeartbeats 4000000 in
set_option maxRecDepth 20000 in
theorem c_X13_first {l : Launch} {s0 : State} {G : jd_G} (hF : jd_F s0 G) (σ : jd_Hp) (t : Nat) (ht : σ.1[t]? = some (13, 29)) : jd_M l s0 G yX13_first cX13_first 3 (some .int) 3 je_i [jd_v G (some t)] σ (m_X13_first t σ) := by
  refine jd_enter hF (by decide) (fun G => [some (jd_v G (some t)), none, none]) rfl (by simp [lv_args, jd_al, jd_v_cat, jd_cti, jd_ctl]) (by simp [lg_sl, jd_v_cat, jd_cti, jd_ctl]) (fun X hD hX => ?_)
  have hX : jd_C X RX13 "first" cX13_first 3 (some .int) := hX
  unfold m_X13_first
  refine jr_ald0 (pc := 0) hX dX13_first_0 ?_
  refine jr_iconst (pc := 1) hX 0 rfl dX13_first_1 ?_
  refine jr_puti (pc := 2) hX fX13_48 rfl dX13_first_2 ht ?_
  refine jr_li ?_
  refine jr_ald0 (pc := 5) hX dX13_first_5 ?_
  refine jr_getr (pc := 6) hX fX13_289 rfl dX13_first_6 ht ?_
  refine jr_ifnonnull (pc := 9) hX 18 dX13_first_9 (by decide) ?_ ?_
  · refine jr_ald0 (pc := 18) hX dX13_first_18 ?_
    refine jr_cV0v (pc := 19) hX lX13_324 (c_X13_works hX.F (jd_pi σ t 0 0) t ht) (jd_dd hD rfl) (Nat.le_of_ble_eq_true rfl) dX13_first_19 ht (fun r2 σ2 p2 => ?_)
    refine jr_bipush (pc := 22) hX (-2) rfl dX13_first_22 ?_
    refine jr_ist1 (pc := 24) hX (jn_r _ _) dX13_first_24 ?_
    refine jr_iconst (pc := 25) hX 0 rfl dX13_first_25 ?_
    refine jr_ist2 (pc := 26) hX (jn_i _) dX13_first_26 ?_
    refine jr_loop (pc := 27) (fun (s3 : Int32 × Int32) => [some (jd_v (jd_gG X) (some t)), some (.int s3.1), some (.int s3.2)]) (fun (t4 : Int32) => [some (jd_v (jd_gG X) (some t)), some (.int t4), none]) 76 ((-2), 0) (fun t4 σ4 => ?_) (fun K3 bk3 ex3 s3 σ3 => ?_)
    · refine jr_ald0 (pc := 76) hX dX13_first_76 ?_
      refine jr_ild1 (pc := 77) hX dX13_first_77 ?_
      refine jr_ck1 (fun a10 e10 h10 => ?_)
      refine jr_cV1i (pc := 78) hX lX13_58 (c_X13_good hX.F σ4 a10 h10 _) (jd_dd hD rfl) (Nat.le_of_ble_eq_true rfl) dX13_first_78 h10 (fun r11 σ11 p11 => ?_)
      exact jr_iret (pc := 81) hX dX13_first_81 rfl
    · refine jr_ild2 (pc := 27) hX dX13_first_27 ?_
      refine jr_ald0 (pc := 28) hX dX13_first_28 ?_
      refine jr_ck0 (fun a5 e5 h5 => ?_)
      refine jr_getr (pc := 29) hX fX13_289 rfl dX13_first_29 h5 ?_
      refine jr_ck0 (fun a6 e6 h6 => ?_)
      refine jr_getiN (pc := 32) hX fX13_185 rfl dX13_first_32 h6 ?_
      refine jr_icge (pc := 35) hX 76 dX13_first_35 (by decide) ?_ ?_
      · refine jr_wk [true, true, false] ?_
        exact ex3 s3.1 _
      · refine jr_ald0 (pc := 38) hX dX13_first_38 ?_
        refine jr_ild2 (pc := 39) hX dX13_first_39 ?_
        refine jr_ek1 e5 ?_
        refine jr_cV1i (pc := 40) hX lX13_306 (c_X13_sinksAt hX.F σ3 a5 h5 _) (jd_dd hD rfl) (Nat.le_of_ble_eq_true rfl) dX13_first_40 h5 (fun r7 σ7 p7 => ?_)
        refine jr_sipush (pc := 43) hX 9999 rfl dX13_first_43 ?_
        refine jr_icge (pc := 46) hX 70 dX13_first_46 (by decide) ?_ ?_
        · refine jr_inc2 (pc := 70) hX 1 rfl (jn_i _) dX13_first_70 ?_
          refine jr_goto (pc := 73) hX 27 dX13_first_73 (by decide) ?_
          exact bk3 (s3.1, (s3.2 + 1)) _
        · refine jr_ild1 (pc := 49) hX dX13_first_49 ?_
          refine jr_bipush (pc := 50) hX (-2) rfl dX13_first_50 ?_
          refine jr_iceq (pc := 52) hX 68 dX13_first_52 (by decide) ?_ ?_
          · refine jr_ild2 (pc := 68) hX dX13_first_68 ?_
            refine jr_ist1 (pc := 69) hX (jn_r _ _) dX13_first_69 ?_
            refine jr_inc2 (pc := 70) hX 1 rfl (jn_i _) dX13_first_70 ?_
            refine jr_goto (pc := 73) hX 27 dX13_first_73 (by decide) ?_
            exact bk3 (s3.2, (s3.2 + 1)) _
          · refine jr_ald0 (pc := 55) hX dX13_first_55 ?_
            refine jr_ild2 (pc := 56) hX dX13_first_56 ?_
            refine jr_ek1 e5 ?_
            refine jr_cV1i (pc := 57) hX lX13_306 (c_X13_sinksAt hX.F σ7 a5 (p7.at h5 :) _) (jd_dd hD rfl) (Nat.le_of_ble_eq_true rfl) dX13_first_57 (p7.at h5 :) (fun r8 σ8 p8 => ?_)
            refine jr_ald0 (pc := 60) hX dX13_first_60 ?_
            refine jr_ild1 (pc := 61) hX dX13_first_61 ?_
            refine jr_ek1 e5 ?_
            refine jr_cV1i (pc := 62) hX lX13_306 (c_X13_sinksAt hX.F σ8 a5 (p8.at (p7.at h5 :) :) _) (jd_dd hD rfl) (Nat.le_of_ble_eq_true rfl) dX13_first_62 (p8.at (p7.at h5 :) :) (fun r9 σ9 p9 => ?_)
            refine jr_icge (pc := 65) hX 70 dX13_first_65 (by decide) ?_ ?_
            · refine jr_inc2 (pc := 70) hX 1 rfl (jn_i _) dX13_first_70 ?_
              refine jr_goto (pc := 73) hX 27 dX13_first_73 (by decide) ?_
              exact bk3 (s3.1, (s3.2 + 1)) _
            · refine jr_ild2 (pc := 68) hX dX13_first_68 ?_
              refine jr_ist1 (pc := 69) hX (jn_r _ _) dX13_first_69 ?_
              refine jr_inc2 (pc := 70) hX 1 rfl (jn_i _) dX13_first_70 ?_
              refine jr_goto (pc := 73) hX 27 dX13_first_73 (by decide) ?_
              exact bk3 (s3.2, (s3.2 + 1)) _
  · refine jr_ald0 (pc := 12) hX dX13_first_12 ?_
    refine jr_iconst (pc := 13) hX 1 rfl dX13_first_13 ?_
    refine jr_cV1i (pc := 14) hX lX13_54 (c_X13_refused hX.F (jd_pi σ t 0 0) t ht _) (jd_dd hD rfl) (Nat.le_of_ble_eq_true rfl) dX13_first_14 ht (fun r12 σ12 p12 => ?_)
    exact jr_iret (pc := 17) hX dX13_first_17 rfl
