theorem fX9_82 : jd_fl RX9 82 10 11 16 false := ⟨_, _, rfl, by decide, by decide, rfl, rfl, jd_mem 278 (by decide +kernel) (by decide +kernel)⟩
theorem qX9_newName : Cond.instanceMethod yX9_newName ∈ jd_TB ∧ Cond.selects RX9 yX9_newName yX9_newName ∈ jd_TB ∧ Cond.initialized RX9 ∈ jd_TB ∧ Cond.code yX9_newName cX9_newName 3 (some .boolean) ∈ jd_TB ∧ jd_ds yX9_newName 2 := ⟨jd_mem 655 (by decide +kernel) (by decide +kernel), jd_mem 10 (by decide +kernel) (by decide +kernel), jd_mem 94 (by decide +kernel) (by decide +kernel), jd_mem 656 (by decide +kernel) (by decide +kernel), ⟨by decide, by decide, by decide +kernel⟩⟩
theorem lX9_144 : jd_mv RX9 144 9 16 yX9_newName cX9_newName 3 (some .boolean) 2 := ⟨_, _, rfl, by decide, rfl, Or.inl (jd_mem 653 (by decide +kernel) (by decide +kernel)), qX9_newName.1, qX9_newName.2.1, qX9_newName.2.2.1, qX9_newName.2.2.2.1, qX9_newName.2.2.2.2, by decide⟩
theorem qX9_kindTold : Cond.instanceMethod yX9_kindTold ∈ jd_TB ∧ Cond.selects RX9 yX9_kindTold yX9_kindTold ∈ jd_TB ∧ Cond.initialized RX9 ∈ jd_TB ∧ Cond.code yX9_kindTold cX9_kindTold 1 (some .int) ∈ jd_TB ∧ jd_ds yX9_kindTold 0 := ⟨jd_mem 667 (by decide +kernel) (by decide +kernel), jd_mem 13 (by decide +kernel) (by decide +kernel), jd_mem 94 (by decide +kernel) (by decide +kernel), jd_mem 668 (by decide +kernel) (by decide +kernel), ⟨by decide, by decide, by decide +kernel⟩⟩
theorem lX9_148 : jd_mv RX9 148 9 16 yX9_kindTold cX9_kindTold 1 (some .int) 0 := ⟨_, _, rfl, by decide, rfl, Or.inl (jd_mem 665 (by decide +kernel) (by decide +kernel)), qX9_kindTold.1, qX9_kindTold.2.1, qX9_kindTold.2.2.1, qX9_kindTold.2.2.2.1, qX9_kindTold.2.2.2.2, by decide⟩
theorem fX9_152 : jd_fl RX9 152 10 0 16 true := ⟨_, _, rfl, by decide, by decide, rfl, rfl, jd_mem 241 (by decide +kernel) (by decide +kernel)⟩
theorem sX9_155 : jd_sr RX9 155 14 := jd_sr_of RX9 155 14 "at" 673 (by decide +kernel) (by decide +kernel)
theorem fX9_157 : jd_fl RX9 157 10 1 16 true := ⟨_, _, rfl, by decide, by decide, rfl, rfl, jd_mem 245 (by decide +kernel) (by decide +kernel)⟩
theorem sX9_160 : jd_sr RX9 160 15 := jd_sr_of RX9 160 15 "thought" 674 (by decide +kernel) (by decide +kernel)
theorem fX9_162 : jd_fl RX9 162 10 2 16 true := ⟨_, _, rfl, by decide, by decide, rfl, rfl, jd_mem 247 (by decide +kernel) (by decide +kernel)⟩
theorem sX9_164 : jd_sr RX9 164 16 := jd_sr_of RX9 164 16 "by" 675 (by decide +kernel) (by decide +kernel)
theorem fX9_166 : jd_fl RX9 166 10 3 16 true := ⟨_, _, rfl, by decide, by decide, rfl, rfl, jd_mem 251 (by decide +kernel) (by decide +kernel)⟩
theorem fX9_168 : jd_fl RX9 168 10 12 16 false := ⟨_, _, rfl, by decide, by decide, rfl, rfl, jd_mem 284 (by decide +kernel) (by decide +kernel)⟩
theorem fX9_171 : jd_fl RX9 171 10 6 16 true := ⟨_, _, rfl, by decide, by decide, rfl, rfl, jd_mem 260 (by decide +kernel) (by decide +kernel)⟩
theorem sX9_174 : jd_sr RX9 174 17 := jd_sr_of RX9 174 17 "off" 680 (by decide +kernel) (by decide +kernel)
theorem fX9_176 : jd_fl RX9 176 10 7 16 true := ⟨_, _, rfl, by decide, by decide, rfl, rfl, jd_mem 263 (by decide +kernel) (by decide +kernel)⟩
theorem qX9_toldName : Cond.instanceMethod yX9_toldName ∈ jd_TB ∧ Cond.selects RX9 yX9_toldName yX9_toldName ∈ jd_TB ∧ Cond.initialized RX9 ∈ jd_TB ∧ Cond.code yX9_toldName cX9_toldName 3 (some .boolean) ∈ jd_TB ∧ jd_ds yX9_toldName 1 := ⟨jd_mem 687 (by decide +kernel) (by decide +kernel), jd_mem 16 (by decide +kernel) (by decide +kernel), jd_mem 94 (by decide +kernel) (by decide +kernel), jd_mem 688 (by decide +kernel) (by decide +kernel), ⟨by decide, by decide, by decide +kernel⟩⟩
theorem lX9_179 : jd_mv RX9 179 9 16 yX9_toldName cX9_toldName 3 (some .boolean) 1 := ⟨_, _, rfl, by decide, rfl, Or.inl (jd_mem 685 (by decide +kernel) (by decide +kernel)), qX9_toldName.1, qX9_toldName.2.1, qX9_toldName.2.2.1, qX9_toldName.2.2.2.1, qX9_toldName.2.2.2.2, by decide⟩
theorem fX9_183 : jd_fl RX9 183 10 13 16 false := ⟨_, _, rfl, by decide, by decide, rfl, rfl, jd_mem 288 (by decide +kernel) (by decide +kernel)⟩
theorem lX9_185 : jd_st RX9 185 yX11_has cX11_has 2 (some .boolean) 2 := ⟨Or.inr ⟨"ShoreGuards", List.mem_of_getElem? (i := 689) (by decide +kernel)⟩, qX11_has.1, qX11_has.2.1, qX11_has.2.2.1, qX11_has.2.2.2, by decide⟩
theorem fX9_189 : jd_fl RX9 189 10 14 16 false := ⟨_, _, rfl, by decide, by decide, rfl, rfl, jd_mem 290 (by decide +kernel) (by decide +kernel)⟩
theorem fX9_192 : jd_fl RX9 192 10 4 16 true := ⟨_, _, rfl, by decide, by decide, rfl, rfl, jd_mem 255 (by decide +kernel) (by decide +kernel)⟩
theorem fX9_194 : jd_fl RX9 194 10 5 16 true := ⟨_, _, rfl, by decide, by decide, rfl, rfl, jd_mem 258 (by decide +kernel) (by decide +kernel)⟩
theorem fX9_197 : jd_fl RX9 197 10 15 16 false := ⟨_, _, rfl, by decide, by decide, rfl, rfl, jd_mem 292 (by decide +kernel) (by decide +kernel)⟩
theorem dX9_readPerson_0 : decode cX9_readPerson 0 = .ok (.aload_n 1, 1) := by decide +kernel
theorem dX9_readPerson_1 : decode cX9_readPerson 1 = .ok (.getfield 82, 3) := by decide +kernel
theorem dX9_readPerson_4 : decode cX9_readPerson 4 = .ok (.istore_n 2, 1) := by decide +kernel
theorem dX9_readPerson_5 : decode cX9_readPerson 5 = .ok (.iload_n 2, 1) := by decide +kernel
theorem dX9_readPerson_6 : decode cX9_readPerson 6 = .ok (.bipush 6, 2) := by decide +kernel
theorem dX9_readPerson_8 : decode cX9_readPerson 8 = .ok (.if_icmp .lt 9, 3) := by decide +kernel
theorem dX9_readPerson_11 : decode cX9_readPerson 11 = .ok (.aload_n 0, 1) := by decide +kernel
theorem dX9_readPerson_12 : decode cX9_readPerson 12 = .ok (.iconst 5, 1) := by decide +kernel
theorem dX9_readPerson_13 : decode cX9_readPerson 13 = .ok (.invokevirtual 85, 3) := by decide +kernel
theorem dX9_readPerson_16 : decode cX9_readPerson 16 = .ok (.ireturn, 1) := by decide +kernel
theorem dX9_readPerson_17 : decode cX9_readPerson 17 = .ok (.aload_n 0, 1) := by decide +kernel
theorem dX9_readPerson_18 : decode cX9_readPerson 18 = .ok (.iconst 1, 1) := by decide +kernel
theorem dX9_readPerson_19 : decode cX9_readPerson 19 = .ok (.iload_n 2, 1) := by decide +kernel
theorem dX9_readPerson_20 : decode cX9_readPerson 20 = .ok (.invokevirtual 144, 3) := by decide +kernel
theorem dX9_readPerson_23 : decode cX9_readPerson 23 = .ok (.ifCond .ne 5, 3) := by decide +kernel
theorem dX9_readPerson_26 : decode cX9_readPerson 26 = .ok (.iconst 0, 1) := by decide +kernel
theorem dX9_readPerson_27 : decode cX9_readPerson 27 = .ok (.ireturn, 1) := by decide +kernel
theorem dX9_readPerson_28 : decode cX9_readPerson 28 = .ok (.aload_n 0, 1) := by decide +kernel
theorem dX9_readPerson_29 : decode cX9_readPerson 29 = .ok (.invokevirtual 79, 3) := by decide +kernel
theorem dX9_readPerson_32 : decode cX9_readPerson 32 = .ok (.aload_n 0, 1) := by decide +kernel
theorem dX9_readPerson_33 : decode cX9_readPerson 33 = .ok (.invokevirtual 148, 3) := by decide +kernel
theorem dX9_readPerson_36 : decode cX9_readPerson 36 = .ok (.istore_n 3, 1) := by decide +kernel
theorem dX9_readPerson_37 : decode cX9_readPerson 37 = .ok (.iload_n 3, 1) := by decide +kernel
theorem dX9_readPerson_38 : decode cX9_readPerson 38 = .ok (.iconst (-1), 1) := by decide +kernel
theorem dX9_readPerson_39 : decode cX9_readPerson 39 = .ok (.if_icmp .ne 9, 3) := by decide +kernel
theorem dX9_readPerson_42 : decode cX9_readPerson 42 = .ok (.aload_n 0, 1) := by decide +kernel
theorem dX9_readPerson_43 : decode cX9_readPerson 43 = .ok (.iconst 1, 1) := by decide +kernel
theorem dX9_readPerson_44 : decode cX9_readPerson 44 = .ok (.invokevirtual 85, 3) := by decide +kernel
theorem dX9_readPerson_47 : decode cX9_readPerson 47 = .ok (.ireturn, 1) := by decide +kernel
theorem dX9_readPerson_48 : decode cX9_readPerson 48 = .ok (.aload_n 1, 1) := by decide +kernel
theorem dX9_readPerson_49 : decode cX9_readPerson 49 = .ok (.getfield 152, 3) := by decide +kernel
theorem dX9_readPerson_52 : decode cX9_readPerson 52 = .ok (.iload_n 2, 1) := by decide +kernel
theorem dX9_readPerson_53 : decode cX9_readPerson 53 = .ok (.iload_n 3, 1) := by decide +kernel
theorem dX9_readPerson_54 : decode cX9_readPerson 54 = .ok (.iastore, 1) := by decide +kernel
theorem dX9_readPerson_55 : decode cX9_readPerson 55 = .ok (.aload_n 0, 1) := by decide +kernel
theorem dX9_readPerson_56 : decode cX9_readPerson 56 = .ok (.ldc 155, 2) := by decide +kernel
theorem dX9_readPerson_58 : decode cX9_readPerson 58 = .ok (.iconst 0, 1) := by decide +kernel
theorem dX9_readPerson_59 : decode cX9_readPerson 59 = .ok (.bipush 99, 2) := by decide +kernel
theorem dX9_readPerson_61 : decode cX9_readPerson 61 = .ok (.invokevirtual 130, 3) := by decide +kernel
theorem dX9_readPerson_64 : decode cX9_readPerson 64 = .ok (.ifCond .ne 5, 3) := by decide +kernel
theorem dX9_readPerson_67 : decode cX9_readPerson 67 = .ok (.iconst 0, 1) := by decide +kernel
theorem dX9_readPerson_68 : decode cX9_readPerson 68 = .ok (.ireturn, 1) := by decide +kernel
theorem dX9_readPerson_69 : decode cX9_readPerson 69 = .ok (.aload_n 1, 1) := by decide +kernel
theorem dX9_readPerson_70 : decode cX9_readPerson 70 = .ok (.getfield 157, 3) := by decide +kernel
theorem dX9_readPerson_73 : decode cX9_readPerson 73 = .ok (.iload_n 2, 1) := by decide +kernel
theorem dX9_readPerson_74 : decode cX9_readPerson 74 = .ok (.aload_n 0, 1) := by decide +kernel
theorem dX9_readPerson_75 : decode cX9_readPerson 75 = .ok (.getfield 44, 3) := by decide +kernel
theorem dX9_readPerson_78 : decode cX9_readPerson 78 = .ok (.iastore, 1) := by decide +kernel
theorem dX9_readPerson_79 : decode cX9_readPerson 79 = .ok (.aload_n 0, 1) := by decide +kernel
theorem dX9_readPerson_80 : decode cX9_readPerson 80 = .ok (.ldc 160, 2) := by decide +kernel
theorem dX9_readPerson_82 : decode cX9_readPerson 82 = .ok (.iconst 0, 1) := by decide +kernel
theorem dX9_readPerson_83 : decode cX9_readPerson 83 = .ok (.bipush 99, 2) := by decide +kernel
theorem dX9_readPerson_85 : decode cX9_readPerson 85 = .ok (.invokevirtual 130, 3) := by decide +kernel
theorem dX9_readPerson_88 : decode cX9_readPerson 88 = .ok (.ifCond .ne 5, 3) := by decide +kernel
theorem dX9_readPerson_91 : decode cX9_readPerson 91 = .ok (.iconst 0, 1) := by decide +kernel
theorem dX9_readPerson_92 : decode cX9_readPerson 92 = .ok (.ireturn, 1) := by decide +kernel
theorem dX9_readPerson_93 : decode cX9_readPerson 93 = .ok (.aload_n 1, 1) := by decide +kernel
theorem dX9_readPerson_94 : decode cX9_readPerson 94 = .ok (.getfield 162, 3) := by decide +kernel
theorem dX9_readPerson_97 : decode cX9_readPerson 97 = .ok (.iload_n 2, 1) := by decide +kernel
theorem dX9_readPerson_98 : decode cX9_readPerson 98 = .ok (.aload_n 0, 1) := by decide +kernel
theorem dX9_readPerson_99 : decode cX9_readPerson 99 = .ok (.getfield 44, 3) := by decide +kernel
theorem dX9_readPerson_102 : decode cX9_readPerson 102 = .ok (.iastore, 1) := by decide +kernel
theorem dX9_readPerson_103 : decode cX9_readPerson 103 = .ok (.aload_n 0, 1) := by decide +kernel
theorem dX9_readPerson_104 : decode cX9_readPerson 104 = .ok (.ldc 164, 2) := by decide +kernel
theorem dX9_readPerson_106 : decode cX9_readPerson 106 = .ok (.iconst 0, 1) := by decide +kernel
theorem dX9_readPerson_107 : decode cX9_readPerson 107 = .ok (.bipush 100, 2) := by decide +kernel
theorem dX9_readPerson_109 : decode cX9_readPerson 109 = .ok (.invokevirtual 130, 3) := by decide +kernel
theorem dX9_readPerson_112 : decode cX9_readPerson 112 = .ok (.ifCond .ne 5, 3) := by decide +kernel
theorem dX9_readPerson_115 : decode cX9_readPerson 115 = .ok (.iconst 0, 1) := by decide +kernel
theorem dX9_readPerson_116 : decode cX9_readPerson 116 = .ok (.ireturn, 1) := by decide +kernel
theorem dX9_readPerson_117 : decode cX9_readPerson 117 = .ok (.aload_n 1, 1) := by decide +kernel
theorem dX9_readPerson_118 : decode cX9_readPerson 118 = .ok (.getfield 166, 3) := by decide +kernel
theorem dX9_readPerson_121 : decode cX9_readPerson 121 = .ok (.iload_n 2, 1) := by decide +kernel
theorem dX9_readPerson_122 : decode cX9_readPerson 122 = .ok (.aload_n 0, 1) := by decide +kernel
theorem dX9_readPerson_123 : decode cX9_readPerson 123 = .ok (.getfield 44, 3) := by decide +kernel
theorem dX9_readPerson_126 : decode cX9_readPerson 126 = .ok (.iastore, 1) := by decide +kernel
theorem dX9_readPerson_127 : decode cX9_readPerson 127 = .ok (.aload_n 1, 1) := by decide +kernel
theorem dX9_readPerson_128 : decode cX9_readPerson 128 = .ok (.dup, 1) := by decide +kernel
theorem dX9_readPerson_129 : decode cX9_readPerson 129 = .ok (.getfield 82, 3) := by decide +kernel
theorem dX9_readPerson_132 : decode cX9_readPerson 132 = .ok (.iconst 1, 1) := by decide +kernel
theorem dX9_readPerson_133 : decode cX9_readPerson 133 = .ok (.iadd, 1) := by decide +kernel
theorem dX9_readPerson_134 : decode cX9_readPerson 134 = .ok (.putfield 82, 3) := by decide +kernel
theorem dX9_readPerson_137 : decode cX9_readPerson 137 = .ok (.iconst 1, 1) := by decide +kernel
theorem dX9_readPerson_138 : decode cX9_readPerson 138 = .ok (.ireturn, 1) := by decide +kernel
theorem dX9_readPost_0 : decode cX9_readPost 0 = .ok (.aload_n 1, 1) := by decide +kernel
theorem dX9_readPost_1 : decode cX9_readPost 1 = .ok (.getfield 168, 3) := by decide +kernel
theorem dX9_readPost_4 : decode cX9_readPost 4 = .ok (.istore_n 2, 1) := by decide +kernel
theorem dX9_readPost_5 : decode cX9_readPost 5 = .ok (.iload_n 2, 1) := by decide +kernel
theorem dX9_readPost_6 : decode cX9_readPost 6 = .ok (.iconst 5, 1) := by decide +kernel
theorem dX9_readPost_7 : decode cX9_readPost 7 = .ok (.if_icmp .lt 9, 3) := by decide +kernel
theorem dX9_readPost_10 : decode cX9_readPost 10 = .ok (.aload_n 0, 1) := by decide +kernel
theorem dX9_readPost_11 : decode cX9_readPost 11 = .ok (.iconst 5, 1) := by decide +kernel
theorem dX9_readPost_12 : decode cX9_readPost 12 = .ok (.invokevirtual 85, 3) := by decide +kernel
theorem dX9_readPost_15 : decode cX9_readPost 15 = .ok (.ireturn, 1) := by decide +kernel
theorem dX9_readPost_16 : decode cX9_readPost 16 = .ok (.aload_n 0, 1) := by decide +kernel
theorem dX9_readPost_17 : decode cX9_readPost 17 = .ok (.iconst 0, 1) := by decide +kernel
theorem dX9_readPost_18 : decode cX9_readPost 18 = .ok (.iload_n 2, 1) := by decide +kernel
theorem dX9_readPost_19 : decode cX9_readPost 19 = .ok (.invokevirtual 144, 3) := by decide +kernel
theorem dX9_readPost_22 : decode cX9_readPost 22 = .ok (.ifCond .ne 5, 3) := by decide +kernel
theorem dX9_readPost_25 : decode cX9_readPost 25 = .ok (.iconst 0, 1) := by decide +kernel
theorem dX9_readPost_26 : decode cX9_readPost 26 = .ok (.ireturn, 1) := by decide +kernel
theorem dX9_readPost_27 : decode cX9_readPost 27 = .ok (.aload_n 0, 1) := by decide +kernel
theorem dX9_readPost_28 : decode cX9_readPost 28 = .ok (.ldc 155, 2) := by decide +kernel
theorem dX9_readPost_30 : decode cX9_readPost 30 = .ok (.iconst 0, 1) := by decide +kernel
theorem dX9_readPost_31 : decode cX9_readPost 31 = .ok (.bipush 99, 2) := by decide +kernel
theorem dX9_readPost_33 : decode cX9_readPost 33 = .ok (.invokevirtual 130, 3) := by decide +kernel
theorem dX9_readPost_36 : decode cX9_readPost 36 = .ok (.ifCond .ne 5, 3) := by decide +kernel
theorem dX9_readPost_39 : decode cX9_readPost 39 = .ok (.iconst 0, 1) := by decide +kernel
theorem dX9_readPost_40 : decode cX9_readPost 40 = .ok (.ireturn, 1) := by decide +kernel
theorem dX9_readPost_41 : decode cX9_readPost 41 = .ok (.aload_n 1, 1) := by decide +kernel
theorem dX9_readPost_42 : decode cX9_readPost 42 = .ok (.getfield 171, 3) := by decide +kernel
theorem dX9_readPost_45 : decode cX9_readPost 45 = .ok (.iload_n 2, 1) := by decide +kernel
theorem dX9_readPost_46 : decode cX9_readPost 46 = .ok (.aload_n 0, 1) := by decide +kernel
theorem dX9_readPost_47 : decode cX9_readPost 47 = .ok (.getfield 44, 3) := by decide +kernel
theorem dX9_readPost_50 : decode cX9_readPost 50 = .ok (.iastore, 1) := by decide +kernel
theorem dX9_readPost_51 : decode cX9_readPost 51 = .ok (.aload_n 0, 1) := by decide +kernel
theorem dX9_readPost_52 : decode cX9_readPost 52 = .ok (.ldc 174, 2) := by decide +kernel
theorem dX9_readPost_54 : decode cX9_readPost 54 = .ok (.iconst 1, 1) := by decide +kernel
theorem dX9_readPost_55 : decode cX9_readPost 55 = .ok (.bipush 40, 2) := by decide +kernel
theorem dX9_readPost_57 : decode cX9_readPost 57 = .ok (.invokevirtual 130, 3) := by decide +kernel
theorem dX9_readPost_60 : decode cX9_readPost 60 = .ok (.ifCond .ne 5, 3) := by decide +kernel
theorem dX9_readPost_63 : decode cX9_readPost 63 = .ok (.iconst 0, 1) := by decide +kernel
theorem dX9_readPost_64 : decode cX9_readPost 64 = .ok (.ireturn, 1) := by decide +kernel
theorem dX9_readPost_65 : decode cX9_readPost 65 = .ok (.aload_n 1, 1) := by decide +kernel
theorem dX9_readPost_66 : decode cX9_readPost 66 = .ok (.getfield 176, 3) := by decide +kernel
theorem dX9_readPost_69 : decode cX9_readPost 69 = .ok (.iload_n 2, 1) := by decide +kernel
theorem dX9_readPost_70 : decode cX9_readPost 70 = .ok (.aload_n 0, 1) := by decide +kernel
theorem dX9_readPost_71 : decode cX9_readPost 71 = .ok (.getfield 44, 3) := by decide +kernel
theorem dX9_readPost_74 : decode cX9_readPost 74 = .ok (.iastore, 1) := by decide +kernel
theorem dX9_readPost_75 : decode cX9_readPost 75 = .ok (.aload_n 1, 1) := by decide +kernel
theorem dX9_readPost_76 : decode cX9_readPost 76 = .ok (.dup, 1) := by decide +kernel
theorem dX9_readPost_77 : decode cX9_readPost 77 = .ok (.getfield 168, 3) := by decide +kernel
theorem dX9_readPost_80 : decode cX9_readPost 80 = .ok (.iconst 1, 1) := by decide +kernel
theorem dX9_readPost_81 : decode cX9_readPost 81 = .ok (.iadd, 1) := by decide +kernel
theorem dX9_readPost_82 : decode cX9_readPost 82 = .ok (.putfield 168, 3) := by decide +kernel
theorem dX9_readPost_85 : decode cX9_readPost 85 = .ok (.iconst 1, 1) := by decide +kernel
theorem dX9_readPost_86 : decode cX9_readPost 86 = .ok (.ireturn, 1) := by decide +kernel
theorem dX9_toldName_0 : decode cX9_toldName 0 = .ok (.aload_n 0, 1) := by decide +kernel
theorem dX9_toldName_1 : decode cX9_toldName 1 = .ok (.invokevirtual 79, 3) := by decide +kernel
theorem dX9_toldName_4 : decode cX9_toldName 4 = .ok (.aload_n 0, 1) := by decide +kernel
theorem dX9_toldName_5 : decode cX9_toldName 5 = .ok (.getfield 35, 3) := by decide +kernel
theorem dX9_toldName_8 : decode cX9_toldName 8 = .ok (.iconst 1, 1) := by decide +kernel
theorem dX9_toldName_9 : decode cX9_toldName 9 = .ok (.if_icmp .ne 10, 3) := by decide +kernel
theorem dX9_toldName_12 : decode cX9_toldName 12 = .ok (.aload_n 0, 1) := by decide +kernel
theorem dX9_toldName_13 : decode cX9_toldName 13 = .ok (.invokevirtual 89, 3) := by decide +kernel
theorem dX9_toldName_16 : decode cX9_toldName 16 = .ok (.ifCond .eq 9, 3) := by decide +kernel
theorem dX9_toldName_19 : decode cX9_toldName 19 = .ok (.aload_n 0, 1) := by decide +kernel
theorem dX9_toldName_20 : decode cX9_toldName 20 = .ok (.iconst 1, 1) := by decide +kernel
theorem dX9_toldName_21 : decode cX9_toldName 21 = .ok (.invokevirtual 85, 3) := by decide +kernel
theorem dX9_toldName_24 : decode cX9_toldName 24 = .ok (.ireturn, 1) := by decide +kernel
theorem dX9_toldName_25 : decode cX9_toldName 25 = .ok (.aload_n 0, 1) := by decide +kernel
theorem dX9_toldName_26 : decode cX9_toldName 26 = .ok (.invokevirtual 203, 3) := by decide +kernel
theorem dX9_toldName_29 : decode cX9_toldName 29 = .ok (.istore_n 2, 1) := by decide +kernel
theorem dX9_toldName_30 : decode cX9_toldName 30 = .ok (.iload_n 2, 1) := by decide +kernel
theorem dX9_toldName_31 : decode cX9_toldName 31 = .ok (.iconst (-1), 1) := by decide +kernel
theorem dX9_toldName_32 : decode cX9_toldName 32 = .ok (.if_icmp .eq 13, 3) := by decide +kernel
theorem dX9_toldName_35 : decode cX9_toldName 35 = .ok (.aload_n 0, 1) := by decide +kernel
theorem dX9_toldName_36 : decode cX9_toldName 36 = .ok (.getfield 21, 3) := by decide +kernel
theorem dX9_toldName_39 : decode cX9_toldName 39 = .ok (.iload_n 2, 1) := by decide +kernel
theorem dX9_toldName_40 : decode cX9_toldName 40 = .ok (.baload, 1) := by decide +kernel
theorem dX9_toldName_41 : decode cX9_toldName 41 = .ok (.iload_n 1, 1) := by decide +kernel
theorem dX9_toldName_42 : decode cX9_toldName 42 = .ok (.if_icmp .eq 9, 3) := by decide +kernel
theorem dX9_toldName_45 : decode cX9_toldName 45 = .ok (.aload_n 0, 1) := by decide +kernel
theorem dX9_toldName_46 : decode cX9_toldName 46 = .ok (.iconst 2, 1) := by decide +kernel
theorem dX9_toldName_47 : decode cX9_toldName 47 = .ok (.invokevirtual 85, 3) := by decide +kernel
theorem dX9_toldName_50 : decode cX9_toldName 50 = .ok (.ireturn, 1) := by decide +kernel
theorem dX9_toldName_51 : decode cX9_toldName 51 = .ok (.aload_n 0, 1) := by decide +kernel
theorem dX9_toldName_52 : decode cX9_toldName 52 = .ok (.aload_n 0, 1) := by decide +kernel
theorem dX9_toldName_53 : decode cX9_toldName 53 = .ok (.getfield 18, 3) := by decide +kernel
theorem dX9_toldName_56 : decode cX9_toldName 56 = .ok (.iload_n 2, 1) := by decide +kernel
theorem dX9_toldName_57 : decode cX9_toldName 57 = .ok (.iaload, 1) := by decide +kernel
theorem dX9_toldName_58 : decode cX9_toldName 58 = .ok (.putfield 47, 3) := by decide +kernel
theorem dX9_toldName_61 : decode cX9_toldName 61 = .ok (.iconst 1, 1) := by decide +kernel
theorem dX9_toldName_62 : decode cX9_toldName 62 = .ok (.ireturn, 1) := by decide +kernel
theorem dX9_readManned_0 : decode cX9_readManned 0 = .ok (.aload_n 0, 1) := by decide +kernel
theorem dX9_readManned_1 : decode cX9_readManned 1 = .ok (.iconst 0, 1) := by decide +kernel
theorem dX9_readManned_2 : decode cX9_readManned 2 = .ok (.invokevirtual 179, 3) := by decide +kernel
theorem dX9_readManned_5 : decode cX9_readManned 5 = .ok (.ifCond .ne 5, 3) := by decide +kernel
theorem dX9_readManned_8 : decode cX9_readManned 8 = .ok (.iconst 0, 1) := by decide +kernel
theorem dX9_readManned_9 : decode cX9_readManned 9 = .ok (.ireturn, 1) := by decide +kernel
theorem dX9_readManned_10 : decode cX9_readManned 10 = .ok (.aload_n 1, 1) := by decide +kernel
theorem dX9_readManned_11 : decode cX9_readManned 11 = .ok (.getfield 183, 3) := by decide +kernel
theorem dX9_readManned_14 : decode cX9_readManned 14 = .ok (.aload_n 0, 1) := by decide +kernel
theorem dX9_readManned_15 : decode cX9_readManned 15 = .ok (.getfield 47, 3) := by decide +kernel
theorem dX9_readManned_18 : decode cX9_readManned 18 = .ok (.invokestatic 185, 3) := by decide +kernel
theorem dX9_readManned_21 : decode cX9_readManned 21 = .ok (.ifCond .eq 9, 3) := by decide +kernel
theorem dX9_readManned_24 : decode cX9_readManned 24 = .ok (.aload_n 0, 1) := by decide +kernel
theorem dX9_readManned_25 : decode cX9_readManned 25 = .ok (.iconst 3, 1) := by decide +kernel
theorem dX9_readManned_26 : decode cX9_readManned 26 = .ok (.invokevirtual 85, 3) := by decide +kernel
theorem dX9_readManned_29 : decode cX9_readManned 29 = .ok (.ireturn, 1) := by decide +kernel
theorem dX9_readManned_30 : decode cX9_readManned 30 = .ok (.aload_n 1, 1) := by decide +kernel
theorem dX9_readManned_31 : decode cX9_readManned 31 = .ok (.dup, 1) := by decide +kernel
theorem dX9_readManned_32 : decode cX9_readManned 32 = .ok (.getfield 183, 3) := by decide +kernel
theorem dX9_readManned_35 : decode cX9_readManned 35 = .ok (.iconst 1, 1) := by decide +kernel
theorem dX9_readManned_36 : decode cX9_readManned 36 = .ok (.aload_n 0, 1) := by decide +kernel
theorem dX9_readManned_37 : decode cX9_readManned 37 = .ok (.getfield 47, 3) := by decide +kernel
theorem dX9_readManned_40 : decode cX9_readManned 40 = .ok (.ishl, 1) := by decide +kernel
theorem dX9_readManned_41 : decode cX9_readManned 41 = .ok (.ior, 1) := by decide +kernel
theorem dX9_readManned_42 : decode cX9_readManned 42 = .ok (.putfield 183, 3) := by decide +kernel
theorem dX9_readManned_45 : decode cX9_readManned 45 = .ok (.iconst 1, 1) := by decide +kernel
theorem dX9_readManned_46 : decode cX9_readManned 46 = .ok (.ireturn, 1) := by decide +kernel
theorem dX9_readKnows_0 : decode cX9_readKnows 0 = .ok (.aload_n 1, 1) := by decide +kernel
theorem dX9_readKnows_1 : decode cX9_readKnows 1 = .ok (.getfield 189, 3) := by decide +kernel
theorem dX9_readKnows_4 : decode cX9_readKnows 4 = .ok (.bipush 9, 2) := by decide +kernel
theorem dX9_readKnows_6 : decode cX9_readKnows 6 = .ok (.if_icmp .lt 9, 3) := by decide +kernel
theorem dX9_readKnows_9 : decode cX9_readKnows 9 = .ok (.aload_n 0, 1) := by decide +kernel
theorem dX9_readKnows_10 : decode cX9_readKnows 10 = .ok (.iconst 5, 1) := by decide +kernel
theorem dX9_readKnows_11 : decode cX9_readKnows 11 = .ok (.invokevirtual 85, 3) := by decide +kernel
theorem dX9_readKnows_14 : decode cX9_readKnows 14 = .ok (.ireturn, 1) := by decide +kernel
theorem dX9_readKnows_15 : decode cX9_readKnows 15 = .ok (.aload_n 0, 1) := by decide +kernel
theorem dX9_readKnows_16 : decode cX9_readKnows 16 = .ok (.iconst 1, 1) := by decide +kernel
theorem dX9_readKnows_17 : decode cX9_readKnows 17 = .ok (.invokevirtual 179, 3) := by decide +kernel
theorem dX9_readKnows_20 : decode cX9_readKnows 20 = .ok (.ifCond .ne 5, 3) := by decide +kernel
theorem dX9_readKnows_23 : decode cX9_readKnows 23 = .ok (.iconst 0, 1) := by decide +kernel
theorem dX9_readKnows_24 : decode cX9_readKnows 24 = .ok (.ireturn, 1) := by decide +kernel
theorem dX9_readKnows_25 : decode cX9_readKnows 25 = .ok (.aload_n 0, 1) := by decide +kernel
theorem dX9_readKnows_26 : decode cX9_readKnows 26 = .ok (.getfield 47, 3) := by decide +kernel
theorem dX9_readKnows_29 : decode cX9_readKnows 29 = .ok (.istore_n 2, 1) := by decide +kernel
theorem dX9_readKnows_30 : decode cX9_readKnows 30 = .ok (.aload_n 0, 1) := by decide +kernel
theorem dX9_readKnows_31 : decode cX9_readKnows 31 = .ok (.iconst 1, 1) := by decide +kernel
theorem dX9_readKnows_32 : decode cX9_readKnows 32 = .ok (.invokevirtual 179, 3) := by decide +kernel
theorem dX9_readKnows_35 : decode cX9_readKnows 35 = .ok (.ifCond .ne 5, 3) := by decide +kernel
theorem dX9_readKnows_38 : decode cX9_readKnows 38 = .ok (.iconst 0, 1) := by decide +kernel
theorem dX9_readKnows_39 : decode cX9_readKnows 39 = .ok (.ireturn, 1) := by decide +kernel
theorem dX9_readKnows_40 : decode cX9_readKnows 40 = .ok (.aload_n 0, 1) := by decide +kernel
theorem dX9_readKnows_41 : decode cX9_readKnows 41 = .ok (.getfield 47, 3) := by decide +kernel
theorem dX9_readKnows_44 : decode cX9_readKnows 44 = .ok (.iload_n 2, 1) := by decide +kernel
theorem dX9_readKnows_45 : decode cX9_readKnows 45 = .ok (.if_icmp .eq 19, 3) := by decide +kernel
theorem dX9_readKnows_48 : decode cX9_readKnows 48 = .ok (.aload_n 1, 1) := by decide +kernel
theorem dX9_readKnows_49 : decode cX9_readKnows 49 = .ok (.getfield 192, 3) := by decide +kernel
theorem dX9_readKnows_52 : decode cX9_readKnows 52 = .ok (.iload_n 2, 1) := by decide +kernel
theorem dX9_readKnows_53 : decode cX9_readKnows 53 = .ok (.iaload, 1) := by decide +kernel
theorem dX9_readKnows_54 : decode cX9_readKnows 54 = .ok (.aload_n 0, 1) := by decide +kernel
theorem dX9_readKnows_55 : decode cX9_readKnows 55 = .ok (.getfield 47, 3) := by decide +kernel
theorem dX9_readKnows_58 : decode cX9_readKnows 58 = .ok (.invokestatic 185, 3) := by decide +kernel
theorem dX9_readKnows_61 : decode cX9_readKnows 61 = .ok (.ifCond .eq 9, 3) := by decide +kernel
theorem dX9_readKnows_64 : decode cX9_readKnows 64 = .ok (.aload_n 0, 1) := by decide +kernel
theorem dX9_readKnows_65 : decode cX9_readKnows 65 = .ok (.iconst 3, 1) := by decide +kernel
theorem dX9_readKnows_66 : decode cX9_readKnows 66 = .ok (.invokevirtual 85, 3) := by decide +kernel
theorem dX9_readKnows_69 : decode cX9_readKnows 69 = .ok (.ireturn, 1) := by decide +kernel
theorem dX9_readKnows_70 : decode cX9_readKnows 70 = .ok (.aload_n 1, 1) := by decide +kernel
theorem dX9_readKnows_71 : decode cX9_readKnows 71 = .ok (.getfield 192, 3) := by decide +kernel
theorem dX9_readKnows_74 : decode cX9_readKnows 74 = .ok (.iload_n 2, 1) := by decide +kernel
theorem dX9_readKnows_75 : decode cX9_readKnows 75 = .ok (.dup2, 1) := by decide +kernel
theorem dX9_readKnows_76 : decode cX9_readKnows 76 = .ok (.iaload, 1) := by decide +kernel
theorem dX9_readKnows_77 : decode cX9_readKnows 77 = .ok (.iconst 1, 1) := by decide +kernel
theorem dX9_readKnows_78 : decode cX9_readKnows 78 = .ok (.aload_n 0, 1) := by decide +kernel
theorem dX9_readKnows_79 : decode cX9_readKnows 79 = .ok (.getfield 47, 3) := by decide +kernel
theorem dX9_readKnows_82 : decode cX9_readKnows 82 = .ok (.ishl, 1) := by decide +kernel
theorem dX9_readKnows_83 : decode cX9_readKnows 83 = .ok (.ior, 1) := by decide +kernel
theorem dX9_readKnows_84 : decode cX9_readKnows 84 = .ok (.iastore, 1) := by decide +kernel
theorem dX9_readKnows_85 : decode cX9_readKnows 85 = .ok (.aload_n 1, 1) := by decide +kernel
theorem dX9_readKnows_86 : decode cX9_readKnows 86 = .ok (.dup, 1) := by decide +kernel
theorem dX9_readKnows_87 : decode cX9_readKnows 87 = .ok (.getfield 189, 3) := by decide +kernel
theorem dX9_readKnows_90 : decode cX9_readKnows 90 = .ok (.iconst 1, 1) := by decide +kernel
theorem dX9_readKnows_91 : decode cX9_readKnows 91 = .ok (.iadd, 1) := by decide +kernel
theorem dX9_readKnows_92 : decode cX9_readKnows 92 = .ok (.putfield 189, 3) := by decide +kernel
theorem dX9_readKnows_95 : decode cX9_readKnows 95 = .ok (.iconst 1, 1) := by decide +kernel
theorem dX9_readKnows_96 : decode cX9_readKnows 96 = .ok (.ireturn, 1) := by decide +kernel
theorem dX9_readSign_0 : decode cX9_readSign 0 = .ok (.aload_n 0, 1) := by decide +kernel
theorem dX9_readSign_1 : decode cX9_readSign 1 = .ok (.iconst 1, 1) := by decide +kernel
theorem dX9_readSign_2 : decode cX9_readSign 2 = .ok (.invokevirtual 179, 3) := by decide +kernel
theorem dX9_readSign_5 : decode cX9_readSign 5 = .ok (.ifCond .ne 5, 3) := by decide +kernel
theorem dX9_readSign_8 : decode cX9_readSign 8 = .ok (.iconst 0, 1) := by decide +kernel
theorem dX9_readSign_9 : decode cX9_readSign 9 = .ok (.ireturn, 1) := by decide +kernel
theorem dX9_readSign_10 : decode cX9_readSign 10 = .ok (.aload_n 1, 1) := by decide +kernel
theorem dX9_readSign_11 : decode cX9_readSign 11 = .ok (.getfield 194, 3) := by decide +kernel
theorem dX9_readSign_14 : decode cX9_readSign 14 = .ok (.aload_n 0, 1) := by decide +kernel
theorem dX9_readSign_15 : decode cX9_readSign 15 = .ok (.getfield 47, 3) := by decide +kernel
theorem dX9_readSign_18 : decode cX9_readSign 18 = .ok (.iaload, 1) := by decide +kernel
theorem dX9_readSign_19 : decode cX9_readSign 19 = .ok (.ifCond .eq 9, 3) := by decide +kernel
theorem dX9_readSign_22 : decode cX9_readSign 22 = .ok (.aload_n 0, 1) := by decide +kernel
theorem dX9_readSign_23 : decode cX9_readSign 23 = .ok (.iconst 3, 1) := by decide +kernel
theorem dX9_readSign_24 : decode cX9_readSign 24 = .ok (.invokevirtual 85, 3) := by decide +kernel
theorem dX9_readSign_27 : decode cX9_readSign 27 = .ok (.ireturn, 1) := by decide +kernel
theorem dX9_readSign_28 : decode cX9_readSign 28 = .ok (.aload_n 1, 1) := by decide +kernel
theorem dX9_readSign_29 : decode cX9_readSign 29 = .ok (.getfield 194, 3) := by decide +kernel
theorem dX9_readSign_32 : decode cX9_readSign 32 = .ok (.aload_n 0, 1) := by decide +kernel
theorem dX9_readSign_33 : decode cX9_readSign 33 = .ok (.getfield 47, 3) := by decide +kernel
theorem dX9_readSign_36 : decode cX9_readSign 36 = .ok (.iload_n 2, 1) := by decide +kernel
theorem dX9_readSign_37 : decode cX9_readSign 37 = .ok (.iastore, 1) := by decide +kernel
theorem dX9_readSign_38 : decode cX9_readSign 38 = .ok (.aload_n 1, 1) := by decide +kernel
theorem dX9_readSign_39 : decode cX9_readSign 39 = .ok (.dup, 1) := by decide +kernel
theorem dX9_readSign_40 : decode cX9_readSign 40 = .ok (.getfield 197, 3) := by decide +kernel
theorem dX9_readSign_43 : decode cX9_readSign 43 = .ok (.iconst 1, 1) := by decide +kernel
theorem dX9_readSign_44 : decode cX9_readSign 44 = .ok (.iadd, 1) := by decide +kernel
theorem dX9_readSign_45 : decode cX9_readSign 45 = .ok (.putfield 197, 3) := by decide +kernel
theorem dX9_readSign_48 : decode cX9_readSign 48 = .ok (.iconst 1, 1) := by decide +kernel
theorem dX9_readSign_49 : decode cX9_readSign 49 = .ok (.ireturn, 1) := by decide +kernel
def m_X9_readPerson (t : Nat) (o0p : (Option Nat)) (σ : jd_Hp) : Option (Int32 × jd_Hp) :=
jd_o σ (10, 16) o0p fun a1 =>
jd_li (σ.2.1 a1 11) fun x2 =>
jd_if (x2 < 6) (
jd_b (m_X9_newName t 1 x2 σ) fun r3 σ3 =>
jd_if (¬ r3 = 0) (
jd_b (m_X9_advance t σ3) fun r4 σ4 =>
jd_b (m_X9_kindTold t σ4) fun r5 σ5 =>
jd_if (¬ r5 = (-1)) (
jd_ia σ5 20 (σ5.2.2.2 a1 0) x2 fun a6 j6 =>
jd_li (jd_pi σ5 a6 j6 r5) fun τ7 =>
jd_b (m_X9_labelled t (some 14) 0 99 τ7) fun r8 σ8 =>
jd_if (¬ r8 = 0) (
jd_ia σ8 20 (σ8.2.2.2 a1 1) x2 fun a9 j9 =>
jd_li (jd_pi σ8 a9 j9 (σ8.2.1 t 11)) fun τ10 =>
jd_b (m_X9_labelled t (some 15) 0 99 τ10) fun r11 σ11 =>
jd_if (¬ r11 = 0) (
jd_ia σ11 20 (σ11.2.2.2 a1 2) x2 fun a12 j12 =>
jd_li (jd_pi σ11 a12 j12 (σ11.2.1 t 11)) fun τ13 =>
jd_b (m_X9_labelled t (some 16) 0 100 τ13) fun r14 σ14 =>
jd_if (¬ r14 = 0) (
jd_ia σ14 20 (σ14.2.2.2 a1 3) x2 fun a15 j15 =>
jd_li (jd_pi σ14 a15 j15 (σ14.2.1 t 11)) fun τ16 =>
jd_li (jd_pi τ16 a1 11 ((τ16.2.1 a1 11) + 1)) fun τ17 =>
some (1, τ17)) (
some (0, σ14))) (
some (0, σ11))) (
some (0, σ8))) (
jd_b (m_X9_fail t 1 σ5) fun r18 σ18 =>
some ((r18 &&& 1), σ18))) (
some (0, σ3))) (
jd_b (m_X9_fail t 5 σ) fun r19 σ19 =>
some ((r19 &&& 1), σ19))
set_option maxHeartbeats 4000000 in
set_option maxRecDepth 20000 in
theorem c_X9_readPerson {l : Launch} {s0 : State} {G : jd_G} (hF : jd_F s0 G) (σ : jd_Hp) (t : Nat) (ht : σ.1[t]? = some (9, 16)) (o0p : (Option Nat)) : jd_M l s0 G yX9_readPerson cX9_readPerson 4 (some .boolean) 10 je_i [jd_v G (some t), jd_v G o0p] σ (m_X9_readPerson t o0p σ) := by
  refine jd_enter hF (by decide) (fun G => [some (jd_v G (some t)), some (jd_v G o0p), none, none]) rfl (by simp [lv_args, jd_al, jd_v_cat, jd_cti, jd_ctl]) (by simp [lg_sl, jd_v_cat, jd_cti, jd_ctl]) (fun X hD hX => ?_)
  have hX : jd_C X RX9 "readPerson" cX9_readPerson 4 (some .boolean) := hX
  unfold m_X9_readPerson
  refine jr_ald1 (pc := 0) hX dX9_readPerson_0 ?_
  refine jr_ck0 (fun a1 e1 h1 => ?_)
  refine jr_geti (pc := 1) hX fX9_82 rfl dX9_readPerson_1 h1 ?_
  refine jr_ist2 (pc := 4) hX (jn_r _ _) dX9_readPerson_4 ?_
  refine jr_li ?_
  refine jr_ild2 (pc := 5) hX dX9_readPerson_5 ?_
  refine jr_bipush (pc := 6) hX 6 rfl dX9_readPerson_6 ?_
  refine jr_iclt (pc := 8) hX 17 dX9_readPerson_8 (by decide) ?_ ?_
  · refine jr_ald0 (pc := 17) hX dX9_readPerson_17 ?_
    refine jr_iconst (pc := 18) hX 1 rfl dX9_readPerson_18 ?_
    refine jr_ild2 (pc := 19) hX dX9_readPerson_19 ?_
    refine jr_cV2i (pc := 20) hX lX9_144 (c_X9_newName hX.F σ t ht _ _) (jd_dd hD rfl) (Nat.le_of_ble_eq_true rfl) dX9_readPerson_20 ht (fun r3 σ3 p3 => ?_)
    refine jr_ifne (pc := 23) hX 28 dX9_readPerson_23 (by decide) ?_ ?_
    · refine jr_ald0 (pc := 28) hX dX9_readPerson_28 ?_
      refine jr_cV0v (pc := 29) hX lX9_79 (c_X9_advance hX.F σ3 t (p3.at ht :)) (jd_dd hD rfl) (Nat.le_of_ble_eq_true rfl) dX9_readPerson_29 (p3.at ht :) (fun r4 σ4 p4 => ?_)
      refine jr_ald0 (pc := 32) hX dX9_readPerson_32 ?_
      refine jr_cV0i (pc := 33) hX lX9_148 (c_X9_kindTold hX.F σ4 t (p4.at (p3.at ht :) :)) (jd_dd hD rfl) (Nat.le_of_ble_eq_true rfl) dX9_readPerson_33 (p4.at (p3.at ht :) :) (fun r5 σ5 p5 => ?_)
      refine jr_ist3 (pc := 36) hX (jn_i _) dX9_readPerson_36 ?_
      refine jr_ild3 (pc := 37) hX dX9_readPerson_37 ?_
      refine jr_iconst (pc := 38) hX (-1) rfl dX9_readPerson_38 ?_
      refine jr_icne (pc := 39) hX 48 dX9_readPerson_39 (by decide) ?_ ?_
      · refine jr_ald1 (pc := 48) hX dX9_readPerson_48 ?_
        refine jr_ek0 e1 ?_
        refine jr_getr (pc := 49) hX fX9_152 rfl dX9_readPerson_49 (p5.at (p4.at (p3.at h1 :) :) :) ?_
        refine jr_ild2 (pc := 52) hX dX9_readPerson_52 ?_
        refine jr_ild3 (pc := 53) hX dX9_readPerson_53 ?_
        refine jr_iaS (pc := 54) hX dX9_readPerson_54 (fun a6 n6 e6 h6 => ?_)
        refine jr_li ?_
        refine jr_ald0 (pc := 55) hX dX9_readPerson_55 ?_
        refine jr_ldcS (pc := 56) hX sX9_155 dX9_readPerson_56 ?_
        refine jr_iconst (pc := 58) hX 0 rfl dX9_readPerson_58 ?_
        refine jr_bipush (pc := 59) hX 99 rfl dX9_readPerson_59 ?_
        refine jr_cV3i (pc := 61) hX lX9_130 (c_X9_labelled hX.F (jd_pi σ5 a6 (σ.2.1 a1 11).toNatClampNeg r5) t (p5.at (p4.at (p3.at ht :) :) :) _ _ _) (jd_dd hD rfl) (Nat.le_of_ble_eq_true rfl) dX9_readPerson_61 (p5.at (p4.at (p3.at ht :) :) :) (fun r8 σ8 p8 => ?_)
        refine jr_ifne (pc := 64) hX 69 dX9_readPerson_64 (by decide) ?_ ?_
        · refine jr_ald1 (pc := 69) hX dX9_readPerson_69 ?_
          refine jr_ek0 e1 ?_
          refine jr_getr (pc := 70) hX fX9_157 rfl dX9_readPerson_70 (p8.at (p5.at (p4.at (p3.at h1 :) :) :) :) ?_
          refine jr_ild2 (pc := 73) hX dX9_readPerson_73 ?_
          refine jr_ald0 (pc := 74) hX dX9_readPerson_74 ?_
          refine jr_geti (pc := 75) hX fX9_44 rfl dX9_readPerson_75 (p8.at (p5.at (p4.at (p3.at ht :) :) :) :) ?_
          refine jr_iaS (pc := 78) hX dX9_readPerson_78 (fun a9 n9 e9 h9 => ?_)
          refine jr_li ?_
          refine jr_ald0 (pc := 79) hX dX9_readPerson_79 ?_
          refine jr_ldcS (pc := 80) hX sX9_160 dX9_readPerson_80 ?_
          refine jr_iconst (pc := 82) hX 0 rfl dX9_readPerson_82 ?_
          refine jr_bipush (pc := 83) hX 99 rfl dX9_readPerson_83 ?_
          refine jr_cV3i (pc := 85) hX lX9_130 (c_X9_labelled hX.F (jd_pi σ8 a9 (σ.2.1 a1 11).toNatClampNeg (σ8.2.1 t 11)) t (p8.at (p5.at (p4.at (p3.at ht :) :) :) :) _ _ _) (jd_dd hD rfl) (Nat.le_of_ble_eq_true rfl) dX9_readPerson_85 (p8.at (p5.at (p4.at (p3.at ht :) :) :) :) (fun r11 σ11 p11 => ?_)
          refine jr_ifne (pc := 88) hX 93 dX9_readPerson_88 (by decide) ?_ ?_
          · refine jr_ald1 (pc := 93) hX dX9_readPerson_93 ?_
            refine jr_ek0 e1 ?_
            refine jr_getr (pc := 94) hX fX9_162 rfl dX9_readPerson_94 (p11.at (p8.at (p5.at (p4.at (p3.at h1 :) :) :) :) :) ?_
            refine jr_ild2 (pc := 97) hX dX9_readPerson_97 ?_
            refine jr_ald0 (pc := 98) hX dX9_readPerson_98 ?_
            refine jr_geti (pc := 99) hX fX9_44 rfl dX9_readPerson_99 (p11.at (p8.at (p5.at (p4.at (p3.at ht :) :) :) :) :) ?_
            refine jr_iaS (pc := 102) hX dX9_readPerson_102 (fun a12 n12 e12 h12 => ?_)
            refine jr_li ?_
            refine jr_ald0 (pc := 103) hX dX9_readPerson_103 ?_
            refine jr_ldcS (pc := 104) hX sX9_164 dX9_readPerson_104 ?_
            refine jr_iconst (pc := 106) hX 0 rfl dX9_readPerson_106 ?_
            refine jr_bipush (pc := 107) hX 100 rfl dX9_readPerson_107 ?_
            refine jr_cV3i (pc := 109) hX lX9_130 (c_X9_labelled hX.F (jd_pi σ11 a12 (σ.2.1 a1 11).toNatClampNeg (σ11.2.1 t 11)) t (p11.at (p8.at (p5.at (p4.at (p3.at ht :) :) :) :) :) _ _ _) (jd_dd hD rfl) (Nat.le_of_ble_eq_true rfl) dX9_readPerson_109 (p11.at (p8.at (p5.at (p4.at (p3.at ht :) :) :) :) :) (fun r14 σ14 p14 => ?_)
            refine jr_ifne (pc := 112) hX 117 dX9_readPerson_112 (by decide) ?_ ?_
            · refine jr_ald1 (pc := 117) hX dX9_readPerson_117 ?_
              refine jr_ek0 e1 ?_
              refine jr_getr (pc := 118) hX fX9_166 rfl dX9_readPerson_118 (p14.at (p11.at (p8.at (p5.at (p4.at (p3.at h1 :) :) :) :) :) :) ?_
              refine jr_ild2 (pc := 121) hX dX9_readPerson_121 ?_
              refine jr_ald0 (pc := 122) hX dX9_readPerson_122 ?_
              refine jr_geti (pc := 123) hX fX9_44 rfl dX9_readPerson_123 (p14.at (p11.at (p8.at (p5.at (p4.at (p3.at ht :) :) :) :) :) :) ?_
              refine jr_iaS (pc := 126) hX dX9_readPerson_126 (fun a15 n15 e15 h15 => ?_)
              refine jr_li ?_
              refine jr_ald1 (pc := 127) hX dX9_readPerson_127 ?_
              refine jr_dup (pc := 128) hX (jd_v_cat _ _) dX9_readPerson_128 ?_
              refine jr_ek0 e1 ?_
              refine jr_geti (pc := 129) hX fX9_82 rfl dX9_readPerson_129 (p14.at (p11.at (p8.at (p5.at (p4.at (p3.at h1 :) :) :) :) :) :) ?_
              refine jr_iconst (pc := 132) hX 1 rfl dX9_readPerson_132 ?_
              refine jr_iadd (pc := 133) hX dX9_readPerson_133 ?_
              refine jr_ek1 e1 ?_
              refine jr_puti (pc := 134) hX fX9_82 rfl dX9_readPerson_134 (p14.at (p11.at (p8.at (p5.at (p4.at (p3.at h1 :) :) :) :) :) :) ?_
              refine jr_li ?_
              refine jr_iconst (pc := 137) hX 1 rfl dX9_readPerson_137 ?_
              exact jr_zret (pc := 138) hX dX9_readPerson_138 (Or.inr rfl) rfl
            · refine jr_iconst (pc := 115) hX 0 rfl dX9_readPerson_115 ?_
              exact jr_zret (pc := 116) hX dX9_readPerson_116 (Or.inl rfl) rfl
          · refine jr_iconst (pc := 91) hX 0 rfl dX9_readPerson_91 ?_
            exact jr_zret (pc := 92) hX dX9_readPerson_92 (Or.inl rfl) rfl
        · refine jr_iconst (pc := 67) hX 0 rfl dX9_readPerson_67 ?_
          exact jr_zret (pc := 68) hX dX9_readPerson_68 (Or.inl rfl) rfl
      · refine jr_ald0 (pc := 42) hX dX9_readPerson_42 ?_
        refine jr_iconst (pc := 43) hX 1 rfl dX9_readPerson_43 ?_
        refine jr_cV1i (pc := 44) hX lX9_85 (c_X9_fail hX.F σ5 t (p5.at (p4.at (p3.at ht :) :) :) _) (jd_dd hD rfl) (Nat.le_of_ble_eq_true rfl) dX9_readPerson_44 (p5.at (p4.at (p3.at ht :) :) :) (fun r18 σ18 p18 => ?_)
        exact jr_bret (pc := 47) hX dX9_readPerson_47 rfl
    · refine jr_iconst (pc := 26) hX 0 rfl dX9_readPerson_26 ?_
      exact jr_zret (pc := 27) hX dX9_readPerson_27 (Or.inl rfl) rfl
  · refine jr_ald0 (pc := 11) hX dX9_readPerson_11 ?_
    refine jr_iconst (pc := 12) hX 5 rfl dX9_readPerson_12 ?_
    refine jr_cV1i (pc := 13) hX lX9_85 (c_X9_fail hX.F σ t ht _) (jd_dd hD rfl) (Nat.le_of_ble_eq_true rfl) dX9_readPerson_13 ht (fun r19 σ19 p19 => ?_)
    exact jr_bret (pc := 16) hX dX9_readPerson_16 rfl
def m_X9_readPost (t : Nat) (o0p : (Option Nat)) (σ : jd_Hp) : Option (Int32 × jd_Hp) :=
jd_o σ (10, 16) o0p fun a1 =>
jd_li (σ.2.1 a1 12) fun x2 =>
jd_if (x2 < 5) (
jd_b (m_X9_newName t 0 x2 σ) fun r3 σ3 =>
jd_if (¬ r3 = 0) (
jd_b (m_X9_labelled t (some 14) 0 99 σ3) fun r4 σ4 =>
jd_if (¬ r4 = 0) (
jd_ia σ4 20 (σ4.2.2.2 a1 6) x2 fun a5 j5 =>
jd_li (jd_pi σ4 a5 j5 (σ4.2.1 t 11)) fun τ6 =>
jd_b (m_X9_labelled t (some 17) 1 40 τ6) fun r7 σ7 =>
jd_if (¬ r7 = 0) (
jd_ia σ7 20 (σ7.2.2.2 a1 7) x2 fun a8 j8 =>
jd_li (jd_pi σ7 a8 j8 (σ7.2.1 t 11)) fun τ9 =>
jd_li (jd_pi τ9 a1 12 ((τ9.2.1 a1 12) + 1)) fun τ10 =>
some (1, τ10)) (
some (0, σ7))) (
some (0, σ4))) (
some (0, σ3))) (
jd_b (m_X9_fail t 5 σ) fun r11 σ11 =>
some ((r11 &&& 1), σ11))
set_option maxHeartbeats 4000000 in
set_option maxRecDepth 20000 in
theorem c_X9_readPost {l : Launch} {s0 : State} {G : jd_G} (hF : jd_F s0 G) (σ : jd_Hp) (t : Nat) (ht : σ.1[t]? = some (9, 16)) (o0p : (Option Nat)) : jd_M l s0 G yX9_readPost cX9_readPost 3 (some .boolean) 10 je_i [jd_v G (some t), jd_v G o0p] σ (m_X9_readPost t o0p σ) := by
  refine jd_enter hF (by decide) (fun G => [some (jd_v G (some t)), some (jd_v G o0p), none]) rfl (by simp [lv_args, jd_al, jd_v_cat, jd_cti, jd_ctl]) (by simp [lg_sl, jd_v_cat, jd_cti, jd_ctl]) (fun X hD hX => ?_)
  have hX : jd_C X RX9 "readPost" cX9_readPost 3 (some .boolean) := hX
  unfold m_X9_readPost
  refine jr_ald1 (pc := 0) hX dX9_readPost_0 ?_
  refine jr_ck0 (fun a1 e1 h1 => ?_)
  refine jr_geti (pc := 1) hX fX9_168 rfl dX9_readPost_1 h1 ?_
  refine jr_ist2 (pc := 4) hX (jn_r _ _) dX9_readPost_4 ?_
  refine jr_li ?_
  refine jr_ild2 (pc := 5) hX dX9_readPost_5 ?_
  refine jr_iconst (pc := 6) hX 5 rfl dX9_readPost_6 ?_
  refine jr_iclt (pc := 7) hX 16 dX9_readPost_7 (by decide) ?_ ?_
  · refine jr_ald0 (pc := 16) hX dX9_readPost_16 ?_
    refine jr_iconst (pc := 17) hX 0 rfl dX9_readPost_17 ?_
    refine jr_ild2 (pc := 18) hX dX9_readPost_18 ?_
    refine jr_cV2i (pc := 19) hX lX9_144 (c_X9_newName hX.F σ t ht _ _) (jd_dd hD rfl) (Nat.le_of_ble_eq_true rfl) dX9_readPost_19 ht (fun r3 σ3 p3 => ?_)
    refine jr_ifne (pc := 22) hX 27 dX9_readPost_22 (by decide) ?_ ?_
    · refine jr_ald0 (pc := 27) hX dX9_readPost_27 ?_
      refine jr_ldcS (pc := 28) hX sX9_155 dX9_readPost_28 ?_
      refine jr_iconst (pc := 30) hX 0 rfl dX9_readPost_30 ?_
      refine jr_bipush (pc := 31) hX 99 rfl dX9_readPost_31 ?_
      refine jr_cV3i (pc := 33) hX lX9_130 (c_X9_labelled hX.F σ3 t (p3.at ht :) _ _ _) (jd_dd hD rfl) (Nat.le_of_ble_eq_true rfl) dX9_readPost_33 (p3.at ht :) (fun r4 σ4 p4 => ?_)
      refine jr_ifne (pc := 36) hX 41 dX9_readPost_36 (by decide) ?_ ?_
      · refine jr_ald1 (pc := 41) hX dX9_readPost_41 ?_
        refine jr_ek0 e1 ?_
        refine jr_getr (pc := 42) hX fX9_171 rfl dX9_readPost_42 (p4.at (p3.at h1 :) :) ?_
        refine jr_ild2 (pc := 45) hX dX9_readPost_45 ?_
        refine jr_ald0 (pc := 46) hX dX9_readPost_46 ?_
        refine jr_geti (pc := 47) hX fX9_44 rfl dX9_readPost_47 (p4.at (p3.at ht :) :) ?_
        refine jr_iaS (pc := 50) hX dX9_readPost_50 (fun a5 n5 e5 h5 => ?_)
        refine jr_li ?_
        refine jr_ald0 (pc := 51) hX dX9_readPost_51 ?_
        refine jr_ldcS (pc := 52) hX sX9_174 dX9_readPost_52 ?_
        refine jr_iconst (pc := 54) hX 1 rfl dX9_readPost_54 ?_
        refine jr_bipush (pc := 55) hX 40 rfl dX9_readPost_55 ?_
        refine jr_cV3i (pc := 57) hX lX9_130 (c_X9_labelled hX.F (jd_pi σ4 a5 (σ.2.1 a1 12).toNatClampNeg (σ4.2.1 t 11)) t (p4.at (p3.at ht :) :) _ _ _) (jd_dd hD rfl) (Nat.le_of_ble_eq_true rfl) dX9_readPost_57 (p4.at (p3.at ht :) :) (fun r7 σ7 p7 => ?_)
        refine jr_ifne (pc := 60) hX 65 dX9_readPost_60 (by decide) ?_ ?_
        · refine jr_ald1 (pc := 65) hX dX9_readPost_65 ?_
          refine jr_ek0 e1 ?_
          refine jr_getr (pc := 66) hX fX9_176 rfl dX9_readPost_66 (p7.at (p4.at (p3.at h1 :) :) :) ?_
          refine jr_ild2 (pc := 69) hX dX9_readPost_69 ?_
          refine jr_ald0 (pc := 70) hX dX9_readPost_70 ?_
          refine jr_geti (pc := 71) hX fX9_44 rfl dX9_readPost_71 (p7.at (p4.at (p3.at ht :) :) :) ?_
          refine jr_iaS (pc := 74) hX dX9_readPost_74 (fun a8 n8 e8 h8 => ?_)
          refine jr_li ?_
          refine jr_ald1 (pc := 75) hX dX9_readPost_75 ?_
          refine jr_dup (pc := 76) hX (jd_v_cat _ _) dX9_readPost_76 ?_
          refine jr_ek0 e1 ?_
          refine jr_geti (pc := 77) hX fX9_168 rfl dX9_readPost_77 (p7.at (p4.at (p3.at h1 :) :) :) ?_
          refine jr_iconst (pc := 80) hX 1 rfl dX9_readPost_80 ?_
          refine jr_iadd (pc := 81) hX dX9_readPost_81 ?_
          refine jr_ek1 e1 ?_
          refine jr_puti (pc := 82) hX fX9_168 rfl dX9_readPost_82 (p7.at (p4.at (p3.at h1 :) :) :) ?_
          refine jr_li ?_
          refine jr_iconst (pc := 85) hX 1 rfl dX9_readPost_85 ?_
          exact jr_zret (pc := 86) hX dX9_readPost_86 (Or.inr rfl) rfl
        · refine jr_iconst (pc := 63) hX 0 rfl dX9_readPost_63 ?_
          exact jr_zret (pc := 64) hX dX9_readPost_64 (Or.inl rfl) rfl
      · refine jr_iconst (pc := 39) hX 0 rfl dX9_readPost_39 ?_
        exact jr_zret (pc := 40) hX dX9_readPost_40 (Or.inl rfl) rfl
    · refine jr_iconst (pc := 25) hX 0 rfl dX9_readPost_25 ?_
      exact jr_zret (pc := 26) hX dX9_readPost_26 (Or.inl rfl) rfl
  · refine jr_ald0 (pc := 10) hX dX9_readPost_10 ?_
    refine jr_iconst (pc := 11) hX 5 rfl dX9_readPost_11 ?_
    refine jr_cV1i (pc := 12) hX lX9_85 (c_X9_fail hX.F σ t ht _) (jd_dd hD rfl) (Nat.le_of_ble_eq_true rfl) dX9_readPost_12 ht (fun r11 σ11 p11 => ?_)
    exact jr_bret (pc := 15) hX dX9_readPost_15 rfl
def m_X9_toldName (t : Nat) (x0p : Int32) (σ : jd_Hp) : Option (Int32 × jd_Hp) :=
jd_b (m_X9_advance t σ) fun r1 σ1 =>
jd_if (¬ (σ1.2.1 t 8) = 1) (
jd_b (m_X9_fail t 1 σ1) fun r2 σ2 =>
some ((r2 &&& 1), σ2)) (
jd_b (m_X9_isLineWord t σ1) fun r3 σ3 =>
jd_if (r3 = 0) (
jd_b (m_X9_nameIndex t σ3) fun r4 σ4 =>
jd_if (r4 = (-1)) (
jd_b (m_X9_fail t 2 σ4) fun r5 σ5 =>
some ((r5 &&& 1), σ5)) (
jd_ia σ4 22 (σ4.2.2.2 t 4) r4 fun a6 j6 =>
jd_if ((σ4.2.1 a6 j6) = x0p) (
jd_ia σ4 20 (σ4.2.2.2 t 3) r4 fun a7 j7 =>
jd_li (jd_pi σ4 t 12 (σ4.2.1 a7 j7)) fun τ8 =>
some (1, τ8)) (
jd_b (m_X9_fail t 2 σ4) fun r9 σ9 =>
some ((r9 &&& 1), σ9)))) (
jd_b (m_X9_fail t 1 σ3) fun r10 σ10 =>
some ((r10 &&& 1), σ10)))
set_option maxHeartbeats 4000000 in
set_option maxRecDepth 20000 in
theorem c_X9_toldName {l : Launch} {s0 : State} {G : jd_G} (hF : jd_F s0 G) (σ : jd_Hp) (t : Nat) (ht : σ.1[t]? = some (9, 16)) (x0p : Int32) : jd_M l s0 G yX9_toldName cX9_toldName 3 (some .boolean) 9 je_i [jd_v G (some t), .int x0p] σ (m_X9_toldName t x0p σ) := by
  refine jd_enter hF (by decide) (fun G => [some (jd_v G (some t)), some (.int x0p), none]) rfl (by simp [lv_args, jd_al, jd_v_cat, jd_cti, jd_ctl]) (by simp [lg_sl, jd_v_cat, jd_cti, jd_ctl]) (fun X hD hX => ?_)
  have hX : jd_C X RX9 "toldName" cX9_toldName 3 (some .boolean) := hX
  unfold m_X9_toldName
  refine jr_ald0 (pc := 0) hX dX9_toldName_0 ?_
  refine jr_cV0v (pc := 1) hX lX9_79 (c_X9_advance hX.F σ t ht) (jd_dd hD rfl) (Nat.le_of_ble_eq_true rfl) dX9_toldName_1 ht (fun r1 σ1 p1 => ?_)
  refine jr_ald0 (pc := 4) hX dX9_toldName_4 ?_
  refine jr_geti (pc := 5) hX fX9_35 rfl dX9_toldName_5 (p1.at ht :) ?_
  refine jr_iconst (pc := 8) hX 1 rfl dX9_toldName_8 ?_
  refine jr_icne (pc := 9) hX 19 dX9_toldName_9 (by decide) ?_ ?_
  · refine jr_ald0 (pc := 19) hX dX9_toldName_19 ?_
    refine jr_iconst (pc := 20) hX 1 rfl dX9_toldName_20 ?_
    refine jr_cV1i (pc := 21) hX lX9_85 (c_X9_fail hX.F σ1 t (p1.at ht :) _) (jd_dd hD rfl) (Nat.le_of_ble_eq_true rfl) dX9_toldName_21 (p1.at ht :) (fun r2 σ2 p2 => ?_)
    exact jr_bret (pc := 24) hX dX9_toldName_24 rfl
  · refine jr_ald0 (pc := 12) hX dX9_toldName_12 ?_
    refine jr_cV0i (pc := 13) hX lX9_89 (c_X9_isLineWord hX.F σ1 t (p1.at ht :)) (jd_dd hD rfl) (Nat.le_of_ble_eq_true rfl) dX9_toldName_13 (p1.at ht :) (fun r3 σ3 p3 => ?_)
    refine jr_ifeq (pc := 16) hX 25 dX9_toldName_16 (by decide) ?_ ?_
    · refine jr_ald0 (pc := 25) hX dX9_toldName_25 ?_
      refine jr_cV0i (pc := 26) hX lX9_203 (c_X9_nameIndex hX.F σ3 t (p3.at (p1.at ht :) :)) (jd_dd hD rfl) (Nat.le_of_ble_eq_true rfl) dX9_toldName_26 (p3.at (p1.at ht :) :) (fun r4 σ4 p4 => ?_)
      refine jr_ist2 (pc := 29) hX (jn_i _) dX9_toldName_29 ?_
      refine jr_ild2 (pc := 30) hX dX9_toldName_30 ?_
      refine jr_iconst (pc := 31) hX (-1) rfl dX9_toldName_31 ?_
      refine jr_iceq (pc := 32) hX 45 dX9_toldName_32 (by decide) ?_ ?_
      · refine jr_ald0 (pc := 45) hX dX9_toldName_45 ?_
        refine jr_iconst (pc := 46) hX 2 rfl dX9_toldName_46 ?_
        refine jr_cV1i (pc := 47) hX lX9_85 (c_X9_fail hX.F σ4 t (p4.at (p3.at (p1.at ht :) :) :) _) (jd_dd hD rfl) (Nat.le_of_ble_eq_true rfl) dX9_toldName_47 (p4.at (p3.at (p1.at ht :) :) :) (fun r5 σ5 p5 => ?_)
        exact jr_bret (pc := 50) hX dX9_toldName_50 rfl
      · refine jr_ald0 (pc := 35) hX dX9_toldName_35 ?_
        refine jr_getr (pc := 36) hX fX9_21 rfl dX9_toldName_36 (p4.at (p3.at (p1.at ht :) :) :) ?_
        refine jr_ild2 (pc := 39) hX dX9_toldName_39 ?_
        refine jr_zaC (pc := 40) hX dX9_toldName_40 (fun a6 n6 e6 h6 => ?_)
        refine jr_ild1 (pc := 41) hX dX9_toldName_41 ?_
        refine jr_iceq (pc := 42) hX 51 dX9_toldName_42 (by decide) ?_ ?_
        · refine jr_ald0 (pc := 51) hX dX9_toldName_51 ?_
          refine jr_ald0 (pc := 52) hX dX9_toldName_52 ?_
          refine jr_getr (pc := 53) hX fX9_18 rfl dX9_toldName_53 (p4.at (p3.at (p1.at ht :) :) :) ?_
          refine jr_ild2 (pc := 56) hX dX9_toldName_56 ?_
          refine jr_iaC (pc := 57) hX dX9_toldName_57 (fun a7 n7 e7 h7 => ?_)
          refine jr_puti (pc := 58) hX fX9_47 rfl dX9_toldName_58 (p4.at (p3.at (p1.at ht :) :) :) ?_
          refine jr_li ?_
          refine jr_iconst (pc := 61) hX 1 rfl dX9_toldName_61 ?_
          exact jr_zret (pc := 62) hX dX9_toldName_62 (Or.inr rfl) rfl
        · refine jr_ald0 (pc := 45) hX dX9_toldName_45 ?_
          refine jr_iconst (pc := 46) hX 2 rfl dX9_toldName_46 ?_
          refine jr_cV1i (pc := 47) hX lX9_85 (c_X9_fail hX.F σ4 t (p4.at (p3.at (p1.at ht :) :) :) _) (jd_dd hD rfl) (Nat.le_of_ble_eq_true rfl) dX9_toldName_47 (p4.at (p3.at (p1.at ht :) :) :) (fun r9 σ9 p9 => ?_)
          exact jr_bret (pc := 50) hX dX9_toldName_50 rfl
    · refine jr_ald0 (pc := 19) hX dX9_toldName_19 ?_
      refine jr_iconst (pc := 20) hX 1 rfl dX9_toldName_20 ?_
      refine jr_cV1i (pc := 21) hX lX9_85 (c_X9_fail hX.F σ3 t (p3.at (p1.at ht :) :) _) (jd_dd hD rfl) (Nat.le_of_ble_eq_true rfl) dX9_toldName_21 (p3.at (p1.at ht :) :) (fun r10 σ10 p10 => ?_)
      exact jr_bret (pc := 24) hX dX9_toldName_24 rfl
def m_X9_readManned (t : Nat) (o0p : (Option Nat)) (σ : jd_Hp) : Option (Int32 × jd_Hp) :=
jd_b (m_X9_toldName t 0 σ) fun r1 σ1 =>
jd_if (¬ r1 = 0) (
jd_o σ1 (10, 16) o0p fun a2 =>
jd_b (m_X11_has (σ1.2.1 a2 13) (σ1.2.1 t 12) σ1) fun r3 σ3 =>
jd_if (r3 = 0) (
jd_li (jd_pi σ3 a2 13 ((σ3.2.1 a2 13) ||| (1 <<< ((σ3.2.1 t 12) &&& 31)))) fun τ4 =>
some (1, τ4)) (
jd_b (m_X9_fail t 3 σ3) fun r5 σ5 =>
some ((r5 &&& 1), σ5))) (
some (0, σ1))
set_option maxHeartbeats 4000000 in
set_option maxRecDepth 20000 in
theorem c_X9_readManned {l : Launch} {s0 : State} {G : jd_G} (hF : jd_F s0 G) (σ : jd_Hp) (t : Nat) (ht : σ.1[t]? = some (9, 16)) (o0p : (Option Nat)) : jd_M l s0 G yX9_readManned cX9_readManned 2 (some .boolean) 10 je_i [jd_v G (some t), jd_v G o0p] σ (m_X9_readManned t o0p σ) := by
  refine jd_enter hF (by decide) (fun G => [some (jd_v G (some t)), some (jd_v G o0p)]) rfl (by simp [lv_args, jd_al, jd_v_cat, jd_cti, jd_ctl]) (by simp [lg_sl, jd_v_cat, jd_cti, jd_ctl]) (fun X hD hX => ?_)
  have hX : jd_C X RX9 "readManned" cX9_readManned 2 (some .boolean) := hX
  unfold m_X9_readManned
  refine jr_ald0 (pc := 0) hX dX9_readManned_0 ?_
  refine jr_iconst (pc := 1) hX 0 rfl dX9_readManned_1 ?_
  refine jr_cV1i (pc := 2) hX lX9_179 (c_X9_toldName hX.F σ t ht _) (jd_dd hD rfl) (Nat.le_of_ble_eq_true rfl) dX9_readManned_2 ht (fun r1 σ1 p1 => ?_)
  refine jr_ifne (pc := 5) hX 10 dX9_readManned_5 (by decide) ?_ ?_
  · refine jr_ald1 (pc := 10) hX dX9_readManned_10 ?_
    refine jr_ck0 (fun a2 e2 h2 => ?_)
    refine jr_geti (pc := 11) hX fX9_183 rfl dX9_readManned_11 h2 ?_
    refine jr_ald0 (pc := 14) hX dX9_readManned_14 ?_
    refine jr_geti (pc := 15) hX fX9_47 rfl dX9_readManned_15 (p1.at ht :) ?_
    refine jr_cS2i (pc := 18) hX lX9_185 (c_X11_has hX.F σ1 _ _) (jd_dd hD rfl) (Nat.le_of_ble_eq_true rfl) dX9_readManned_18 (fun r3 σ3 p3 => ?_)
    refine jr_ifeq (pc := 21) hX 30 dX9_readManned_21 (by decide) ?_ ?_
    · refine jr_ald1 (pc := 30) hX dX9_readManned_30 ?_
      refine jr_dup (pc := 31) hX (jd_v_cat _ _) dX9_readManned_31 ?_
      refine jr_ek0 e2 ?_
      refine jr_geti (pc := 32) hX fX9_183 rfl dX9_readManned_32 (p3.at h2 :) ?_
      refine jr_iconst (pc := 35) hX 1 rfl dX9_readManned_35 ?_
      refine jr_ald0 (pc := 36) hX dX9_readManned_36 ?_
      refine jr_geti (pc := 37) hX fX9_47 rfl dX9_readManned_37 (p3.at (p1.at ht :) :) ?_
      refine jr_ishl (pc := 40) hX dX9_readManned_40 ?_
      refine jr_ior (pc := 41) hX dX9_readManned_41 ?_
      refine jr_ek1 e2 ?_
      refine jr_puti (pc := 42) hX fX9_183 rfl dX9_readManned_42 (p3.at h2 :) ?_
      refine jr_li ?_
      refine jr_iconst (pc := 45) hX 1 rfl dX9_readManned_45 ?_
      exact jr_zret (pc := 46) hX dX9_readManned_46 (Or.inr rfl) rfl
    · refine jr_ald0 (pc := 24) hX dX9_readManned_24 ?_
      refine jr_iconst (pc := 25) hX 3 rfl dX9_readManned_25 ?_
      refine jr_cV1i (pc := 26) hX lX9_85 (c_X9_fail hX.F σ3 t (p3.at (p1.at ht :) :) _) (jd_dd hD rfl) (Nat.le_of_ble_eq_true rfl) dX9_readManned_26 (p3.at (p1.at ht :) :) (fun r5 σ5 p5 => ?_)
      exact jr_bret (pc := 29) hX dX9_readManned_29 rfl
  · refine jr_iconst (pc := 8) hX 0 rfl dX9_readManned_8 ?_
    exact jr_zret (pc := 9) hX dX9_readManned_9 (Or.inl rfl) rfl
def m_X9_readKnows (t : Nat) (o0p : (Option Nat)) (σ : jd_Hp) : Option (Int32 × jd_Hp) :=
jd_o σ (10, 16) o0p fun a1 =>
jd_if ((σ.2.1 a1 14) < 9) (
jd_b (m_X9_toldName t 1 σ) fun r2 σ2 =>
jd_if (¬ r2 = 0) (
jd_li (σ2.2.1 t 12) fun x3 =>
jd_b (m_X9_toldName t 1 σ2) fun r4 σ4 =>
jd_if (¬ r4 = 0) (
jd_if ((σ4.2.1 t 12) = x3) (
jd_b (m_X9_fail t 3 σ4) fun r5 σ5 =>
some ((r5 &&& 1), σ5)) (
jd_ia σ4 20 (σ4.2.2.2 a1 4) x3 fun a6 j6 =>
jd_b (m_X11_has (σ4.2.1 a6 j6) (σ4.2.1 t 12) σ4) fun r7 σ7 =>
jd_if (r7 = 0) (
jd_ia σ7 20 (σ7.2.2.2 a1 4) x3 fun a8 j8 =>
jd_ia σ7 20 (σ7.2.2.2 a1 4) x3 fun a9 j9 =>
jd_li (jd_pi σ7 a9 j9 ((σ7.2.1 a8 j8) ||| (1 <<< ((σ7.2.1 t 12) &&& 31)))) fun τ10 =>
jd_li (jd_pi τ10 a1 14 ((τ10.2.1 a1 14) + 1)) fun τ11 =>
some (1, τ11)) (
jd_b (m_X9_fail t 3 σ7) fun r12 σ12 =>
some ((r12 &&& 1), σ12)))) (
some (0, σ4))) (
some (0, σ2))) (
jd_b (m_X9_fail t 5 σ) fun r13 σ13 =>
some ((r13 &&& 1), σ13))
set_option maxHeartbeats 4000000 in
set_option maxRecDepth 20000 in
theorem c_X9_readKnows {l : Launch} {s0 : State} {G : jd_G} (hF : jd_F s0 G) (σ : jd_Hp) (t : Nat) (ht : σ.1[t]? = some (9, 16)) (o0p : (Option Nat)) : jd_M l s0 G yX9_readKnows cX9_readKnows 3 (some .boolean) 10 je_i [jd_v G (some t), jd_v G o0p] σ (m_X9_readKnows t o0p σ) := by
  refine jd_enter hF (by decide) (fun G => [some (jd_v G (some t)), some (jd_v G o0p), none]) rfl (by simp [lv_args, jd_al, jd_v_cat, jd_cti, jd_ctl]) (by simp [lg_sl, jd_v_cat, jd_cti, jd_ctl]) (fun X hD hX => ?_)
  have hX : jd_C X RX9 "readKnows" cX9_readKnows 3 (some .boolean) := hX
  unfold m_X9_readKnows
  refine jr_ald1 (pc := 0) hX dX9_readKnows_0 ?_
  refine jr_ck0 (fun a1 e1 h1 => ?_)
  refine jr_geti (pc := 1) hX fX9_189 rfl dX9_readKnows_1 h1 ?_
  refine jr_bipush (pc := 4) hX 9 rfl dX9_readKnows_4 ?_
  refine jr_iclt (pc := 6) hX 15 dX9_readKnows_6 (by decide) ?_ ?_
  · refine jr_ald0 (pc := 15) hX dX9_readKnows_15 ?_
    refine jr_iconst (pc := 16) hX 1 rfl dX9_readKnows_16 ?_
    refine jr_cV1i (pc := 17) hX lX9_179 (c_X9_toldName hX.F σ t ht _) (jd_dd hD rfl) (Nat.le_of_ble_eq_true rfl) dX9_readKnows_17 ht (fun r2 σ2 p2 => ?_)
    refine jr_ifne (pc := 20) hX 25 dX9_readKnows_20 (by decide) ?_ ?_
    · refine jr_ald0 (pc := 25) hX dX9_readKnows_25 ?_
      refine jr_geti (pc := 26) hX fX9_47 rfl dX9_readKnows_26 (p2.at ht :) ?_
      refine jr_ist2 (pc := 29) hX (jn_r _ _) dX9_readKnows_29 ?_
      refine jr_li ?_
      refine jr_ald0 (pc := 30) hX dX9_readKnows_30 ?_
      refine jr_iconst (pc := 31) hX 1 rfl dX9_readKnows_31 ?_
      refine jr_cV1i (pc := 32) hX lX9_179 (c_X9_toldName hX.F σ2 t (p2.at ht :) _) (jd_dd hD rfl) (Nat.le_of_ble_eq_true rfl) dX9_readKnows_32 (p2.at ht :) (fun r4 σ4 p4 => ?_)
      refine jr_ifne (pc := 35) hX 40 dX9_readKnows_35 (by decide) ?_ ?_
      · refine jr_ald0 (pc := 40) hX dX9_readKnows_40 ?_
        refine jr_geti (pc := 41) hX fX9_47 rfl dX9_readKnows_41 (p4.at (p2.at ht :) :) ?_
        refine jr_ild2 (pc := 44) hX dX9_readKnows_44 ?_
        refine jr_iceq (pc := 45) hX 64 dX9_readKnows_45 (by decide) ?_ ?_
        · refine jr_ald0 (pc := 64) hX dX9_readKnows_64 ?_
          refine jr_iconst (pc := 65) hX 3 rfl dX9_readKnows_65 ?_
          refine jr_cV1i (pc := 66) hX lX9_85 (c_X9_fail hX.F σ4 t (p4.at (p2.at ht :) :) _) (jd_dd hD rfl) (Nat.le_of_ble_eq_true rfl) dX9_readKnows_66 (p4.at (p2.at ht :) :) (fun r5 σ5 p5 => ?_)
          exact jr_bret (pc := 69) hX dX9_readKnows_69 rfl
        · refine jr_ald1 (pc := 48) hX dX9_readKnows_48 ?_
          refine jr_ek0 e1 ?_
          refine jr_getr (pc := 49) hX fX9_192 rfl dX9_readKnows_49 (p4.at (p2.at h1 :) :) ?_
          refine jr_ild2 (pc := 52) hX dX9_readKnows_52 ?_
          refine jr_iaC (pc := 53) hX dX9_readKnows_53 (fun a6 n6 e6 h6 => ?_)
          refine jr_ald0 (pc := 54) hX dX9_readKnows_54 ?_
          refine jr_geti (pc := 55) hX fX9_47 rfl dX9_readKnows_55 (p4.at (p2.at ht :) :) ?_
          refine jr_cS2i (pc := 58) hX lX9_185 (c_X11_has hX.F σ4 _ _) (jd_dd hD rfl) (Nat.le_of_ble_eq_true rfl) dX9_readKnows_58 (fun r7 σ7 p7 => ?_)
          refine jr_ifeq (pc := 61) hX 70 dX9_readKnows_61 (by decide) ?_ ?_
          · refine jr_ald1 (pc := 70) hX dX9_readKnows_70 ?_
            refine jr_ek0 e1 ?_
            refine jr_getr (pc := 71) hX fX9_192 rfl dX9_readKnows_71 (p7.at (p4.at (p2.at h1 :) :) :) ?_
            refine jr_ild2 (pc := 74) hX dX9_readKnows_74 ?_
            refine jr_dup2 (pc := 75) hX rfl (jd_v_cat _ _) dX9_readKnows_75 ?_
            refine jr_iaC (pc := 76) hX dX9_readKnows_76 (fun a8 n8 e8 h8 => ?_)
            refine jr_iconst (pc := 77) hX 1 rfl dX9_readKnows_77 ?_
            refine jr_ald0 (pc := 78) hX dX9_readKnows_78 ?_
            refine jr_geti (pc := 79) hX fX9_47 rfl dX9_readKnows_79 (p7.at (p4.at (p2.at ht :) :) :) ?_
            refine jr_ishl (pc := 82) hX dX9_readKnows_82 ?_
            refine jr_ior (pc := 83) hX dX9_readKnows_83 ?_
            refine jr_iaS (pc := 84) hX dX9_readKnows_84 (fun a9 n9 e9 h9 => ?_)
            refine jr_li ?_
            refine jr_ald1 (pc := 85) hX dX9_readKnows_85 ?_
            refine jr_dup (pc := 86) hX (jd_v_cat _ _) dX9_readKnows_86 ?_
            refine jr_ek0 e1 ?_
            refine jr_geti (pc := 87) hX fX9_189 rfl dX9_readKnows_87 (p7.at (p4.at (p2.at h1 :) :) :) ?_
            refine jr_iconst (pc := 90) hX 1 rfl dX9_readKnows_90 ?_
            refine jr_iadd (pc := 91) hX dX9_readKnows_91 ?_
            refine jr_ek1 e1 ?_
            refine jr_puti (pc := 92) hX fX9_189 rfl dX9_readKnows_92 (p7.at (p4.at (p2.at h1 :) :) :) ?_
            refine jr_li ?_
            refine jr_iconst (pc := 95) hX 1 rfl dX9_readKnows_95 ?_
            exact jr_zret (pc := 96) hX dX9_readKnows_96 (Or.inr rfl) rfl
          · refine jr_ald0 (pc := 64) hX dX9_readKnows_64 ?_
            refine jr_iconst (pc := 65) hX 3 rfl dX9_readKnows_65 ?_
            refine jr_cV1i (pc := 66) hX lX9_85 (c_X9_fail hX.F σ7 t (p7.at (p4.at (p2.at ht :) :) :) _) (jd_dd hD rfl) (Nat.le_of_ble_eq_true rfl) dX9_readKnows_66 (p7.at (p4.at (p2.at ht :) :) :) (fun r12 σ12 p12 => ?_)
            exact jr_bret (pc := 69) hX dX9_readKnows_69 rfl
      · refine jr_iconst (pc := 38) hX 0 rfl dX9_readKnows_38 ?_
        exact jr_zret (pc := 39) hX dX9_readKnows_39 (Or.inl rfl) rfl
    · refine jr_iconst (pc := 23) hX 0 rfl dX9_readKnows_23 ?_
      exact jr_zret (pc := 24) hX dX9_readKnows_24 (Or.inl rfl) rfl
  · refine jr_ald0 (pc := 9) hX dX9_readKnows_9 ?_
    refine jr_iconst (pc := 10) hX 5 rfl dX9_readKnows_10 ?_
    refine jr_cV1i (pc := 11) hX lX9_85 (c_X9_fail hX.F σ t ht _) (jd_dd hD rfl) (Nat.le_of_ble_eq_true rfl) dX9_readKnows_11 ht (fun r13 σ13 p13 => ?_)
    exact jr_bret (pc := 14) hX dX9_readKnows_14 rfl
def m_X9_readSign (t : Nat) (o0p : (Option Nat)) (x1p : Int32) (σ : jd_Hp) : Option (Int32 × jd_Hp) :=
jd_b (m_X9_toldName t 1 σ) fun r1 σ1 =>
jd_if (¬ r1 = 0) (
jd_o σ1 (10, 16) o0p fun a2 =>
jd_ia σ1 20 (σ1.2.2.2 a2 5) (σ1.2.1 t 12) fun a3 j3 =>
jd_if ((σ1.2.1 a3 j3) = 0) (
jd_ia σ1 20 (σ1.2.2.2 a2 5) (σ1.2.1 t 12) fun a4 j4 =>
jd_li (jd_pi σ1 a4 j4 x1p) fun τ5 =>
jd_li (jd_pi τ5 a2 15 ((τ5.2.1 a2 15) + 1)) fun τ6 =>
some (1, τ6)) (
jd_b (m_X9_fail t 3 σ1) fun r7 σ7 =>
some ((r7 &&& 1), σ7))) (
some (0, σ1))
set_option maxHeartbeats 4000000 in
set_option maxRecDepth 20000 in
theorem c_X9_readSign {l : Launch} {s0 : State} {G : jd_G} (hF : jd_F s0 G) (σ : jd_Hp) (t : Nat) (ht : σ.1[t]? = some (9, 16)) (o0p : (Option Nat)) (x1p : Int32) : jd_M l s0 G yX9_readSign cX9_readSign 3 (some .boolean) 10 je_i [jd_v G (some t), jd_v G o0p, .int x1p] σ (m_X9_readSign t o0p x1p σ) := by
  refine jd_enter hF (by decide) (fun G => [some (jd_v G (some t)), some (jd_v G o0p), some (.int x1p)]) rfl (by simp [lv_args, jd_al, jd_v_cat, jd_cti, jd_ctl]) (by simp [lg_sl, jd_v_cat, jd_cti, jd_ctl]) (fun X hD hX => ?_)
  have hX : jd_C X RX9 "readSign" cX9_readSign 3 (some .boolean) := hX
  unfold m_X9_readSign
  refine jr_ald0 (pc := 0) hX dX9_readSign_0 ?_
  refine jr_iconst (pc := 1) hX 1 rfl dX9_readSign_1 ?_
  refine jr_cV1i (pc := 2) hX lX9_179 (c_X9_toldName hX.F σ t ht _) (jd_dd hD rfl) (Nat.le_of_ble_eq_true rfl) dX9_readSign_2 ht (fun r1 σ1 p1 => ?_)
  refine jr_ifne (pc := 5) hX 10 dX9_readSign_5 (by decide) ?_ ?_
  · refine jr_ald1 (pc := 10) hX dX9_readSign_10 ?_
    refine jr_ck0 (fun a2 e2 h2 => ?_)
    refine jr_getr (pc := 11) hX fX9_194 rfl dX9_readSign_11 h2 ?_
    refine jr_ald0 (pc := 14) hX dX9_readSign_14 ?_
    refine jr_geti (pc := 15) hX fX9_47 rfl dX9_readSign_15 (p1.at ht :) ?_
    refine jr_iaC (pc := 18) hX dX9_readSign_18 (fun a3 n3 e3 h3 => ?_)
    refine jr_ifeq (pc := 19) hX 28 dX9_readSign_19 (by decide) ?_ ?_
    · refine jr_ald1 (pc := 28) hX dX9_readSign_28 ?_
      refine jr_ek0 e2 ?_
      refine jr_getr (pc := 29) hX fX9_194 rfl dX9_readSign_29 h2 ?_
      refine jr_ald0 (pc := 32) hX dX9_readSign_32 ?_
      refine jr_geti (pc := 33) hX fX9_47 rfl dX9_readSign_33 (p1.at ht :) ?_
      refine jr_ild2 (pc := 36) hX dX9_readSign_36 ?_
      refine jr_iaS (pc := 37) hX dX9_readSign_37 (fun a4 n4 e4 h4 => ?_)
      refine jr_li ?_
      refine jr_ald1 (pc := 38) hX dX9_readSign_38 ?_
      refine jr_dup (pc := 39) hX (jd_v_cat _ _) dX9_readSign_39 ?_
      refine jr_ek0 e2 ?_
      refine jr_geti (pc := 40) hX fX9_197 rfl dX9_readSign_40 h2 ?_
      refine jr_iconst (pc := 43) hX 1 rfl dX9_readSign_43 ?_
      refine jr_iadd (pc := 44) hX dX9_readSign_44 ?_
      refine jr_ek1 e2 ?_
      refine jr_puti (pc := 45) hX fX9_197 rfl dX9_readSign_45 h2 ?_
      refine jr_li ?_
      refine jr_iconst (pc := 48) hX 1 rfl dX9_readSign_48 ?_
      exact jr_zret (pc := 49) hX dX9_readSign_49 (Or.inr rfl) rfl
    · refine jr_ald0 (pc := 22) hX dX9_readSign_22 ?_
      refine jr_iconst (pc := 23) hX 3 rfl dX9_readSign_23 ?_
      refine jr_cV1i (pc := 24) hX lX9_85 (c_X9_fail hX.F σ1 t (p1.at ht :) _) (jd_dd hD rfl) (Nat.le_of_ble_eq_true rfl) dX9_readSign_24 (p1.at ht :) (fun r7 σ7 p7 => ?_)
      exact jr_bret (pc := 27) hX dX9_readSign_27 rfl
  · refine jr_iconst (pc := 8) hX 0 rfl dX9_readSign_8 ?_
    exact jr_zret (pc := 9) hX dX9_readSign_9 (Or.inl rfl) rfl
