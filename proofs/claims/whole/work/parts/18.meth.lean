theorem qX9_isLetter : Cond.static yX9_isLetter ∈ jd_TB ∧ Cond.initialized yX9_isLetter.cls ∈ jd_TB ∧ Cond.code yX9_isLetter cX9_isLetter 1 (some .boolean) ∈ jd_TB ∧ jd_ds yX9_isLetter 1 := ⟨jd_mem 562 (by decide +kernel) (by decide +kernel), jd_mem 94 (by decide +kernel) (by decide +kernel), jd_mem 563 (by decide +kernel) (by decide +kernel), ⟨by decide, by decide, by decide +kernel⟩⟩
theorem lX9_228 : jd_st RX9 228 yX9_isLetter cX9_isLetter 1 (some .boolean) 1 := ⟨Or.inl (jd_mem 561 (by decide +kernel) (by decide +kernel)), qX9_isLetter.1, qX9_isLetter.2.1, qX9_isLetter.2.2.1, qX9_isLetter.2.2.2, by decide⟩
theorem qX9_isDigit : Cond.static yX9_isDigit ∈ jd_TB ∧ Cond.initialized yX9_isDigit.cls ∈ jd_TB ∧ Cond.code yX9_isDigit cX9_isDigit 1 (some .boolean) ∈ jd_TB ∧ jd_ds yX9_isDigit 1 := ⟨jd_mem 565 (by decide +kernel) (by decide +kernel), jd_mem 94 (by decide +kernel) (by decide +kernel), jd_mem 566 (by decide +kernel) (by decide +kernel), ⟨by decide, by decide, by decide +kernel⟩⟩
theorem lX9_231 : jd_st RX9 231 yX9_isDigit cX9_isDigit 1 (some .boolean) 1 := ⟨Or.inl (jd_mem 564 (by decide +kernel) (by decide +kernel)), qX9_isDigit.1, qX9_isDigit.2.1, qX9_isDigit.2.2.1, qX9_isDigit.2.2.2, by decide⟩
theorem qX9_isSameText : Cond.instanceMethod yX9_isSameText ∈ jd_TB ∧ Cond.selects RX9 yX9_isSameText yX9_isSameText ∈ jd_TB ∧ Cond.initialized RX9 ∈ jd_TB ∧ Cond.code yX9_isSameText cX9_isSameText 3 (some .boolean) ∈ jd_TB ∧ jd_ds yX9_isSameText 1 := ⟨jd_mem 663 (by decide +kernel) (by decide +kernel), jd_mem 12 (by decide +kernel) (by decide +kernel), jd_mem 94 (by decide +kernel) (by decide +kernel), jd_mem 664 (by decide +kernel) (by decide +kernel), ⟨by decide, by decide, by decide +kernel⟩⟩
theorem lX9_206 : jd_mv RX9 206 9 16 yX9_isSameText cX9_isSameText 3 (some .boolean) 1 := ⟨_, _, rfl, by decide, rfl, Or.inl (jd_mem 661 (by decide +kernel) (by decide +kernel)), qX9_isSameText.1, qX9_isSameText.2.1, qX9_isSameText.2.2.1, qX9_isSameText.2.2.2.1, qX9_isSameText.2.2.2.2, by decide⟩
theorem lX10_61 : jd_st RX10 61 yJ6_bitCount_0f7a4 cJ6_bitCount_0f7a4 1 (some .int) 1 := ⟨Or.inl (jd_mem 1039 (by decide +kernel) (by decide +kernel)), qJ6_bitCount_0f7a4.1, qJ6_bitCount_0f7a4.2.1, qJ6_bitCount_0f7a4.2.2.1, qJ6_bitCount_0f7a4.2.2.2, by decide⟩
theorem lX10_76 : jd_st RX10 76 yX11_has cX11_has 2 (some .boolean) 2 := ⟨Or.inr ⟨"ShoreGuards", List.mem_of_getElem? (i := 1044) (by decide +kernel)⟩, qX11_has.1, qX11_has.2.1, qX11_has.2.2.1, qX11_has.2.2.2, by decide⟩
theorem qX10_knownBy : Cond.instanceMethod yX10_knownBy ∈ jd_TB ∧ Cond.selects RX10 yX10_knownBy yX10_knownBy ∈ jd_TB ∧ Cond.initialized RX10 ∈ jd_TB ∧ Cond.code yX10_knownBy cX10_knownBy 4 (some .int) ∈ jd_TB ∧ jd_ds yX10_knownBy 1 := ⟨jd_mem 1042 (by decide +kernel) (by decide +kernel), jd_mem 29 (by decide +kernel) (by decide +kernel), jd_mem 97 (by decide +kernel) (by decide +kernel), jd_mem 1043 (by decide +kernel) (by decide +kernel), ⟨by decide, by decide, by decide +kernel⟩⟩
theorem lX10_73 : jd_mv RX10 73 10 16 yX10_knownBy cX10_knownBy 4 (some .int) 1 := ⟨_, _, rfl, by decide, rfl, Or.inl (jd_mem 1040 (by decide +kernel) (by decide +kernel)), qX10_knownBy.1, qX10_knownBy.2.1, qX10_knownBy.2.2.1, qX10_knownBy.2.2.2.1, qX10_knownBy.2.2.2.2, by decide⟩
theorem dX9_advance_0 : decode cX9_advance 0 = .ok (.aload_n 0, 1) := by decide +kernel
theorem dX9_advance_1 : decode cX9_advance 1 = .ok (.getfield 32, 3) := by decide +kernel
theorem dX9_advance_4 : decode cX9_advance 4 = .ok (.istore_n 1, 1) := by decide +kernel
theorem dX9_advance_5 : decode cX9_advance 5 = .ok (.iload_n 1, 1) := by decide +kernel
theorem dX9_advance_6 : decode cX9_advance 6 = .ok (.aload_n 0, 1) := by decide +kernel
theorem dX9_advance_7 : decode cX9_advance 7 = .ok (.getfield 29, 3) := by decide +kernel
theorem dX9_advance_10 : decode cX9_advance 10 = .ok (.if_icmp .ge 20, 3) := by decide +kernel
theorem dX9_advance_13 : decode cX9_advance 13 = .ok (.aload_n 0, 1) := by decide +kernel
theorem dX9_advance_14 : decode cX9_advance 14 = .ok (.getfield 60, 3) := by decide +kernel
theorem dX9_advance_17 : decode cX9_advance 17 = .ok (.iload_n 1, 1) := by decide +kernel
theorem dX9_advance_18 : decode cX9_advance 18 = .ok (.baload, 1) := by decide +kernel
theorem dX9_advance_19 : decode cX9_advance 19 = .ok (.bipush 32, 2) := by decide +kernel
theorem dX9_advance_21 : decode cX9_advance 21 = .ok (.if_icmp .ne 9, 3) := by decide +kernel
theorem dX9_advance_24 : decode cX9_advance 24 = .ok (.iinc 1 1, 3) := by decide +kernel
theorem dX9_advance_27 : decode cX9_advance 27 = .ok (.goto (-22), 3) := by decide +kernel
theorem dX9_advance_30 : decode cX9_advance 30 = .ok (.iload_n 1, 1) := by decide +kernel
theorem dX9_advance_31 : decode cX9_advance 31 = .ok (.istore_n 2, 1) := by decide +kernel
theorem dX9_advance_32 : decode cX9_advance 32 = .ok (.iload_n 1, 1) := by decide +kernel
theorem dX9_advance_33 : decode cX9_advance 33 = .ok (.aload_n 0, 1) := by decide +kernel
theorem dX9_advance_34 : decode cX9_advance 34 = .ok (.getfield 29, 3) := by decide +kernel
theorem dX9_advance_37 : decode cX9_advance 37 = .ok (.if_icmp .lt 11, 3) := by decide +kernel
theorem dX9_advance_40 : decode cX9_advance 40 = .ok (.aload_n 0, 1) := by decide +kernel
theorem dX9_advance_41 : decode cX9_advance 41 = .ok (.iconst 0, 1) := by decide +kernel
theorem dX9_advance_42 : decode cX9_advance 42 = .ok (.putfield 35, 3) := by decide +kernel
theorem dX9_advance_45 : decode cX9_advance 45 = .ok (.goto 130, 3) := by decide +kernel
theorem dX9_advance_48 : decode cX9_advance 48 = .ok (.aload_n 0, 1) := by decide +kernel
theorem dX9_advance_49 : decode cX9_advance 49 = .ok (.getfield 60, 3) := by decide +kernel
theorem dX9_advance_52 : decode cX9_advance 52 = .ok (.iload_n 1, 1) := by decide +kernel
theorem dX9_advance_53 : decode cX9_advance 53 = .ok (.baload, 1) := by decide +kernel
theorem dX9_advance_54 : decode cX9_advance 54 = .ok (.bipush 59, 2) := by decide +kernel
theorem dX9_advance_56 : decode cX9_advance 56 = .ok (.if_icmp .ne 14, 3) := by decide +kernel
theorem dX9_advance_59 : decode cX9_advance 59 = .ok (.aload_n 0, 1) := by decide +kernel
theorem dX9_advance_60 : decode cX9_advance 60 = .ok (.iconst 3, 1) := by decide +kernel
theorem dX9_advance_61 : decode cX9_advance 61 = .ok (.putfield 35, 3) := by decide +kernel
theorem dX9_advance_64 : decode cX9_advance 64 = .ok (.iinc 2 1, 3) := by decide +kernel
theorem dX9_advance_67 : decode cX9_advance 67 = .ok (.goto 108, 3) := by decide +kernel
theorem dX9_advance_70 : decode cX9_advance 70 = .ok (.aload_n 0, 1) := by decide +kernel
theorem dX9_advance_71 : decode cX9_advance 71 = .ok (.getfield 60, 3) := by decide +kernel
theorem dX9_advance_74 : decode cX9_advance 74 = .ok (.iload_n 1, 1) := by decide +kernel
theorem dX9_advance_75 : decode cX9_advance 75 = .ok (.baload, 1) := by decide +kernel
theorem dX9_advance_76 : decode cX9_advance 76 = .ok (.invokestatic 228, 3) := by decide +kernel
theorem dX9_advance_79 : decode cX9_advance 79 = .ok (.ifCond .eq 49, 3) := by decide +kernel
theorem dX9_advance_82 : decode cX9_advance 82 = .ok (.iload_n 2, 1) := by decide +kernel
theorem dX9_advance_83 : decode cX9_advance 83 = .ok (.aload_n 0, 1) := by decide +kernel
theorem dX9_advance_84 : decode cX9_advance 84 = .ok (.getfield 29, 3) := by decide +kernel
theorem dX9_advance_87 : decode cX9_advance 87 = .ok (.if_icmp .ge 21, 3) := by decide +kernel
theorem dX9_advance_90 : decode cX9_advance 90 = .ok (.aload_n 0, 1) := by decide +kernel
theorem dX9_advance_91 : decode cX9_advance 91 = .ok (.getfield 60, 3) := by decide +kernel
theorem dX9_advance_94 : decode cX9_advance 94 = .ok (.iload_n 2, 1) := by decide +kernel
theorem dX9_advance_95 : decode cX9_advance 95 = .ok (.baload, 1) := by decide +kernel
theorem dX9_advance_96 : decode cX9_advance 96 = .ok (.invokestatic 228, 3) := by decide +kernel
theorem dX9_advance_99 : decode cX9_advance 99 = .ok (.ifCond .eq 9, 3) := by decide +kernel
theorem dX9_advance_102 : decode cX9_advance 102 = .ok (.iinc 2 1, 3) := by decide +kernel
theorem dX9_advance_105 : decode cX9_advance 105 = .ok (.goto (-23), 3) := by decide +kernel
theorem dX9_advance_108 : decode cX9_advance 108 = .ok (.aload_n 0, 1) := by decide +kernel
theorem dX9_advance_109 : decode cX9_advance 109 = .ok (.iload_n 2, 1) := by decide +kernel
theorem dX9_advance_110 : decode cX9_advance 110 = .ok (.iload_n 1, 1) := by decide +kernel
theorem dX9_advance_111 : decode cX9_advance 111 = .ok (.isub, 1) := by decide +kernel
theorem dX9_advance_112 : decode cX9_advance 112 = .ok (.bipush 8, 2) := by decide +kernel
theorem dX9_advance_114 : decode cX9_advance 114 = .ok (.if_icmp .gt 7, 3) := by decide +kernel
theorem dX9_advance_117 : decode cX9_advance 117 = .ok (.iconst 1, 1) := by decide +kernel
theorem dX9_advance_118 : decode cX9_advance 118 = .ok (.goto 4, 3) := by decide +kernel
theorem dX9_advance_121 : decode cX9_advance 121 = .ok (.iconst 4, 1) := by decide +kernel
theorem dX9_advance_122 : decode cX9_advance 122 = .ok (.putfield 35, 3) := by decide +kernel
theorem dX9_advance_125 : decode cX9_advance 125 = .ok (.goto 50, 3) := by decide +kernel
theorem dX9_advance_128 : decode cX9_advance 128 = .ok (.iload_n 2, 1) := by decide +kernel
theorem dX9_advance_129 : decode cX9_advance 129 = .ok (.aload_n 0, 1) := by decide +kernel
theorem dX9_advance_130 : decode cX9_advance 130 = .ok (.getfield 29, 3) := by decide +kernel
theorem dX9_advance_133 : decode cX9_advance 133 = .ok (.if_icmp .ge 21, 3) := by decide +kernel
theorem dX9_advance_136 : decode cX9_advance 136 = .ok (.aload_n 0, 1) := by decide +kernel
theorem dX9_advance_137 : decode cX9_advance 137 = .ok (.getfield 60, 3) := by decide +kernel
theorem dX9_advance_140 : decode cX9_advance 140 = .ok (.iload_n 2, 1) := by decide +kernel
theorem dX9_advance_141 : decode cX9_advance 141 = .ok (.baload, 1) := by decide +kernel
theorem dX9_advance_142 : decode cX9_advance 142 = .ok (.invokestatic 231, 3) := by decide +kernel
theorem dX9_advance_145 : decode cX9_advance 145 = .ok (.ifCond .eq 9, 3) := by decide +kernel
theorem dX9_advance_148 : decode cX9_advance 148 = .ok (.iinc 2 1, 3) := by decide +kernel
theorem dX9_advance_151 : decode cX9_advance 151 = .ok (.goto (-23), 3) := by decide +kernel
theorem dX9_advance_154 : decode cX9_advance 154 = .ok (.aload_n 0, 1) := by decide +kernel
theorem dX9_advance_155 : decode cX9_advance 155 = .ok (.iload_n 2, 1) := by decide +kernel
theorem dX9_advance_156 : decode cX9_advance 156 = .ok (.iload_n 1, 1) := by decide +kernel
theorem dX9_advance_157 : decode cX9_advance 157 = .ok (.if_icmp .le 14, 3) := by decide +kernel
theorem dX9_advance_160 : decode cX9_advance 160 = .ok (.iload_n 2, 1) := by decide +kernel
theorem dX9_advance_161 : decode cX9_advance 161 = .ok (.iload_n 1, 1) := by decide +kernel
theorem dX9_advance_162 : decode cX9_advance 162 = .ok (.isub, 1) := by decide +kernel
theorem dX9_advance_163 : decode cX9_advance 163 = .ok (.iconst 3, 1) := by decide +kernel
theorem dX9_advance_164 : decode cX9_advance 164 = .ok (.if_icmp .gt 7, 3) := by decide +kernel
theorem dX9_advance_167 : decode cX9_advance 167 = .ok (.iconst 2, 1) := by decide +kernel
theorem dX9_advance_168 : decode cX9_advance 168 = .ok (.goto 4, 3) := by decide +kernel
theorem dX9_advance_171 : decode cX9_advance 171 = .ok (.iconst 4, 1) := by decide +kernel
theorem dX9_advance_172 : decode cX9_advance 172 = .ok (.putfield 35, 3) := by decide +kernel
theorem dX9_advance_175 : decode cX9_advance 175 = .ok (.aload_n 0, 1) := by decide +kernel
theorem dX9_advance_176 : decode cX9_advance 176 = .ok (.iload_n 1, 1) := by decide +kernel
theorem dX9_advance_177 : decode cX9_advance 177 = .ok (.putfield 38, 3) := by decide +kernel
theorem dX9_advance_180 : decode cX9_advance 180 = .ok (.aload_n 0, 1) := by decide +kernel
theorem dX9_advance_181 : decode cX9_advance 181 = .ok (.iload_n 2, 1) := by decide +kernel
theorem dX9_advance_182 : decode cX9_advance 182 = .ok (.iload_n 1, 1) := by decide +kernel
theorem dX9_advance_183 : decode cX9_advance 183 = .ok (.isub, 1) := by decide +kernel
theorem dX9_advance_184 : decode cX9_advance 184 = .ok (.putfield 41, 3) := by decide +kernel
theorem dX9_advance_187 : decode cX9_advance 187 = .ok (.aload_n 0, 1) := by decide +kernel
theorem dX9_advance_188 : decode cX9_advance 188 = .ok (.iload_n 2, 1) := by decide +kernel
theorem dX9_advance_189 : decode cX9_advance 189 = .ok (.putfield 32, 3) := by decide +kernel
theorem dX9_advance_192 : decode cX9_advance 192 = .ok (.return_, 1) := by decide +kernel
theorem dX9_fail_0 : decode cX9_fail 0 = .ok (.aload_n 0, 1) := by decide +kernel
theorem dX9_fail_1 : decode cX9_fail 1 = .ok (.iload_n 1, 1) := by decide +kernel
theorem dX9_fail_2 : decode cX9_fail 2 = .ok (.putfield 54, 3) := by decide +kernel
theorem dX9_fail_5 : decode cX9_fail 5 = .ok (.aload_n 0, 1) := by decide +kernel
theorem dX9_fail_6 : decode cX9_fail 6 = .ok (.aload_n 0, 1) := by decide +kernel
theorem dX9_fail_7 : decode cX9_fail 7 = .ok (.getfield 38, 3) := by decide +kernel
theorem dX9_fail_10 : decode cX9_fail 10 = .ok (.putfield 57, 3) := by decide +kernel
theorem dX9_fail_13 : decode cX9_fail 13 = .ok (.iconst 0, 1) := by decide +kernel
theorem dX9_fail_14 : decode cX9_fail 14 = .ok (.ireturn, 1) := by decide +kernel
theorem dX9_wholeValue_0 : decode cX9_wholeValue 0 = .ok (.iconst 0, 1) := by decide +kernel
theorem dX9_wholeValue_1 : decode cX9_wholeValue 1 = .ok (.istore_n 1, 1) := by decide +kernel
theorem dX9_wholeValue_2 : decode cX9_wholeValue 2 = .ok (.iconst 0, 1) := by decide +kernel
theorem dX9_wholeValue_3 : decode cX9_wholeValue 3 = .ok (.istore_n 2, 1) := by decide +kernel
theorem dX9_wholeValue_4 : decode cX9_wholeValue 4 = .ok (.iload_n 2, 1) := by decide +kernel
theorem dX9_wholeValue_5 : decode cX9_wholeValue 5 = .ok (.aload_n 0, 1) := by decide +kernel
theorem dX9_wholeValue_6 : decode cX9_wholeValue 6 = .ok (.getfield 41, 3) := by decide +kernel
theorem dX9_wholeValue_9 : decode cX9_wholeValue 9 = .ok (.if_icmp .ge 29, 3) := by decide +kernel
theorem dX9_wholeValue_12 : decode cX9_wholeValue 12 = .ok (.iload_n 1, 1) := by decide +kernel
theorem dX9_wholeValue_13 : decode cX9_wholeValue 13 = .ok (.bipush 10, 2) := by decide +kernel
theorem dX9_wholeValue_15 : decode cX9_wholeValue 15 = .ok (.imul, 1) := by decide +kernel
theorem dX9_wholeValue_16 : decode cX9_wholeValue 16 = .ok (.aload_n 0, 1) := by decide +kernel
theorem dX9_wholeValue_17 : decode cX9_wholeValue 17 = .ok (.getfield 60, 3) := by decide +kernel
theorem dX9_wholeValue_20 : decode cX9_wholeValue 20 = .ok (.aload_n 0, 1) := by decide +kernel
theorem dX9_wholeValue_21 : decode cX9_wholeValue 21 = .ok (.getfield 38, 3) := by decide +kernel
theorem dX9_wholeValue_24 : decode cX9_wholeValue 24 = .ok (.iload_n 2, 1) := by decide +kernel
theorem dX9_wholeValue_25 : decode cX9_wholeValue 25 = .ok (.iadd, 1) := by decide +kernel
theorem dX9_wholeValue_26 : decode cX9_wholeValue 26 = .ok (.baload, 1) := by decide +kernel
theorem dX9_wholeValue_27 : decode cX9_wholeValue 27 = .ok (.iadd, 1) := by decide +kernel
theorem dX9_wholeValue_28 : decode cX9_wholeValue 28 = .ok (.bipush 48, 2) := by decide +kernel
theorem dX9_wholeValue_30 : decode cX9_wholeValue 30 = .ok (.isub, 1) := by decide +kernel
theorem dX9_wholeValue_31 : decode cX9_wholeValue 31 = .ok (.istore_n 1, 1) := by decide +kernel
theorem dX9_wholeValue_32 : decode cX9_wholeValue 32 = .ok (.iinc 2 1, 3) := by decide +kernel
theorem dX9_wholeValue_35 : decode cX9_wholeValue 35 = .ok (.goto (-31), 3) := by decide +kernel
theorem dX9_wholeValue_38 : decode cX9_wholeValue 38 = .ok (.iload_n 1, 1) := by decide +kernel
theorem dX9_wholeValue_39 : decode cX9_wholeValue 39 = .ok (.ireturn, 1) := by decide +kernel
theorem dX9_isSameText_0 : decode cX9_isSameText 0 = .ok (.iconst 0, 1) := by decide +kernel
theorem dX9_isSameText_1 : decode cX9_isSameText 1 = .ok (.istore_n 2, 1) := by decide +kernel
theorem dX9_isSameText_2 : decode cX9_isSameText 2 = .ok (.iload_n 2, 1) := by decide +kernel
theorem dX9_isSameText_3 : decode cX9_isSameText 3 = .ok (.aload_n 0, 1) := by decide +kernel
theorem dX9_isSameText_4 : decode cX9_isSameText 4 = .ok (.getfield 41, 3) := by decide +kernel
theorem dX9_isSameText_7 : decode cX9_isSameText 7 = .ok (.if_icmp .ge 33, 3) := by decide +kernel
theorem dX9_isSameText_10 : decode cX9_isSameText 10 = .ok (.aload_n 0, 1) := by decide +kernel
theorem dX9_isSameText_11 : decode cX9_isSameText 11 = .ok (.getfield 60, 3) := by decide +kernel
theorem dX9_isSameText_14 : decode cX9_isSameText 14 = .ok (.iload_n 1, 1) := by decide +kernel
theorem dX9_isSameText_15 : decode cX9_isSameText 15 = .ok (.iload_n 2, 1) := by decide +kernel
theorem dX9_isSameText_16 : decode cX9_isSameText 16 = .ok (.iadd, 1) := by decide +kernel
theorem dX9_isSameText_17 : decode cX9_isSameText 17 = .ok (.baload, 1) := by decide +kernel
theorem dX9_isSameText_18 : decode cX9_isSameText 18 = .ok (.aload_n 0, 1) := by decide +kernel
theorem dX9_isSameText_19 : decode cX9_isSameText 19 = .ok (.getfield 60, 3) := by decide +kernel
theorem dX9_isSameText_22 : decode cX9_isSameText 22 = .ok (.aload_n 0, 1) := by decide +kernel
theorem dX9_isSameText_23 : decode cX9_isSameText 23 = .ok (.getfield 38, 3) := by decide +kernel
theorem dX9_isSameText_26 : decode cX9_isSameText 26 = .ok (.iload_n 2, 1) := by decide +kernel
theorem dX9_isSameText_27 : decode cX9_isSameText 27 = .ok (.iadd, 1) := by decide +kernel
theorem dX9_isSameText_28 : decode cX9_isSameText 28 = .ok (.baload, 1) := by decide +kernel
theorem dX9_isSameText_29 : decode cX9_isSameText 29 = .ok (.if_icmp .eq 5, 3) := by decide +kernel
theorem dX9_isSameText_32 : decode cX9_isSameText 32 = .ok (.iconst 0, 1) := by decide +kernel
theorem dX9_isSameText_33 : decode cX9_isSameText 33 = .ok (.ireturn, 1) := by decide +kernel
theorem dX9_isSameText_34 : decode cX9_isSameText 34 = .ok (.iinc 2 1, 3) := by decide +kernel
theorem dX9_isSameText_37 : decode cX9_isSameText 37 = .ok (.goto (-35), 3) := by decide +kernel
theorem dX9_isSameText_40 : decode cX9_isSameText 40 = .ok (.iconst 1, 1) := by decide +kernel
theorem dX9_isSameText_41 : decode cX9_isSameText 41 = .ok (.ireturn, 1) := by decide +kernel
theorem dX9_nameIndex_0 : decode cX9_nameIndex 0 = .ok (.iconst 0, 1) := by decide +kernel
theorem dX9_nameIndex_1 : decode cX9_nameIndex 1 = .ok (.istore_n 1, 1) := by decide +kernel
theorem dX9_nameIndex_2 : decode cX9_nameIndex 2 = .ok (.iload_n 1, 1) := by decide +kernel
theorem dX9_nameIndex_3 : decode cX9_nameIndex 3 = .ok (.aload_n 0, 1) := by decide +kernel
theorem dX9_nameIndex_4 : decode cX9_nameIndex 4 = .ok (.getfield 25, 3) := by decide +kernel
theorem dX9_nameIndex_7 : decode cX9_nameIndex 7 = .ok (.if_icmp .ge 37, 3) := by decide +kernel
theorem dX9_nameIndex_10 : decode cX9_nameIndex 10 = .ok (.aload_n 0, 1) := by decide +kernel
theorem dX9_nameIndex_11 : decode cX9_nameIndex 11 = .ok (.getfield 15, 3) := by decide +kernel
theorem dX9_nameIndex_14 : decode cX9_nameIndex 14 = .ok (.iload_n 1, 1) := by decide +kernel
theorem dX9_nameIndex_15 : decode cX9_nameIndex 15 = .ok (.iaload, 1) := by decide +kernel
theorem dX9_nameIndex_16 : decode cX9_nameIndex 16 = .ok (.aload_n 0, 1) := by decide +kernel
theorem dX9_nameIndex_17 : decode cX9_nameIndex 17 = .ok (.getfield 41, 3) := by decide +kernel
theorem dX9_nameIndex_20 : decode cX9_nameIndex 20 = .ok (.if_icmp .ne 18, 3) := by decide +kernel
theorem dX9_nameIndex_23 : decode cX9_nameIndex 23 = .ok (.aload_n 0, 1) := by decide +kernel
theorem dX9_nameIndex_24 : decode cX9_nameIndex 24 = .ok (.aload_n 0, 1) := by decide +kernel
theorem dX9_nameIndex_25 : decode cX9_nameIndex 25 = .ok (.getfield 11, 3) := by decide +kernel
theorem dX9_nameIndex_28 : decode cX9_nameIndex 28 = .ok (.iload_n 1, 1) := by decide +kernel
theorem dX9_nameIndex_29 : decode cX9_nameIndex 29 = .ok (.iaload, 1) := by decide +kernel
theorem dX9_nameIndex_30 : decode cX9_nameIndex 30 = .ok (.invokevirtual 206, 3) := by decide +kernel
theorem dX9_nameIndex_33 : decode cX9_nameIndex 33 = .ok (.ifCond .eq 5, 3) := by decide +kernel
theorem dX9_nameIndex_36 : decode cX9_nameIndex 36 = .ok (.iload_n 1, 1) := by decide +kernel
theorem dX9_nameIndex_37 : decode cX9_nameIndex 37 = .ok (.ireturn, 1) := by decide +kernel
theorem dX9_nameIndex_38 : decode cX9_nameIndex 38 = .ok (.iinc 1 1, 3) := by decide +kernel
theorem dX9_nameIndex_41 : decode cX9_nameIndex 41 = .ok (.goto (-39), 3) := by decide +kernel
theorem dX9_nameIndex_44 : decode cX9_nameIndex 44 = .ok (.iconst (-1), 1) := by decide +kernel
theorem dX9_nameIndex_45 : decode cX9_nameIndex 45 = .ok (.ireturn, 1) := by decide +kernel
theorem dX10_count_0 : decode cX10_count 0 = .ok (.iload_n 1, 1) := by decide +kernel
theorem dX10_count_1 : decode cX10_count 1 = .ok (.tableswitch 81 0 6 #[43, 48, 53, 58, 63, 68, 76], 43) := by decide +kernel
theorem dX10_count_44 : decode cX10_count 44 = .ok (.aload_n 0, 1) := by decide +kernel
theorem dX10_count_45 : decode cX10_count 45 = .ok (.getfield 36, 3) := by decide +kernel
theorem dX10_count_48 : decode cX10_count 48 = .ok (.ireturn, 1) := by decide +kernel
theorem dX10_count_49 : decode cX10_count 49 = .ok (.aload_n 0, 1) := by decide +kernel
theorem dX10_count_50 : decode cX10_count 50 = .ok (.getfield 40, 3) := by decide +kernel
theorem dX10_count_53 : decode cX10_count 53 = .ok (.ireturn, 1) := by decide +kernel
theorem dX10_count_54 : decode cX10_count 54 = .ok (.aload_n 0, 1) := by decide +kernel
theorem dX10_count_55 : decode cX10_count 55 = .ok (.getfield 43, 3) := by decide +kernel
theorem dX10_count_58 : decode cX10_count 58 = .ok (.ireturn, 1) := by decide +kernel
theorem dX10_count_59 : decode cX10_count 59 = .ok (.aload_n 0, 1) := by decide +kernel
theorem dX10_count_60 : decode cX10_count 60 = .ok (.getfield 46, 3) := by decide +kernel
theorem dX10_count_63 : decode cX10_count 63 = .ok (.ireturn, 1) := by decide +kernel
theorem dX10_count_64 : decode cX10_count 64 = .ok (.aload_n 0, 1) := by decide +kernel
theorem dX10_count_65 : decode cX10_count 65 = .ok (.getfield 49, 3) := by decide +kernel
theorem dX10_count_68 : decode cX10_count 68 = .ok (.ireturn, 1) := by decide +kernel
theorem dX10_count_69 : decode cX10_count 69 = .ok (.aload_n 0, 1) := by decide +kernel
theorem dX10_count_70 : decode cX10_count 70 = .ok (.getfield 52, 3) := by decide +kernel
theorem dX10_count_73 : decode cX10_count 73 = .ok (.invokestatic 61, 3) := by decide +kernel
theorem dX10_count_76 : decode cX10_count 76 = .ok (.ireturn, 1) := by decide +kernel
theorem dX10_count_77 : decode cX10_count 77 = .ok (.aload_n 0, 1) := by decide +kernel
theorem dX10_count_78 : decode cX10_count 78 = .ok (.getfield 55, 3) := by decide +kernel
theorem dX10_count_81 : decode cX10_count 81 = .ok (.ireturn, 1) := by decide +kernel
theorem dX10_count_82 : decode cX10_count 82 = .ok (.aload_n 0, 1) := by decide +kernel
theorem dX10_count_83 : decode cX10_count 83 = .ok (.getfield 58, 3) := by decide +kernel
theorem dX10_count_86 : decode cX10_count 86 = .ok (.ireturn, 1) := by decide +kernel
theorem dX10_knownBy_0 : decode cX10_knownBy 0 = .ok (.iconst 0, 1) := by decide +kernel
theorem dX10_knownBy_1 : decode cX10_knownBy 1 = .ok (.istore_n 2, 1) := by decide +kernel
theorem dX10_knownBy_2 : decode cX10_knownBy 2 = .ok (.iconst 0, 1) := by decide +kernel
theorem dX10_knownBy_3 : decode cX10_knownBy 3 = .ok (.istore_n 3, 1) := by decide +kernel
theorem dX10_knownBy_4 : decode cX10_knownBy 4 = .ok (.iload_n 3, 1) := by decide +kernel
theorem dX10_knownBy_5 : decode cX10_knownBy 5 = .ok (.aload_n 0, 1) := by decide +kernel
theorem dX10_knownBy_6 : decode cX10_knownBy 6 = .ok (.getfield 46, 3) := by decide +kernel
theorem dX10_knownBy_9 : decode cX10_knownBy 9 = .ok (.if_icmp .ge 26, 3) := by decide +kernel
theorem dX10_knownBy_12 : decode cX10_knownBy 12 = .ok (.iload_n 1, 1) := by decide +kernel
theorem dX10_knownBy_13 : decode cX10_knownBy 13 = .ok (.iload_n 3, 1) := by decide +kernel
theorem dX10_knownBy_14 : decode cX10_knownBy 14 = .ok (.invokestatic 76, 3) := by decide +kernel
theorem dX10_knownBy_17 : decode cX10_knownBy 17 = .ok (.ifCond .eq 12, 3) := by decide +kernel
theorem dX10_knownBy_20 : decode cX10_knownBy 20 = .ok (.iload_n 2, 1) := by decide +kernel
theorem dX10_knownBy_21 : decode cX10_knownBy 21 = .ok (.aload_n 0, 1) := by decide +kernel
theorem dX10_knownBy_22 : decode cX10_knownBy 22 = .ok (.getfield 24, 3) := by decide +kernel
theorem dX10_knownBy_25 : decode cX10_knownBy 25 = .ok (.iload_n 3, 1) := by decide +kernel
theorem dX10_knownBy_26 : decode cX10_knownBy 26 = .ok (.iaload, 1) := by decide +kernel
theorem dX10_knownBy_27 : decode cX10_knownBy 27 = .ok (.ior, 1) := by decide +kernel
theorem dX10_knownBy_28 : decode cX10_knownBy 28 = .ok (.istore_n 2, 1) := by decide +kernel
theorem dX10_knownBy_29 : decode cX10_knownBy 29 = .ok (.iinc 3 1, 3) := by decide +kernel
theorem dX10_knownBy_32 : decode cX10_knownBy 32 = .ok (.goto (-28), 3) := by decide +kernel
theorem dX10_knownBy_35 : decode cX10_knownBy 35 = .ok (.iload_n 2, 1) := by decide +kernel
theorem dX10_knownBy_36 : decode cX10_knownBy 36 = .ok (.ireturn, 1) := by decide +kernel
theorem dX10_fewestTaught_0 : decode cX10_fewestTaught 0 = .ok (.iconst 1, 1) := by decide +kernel
theorem dX10_fewestTaught_1 : decode cX10_fewestTaught 1 = .ok (.aload_n 0, 1) := by decide +kernel
theorem dX10_fewestTaught_2 : decode cX10_fewestTaught 2 = .ok (.getfield 46, 3) := by decide +kernel
theorem dX10_fewestTaught_5 : decode cX10_fewestTaught 5 = .ok (.ishl, 1) := by decide +kernel
theorem dX10_fewestTaught_6 : decode cX10_fewestTaught 6 = .ok (.iconst 1, 1) := by decide +kernel
theorem dX10_fewestTaught_7 : decode cX10_fewestTaught 7 = .ok (.isub, 1) := by decide +kernel
theorem dX10_fewestTaught_8 : decode cX10_fewestTaught 8 = .ok (.istore_n 1, 1) := by decide +kernel
theorem dX10_fewestTaught_9 : decode cX10_fewestTaught 9 = .ok (.iload_n 1, 1) := by decide +kernel
theorem dX10_fewestTaught_10 : decode cX10_fewestTaught 10 = .ok (.istore_n 2, 1) := by decide +kernel
theorem dX10_fewestTaught_11 : decode cX10_fewestTaught 11 = .ok (.iconst 0, 1) := by decide +kernel
theorem dX10_fewestTaught_12 : decode cX10_fewestTaught 12 = .ok (.istore_n 3, 1) := by decide +kernel
theorem dX10_fewestTaught_13 : decode cX10_fewestTaught 13 = .ok (.iload_n 3, 1) := by decide +kernel
theorem dX10_fewestTaught_14 : decode cX10_fewestTaught 14 = .ok (.iload_n 1, 1) := by decide +kernel
theorem dX10_fewestTaught_15 : decode cX10_fewestTaught 15 = .ok (.if_icmp .ge 33, 3) := by decide +kernel
theorem dX10_fewestTaught_18 : decode cX10_fewestTaught 18 = .ok (.iload_n 3, 1) := by decide +kernel
theorem dX10_fewestTaught_19 : decode cX10_fewestTaught 19 = .ok (.invokestatic 61, 3) := by decide +kernel
theorem dX10_fewestTaught_22 : decode cX10_fewestTaught 22 = .ok (.iload_n 2, 1) := by decide +kernel
theorem dX10_fewestTaught_23 : decode cX10_fewestTaught 23 = .ok (.invokestatic 61, 3) := by decide +kernel
theorem dX10_fewestTaught_26 : decode cX10_fewestTaught 26 = .ok (.if_icmp .ge 16, 3) := by decide +kernel
theorem dX10_fewestTaught_29 : decode cX10_fewestTaught 29 = .ok (.iload_n 3, 1) := by decide +kernel
theorem dX10_fewestTaught_30 : decode cX10_fewestTaught 30 = .ok (.aload_n 0, 1) := by decide +kernel
theorem dX10_fewestTaught_31 : decode cX10_fewestTaught 31 = .ok (.iload_n 3, 1) := by decide +kernel
theorem dX10_fewestTaught_32 : decode cX10_fewestTaught 32 = .ok (.invokevirtual 73, 3) := by decide +kernel
theorem dX10_fewestTaught_35 : decode cX10_fewestTaught 35 = .ok (.ior, 1) := by decide +kernel
theorem dX10_fewestTaught_36 : decode cX10_fewestTaught 36 = .ok (.iload_n 1, 1) := by decide +kernel
theorem dX10_fewestTaught_37 : decode cX10_fewestTaught 37 = .ok (.if_icmp .ne 5, 3) := by decide +kernel
theorem dX10_fewestTaught_40 : decode cX10_fewestTaught 40 = .ok (.iload_n 3, 1) := by decide +kernel
theorem dX10_fewestTaught_41 : decode cX10_fewestTaught 41 = .ok (.istore_n 2, 1) := by decide +kernel
theorem dX10_fewestTaught_42 : decode cX10_fewestTaught 42 = .ok (.iinc 3 1, 3) := by decide +kernel
theorem dX10_fewestTaught_45 : decode cX10_fewestTaught 45 = .ok (.goto (-32), 3) := by decide +kernel
theorem dX10_fewestTaught_48 : decode cX10_fewestTaught 48 = .ok (.iload_n 2, 1) := by decide +kernel
theorem dX10_fewestTaught_49 : decode cX10_fewestTaught 49 = .ok (.ireturn, 1) := by decide +kernel
theorem dX10_hearersOf_0 : decode cX10_hearersOf 0 = .ok (.iconst 1, 1) := by decide +kernel
theorem dX10_hearersOf_1 : decode cX10_hearersOf 1 = .ok (.iload_n 1, 1) := by decide +kernel
theorem dX10_hearersOf_2 : decode cX10_hearersOf 2 = .ok (.ishl, 1) := by decide +kernel
theorem dX10_hearersOf_3 : decode cX10_hearersOf 3 = .ok (.istore_n 2, 1) := by decide +kernel
theorem dX10_hearersOf_4 : decode cX10_hearersOf 4 = .ok (.iconst 0, 1) := by decide +kernel
theorem dX10_hearersOf_5 : decode cX10_hearersOf 5 = .ok (.istore_n 3, 1) := by decide +kernel
theorem dX10_hearersOf_6 : decode cX10_hearersOf 6 = .ok (.iload_n 3, 1) := by decide +kernel
theorem dX10_hearersOf_7 : decode cX10_hearersOf 7 = .ok (.bipush 6, 2) := by decide +kernel
theorem dX10_hearersOf_9 : decode cX10_hearersOf 9 = .ok (.if_icmp .ge 17, 3) := by decide +kernel
theorem dX10_hearersOf_12 : decode cX10_hearersOf 12 = .ok (.iload_n 2, 1) := by decide +kernel
theorem dX10_hearersOf_13 : decode cX10_hearersOf 13 = .ok (.aload_n 0, 1) := by decide +kernel
theorem dX10_hearersOf_14 : decode cX10_hearersOf 14 = .ok (.iload_n 2, 1) := by decide +kernel
theorem dX10_hearersOf_15 : decode cX10_hearersOf 15 = .ok (.invokevirtual 73, 3) := by decide +kernel
theorem dX10_hearersOf_18 : decode cX10_hearersOf 18 = .ok (.ior, 1) := by decide +kernel
theorem dX10_hearersOf_19 : decode cX10_hearersOf 19 = .ok (.istore_n 2, 1) := by decide +kernel
theorem dX10_hearersOf_20 : decode cX10_hearersOf 20 = .ok (.iinc 3 1, 3) := by decide +kernel
theorem dX10_hearersOf_23 : decode cX10_hearersOf 23 = .ok (.goto (-17), 3) := by decide +kernel
theorem dX10_hearersOf_26 : decode cX10_hearersOf 26 = .ok (.iload_n 2, 1) := by decide +kernel
theorem dX10_hearersOf_27 : decode cX10_hearersOf 27 = .ok (.ireturn, 1) := by decide +kernel
def m_X9_advance (t : Nat) (σ : jd_Hp) : Option (Unit × jd_Hp) :=
jd_li (σ.2.1 t 7) fun x1 =>
jd_b (jd_lp (S := Int32) (T := Int32) (fun s2 σ2 =>
jd_o σ2 (9, 16) (some t) fun a4 =>
jd_if ((σ2.2.1 a4 6) ≤ s2) (
some ((Sum.inr s2), σ2)) (
jd_ia σ2 21 (σ2.2.2.2 a4 0) s2 fun a5 j5 =>
jd_if (¬ (σ2.2.1 a5 j5) = 32) (
some ((Sum.inr s2), σ2)) (
some (Sum.inl (s2 + 1), σ2)))) jd_fu x1 σ) fun t3 σ3 =>
jd_o σ3 (9, 16) (some t) fun a6 =>
jd_b (α := Int32) (
jd_if (t3 < (σ3.2.1 a6 6)) (
jd_ia σ3 21 (σ3.2.2.2 a6 0) t3 fun a33 j33 =>
jd_if (¬ (σ3.2.1 a33 j33) = 59) (
jd_ia σ3 21 (σ3.2.2.2 a6 0) t3 fun a34 j34 =>
jd_b (m_X9_isLetter (σ3.2.1 a34 j34) σ3) fun r35 σ35 =>
jd_if (r35 = 0) (
jd_b (jd_lp (S := Int32) (T := Int32) (fun s36 σ36 =>
jd_o σ36 (9, 16) (some t) fun a38 =>
jd_if ((σ36.2.1 a38 6) ≤ s36) (
some ((Sum.inr s36), σ36)) (
jd_ia σ36 21 (σ36.2.2.2 a38 0) s36 fun a39 j39 =>
jd_b (m_X9_isDigit (σ36.2.1 a39 j39) σ36) fun r40 σ40 =>
jd_if (r40 = 0) (
some ((Sum.inr s36), σ40)) (
some (Sum.inl (s36 + 1), σ40)))) jd_fu t3 σ35) fun t37 σ37 =>
jd_if (t37 ≤ t3) (
jd_o σ37 (9, 16) (some t) fun a41 =>
jd_li (jd_pi σ37 a41 8 4) fun τ42 =>
some (t37, τ42)) (
jd_if (3 < (t37 - t3)) (
jd_o σ37 (9, 16) (some t) fun a43 =>
jd_li (jd_pi σ37 a43 8 4) fun τ44 =>
some (t37, τ44)) (
jd_o σ37 (9, 16) (some t) fun a45 =>
jd_li (jd_pi σ37 a45 8 2) fun τ46 =>
some (t37, τ46)))) (
jd_b (jd_lp (S := Int32) (T := Int32) (fun s47 σ47 =>
jd_o σ47 (9, 16) (some t) fun a49 =>
jd_if ((σ47.2.1 a49 6) ≤ s47) (
some ((Sum.inr s47), σ47)) (
jd_ia σ47 21 (σ47.2.2.2 a49 0) s47 fun a50 j50 =>
jd_b (m_X9_isLetter (σ47.2.1 a50 j50) σ47) fun r51 σ51 =>
jd_if (r51 = 0) (
some ((Sum.inr s47), σ51)) (
some (Sum.inl (s47 + 1), σ51)))) jd_fu t3 σ35) fun t48 σ48 =>
jd_if (8 < (t48 - t3)) (
jd_o σ48 (9, 16) (some t) fun a52 =>
jd_li (jd_pi σ48 a52 8 4) fun τ53 =>
some (t48, τ53)) (
jd_o σ48 (9, 16) (some t) fun a54 =>
jd_li (jd_pi σ48 a54 8 1) fun τ55 =>
some (t48, τ55)))) (
jd_li (jd_pi σ3 a6 8 3) fun τ56 =>
some ((t3 + 1), τ56))) (
jd_li (jd_pi σ3 a6 8 0) fun τ57 =>
some (t3, τ57))) fun t32 σ32 =>
jd_o σ32 (9, 16) (some t) fun a58 =>
jd_li (jd_pi σ32 a58 9 t3) fun τ59 =>
jd_li (jd_pi τ59 a58 10 (t32 - t3)) fun τ60 =>
jd_li (jd_pi τ60 a58 7 t32) fun τ61 =>
some ((), τ61)
set_option maxHeartbeats 4000000 in
set_option maxRecDepth 20000 in
theorem c_X9_advance {l : Launch} {s0 : State} {G : jd_G} (hF : jd_F s0 G) (σ : jd_Hp) (t : Nat) (ht : σ.1[t]? = some (9, 16)) : jd_M l s0 G yX9_advance cX9_advance 3 none 1 je_v [jd_v G (some t)] σ (m_X9_advance t σ) := by
  refine jd_enter hF (by decide) (fun G => [some (jd_v G (some t)), none, none]) rfl (by simp [lv_args, jd_al, jd_v_cat, jd_cti, jd_ctl]) (by simp [lg_sl, jd_v_cat, jd_cti, jd_ctl]) (fun X hD hX => ?_)
  have hX : jd_C X RX9 "advance" cX9_advance 3 none := hX
  unfold m_X9_advance
  refine jr_ald0 (pc := 0) hX dX9_advance_0 ?_
  refine jr_geti (pc := 1) hX fX9_32 rfl dX9_advance_1 ht ?_
  refine jr_ist1 (pc := 4) hX (jn_r _ _) dX9_advance_4 ?_
  refine jr_li ?_
  refine jr_loop (pc := 5) (fun (s2 : Int32) => [some (jd_v (jd_gG X) (some t)), some (.int s2), none]) (fun (t3 : Int32) => [some (jd_v (jd_gG X) (some t)), some (.int t3), none]) 30 (σ.2.1 t 7) (fun t3 σ3 => ?_) (fun K2 bk2 ex2 s2 σ2 => ?_)
  · refine jr_ild1 (pc := 30) hX dX9_advance_30 ?_
    refine jr_ist2 (pc := 31) hX (jn_i _) dX9_advance_31 ?_
    refine jr_ild1 (pc := 32) hX dX9_advance_32 ?_
    refine jr_ald0 (pc := 33) hX dX9_advance_33 ?_
    refine jr_ck0 (fun a6 e6 h6 => ?_)
    refine jr_geti (pc := 34) hX fX9_29 rfl dX9_advance_34 h6 ?_
    refine jr_join (pc := 37) 175 (fun (t32 : Int32) => [some (jd_v (jd_gG X) (some t)), some (.int t3), some (.int t32)]) (fun (t32 : Int32) => []) (fun t32 σ32 => ?_) (fun K32 jj32 => ?_)
    · refine jr_ald0 (pc := 175) hX dX9_advance_175 ?_
      refine jr_ild1 (pc := 176) hX dX9_advance_176 ?_
      refine jr_ck1 (fun a58 e58 h58 => ?_)
      refine jr_puti (pc := 177) hX fX9_38 rfl dX9_advance_177 h58 ?_
      refine jr_li ?_
      refine jr_ald0 (pc := 180) hX dX9_advance_180 ?_
      refine jr_ild2 (pc := 181) hX dX9_advance_181 ?_
      refine jr_ild1 (pc := 182) hX dX9_advance_182 ?_
      refine jr_isub (pc := 183) hX dX9_advance_183 ?_
      refine jr_ek1 e58 ?_
      refine jr_puti (pc := 184) hX fX9_41 rfl dX9_advance_184 h58 ?_
      refine jr_li ?_
      refine jr_ald0 (pc := 187) hX dX9_advance_187 ?_
      refine jr_ild2 (pc := 188) hX dX9_advance_188 ?_
      refine jr_ek1 e58 ?_
      refine jr_puti (pc := 189) hX fX9_32 rfl dX9_advance_189 h58 ?_
      refine jr_li ?_
      exact jr_vret (pc := 192) hX dX9_advance_192 rfl
    · refine jr_iclt (pc := 37) hX 48 dX9_advance_37 (by decide) ?_ ?_
      · refine jr_ald0 (pc := 48) hX dX9_advance_48 ?_
        refine jr_ek0 e6 ?_
        refine jr_getr (pc := 49) hX fX9_60 rfl dX9_advance_49 h6 ?_
        refine jr_ild1 (pc := 52) hX dX9_advance_52 ?_
        refine jr_baC (pc := 53) hX dX9_advance_53 (fun a33 n33 e33 h33 => ?_)
        refine jr_bipush (pc := 54) hX 59 rfl dX9_advance_54 ?_
        refine jr_icne (pc := 56) hX 70 dX9_advance_56 (by decide) ?_ ?_
        · refine jr_ald0 (pc := 70) hX dX9_advance_70 ?_
          refine jr_ek0 e6 ?_
          refine jr_getr (pc := 71) hX fX9_60 rfl dX9_advance_71 h6 ?_
          refine jr_ild1 (pc := 74) hX dX9_advance_74 ?_
          refine jr_baC (pc := 75) hX dX9_advance_75 (fun a34 n34 e34 h34 => ?_)
          refine jr_cS1i (pc := 76) hX lX9_228 (c_X9_isLetter hX.F σ3 _) (jd_dd hD rfl) (Nat.le_of_ble_eq_true rfl) dX9_advance_76 (fun r35 σ35 p35 => ?_)
          refine jr_ifeq (pc := 79) hX 128 dX9_advance_79 (by decide) ?_ ?_
          · refine jr_loop (pc := 128) (fun (s36 : Int32) => [some (jd_v (jd_gG X) (some t)), some (.int t3), some (.int s36)]) (fun (t37 : Int32) => [some (jd_v (jd_gG X) (some t)), some (.int t3), some (.int t37)]) 154 t3 (fun t37 σ37 => ?_) (fun K36 bk36 ex36 s36 σ36 => ?_)
            · refine jr_ald0 (pc := 154) hX dX9_advance_154 ?_
              refine jr_ild2 (pc := 155) hX dX9_advance_155 ?_
              refine jr_ild1 (pc := 156) hX dX9_advance_156 ?_
              refine jr_icle (pc := 157) hX 171 dX9_advance_157 (by decide) ?_ ?_
              · refine jr_iconst (pc := 171) hX 4 rfl dX9_advance_171 ?_
                refine jr_ck1 (fun a41 e41 h41 => ?_)
                refine jr_puti (pc := 172) hX fX9_35 rfl dX9_advance_172 h41 ?_
                refine jr_li ?_
                exact jj32 t37 _
              · refine jr_ild2 (pc := 160) hX dX9_advance_160 ?_
                refine jr_ild1 (pc := 161) hX dX9_advance_161 ?_
                refine jr_isub (pc := 162) hX dX9_advance_162 ?_
                refine jr_iconst (pc := 163) hX 3 rfl dX9_advance_163 ?_
                refine jr_icgt (pc := 164) hX 171 dX9_advance_164 (by decide) ?_ ?_
                · refine jr_iconst (pc := 171) hX 4 rfl dX9_advance_171 ?_
                  refine jr_ck1 (fun a43 e43 h43 => ?_)
                  refine jr_puti (pc := 172) hX fX9_35 rfl dX9_advance_172 h43 ?_
                  refine jr_li ?_
                  exact jj32 t37 _
                · refine jr_iconst (pc := 167) hX 2 rfl dX9_advance_167 ?_
                  refine jr_goto (pc := 168) hX 172 dX9_advance_168 (by decide) ?_
                  refine jr_ck1 (fun a45 e45 h45 => ?_)
                  refine jr_puti (pc := 172) hX fX9_35 rfl dX9_advance_172 h45 ?_
                  refine jr_li ?_
                  exact jj32 t37 _
            · refine jr_ild2 (pc := 128) hX dX9_advance_128 ?_
              refine jr_ald0 (pc := 129) hX dX9_advance_129 ?_
              refine jr_ck0 (fun a38 e38 h38 => ?_)
              refine jr_geti (pc := 130) hX fX9_29 rfl dX9_advance_130 h38 ?_
              refine jr_icge (pc := 133) hX 154 dX9_advance_133 (by decide) ?_ ?_
              · exact ex36 s36 _
              · refine jr_ald0 (pc := 136) hX dX9_advance_136 ?_
                refine jr_ek0 e38 ?_
                refine jr_getr (pc := 137) hX fX9_60 rfl dX9_advance_137 h38 ?_
                refine jr_ild2 (pc := 140) hX dX9_advance_140 ?_
                refine jr_baC (pc := 141) hX dX9_advance_141 (fun a39 n39 e39 h39 => ?_)
                refine jr_cS1i (pc := 142) hX lX9_231 (c_X9_isDigit hX.F σ36 _) (jd_dd hD rfl) (Nat.le_of_ble_eq_true rfl) dX9_advance_142 (fun r40 σ40 p40 => ?_)
                refine jr_ifeq (pc := 145) hX 154 dX9_advance_145 (by decide) ?_ ?_
                · exact ex36 s36 _
                · refine jr_inc2 (pc := 148) hX 1 rfl (jn_i _) dX9_advance_148 ?_
                  refine jr_goto (pc := 151) hX 128 dX9_advance_151 (by decide) ?_
                  exact bk36 (s36 + 1) _
          · refine jr_loop (pc := 82) (fun (s47 : Int32) => [some (jd_v (jd_gG X) (some t)), some (.int t3), some (.int s47)]) (fun (t48 : Int32) => [some (jd_v (jd_gG X) (some t)), some (.int t3), some (.int t48)]) 108 t3 (fun t48 σ48 => ?_) (fun K47 bk47 ex47 s47 σ47 => ?_)
            · refine jr_ald0 (pc := 108) hX dX9_advance_108 ?_
              refine jr_ild2 (pc := 109) hX dX9_advance_109 ?_
              refine jr_ild1 (pc := 110) hX dX9_advance_110 ?_
              refine jr_isub (pc := 111) hX dX9_advance_111 ?_
              refine jr_bipush (pc := 112) hX 8 rfl dX9_advance_112 ?_
              refine jr_icgt (pc := 114) hX 121 dX9_advance_114 (by decide) ?_ ?_
              · refine jr_iconst (pc := 121) hX 4 rfl dX9_advance_121 ?_
                refine jr_ck1 (fun a52 e52 h52 => ?_)
                refine jr_puti (pc := 122) hX fX9_35 rfl dX9_advance_122 h52 ?_
                refine jr_li ?_
                refine jr_goto (pc := 125) hX 175 dX9_advance_125 (by decide) ?_
                exact jj32 t48 _
              · refine jr_iconst (pc := 117) hX 1 rfl dX9_advance_117 ?_
                refine jr_goto (pc := 118) hX 122 dX9_advance_118 (by decide) ?_
                refine jr_ck1 (fun a54 e54 h54 => ?_)
                refine jr_puti (pc := 122) hX fX9_35 rfl dX9_advance_122 h54 ?_
                refine jr_li ?_
                refine jr_goto (pc := 125) hX 175 dX9_advance_125 (by decide) ?_
                exact jj32 t48 _
            · refine jr_ild2 (pc := 82) hX dX9_advance_82 ?_
              refine jr_ald0 (pc := 83) hX dX9_advance_83 ?_
              refine jr_ck0 (fun a49 e49 h49 => ?_)
              refine jr_geti (pc := 84) hX fX9_29 rfl dX9_advance_84 h49 ?_
              refine jr_icge (pc := 87) hX 108 dX9_advance_87 (by decide) ?_ ?_
              · exact ex47 s47 _
              · refine jr_ald0 (pc := 90) hX dX9_advance_90 ?_
                refine jr_ek0 e49 ?_
                refine jr_getr (pc := 91) hX fX9_60 rfl dX9_advance_91 h49 ?_
                refine jr_ild2 (pc := 94) hX dX9_advance_94 ?_
                refine jr_baC (pc := 95) hX dX9_advance_95 (fun a50 n50 e50 h50 => ?_)
                refine jr_cS1i (pc := 96) hX lX9_228 (c_X9_isLetter hX.F σ47 _) (jd_dd hD rfl) (Nat.le_of_ble_eq_true rfl) dX9_advance_96 (fun r51 σ51 p51 => ?_)
                refine jr_ifeq (pc := 99) hX 108 dX9_advance_99 (by decide) ?_ ?_
                · exact ex47 s47 _
                · refine jr_inc2 (pc := 102) hX 1 rfl (jn_i _) dX9_advance_102 ?_
                  refine jr_goto (pc := 105) hX 82 dX9_advance_105 (by decide) ?_
                  exact bk47 (s47 + 1) _
        · refine jr_ald0 (pc := 59) hX dX9_advance_59 ?_
          refine jr_iconst (pc := 60) hX 3 rfl dX9_advance_60 ?_
          refine jr_ek1 e6 ?_
          refine jr_puti (pc := 61) hX fX9_35 rfl dX9_advance_61 h6 ?_
          refine jr_li ?_
          refine jr_inc2 (pc := 64) hX 1 rfl (jn_i _) dX9_advance_64 ?_
          refine jr_goto (pc := 67) hX 175 dX9_advance_67 (by decide) ?_
          exact jj32 (t3 + 1) _
      · refine jr_ald0 (pc := 40) hX dX9_advance_40 ?_
        refine jr_iconst (pc := 41) hX 0 rfl dX9_advance_41 ?_
        refine jr_ek1 e6 ?_
        refine jr_puti (pc := 42) hX fX9_35 rfl dX9_advance_42 h6 ?_
        refine jr_li ?_
        refine jr_goto (pc := 45) hX 175 dX9_advance_45 (by decide) ?_
        exact jj32 t3 _
  · refine jr_ild1 (pc := 5) hX dX9_advance_5 ?_
    refine jr_ald0 (pc := 6) hX dX9_advance_6 ?_
    refine jr_ck0 (fun a4 e4 h4 => ?_)
    refine jr_geti (pc := 7) hX fX9_29 rfl dX9_advance_7 h4 ?_
    refine jr_icge (pc := 10) hX 30 dX9_advance_10 (by decide) ?_ ?_
    · exact ex2 s2 _
    · refine jr_ald0 (pc := 13) hX dX9_advance_13 ?_
      refine jr_ek0 e4 ?_
      refine jr_getr (pc := 14) hX fX9_60 rfl dX9_advance_14 h4 ?_
      refine jr_ild1 (pc := 17) hX dX9_advance_17 ?_
      refine jr_baC (pc := 18) hX dX9_advance_18 (fun a5 n5 e5 h5 => ?_)
      refine jr_bipush (pc := 19) hX 32 rfl dX9_advance_19 ?_
      refine jr_icne (pc := 21) hX 30 dX9_advance_21 (by decide) ?_ ?_
      · exact ex2 s2 _
      · refine jr_inc1 (pc := 24) hX 1 rfl (jn_r _ _) dX9_advance_24 ?_
        refine jr_goto (pc := 27) hX 5 dX9_advance_27 (by decide) ?_
        exact bk2 (s2 + 1) _
def m_X9_fail (t : Nat) (x0p : Int32) (σ : jd_Hp) : Option (Int32 × jd_Hp) :=
jd_li (jd_pi σ t 14 x0p) fun τ1 =>
jd_li (jd_pi τ1 t 15 (τ1.2.1 t 9)) fun τ2 =>
some (0, τ2)
set_option maxHeartbeats 4000000 in
set_option maxRecDepth 20000 in
theorem c_X9_fail {l : Launch} {s0 : State} {G : jd_G} (hF : jd_F s0 G) (σ : jd_Hp) (t : Nat) (ht : σ.1[t]? = some (9, 16)) (x0p : Int32) : jd_M l s0 G yX9_fail cX9_fail 2 (some .boolean) 0 je_i [jd_v G (some t), .int x0p] σ (m_X9_fail t x0p σ) := by
  refine jd_enter hF (by decide) (fun G => [some (jd_v G (some t)), some (.int x0p)]) rfl (by simp [lv_args, jd_al, jd_v_cat, jd_cti, jd_ctl]) (by simp [lg_sl, jd_v_cat, jd_cti, jd_ctl]) (fun X hD hX => ?_)
  have hX : jd_C X RX9 "fail" cX9_fail 2 (some .boolean) := hX
  unfold m_X9_fail
  refine jr_ald0 (pc := 0) hX dX9_fail_0 ?_
  refine jr_ild1 (pc := 1) hX dX9_fail_1 ?_
  refine jr_puti (pc := 2) hX fX9_54 rfl dX9_fail_2 ht ?_
  refine jr_li ?_
  refine jr_ald0 (pc := 5) hX dX9_fail_5 ?_
  refine jr_ald0 (pc := 6) hX dX9_fail_6 ?_
  refine jr_geti (pc := 7) hX fX9_38 rfl dX9_fail_7 ht ?_
  refine jr_puti (pc := 10) hX fX9_57 rfl dX9_fail_10 ht ?_
  refine jr_li ?_
  refine jr_iconst (pc := 13) hX 0 rfl dX9_fail_13 ?_
  exact jr_zret (pc := 14) hX dX9_fail_14 (Or.inl rfl) rfl
def m_X9_wholeValue (t : Nat) (σ : jd_Hp) : Option (Int32 × jd_Hp) :=
jd_b (jd_lp (S := Int32 × Int32) (T := Int32) (fun s1 σ1 =>
jd_o σ1 (9, 16) (some t) fun a3 =>
jd_if ((σ1.2.1 a3 10) ≤ s1.2) (
some ((Sum.inr s1.1), σ1)) (
jd_ia σ1 21 (σ1.2.2.2 a3 0) ((σ1.2.1 a3 9) + s1.2) fun a4 j4 =>
jd_li (((s1.1 * 10) + (σ1.2.1 a4 j4)) - 48) fun x5 =>
some (Sum.inl (x5, (s1.2 + 1)), σ1))) jd_fu (0, 0) σ) fun t2 σ2 =>
some (t2, σ2)
set_option maxHeartbeats 4000000 in
set_option maxRecDepth 20000 in
theorem c_X9_wholeValue {l : Launch} {s0 : State} {G : jd_G} (hF : jd_F s0 G) (σ : jd_Hp) (t : Nat) (ht : σ.1[t]? = some (9, 16)) : jd_M l s0 G yX9_wholeValue cX9_wholeValue 3 (some .int) 0 je_i [jd_v G (some t)] σ (m_X9_wholeValue t σ) := by
  refine jd_enter hF (by decide) (fun G => [some (jd_v G (some t)), none, none]) rfl (by simp [lv_args, jd_al, jd_v_cat, jd_cti, jd_ctl]) (by simp [lg_sl, jd_v_cat, jd_cti, jd_ctl]) (fun X hD hX => ?_)
  have hX : jd_C X RX9 "wholeValue" cX9_wholeValue 3 (some .int) := hX
  unfold m_X9_wholeValue
  refine jr_iconst (pc := 0) hX 0 rfl dX9_wholeValue_0 ?_
  refine jr_ist1 (pc := 1) hX (jn_r _ _) dX9_wholeValue_1 ?_
  refine jr_iconst (pc := 2) hX 0 rfl dX9_wholeValue_2 ?_
  refine jr_ist2 (pc := 3) hX (jn_i _) dX9_wholeValue_3 ?_
  refine jr_loop (pc := 4) (fun (s1 : Int32 × Int32) => [some (jd_v (jd_gG X) (some t)), some (.int s1.1), some (.int s1.2)]) (fun (t2 : Int32) => [none, some (.int t2), none]) 38 (0, 0) (fun t2 σ2 => ?_) (fun K1 bk1 ex1 s1 σ1 => ?_)
  · refine jr_ild1 (pc := 38) hX dX9_wholeValue_38 ?_
    exact jr_iret (pc := 39) hX dX9_wholeValue_39 rfl
  · refine jr_ild2 (pc := 4) hX dX9_wholeValue_4 ?_
    refine jr_ald0 (pc := 5) hX dX9_wholeValue_5 ?_
    refine jr_ck0 (fun a3 e3 h3 => ?_)
    refine jr_geti (pc := 6) hX fX9_41 rfl dX9_wholeValue_6 h3 ?_
    refine jr_icge (pc := 9) hX 38 dX9_wholeValue_9 (by decide) ?_ ?_
    · refine jr_wk [false, true, false] ?_
      exact ex1 s1.1 _
    · refine jr_ild1 (pc := 12) hX dX9_wholeValue_12 ?_
      refine jr_bipush (pc := 13) hX 10 rfl dX9_wholeValue_13 ?_
      refine jr_imul (pc := 15) hX dX9_wholeValue_15 ?_
      refine jr_ald0 (pc := 16) hX dX9_wholeValue_16 ?_
      refine jr_ek0 e3 ?_
      refine jr_getr (pc := 17) hX fX9_60 rfl dX9_wholeValue_17 h3 ?_
      refine jr_ald0 (pc := 20) hX dX9_wholeValue_20 ?_
      refine jr_ek0 e3 ?_
      refine jr_geti (pc := 21) hX fX9_38 rfl dX9_wholeValue_21 h3 ?_
      refine jr_ild2 (pc := 24) hX dX9_wholeValue_24 ?_
      refine jr_iadd (pc := 25) hX dX9_wholeValue_25 ?_
      refine jr_baC (pc := 26) hX dX9_wholeValue_26 (fun a4 n4 e4 h4 => ?_)
      refine jr_iadd (pc := 27) hX dX9_wholeValue_27 ?_
      refine jr_bipush (pc := 28) hX 48 rfl dX9_wholeValue_28 ?_
      refine jr_isub (pc := 30) hX dX9_wholeValue_30 ?_
      refine jr_ist1 (pc := 31) hX (jn_r _ _) dX9_wholeValue_31 ?_
      refine jr_li ?_
      refine jr_inc2 (pc := 32) hX 1 rfl (jn_i _) dX9_wholeValue_32 ?_
      refine jr_goto (pc := 35) hX 4 dX9_wholeValue_35 (by decide) ?_
      exact bk1 ((((s1.1 * 10) + (σ1.2.1 a4 (((σ1.2.1 a3 9) + s1.2).toNatClampNeg))) - 48), (s1.2 + 1)) _
def m_X9_isSameText (t : Nat) (x0p : Int32) (σ : jd_Hp) : Option (Int32 × jd_Hp) :=
jd_b (jd_lp (S := Int32) (T := (Unit) ⊕ Int32) (fun s1 σ1 =>
jd_o σ1 (9, 16) (some t) fun a3 =>
jd_if ((σ1.2.1 a3 10) ≤ s1) (
some ((Sum.inr (Sum.inl ())), σ1)) (
jd_ia σ1 21 (σ1.2.2.2 a3 0) (x0p + s1) fun a4 j4 =>
jd_ia σ1 21 (σ1.2.2.2 a3 0) ((σ1.2.1 a3 9) + s1) fun a5 j5 =>
jd_if ((σ1.2.1 a4 j4) = (σ1.2.1 a5 j5)) (
some (Sum.inl (s1 + 1), σ1)) (
some (Sum.inr (Sum.inr 0), σ1)))) jd_fu 0 σ) (jd_q (fun t2 σ2 =>
some (1, σ2)) (fun v1 σ2 => some (v1, σ2)))
set_option maxHeartbeats 4000000 in
set_option maxRecDepth 20000 in
theorem c_X9_isSameText {l : Launch} {s0 : State} {G : jd_G} (hF : jd_F s0 G) (σ : jd_Hp) (t : Nat) (ht : σ.1[t]? = some (9, 16)) (x0p : Int32) : jd_M l s0 G yX9_isSameText cX9_isSameText 3 (some .boolean) 0 je_i [jd_v G (some t), .int x0p] σ (m_X9_isSameText t x0p σ) := by
  refine jd_enter hF (by decide) (fun G => [some (jd_v G (some t)), some (.int x0p), none]) rfl (by simp [lv_args, jd_al, jd_v_cat, jd_cti, jd_ctl]) (by simp [lg_sl, jd_v_cat, jd_cti, jd_ctl]) (fun X hD hX => ?_)
  have hX : jd_C X RX9 "isSameText" cX9_isSameText 3 (some .boolean) := hX
  unfold m_X9_isSameText
  refine jr_iconst (pc := 0) hX 0 rfl dX9_isSameText_0 ?_
  refine jr_ist2 (pc := 1) hX (jn_i _) dX9_isSameText_1 ?_
  refine jr_loopR (pc := 2) (fun (s1 : Int32) => [some (jd_v (jd_gG X) (some t)), some (.int x0p), some (.int s1)]) (fun (t2 : Unit) => [none, none, none]) 40 0 (fun t2 σ2 => ?_) (fun K1 bk1 ex1 wr1 s1 σ1 => ?_)
  · refine jr_iconst (pc := 40) hX 1 rfl dX9_isSameText_40 ?_
    exact jr_zret (pc := 41) hX dX9_isSameText_41 (Or.inr rfl) rfl
  · refine jr_ild2 (pc := 2) hX dX9_isSameText_2 ?_
    refine jr_ald0 (pc := 3) hX dX9_isSameText_3 ?_
    refine jr_ck0 (fun a3 e3 h3 => ?_)
    refine jr_geti (pc := 4) hX fX9_41 rfl dX9_isSameText_4 h3 ?_
    refine jr_icge (pc := 7) hX 40 dX9_isSameText_7 (by decide) ?_ ?_
    · refine jr_wk [false, false, false] ?_
      exact ex1 () _
    · refine jr_ald0 (pc := 10) hX dX9_isSameText_10 ?_
      refine jr_ek0 e3 ?_
      refine jr_getr (pc := 11) hX fX9_60 rfl dX9_isSameText_11 h3 ?_
      refine jr_ild1 (pc := 14) hX dX9_isSameText_14 ?_
      refine jr_ild2 (pc := 15) hX dX9_isSameText_15 ?_
      refine jr_iadd (pc := 16) hX dX9_isSameText_16 ?_
      refine jr_baC (pc := 17) hX dX9_isSameText_17 (fun a4 n4 e4 h4 => ?_)
      refine jr_ald0 (pc := 18) hX dX9_isSameText_18 ?_
      refine jr_ek0 e3 ?_
      refine jr_getr (pc := 19) hX fX9_60 rfl dX9_isSameText_19 h3 ?_
      refine jr_ald0 (pc := 22) hX dX9_isSameText_22 ?_
      refine jr_ek0 e3 ?_
      refine jr_geti (pc := 23) hX fX9_38 rfl dX9_isSameText_23 h3 ?_
      refine jr_ild2 (pc := 26) hX dX9_isSameText_26 ?_
      refine jr_iadd (pc := 27) hX dX9_isSameText_27 ?_
      refine jr_baC (pc := 28) hX dX9_isSameText_28 (fun a5 n5 e5 h5 => ?_)
      refine jr_iceq (pc := 29) hX 34 dX9_isSameText_29 (by decide) ?_ ?_
      · refine jr_inc2 (pc := 34) hX 1 rfl (jn_i _) dX9_isSameText_34 ?_
        refine jr_goto (pc := 37) hX 2 dX9_isSameText_37 (by decide) ?_
        exact bk1 (s1 + 1) _
      · refine jr_iconst (pc := 32) hX 0 rfl dX9_isSameText_32 ?_
        exact jr_zret (pc := 33) hX dX9_isSameText_33 (Or.inl rfl) ((wr1 _ _).trans rfl)
def m_X9_nameIndex (t : Nat) (σ : jd_Hp) : Option (Int32 × jd_Hp) :=
jd_b (jd_lp (S := Int32) (T := (Unit) ⊕ Int32) (fun s1 σ1 =>
jd_o σ1 (9, 16) (some t) fun a3 =>
jd_if ((σ1.2.1 a3 5) ≤ s1) (
some ((Sum.inr (Sum.inl ())), σ1)) (
jd_ia σ1 20 (σ1.2.2.2 a3 2) s1 fun a4 j4 =>
jd_if (¬ (σ1.2.1 a4 j4) = (σ1.2.1 a3 10)) (
some (Sum.inl (s1 + 1), σ1)) (
jd_ia σ1 20 (σ1.2.2.2 a3 1) s1 fun a5 j5 =>
jd_b (m_X9_isSameText a3 (σ1.2.1 a5 j5) σ1) fun r6 σ6 =>
jd_if (r6 = 0) (
some (Sum.inl (s1 + 1), σ6)) (
some (Sum.inr (Sum.inr s1), σ6))))) jd_fu 0 σ) (jd_q (fun t2 σ2 =>
some ((-1), σ2)) (fun v1 σ2 => some (v1, σ2)))
set_option maxHeartbeats 4000000 in
set_option maxRecDepth 20000 in
theorem c_X9_nameIndex {l : Launch} {s0 : State} {G : jd_G} (hF : jd_F s0 G) (σ : jd_Hp) (t : Nat) (ht : σ.1[t]? = some (9, 16)) : jd_M l s0 G yX9_nameIndex cX9_nameIndex 2 (some .int) 1 je_i [jd_v G (some t)] σ (m_X9_nameIndex t σ) := by
  refine jd_enter hF (by decide) (fun G => [some (jd_v G (some t)), none]) rfl (by simp [lv_args, jd_al, jd_v_cat, jd_cti, jd_ctl]) (by simp [lg_sl, jd_v_cat, jd_cti, jd_ctl]) (fun X hD hX => ?_)
  have hX : jd_C X RX9 "nameIndex" cX9_nameIndex 2 (some .int) := hX
  unfold m_X9_nameIndex
  refine jr_iconst (pc := 0) hX 0 rfl dX9_nameIndex_0 ?_
  refine jr_ist1 (pc := 1) hX (jn_r _ _) dX9_nameIndex_1 ?_
  refine jr_loopR (pc := 2) (fun (s1 : Int32) => [some (jd_v (jd_gG X) (some t)), some (.int s1)]) (fun (t2 : Unit) => [none, none]) 44 0 (fun t2 σ2 => ?_) (fun K1 bk1 ex1 wr1 s1 σ1 => ?_)
  · refine jr_iconst (pc := 44) hX (-1) rfl dX9_nameIndex_44 ?_
    exact jr_iret (pc := 45) hX dX9_nameIndex_45 rfl
  · refine jr_ild1 (pc := 2) hX dX9_nameIndex_2 ?_
    refine jr_ald0 (pc := 3) hX dX9_nameIndex_3 ?_
    refine jr_ck0 (fun a3 e3 h3 => ?_)
    refine jr_geti (pc := 4) hX fX9_25 rfl dX9_nameIndex_4 h3 ?_
    refine jr_icge (pc := 7) hX 44 dX9_nameIndex_7 (by decide) ?_ ?_
    · refine jr_wk [false, false] ?_
      exact ex1 () _
    · refine jr_ald0 (pc := 10) hX dX9_nameIndex_10 ?_
      refine jr_ek0 e3 ?_
      refine jr_getr (pc := 11) hX fX9_15 rfl dX9_nameIndex_11 h3 ?_
      refine jr_ild1 (pc := 14) hX dX9_nameIndex_14 ?_
      refine jr_iaC (pc := 15) hX dX9_nameIndex_15 (fun a4 n4 e4 h4 => ?_)
      refine jr_ald0 (pc := 16) hX dX9_nameIndex_16 ?_
      refine jr_ek0 e3 ?_
      refine jr_geti (pc := 17) hX fX9_41 rfl dX9_nameIndex_17 h3 ?_
      refine jr_icne (pc := 20) hX 38 dX9_nameIndex_20 (by decide) ?_ ?_
      · refine jr_inc1 (pc := 38) hX 1 rfl (jn_r _ _) dX9_nameIndex_38 ?_
        refine jr_goto (pc := 41) hX 2 dX9_nameIndex_41 (by decide) ?_
        exact bk1 (s1 + 1) _
      · refine jr_ald0 (pc := 23) hX dX9_nameIndex_23 ?_
        refine jr_ald0 (pc := 24) hX dX9_nameIndex_24 ?_
        refine jr_ek0 e3 ?_
        refine jr_getr (pc := 25) hX fX9_11 rfl dX9_nameIndex_25 h3 ?_
        refine jr_ild1 (pc := 28) hX dX9_nameIndex_28 ?_
        refine jr_iaC (pc := 29) hX dX9_nameIndex_29 (fun a5 n5 e5 h5 => ?_)
        refine jr_ek1 e3 ?_
        refine jr_cV1i (pc := 30) hX lX9_206 (c_X9_isSameText hX.F σ1 a3 h3 _) (jd_dd hD rfl) (Nat.le_of_ble_eq_true rfl) dX9_nameIndex_30 h3 (fun r6 σ6 p6 => ?_)
        refine jr_ifeq (pc := 33) hX 38 dX9_nameIndex_33 (by decide) ?_ ?_
        · refine jr_inc1 (pc := 38) hX 1 rfl (jn_r _ _) dX9_nameIndex_38 ?_
          refine jr_goto (pc := 41) hX 2 dX9_nameIndex_41 (by decide) ?_
          exact bk1 (s1 + 1) _
        · refine jr_ild1 (pc := 36) hX dX9_nameIndex_36 ?_
          exact jr_iret (pc := 37) hX dX9_nameIndex_37 ((wr1 _ _).trans rfl)
def m_X10_count (t : Nat) (x0p : Int32) (σ : jd_Hp) : Option (Int32 × jd_Hp) :=
jd_sw x0p 0 [
some ((σ.2.1 t 8), σ),
some ((σ.2.1 t 9), σ),
some ((σ.2.1 t 10), σ),
some ((σ.2.1 t 11), σ),
some ((σ.2.1 t 12), σ),
jd_b (m_J6_bitCount_0f7a4 (σ.2.1 t 13) σ) fun r1 σ1 =>
some (r1, σ1),
some ((σ.2.1 t 14), σ)] (
some ((σ.2.1 t 15), σ))
set_option maxHeartbeats 4000000 in
set_option maxRecDepth 20000 in
theorem c_X10_count {l : Launch} {s0 : State} {G : jd_G} (hF : jd_F s0 G) (σ : jd_Hp) (t : Nat) (ht : σ.1[t]? = some (10, 16)) (x0p : Int32) : jd_M l s0 G yX10_count cX10_count 2 (some .int) 1 je_i [jd_v G (some t), .int x0p] σ (m_X10_count t x0p σ) := by
  refine jd_enter hF (by decide) (fun G => [some (jd_v G (some t)), some (.int x0p)]) rfl (by simp [lv_args, jd_al, jd_v_cat, jd_cti, jd_ctl]) (by simp [lg_sl, jd_v_cat, jd_cti, jd_ctl]) (fun X hD hX => ?_)
  have hX : jd_C X RX10 "count" cX10_count 2 (some .int) := hX
  unfold m_X10_count
  refine jr_ild1 (pc := 0) hX dX10_count_0 ?_
  refine jr_tsw (pc := 1) hX [44, 49, 54, 59, 64, 69, 77] 82 dX10_count_1 (by decide) rfl (by decide) rfl (fun i t A h1 h2 => ?_) ?_
  · match i, h1, h2 with
    | 0, h1, h2 =>
      cases h1
      cases h2
      refine jr_ald0 (pc := 44) hX dX10_count_44 ?_
      refine jr_geti (pc := 45) hX fX10_36 rfl dX10_count_45 ht ?_
      exact jr_iret (pc := 48) hX dX10_count_48 rfl
    | 1, h1, h2 =>
      cases h1
      cases h2
      refine jr_ald0 (pc := 49) hX dX10_count_49 ?_
      refine jr_geti (pc := 50) hX fX10_40 rfl dX10_count_50 ht ?_
      exact jr_iret (pc := 53) hX dX10_count_53 rfl
    | 2, h1, h2 =>
      cases h1
      cases h2
      refine jr_ald0 (pc := 54) hX dX10_count_54 ?_
      refine jr_geti (pc := 55) hX fX10_43 rfl dX10_count_55 ht ?_
      exact jr_iret (pc := 58) hX dX10_count_58 rfl
    | 3, h1, h2 =>
      cases h1
      cases h2
      refine jr_ald0 (pc := 59) hX dX10_count_59 ?_
      refine jr_geti (pc := 60) hX fX10_46 rfl dX10_count_60 ht ?_
      exact jr_iret (pc := 63) hX dX10_count_63 rfl
    | 4, h1, h2 =>
      cases h1
      cases h2
      refine jr_ald0 (pc := 64) hX dX10_count_64 ?_
      refine jr_geti (pc := 65) hX fX10_49 rfl dX10_count_65 ht ?_
      exact jr_iret (pc := 68) hX dX10_count_68 rfl
    | 5, h1, h2 =>
      cases h1
      cases h2
      refine jr_ald0 (pc := 69) hX dX10_count_69 ?_
      refine jr_geti (pc := 70) hX fX10_52 rfl dX10_count_70 ht ?_
      refine jr_cS1i (pc := 73) hX lX10_61 (c_J6_bitCount_0f7a4 hX.F σ _) (jd_dd hD rfl) (Nat.le_of_ble_eq_true rfl) dX10_count_73 (fun r1 σ1 p1 => ?_)
      exact jr_iret (pc := 76) hX dX10_count_76 rfl
    | 6, h1, h2 =>
      cases h1
      cases h2
      refine jr_ald0 (pc := 77) hX dX10_count_77 ?_
      refine jr_geti (pc := 78) hX fX10_55 rfl dX10_count_78 ht ?_
      exact jr_iret (pc := 81) hX dX10_count_81 rfl
    | i + 7, h1, h2 => simp at h1
  · refine jr_ald0 (pc := 82) hX dX10_count_82 ?_
    refine jr_geti (pc := 83) hX fX10_58 rfl dX10_count_83 ht ?_
    exact jr_iret (pc := 86) hX dX10_count_86 rfl
def m_X10_knownBy (t : Nat) (x0p : Int32) (σ : jd_Hp) : Option (Int32 × jd_Hp) :=
jd_b (jd_lp (S := Int32 × Int32) (T := Int32) (fun s1 σ1 =>
jd_o σ1 (10, 16) (some t) fun a3 =>
jd_if ((σ1.2.1 a3 11) ≤ s1.2) (
some ((Sum.inr s1.1), σ1)) (
jd_b (m_X11_has x0p s1.2 σ1) fun r4 σ4 =>
jd_if (r4 = 0) (
some (Sum.inl (s1.1, (s1.2 + 1)), σ4)) (
jd_ia σ4 20 (σ4.2.2.2 a3 4) s1.2 fun a5 j5 =>
jd_li (s1.1 ||| (σ4.2.1 a5 j5)) fun x6 =>
some (Sum.inl (x6, (s1.2 + 1)), σ4)))) jd_fu (0, 0) σ) fun t2 σ2 =>
some (t2, σ2)
set_option maxHeartbeats 4000000 in
set_option maxRecDepth 20000 in
theorem c_X10_knownBy {l : Launch} {s0 : State} {G : jd_G} (hF : jd_F s0 G) (σ : jd_Hp) (t : Nat) (ht : σ.1[t]? = some (10, 16)) (x0p : Int32) : jd_M l s0 G yX10_knownBy cX10_knownBy 4 (some .int) 1 je_i [jd_v G (some t), .int x0p] σ (m_X10_knownBy t x0p σ) := by
  refine jd_enter hF (by decide) (fun G => [some (jd_v G (some t)), some (.int x0p), none, none]) rfl (by simp [lv_args, jd_al, jd_v_cat, jd_cti, jd_ctl]) (by simp [lg_sl, jd_v_cat, jd_cti, jd_ctl]) (fun X hD hX => ?_)
  have hX : jd_C X RX10 "knownBy" cX10_knownBy 4 (some .int) := hX
  unfold m_X10_knownBy
  refine jr_iconst (pc := 0) hX 0 rfl dX10_knownBy_0 ?_
  refine jr_ist2 (pc := 1) hX (jn_i _) dX10_knownBy_1 ?_
  refine jr_iconst (pc := 2) hX 0 rfl dX10_knownBy_2 ?_
  refine jr_ist3 (pc := 3) hX (jn_i _) dX10_knownBy_3 ?_
  refine jr_loop (pc := 4) (fun (s1 : Int32 × Int32) => [some (jd_v (jd_gG X) (some t)), some (.int x0p), some (.int s1.1), some (.int s1.2)]) (fun (t2 : Int32) => [none, none, some (.int t2), none]) 35 (0, 0) (fun t2 σ2 => ?_) (fun K1 bk1 ex1 s1 σ1 => ?_)
  · refine jr_ild2 (pc := 35) hX dX10_knownBy_35 ?_
    exact jr_iret (pc := 36) hX dX10_knownBy_36 rfl
  · refine jr_ild3 (pc := 4) hX dX10_knownBy_4 ?_
    refine jr_ald0 (pc := 5) hX dX10_knownBy_5 ?_
    refine jr_ck0 (fun a3 e3 h3 => ?_)
    refine jr_geti (pc := 6) hX fX10_46 rfl dX10_knownBy_6 h3 ?_
    refine jr_icge (pc := 9) hX 35 dX10_knownBy_9 (by decide) ?_ ?_
    · refine jr_wk [false, false, true, false] ?_
      exact ex1 s1.1 _
    · refine jr_ild1 (pc := 12) hX dX10_knownBy_12 ?_
      refine jr_ild3 (pc := 13) hX dX10_knownBy_13 ?_
      refine jr_cS2i (pc := 14) hX lX10_76 (c_X11_has hX.F σ1 _ _) (jd_dd hD rfl) (Nat.le_of_ble_eq_true rfl) dX10_knownBy_14 (fun r4 σ4 p4 => ?_)
      refine jr_ifeq (pc := 17) hX 29 dX10_knownBy_17 (by decide) ?_ ?_
      · refine jr_inc3 (pc := 29) hX 1 rfl (jn_i _) dX10_knownBy_29 ?_
        refine jr_goto (pc := 32) hX 4 dX10_knownBy_32 (by decide) ?_
        exact bk1 (s1.1, (s1.2 + 1)) _
      · refine jr_ild2 (pc := 20) hX dX10_knownBy_20 ?_
        refine jr_ald0 (pc := 21) hX dX10_knownBy_21 ?_
        refine jr_ek0 e3 ?_
        refine jr_getr (pc := 22) hX fX10_24 rfl dX10_knownBy_22 (p4.at h3 :) ?_
        refine jr_ild3 (pc := 25) hX dX10_knownBy_25 ?_
        refine jr_iaC (pc := 26) hX dX10_knownBy_26 (fun a5 n5 e5 h5 => ?_)
        refine jr_ior (pc := 27) hX dX10_knownBy_27 ?_
        refine jr_ist2 (pc := 28) hX (jn_i _) dX10_knownBy_28 ?_
        refine jr_li ?_
        refine jr_inc3 (pc := 29) hX 1 rfl (jn_i _) dX10_knownBy_29 ?_
        refine jr_goto (pc := 32) hX 4 dX10_knownBy_32 (by decide) ?_
        exact bk1 ((s1.1 ||| (σ4.2.1 a5 s1.2.toNatClampNeg)), (s1.2 + 1)) _
def m_X10_fewestTaught (t : Nat) (σ : jd_Hp) : Option (Int32 × jd_Hp) :=
jd_li ((1 <<< ((σ.2.1 t 11) &&& 31)) - 1) fun x1 =>
jd_b (jd_lp (S := Int32 × Int32) (T := Int32) (fun s2 σ2 =>
jd_if (x1 ≤ s2.2) (
some ((Sum.inr s2.1), σ2)) (
jd_b (m_J6_bitCount_0f7a4 s2.2 σ2) fun r4 σ4 =>
jd_b (m_J6_bitCount_0f7a4 s2.1 σ4) fun r5 σ5 =>
jd_if (r5 ≤ r4) (
some (Sum.inl (s2.1, (s2.2 + 1)), σ5)) (
jd_o σ5 (10, 16) (some t) fun a6 =>
jd_b (m_X10_knownBy a6 s2.2 σ5) fun r7 σ7 =>
jd_if (¬ (s2.2 ||| r7) = x1) (
some (Sum.inl (s2.1, (s2.2 + 1)), σ7)) (
some (Sum.inl (s2.2, (s2.2 + 1)), σ7))))) jd_fu (x1, 0) σ) fun t3 σ3 =>
some (t3, σ3)
set_option maxHeartbeats 4000000 in
set_option maxRecDepth 20000 in
theorem c_X10_fewestTaught {l : Launch} {s0 : State} {G : jd_G} (hF : jd_F s0 G) (σ : jd_Hp) (t : Nat) (ht : σ.1[t]? = some (10, 16)) : jd_M l s0 G yX10_fewestTaught cX10_fewestTaught 4 (some .int) 2 je_i [jd_v G (some t)] σ (m_X10_fewestTaught t σ) := by
  refine jd_enter hF (by decide) (fun G => [some (jd_v G (some t)), none, none, none]) rfl (by simp [lv_args, jd_al, jd_v_cat, jd_cti, jd_ctl]) (by simp [lg_sl, jd_v_cat, jd_cti, jd_ctl]) (fun X hD hX => ?_)
  have hX : jd_C X RX10 "fewestTaught" cX10_fewestTaught 4 (some .int) := hX
  unfold m_X10_fewestTaught
  refine jr_iconst (pc := 0) hX 1 rfl dX10_fewestTaught_0 ?_
  refine jr_ald0 (pc := 1) hX dX10_fewestTaught_1 ?_
  refine jr_geti (pc := 2) hX fX10_46 rfl dX10_fewestTaught_2 ht ?_
  refine jr_ishl (pc := 5) hX dX10_fewestTaught_5 ?_
  refine jr_iconst (pc := 6) hX 1 rfl dX10_fewestTaught_6 ?_
  refine jr_isub (pc := 7) hX dX10_fewestTaught_7 ?_
  refine jr_ist1 (pc := 8) hX (jn_r _ _) dX10_fewestTaught_8 ?_
  refine jr_li ?_
  refine jr_ild1 (pc := 9) hX dX10_fewestTaught_9 ?_
  refine jr_ist2 (pc := 10) hX (jn_i _) dX10_fewestTaught_10 ?_
  refine jr_iconst (pc := 11) hX 0 rfl dX10_fewestTaught_11 ?_
  refine jr_ist3 (pc := 12) hX (jn_i _) dX10_fewestTaught_12 ?_
  refine jr_loop (pc := 13) (fun (s2 : Int32 × Int32) => [some (jd_v (jd_gG X) (some t)), some (.int ((1 <<< ((σ.2.1 t 11) &&& 31)) - 1)), some (.int s2.1), some (.int s2.2)]) (fun (t3 : Int32) => [none, none, some (.int t3), none]) 48 (((1 <<< ((σ.2.1 t 11) &&& 31)) - 1), 0) (fun t3 σ3 => ?_) (fun K2 bk2 ex2 s2 σ2 => ?_)
  · refine jr_ild2 (pc := 48) hX dX10_fewestTaught_48 ?_
    exact jr_iret (pc := 49) hX dX10_fewestTaught_49 rfl
  · refine jr_ild3 (pc := 13) hX dX10_fewestTaught_13 ?_
    refine jr_ild1 (pc := 14) hX dX10_fewestTaught_14 ?_
    refine jr_icge (pc := 15) hX 48 dX10_fewestTaught_15 (by decide) ?_ ?_
    · refine jr_wk [false, false, true, false] ?_
      exact ex2 s2.1 _
    · refine jr_ild3 (pc := 18) hX dX10_fewestTaught_18 ?_
      refine jr_cS1i (pc := 19) hX lX10_61 (c_J6_bitCount_0f7a4 hX.F σ2 _) (jd_dd hD rfl) (Nat.le_of_ble_eq_true rfl) dX10_fewestTaught_19 (fun r4 σ4 p4 => ?_)
      refine jr_ild2 (pc := 22) hX dX10_fewestTaught_22 ?_
      refine jr_cS1i (pc := 23) hX lX10_61 (c_J6_bitCount_0f7a4 hX.F σ4 _) (jd_dd hD rfl) (Nat.le_of_ble_eq_true rfl) dX10_fewestTaught_23 (fun r5 σ5 p5 => ?_)
      refine jr_icge (pc := 26) hX 42 dX10_fewestTaught_26 (by decide) ?_ ?_
      · refine jr_inc3 (pc := 42) hX 1 rfl (jn_i _) dX10_fewestTaught_42 ?_
        refine jr_goto (pc := 45) hX 13 dX10_fewestTaught_45 (by decide) ?_
        exact bk2 (s2.1, (s2.2 + 1)) _
      · refine jr_ild3 (pc := 29) hX dX10_fewestTaught_29 ?_
        refine jr_ald0 (pc := 30) hX dX10_fewestTaught_30 ?_
        refine jr_ild3 (pc := 31) hX dX10_fewestTaught_31 ?_
        refine jr_ck1 (fun a6 e6 h6 => ?_)
        refine jr_cV1i (pc := 32) hX lX10_73 (c_X10_knownBy hX.F σ5 a6 h6 _) (jd_dd hD rfl) (Nat.le_of_ble_eq_true rfl) dX10_fewestTaught_32 h6 (fun r7 σ7 p7 => ?_)
        refine jr_ior (pc := 35) hX dX10_fewestTaught_35 ?_
        refine jr_ild1 (pc := 36) hX dX10_fewestTaught_36 ?_
        refine jr_icne (pc := 37) hX 42 dX10_fewestTaught_37 (by decide) ?_ ?_
        · refine jr_inc3 (pc := 42) hX 1 rfl (jn_i _) dX10_fewestTaught_42 ?_
          refine jr_goto (pc := 45) hX 13 dX10_fewestTaught_45 (by decide) ?_
          exact bk2 (s2.1, (s2.2 + 1)) _
        · refine jr_ild3 (pc := 40) hX dX10_fewestTaught_40 ?_
          refine jr_ist2 (pc := 41) hX (jn_i _) dX10_fewestTaught_41 ?_
          refine jr_inc3 (pc := 42) hX 1 rfl (jn_i _) dX10_fewestTaught_42 ?_
          refine jr_goto (pc := 45) hX 13 dX10_fewestTaught_45 (by decide) ?_
          exact bk2 (s2.2, (s2.2 + 1)) _
def m_X10_hearersOf (t : Nat) (x0p : Int32) (σ : jd_Hp) : Option (Int32 × jd_Hp) :=
jd_li (1 <<< (x0p &&& 31)) fun x1 =>
jd_b (jd_lp (S := Int32 × Int32) (T := Int32) (fun s2 σ2 =>
jd_if (6 ≤ s2.2) (
some ((Sum.inr s2.1), σ2)) (
jd_o σ2 (10, 16) (some t) fun a4 =>
jd_b (m_X10_knownBy a4 s2.1 σ2) fun r5 σ5 =>
jd_li (s2.1 ||| r5) fun x6 =>
some (Sum.inl (x6, (s2.2 + 1)), σ5))) jd_fu (x1, 0) σ) fun t3 σ3 =>
some (t3, σ3)
set_option maxHeartbeats 4000000 in
set_option maxRecDepth 20000 in
theorem c_X10_hearersOf {l : Launch} {s0 : State} {G : jd_G} (hF : jd_F s0 G) (σ : jd_Hp) (t : Nat) (ht : σ.1[t]? = some (10, 16)) (x0p : Int32) : jd_M l s0 G yX10_hearersOf cX10_hearersOf 4 (some .int) 2 je_i [jd_v G (some t), .int x0p] σ (m_X10_hearersOf t x0p σ) := by
  refine jd_enter hF (by decide) (fun G => [some (jd_v G (some t)), some (.int x0p), none, none]) rfl (by simp [lv_args, jd_al, jd_v_cat, jd_cti, jd_ctl]) (by simp [lg_sl, jd_v_cat, jd_cti, jd_ctl]) (fun X hD hX => ?_)
  have hX : jd_C X RX10 "hearersOf" cX10_hearersOf 4 (some .int) := hX
  unfold m_X10_hearersOf
  refine jr_iconst (pc := 0) hX 1 rfl dX10_hearersOf_0 ?_
  refine jr_ild1 (pc := 1) hX dX10_hearersOf_1 ?_
  refine jr_ishl (pc := 2) hX dX10_hearersOf_2 ?_
  refine jr_ist2 (pc := 3) hX (jn_i _) dX10_hearersOf_3 ?_
  refine jr_li ?_
  refine jr_iconst (pc := 4) hX 0 rfl dX10_hearersOf_4 ?_
  refine jr_ist3 (pc := 5) hX (jn_i _) dX10_hearersOf_5 ?_
  refine jr_wk [true, false, true, true] ?_
  refine jr_loop (pc := 6) (fun (s2 : Int32 × Int32) => [some (jd_v (jd_gG X) (some t)), none, some (.int s2.1), some (.int s2.2)]) (fun (t3 : Int32) => [none, none, some (.int t3), none]) 26 ((1 <<< (x0p &&& 31)), 0) (fun t3 σ3 => ?_) (fun K2 bk2 ex2 s2 σ2 => ?_)
  · refine jr_ild2 (pc := 26) hX dX10_hearersOf_26 ?_
    exact jr_iret (pc := 27) hX dX10_hearersOf_27 rfl
  · refine jr_ild3 (pc := 6) hX dX10_hearersOf_6 ?_
    refine jr_bipush (pc := 7) hX 6 rfl dX10_hearersOf_7 ?_
    refine jr_icge (pc := 9) hX 26 dX10_hearersOf_9 (by decide) ?_ ?_
    · refine jr_wk [false, true, true, false] ?_
      exact ex2 s2.1 _
    · refine jr_ild2 (pc := 12) hX dX10_hearersOf_12 ?_
      refine jr_ald0 (pc := 13) hX dX10_hearersOf_13 ?_
      refine jr_ild2 (pc := 14) hX dX10_hearersOf_14 ?_
      refine jr_ck1 (fun a4 e4 h4 => ?_)
      refine jr_cV1i (pc := 15) hX lX10_73 (c_X10_knownBy hX.F σ2 a4 h4 _) (jd_dd hD rfl) (Nat.le_of_ble_eq_true rfl) dX10_hearersOf_15 h4 (fun r5 σ5 p5 => ?_)
      refine jr_ior (pc := 18) hX dX10_hearersOf_18 ?_
      refine jr_ist2 (pc := 19) hX jn_n dX10_hearersOf_19 ?_
      refine jr_li ?_
      refine jr_inc3 (pc := 20) hX 1 rfl (jn_i _) dX10_hearersOf_20 ?_
      refine jr_goto (pc := 23) hX 6 dX10_hearersOf_23 (by decide) ?_
      exact bk2 ((s2.1 ||| r5), (s2.2 + 1)) _
