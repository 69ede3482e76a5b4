theorem fX11_229 : jd_fl RX11 229 7 0 3 true := ⟨_, _, rfl, by decide, by decide, rfl, rfl, jd_mem 443 (by decide +kernel) (by decide +kernel)⟩
theorem fX11_233 : jd_fl RX11 233 7 2 3 false := ⟨_, _, rfl, by decide, by decide, rfl, rfl, jd_mem 446 (by decide +kernel) (by decide +kernel)⟩
theorem lX11_237 : jd_mv RX11 237 3 2 yX3_reduce cX3_reduce 7 none 2 := ⟨_, _, rfl, by decide, rfl, Or.inl (jd_mem 980 (by decide +kernel) (by decide +kernel)), qX3_reduce.1, qX3_reduce.2.1, qX3_reduce.2.2.1, qX3_reduce.2.2.2.1, qX3_reduce.2.2.2.2, by decide⟩
theorem qX11_grantRatio : Cond.instanceMethod yX11_grantRatio ∈ jd_TB ∧ Cond.selects RX11 yX11_grantRatio yX11_grantRatio ∈ jd_TB ∧ Cond.initialized RX11 ∈ jd_TB ∧ Cond.code yX11_grantRatio cX11_grantRatio 2 (some .long) ∈ jd_TB ∧ jd_ds yX11_grantRatio 1 := ⟨jd_mem 989 (by decide +kernel) (by decide +kernel), jd_mem 28 (by decide +kernel) (by decide +kernel), jd_mem 92 (by decide +kernel) (by decide +kernel), jd_mem 990 (by decide +kernel) (by decide +kernel), ⟨by decide, by decide, by decide +kernel⟩⟩
theorem lX11_241 : jd_mv RX11 241 11 12 yX11_grantRatio cX11_grantRatio 2 (some .long) 1 := ⟨_, _, rfl, by decide, rfl, Or.inl (jd_mem 987 (by decide +kernel) (by decide +kernel)), qX11_grantRatio.1, qX11_grantRatio.2.1, qX11_grantRatio.2.2.1, qX11_grantRatio.2.2.2.1, qX11_grantRatio.2.2.2.2, by decide⟩
theorem qX7_heaviest : Cond.instanceMethod yX7_heaviest ∈ jd_TB ∧ Cond.selects RX7 yX7_heaviest yX7_heaviest ∈ jd_TB ∧ Cond.initialized RX7 ∈ jd_TB ∧ Cond.code yX7_heaviest cX7_heaviest 5 (some .int) ∈ jd_TB ∧ jd_ds yX7_heaviest 0 := ⟨jd_mem 996 (by decide +kernel) (by decide +kernel), jd_mem 997 (by decide +kernel) (by decide +kernel), jd_mem 101 (by decide +kernel) (by decide +kernel), jd_mem 998 (by decide +kernel) (by decide +kernel), ⟨by decide, by decide, by decide +kernel⟩⟩
theorem lX11_245 : jd_mv RX11 245 7 3 yX7_heaviest cX7_heaviest 5 (some .int) 0 := ⟨_, _, rfl, by decide, rfl, Or.inl (jd_mem 995 (by decide +kernel) (by decide +kernel)), qX7_heaviest.1, qX7_heaviest.2.1, qX7_heaviest.2.2.1, qX7_heaviest.2.2.2.1, qX7_heaviest.2.2.2.2, by decide⟩
theorem qX6_everybody : Cond.instanceMethod yX6_everybody ∈ jd_TB ∧ Cond.selects RX6 yX6_everybody yX6_everybody ∈ jd_TB ∧ Cond.initialized RX6 ∈ jd_TB ∧ Cond.code yX6_everybody cX6_everybody 1 (some .int) ∈ jd_TB ∧ jd_ds yX6_everybody 0 := ⟨jd_mem 1004 (by decide +kernel) (by decide +kernel), jd_mem 1005 (by decide +kernel) (by decide +kernel), jd_mem 95 (by decide +kernel) (by decide +kernel), jd_mem 1006 (by decide +kernel) (by decide +kernel), ⟨by decide, by decide, by decide +kernel⟩⟩
theorem lX11_248 : jd_mv RX11 248 6 8 yX6_everybody cX6_everybody 1 (some .int) 0 := ⟨_, _, rfl, by decide, rfl, Or.inl (jd_mem 1003 (by decide +kernel) (by decide +kernel)), qX6_everybody.1, qX6_everybody.2.1, qX6_everybody.2.2.1, qX6_everybody.2.2.2.1, qX6_everybody.2.2.2.2, by decide⟩
theorem lX11_251 : jd_mv RX11 251 7 3 yX7_weightOf cX7_weightOf 5 (some .long) 1 := ⟨_, _, rfl, by decide, rfl, Or.inl (jd_mem 1007 (by decide +kernel) (by decide +kernel)), qX7_weightOf.1, qX7_weightOf.2.1, qX7_weightOf.2.2.1, qX7_weightOf.2.2.2.1, qX7_weightOf.2.2.2.2, by decide⟩
theorem qX7_fewestByHalf : Cond.instanceMethod yX7_fewestByHalf ∈ jd_TB ∧ Cond.selects RX7 yX7_fewestByHalf yX7_fewestByHalf ∈ jd_TB ∧ Cond.initialized RX7 ∈ jd_TB ∧ Cond.code yX7_fewestByHalf cX7_fewestByHalf 3 (some .int) ∈ jd_TB ∧ jd_ds yX7_fewestByHalf 0 := ⟨jd_mem 1017 (by decide +kernel) (by decide +kernel), jd_mem 1018 (by decide +kernel) (by decide +kernel), jd_mem 101 (by decide +kernel) (by decide +kernel), jd_mem 1019 (by decide +kernel) (by decide +kernel), ⟨by decide, by decide, by decide +kernel⟩⟩
theorem lX11_255 : jd_mv RX11 255 7 3 yX7_fewestByHalf cX7_fewestByHalf 3 (some .int) 0 := ⟨_, _, rfl, by decide, rfl, Or.inl (jd_mem 1016 (by decide +kernel) (by decide +kernel)), qX7_fewestByHalf.1, qX7_fewestByHalf.2.1, qX7_fewestByHalf.2.2.1, qX7_fewestByHalf.2.2.2.1, qX7_fewestByHalf.2.2.2.2, by decide⟩
theorem qX6_minuteOfSoMany : Cond.instanceMethod yX6_minuteOfSoMany ∈ jd_TB ∧ Cond.selects RX6 yX6_minuteOfSoMany yX6_minuteOfSoMany ∈ jd_TB ∧ Cond.initialized RX6 ∈ jd_TB ∧ Cond.code yX6_minuteOfSoMany cX6_minuteOfSoMany 5 (some .int) ∈ jd_TB ∧ jd_ds yX6_minuteOfSoMany 1 := ⟨jd_mem 1028 (by decide +kernel) (by decide +kernel), jd_mem 1029 (by decide +kernel) (by decide +kernel), jd_mem 95 (by decide +kernel) (by decide +kernel), jd_mem 1030 (by decide +kernel) (by decide +kernel), ⟨by decide, by decide, by decide +kernel⟩⟩
theorem lX11_258 : jd_mv RX11 258 6 8 yX6_minuteOfSoMany cX6_minuteOfSoMany 5 (some .int) 1 := ⟨_, _, rfl, by decide, rfl, Or.inl (jd_mem 1027 (by decide +kernel) (by decide +kernel)), qX6_minuteOfSoMany.1, qX6_minuteOfSoMany.2.1, qX6_minuteOfSoMany.2.2.1, qX6_minuteOfSoMany.2.2.2.1, qX6_minuteOfSoMany.2.2.2.2, by decide⟩
theorem qX10_fewestTaught : Cond.instanceMethod yX10_fewestTaught ∈ jd_TB ∧ Cond.selects RX10 yX10_fewestTaught yX10_fewestTaught ∈ jd_TB ∧ Cond.initialized RX10 ∈ jd_TB ∧ Cond.code yX10_fewestTaught cX10_fewestTaught 4 (some .int) ∈ jd_TB ∧ jd_ds yX10_fewestTaught 0 := ⟨jd_mem 1036 (by decide +kernel) (by decide +kernel), jd_mem 1037 (by decide +kernel) (by decide +kernel), jd_mem 97 (by decide +kernel) (by decide +kernel), jd_mem 1038 (by decide +kernel) (by decide +kernel), ⟨by decide, by decide, by decide +kernel⟩⟩
theorem lX11_261 : jd_mv RX11 261 10 16 yX10_fewestTaught cX10_fewestTaught 4 (some .int) 0 := ⟨_, _, rfl, by decide, rfl, Or.inl (jd_mem 1035 (by decide +kernel) (by decide +kernel)), qX10_fewestTaught.1, qX10_fewestTaught.2.1, qX10_fewestTaught.2.2.1, qX10_fewestTaught.2.2.2.1, qX10_fewestTaught.2.2.2.2, by decide⟩
theorem qX10_hearersOf : Cond.instanceMethod yX10_hearersOf ∈ jd_TB ∧ Cond.selects RX10 yX10_hearersOf yX10_hearersOf ∈ jd_TB ∧ Cond.initialized RX10 ∈ jd_TB ∧ Cond.code yX10_hearersOf cX10_hearersOf 4 (some .int) ∈ jd_TB ∧ jd_ds yX10_hearersOf 1 := ⟨jd_mem 1050 (by decide +kernel) (by decide +kernel), jd_mem 1051 (by decide +kernel) (by decide +kernel), jd_mem 97 (by decide +kernel) (by decide +kernel), jd_mem 1052 (by decide +kernel) (by decide +kernel), ⟨by decide, by decide, by decide +kernel⟩⟩
theorem lX11_264 : jd_mv RX11 264 10 16 yX10_hearersOf cX10_hearersOf 4 (some .int) 1 := ⟨_, _, rfl, by decide, rfl, Or.inl (jd_mem 1049 (by decide +kernel) (by decide +kernel)), qX10_hearersOf.1, qX10_hearersOf.2.1, qX10_hearersOf.2.2.1, qX10_hearersOf.2.2.2.1, qX10_hearersOf.2.2.2.2, by decide⟩
theorem qX11_isFear : Cond.static yX11_isFear ∈ jd_TB ∧ Cond.initialized yX11_isFear.cls ∈ jd_TB ∧ Cond.code yX11_isFear cX11_isFear 1 (some .boolean) ∈ jd_TB ∧ jd_ds yX11_isFear 1 := ⟨jd_mem 1058 (by decide +kernel) (by decide +kernel), jd_mem 92 (by decide +kernel) (by decide +kernel), jd_mem 1059 (by decide +kernel) (by decide +kernel), ⟨by decide, by decide, by decide +kernel⟩⟩
theorem lX11_267 : jd_st RX11 267 yX11_isFear cX11_isFear 1 (some .boolean) 1 := ⟨Or.inl (jd_mem 1057 (by decide +kernel) (by decide +kernel)), qX11_isFear.1, qX11_isFear.2.1, qX11_isFear.2.2.1, qX11_isFear.2.2.2, by decide⟩
theorem qX11_gain : Cond.static yX11_gain ∈ jd_TB ∧ Cond.initialized yX11_gain.cls ∈ jd_TB ∧ Cond.code yX11_gain cX11_gain 3 (some .int) ∈ jd_TB ∧ jd_ds yX11_gain 3 := ⟨jd_mem 1061 (by decide +kernel) (by decide +kernel), jd_mem 92 (by decide +kernel) (by decide +kernel), jd_mem 1062 (by decide +kernel) (by decide +kernel), ⟨by decide, by decide, by decide +kernel⟩⟩
theorem lX11_270 : jd_st RX11 270 yX11_gain cX11_gain 3 (some .int) 3 := ⟨Or.inl (jd_mem 1060 (by decide +kernel) (by decide +kernel)), qX11_gain.1, qX11_gain.2.1, qX11_gain.2.2.1, qX11_gain.2.2.2, by decide⟩
theorem qX11_isRest : Cond.static yX11_isRest ∈ jd_TB ∧ Cond.initialized yX11_isRest.cls ∈ jd_TB ∧ Cond.code yX11_isRest cX11_isRest 3 (some .boolean) ∈ jd_TB ∧ jd_ds yX11_isRest 3 := ⟨jd_mem 1068 (by decide +kernel) (by decide +kernel), jd_mem 92 (by decide +kernel) (by decide +kernel), jd_mem 1069 (by decide +kernel) (by decide +kernel), ⟨by decide, by decide, by decide +kernel⟩⟩
theorem lX11_274 : jd_st RX11 274 yX11_isRest cX11_isRest 3 (some .boolean) 3 := ⟨Or.inl (jd_mem 1067 (by decide +kernel) (by decide +kernel)), qX11_isRest.1, qX11_isRest.2.1, qX11_isRest.2.2.1, qX11_isRest.2.2.2, by decide⟩
theorem dX11_odds_0 : decode cX11_odds 0 = .ok (.aload_n 0, 1) := by decide +kernel
theorem dX11_odds_1 : decode cX11_odds 1 = .ok (.iload_n 1, 1) := by decide +kernel
theorem dX11_odds_2 : decode cX11_odds 2 = .ok (.invokevirtual 137, 3) := by decide +kernel
theorem dX11_odds_5 : decode cX11_odds 5 = .ok (.ifCond .ne 10, 3) := by decide +kernel
theorem dX11_odds_8 : decode cX11_odds 8 = .ok (.aload_n 0, 1) := by decide +kernel
theorem dX11_odds_9 : decode cX11_odds 9 = .ok (.iconst 1, 1) := by decide +kernel
theorem dX11_odds_10 : decode cX11_odds 10 = .ok (.invokevirtual 104, 3) := by decide +kernel
theorem dX11_odds_13 : decode cX11_odds 13 = .ok (.i2l, 1) := by decide +kernel
theorem dX11_odds_14 : decode cX11_odds 14 = .ok (.lreturn, 1) := by decide +kernel
theorem dX11_odds_15 : decode cX11_odds 15 = .ok (.aload_n 0, 1) := by decide +kernel
theorem dX11_odds_16 : decode cX11_odds 16 = .ok (.getfield 74, 3) := by decide +kernel
theorem dX11_odds_19 : decode cX11_odds 19 = .ok (.aload_n 0, 1) := by decide +kernel
theorem dX11_odds_20 : decode cX11_odds 20 = .ok (.getfield 60, 3) := by decide +kernel
theorem dX11_odds_23 : decode cX11_odds 23 = .ok (.getfield 229, 3) := by decide +kernel
theorem dX11_odds_26 : decode cX11_odds 26 = .ok (.iload_n 1, 1) := by decide +kernel
theorem dX11_odds_27 : decode cX11_odds 27 = .ok (.laload, 1) := by decide +kernel
theorem dX11_odds_28 : decode cX11_odds 28 = .ok (.aload_n 0, 1) := by decide +kernel
theorem dX11_odds_29 : decode cX11_odds 29 = .ok (.getfield 60, 3) := by decide +kernel
theorem dX11_odds_32 : decode cX11_odds 32 = .ok (.getfield 233, 3) := by decide +kernel
theorem dX11_odds_35 : decode cX11_odds 35 = .ok (.invokevirtual 237, 3) := by decide +kernel
theorem dX11_odds_38 : decode cX11_odds 38 = .ok (.aload_n 0, 1) := by decide +kernel
theorem dX11_odds_39 : decode cX11_odds 39 = .ok (.iload_n 2, 1) := by decide +kernel
theorem dX11_odds_40 : decode cX11_odds 40 = .ok (.invokevirtual 241, 3) := by decide +kernel
theorem dX11_odds_43 : decode cX11_odds 43 = .ok (.lreturn, 1) := by decide +kernel
theorem dX11_likeliest_0 : decode cX11_likeliest 0 = .ok (.aload_n 0, 1) := by decide +kernel
theorem dX11_likeliest_1 : decode cX11_likeliest 1 = .ok (.getfield 85, 3) := by decide +kernel
theorem dX11_likeliest_4 : decode cX11_likeliest 4 = .ok (.ifCond .ne 9, 3) := by decide +kernel
theorem dX11_likeliest_7 : decode cX11_likeliest 7 = .ok (.aload_n 0, 1) := by decide +kernel
theorem dX11_likeliest_8 : decode cX11_likeliest 8 = .ok (.iconst 1, 1) := by decide +kernel
theorem dX11_likeliest_9 : decode cX11_likeliest 9 = .ok (.invokevirtual 104, 3) := by decide +kernel
theorem dX11_likeliest_12 : decode cX11_likeliest 12 = .ok (.ireturn, 1) := by decide +kernel
theorem dX11_likeliest_13 : decode cX11_likeliest 13 = .ok (.aload_n 0, 1) := by decide +kernel
theorem dX11_likeliest_14 : decode cX11_likeliest 14 = .ok (.aload_n 0, 1) := by decide +kernel
theorem dX11_likeliest_15 : decode cX11_likeliest 15 = .ok (.getfield 60, 3) := by decide +kernel
theorem dX11_likeliest_18 : decode cX11_likeliest 18 = .ok (.invokevirtual 245, 3) := by decide +kernel
theorem dX11_likeliest_21 : decode cX11_likeliest 21 = .ok (.invokevirtual 128, 3) := by decide +kernel
theorem dX11_likeliest_24 : decode cX11_likeliest 24 = .ok (.ireturn, 1) := by decide +kernel
theorem dX11_among_0 : decode cX11_among 0 = .ok (.aload_n 0, 1) := by decide +kernel
theorem dX11_among_1 : decode cX11_among 1 = .ok (.getfield 85, 3) := by decide +kernel
theorem dX11_among_4 : decode cX11_among 4 = .ok (.ifCond .eq 18, 3) := by decide +kernel
theorem dX11_among_7 : decode cX11_among 7 = .ok (.iload_n 1, 1) := by decide +kernel
theorem dX11_among_8 : decode cX11_among 8 = .ok (.ifCond .lt 14, 3) := by decide +kernel
theorem dX11_among_11 : decode cX11_among 11 = .ok (.iload_n 1, 1) := by decide +kernel
theorem dX11_among_12 : decode cX11_among 12 = .ok (.aload_n 0, 1) := by decide +kernel
theorem dX11_among_13 : decode cX11_among 13 = .ok (.getfield 32, 3) := by decide +kernel
theorem dX11_among_16 : decode cX11_among 16 = .ok (.invokevirtual 248, 3) := by decide +kernel
theorem dX11_among_19 : decode cX11_among 19 = .ok (.if_icmp .le 10, 3) := by decide +kernel
theorem dX11_among_22 : decode cX11_among 22 = .ok (.aload_n 0, 1) := by decide +kernel
theorem dX11_among_23 : decode cX11_among 23 = .ok (.iconst 1, 1) := by decide +kernel
theorem dX11_among_24 : decode cX11_among 24 = .ok (.invokevirtual 104, 3) := by decide +kernel
theorem dX11_among_27 : decode cX11_among 27 = .ok (.i2l, 1) := by decide +kernel
theorem dX11_among_28 : decode cX11_among 28 = .ok (.lreturn, 1) := by decide +kernel
theorem dX11_among_29 : decode cX11_among 29 = .ok (.aload_n 0, 1) := by decide +kernel
theorem dX11_among_30 : decode cX11_among 30 = .ok (.getfield 74, 3) := by decide +kernel
theorem dX11_among_33 : decode cX11_among 33 = .ok (.aload_n 0, 1) := by decide +kernel
theorem dX11_among_34 : decode cX11_among 34 = .ok (.getfield 60, 3) := by decide +kernel
theorem dX11_among_37 : decode cX11_among 37 = .ok (.iload_n 1, 1) := by decide +kernel
theorem dX11_among_38 : decode cX11_among 38 = .ok (.invokevirtual 251, 3) := by decide +kernel
theorem dX11_among_41 : decode cX11_among 41 = .ok (.aload_n 0, 1) := by decide +kernel
theorem dX11_among_42 : decode cX11_among 42 = .ok (.getfield 60, 3) := by decide +kernel
theorem dX11_among_45 : decode cX11_among 45 = .ok (.getfield 233, 3) := by decide +kernel
theorem dX11_among_48 : decode cX11_among 48 = .ok (.invokevirtual 237, 3) := by decide +kernel
theorem dX11_among_51 : decode cX11_among 51 = .ok (.aload_n 0, 1) := by decide +kernel
theorem dX11_among_52 : decode cX11_among 52 = .ok (.iload_n 2, 1) := by decide +kernel
theorem dX11_among_53 : decode cX11_among 53 = .ok (.invokevirtual 241, 3) := by decide +kernel
theorem dX11_among_56 : decode cX11_among 56 = .ok (.lreturn, 1) := by decide +kernel
theorem dX11_suspects_0 : decode cX11_suspects 0 = .ok (.aload_n 0, 1) := by decide +kernel
theorem dX11_suspects_1 : decode cX11_suspects 1 = .ok (.getfield 85, 3) := by decide +kernel
theorem dX11_suspects_4 : decode cX11_suspects 4 = .ok (.ifCond .ne 9, 3) := by decide +kernel
theorem dX11_suspects_7 : decode cX11_suspects 7 = .ok (.aload_n 0, 1) := by decide +kernel
theorem dX11_suspects_8 : decode cX11_suspects 8 = .ok (.iconst 1, 1) := by decide +kernel
theorem dX11_suspects_9 : decode cX11_suspects 9 = .ok (.invokevirtual 104, 3) := by decide +kernel
theorem dX11_suspects_12 : decode cX11_suspects 12 = .ok (.ireturn, 1) := by decide +kernel
theorem dX11_suspects_13 : decode cX11_suspects 13 = .ok (.aload_n 0, 1) := by decide +kernel
theorem dX11_suspects_14 : decode cX11_suspects 14 = .ok (.aload_n 0, 1) := by decide +kernel
theorem dX11_suspects_15 : decode cX11_suspects 15 = .ok (.getfield 60, 3) := by decide +kernel
theorem dX11_suspects_18 : decode cX11_suspects 18 = .ok (.invokevirtual 255, 3) := by decide +kernel
theorem dX11_suspects_21 : decode cX11_suspects 21 = .ok (.invokevirtual 128, 3) := by decide +kernel
theorem dX11_suspects_24 : decode cX11_suspects 24 = .ok (.ireturn, 1) := by decide +kernel
theorem dX11_flag_0 : decode cX11_flag 0 = .ok (.aload_n 0, 1) := by decide +kernel
theorem dX11_flag_1 : decode cX11_flag 1 = .ok (.getfield 85, 3) := by decide +kernel
theorem dX11_flag_4 : decode cX11_flag 4 = .ok (.ifCond .ne 9, 3) := by decide +kernel
theorem dX11_flag_7 : decode cX11_flag 7 = .ok (.aload_n 0, 1) := by decide +kernel
theorem dX11_flag_8 : decode cX11_flag 8 = .ok (.iconst 1, 1) := by decide +kernel
theorem dX11_flag_9 : decode cX11_flag 9 = .ok (.invokevirtual 104, 3) := by decide +kernel
theorem dX11_flag_12 : decode cX11_flag 12 = .ok (.ireturn, 1) := by decide +kernel
theorem dX11_flag_13 : decode cX11_flag 13 = .ok (.iload_n 1, 1) := by decide +kernel
theorem dX11_flag_14 : decode cX11_flag 14 = .ok (.iconst 1, 1) := by decide +kernel
theorem dX11_flag_15 : decode cX11_flag 15 = .ok (.if_icmp .lt 9, 3) := by decide +kernel
theorem dX11_flag_18 : decode cX11_flag 18 = .ok (.iload_n 1, 1) := by decide +kernel
theorem dX11_flag_19 : decode cX11_flag 19 = .ok (.bipush 6, 2) := by decide +kernel
theorem dX11_flag_21 : decode cX11_flag 21 = .ok (.if_icmp .le 9, 3) := by decide +kernel
theorem dX11_flag_24 : decode cX11_flag 24 = .ok (.aload_n 0, 1) := by decide +kernel
theorem dX11_flag_25 : decode cX11_flag 25 = .ok (.iconst 2, 1) := by decide +kernel
theorem dX11_flag_26 : decode cX11_flag 26 = .ok (.invokevirtual 104, 3) := by decide +kernel
theorem dX11_flag_29 : decode cX11_flag 29 = .ok (.ireturn, 1) := by decide +kernel
theorem dX11_flag_30 : decode cX11_flag 30 = .ok (.aload_n 0, 1) := by decide +kernel
theorem dX11_flag_31 : decode cX11_flag 31 = .ok (.aload_n 0, 1) := by decide +kernel
theorem dX11_flag_32 : decode cX11_flag 32 = .ok (.getfield 32, 3) := by decide +kernel
theorem dX11_flag_35 : decode cX11_flag 35 = .ok (.iload_n 1, 1) := by decide +kernel
theorem dX11_flag_36 : decode cX11_flag 36 = .ok (.invokevirtual 258, 3) := by decide +kernel
theorem dX11_flag_39 : decode cX11_flag 39 = .ok (.invokevirtual 128, 3) := by decide +kernel
theorem dX11_flag_42 : decode cX11_flag 42 = .ok (.ireturn, 1) := by decide +kernel
theorem dX11_teach_0 : decode cX11_teach 0 = .ok (.aload_n 0, 1) := by decide +kernel
theorem dX11_teach_1 : decode cX11_teach 1 = .ok (.getfield 85, 3) := by decide +kernel
theorem dX11_teach_4 : decode cX11_teach 4 = .ok (.ifCond .ne 9, 3) := by decide +kernel
theorem dX11_teach_7 : decode cX11_teach 7 = .ok (.aload_n 0, 1) := by decide +kernel
theorem dX11_teach_8 : decode cX11_teach 8 = .ok (.iconst 1, 1) := by decide +kernel
theorem dX11_teach_9 : decode cX11_teach 9 = .ok (.invokevirtual 104, 3) := by decide +kernel
theorem dX11_teach_12 : decode cX11_teach 12 = .ok (.ireturn, 1) := by decide +kernel
theorem dX11_teach_13 : decode cX11_teach 13 = .ok (.aload_n 0, 1) := by decide +kernel
theorem dX11_teach_14 : decode cX11_teach 14 = .ok (.aload_n 0, 1) := by decide +kernel
theorem dX11_teach_15 : decode cX11_teach 15 = .ok (.getfield 32, 3) := by decide +kernel
theorem dX11_teach_18 : decode cX11_teach 18 = .ok (.getfield 112, 3) := by decide +kernel
theorem dX11_teach_21 : decode cX11_teach 21 = .ok (.invokevirtual 261, 3) := by decide +kernel
theorem dX11_teach_24 : decode cX11_teach 24 = .ok (.invokevirtual 128, 3) := by decide +kernel
theorem dX11_teach_27 : decode cX11_teach 27 = .ok (.ireturn, 1) := by decide +kernel
theorem dX11_hears_0 : decode cX11_hears 0 = .ok (.aload_n 0, 1) := by decide +kernel
theorem dX11_hears_1 : decode cX11_hears 1 = .ok (.iload_n 1, 1) := by decide +kernel
theorem dX11_hears_2 : decode cX11_hears 2 = .ok (.invokevirtual 137, 3) := by decide +kernel
theorem dX11_hears_5 : decode cX11_hears 5 = .ok (.ifCond .ne 9, 3) := by decide +kernel
theorem dX11_hears_8 : decode cX11_hears 8 = .ok (.aload_n 0, 1) := by decide +kernel
theorem dX11_hears_9 : decode cX11_hears 9 = .ok (.iconst 1, 1) := by decide +kernel
theorem dX11_hears_10 : decode cX11_hears 10 = .ok (.invokevirtual 104, 3) := by decide +kernel
theorem dX11_hears_13 : decode cX11_hears 13 = .ok (.ireturn, 1) := by decide +kernel
theorem dX11_hears_14 : decode cX11_hears 14 = .ok (.aload_n 0, 1) := by decide +kernel
theorem dX11_hears_15 : decode cX11_hears 15 = .ok (.aload_n 0, 1) := by decide +kernel
theorem dX11_hears_16 : decode cX11_hears 16 = .ok (.getfield 32, 3) := by decide +kernel
theorem dX11_hears_19 : decode cX11_hears 19 = .ok (.getfield 112, 3) := by decide +kernel
theorem dX11_hears_22 : decode cX11_hears 22 = .ok (.iload_n 1, 1) := by decide +kernel
theorem dX11_hears_23 : decode cX11_hears 23 = .ok (.invokevirtual 264, 3) := by decide +kernel
theorem dX11_hears_26 : decode cX11_hears 26 = .ok (.invokevirtual 128, 3) := by decide +kernel
theorem dX11_hears_29 : decode cX11_hears 29 = .ok (.ireturn, 1) := by decide +kernel
theorem dX11_isFear_0 : decode cX11_isFear 0 = .ok (.iload_n 0, 1) := by decide +kernel
theorem dX11_isFear_1 : decode cX11_isFear 1 = .ok (.ifCond .lt 13, 3) := by decide +kernel
theorem dX11_isFear_4 : decode cX11_isFear 4 = .ok (.iload_n 0, 1) := by decide +kernel
theorem dX11_isFear_5 : decode cX11_isFear 5 = .ok (.bipush 9, 2) := by decide +kernel
theorem dX11_isFear_7 : decode cX11_isFear 7 = .ok (.if_icmp .gt 7, 3) := by decide +kernel
theorem dX11_isFear_10 : decode cX11_isFear 10 = .ok (.iconst 1, 1) := by decide +kernel
theorem dX11_isFear_11 : decode cX11_isFear 11 = .ok (.goto 4, 3) := by decide +kernel
theorem dX11_isFear_14 : decode cX11_isFear 14 = .ok (.iconst 0, 1) := by decide +kernel
theorem dX11_isFear_15 : decode cX11_isFear 15 = .ok (.ireturn, 1) := by decide +kernel
theorem dX11_gain_0 : decode cX11_gain 0 = .ok (.iload_n 1, 1) := by decide +kernel
theorem dX11_gain_1 : decode cX11_gain 1 = .ok (.ifCond .eq 15, 3) := by decide +kernel
theorem dX11_gain_4 : decode cX11_gain 4 = .ok (.iload_n 2, 1) := by decide +kernel
theorem dX11_gain_5 : decode cX11_gain 5 = .ok (.ifCond .eq 7, 3) := by decide +kernel
theorem dX11_gain_8 : decode cX11_gain 8 = .ok (.iconst 3, 1) := by decide +kernel
theorem dX11_gain_9 : decode cX11_gain 9 = .ok (.goto 6, 3) := by decide +kernel
theorem dX11_gain_12 : decode cX11_gain 12 = .ok (.iconst 1, 1) := by decide +kernel
theorem dX11_gain_13 : decode cX11_gain 13 = .ok (.iload_n 0, 1) := by decide +kernel
theorem dX11_gain_14 : decode cX11_gain 14 = .ok (.isub, 1) := by decide +kernel
theorem dX11_gain_15 : decode cX11_gain 15 = .ok (.ireturn, 1) := by decide +kernel
theorem dX11_gain_16 : decode cX11_gain 16 = .ok (.iload_n 2, 1) := by decide +kernel
theorem dX11_gain_17 : decode cX11_gain 17 = .ok (.ifCond .eq 7, 3) := by decide +kernel
theorem dX11_gain_20 : decode cX11_gain 20 = .ok (.iconst 2, 1) := by decide +kernel
theorem dX11_gain_21 : decode cX11_gain 21 = .ok (.goto 4, 3) := by decide +kernel
theorem dX11_gain_24 : decode cX11_gain 24 = .ok (.iconst 0, 1) := by decide +kernel
theorem dX11_gain_25 : decode cX11_gain 25 = .ok (.ireturn, 1) := by decide +kernel
theorem dX11_looks_0 : decode cX11_looks 0 = .ok (.aload_n 0, 1) := by decide +kernel
theorem dX11_looks_1 : decode cX11_looks 1 = .ok (.getfield 85, 3) := by decide +kernel
theorem dX11_looks_4 : decode cX11_looks 4 = .ok (.ifCond .ne 12, 3) := by decide +kernel
theorem dX11_looks_7 : decode cX11_looks 7 = .ok (.aload_n 0, 1) := by decide +kernel
theorem dX11_looks_8 : decode cX11_looks 8 = .ok (.iconst 1, 1) := by decide +kernel
theorem dX11_looks_9 : decode cX11_looks 9 = .ok (.invokevirtual 104, 3) := by decide +kernel
theorem dX11_looks_12 : decode cX11_looks 12 = .ok (.pop, 1) := by decide +kernel
theorem dX11_looks_13 : decode cX11_looks 13 = .ok (.bipush (-100), 2) := by decide +kernel
theorem dX11_looks_15 : decode cX11_looks 15 = .ok (.ireturn, 1) := by decide +kernel
theorem dX11_looks_16 : decode cX11_looks 16 = .ok (.iload_n 1, 1) := by decide +kernel
theorem dX11_looks_17 : decode cX11_looks 17 = .ok (.invokestatic 267, 3) := by decide +kernel
theorem dX11_looks_20 : decode cX11_looks 20 = .ok (.ifCond .ne 12, 3) := by decide +kernel
theorem dX11_looks_23 : decode cX11_looks 23 = .ok (.aload_n 0, 1) := by decide +kernel
theorem dX11_looks_24 : decode cX11_looks 24 = .ok (.iconst 2, 1) := by decide +kernel
theorem dX11_looks_25 : decode cX11_looks 25 = .ok (.invokevirtual 104, 3) := by decide +kernel
theorem dX11_looks_28 : decode cX11_looks 28 = .ok (.pop, 1) := by decide +kernel
theorem dX11_looks_29 : decode cX11_looks 29 = .ok (.bipush (-100), 2) := by decide +kernel
theorem dX11_looks_31 : decode cX11_looks 31 = .ok (.ireturn, 1) := by decide +kernel
theorem dX11_looks_32 : decode cX11_looks 32 = .ok (.aload_n 0, 1) := by decide +kernel
theorem dX11_looks_33 : decode cX11_looks 33 = .ok (.iload 4, 2) := by decide +kernel
theorem dX11_looks_35 : decode cX11_looks 35 = .ok (.ifCond .eq 12, 3) := by decide +kernel
theorem dX11_looks_38 : decode cX11_looks 38 = .ok (.iload_n 1, 1) := by decide +kernel
theorem dX11_looks_39 : decode cX11_looks 39 = .ok (.iload_n 3, 1) := by decide +kernel
theorem dX11_looks_40 : decode cX11_looks 40 = .ok (.iload_n 2, 1) := by decide +kernel
theorem dX11_looks_41 : decode cX11_looks 41 = .ok (.invokestatic 270, 3) := by decide +kernel
theorem dX11_looks_44 : decode cX11_looks 44 = .ok (.goto 9, 3) := by decide +kernel
theorem dX11_looks_47 : decode cX11_looks 47 = .ok (.iload_n 1, 1) := by decide +kernel
theorem dX11_looks_48 : decode cX11_looks 48 = .ok (.iload_n 2, 1) := by decide +kernel
theorem dX11_looks_49 : decode cX11_looks 49 = .ok (.iload_n 3, 1) := by decide +kernel
theorem dX11_looks_50 : decode cX11_looks 50 = .ok (.invokestatic 270, 3) := by decide +kernel
theorem dX11_looks_53 : decode cX11_looks 53 = .ok (.invokevirtual 128, 3) := by decide +kernel
theorem dX11_looks_56 : decode cX11_looks 56 = .ok (.ireturn, 1) := by decide +kernel
theorem dX11_isRest_0 : decode cX11_isRest 0 = .ok (.iload_n 0, 1) := by decide +kernel
theorem dX11_isRest_1 : decode cX11_isRest 1 = .ok (.iload_n 1, 1) := by decide +kernel
theorem dX11_isRest_2 : decode cX11_isRest 2 = .ok (.iload_n 2, 1) := by decide +kernel
theorem dX11_isRest_3 : decode cX11_isRest 3 = .ok (.invokestatic 270, 3) := by decide +kernel
theorem dX11_isRest_6 : decode cX11_isRest 6 = .ok (.iload_n 0, 1) := by decide +kernel
theorem dX11_isRest_7 : decode cX11_isRest 7 = .ok (.iload_n 1, 1) := by decide +kernel
theorem dX11_isRest_8 : decode cX11_isRest 8 = .ok (.ifCond .ne 7, 3) := by decide +kernel
theorem dX11_isRest_11 : decode cX11_isRest 11 = .ok (.iconst 1, 1) := by decide +kernel
theorem dX11_isRest_12 : decode cX11_isRest 12 = .ok (.goto 4, 3) := by decide +kernel
theorem dX11_isRest_15 : decode cX11_isRest 15 = .ok (.iconst 0, 1) := by decide +kernel
theorem dX11_isRest_16 : decode cX11_isRest 16 = .ok (.iload_n 2, 1) := by decide +kernel
theorem dX11_isRest_17 : decode cX11_isRest 17 = .ok (.invokestatic 270, 3) := by decide +kernel
theorem dX11_isRest_20 : decode cX11_isRest 20 = .ok (.if_icmp .lt 30, 3) := by decide +kernel
theorem dX11_isRest_23 : decode cX11_isRest 23 = .ok (.iload_n 0, 1) := by decide +kernel
theorem dX11_isRest_24 : decode cX11_isRest 24 = .ok (.iload_n 2, 1) := by decide +kernel
theorem dX11_isRest_25 : decode cX11_isRest 25 = .ok (.iload_n 1, 1) := by decide +kernel
theorem dX11_isRest_26 : decode cX11_isRest 26 = .ok (.invokestatic 270, 3) := by decide +kernel
theorem dX11_isRest_29 : decode cX11_isRest 29 = .ok (.iload_n 0, 1) := by decide +kernel
theorem dX11_isRest_30 : decode cX11_isRest 30 = .ok (.iload_n 2, 1) := by decide +kernel
theorem dX11_isRest_31 : decode cX11_isRest 31 = .ok (.ifCond .ne 7, 3) := by decide +kernel
theorem dX11_isRest_34 : decode cX11_isRest 34 = .ok (.iconst 1, 1) := by decide +kernel
theorem dX11_isRest_35 : decode cX11_isRest 35 = .ok (.goto 4, 3) := by decide +kernel
theorem dX11_isRest_38 : decode cX11_isRest 38 = .ok (.iconst 0, 1) := by decide +kernel
theorem dX11_isRest_39 : decode cX11_isRest 39 = .ok (.iload_n 1, 1) := by decide +kernel
theorem dX11_isRest_40 : decode cX11_isRest 40 = .ok (.invokestatic 270, 3) := by decide +kernel
theorem dX11_isRest_43 : decode cX11_isRest 43 = .ok (.if_icmp .lt 7, 3) := by decide +kernel
theorem dX11_isRest_46 : decode cX11_isRest 46 = .ok (.iconst 1, 1) := by decide +kernel
theorem dX11_isRest_47 : decode cX11_isRest 47 = .ok (.goto 4, 3) := by decide +kernel
theorem dX11_isRest_50 : decode cX11_isRest 50 = .ok (.iconst 0, 1) := by decide +kernel
theorem dX11_isRest_51 : decode cX11_isRest 51 = .ok (.ireturn, 1) := by decide +kernel
theorem dX11_rests_0 : decode cX11_rests 0 = .ok (.aload_n 0, 1) := by decide +kernel
theorem dX11_rests_1 : decode cX11_rests 1 = .ok (.getfield 85, 3) := by decide +kernel
theorem dX11_rests_4 : decode cX11_rests 4 = .ok (.ifCond .ne 9, 3) := by decide +kernel
theorem dX11_rests_7 : decode cX11_rests 7 = .ok (.aload_n 0, 1) := by decide +kernel
theorem dX11_rests_8 : decode cX11_rests 8 = .ok (.iconst 1, 1) := by decide +kernel
theorem dX11_rests_9 : decode cX11_rests 9 = .ok (.invokevirtual 104, 3) := by decide +kernel
theorem dX11_rests_12 : decode cX11_rests 12 = .ok (.ireturn, 1) := by decide +kernel
theorem dX11_rests_13 : decode cX11_rests 13 = .ok (.iload_n 1, 1) := by decide +kernel
theorem dX11_rests_14 : decode cX11_rests 14 = .ok (.invokestatic 267, 3) := by decide +kernel
theorem dX11_rests_17 : decode cX11_rests 17 = .ok (.ifCond .ne 9, 3) := by decide +kernel
theorem dX11_rests_20 : decode cX11_rests 20 = .ok (.aload_n 0, 1) := by decide +kernel
theorem dX11_rests_21 : decode cX11_rests 21 = .ok (.iconst 2, 1) := by decide +kernel
theorem dX11_rests_22 : decode cX11_rests 22 = .ok (.invokevirtual 104, 3) := by decide +kernel
theorem dX11_rests_25 : decode cX11_rests 25 = .ok (.ireturn, 1) := by decide +kernel
theorem dX11_rests_26 : decode cX11_rests 26 = .ok (.iconst 0, 1) := by decide +kernel
theorem dX11_rests_27 : decode cX11_rests 27 = .ok (.istore_n 2, 1) := by decide +kernel
theorem dX11_rests_28 : decode cX11_rests 28 = .ok (.iconst 0, 1) := by decide +kernel
theorem dX11_rests_29 : decode cX11_rests 29 = .ok (.istore_n 3, 1) := by decide +kernel
theorem dX11_rests_30 : decode cX11_rests 30 = .ok (.iload_n 3, 1) := by decide +kernel
theorem dX11_rests_31 : decode cX11_rests 31 = .ok (.iconst 4, 1) := by decide +kernel
theorem dX11_rests_32 : decode cX11_rests 32 = .ok (.if_icmp .ge 41, 3) := by decide +kernel
theorem dX11_rests_35 : decode cX11_rests 35 = .ok (.iload_n 1, 1) := by decide +kernel
theorem dX11_rests_36 : decode cX11_rests 36 = .ok (.iload_n 3, 1) := by decide +kernel
theorem dX11_rests_37 : decode cX11_rests 37 = .ok (.iconst 2, 1) := by decide +kernel
theorem dX11_rests_38 : decode cX11_rests 38 = .ok (.iand, 1) := by decide +kernel
theorem dX11_rests_39 : decode cX11_rests 39 = .ok (.ifCond .eq 7, 3) := by decide +kernel
theorem dX11_rests_42 : decode cX11_rests 42 = .ok (.iconst 1, 1) := by decide +kernel
theorem dX11_rests_43 : decode cX11_rests 43 = .ok (.goto 4, 3) := by decide +kernel
theorem dX11_rests_46 : decode cX11_rests 46 = .ok (.iconst 0, 1) := by decide +kernel
theorem dX11_rests_47 : decode cX11_rests 47 = .ok (.iload_n 3, 1) := by decide +kernel
theorem dX11_rests_48 : decode cX11_rests 48 = .ok (.iconst 1, 1) := by decide +kernel
theorem dX11_rests_49 : decode cX11_rests 49 = .ok (.iand, 1) := by decide +kernel
theorem dX11_rests_50 : decode cX11_rests 50 = .ok (.ifCond .eq 7, 3) := by decide +kernel
theorem dX11_rests_53 : decode cX11_rests 53 = .ok (.iconst 1, 1) := by decide +kernel
theorem dX11_rests_54 : decode cX11_rests 54 = .ok (.goto 4, 3) := by decide +kernel
theorem dX11_rests_57 : decode cX11_rests 57 = .ok (.iconst 0, 1) := by decide +kernel
theorem dX11_rests_58 : decode cX11_rests 58 = .ok (.invokestatic 274, 3) := by decide +kernel
theorem dX11_rests_61 : decode cX11_rests 61 = .ok (.ifCond .eq 6, 3) := by decide +kernel
theorem dX11_rests_64 : decode cX11_rests 64 = .ok (.iinc 2 1, 3) := by decide +kernel
theorem dX11_rests_67 : decode cX11_rests 67 = .ok (.iinc 3 1, 3) := by decide +kernel
theorem dX11_rests_70 : decode cX11_rests 70 = .ok (.goto (-40), 3) := by decide +kernel
theorem dX11_rests_73 : decode cX11_rests 73 = .ok (.aload_n 0, 1) := by decide +kernel
theorem dX11_rests_74 : decode cX11_rests 74 = .ok (.iload_n 2, 1) := by decide +kernel
theorem dX11_rests_75 : decode cX11_rests 75 = .ok (.invokevirtual 128, 3) := by decide +kernel
theorem dX11_rests_78 : decode cX11_rests 78 = .ok (.ireturn, 1) := by decide +kernel
def m_X11_odds (t : Nat) (x0p : Int32) (x1p : Int32) (σ : jd_Hp) : Option (Int64 × jd_Hp) :=
jd_b (m_X11_isPerson t x0p σ) fun r1 σ1 =>
jd_if (¬ r1 = 0) (
jd_o σ1 (7, 3) (σ1.2.2.2 t 6) fun a2 =>
jd_ia σ1 23 (σ1.2.2.2 a2 0) x0p fun a3 j3 =>
jd_o σ1 (3, 2) (σ1.2.2.2 t 8) fun a4 =>
jd_b (m_X3_reduce a4 (σ1.2.2.1 a3 j3) (σ1.2.2.1 a2 2) σ1) fun r5 σ5 =>
jd_b (m_X11_grantRatio t x1p σ5) fun r6 σ6 =>
some (r6, σ6)) (
jd_b (m_X11_refuse t 1 σ1) fun r7 σ7 =>
some (r7.toInt64, σ7))
set_option maxHeartbeats 4000000 in
set_option maxRecDepth 20000 in
theorem c_X11_odds {l : Launch} {s0 : State} {G : jd_G} (hF : jd_F s0 G) (σ : jd_Hp) (t : Nat) (ht : σ.1[t]? = some (11, 12)) (x0p : Int32) (x1p : Int32) : jd_M l s0 G yX11_odds cX11_odds 3 (some .long) 2 je_l [jd_v G (some t), .int x0p, .int x1p] σ (m_X11_odds t x0p x1p σ) := by
  refine jd_enter hF (by decide) (fun G => [some (jd_v G (some t)), some (.int x0p), some (.int x1p)]) rfl (by simp [lv_args, jd_al, jd_v_cat, jd_cti, jd_ctl]) (by simp [lg_sl, jd_v_cat, jd_cti, jd_ctl]) (fun X hD hX => ?_)
  have hX : jd_C X RX11 "odds" cX11_odds 3 (some .long) := hX
  unfold m_X11_odds
  refine jr_ald0 (pc := 0) hX dX11_odds_0 ?_
  refine jr_ild1 (pc := 1) hX dX11_odds_1 ?_
  refine jr_cV1i (pc := 2) hX lX11_137 (c_X11_isPerson hX.F σ t ht _) (jd_dd hD rfl) (Nat.le_of_ble_eq_true rfl) dX11_odds_2 ht (fun r1 σ1 p1 => ?_)
  refine jr_ifne (pc := 5) hX 15 dX11_odds_5 (by decide) ?_ ?_
  · refine jr_ald0 (pc := 15) hX dX11_odds_15 ?_
    refine jr_getr (pc := 16) hX fX11_74 rfl dX11_odds_16 (p1.at ht :) ?_
    refine jr_ald0 (pc := 19) hX dX11_odds_19 ?_
    refine jr_getr (pc := 20) hX fX11_60 rfl dX11_odds_20 (p1.at ht :) ?_
    refine jr_ck0 (fun a2 e2 h2 => ?_)
    refine jr_getr (pc := 23) hX fX11_229 rfl dX11_odds_23 h2 ?_
    refine jr_ild1 (pc := 26) hX dX11_odds_26 ?_
    refine jr_laC (pc := 27) hX dX11_odds_27 (fun a3 n3 e3 h3 => ?_)
    refine jr_ald0 (pc := 28) hX dX11_odds_28 ?_
    refine jr_getr (pc := 29) hX fX11_60 rfl dX11_odds_29 (p1.at ht :) ?_
    refine jr_ek0 e2 ?_
    refine jr_getl (pc := 32) hX fX11_233 rfl dX11_odds_32 h2 ?_
    refine jr_ck2 (fun a4 e4 h4 => ?_)
    refine jr_cV2v (pc := 35) hX lX11_237 (c_X3_reduce hX.F σ1 a4 h4 _ _) (jd_dd hD rfl) (Nat.le_of_ble_eq_true rfl) dX11_odds_35 h4 (fun r5 σ5 p5 => ?_)
    refine jr_ald0 (pc := 38) hX dX11_odds_38 ?_
    refine jr_ild2 (pc := 39) hX dX11_odds_39 ?_
    refine jr_cV1l (pc := 40) hX lX11_241 (c_X11_grantRatio hX.F σ5 t (p5.at (p1.at ht :) :) _) (jd_dd hD rfl) (Nat.le_of_ble_eq_true rfl) dX11_odds_40 (p5.at (p1.at ht :) :) (fun r6 σ6 p6 => ?_)
    exact jr_lret (pc := 43) hX dX11_odds_43 rfl
  · refine jr_ald0 (pc := 8) hX dX11_odds_8 ?_
    refine jr_iconst (pc := 9) hX 1 rfl dX11_odds_9 ?_
    refine jr_cV1i (pc := 10) hX lX11_104 (c_X11_refuse hX.F σ1 t (p1.at ht :) _) (jd_dd hD rfl) (Nat.le_of_ble_eq_true rfl) dX11_odds_10 (p1.at ht :) (fun r7 σ7 p7 => ?_)
    refine jr_i2l (pc := 13) hX dX11_odds_13 ?_
    exact jr_lret (pc := 14) hX dX11_odds_14 rfl
def m_X11_likeliest (t : Nat) (σ : jd_Hp) : Option (Int32 × jd_Hp) :=
jd_if (¬ (σ.2.1 t 10) = 0) (
jd_o σ (7, 3) (σ.2.2.2 t 6) fun a1 =>
jd_b (m_X7_heaviest a1 σ) fun r2 σ2 =>
jd_b (m_X11_grant t r2 σ2) fun r3 σ3 =>
some (r3, σ3)) (
jd_b (m_X11_refuse t 1 σ) fun r4 σ4 =>
some (r4, σ4))
set_option maxHeartbeats 4000000 in
set_option maxRecDepth 20000 in
theorem c_X11_likeliest {l : Launch} {s0 : State} {G : jd_G} (hF : jd_F s0 G) (σ : jd_Hp) (t : Nat) (ht : σ.1[t]? = some (11, 12)) : jd_M l s0 G yX11_likeliest cX11_likeliest 1 (some .int) 1 je_i [jd_v G (some t)] σ (m_X11_likeliest t σ) := by
  refine jd_enter hF (by decide) (fun G => [some (jd_v G (some t))]) rfl (by simp [lv_args, jd_al, jd_v_cat, jd_cti, jd_ctl]) (by simp [lg_sl, jd_v_cat, jd_cti, jd_ctl]) (fun X hD hX => ?_)
  have hX : jd_C X RX11 "likeliest" cX11_likeliest 1 (some .int) := hX
  unfold m_X11_likeliest
  refine jr_ald0 (pc := 0) hX dX11_likeliest_0 ?_
  refine jr_geti (pc := 1) hX fX11_85 rfl dX11_likeliest_1 ht ?_
  refine jr_ifne (pc := 4) hX 13 dX11_likeliest_4 (by decide) ?_ ?_
  · refine jr_ald0 (pc := 13) hX dX11_likeliest_13 ?_
    refine jr_ald0 (pc := 14) hX dX11_likeliest_14 ?_
    refine jr_getr (pc := 15) hX fX11_60 rfl dX11_likeliest_15 ht ?_
    refine jr_ck0 (fun a1 e1 h1 => ?_)
    refine jr_cV0i (pc := 18) hX lX11_245 (c_X7_heaviest hX.F σ a1 h1) (jd_dd hD rfl) (by simp [jd_v_cat, jd_cti, jd_ctl]) dX11_likeliest_18 h1 (fun r2 σ2 p2 => ?_)
    refine jr_cV1i (pc := 21) hX lX11_128 (c_X11_grant hX.F σ2 t (p2.at ht :) _) (jd_dd hD rfl) (Nat.le_of_ble_eq_true rfl) dX11_likeliest_21 (p2.at ht :) (fun r3 σ3 p3 => ?_)
    exact jr_iret (pc := 24) hX dX11_likeliest_24 rfl
  · refine jr_ald0 (pc := 7) hX dX11_likeliest_7 ?_
    refine jr_iconst (pc := 8) hX 1 rfl dX11_likeliest_8 ?_
    refine jr_cV1i (pc := 9) hX lX11_104 (c_X11_refuse hX.F σ t ht _) (jd_dd hD rfl) (Nat.le_of_ble_eq_true rfl) dX11_likeliest_9 ht (fun r4 σ4 p4 => ?_)
    exact jr_iret (pc := 12) hX dX11_likeliest_12 rfl
def m_X11_among (t : Nat) (x0p : Int32) (x1p : Int32) (σ : jd_Hp) : Option (Int64 × jd_Hp) :=
jd_if ((σ.2.1 t 10) = 0) (
jd_b (m_X11_refuse t 1 σ) fun r1 σ1 =>
some (r1.toInt64, σ1)) (
jd_if (x0p < 0) (
jd_b (m_X11_refuse t 1 σ) fun r2 σ2 =>
some (r2.toInt64, σ2)) (
jd_o σ (6, 8) (σ.2.2.2 t 2) fun a3 =>
jd_b (m_X6_everybody a3 σ) fun r4 σ4 =>
jd_if (x0p ≤ r4) (
jd_o σ4 (7, 3) (σ4.2.2.2 t 6) fun a5 =>
jd_b (m_X7_weightOf a5 x0p σ4) fun r6 σ6 =>
jd_o σ6 (7, 3) (σ6.2.2.2 t 6) fun a7 =>
jd_o σ6 (3, 2) (σ4.2.2.2 t 8) fun a8 =>
jd_b (m_X3_reduce a8 r6 (σ6.2.2.1 a7 2) σ6) fun r9 σ9 =>
jd_b (m_X11_grantRatio t x1p σ9) fun r10 σ10 =>
some (r10, σ10)) (
jd_b (m_X11_refuse t 1 σ4) fun r11 σ11 =>
some (r11.toInt64, σ11))))
set_option maxHeartbeats 4000000 in
set_option maxRecDepth 20000 in
theorem c_X11_among {l : Launch} {s0 : State} {G : jd_G} (hF : jd_F s0 G) (σ : jd_Hp) (t : Nat) (ht : σ.1[t]? = some (11, 12)) (x0p : Int32) (x1p : Int32) : jd_M l s0 G yX11_among cX11_among 3 (some .long) 2 je_l [jd_v G (some t), .int x0p, .int x1p] σ (m_X11_among t x0p x1p σ) := by
  refine jd_enter hF (by decide) (fun G => [some (jd_v G (some t)), some (.int x0p), some (.int x1p)]) rfl (by simp [lv_args, jd_al, jd_v_cat, jd_cti, jd_ctl]) (by simp [lg_sl, jd_v_cat, jd_cti, jd_ctl]) (fun X hD hX => ?_)
  have hX : jd_C X RX11 "among" cX11_among 3 (some .long) := hX
  unfold m_X11_among
  refine jr_ald0 (pc := 0) hX dX11_among_0 ?_
  refine jr_geti (pc := 1) hX fX11_85 rfl dX11_among_1 ht ?_
  refine jr_ifeq (pc := 4) hX 22 dX11_among_4 (by decide) ?_ ?_
  · refine jr_ald0 (pc := 22) hX dX11_among_22 ?_
    refine jr_iconst (pc := 23) hX 1 rfl dX11_among_23 ?_
    refine jr_cV1i (pc := 24) hX lX11_104 (c_X11_refuse hX.F σ t ht _) (jd_dd hD rfl) (Nat.le_of_ble_eq_true rfl) dX11_among_24 ht (fun r1 σ1 p1 => ?_)
    refine jr_i2l (pc := 27) hX dX11_among_27 ?_
    exact jr_lret (pc := 28) hX dX11_among_28 rfl
  · refine jr_ild1 (pc := 7) hX dX11_among_7 ?_
    refine jr_iflt (pc := 8) hX 22 dX11_among_8 (by decide) ?_ ?_
    · refine jr_ald0 (pc := 22) hX dX11_among_22 ?_
      refine jr_iconst (pc := 23) hX 1 rfl dX11_among_23 ?_
      refine jr_cV1i (pc := 24) hX lX11_104 (c_X11_refuse hX.F σ t ht _) (jd_dd hD rfl) (Nat.le_of_ble_eq_true rfl) dX11_among_24 ht (fun r2 σ2 p2 => ?_)
      refine jr_i2l (pc := 27) hX dX11_among_27 ?_
      exact jr_lret (pc := 28) hX dX11_among_28 rfl
    · refine jr_ild1 (pc := 11) hX dX11_among_11 ?_
      refine jr_ald0 (pc := 12) hX dX11_among_12 ?_
      refine jr_getr (pc := 13) hX fX11_32 rfl dX11_among_13 ht ?_
      refine jr_ck0 (fun a3 e3 h3 => ?_)
      refine jr_cV0i (pc := 16) hX lX11_248 (c_X6_everybody hX.F σ a3 h3) (jd_dd hD rfl) (Nat.le_of_ble_eq_true rfl) dX11_among_16 h3 (fun r4 σ4 p4 => ?_)
      refine jr_icle (pc := 19) hX 29 dX11_among_19 (by decide) ?_ ?_
      · refine jr_ald0 (pc := 29) hX dX11_among_29 ?_
        refine jr_getr (pc := 30) hX fX11_74 rfl dX11_among_30 (p4.at ht :) ?_
        refine jr_ald0 (pc := 33) hX dX11_among_33 ?_
        refine jr_getr (pc := 34) hX fX11_60 rfl dX11_among_34 (p4.at ht :) ?_
        refine jr_ild1 (pc := 37) hX dX11_among_37 ?_
        refine jr_ck1 (fun a5 e5 h5 => ?_)
        refine jr_cV1l (pc := 38) hX lX11_251 (c_X7_weightOf hX.F σ4 a5 h5 _) (jd_dd hD rfl) (by simp [jd_v_cat, jd_cti, jd_ctl]) dX11_among_38 h5 (fun r6 σ6 p6 => ?_)
        refine jr_ald0 (pc := 41) hX dX11_among_41 ?_
        refine jr_getr (pc := 42) hX fX11_60 rfl dX11_among_42 (p6.at (p4.at ht :) :) ?_
        refine jr_ck0 (fun a7 e7 h7 => ?_)
        refine jr_getl (pc := 45) hX fX11_233 rfl dX11_among_45 h7 ?_
        refine jr_ck2 (fun a8 e8 h8 => ?_)
        refine jr_cV2v (pc := 48) hX lX11_237 (c_X3_reduce hX.F σ6 a8 h8 _ _) (jd_dd hD rfl) (Nat.le_of_ble_eq_true rfl) dX11_among_48 h8 (fun r9 σ9 p9 => ?_)
        refine jr_ald0 (pc := 51) hX dX11_among_51 ?_
        refine jr_ild2 (pc := 52) hX dX11_among_52 ?_
        refine jr_cV1l (pc := 53) hX lX11_241 (c_X11_grantRatio hX.F σ9 t (p9.at (p6.at (p4.at ht :) :) :) _) (jd_dd hD rfl) (Nat.le_of_ble_eq_true rfl) dX11_among_53 (p9.at (p6.at (p4.at ht :) :) :) (fun r10 σ10 p10 => ?_)
        exact jr_lret (pc := 56) hX dX11_among_56 rfl
      · refine jr_ald0 (pc := 22) hX dX11_among_22 ?_
        refine jr_iconst (pc := 23) hX 1 rfl dX11_among_23 ?_
        refine jr_cV1i (pc := 24) hX lX11_104 (c_X11_refuse hX.F σ4 t (p4.at ht :) _) (jd_dd hD rfl) (Nat.le_of_ble_eq_true rfl) dX11_among_24 (p4.at ht :) (fun r11 σ11 p11 => ?_)
        refine jr_i2l (pc := 27) hX dX11_among_27 ?_
        exact jr_lret (pc := 28) hX dX11_among_28 rfl
def m_X11_suspects (t : Nat) (σ : jd_Hp) : Option (Int32 × jd_Hp) :=
jd_if (¬ (σ.2.1 t 10) = 0) (
jd_o σ (7, 3) (σ.2.2.2 t 6) fun a1 =>
jd_b (m_X7_fewestByHalf a1 σ) fun r2 σ2 =>
jd_b (m_X11_grant t r2 σ2) fun r3 σ3 =>
some (r3, σ3)) (
jd_b (m_X11_refuse t 1 σ) fun r4 σ4 =>
some (r4, σ4))
set_option maxHeartbeats 4000000 in
set_option maxRecDepth 20000 in
theorem c_X11_suspects {l : Launch} {s0 : State} {G : jd_G} (hF : jd_F s0 G) (σ : jd_Hp) (t : Nat) (ht : σ.1[t]? = some (11, 12)) : jd_M l s0 G yX11_suspects cX11_suspects 1 (some .int) 3 je_i [jd_v G (some t)] σ (m_X11_suspects t σ) := by
  refine jd_enter hF (by decide) (fun G => [some (jd_v G (some t))]) rfl (by simp [lv_args, jd_al, jd_v_cat, jd_cti, jd_ctl]) (by simp [lg_sl, jd_v_cat, jd_cti, jd_ctl]) (fun X hD hX => ?_)
  have hX : jd_C X RX11 "suspects" cX11_suspects 1 (some .int) := hX
  unfold m_X11_suspects
  refine jr_ald0 (pc := 0) hX dX11_suspects_0 ?_
  refine jr_geti (pc := 1) hX fX11_85 rfl dX11_suspects_1 ht ?_
  refine jr_ifne (pc := 4) hX 13 dX11_suspects_4 (by decide) ?_ ?_
  · refine jr_ald0 (pc := 13) hX dX11_suspects_13 ?_
    refine jr_ald0 (pc := 14) hX dX11_suspects_14 ?_
    refine jr_getr (pc := 15) hX fX11_60 rfl dX11_suspects_15 ht ?_
    refine jr_ck0 (fun a1 e1 h1 => ?_)
    refine jr_cV0i (pc := 18) hX lX11_255 (c_X7_fewestByHalf hX.F σ a1 h1) (jd_dd hD rfl) (by simp [jd_v_cat, jd_cti, jd_ctl]) dX11_suspects_18 h1 (fun r2 σ2 p2 => ?_)
    refine jr_cV1i (pc := 21) hX lX11_128 (c_X11_grant hX.F σ2 t (p2.at ht :) _) (jd_dd hD rfl) (Nat.le_of_ble_eq_true rfl) dX11_suspects_21 (p2.at ht :) (fun r3 σ3 p3 => ?_)
    exact jr_iret (pc := 24) hX dX11_suspects_24 rfl
  · refine jr_ald0 (pc := 7) hX dX11_suspects_7 ?_
    refine jr_iconst (pc := 8) hX 1 rfl dX11_suspects_8 ?_
    refine jr_cV1i (pc := 9) hX lX11_104 (c_X11_refuse hX.F σ t ht _) (jd_dd hD rfl) (Nat.le_of_ble_eq_true rfl) dX11_suspects_9 ht (fun r4 σ4 p4 => ?_)
    exact jr_iret (pc := 12) hX dX11_suspects_12 rfl
def m_X11_flag (t : Nat) (x0p : Int32) (σ : jd_Hp) : Option (Int32 × jd_Hp) :=
jd_if (¬ (σ.2.1 t 10) = 0) (
jd_if (x0p < 1) (
jd_b (m_X11_refuse t 2 σ) fun r1 σ1 =>
some (r1, σ1)) (
jd_if (x0p ≤ 6) (
jd_o σ (6, 8) (σ.2.2.2 t 2) fun a2 =>
jd_b (m_X6_minuteOfSoMany a2 x0p σ) fun r3 σ3 =>
jd_b (m_X11_grant t r3 σ3) fun r4 σ4 =>
some (r4, σ4)) (
jd_b (m_X11_refuse t 2 σ) fun r5 σ5 =>
some (r5, σ5)))) (
jd_b (m_X11_refuse t 1 σ) fun r6 σ6 =>
some (r6, σ6))
set_option maxHeartbeats 4000000 in
set_option maxRecDepth 20000 in
theorem c_X11_flag {l : Launch} {s0 : State} {G : jd_G} (hF : jd_F s0 G) (σ : jd_Hp) (t : Nat) (ht : σ.1[t]? = some (11, 12)) (x0p : Int32) : jd_M l s0 G yX11_flag cX11_flag 2 (some .int) 3 je_i [jd_v G (some t), .int x0p] σ (m_X11_flag t x0p σ) := by
  refine jd_enter hF (by decide) (fun G => [some (jd_v G (some t)), some (.int x0p)]) rfl (by simp [lv_args, jd_al, jd_v_cat, jd_cti, jd_ctl]) (by simp [lg_sl, jd_v_cat, jd_cti, jd_ctl]) (fun X hD hX => ?_)
  have hX : jd_C X RX11 "flag" cX11_flag 2 (some .int) := hX
  unfold m_X11_flag
  refine jr_ald0 (pc := 0) hX dX11_flag_0 ?_
  refine jr_geti (pc := 1) hX fX11_85 rfl dX11_flag_1 ht ?_
  refine jr_ifne (pc := 4) hX 13 dX11_flag_4 (by decide) ?_ ?_
  · refine jr_ild1 (pc := 13) hX dX11_flag_13 ?_
    refine jr_iconst (pc := 14) hX 1 rfl dX11_flag_14 ?_
    refine jr_iclt (pc := 15) hX 24 dX11_flag_15 (by decide) ?_ ?_
    · refine jr_ald0 (pc := 24) hX dX11_flag_24 ?_
      refine jr_iconst (pc := 25) hX 2 rfl dX11_flag_25 ?_
      refine jr_cV1i (pc := 26) hX lX11_104 (c_X11_refuse hX.F σ t ht _) (jd_dd hD rfl) (Nat.le_of_ble_eq_true rfl) dX11_flag_26 ht (fun r1 σ1 p1 => ?_)
      exact jr_iret (pc := 29) hX dX11_flag_29 rfl
    · refine jr_ild1 (pc := 18) hX dX11_flag_18 ?_
      refine jr_bipush (pc := 19) hX 6 rfl dX11_flag_19 ?_
      refine jr_icle (pc := 21) hX 30 dX11_flag_21 (by decide) ?_ ?_
      · refine jr_ald0 (pc := 30) hX dX11_flag_30 ?_
        refine jr_ald0 (pc := 31) hX dX11_flag_31 ?_
        refine jr_getr (pc := 32) hX fX11_32 rfl dX11_flag_32 ht ?_
        refine jr_ild1 (pc := 35) hX dX11_flag_35 ?_
        refine jr_ck1 (fun a2 e2 h2 => ?_)
        refine jr_cV1i (pc := 36) hX lX11_258 (c_X6_minuteOfSoMany hX.F σ a2 h2 _) (jd_dd hD rfl) (by simp [jd_v_cat, jd_cti, jd_ctl]) dX11_flag_36 h2 (fun r3 σ3 p3 => ?_)
        refine jr_cV1i (pc := 39) hX lX11_128 (c_X11_grant hX.F σ3 t (p3.at ht :) _) (jd_dd hD rfl) (Nat.le_of_ble_eq_true rfl) dX11_flag_39 (p3.at ht :) (fun r4 σ4 p4 => ?_)
        exact jr_iret (pc := 42) hX dX11_flag_42 rfl
      · refine jr_ald0 (pc := 24) hX dX11_flag_24 ?_
        refine jr_iconst (pc := 25) hX 2 rfl dX11_flag_25 ?_
        refine jr_cV1i (pc := 26) hX lX11_104 (c_X11_refuse hX.F σ t ht _) (jd_dd hD rfl) (Nat.le_of_ble_eq_true rfl) dX11_flag_26 ht (fun r5 σ5 p5 => ?_)
        exact jr_iret (pc := 29) hX dX11_flag_29 rfl
  · refine jr_ald0 (pc := 7) hX dX11_flag_7 ?_
    refine jr_iconst (pc := 8) hX 1 rfl dX11_flag_8 ?_
    refine jr_cV1i (pc := 9) hX lX11_104 (c_X11_refuse hX.F σ t ht _) (jd_dd hD rfl) (Nat.le_of_ble_eq_true rfl) dX11_flag_9 ht (fun r6 σ6 p6 => ?_)
    exact jr_iret (pc := 12) hX dX11_flag_12 rfl
def m_X11_teach (t : Nat) (σ : jd_Hp) : Option (Int32 × jd_Hp) :=
jd_if (¬ (σ.2.1 t 10) = 0) (
jd_o σ (6, 8) (σ.2.2.2 t 2) fun a1 =>
jd_o σ (10, 16) (σ.2.2.2 a1 5) fun a2 =>
jd_b (m_X10_fewestTaught a2 σ) fun r3 σ3 =>
jd_b (m_X11_grant t r3 σ3) fun r4 σ4 =>
some (r4, σ4)) (
jd_b (m_X11_refuse t 1 σ) fun r5 σ5 =>
some (r5, σ5))
set_option maxHeartbeats 4000000 in
set_option maxRecDepth 20000 in
theorem c_X11_teach {l : Launch} {s0 : State} {G : jd_G} (hF : jd_F s0 G) (σ : jd_Hp) (t : Nat) (ht : σ.1[t]? = some (11, 12)) : jd_M l s0 G yX11_teach cX11_teach 1 (some .int) 3 je_i [jd_v G (some t)] σ (m_X11_teach t σ) := by
  refine jd_enter hF (by decide) (fun G => [some (jd_v G (some t))]) rfl (by simp [lv_args, jd_al, jd_v_cat, jd_cti, jd_ctl]) (by simp [lg_sl, jd_v_cat, jd_cti, jd_ctl]) (fun X hD hX => ?_)
  have hX : jd_C X RX11 "teach" cX11_teach 1 (some .int) := hX
  unfold m_X11_teach
  refine jr_ald0 (pc := 0) hX dX11_teach_0 ?_
  refine jr_geti (pc := 1) hX fX11_85 rfl dX11_teach_1 ht ?_
  refine jr_ifne (pc := 4) hX 13 dX11_teach_4 (by decide) ?_ ?_
  · refine jr_ald0 (pc := 13) hX dX11_teach_13 ?_
    refine jr_ald0 (pc := 14) hX dX11_teach_14 ?_
    refine jr_getr (pc := 15) hX fX11_32 rfl dX11_teach_15 ht ?_
    refine jr_ck0 (fun a1 e1 h1 => ?_)
    refine jr_getr (pc := 18) hX fX11_112 rfl dX11_teach_18 h1 ?_
    refine jr_ck0 (fun a2 e2 h2 => ?_)
    refine jr_cV0i (pc := 21) hX lX11_261 (c_X10_fewestTaught hX.F σ a2 h2) (jd_dd hD rfl) (by simp [jd_v_cat, jd_cti, jd_ctl]) dX11_teach_21 h2 (fun r3 σ3 p3 => ?_)
    refine jr_cV1i (pc := 24) hX lX11_128 (c_X11_grant hX.F σ3 t (p3.at ht :) _) (jd_dd hD rfl) (Nat.le_of_ble_eq_true rfl) dX11_teach_24 (p3.at ht :) (fun r4 σ4 p4 => ?_)
    exact jr_iret (pc := 27) hX dX11_teach_27 rfl
  · refine jr_ald0 (pc := 7) hX dX11_teach_7 ?_
    refine jr_iconst (pc := 8) hX 1 rfl dX11_teach_8 ?_
    refine jr_cV1i (pc := 9) hX lX11_104 (c_X11_refuse hX.F σ t ht _) (jd_dd hD rfl) (Nat.le_of_ble_eq_true rfl) dX11_teach_9 ht (fun r5 σ5 p5 => ?_)
    exact jr_iret (pc := 12) hX dX11_teach_12 rfl
def m_X11_hears (t : Nat) (x0p : Int32) (σ : jd_Hp) : Option (Int32 × jd_Hp) :=
jd_b (m_X11_isPerson t x0p σ) fun r1 σ1 =>
jd_if (¬ r1 = 0) (
jd_o σ1 (6, 8) (σ1.2.2.2 t 2) fun a2 =>
jd_o σ1 (10, 16) (σ1.2.2.2 a2 5) fun a3 =>
jd_b (m_X10_hearersOf a3 x0p σ1) fun r4 σ4 =>
jd_b (m_X11_grant t r4 σ4) fun r5 σ5 =>
some (r5, σ5)) (
jd_b (m_X11_refuse t 1 σ1) fun r6 σ6 =>
some (r6, σ6))
set_option maxHeartbeats 4000000 in
set_option maxRecDepth 20000 in
theorem c_X11_hears {l : Launch} {s0 : State} {G : jd_G} (hF : jd_F s0 G) (σ : jd_Hp) (t : Nat) (ht : σ.1[t]? = some (11, 12)) (x0p : Int32) : jd_M l s0 G yX11_hears cX11_hears 2 (some .int) 3 je_i [jd_v G (some t), .int x0p] σ (m_X11_hears t x0p σ) := by
  refine jd_enter hF (by decide) (fun G => [some (jd_v G (some t)), some (.int x0p)]) rfl (by simp [lv_args, jd_al, jd_v_cat, jd_cti, jd_ctl]) (by simp [lg_sl, jd_v_cat, jd_cti, jd_ctl]) (fun X hD hX => ?_)
  have hX : jd_C X RX11 "hears" cX11_hears 2 (some .int) := hX
  unfold m_X11_hears
  refine jr_ald0 (pc := 0) hX dX11_hears_0 ?_
  refine jr_ild1 (pc := 1) hX dX11_hears_1 ?_
  refine jr_cV1i (pc := 2) hX lX11_137 (c_X11_isPerson hX.F σ t ht _) (jd_dd hD rfl) (Nat.le_of_ble_eq_true rfl) dX11_hears_2 ht (fun r1 σ1 p1 => ?_)
  refine jr_ifne (pc := 5) hX 14 dX11_hears_5 (by decide) ?_ ?_
  · refine jr_ald0 (pc := 14) hX dX11_hears_14 ?_
    refine jr_ald0 (pc := 15) hX dX11_hears_15 ?_
    refine jr_getr (pc := 16) hX fX11_32 rfl dX11_hears_16 (p1.at ht :) ?_
    refine jr_ck0 (fun a2 e2 h2 => ?_)
    refine jr_getr (pc := 19) hX fX11_112 rfl dX11_hears_19 h2 ?_
    refine jr_ild1 (pc := 22) hX dX11_hears_22 ?_
    refine jr_ck1 (fun a3 e3 h3 => ?_)
    refine jr_cV1i (pc := 23) hX lX11_264 (c_X10_hearersOf hX.F σ1 a3 h3 _) (jd_dd hD rfl) (by simp [jd_v_cat, jd_cti, jd_ctl]) dX11_hears_23 h3 (fun r4 σ4 p4 => ?_)
    refine jr_cV1i (pc := 26) hX lX11_128 (c_X11_grant hX.F σ4 t (p4.at (p1.at ht :) :) _) (jd_dd hD rfl) (Nat.le_of_ble_eq_true rfl) dX11_hears_26 (p4.at (p1.at ht :) :) (fun r5 σ5 p5 => ?_)
    exact jr_iret (pc := 29) hX dX11_hears_29 rfl
  · refine jr_ald0 (pc := 8) hX dX11_hears_8 ?_
    refine jr_iconst (pc := 9) hX 1 rfl dX11_hears_9 ?_
    refine jr_cV1i (pc := 10) hX lX11_104 (c_X11_refuse hX.F σ1 t (p1.at ht :) _) (jd_dd hD rfl) (Nat.le_of_ble_eq_true rfl) dX11_hears_10 (p1.at ht :) (fun r6 σ6 p6 => ?_)
    exact jr_iret (pc := 13) hX dX11_hears_13 rfl
def m_X11_isFear (x0p : Int32) (σ : jd_Hp) : Option (Int32 × jd_Hp) :=
jd_if (x0p < 0) (
some (0, σ)) (
jd_if (9 < x0p) (
some (0, σ)) (
some (1, σ)))
set_option maxHeartbeats 4000000 in
set_option maxRecDepth 20000 in
theorem c_X11_isFear {l : Launch} {s0 : State} {G : jd_G} (hF : jd_F s0 G) (σ : jd_Hp) (x0p : Int32) : jd_M l s0 G yX11_isFear cX11_isFear 1 (some .boolean) 0 je_i [.int x0p] σ (m_X11_isFear x0p σ) := by
  refine jd_enter hF (by decide) (fun G => [some (.int x0p)]) rfl (by simp [lv_args, jd_al, jd_v_cat, jd_cti, jd_ctl]) (by simp [lg_sl, jd_v_cat, jd_cti, jd_ctl]) (fun X hD hX => ?_)
  have hX : jd_C X RX11 "isFear" cX11_isFear 1 (some .boolean) := hX
  unfold m_X11_isFear
  refine jr_ild0 (pc := 0) hX dX11_isFear_0 ?_
  refine jr_iflt (pc := 1) hX 14 dX11_isFear_1 (by decide) ?_ ?_
  · refine jr_iconst (pc := 14) hX 0 rfl dX11_isFear_14 ?_
    exact jr_zret (pc := 15) hX dX11_isFear_15 (Or.inl rfl) rfl
  · refine jr_ild0 (pc := 4) hX dX11_isFear_4 ?_
    refine jr_bipush (pc := 5) hX 9 rfl dX11_isFear_5 ?_
    refine jr_icgt (pc := 7) hX 14 dX11_isFear_7 (by decide) ?_ ?_
    · refine jr_iconst (pc := 14) hX 0 rfl dX11_isFear_14 ?_
      exact jr_zret (pc := 15) hX dX11_isFear_15 (Or.inl rfl) rfl
    · refine jr_iconst (pc := 10) hX 1 rfl dX11_isFear_10 ?_
      refine jr_goto (pc := 11) hX 15 dX11_isFear_11 (by decide) ?_
      exact jr_zret (pc := 15) hX dX11_isFear_15 (Or.inr rfl) rfl
def m_X11_gain (x0p : Int32) (x1p : Int32) (x2p : Int32) (σ : jd_Hp) : Option (Int32 × jd_Hp) :=
jd_if (x1p = 0) (
jd_if (x2p = 0) (
some (0, σ)) (
some (2, σ))) (
jd_if (x2p = 0) (
some ((1 - x0p), σ)) (
some (3, σ)))
set_option maxHeartbeats 4000000 in
set_option maxRecDepth 20000 in
theorem c_X11_gain {l : Launch} {s0 : State} {G : jd_G} (hF : jd_F s0 G) (σ : jd_Hp) (x0p : Int32) (x1p : Int32) (x2p : Int32) : jd_M l s0 G yX11_gain cX11_gain 3 (some .int) 0 je_i [.int x0p, .int x1p, .int x2p] σ (m_X11_gain x0p x1p x2p σ) := by
  refine jd_enter hF (by decide) (fun G => [some (.int x0p), some (.int x1p), some (.int x2p)]) rfl (by simp [lv_args, jd_al, jd_v_cat, jd_cti, jd_ctl]) (by simp [lg_sl, jd_v_cat, jd_cti, jd_ctl]) (fun X hD hX => ?_)
  have hX : jd_C X RX11 "gain" cX11_gain 3 (some .int) := hX
  unfold m_X11_gain
  refine jr_ild1 (pc := 0) hX dX11_gain_0 ?_
  refine jr_ifeq (pc := 1) hX 16 dX11_gain_1 (by decide) ?_ ?_
  · refine jr_ild2 (pc := 16) hX dX11_gain_16 ?_
    refine jr_ifeq (pc := 17) hX 24 dX11_gain_17 (by decide) ?_ ?_
    · refine jr_iconst (pc := 24) hX 0 rfl dX11_gain_24 ?_
      exact jr_iret (pc := 25) hX dX11_gain_25 rfl
    · refine jr_iconst (pc := 20) hX 2 rfl dX11_gain_20 ?_
      refine jr_goto (pc := 21) hX 25 dX11_gain_21 (by decide) ?_
      exact jr_iret (pc := 25) hX dX11_gain_25 rfl
  · refine jr_ild2 (pc := 4) hX dX11_gain_4 ?_
    refine jr_ifeq (pc := 5) hX 12 dX11_gain_5 (by decide) ?_ ?_
    · refine jr_iconst (pc := 12) hX 1 rfl dX11_gain_12 ?_
      refine jr_ild0 (pc := 13) hX dX11_gain_13 ?_
      refine jr_isub (pc := 14) hX dX11_gain_14 ?_
      exact jr_iret (pc := 15) hX dX11_gain_15 rfl
    · refine jr_iconst (pc := 8) hX 3 rfl dX11_gain_8 ?_
      refine jr_goto (pc := 9) hX 15 dX11_gain_9 (by decide) ?_
      exact jr_iret (pc := 15) hX dX11_gain_15 rfl
def m_X11_looks (t : Nat) (x0p : Int32) (x1p : Int32) (x2p : Int32) (x3p : Int32) (σ : jd_Hp) : Option (Int32 × jd_Hp) :=
jd_if (¬ (σ.2.1 t 10) = 0) (
jd_b (m_X11_isFear x0p σ) fun r1 σ1 =>
jd_if (¬ r1 = 0) (
jd_if (x3p = 0) (
jd_b (m_X11_gain x0p x1p x2p σ1) fun r2 σ2 =>
jd_b (m_X11_grant t r2 σ2) fun r3 σ3 =>
some (r3, σ3)) (
jd_b (m_X11_gain x0p x2p x1p σ1) fun r4 σ4 =>
jd_b (m_X11_grant t r4 σ4) fun r5 σ5 =>
some (r5, σ5))) (
jd_b (m_X11_refuse t 2 σ1) fun r6 σ6 =>
some ((-100), σ6))) (
jd_b (m_X11_refuse t 1 σ) fun r7 σ7 =>
some ((-100), σ7))
set_option maxHeartbeats 4000000 in
set_option maxRecDepth 20000 in
theorem c_X11_looks {l : Launch} {s0 : State} {G : jd_G} (hF : jd_F s0 G) (σ : jd_Hp) (t : Nat) (ht : σ.1[t]? = some (11, 12)) (x0p : Int32) (x1p : Int32) (x2p : Int32) (x3p : Int32) : jd_M l s0 G yX11_looks cX11_looks 5 (some .int) 1 je_i [jd_v G (some t), .int x0p, .int x1p, .int x2p, .int x3p] σ (m_X11_looks t x0p x1p x2p x3p σ) := by
  refine jd_enter hF (by decide) (fun G => [some (jd_v G (some t)), some (.int x0p), some (.int x1p), some (.int x2p), some (.int x3p)]) rfl (by simp [lv_args, jd_al, jd_v_cat, jd_cti, jd_ctl]) (by simp [lg_sl, jd_v_cat, jd_cti, jd_ctl]) (fun X hD hX => ?_)
  have hX : jd_C X RX11 "looks" cX11_looks 5 (some .int) := hX
  unfold m_X11_looks
  refine jr_ald0 (pc := 0) hX dX11_looks_0 ?_
  refine jr_geti (pc := 1) hX fX11_85 rfl dX11_looks_1 ht ?_
  refine jr_ifne (pc := 4) hX 16 dX11_looks_4 (by decide) ?_ ?_
  · refine jr_ild1 (pc := 16) hX dX11_looks_16 ?_
    refine jr_cS1i (pc := 17) hX lX11_267 (c_X11_isFear hX.F σ _) (jd_dd hD rfl) (Nat.le_of_ble_eq_true rfl) dX11_looks_17 (fun r1 σ1 p1 => ?_)
    refine jr_ifne (pc := 20) hX 32 dX11_looks_20 (by decide) ?_ ?_
    · refine jr_ald0 (pc := 32) hX dX11_looks_32 ?_
      refine jr_ild4 (pc := 33) hX dX11_looks_33 ?_
      refine jr_ifeq (pc := 35) hX 47 dX11_looks_35 (by decide) ?_ ?_
      · refine jr_ild1 (pc := 47) hX dX11_looks_47 ?_
        refine jr_ild2 (pc := 48) hX dX11_looks_48 ?_
        refine jr_ild3 (pc := 49) hX dX11_looks_49 ?_
        refine jr_cS3i (pc := 50) hX lX11_270 (c_X11_gain hX.F σ1 _ _ _) (jd_dd hD rfl) (by simp [jd_v_cat, jd_cti, jd_ctl]) dX11_looks_50 (fun r2 σ2 p2 => ?_)
        refine jr_cV1i (pc := 53) hX lX11_128 (c_X11_grant hX.F σ2 t (p2.at (p1.at ht :) :) _) (jd_dd hD rfl) (Nat.le_of_ble_eq_true rfl) dX11_looks_53 (p2.at (p1.at ht :) :) (fun r3 σ3 p3 => ?_)
        exact jr_iret (pc := 56) hX dX11_looks_56 rfl
      · refine jr_ild1 (pc := 38) hX dX11_looks_38 ?_
        refine jr_ild3 (pc := 39) hX dX11_looks_39 ?_
        refine jr_ild2 (pc := 40) hX dX11_looks_40 ?_
        refine jr_cS3i (pc := 41) hX lX11_270 (c_X11_gain hX.F σ1 _ _ _) (jd_dd hD rfl) (by simp [jd_v_cat, jd_cti, jd_ctl]) dX11_looks_41 (fun r4 σ4 p4 => ?_)
        refine jr_goto (pc := 44) hX 53 dX11_looks_44 (by decide) ?_
        refine jr_cV1i (pc := 53) hX lX11_128 (c_X11_grant hX.F σ4 t (p4.at (p1.at ht :) :) _) (jd_dd hD rfl) (Nat.le_of_ble_eq_true rfl) dX11_looks_53 (p4.at (p1.at ht :) :) (fun r5 σ5 p5 => ?_)
        exact jr_iret (pc := 56) hX dX11_looks_56 rfl
    · refine jr_ald0 (pc := 23) hX dX11_looks_23 ?_
      refine jr_iconst (pc := 24) hX 2 rfl dX11_looks_24 ?_
      refine jr_cV1i (pc := 25) hX lX11_104 (c_X11_refuse hX.F σ1 t (p1.at ht :) _) (jd_dd hD rfl) (Nat.le_of_ble_eq_true rfl) dX11_looks_25 (p1.at ht :) (fun r6 σ6 p6 => ?_)
      refine jr_pop (pc := 28) hX rfl dX11_looks_28 ?_
      refine jr_bipush (pc := 29) hX (-100) rfl dX11_looks_29 ?_
      exact jr_iret (pc := 31) hX dX11_looks_31 rfl
  · refine jr_ald0 (pc := 7) hX dX11_looks_7 ?_
    refine jr_iconst (pc := 8) hX 1 rfl dX11_looks_8 ?_
    refine jr_cV1i (pc := 9) hX lX11_104 (c_X11_refuse hX.F σ t ht _) (jd_dd hD rfl) (Nat.le_of_ble_eq_true rfl) dX11_looks_9 ht (fun r7 σ7 p7 => ?_)
    refine jr_pop (pc := 12) hX rfl dX11_looks_12 ?_
    refine jr_bipush (pc := 13) hX (-100) rfl dX11_looks_13 ?_
    exact jr_iret (pc := 15) hX dX11_looks_15 rfl
def m_X11_isRest (x0p : Int32) (x1p : Int32) (x2p : Int32) (σ : jd_Hp) : Option (Int32 × jd_Hp) :=
jd_b (m_X11_gain x0p x1p x2p σ) fun r1 σ1 =>
jd_b (α := Int32) (
jd_if (¬ x1p = 0) (
some (0, σ1)) (
some (1, σ1))) fun t2 σ2 =>
jd_b (m_X11_gain x0p t2 x2p σ2) fun r3 σ3 =>
jd_if (r1 < r3) (
some (0, σ3)) (
jd_b (m_X11_gain x0p x2p x1p σ3) fun r4 σ4 =>
jd_b (α := Int32) (
jd_if (¬ x2p = 0) (
some (0, σ4)) (
some (1, σ4))) fun t5 σ5 =>
jd_b (m_X11_gain x0p t5 x1p σ5) fun r6 σ6 =>
jd_if (r4 < r6) (
some (0, σ6)) (
some (1, σ6)))
set_option maxHeartbeats 4000000 in
set_option maxRecDepth 20000 in
theorem c_X11_isRest {l : Launch} {s0 : State} {G : jd_G} (hF : jd_F s0 G) (σ : jd_Hp) (x0p : Int32) (x1p : Int32) (x2p : Int32) : jd_M l s0 G yX11_isRest cX11_isRest 3 (some .boolean) 1 je_i [.int x0p, .int x1p, .int x2p] σ (m_X11_isRest x0p x1p x2p σ) := by
  refine jd_enter hF (by decide) (fun G => [some (.int x0p), some (.int x1p), some (.int x2p)]) rfl (by simp [lv_args, jd_al, jd_v_cat, jd_cti, jd_ctl]) (by simp [lg_sl, jd_v_cat, jd_cti, jd_ctl]) (fun X hD hX => ?_)
  have hX : jd_C X RX11 "isRest" cX11_isRest 3 (some .boolean) := hX
  unfold m_X11_isRest
  refine jr_ild0 (pc := 0) hX dX11_isRest_0 ?_
  refine jr_ild1 (pc := 1) hX dX11_isRest_1 ?_
  refine jr_ild2 (pc := 2) hX dX11_isRest_2 ?_
  refine jr_cS3i (pc := 3) hX lX11_270 (c_X11_gain hX.F σ _ _ _) (jd_dd hD rfl) (Nat.le_of_ble_eq_true rfl) dX11_isRest_3 (fun r1 σ1 p1 => ?_)
  refine jr_ild0 (pc := 6) hX dX11_isRest_6 ?_
  refine jr_ild1 (pc := 7) hX dX11_isRest_7 ?_
  refine jr_join (pc := 8) 16 (fun (t2 : Int32) => [some (.int x0p), some (.int x1p), some (.int x2p)]) (fun (t2 : Int32) => [.int t2, .int x0p, .int r1]) (fun t2 σ2 => ?_) (fun K2 jj2 => ?_)
  · refine jr_ild2 (pc := 16) hX dX11_isRest_16 ?_
    refine jr_cS3i (pc := 17) hX lX11_270 (c_X11_gain hX.F σ2 _ _ _) (jd_dd hD rfl) (Nat.le_of_ble_eq_true rfl) dX11_isRest_17 (fun r3 σ3 p3 => ?_)
    refine jr_iclt (pc := 20) hX 50 dX11_isRest_20 (by decide) ?_ ?_
    · refine jr_iconst (pc := 50) hX 0 rfl dX11_isRest_50 ?_
      exact jr_zret (pc := 51) hX dX11_isRest_51 (Or.inl rfl) rfl
    · refine jr_ild0 (pc := 23) hX dX11_isRest_23 ?_
      refine jr_ild2 (pc := 24) hX dX11_isRest_24 ?_
      refine jr_ild1 (pc := 25) hX dX11_isRest_25 ?_
      refine jr_cS3i (pc := 26) hX lX11_270 (c_X11_gain hX.F σ3 _ _ _) (jd_dd hD rfl) (Nat.le_of_ble_eq_true rfl) dX11_isRest_26 (fun r4 σ4 p4 => ?_)
      refine jr_ild0 (pc := 29) hX dX11_isRest_29 ?_
      refine jr_ild2 (pc := 30) hX dX11_isRest_30 ?_
      refine jr_join (pc := 31) 39 (fun (t5 : Int32) => [none, some (.int x1p), none]) (fun (t5 : Int32) => [.int t5, .int x0p, .int r4]) (fun t5 σ5 => ?_) (fun K5 jj5 => ?_)
      · refine jr_ild1 (pc := 39) hX dX11_isRest_39 ?_
        refine jr_cS3i (pc := 40) hX lX11_270 (c_X11_gain hX.F σ5 _ _ _) (jd_dd hD rfl) (Nat.le_of_ble_eq_true rfl) dX11_isRest_40 (fun r6 σ6 p6 => ?_)
        refine jr_iclt (pc := 43) hX 50 dX11_isRest_43 (by decide) ?_ ?_
        · refine jr_iconst (pc := 50) hX 0 rfl dX11_isRest_50 ?_
          exact jr_zret (pc := 51) hX dX11_isRest_51 (Or.inl rfl) rfl
        · refine jr_iconst (pc := 46) hX 1 rfl dX11_isRest_46 ?_
          refine jr_goto (pc := 47) hX 51 dX11_isRest_47 (by decide) ?_
          exact jr_zret (pc := 51) hX dX11_isRest_51 (Or.inr rfl) rfl
      · refine jr_ifne (pc := 31) hX 38 dX11_isRest_31 (by decide) ?_ ?_
        · refine jr_iconst (pc := 38) hX 0 rfl dX11_isRest_38 ?_
          refine jr_wk [false, true, false] ?_
          exact jj5 0 _
        · refine jr_iconst (pc := 34) hX 1 rfl dX11_isRest_34 ?_
          refine jr_goto (pc := 35) hX 39 dX11_isRest_35 (by decide) ?_
          refine jr_wk [false, true, false] ?_
          exact jj5 1 _
  · refine jr_ifne (pc := 8) hX 15 dX11_isRest_8 (by decide) ?_ ?_
    · refine jr_iconst (pc := 15) hX 0 rfl dX11_isRest_15 ?_
      exact jj2 0 _
    · refine jr_iconst (pc := 11) hX 1 rfl dX11_isRest_11 ?_
      refine jr_goto (pc := 12) hX 16 dX11_isRest_12 (by decide) ?_
      exact jj2 1 _
def m_X11_rests (t : Nat) (x0p : Int32) (σ : jd_Hp) : Option (Int32 × jd_Hp) :=
jd_if (¬ (σ.2.1 t 10) = 0) (
jd_b (m_X11_isFear x0p σ) fun r1 σ1 =>
jd_if (¬ r1 = 0) (
jd_b (jd_lp (S := Int32 × Int32) (T := Int32) (fun s2 σ2 =>
jd_if (4 ≤ s2.2) (
some ((Sum.inr s2.1), σ2)) (
jd_b (α := Int32) (
jd_if ((s2.2 &&& 2) = 0) (
some (0, σ2)) (
some (1, σ2))) fun t4 σ4 =>
jd_if ((s2.2 &&& 1) = 0) (
jd_b (m_X11_isRest x0p t4 0 σ4) fun r5 σ5 =>
jd_if (r5 = 0) (
some (Sum.inl (s2.1, (s2.2 + 1)), σ5)) (
some (Sum.inl ((s2.1 + 1), (s2.2 + 1)), σ5))) (
jd_b (m_X11_isRest x0p t4 1 σ4) fun r6 σ6 =>
jd_if (r6 = 0) (
some (Sum.inl (s2.1, (s2.2 + 1)), σ6)) (
some (Sum.inl ((s2.1 + 1), (s2.2 + 1)), σ6))))) jd_fu (0, 0) σ1) fun t3 σ3 =>
jd_o σ3 (11, 12) (some t) fun a7 =>
jd_b (m_X11_grant a7 t3 σ3) fun r8 σ8 =>
some (r8, σ8)) (
jd_b (m_X11_refuse t 2 σ1) fun r9 σ9 =>
some (r9, σ9))) (
jd_b (m_X11_refuse t 1 σ) fun r10 σ10 =>
some (r10, σ10))
set_option maxHeartbeats 4000000 in
set_option maxRecDepth 20000 in
theorem c_X11_rests {l : Launch} {s0 : State} {G : jd_G} (hF : jd_F s0 G) (σ : jd_Hp) (t : Nat) (ht : σ.1[t]? = some (11, 12)) (x0p : Int32) : jd_M l s0 G yX11_rests cX11_rests 4 (some .int) 2 je_i [jd_v G (some t), .int x0p] σ (m_X11_rests t x0p σ) := by
  refine jd_enter hF (by decide) (fun G => [some (jd_v G (some t)), some (.int x0p), none, none]) rfl (by simp [lv_args, jd_al, jd_v_cat, jd_cti, jd_ctl]) (by simp [lg_sl, jd_v_cat, jd_cti, jd_ctl]) (fun X hD hX => ?_)
  have hX : jd_C X RX11 "rests" cX11_rests 4 (some .int) := hX
  unfold m_X11_rests
  refine jr_ald0 (pc := 0) hX dX11_rests_0 ?_
  refine jr_geti (pc := 1) hX fX11_85 rfl dX11_rests_1 ht ?_
  refine jr_ifne (pc := 4) hX 13 dX11_rests_4 (by decide) ?_ ?_
  · refine jr_ild1 (pc := 13) hX dX11_rests_13 ?_
    refine jr_cS1i (pc := 14) hX lX11_267 (c_X11_isFear hX.F σ _) (jd_dd hD rfl) (Nat.le_of_ble_eq_true rfl) dX11_rests_14 (fun r1 σ1 p1 => ?_)
    refine jr_ifne (pc := 17) hX 26 dX11_rests_17 (by decide) ?_ ?_
    · refine jr_iconst (pc := 26) hX 0 rfl dX11_rests_26 ?_
      refine jr_ist2 (pc := 27) hX (jn_i _) dX11_rests_27 ?_
      refine jr_iconst (pc := 28) hX 0 rfl dX11_rests_28 ?_
      refine jr_ist3 (pc := 29) hX (jn_i _) dX11_rests_29 ?_
      refine jr_loop (pc := 30) (fun (s2 : Int32 × Int32) => [some (jd_v (jd_gG X) (some t)), some (.int x0p), some (.int s2.1), some (.int s2.2)]) (fun (t3 : Int32) => [some (jd_v (jd_gG X) (some t)), none, some (.int t3), none]) 73 (0, 0) (fun t3 σ3 => ?_) (fun K2 bk2 ex2 s2 σ2 => ?_)
      · refine jr_ald0 (pc := 73) hX dX11_rests_73 ?_
        refine jr_ild2 (pc := 74) hX dX11_rests_74 ?_
        refine jr_ck1 (fun a7 e7 h7 => ?_)
        refine jr_cV1i (pc := 75) hX lX11_128 (c_X11_grant hX.F σ3 a7 h7 _) (jd_dd hD rfl) (Nat.le_of_ble_eq_true rfl) dX11_rests_75 h7 (fun r8 σ8 p8 => ?_)
        exact jr_iret (pc := 78) hX dX11_rests_78 rfl
      · refine jr_ild3 (pc := 30) hX dX11_rests_30 ?_
        refine jr_iconst (pc := 31) hX 4 rfl dX11_rests_31 ?_
        refine jr_icge (pc := 32) hX 73 dX11_rests_32 (by decide) ?_ ?_
        · refine jr_wk [true, false, true, false] ?_
          exact ex2 s2.1 _
        · refine jr_ild1 (pc := 35) hX dX11_rests_35 ?_
          refine jr_ild3 (pc := 36) hX dX11_rests_36 ?_
          refine jr_iconst (pc := 37) hX 2 rfl dX11_rests_37 ?_
          refine jr_iand (pc := 38) hX dX11_rests_38 ?_
          refine jr_join (pc := 39) 47 (fun (t4 : Int32) => [some (jd_v (jd_gG X) (some t)), some (.int x0p), some (.int s2.1), some (.int s2.2)]) (fun (t4 : Int32) => [.int t4, .int x0p]) (fun t4 σ4 => ?_) (fun K4 jj4 => ?_)
          · refine jr_ild3 (pc := 47) hX dX11_rests_47 ?_
            refine jr_iconst (pc := 48) hX 1 rfl dX11_rests_48 ?_
            refine jr_iand (pc := 49) hX dX11_rests_49 ?_
            refine jr_ifeq (pc := 50) hX 57 dX11_rests_50 (by decide) ?_ ?_
            · refine jr_iconst (pc := 57) hX 0 rfl dX11_rests_57 ?_
              refine jr_cS3i (pc := 58) hX lX11_274 (c_X11_isRest hX.F σ4 _ _ _) (jd_dd hD rfl) (Nat.le_of_ble_eq_true rfl) dX11_rests_58 (fun r5 σ5 p5 => ?_)
              refine jr_ifeq (pc := 61) hX 67 dX11_rests_61 (by decide) ?_ ?_
              · refine jr_inc3 (pc := 67) hX 1 rfl (jn_i _) dX11_rests_67 ?_
                refine jr_goto (pc := 70) hX 30 dX11_rests_70 (by decide) ?_
                exact bk2 (s2.1, (s2.2 + 1)) _
              · refine jr_inc2 (pc := 64) hX 1 rfl (jn_i _) dX11_rests_64 ?_
                refine jr_inc3 (pc := 67) hX 1 rfl (jn_i _) dX11_rests_67 ?_
                refine jr_goto (pc := 70) hX 30 dX11_rests_70 (by decide) ?_
                exact bk2 ((s2.1 + 1), (s2.2 + 1)) _
            · refine jr_iconst (pc := 53) hX 1 rfl dX11_rests_53 ?_
              refine jr_goto (pc := 54) hX 58 dX11_rests_54 (by decide) ?_
              refine jr_cS3i (pc := 58) hX lX11_274 (c_X11_isRest hX.F σ4 _ _ _) (jd_dd hD rfl) (Nat.le_of_ble_eq_true rfl) dX11_rests_58 (fun r6 σ6 p6 => ?_)
              refine jr_ifeq (pc := 61) hX 67 dX11_rests_61 (by decide) ?_ ?_
              · refine jr_inc3 (pc := 67) hX 1 rfl (jn_i _) dX11_rests_67 ?_
                refine jr_goto (pc := 70) hX 30 dX11_rests_70 (by decide) ?_
                exact bk2 (s2.1, (s2.2 + 1)) _
              · refine jr_inc2 (pc := 64) hX 1 rfl (jn_i _) dX11_rests_64 ?_
                refine jr_inc3 (pc := 67) hX 1 rfl (jn_i _) dX11_rests_67 ?_
                refine jr_goto (pc := 70) hX 30 dX11_rests_70 (by decide) ?_
                exact bk2 ((s2.1 + 1), (s2.2 + 1)) _
          · refine jr_ifeq (pc := 39) hX 46 dX11_rests_39 (by decide) ?_ ?_
            · refine jr_iconst (pc := 46) hX 0 rfl dX11_rests_46 ?_
              exact jj4 0 _
            · refine jr_iconst (pc := 42) hX 1 rfl dX11_rests_42 ?_
              refine jr_goto (pc := 43) hX 47 dX11_rests_43 (by decide) ?_
              exact jj4 1 _
    · refine jr_ald0 (pc := 20) hX dX11_rests_20 ?_
      refine jr_iconst (pc := 21) hX 2 rfl dX11_rests_21 ?_
      refine jr_cV1i (pc := 22) hX lX11_104 (c_X11_refuse hX.F σ1 t (p1.at ht :) _) (jd_dd hD rfl) (Nat.le_of_ble_eq_true rfl) dX11_rests_22 (p1.at ht :) (fun r9 σ9 p9 => ?_)
      exact jr_iret (pc := 25) hX dX11_rests_25 rfl
  · refine jr_ald0 (pc := 7) hX dX11_rests_7 ?_
    refine jr_iconst (pc := 8) hX 1 rfl dX11_rests_8 ?_
    refine jr_cV1i (pc := 9) hX lX11_104 (c_X11_refuse hX.F σ t ht _) (jd_dd hD rfl) (Nat.le_of_ble_eq_true rfl) dX11_rests_9 ht (fun r10 σ10 p10 => ?_)
    exact jr_iret (pc := 12) hX dX11_rests_12 rfl
