theorem qX1_nobodyLost : Cond.instanceMethod yX1_nobodyLost ∈ jd_TB ∧ Cond.selects RX1 yX1_nobodyLost yX1_nobodyLost ∈ jd_TB ∧ Cond.initialized RX1 ∈ jd_TB ∧ Cond.code yX1_nobodyLost cX1_nobodyLost 8 none ∈ jd_TB ∧ jd_ds yX1_nobodyLost 2 := ⟨jd_mem 1079 (by decide +kernel) (by decide +kernel), jd_mem 1080 (by decide +kernel) (by decide +kernel), jd_mem 102 (by decide +kernel) (by decide +kernel), jd_mem 1081 (by decide +kernel) (by decide +kernel), ⟨by decide, by decide, by decide +kernel⟩⟩
theorem lX11_278 : jd_mv RX11 278 1 2 yX1_nobodyLost cX1_nobodyLost 8 none 2 := ⟨_, _, rfl, by decide, rfl, Or.inl (jd_mem 1078 (by decide +kernel) (by decide +kernel)), qX1_nobodyLost.1, qX1_nobodyLost.2.1, qX1_nobodyLost.2.2.1, qX1_nobodyLost.2.2.2.1, qX1_nobodyLost.2.2.2.2, by decide⟩
theorem qX1_soManySink : Cond.instanceMethod yX1_soManySink ∈ jd_TB ∧ Cond.selects RX1 yX1_soManySink yX1_soManySink ∈ jd_TB ∧ Cond.initialized RX1 ∈ jd_TB ∧ Cond.code yX1_soManySink cX1_soManySink 9 none ∈ jd_TB ∧ jd_ds yX1_soManySink 3 := ⟨jd_mem 1094 (by decide +kernel) (by decide +kernel), jd_mem 1095 (by decide +kernel) (by decide +kernel), jd_mem 102 (by decide +kernel) (by decide +kernel), jd_mem 1096 (by decide +kernel) (by decide +kernel), ⟨by decide, by decide, by decide +kernel⟩⟩
theorem lX11_282 : jd_mv RX11 282 1 2 yX1_soManySink cX1_soManySink 9 none 3 := ⟨_, _, rfl, by decide, rfl, Or.inl (jd_mem 1093 (by decide +kernel) (by decide +kernel)), qX1_soManySink.1, qX1_soManySink.2.1, qX1_soManySink.2.2.1, qX1_soManySink.2.2.2.1, qX1_soManySink.2.2.2.2, by decide⟩
theorem qX1_meanLost : Cond.instanceMethod yX1_meanLost ∈ jd_TB ∧ Cond.selects RX1 yX1_meanLost yX1_meanLost ∈ jd_TB ∧ Cond.initialized RX1 ∈ jd_TB ∧ Cond.code yX1_meanLost cX1_meanLost 6 none ∈ jd_TB ∧ jd_ds yX1_meanLost 2 := ⟨jd_mem 1102 (by decide +kernel) (by decide +kernel), jd_mem 1103 (by decide +kernel) (by decide +kernel), jd_mem 102 (by decide +kernel) (by decide +kernel), jd_mem 1104 (by decide +kernel) (by decide +kernel), ⟨by decide, by decide, by decide +kernel⟩⟩
theorem lX11_286 : jd_mv RX11 286 1 2 yX1_meanLost cX1_meanLost 6 none 2 := ⟨_, _, rfl, by decide, rfl, Or.inl (jd_mem 1101 (by decide +kernel) (by decide +kernel)), qX1_meanLost.1, qX1_meanLost.2.1, qX1_meanLost.2.2.1, qX1_meanLost.2.2.2.1, qX1_meanLost.2.2.2.2, by decide⟩
theorem kX11_369 : Cond.constant RX11 369 65536 ∈ jd_TB := jd_mem 1112 (by decide +kernel) (by decide +kernel)
theorem qX11_isDraws : Cond.static yX11_isDraws ∈ jd_TB ∧ Cond.initialized yX11_isDraws.cls ∈ jd_TB ∧ Cond.code yX11_isDraws cX11_isDraws 2 (some .boolean) ∈ jd_TB ∧ jd_ds yX11_isDraws 2 := ⟨jd_mem 1110 (by decide +kernel) (by decide +kernel), jd_mem 92 (by decide +kernel) (by decide +kernel), jd_mem 1111 (by decide +kernel) (by decide +kernel), ⟨by decide, by decide, by decide +kernel⟩⟩
theorem lX11_289 : jd_st RX11 289 yX11_isDraws cX11_isDraws 2 (some .boolean) 2 := ⟨Or.inl (jd_mem 1109 (by decide +kernel) (by decide +kernel)), qX11_isDraws.1, qX11_isDraws.2.1, qX11_isDraws.2.2.1, qX11_isDraws.2.2.2, by decide⟩
theorem qX1_timesLost : Cond.instanceMethod yX1_timesLost ∈ jd_TB ∧ Cond.selects RX1 yX1_timesLost yX1_timesLost ∈ jd_TB ∧ Cond.initialized RX1 ∈ jd_TB ∧ Cond.code yX1_timesLost cX1_timesLost 8 (some .int) ∈ jd_TB ∧ jd_ds yX1_timesLost 4 := ⟨jd_mem 1114 (by decide +kernel) (by decide +kernel), jd_mem 1115 (by decide +kernel) (by decide +kernel), jd_mem 102 (by decide +kernel) (by decide +kernel), jd_mem 1116 (by decide +kernel) (by decide +kernel), ⟨by decide, by decide, by decide +kernel⟩⟩
theorem lX11_293 : jd_mv RX11 293 1 2 yX1_timesLost cX1_timesLost 8 (some .int) 4 := ⟨_, _, rfl, by decide, rfl, Or.inl (jd_mem 1113 (by decide +kernel) (by decide +kernel)), qX1_timesLost.1, qX1_timesLost.2.1, qX1_timesLost.2.2.1, qX1_timesLost.2.2.2.1, qX1_timesLost.2.2.2.2, by decide⟩
theorem qX1_mostAtOnce : Cond.instanceMethod yX1_mostAtOnce ∈ jd_TB ∧ Cond.selects RX1 yX1_mostAtOnce yX1_mostAtOnce ∈ jd_TB ∧ Cond.initialized RX1 ∈ jd_TB ∧ Cond.code yX1_mostAtOnce cX1_mostAtOnce 6 (some .int) ∈ jd_TB ∧ jd_ds yX1_mostAtOnce 3 := ⟨jd_mem 1127 (by decide +kernel) (by decide +kernel), jd_mem 1128 (by decide +kernel) (by decide +kernel), jd_mem 102 (by decide +kernel) (by decide +kernel), jd_mem 1129 (by decide +kernel) (by decide +kernel), ⟨by decide, by decide, by decide +kernel⟩⟩
theorem lX11_297 : jd_mv RX11 297 1 2 yX1_mostAtOnce cX1_mostAtOnce 6 (some .int) 3 := ⟨_, _, rfl, by decide, rfl, Or.inl (jd_mem 1126 (by decide +kernel) (by decide +kernel)), qX1_mostAtOnce.1, qX1_mostAtOnce.2.1, qX1_mostAtOnce.2.2.1, qX1_mostAtOnce.2.2.2.1, qX1_mostAtOnce.2.2.2.2, by decide⟩
theorem lX11_366 : jd_mv RX11 366 6 8 yX6_settle cX6_settle 2 none 0 := ⟨_, _, rfl, by decide, rfl, Or.inl (jd_mem 1154 (by decide +kernel) (by decide +kernel)), qX6_settle.1, qX6_settle.2.1, qX6_settle.2.2.1, qX6_settle.2.2.2.1, qX6_settle.2.2.2.2, by decide⟩
theorem lX11_304 : jd_mv RX11 304 6 8 yX6_isManned cX6_isManned 2 (some .boolean) 1 := ⟨_, _, rfl, by decide, rfl, Or.inl (jd_mem 1140 (by decide +kernel) (by decide +kernel)), qX6_isManned.1, qX6_isManned.2.1, qX6_isManned.2.2.1, qX6_isManned.2.2.2.1, qX6_isManned.2.2.2.2, by decide⟩
theorem qX2_keep : Cond.instanceMethod yX2_keep ∈ jd_TB ∧ Cond.selects RX2 yX2_keep yX2_keep ∈ jd_TB ∧ Cond.initialized RX2 ∈ jd_TB ∧ Cond.code yX2_keep cX2_keep 2 none ∈ jd_TB ∧ jd_ds yX2_keep 1 := ⟨jd_mem 1142 (by decide +kernel) (by decide +kernel), jd_mem 1143 (by decide +kernel) (by decide +kernel), jd_mem 98 (by decide +kernel) (by decide +kernel), jd_mem 1144 (by decide +kernel) (by decide +kernel), ⟨by decide, by decide, by decide +kernel⟩⟩
theorem lX11_307 : jd_mv RX11 307 2 5 yX2_keep cX2_keep 2 none 1 := ⟨_, _, rfl, by decide, rfl, Or.inl (jd_mem 1141 (by decide +kernel) (by decide +kernel)), qX2_keep.1, qX2_keep.2.1, qX2_keep.2.2.1, qX2_keep.2.2.2.1, qX2_keep.2.2.2.2, by decide⟩
theorem fX11_311 : jd_fl RX11 311 4 1 4 false := ⟨_, _, rfl, by decide, by decide, rfl, rfl, jd_mem 216 (by decide +kernel) (by decide +kernel)⟩
theorem qX11_acted : Cond.instanceMethod yX11_acted ∈ jd_TB ∧ Cond.selects RX11 yX11_acted yX11_acted ∈ jd_TB ∧ Cond.initialized RX11 ∈ jd_TB ∧ Cond.code yX11_acted cX11_acted 1 (some .boolean) ∈ jd_TB ∧ jd_ds yX11_acted 0 := ⟨jd_mem 1152 (by decide +kernel) (by decide +kernel), jd_mem 32 (by decide +kernel) (by decide +kernel), jd_mem 92 (by decide +kernel) (by decide +kernel), jd_mem 1153 (by decide +kernel) (by decide +kernel), ⟨by decide, by decide, by decide +kernel⟩⟩
theorem lX11_314 : jd_mv RX11 314 11 12 yX11_acted cX11_acted 1 (some .boolean) 0 := ⟨_, _, rfl, by decide, rfl, Or.inl (jd_mem 1150 (by decide +kernel) (by decide +kernel)), qX11_acted.1, qX11_acted.2.1, qX11_acted.2.2.1, qX11_acted.2.2.2.1, qX11_acted.2.2.2.2, by decide⟩
theorem qX11_deny : Cond.instanceMethod yX11_deny ∈ jd_TB ∧ Cond.selects RX11 yX11_deny yX11_deny ∈ jd_TB ∧ Cond.initialized RX11 ∈ jd_TB ∧ Cond.code yX11_deny cX11_deny 2 (some .boolean) ∈ jd_TB ∧ jd_ds yX11_deny 1 := ⟨jd_mem 1138 (by decide +kernel) (by decide +kernel), jd_mem 31 (by decide +kernel) (by decide +kernel), jd_mem 92 (by decide +kernel) (by decide +kernel), jd_mem 1139 (by decide +kernel) (by decide +kernel), ⟨by decide, by decide, by decide +kernel⟩⟩
theorem lX11_301 : jd_mv RX11 301 11 12 yX11_deny cX11_deny 2 (some .boolean) 1 := ⟨_, _, rfl, by decide, rfl, Or.inl (jd_mem 1136 (by decide +kernel) (by decide +kernel)), qX11_deny.1, qX11_deny.2.1, qX11_deny.2.2.1, qX11_deny.2.2.2.1, qX11_deny.2.2.2.2, by decide⟩
theorem dX11_rest_0 : decode cX11_rest 0 = .ok (.aload_n 0, 1) := by decide +kernel
theorem dX11_rest_1 : decode cX11_rest 1 = .ok (.getfield 85, 3) := by decide +kernel
theorem dX11_rest_4 : decode cX11_rest 4 = .ok (.ifCond .ne 9, 3) := by decide +kernel
theorem dX11_rest_7 : decode cX11_rest 7 = .ok (.aload_n 0, 1) := by decide +kernel
theorem dX11_rest_8 : decode cX11_rest 8 = .ok (.iconst 1, 1) := by decide +kernel
theorem dX11_rest_9 : decode cX11_rest 9 = .ok (.invokevirtual 104, 3) := by decide +kernel
theorem dX11_rest_12 : decode cX11_rest 12 = .ok (.ireturn, 1) := by decide +kernel
theorem dX11_rest_13 : decode cX11_rest 13 = .ok (.iload_n 1, 1) := by decide +kernel
theorem dX11_rest_14 : decode cX11_rest 14 = .ok (.invokestatic 267, 3) := by decide +kernel
theorem dX11_rest_17 : decode cX11_rest 17 = .ok (.ifCond .ne 9, 3) := by decide +kernel
theorem dX11_rest_20 : decode cX11_rest 20 = .ok (.aload_n 0, 1) := by decide +kernel
theorem dX11_rest_21 : decode cX11_rest 21 = .ok (.iconst 2, 1) := by decide +kernel
theorem dX11_rest_22 : decode cX11_rest 22 = .ok (.invokevirtual 104, 3) := by decide +kernel
theorem dX11_rest_25 : decode cX11_rest 25 = .ok (.ireturn, 1) := by decide +kernel
theorem dX11_rest_26 : decode cX11_rest 26 = .ok (.iconst 0, 1) := by decide +kernel
theorem dX11_rest_27 : decode cX11_rest 27 = .ok (.istore_n 2, 1) := by decide +kernel
theorem dX11_rest_28 : decode cX11_rest 28 = .ok (.iload_n 2, 1) := by decide +kernel
theorem dX11_rest_29 : decode cX11_rest 29 = .ok (.iconst 4, 1) := by decide +kernel
theorem dX11_rest_30 : decode cX11_rest 30 = .ok (.if_icmp .ge 59, 3) := by decide +kernel
theorem dX11_rest_33 : decode cX11_rest 33 = .ok (.iload_n 1, 1) := by decide +kernel
theorem dX11_rest_34 : decode cX11_rest 34 = .ok (.iload_n 2, 1) := by decide +kernel
theorem dX11_rest_35 : decode cX11_rest 35 = .ok (.iconst 2, 1) := by decide +kernel
theorem dX11_rest_36 : decode cX11_rest 36 = .ok (.iand, 1) := by decide +kernel
theorem dX11_rest_37 : decode cX11_rest 37 = .ok (.ifCond .eq 7, 3) := by decide +kernel
theorem dX11_rest_40 : decode cX11_rest 40 = .ok (.iconst 1, 1) := by decide +kernel
theorem dX11_rest_41 : decode cX11_rest 41 = .ok (.goto 4, 3) := by decide +kernel
theorem dX11_rest_44 : decode cX11_rest 44 = .ok (.iconst 0, 1) := by decide +kernel
theorem dX11_rest_45 : decode cX11_rest 45 = .ok (.iload_n 2, 1) := by decide +kernel
theorem dX11_rest_46 : decode cX11_rest 46 = .ok (.iconst 1, 1) := by decide +kernel
theorem dX11_rest_47 : decode cX11_rest 47 = .ok (.iand, 1) := by decide +kernel
theorem dX11_rest_48 : decode cX11_rest 48 = .ok (.ifCond .eq 7, 3) := by decide +kernel
theorem dX11_rest_51 : decode cX11_rest 51 = .ok (.iconst 1, 1) := by decide +kernel
theorem dX11_rest_52 : decode cX11_rest 52 = .ok (.goto 4, 3) := by decide +kernel
theorem dX11_rest_55 : decode cX11_rest 55 = .ok (.iconst 0, 1) := by decide +kernel
theorem dX11_rest_56 : decode cX11_rest 56 = .ok (.invokestatic 274, 3) := by decide +kernel
theorem dX11_rest_59 : decode cX11_rest 59 = .ok (.ifCond .eq 24, 3) := by decide +kernel
theorem dX11_rest_62 : decode cX11_rest 62 = .ok (.aload_n 0, 1) := by decide +kernel
theorem dX11_rest_63 : decode cX11_rest 63 = .ok (.iload_n 2, 1) := by decide +kernel
theorem dX11_rest_64 : decode cX11_rest 64 = .ok (.iconst 2, 1) := by decide +kernel
theorem dX11_rest_65 : decode cX11_rest 65 = .ok (.iand, 1) := by decide +kernel
theorem dX11_rest_66 : decode cX11_rest 66 = .ok (.ifCond .eq 8, 3) := by decide +kernel
theorem dX11_rest_69 : decode cX11_rest 69 = .ok (.bipush 10, 2) := by decide +kernel
theorem dX11_rest_71 : decode cX11_rest 71 = .ok (.goto 4, 3) := by decide +kernel
theorem dX11_rest_74 : decode cX11_rest 74 = .ok (.iconst 0, 1) := by decide +kernel
theorem dX11_rest_75 : decode cX11_rest 75 = .ok (.iload_n 2, 1) := by decide +kernel
theorem dX11_rest_76 : decode cX11_rest 76 = .ok (.iconst 1, 1) := by decide +kernel
theorem dX11_rest_77 : decode cX11_rest 77 = .ok (.iand, 1) := by decide +kernel
theorem dX11_rest_78 : decode cX11_rest 78 = .ok (.iadd, 1) := by decide +kernel
theorem dX11_rest_79 : decode cX11_rest 79 = .ok (.invokevirtual 128, 3) := by decide +kernel
theorem dX11_rest_82 : decode cX11_rest 82 = .ok (.ireturn, 1) := by decide +kernel
theorem dX11_rest_83 : decode cX11_rest 83 = .ok (.iinc 2 1, 3) := by decide +kernel
theorem dX11_rest_86 : decode cX11_rest 86 = .ok (.goto (-58), 3) := by decide +kernel
theorem dX11_rest_89 : decode cX11_rest 89 = .ok (.aload_n 0, 1) := by decide +kernel
theorem dX11_rest_90 : decode cX11_rest 90 = .ok (.bipush (-2), 2) := by decide +kernel
theorem dX11_rest_92 : decode cX11_rest 92 = .ok (.invokevirtual 128, 3) := by decide +kernel
theorem dX11_rest_95 : decode cX11_rest 95 = .ok (.ireturn, 1) := by decide +kernel
theorem dX11_safe_0 : decode cX11_safe 0 = .ok (.aload_n 0, 1) := by decide +kernel
theorem dX11_safe_1 : decode cX11_safe 1 = .ok (.getfield 85, 3) := by decide +kernel
theorem dX11_safe_4 : decode cX11_safe 4 = .ok (.ifCond .ne 10, 3) := by decide +kernel
theorem dX11_safe_7 : decode cX11_safe 7 = .ok (.aload_n 0, 1) := by decide +kernel
theorem dX11_safe_8 : decode cX11_safe 8 = .ok (.iconst 1, 1) := by decide +kernel
theorem dX11_safe_9 : decode cX11_safe 9 = .ok (.invokevirtual 104, 3) := by decide +kernel
theorem dX11_safe_12 : decode cX11_safe 12 = .ok (.i2l, 1) := by decide +kernel
theorem dX11_safe_13 : decode cX11_safe 13 = .ok (.lreturn, 1) := by decide +kernel
theorem dX11_safe_14 : decode cX11_safe 14 = .ok (.aload_n 0, 1) := by decide +kernel
theorem dX11_safe_15 : decode cX11_safe 15 = .ok (.getfield 67, 3) := by decide +kernel
theorem dX11_safe_18 : decode cX11_safe 18 = .ok (.aload_n 0, 1) := by decide +kernel
theorem dX11_safe_19 : decode cX11_safe 19 = .ok (.getfield 32, 3) := by decide +kernel
theorem dX11_safe_22 : decode cX11_safe 22 = .ok (.aload_n 0, 1) := by decide +kernel
theorem dX11_safe_23 : decode cX11_safe 23 = .ok (.getfield 74, 3) := by decide +kernel
theorem dX11_safe_26 : decode cX11_safe 26 = .ok (.invokevirtual 278, 3) := by decide +kernel
theorem dX11_safe_29 : decode cX11_safe 29 = .ok (.aload_n 0, 1) := by decide +kernel
theorem dX11_safe_30 : decode cX11_safe 30 = .ok (.iload_n 1, 1) := by decide +kernel
theorem dX11_safe_31 : decode cX11_safe 31 = .ok (.invokevirtual 241, 3) := by decide +kernel
theorem dX11_safe_34 : decode cX11_safe 34 = .ok (.lreturn, 1) := by decide +kernel
theorem dX11_sinking_0 : decode cX11_sinking 0 = .ok (.aload_n 0, 1) := by decide +kernel
theorem dX11_sinking_1 : decode cX11_sinking 1 = .ok (.getfield 85, 3) := by decide +kernel
theorem dX11_sinking_4 : decode cX11_sinking 4 = .ok (.ifCond .ne 10, 3) := by decide +kernel
theorem dX11_sinking_7 : decode cX11_sinking 7 = .ok (.aload_n 0, 1) := by decide +kernel
theorem dX11_sinking_8 : decode cX11_sinking 8 = .ok (.iconst 1, 1) := by decide +kernel
theorem dX11_sinking_9 : decode cX11_sinking 9 = .ok (.invokevirtual 104, 3) := by decide +kernel
theorem dX11_sinking_12 : decode cX11_sinking 12 = .ok (.i2l, 1) := by decide +kernel
theorem dX11_sinking_13 : decode cX11_sinking 13 = .ok (.lreturn, 1) := by decide +kernel
theorem dX11_sinking_14 : decode cX11_sinking 14 = .ok (.iload_n 1, 1) := by decide +kernel
theorem dX11_sinking_15 : decode cX11_sinking 15 = .ok (.ifCond .lt 9, 3) := by decide +kernel
theorem dX11_sinking_18 : decode cX11_sinking 18 = .ok (.iload_n 1, 1) := by decide +kernel
theorem dX11_sinking_19 : decode cX11_sinking 19 = .ok (.bipush 6, 2) := by decide +kernel
theorem dX11_sinking_21 : decode cX11_sinking 21 = .ok (.if_icmp .le 10, 3) := by decide +kernel
theorem dX11_sinking_24 : decode cX11_sinking 24 = .ok (.aload_n 0, 1) := by decide +kernel
theorem dX11_sinking_25 : decode cX11_sinking 25 = .ok (.iconst 2, 1) := by decide +kernel
theorem dX11_sinking_26 : decode cX11_sinking 26 = .ok (.invokevirtual 104, 3) := by decide +kernel
theorem dX11_sinking_29 : decode cX11_sinking 29 = .ok (.i2l, 1) := by decide +kernel
theorem dX11_sinking_30 : decode cX11_sinking 30 = .ok (.lreturn, 1) := by decide +kernel
theorem dX11_sinking_31 : decode cX11_sinking 31 = .ok (.aload_n 0, 1) := by decide +kernel
theorem dX11_sinking_32 : decode cX11_sinking 32 = .ok (.getfield 67, 3) := by decide +kernel
theorem dX11_sinking_35 : decode cX11_sinking 35 = .ok (.aload_n 0, 1) := by decide +kernel
theorem dX11_sinking_36 : decode cX11_sinking 36 = .ok (.getfield 32, 3) := by decide +kernel
theorem dX11_sinking_39 : decode cX11_sinking 39 = .ok (.iload_n 1, 1) := by decide +kernel
theorem dX11_sinking_40 : decode cX11_sinking 40 = .ok (.aload_n 0, 1) := by decide +kernel
theorem dX11_sinking_41 : decode cX11_sinking 41 = .ok (.getfield 74, 3) := by decide +kernel
theorem dX11_sinking_44 : decode cX11_sinking 44 = .ok (.invokevirtual 282, 3) := by decide +kernel
theorem dX11_sinking_47 : decode cX11_sinking 47 = .ok (.aload_n 0, 1) := by decide +kernel
theorem dX11_sinking_48 : decode cX11_sinking 48 = .ok (.iload_n 2, 1) := by decide +kernel
theorem dX11_sinking_49 : decode cX11_sinking 49 = .ok (.invokevirtual 241, 3) := by decide +kernel
theorem dX11_sinking_52 : decode cX11_sinking 52 = .ok (.lreturn, 1) := by decide +kernel
theorem dX11_mean_0 : decode cX11_mean 0 = .ok (.aload_n 0, 1) := by decide +kernel
theorem dX11_mean_1 : decode cX11_mean 1 = .ok (.getfield 85, 3) := by decide +kernel
theorem dX11_mean_4 : decode cX11_mean 4 = .ok (.ifCond .ne 10, 3) := by decide +kernel
theorem dX11_mean_7 : decode cX11_mean 7 = .ok (.aload_n 0, 1) := by decide +kernel
theorem dX11_mean_8 : decode cX11_mean 8 = .ok (.iconst 1, 1) := by decide +kernel
theorem dX11_mean_9 : decode cX11_mean 9 = .ok (.invokevirtual 104, 3) := by decide +kernel
theorem dX11_mean_12 : decode cX11_mean 12 = .ok (.i2l, 1) := by decide +kernel
theorem dX11_mean_13 : decode cX11_mean 13 = .ok (.lreturn, 1) := by decide +kernel
theorem dX11_mean_14 : decode cX11_mean 14 = .ok (.aload_n 0, 1) := by decide +kernel
theorem dX11_mean_15 : decode cX11_mean 15 = .ok (.getfield 67, 3) := by decide +kernel
theorem dX11_mean_18 : decode cX11_mean 18 = .ok (.aload_n 0, 1) := by decide +kernel
theorem dX11_mean_19 : decode cX11_mean 19 = .ok (.getfield 32, 3) := by decide +kernel
theorem dX11_mean_22 : decode cX11_mean 22 = .ok (.aload_n 0, 1) := by decide +kernel
theorem dX11_mean_23 : decode cX11_mean 23 = .ok (.getfield 74, 3) := by decide +kernel
theorem dX11_mean_26 : decode cX11_mean 26 = .ok (.invokevirtual 286, 3) := by decide +kernel
theorem dX11_mean_29 : decode cX11_mean 29 = .ok (.aload_n 0, 1) := by decide +kernel
theorem dX11_mean_30 : decode cX11_mean 30 = .ok (.iload_n 1, 1) := by decide +kernel
theorem dX11_mean_31 : decode cX11_mean 31 = .ok (.invokevirtual 241, 3) := by decide +kernel
theorem dX11_mean_34 : decode cX11_mean 34 = .ok (.lreturn, 1) := by decide +kernel
theorem dX11_isDraws_0 : decode cX11_isDraws 0 = .ok (.iload_n 0, 1) := by decide +kernel
theorem dX11_isDraws_1 : decode cX11_isDraws 1 = .ok (.ifCond .lt 24, 3) := by decide +kernel
theorem dX11_isDraws_4 : decode cX11_isDraws 4 = .ok (.iload_n 0, 1) := by decide +kernel
theorem dX11_isDraws_5 : decode cX11_isDraws 5 = .ok (.ldc_w 369, 3) := by decide +kernel
theorem dX11_isDraws_8 : decode cX11_isDraws 8 = .ok (.if_icmp .gt 17, 3) := by decide +kernel
theorem dX11_isDraws_11 : decode cX11_isDraws 11 = .ok (.iload_n 1, 1) := by decide +kernel
theorem dX11_isDraws_12 : decode cX11_isDraws 12 = .ok (.ifCond .lt 13, 3) := by decide +kernel
theorem dX11_isDraws_15 : decode cX11_isDraws 15 = .ok (.iload_n 1, 1) := by decide +kernel
theorem dX11_isDraws_16 : decode cX11_isDraws 16 = .ok (.bipush 90, 2) := by decide +kernel
theorem dX11_isDraws_18 : decode cX11_isDraws 18 = .ok (.if_icmp .gt 7, 3) := by decide +kernel
theorem dX11_isDraws_21 : decode cX11_isDraws 21 = .ok (.iconst 1, 1) := by decide +kernel
theorem dX11_isDraws_22 : decode cX11_isDraws 22 = .ok (.goto 4, 3) := by decide +kernel
theorem dX11_isDraws_25 : decode cX11_isDraws 25 = .ok (.iconst 0, 1) := by decide +kernel
theorem dX11_isDraws_26 : decode cX11_isDraws 26 = .ok (.ireturn, 1) := by decide +kernel
theorem dX11_afternoons_0 : decode cX11_afternoons 0 = .ok (.aload_n 0, 1) := by decide +kernel
theorem dX11_afternoons_1 : decode cX11_afternoons 1 = .ok (.iload_n 1, 1) := by decide +kernel
theorem dX11_afternoons_2 : decode cX11_afternoons 2 = .ok (.invokevirtual 137, 3) := by decide +kernel
theorem dX11_afternoons_5 : decode cX11_afternoons 5 = .ok (.ifCond .ne 9, 3) := by decide +kernel
theorem dX11_afternoons_8 : decode cX11_afternoons 8 = .ok (.aload_n 0, 1) := by decide +kernel
theorem dX11_afternoons_9 : decode cX11_afternoons 9 = .ok (.iconst 1, 1) := by decide +kernel
theorem dX11_afternoons_10 : decode cX11_afternoons 10 = .ok (.invokevirtual 104, 3) := by decide +kernel
theorem dX11_afternoons_13 : decode cX11_afternoons 13 = .ok (.ireturn, 1) := by decide +kernel
theorem dX11_afternoons_14 : decode cX11_afternoons 14 = .ok (.iload_n 2, 1) := by decide +kernel
theorem dX11_afternoons_15 : decode cX11_afternoons 15 = .ok (.iload_n 3, 1) := by decide +kernel
theorem dX11_afternoons_16 : decode cX11_afternoons 16 = .ok (.invokestatic 289, 3) := by decide +kernel
theorem dX11_afternoons_19 : decode cX11_afternoons 19 = .ok (.ifCond .ne 9, 3) := by decide +kernel
theorem dX11_afternoons_22 : decode cX11_afternoons 22 = .ok (.aload_n 0, 1) := by decide +kernel
theorem dX11_afternoons_23 : decode cX11_afternoons 23 = .ok (.iconst 2, 1) := by decide +kernel
theorem dX11_afternoons_24 : decode cX11_afternoons 24 = .ok (.invokevirtual 104, 3) := by decide +kernel
theorem dX11_afternoons_27 : decode cX11_afternoons 27 = .ok (.ireturn, 1) := by decide +kernel
theorem dX11_afternoons_28 : decode cX11_afternoons 28 = .ok (.aload_n 0, 1) := by decide +kernel
theorem dX11_afternoons_29 : decode cX11_afternoons 29 = .ok (.aload_n 0, 1) := by decide +kernel
theorem dX11_afternoons_30 : decode cX11_afternoons 30 = .ok (.getfield 67, 3) := by decide +kernel
theorem dX11_afternoons_33 : decode cX11_afternoons 33 = .ok (.aload_n 0, 1) := by decide +kernel
theorem dX11_afternoons_34 : decode cX11_afternoons 34 = .ok (.getfield 32, 3) := by decide +kernel
theorem dX11_afternoons_37 : decode cX11_afternoons 37 = .ok (.iload_n 1, 1) := by decide +kernel
theorem dX11_afternoons_38 : decode cX11_afternoons 38 = .ok (.iload_n 2, 1) := by decide +kernel
theorem dX11_afternoons_39 : decode cX11_afternoons 39 = .ok (.iload_n 3, 1) := by decide +kernel
theorem dX11_afternoons_40 : decode cX11_afternoons 40 = .ok (.invokevirtual 293, 3) := by decide +kernel
theorem dX11_afternoons_43 : decode cX11_afternoons 43 = .ok (.invokevirtual 128, 3) := by decide +kernel
theorem dX11_afternoons_46 : decode cX11_afternoons 46 = .ok (.ireturn, 1) := by decide +kernel
theorem dX11_worst_0 : decode cX11_worst 0 = .ok (.aload_n 0, 1) := by decide +kernel
theorem dX11_worst_1 : decode cX11_worst 1 = .ok (.getfield 85, 3) := by decide +kernel
theorem dX11_worst_4 : decode cX11_worst 4 = .ok (.ifCond .ne 9, 3) := by decide +kernel
theorem dX11_worst_7 : decode cX11_worst 7 = .ok (.aload_n 0, 1) := by decide +kernel
theorem dX11_worst_8 : decode cX11_worst 8 = .ok (.iconst 1, 1) := by decide +kernel
theorem dX11_worst_9 : decode cX11_worst 9 = .ok (.invokevirtual 104, 3) := by decide +kernel
theorem dX11_worst_12 : decode cX11_worst 12 = .ok (.ireturn, 1) := by decide +kernel
theorem dX11_worst_13 : decode cX11_worst 13 = .ok (.iload_n 1, 1) := by decide +kernel
theorem dX11_worst_14 : decode cX11_worst 14 = .ok (.iload_n 2, 1) := by decide +kernel
theorem dX11_worst_15 : decode cX11_worst 15 = .ok (.invokestatic 289, 3) := by decide +kernel
theorem dX11_worst_18 : decode cX11_worst 18 = .ok (.ifCond .ne 9, 3) := by decide +kernel
theorem dX11_worst_21 : decode cX11_worst 21 = .ok (.aload_n 0, 1) := by decide +kernel
theorem dX11_worst_22 : decode cX11_worst 22 = .ok (.iconst 2, 1) := by decide +kernel
theorem dX11_worst_23 : decode cX11_worst 23 = .ok (.invokevirtual 104, 3) := by decide +kernel
theorem dX11_worst_26 : decode cX11_worst 26 = .ok (.ireturn, 1) := by decide +kernel
theorem dX11_worst_27 : decode cX11_worst 27 = .ok (.aload_n 0, 1) := by decide +kernel
theorem dX11_worst_28 : decode cX11_worst 28 = .ok (.aload_n 0, 1) := by decide +kernel
theorem dX11_worst_29 : decode cX11_worst 29 = .ok (.getfield 67, 3) := by decide +kernel
theorem dX11_worst_32 : decode cX11_worst 32 = .ok (.aload_n 0, 1) := by decide +kernel
theorem dX11_worst_33 : decode cX11_worst 33 = .ok (.getfield 32, 3) := by decide +kernel
theorem dX11_worst_36 : decode cX11_worst 36 = .ok (.iload_n 1, 1) := by decide +kernel
theorem dX11_worst_37 : decode cX11_worst 37 = .ok (.iload_n 2, 1) := by decide +kernel
theorem dX11_worst_38 : decode cX11_worst 38 = .ok (.invokevirtual 297, 3) := by decide +kernel
theorem dX11_worst_41 : decode cX11_worst 41 = .ok (.invokevirtual 128, 3) := by decide +kernel
theorem dX11_worst_44 : decode cX11_worst 44 = .ok (.ireturn, 1) := by decide +kernel
theorem dX11_deny_0 : decode cX11_deny 0 = .ok (.aload_n 0, 1) := by decide +kernel
theorem dX11_deny_1 : decode cX11_deny 1 = .ok (.iload_n 1, 1) := by decide +kernel
theorem dX11_deny_2 : decode cX11_deny 2 = .ok (.putfield 89, 3) := by decide +kernel
theorem dX11_deny_5 : decode cX11_deny 5 = .ok (.iconst 0, 1) := by decide +kernel
theorem dX11_deny_6 : decode cX11_deny 6 = .ok (.ireturn, 1) := by decide +kernel
theorem dX11_acted_0 : decode cX11_acted 0 = .ok (.aload_n 0, 1) := by decide +kernel
theorem dX11_acted_1 : decode cX11_acted 1 = .ok (.getfield 32, 3) := by decide +kernel
theorem dX11_acted_4 : decode cX11_acted 4 = .ok (.invokevirtual 366, 3) := by decide +kernel
theorem dX11_acted_7 : decode cX11_acted 7 = .ok (.aload_n 0, 1) := by decide +kernel
theorem dX11_acted_8 : decode cX11_acted 8 = .ok (.iconst 0, 1) := by decide +kernel
theorem dX11_acted_9 : decode cX11_acted 9 = .ok (.putfield 89, 3) := by decide +kernel
theorem dX11_acted_12 : decode cX11_acted 12 = .ok (.iconst 1, 1) := by decide +kernel
theorem dX11_acted_13 : decode cX11_acted 13 = .ok (.ireturn, 1) := by decide +kernel
theorem dX11_man_0 : decode cX11_man 0 = .ok (.aload_n 0, 1) := by decide +kernel
theorem dX11_man_1 : decode cX11_man 1 = .ok (.iload_n 1, 1) := by decide +kernel
theorem dX11_man_2 : decode cX11_man 2 = .ok (.invokevirtual 144, 3) := by decide +kernel
theorem dX11_man_5 : decode cX11_man 5 = .ok (.ifCond .ne 9, 3) := by decide +kernel
theorem dX11_man_8 : decode cX11_man 8 = .ok (.aload_n 0, 1) := by decide +kernel
theorem dX11_man_9 : decode cX11_man 9 = .ok (.iconst 1, 1) := by decide +kernel
theorem dX11_man_10 : decode cX11_man 10 = .ok (.invokevirtual 301, 3) := by decide +kernel
theorem dX11_man_13 : decode cX11_man 13 = .ok (.ireturn, 1) := by decide +kernel
theorem dX11_man_14 : decode cX11_man 14 = .ok (.aload_n 0, 1) := by decide +kernel
theorem dX11_man_15 : decode cX11_man 15 = .ok (.getfield 32, 3) := by decide +kernel
theorem dX11_man_18 : decode cX11_man 18 = .ok (.iload_n 1, 1) := by decide +kernel
theorem dX11_man_19 : decode cX11_man 19 = .ok (.invokevirtual 304, 3) := by decide +kernel
theorem dX11_man_22 : decode cX11_man 22 = .ok (.ifCond .eq 9, 3) := by decide +kernel
theorem dX11_man_25 : decode cX11_man 25 = .ok (.aload_n 0, 1) := by decide +kernel
theorem dX11_man_26 : decode cX11_man 26 = .ok (.iconst 5, 1) := by decide +kernel
theorem dX11_man_27 : decode cX11_man 27 = .ok (.invokevirtual 301, 3) := by decide +kernel
theorem dX11_man_30 : decode cX11_man 30 = .ok (.ireturn, 1) := by decide +kernel
theorem dX11_man_31 : decode cX11_man 31 = .ok (.aload_n 0, 1) := by decide +kernel
theorem dX11_man_32 : decode cX11_man 32 = .ok (.getfield 39, 3) := by decide +kernel
theorem dX11_man_35 : decode cX11_man 35 = .ok (.aload_n 0, 1) := by decide +kernel
theorem dX11_man_36 : decode cX11_man 36 = .ok (.getfield 32, 3) := by decide +kernel
theorem dX11_man_39 : decode cX11_man 39 = .ok (.getfield 216, 3) := by decide +kernel
theorem dX11_man_42 : decode cX11_man 42 = .ok (.invokevirtual 307, 3) := by decide +kernel
theorem dX11_man_45 : decode cX11_man 45 = .ok (.aload_n 0, 1) := by decide +kernel
theorem dX11_man_46 : decode cX11_man 46 = .ok (.getfield 32, 3) := by decide +kernel
theorem dX11_man_49 : decode cX11_man 49 = .ok (.getfield 216, 3) := by decide +kernel
theorem dX11_man_52 : decode cX11_man 52 = .ok (.dup, 1) := by decide +kernel
theorem dX11_man_53 : decode cX11_man 53 = .ok (.getfield 311, 3) := by decide +kernel
theorem dX11_man_56 : decode cX11_man 56 = .ok (.iconst 1, 1) := by decide +kernel
theorem dX11_man_57 : decode cX11_man 57 = .ok (.iload_n 1, 1) := by decide +kernel
theorem dX11_man_58 : decode cX11_man 58 = .ok (.ishl, 1) := by decide +kernel
theorem dX11_man_59 : decode cX11_man 59 = .ok (.ior, 1) := by decide +kernel
theorem dX11_man_60 : decode cX11_man 60 = .ok (.putfield 311, 3) := by decide +kernel
theorem dX11_man_63 : decode cX11_man 63 = .ok (.aload_n 0, 1) := by decide +kernel
theorem dX11_man_64 : decode cX11_man 64 = .ok (.invokevirtual 314, 3) := by decide +kernel
theorem dX11_man_67 : decode cX11_man 67 = .ok (.ireturn, 1) := by decide +kernel
theorem dX11_leave_0 : decode cX11_leave 0 = .ok (.aload_n 0, 1) := by decide +kernel
theorem dX11_leave_1 : decode cX11_leave 1 = .ok (.iload_n 1, 1) := by decide +kernel
theorem dX11_leave_2 : decode cX11_leave 2 = .ok (.invokevirtual 144, 3) := by decide +kernel
theorem dX11_leave_5 : decode cX11_leave 5 = .ok (.ifCond .ne 9, 3) := by decide +kernel
theorem dX11_leave_8 : decode cX11_leave 8 = .ok (.aload_n 0, 1) := by decide +kernel
theorem dX11_leave_9 : decode cX11_leave 9 = .ok (.iconst 1, 1) := by decide +kernel
theorem dX11_leave_10 : decode cX11_leave 10 = .ok (.invokevirtual 301, 3) := by decide +kernel
theorem dX11_leave_13 : decode cX11_leave 13 = .ok (.ireturn, 1) := by decide +kernel
theorem dX11_leave_14 : decode cX11_leave 14 = .ok (.aload_n 0, 1) := by decide +kernel
theorem dX11_leave_15 : decode cX11_leave 15 = .ok (.getfield 32, 3) := by decide +kernel
theorem dX11_leave_18 : decode cX11_leave 18 = .ok (.iload_n 1, 1) := by decide +kernel
theorem dX11_leave_19 : decode cX11_leave 19 = .ok (.invokevirtual 304, 3) := by decide +kernel
theorem dX11_leave_22 : decode cX11_leave 22 = .ok (.ifCond .ne 9, 3) := by decide +kernel
theorem dX11_leave_25 : decode cX11_leave 25 = .ok (.aload_n 0, 1) := by decide +kernel
theorem dX11_leave_26 : decode cX11_leave 26 = .ok (.iconst 5, 1) := by decide +kernel
theorem dX11_leave_27 : decode cX11_leave 27 = .ok (.invokevirtual 301, 3) := by decide +kernel
theorem dX11_leave_30 : decode cX11_leave 30 = .ok (.ireturn, 1) := by decide +kernel
theorem dX11_leave_31 : decode cX11_leave 31 = .ok (.aload_n 0, 1) := by decide +kernel
theorem dX11_leave_32 : decode cX11_leave 32 = .ok (.getfield 39, 3) := by decide +kernel
theorem dX11_leave_35 : decode cX11_leave 35 = .ok (.aload_n 0, 1) := by decide +kernel
theorem dX11_leave_36 : decode cX11_leave 36 = .ok (.getfield 32, 3) := by decide +kernel
theorem dX11_leave_39 : decode cX11_leave 39 = .ok (.getfield 216, 3) := by decide +kernel
theorem dX11_leave_42 : decode cX11_leave 42 = .ok (.invokevirtual 307, 3) := by decide +kernel
theorem dX11_leave_45 : decode cX11_leave 45 = .ok (.aload_n 0, 1) := by decide +kernel
theorem dX11_leave_46 : decode cX11_leave 46 = .ok (.getfield 32, 3) := by decide +kernel
theorem dX11_leave_49 : decode cX11_leave 49 = .ok (.getfield 216, 3) := by decide +kernel
theorem dX11_leave_52 : decode cX11_leave 52 = .ok (.dup, 1) := by decide +kernel
theorem dX11_leave_53 : decode cX11_leave 53 = .ok (.getfield 311, 3) := by decide +kernel
theorem dX11_leave_56 : decode cX11_leave 56 = .ok (.iconst 1, 1) := by decide +kernel
theorem dX11_leave_57 : decode cX11_leave 57 = .ok (.iload_n 1, 1) := by decide +kernel
theorem dX11_leave_58 : decode cX11_leave 58 = .ok (.ishl, 1) := by decide +kernel
theorem dX11_leave_59 : decode cX11_leave 59 = .ok (.iconst (-1), 1) := by decide +kernel
theorem dX11_leave_60 : decode cX11_leave 60 = .ok (.ixor, 1) := by decide +kernel
theorem dX11_leave_61 : decode cX11_leave 61 = .ok (.iand, 1) := by decide +kernel
theorem dX11_leave_62 : decode cX11_leave 62 = .ok (.putfield 311, 3) := by decide +kernel
theorem dX11_leave_65 : decode cX11_leave 65 = .ok (.aload_n 0, 1) := by decide +kernel
theorem dX11_leave_66 : decode cX11_leave 66 = .ok (.invokevirtual 314, 3) := by decide +kernel
theorem dX11_leave_69 : decode cX11_leave 69 = .ok (.ireturn, 1) := by decide +kernel
def m_X11_rest (t : Nat) (x0p : Int32) (σ : jd_Hp) : Option (Int32 × jd_Hp) :=
jd_if (¬ (σ.2.1 t 10) = 0) (
jd_b (m_X11_isFear x0p σ) fun r1 σ1 =>
jd_if (¬ r1 = 0) (
jd_b (jd_lp (S := Int32) (T := (Unit) ⊕ Int32) (fun s2 σ2 =>
jd_if (4 ≤ s2) (
some ((Sum.inr (Sum.inl ())), σ2)) (
jd_b (α := Int32) (
jd_if ((s2 &&& 2) = 0) (
some (0, σ2)) (
some (1, σ2))) fun t4 σ4 =>
jd_b (α := Int32) (
jd_if ((s2 &&& 1) = 0) (
some (0, σ4)) (
some (1, σ4))) fun t5 σ5 =>
jd_b (m_X11_isRest x0p t4 t5 σ5) fun r6 σ6 =>
jd_if (r6 = 0) (
some (Sum.inl (s2 + 1), σ6)) (
jd_if ((s2 &&& 2) = 0) (
jd_o σ6 (11, 12) (some t) fun a7 =>
jd_b (m_X11_grant a7 (0 + (s2 &&& 1)) σ6) fun r8 σ8 =>
some (Sum.inr (Sum.inr r8), σ8)) (
jd_o σ6 (11, 12) (some t) fun a9 =>
jd_b (m_X11_grant a9 (10 + (s2 &&& 1)) σ6) fun r10 σ10 =>
some (Sum.inr (Sum.inr r10), σ10))))) jd_fu 0 σ1) (jd_q (fun t3 σ3 =>
jd_o σ3 (11, 12) (some t) fun a11 =>
jd_b (m_X11_grant a11 (-2) σ3) fun r12 σ12 =>
some (r12, σ12)) (fun v2 σ3 => some (v2, σ3)))) (
jd_b (m_X11_refuse t 2 σ1) fun r13 σ13 =>
some (r13, σ13))) (
jd_b (m_X11_refuse t 1 σ) fun r14 σ14 =>
some (r14, σ14))
set_option maxHeartbeats 4000000 in
set_option maxRecDepth 20000 in
theorem c_X11_rest {l : Launch} {s0 : State} {G : jd_G} (hF : jd_F s0 G) (σ : jd_Hp) (t : Nat) (ht : σ.1[t]? = some (11, 12)) (x0p : Int32) : jd_M l s0 G yX11_rest cX11_rest 3 (some .int) 2 je_i [jd_v G (some t), .int x0p] σ (m_X11_rest t x0p σ) := by
  refine jd_enter hF (by decide) (fun G => [some (jd_v G (some t)), some (.int x0p), none]) rfl (by simp [lv_args, jd_al, jd_v_cat, jd_cti, jd_ctl]) (by simp [lg_sl, jd_v_cat, jd_cti, jd_ctl]) (fun X hD hX => ?_)
  have hX : jd_C X RX11 "rest" cX11_rest 3 (some .int) := hX
  unfold m_X11_rest
  refine jr_ald0 (pc := 0) hX dX11_rest_0 ?_
  refine jr_geti (pc := 1) hX fX11_85 rfl dX11_rest_1 ht ?_
  refine jr_ifne (pc := 4) hX 13 dX11_rest_4 (by decide) ?_ ?_
  · refine jr_ild1 (pc := 13) hX dX11_rest_13 ?_
    refine jr_cS1i (pc := 14) hX lX11_267 (c_X11_isFear hX.F σ _) (jd_dd hD rfl) (Nat.le_of_ble_eq_true rfl) dX11_rest_14 (fun r1 σ1 p1 => ?_)
    refine jr_ifne (pc := 17) hX 26 dX11_rest_17 (by decide) ?_ ?_
    · refine jr_iconst (pc := 26) hX 0 rfl dX11_rest_26 ?_
      refine jr_ist2 (pc := 27) hX (jn_i _) dX11_rest_27 ?_
      refine jr_loopR (pc := 28) (fun (s2 : Int32) => [some (jd_v (jd_gG X) (some t)), some (.int x0p), some (.int s2)]) (fun (t3 : Unit) => [some (jd_v (jd_gG X) (some t)), none, none]) 89 0 (fun t3 σ3 => ?_) (fun K2 bk2 ex2 wr2 s2 σ2 => ?_)
      · refine jr_ald0 (pc := 89) hX dX11_rest_89 ?_
        refine jr_bipush (pc := 90) hX (-2) rfl dX11_rest_90 ?_
        refine jr_ck1 (fun a11 e11 h11 => ?_)
        refine jr_cV1i (pc := 92) hX lX11_128 (c_X11_grant hX.F σ3 a11 h11 _) (jd_dd hD rfl) (Nat.le_of_ble_eq_true rfl) dX11_rest_92 h11 (fun r12 σ12 p12 => ?_)
        exact jr_iret (pc := 95) hX dX11_rest_95 rfl
      · refine jr_ild2 (pc := 28) hX dX11_rest_28 ?_
        refine jr_iconst (pc := 29) hX 4 rfl dX11_rest_29 ?_
        refine jr_icge (pc := 30) hX 89 dX11_rest_30 (by decide) ?_ ?_
        · refine jr_wk [true, false, false] ?_
          exact ex2 () _
        · refine jr_ild1 (pc := 33) hX dX11_rest_33 ?_
          refine jr_ild2 (pc := 34) hX dX11_rest_34 ?_
          refine jr_iconst (pc := 35) hX 2 rfl dX11_rest_35 ?_
          refine jr_iand (pc := 36) hX dX11_rest_36 ?_
          refine jr_join (pc := 37) 45 (fun (t4 : Int32) => [some (jd_v (jd_gG X) (some t)), some (.int x0p), some (.int s2)]) (fun (t4 : Int32) => [.int t4, .int x0p]) (fun t4 σ4 => ?_) (fun K4 jj4 => ?_)
          · refine jr_ild2 (pc := 45) hX dX11_rest_45 ?_
            refine jr_iconst (pc := 46) hX 1 rfl dX11_rest_46 ?_
            refine jr_iand (pc := 47) hX dX11_rest_47 ?_
            refine jr_join (pc := 48) 56 (fun (t5 : Int32) => [some (jd_v (jd_gG X) (some t)), some (.int x0p), some (.int s2)]) (fun (t5 : Int32) => [.int t5, .int t4, .int x0p]) (fun t5 σ5 => ?_) (fun K5 jj5 => ?_)
            · refine jr_cS3i (pc := 56) hX lX11_274 (c_X11_isRest hX.F σ5 _ _ _) (jd_dd hD rfl) (Nat.le_of_ble_eq_true rfl) dX11_rest_56 (fun r6 σ6 p6 => ?_)
              refine jr_ifeq (pc := 59) hX 83 dX11_rest_59 (by decide) ?_ ?_
              · refine jr_inc2 (pc := 83) hX 1 rfl (jn_i _) dX11_rest_83 ?_
                refine jr_goto (pc := 86) hX 28 dX11_rest_86 (by decide) ?_
                exact bk2 (s2 + 1) _
              · refine jr_ald0 (pc := 62) hX dX11_rest_62 ?_
                refine jr_ild2 (pc := 63) hX dX11_rest_63 ?_
                refine jr_iconst (pc := 64) hX 2 rfl dX11_rest_64 ?_
                refine jr_iand (pc := 65) hX dX11_rest_65 ?_
                refine jr_ifeq (pc := 66) hX 74 dX11_rest_66 (by decide) ?_ ?_
                · refine jr_iconst (pc := 74) hX 0 rfl dX11_rest_74 ?_
                  refine jr_ild2 (pc := 75) hX dX11_rest_75 ?_
                  refine jr_iconst (pc := 76) hX 1 rfl dX11_rest_76 ?_
                  refine jr_iand (pc := 77) hX dX11_rest_77 ?_
                  refine jr_iadd (pc := 78) hX dX11_rest_78 ?_
                  refine jr_ck1 (fun a7 e7 h7 => ?_)
                  refine jr_cV1i (pc := 79) hX lX11_128 (c_X11_grant hX.F σ6 a7 h7 _) (jd_dd hD rfl) (Nat.le_of_ble_eq_true rfl) dX11_rest_79 h7 (fun r8 σ8 p8 => ?_)
                  exact jr_iret (pc := 82) hX dX11_rest_82 ((wr2 _ _).trans rfl)
                · refine jr_bipush (pc := 69) hX 10 rfl dX11_rest_69 ?_
                  refine jr_goto (pc := 71) hX 75 dX11_rest_71 (by decide) ?_
                  refine jr_ild2 (pc := 75) hX dX11_rest_75 ?_
                  refine jr_iconst (pc := 76) hX 1 rfl dX11_rest_76 ?_
                  refine jr_iand (pc := 77) hX dX11_rest_77 ?_
                  refine jr_iadd (pc := 78) hX dX11_rest_78 ?_
                  refine jr_ck1 (fun a9 e9 h9 => ?_)
                  refine jr_cV1i (pc := 79) hX lX11_128 (c_X11_grant hX.F σ6 a9 h9 _) (jd_dd hD rfl) (Nat.le_of_ble_eq_true rfl) dX11_rest_79 h9 (fun r10 σ10 p10 => ?_)
                  exact jr_iret (pc := 82) hX dX11_rest_82 ((wr2 _ _).trans rfl)
            · refine jr_ifeq (pc := 48) hX 55 dX11_rest_48 (by decide) ?_ ?_
              · refine jr_iconst (pc := 55) hX 0 rfl dX11_rest_55 ?_
                exact jj5 0 _
              · refine jr_iconst (pc := 51) hX 1 rfl dX11_rest_51 ?_
                refine jr_goto (pc := 52) hX 56 dX11_rest_52 (by decide) ?_
                exact jj5 1 _
          · refine jr_ifeq (pc := 37) hX 44 dX11_rest_37 (by decide) ?_ ?_
            · refine jr_iconst (pc := 44) hX 0 rfl dX11_rest_44 ?_
              exact jj4 0 _
            · refine jr_iconst (pc := 40) hX 1 rfl dX11_rest_40 ?_
              refine jr_goto (pc := 41) hX 45 dX11_rest_41 (by decide) ?_
              exact jj4 1 _
    · refine jr_ald0 (pc := 20) hX dX11_rest_20 ?_
      refine jr_iconst (pc := 21) hX 2 rfl dX11_rest_21 ?_
      refine jr_cV1i (pc := 22) hX lX11_104 (c_X11_refuse hX.F σ1 t (p1.at ht :) _) (jd_dd hD rfl) (Nat.le_of_ble_eq_true rfl) dX11_rest_22 (p1.at ht :) (fun r13 σ13 p13 => ?_)
      exact jr_iret (pc := 25) hX dX11_rest_25 rfl
  · refine jr_ald0 (pc := 7) hX dX11_rest_7 ?_
    refine jr_iconst (pc := 8) hX 1 rfl dX11_rest_8 ?_
    refine jr_cV1i (pc := 9) hX lX11_104 (c_X11_refuse hX.F σ t ht _) (jd_dd hD rfl) (Nat.le_of_ble_eq_true rfl) dX11_rest_9 ht (fun r14 σ14 p14 => ?_)
    exact jr_iret (pc := 12) hX dX11_rest_12 rfl
def m_X11_safe (t : Nat) (x0p : Int32) (σ : jd_Hp) : Option (Int64 × jd_Hp) :=
jd_if (¬ (σ.2.1 t 10) = 0) (
jd_o σ (1, 2) (σ.2.2.2 t 7) fun a1 =>
jd_b (m_X1_nobodyLost a1 (σ.2.2.2 t 2) (σ.2.2.2 t 8) σ) fun r2 σ2 =>
jd_b (m_X11_grantRatio t x0p σ2) fun r3 σ3 =>
some (r3, σ3)) (
jd_b (m_X11_refuse t 1 σ) fun r4 σ4 =>
some (r4.toInt64, σ4))
set_option maxHeartbeats 4000000 in
set_option maxRecDepth 20000 in
theorem c_X11_safe {l : Launch} {s0 : State} {G : jd_G} (hF : jd_F s0 G) (σ : jd_Hp) (t : Nat) (ht : σ.1[t]? = some (11, 12)) (x0p : Int32) : jd_M l s0 G yX11_safe cX11_safe 2 (some .long) 4 je_l [jd_v G (some t), .int x0p] σ (m_X11_safe t x0p σ) := by
  refine jd_enter hF (by decide) (fun G => [some (jd_v G (some t)), some (.int x0p)]) rfl (by simp [lv_args, jd_al, jd_v_cat, jd_cti, jd_ctl]) (by simp [lg_sl, jd_v_cat, jd_cti, jd_ctl]) (fun X hD hX => ?_)
  have hX : jd_C X RX11 "safe" cX11_safe 2 (some .long) := hX
  unfold m_X11_safe
  refine jr_ald0 (pc := 0) hX dX11_safe_0 ?_
  refine jr_geti (pc := 1) hX fX11_85 rfl dX11_safe_1 ht ?_
  refine jr_ifne (pc := 4) hX 14 dX11_safe_4 (by decide) ?_ ?_
  · refine jr_ald0 (pc := 14) hX dX11_safe_14 ?_
    refine jr_getr (pc := 15) hX fX11_67 rfl dX11_safe_15 ht ?_
    refine jr_ald0 (pc := 18) hX dX11_safe_18 ?_
    refine jr_getr (pc := 19) hX fX11_32 rfl dX11_safe_19 ht ?_
    refine jr_ald0 (pc := 22) hX dX11_safe_22 ?_
    refine jr_getr (pc := 23) hX fX11_74 rfl dX11_safe_23 ht ?_
    refine jr_ck2 (fun a1 e1 h1 => ?_)
    refine jr_cV2v (pc := 26) hX lX11_278 (c_X1_nobodyLost hX.F σ a1 h1 _ _) (jd_dd hD rfl) (Nat.le_of_ble_eq_true rfl) dX11_safe_26 h1 (fun r2 σ2 p2 => ?_)
    refine jr_ald0 (pc := 29) hX dX11_safe_29 ?_
    refine jr_ild1 (pc := 30) hX dX11_safe_30 ?_
    refine jr_cV1l (pc := 31) hX lX11_241 (c_X11_grantRatio hX.F σ2 t (p2.at ht :) _) (jd_dd hD rfl) (Nat.le_of_ble_eq_true rfl) dX11_safe_31 (p2.at ht :) (fun r3 σ3 p3 => ?_)
    exact jr_lret (pc := 34) hX dX11_safe_34 rfl
  · refine jr_ald0 (pc := 7) hX dX11_safe_7 ?_
    refine jr_iconst (pc := 8) hX 1 rfl dX11_safe_8 ?_
    refine jr_cV1i (pc := 9) hX lX11_104 (c_X11_refuse hX.F σ t ht _) (jd_dd hD rfl) (Nat.le_of_ble_eq_true rfl) dX11_safe_9 ht (fun r4 σ4 p4 => ?_)
    refine jr_i2l (pc := 12) hX dX11_safe_12 ?_
    exact jr_lret (pc := 13) hX dX11_safe_13 rfl
def m_X11_sinking (t : Nat) (x0p : Int32) (x1p : Int32) (σ : jd_Hp) : Option (Int64 × jd_Hp) :=
jd_if (¬ (σ.2.1 t 10) = 0) (
jd_if (x0p < 0) (
jd_b (m_X11_refuse t 2 σ) fun r1 σ1 =>
some (r1.toInt64, σ1)) (
jd_if (x0p ≤ 6) (
jd_o σ (1, 2) (σ.2.2.2 t 7) fun a2 =>
jd_b (m_X1_soManySink a2 (σ.2.2.2 t 2) x0p (σ.2.2.2 t 8) σ) fun r3 σ3 =>
jd_b (m_X11_grantRatio t x1p σ3) fun r4 σ4 =>
some (r4, σ4)) (
jd_b (m_X11_refuse t 2 σ) fun r5 σ5 =>
some (r5.toInt64, σ5)))) (
jd_b (m_X11_refuse t 1 σ) fun r6 σ6 =>
some (r6.toInt64, σ6))
set_option maxHeartbeats 4000000 in
set_option maxRecDepth 20000 in
theorem c_X11_sinking {l : Launch} {s0 : State} {G : jd_G} (hF : jd_F s0 G) (σ : jd_Hp) (t : Nat) (ht : σ.1[t]? = some (11, 12)) (x0p : Int32) (x1p : Int32) : jd_M l s0 G yX11_sinking cX11_sinking 3 (some .long) 3 je_l [jd_v G (some t), .int x0p, .int x1p] σ (m_X11_sinking t x0p x1p σ) := by
  refine jd_enter hF (by decide) (fun G => [some (jd_v G (some t)), some (.int x0p), some (.int x1p)]) rfl (by simp [lv_args, jd_al, jd_v_cat, jd_cti, jd_ctl]) (by simp [lg_sl, jd_v_cat, jd_cti, jd_ctl]) (fun X hD hX => ?_)
  have hX : jd_C X RX11 "sinking" cX11_sinking 3 (some .long) := hX
  unfold m_X11_sinking
  refine jr_ald0 (pc := 0) hX dX11_sinking_0 ?_
  refine jr_geti (pc := 1) hX fX11_85 rfl dX11_sinking_1 ht ?_
  refine jr_ifne (pc := 4) hX 14 dX11_sinking_4 (by decide) ?_ ?_
  · refine jr_ild1 (pc := 14) hX dX11_sinking_14 ?_
    refine jr_iflt (pc := 15) hX 24 dX11_sinking_15 (by decide) ?_ ?_
    · refine jr_ald0 (pc := 24) hX dX11_sinking_24 ?_
      refine jr_iconst (pc := 25) hX 2 rfl dX11_sinking_25 ?_
      refine jr_cV1i (pc := 26) hX lX11_104 (c_X11_refuse hX.F σ t ht _) (jd_dd hD rfl) (Nat.le_of_ble_eq_true rfl) dX11_sinking_26 ht (fun r1 σ1 p1 => ?_)
      refine jr_i2l (pc := 29) hX dX11_sinking_29 ?_
      exact jr_lret (pc := 30) hX dX11_sinking_30 rfl
    · refine jr_ild1 (pc := 18) hX dX11_sinking_18 ?_
      refine jr_bipush (pc := 19) hX 6 rfl dX11_sinking_19 ?_
      refine jr_icle (pc := 21) hX 31 dX11_sinking_21 (by decide) ?_ ?_
      · refine jr_ald0 (pc := 31) hX dX11_sinking_31 ?_
        refine jr_getr (pc := 32) hX fX11_67 rfl dX11_sinking_32 ht ?_
        refine jr_ald0 (pc := 35) hX dX11_sinking_35 ?_
        refine jr_getr (pc := 36) hX fX11_32 rfl dX11_sinking_36 ht ?_
        refine jr_ild1 (pc := 39) hX dX11_sinking_39 ?_
        refine jr_ald0 (pc := 40) hX dX11_sinking_40 ?_
        refine jr_getr (pc := 41) hX fX11_74 rfl dX11_sinking_41 ht ?_
        refine jr_ck3 (fun a2 e2 h2 => ?_)
        refine jr_cV3v (pc := 44) hX lX11_282 (c_X1_soManySink hX.F σ a2 h2 _ _ _) (jd_dd hD rfl) (Nat.le_of_ble_eq_true rfl) dX11_sinking_44 h2 (fun r3 σ3 p3 => ?_)
        refine jr_ald0 (pc := 47) hX dX11_sinking_47 ?_
        refine jr_ild2 (pc := 48) hX dX11_sinking_48 ?_
        refine jr_cV1l (pc := 49) hX lX11_241 (c_X11_grantRatio hX.F σ3 t (p3.at ht :) _) (jd_dd hD rfl) (Nat.le_of_ble_eq_true rfl) dX11_sinking_49 (p3.at ht :) (fun r4 σ4 p4 => ?_)
        exact jr_lret (pc := 52) hX dX11_sinking_52 rfl
      · refine jr_ald0 (pc := 24) hX dX11_sinking_24 ?_
        refine jr_iconst (pc := 25) hX 2 rfl dX11_sinking_25 ?_
        refine jr_cV1i (pc := 26) hX lX11_104 (c_X11_refuse hX.F σ t ht _) (jd_dd hD rfl) (Nat.le_of_ble_eq_true rfl) dX11_sinking_26 ht (fun r5 σ5 p5 => ?_)
        refine jr_i2l (pc := 29) hX dX11_sinking_29 ?_
        exact jr_lret (pc := 30) hX dX11_sinking_30 rfl
  · refine jr_ald0 (pc := 7) hX dX11_sinking_7 ?_
    refine jr_iconst (pc := 8) hX 1 rfl dX11_sinking_8 ?_
    refine jr_cV1i (pc := 9) hX lX11_104 (c_X11_refuse hX.F σ t ht _) (jd_dd hD rfl) (Nat.le_of_ble_eq_true rfl) dX11_sinking_9 ht (fun r6 σ6 p6 => ?_)
    refine jr_i2l (pc := 12) hX dX11_sinking_12 ?_
    exact jr_lret (pc := 13) hX dX11_sinking_13 rfl
def m_X11_mean (t : Nat) (x0p : Int32) (σ : jd_Hp) : Option (Int64 × jd_Hp) :=
jd_if (¬ (σ.2.1 t 10) = 0) (
jd_o σ (1, 2) (σ.2.2.2 t 7) fun a1 =>
jd_b (m_X1_meanLost a1 (σ.2.2.2 t 2) (σ.2.2.2 t 8) σ) fun r2 σ2 =>
jd_b (m_X11_grantRatio t x0p σ2) fun r3 σ3 =>
some (r3, σ3)) (
jd_b (m_X11_refuse t 1 σ) fun r4 σ4 =>
some (r4.toInt64, σ4))
set_option maxHeartbeats 4000000 in
set_option maxRecDepth 20000 in
theorem c_X11_mean {l : Launch} {s0 : State} {G : jd_G} (hF : jd_F s0 G) (σ : jd_Hp) (t : Nat) (ht : σ.1[t]? = some (11, 12)) (x0p : Int32) : jd_M l s0 G yX11_mean cX11_mean 2 (some .long) 4 je_l [jd_v G (some t), .int x0p] σ (m_X11_mean t x0p σ) := by
  refine jd_enter hF (by decide) (fun G => [some (jd_v G (some t)), some (.int x0p)]) rfl (by simp [lv_args, jd_al, jd_v_cat, jd_cti, jd_ctl]) (by simp [lg_sl, jd_v_cat, jd_cti, jd_ctl]) (fun X hD hX => ?_)
  have hX : jd_C X RX11 "mean" cX11_mean 2 (some .long) := hX
  unfold m_X11_mean
  refine jr_ald0 (pc := 0) hX dX11_mean_0 ?_
  refine jr_geti (pc := 1) hX fX11_85 rfl dX11_mean_1 ht ?_
  refine jr_ifne (pc := 4) hX 14 dX11_mean_4 (by decide) ?_ ?_
  · refine jr_ald0 (pc := 14) hX dX11_mean_14 ?_
    refine jr_getr (pc := 15) hX fX11_67 rfl dX11_mean_15 ht ?_
    refine jr_ald0 (pc := 18) hX dX11_mean_18 ?_
    refine jr_getr (pc := 19) hX fX11_32 rfl dX11_mean_19 ht ?_
    refine jr_ald0 (pc := 22) hX dX11_mean_22 ?_
    refine jr_getr (pc := 23) hX fX11_74 rfl dX11_mean_23 ht ?_
    refine jr_ck2 (fun a1 e1 h1 => ?_)
    refine jr_cV2v (pc := 26) hX lX11_286 (c_X1_meanLost hX.F σ a1 h1 _ _) (jd_dd hD rfl) (Nat.le_of_ble_eq_true rfl) dX11_mean_26 h1 (fun r2 σ2 p2 => ?_)
    refine jr_ald0 (pc := 29) hX dX11_mean_29 ?_
    refine jr_ild1 (pc := 30) hX dX11_mean_30 ?_
    refine jr_cV1l (pc := 31) hX lX11_241 (c_X11_grantRatio hX.F σ2 t (p2.at ht :) _) (jd_dd hD rfl) (Nat.le_of_ble_eq_true rfl) dX11_mean_31 (p2.at ht :) (fun r3 σ3 p3 => ?_)
    exact jr_lret (pc := 34) hX dX11_mean_34 rfl
  · refine jr_ald0 (pc := 7) hX dX11_mean_7 ?_
    refine jr_iconst (pc := 8) hX 1 rfl dX11_mean_8 ?_
    refine jr_cV1i (pc := 9) hX lX11_104 (c_X11_refuse hX.F σ t ht _) (jd_dd hD rfl) (Nat.le_of_ble_eq_true rfl) dX11_mean_9 ht (fun r4 σ4 p4 => ?_)
    refine jr_i2l (pc := 12) hX dX11_mean_12 ?_
    exact jr_lret (pc := 13) hX dX11_mean_13 rfl
def m_X11_isDraws (x0p : Int32) (x1p : Int32) (σ : jd_Hp) : Option (Int32 × jd_Hp) :=
jd_if (x0p < 0) (
some (0, σ)) (
jd_if (65536 < x0p) (
some (0, σ)) (
jd_if (x1p < 0) (
some (0, σ)) (
jd_if (90 < x1p) (
some (0, σ)) (
some (1, σ)))))
set_option maxHeartbeats 4000000 in
set_option maxRecDepth 20000 in
theorem c_X11_isDraws {l : Launch} {s0 : State} {G : jd_G} (hF : jd_F s0 G) (σ : jd_Hp) (x0p : Int32) (x1p : Int32) : jd_M l s0 G yX11_isDraws cX11_isDraws 2 (some .boolean) 0 je_i [.int x0p, .int x1p] σ (m_X11_isDraws x0p x1p σ) := by
  refine jd_enter hF (by decide) (fun G => [some (.int x0p), some (.int x1p)]) rfl (by simp [lv_args, jd_al, jd_v_cat, jd_cti, jd_ctl]) (by simp [lg_sl, jd_v_cat, jd_cti, jd_ctl]) (fun X hD hX => ?_)
  have hX : jd_C X RX11 "isDraws" cX11_isDraws 2 (some .boolean) := hX
  unfold m_X11_isDraws
  refine jr_ild0 (pc := 0) hX dX11_isDraws_0 ?_
  refine jr_iflt (pc := 1) hX 25 dX11_isDraws_1 (by decide) ?_ ?_
  · refine jr_iconst (pc := 25) hX 0 rfl dX11_isDraws_25 ?_
    exact jr_zret (pc := 26) hX dX11_isDraws_26 (Or.inl rfl) rfl
  · refine jr_ild0 (pc := 4) hX dX11_isDraws_4 ?_
    refine jr_ldcw (pc := 5) hX kX11_369 dX11_isDraws_5 ?_
    refine jr_icgt (pc := 8) hX 25 dX11_isDraws_8 (by decide) ?_ ?_
    · refine jr_iconst (pc := 25) hX 0 rfl dX11_isDraws_25 ?_
      exact jr_zret (pc := 26) hX dX11_isDraws_26 (Or.inl rfl) rfl
    · refine jr_ild1 (pc := 11) hX dX11_isDraws_11 ?_
      refine jr_iflt (pc := 12) hX 25 dX11_isDraws_12 (by decide) ?_ ?_
      · refine jr_iconst (pc := 25) hX 0 rfl dX11_isDraws_25 ?_
        exact jr_zret (pc := 26) hX dX11_isDraws_26 (Or.inl rfl) rfl
      · refine jr_ild1 (pc := 15) hX dX11_isDraws_15 ?_
        refine jr_bipush (pc := 16) hX 90 rfl dX11_isDraws_16 ?_
        refine jr_icgt (pc := 18) hX 25 dX11_isDraws_18 (by decide) ?_ ?_
        · refine jr_iconst (pc := 25) hX 0 rfl dX11_isDraws_25 ?_
          exact jr_zret (pc := 26) hX dX11_isDraws_26 (Or.inl rfl) rfl
        · refine jr_iconst (pc := 21) hX 1 rfl dX11_isDraws_21 ?_
          refine jr_goto (pc := 22) hX 26 dX11_isDraws_22 (by decide) ?_
          exact jr_zret (pc := 26) hX dX11_isDraws_26 (Or.inr rfl) rfl
def m_X11_afternoons (t : Nat) (x0p : Int32) (x1p : Int32) (x2p : Int32) (σ : jd_Hp) : Option (Int32 × jd_Hp) :=
jd_b (m_X11_isPerson t x0p σ) fun r1 σ1 =>
jd_if (¬ r1 = 0) (
jd_b (m_X11_isDraws x1p x2p σ1) fun r2 σ2 =>
jd_if (¬ r2 = 0) (
jd_o σ2 (1, 2) (σ2.2.2.2 t 7) fun a3 =>
jd_b (m_X1_timesLost a3 (σ2.2.2.2 t 2) x0p x1p x2p σ2) fun r4 σ4 =>
jd_b (m_X11_grant t r4 σ4) fun r5 σ5 =>
some (r5, σ5)) (
jd_b (m_X11_refuse t 2 σ2) fun r6 σ6 =>
some (r6, σ6))) (
jd_b (m_X11_refuse t 1 σ1) fun r7 σ7 =>
some (r7, σ7))
set_option maxHeartbeats 4000000 in
set_option maxRecDepth 20000 in
theorem c_X11_afternoons {l : Launch} {s0 : State} {G : jd_G} (hF : jd_F s0 G) (σ : jd_Hp) (t : Nat) (ht : σ.1[t]? = some (11, 12)) (x0p : Int32) (x1p : Int32) (x2p : Int32) : jd_M l s0 G yX11_afternoons cX11_afternoons 4 (some .int) 4 je_i [jd_v G (some t), .int x0p, .int x1p, .int x2p] σ (m_X11_afternoons t x0p x1p x2p σ) := by
  refine jd_enter hF (by decide) (fun G => [some (jd_v G (some t)), some (.int x0p), some (.int x1p), some (.int x2p)]) rfl (by simp [lv_args, jd_al, jd_v_cat, jd_cti, jd_ctl]) (by simp [lg_sl, jd_v_cat, jd_cti, jd_ctl]) (fun X hD hX => ?_)
  have hX : jd_C X RX11 "afternoons" cX11_afternoons 4 (some .int) := hX
  unfold m_X11_afternoons
  refine jr_ald0 (pc := 0) hX dX11_afternoons_0 ?_
  refine jr_ild1 (pc := 1) hX dX11_afternoons_1 ?_
  refine jr_cV1i (pc := 2) hX lX11_137 (c_X11_isPerson hX.F σ t ht _) (jd_dd hD rfl) (Nat.le_of_ble_eq_true rfl) dX11_afternoons_2 ht (fun r1 σ1 p1 => ?_)
  refine jr_ifne (pc := 5) hX 14 dX11_afternoons_5 (by decide) ?_ ?_
  · refine jr_ild2 (pc := 14) hX dX11_afternoons_14 ?_
    refine jr_ild3 (pc := 15) hX dX11_afternoons_15 ?_
    refine jr_cS2i (pc := 16) hX lX11_289 (c_X11_isDraws hX.F σ1 _ _) (jd_dd hD rfl) (Nat.le_of_ble_eq_true rfl) dX11_afternoons_16 (fun r2 σ2 p2 => ?_)
    refine jr_ifne (pc := 19) hX 28 dX11_afternoons_19 (by decide) ?_ ?_
    · refine jr_ald0 (pc := 28) hX dX11_afternoons_28 ?_
      refine jr_ald0 (pc := 29) hX dX11_afternoons_29 ?_
      refine jr_getr (pc := 30) hX fX11_67 rfl dX11_afternoons_30 (p2.at (p1.at ht :) :) ?_
      refine jr_ald0 (pc := 33) hX dX11_afternoons_33 ?_
      refine jr_getr (pc := 34) hX fX11_32 rfl dX11_afternoons_34 (p2.at (p1.at ht :) :) ?_
      refine jr_ild1 (pc := 37) hX dX11_afternoons_37 ?_
      refine jr_ild2 (pc := 38) hX dX11_afternoons_38 ?_
      refine jr_ild3 (pc := 39) hX dX11_afternoons_39 ?_
      refine jr_ck4 (fun a3 e3 h3 => ?_)
      refine jr_cV4i (pc := 40) hX lX11_293 (c_X1_timesLost hX.F σ2 a3 h3 _ _ _ _) (jd_dd hD rfl) (by simp [jd_v_cat, jd_cti, jd_ctl]) dX11_afternoons_40 h3 (fun r4 σ4 p4 => ?_)
      refine jr_cV1i (pc := 43) hX lX11_128 (c_X11_grant hX.F σ4 t (p4.at (p2.at (p1.at ht :) :) :) _) (jd_dd hD rfl) (Nat.le_of_ble_eq_true rfl) dX11_afternoons_43 (p4.at (p2.at (p1.at ht :) :) :) (fun r5 σ5 p5 => ?_)
      exact jr_iret (pc := 46) hX dX11_afternoons_46 rfl
    · refine jr_ald0 (pc := 22) hX dX11_afternoons_22 ?_
      refine jr_iconst (pc := 23) hX 2 rfl dX11_afternoons_23 ?_
      refine jr_cV1i (pc := 24) hX lX11_104 (c_X11_refuse hX.F σ2 t (p2.at (p1.at ht :) :) _) (jd_dd hD rfl) (Nat.le_of_ble_eq_true rfl) dX11_afternoons_24 (p2.at (p1.at ht :) :) (fun r6 σ6 p6 => ?_)
      exact jr_iret (pc := 27) hX dX11_afternoons_27 rfl
  · refine jr_ald0 (pc := 8) hX dX11_afternoons_8 ?_
    refine jr_iconst (pc := 9) hX 1 rfl dX11_afternoons_9 ?_
    refine jr_cV1i (pc := 10) hX lX11_104 (c_X11_refuse hX.F σ1 t (p1.at ht :) _) (jd_dd hD rfl) (Nat.le_of_ble_eq_true rfl) dX11_afternoons_10 (p1.at ht :) (fun r7 σ7 p7 => ?_)
    exact jr_iret (pc := 13) hX dX11_afternoons_13 rfl
def m_X11_worst (t : Nat) (x0p : Int32) (x1p : Int32) (σ : jd_Hp) : Option (Int32 × jd_Hp) :=
jd_if (¬ (σ.2.1 t 10) = 0) (
jd_b (m_X11_isDraws x0p x1p σ) fun r1 σ1 =>
jd_if (¬ r1 = 0) (
jd_o σ1 (1, 2) (σ1.2.2.2 t 7) fun a2 =>
jd_b (m_X1_mostAtOnce a2 (σ1.2.2.2 t 2) x0p x1p σ1) fun r3 σ3 =>
jd_b (m_X11_grant t r3 σ3) fun r4 σ4 =>
some (r4, σ4)) (
jd_b (m_X11_refuse t 2 σ1) fun r5 σ5 =>
some (r5, σ5))) (
jd_b (m_X11_refuse t 1 σ) fun r6 σ6 =>
some (r6, σ6))
set_option maxHeartbeats 4000000 in
set_option maxRecDepth 20000 in
theorem c_X11_worst {l : Launch} {s0 : State} {G : jd_G} (hF : jd_F s0 G) (σ : jd_Hp) (t : Nat) (ht : σ.1[t]? = some (11, 12)) (x0p : Int32) (x1p : Int32) : jd_M l s0 G yX11_worst cX11_worst 3 (some .int) 4 je_i [jd_v G (some t), .int x0p, .int x1p] σ (m_X11_worst t x0p x1p σ) := by
  refine jd_enter hF (by decide) (fun G => [some (jd_v G (some t)), some (.int x0p), some (.int x1p)]) rfl (by simp [lv_args, jd_al, jd_v_cat, jd_cti, jd_ctl]) (by simp [lg_sl, jd_v_cat, jd_cti, jd_ctl]) (fun X hD hX => ?_)
  have hX : jd_C X RX11 "worst" cX11_worst 3 (some .int) := hX
  unfold m_X11_worst
  refine jr_ald0 (pc := 0) hX dX11_worst_0 ?_
  refine jr_geti (pc := 1) hX fX11_85 rfl dX11_worst_1 ht ?_
  refine jr_ifne (pc := 4) hX 13 dX11_worst_4 (by decide) ?_ ?_
  · refine jr_ild1 (pc := 13) hX dX11_worst_13 ?_
    refine jr_ild2 (pc := 14) hX dX11_worst_14 ?_
    refine jr_cS2i (pc := 15) hX lX11_289 (c_X11_isDraws hX.F σ _ _) (jd_dd hD rfl) (Nat.le_of_ble_eq_true rfl) dX11_worst_15 (fun r1 σ1 p1 => ?_)
    refine jr_ifne (pc := 18) hX 27 dX11_worst_18 (by decide) ?_ ?_
    · refine jr_ald0 (pc := 27) hX dX11_worst_27 ?_
      refine jr_ald0 (pc := 28) hX dX11_worst_28 ?_
      refine jr_getr (pc := 29) hX fX11_67 rfl dX11_worst_29 (p1.at ht :) ?_
      refine jr_ald0 (pc := 32) hX dX11_worst_32 ?_
      refine jr_getr (pc := 33) hX fX11_32 rfl dX11_worst_33 (p1.at ht :) ?_
      refine jr_ild1 (pc := 36) hX dX11_worst_36 ?_
      refine jr_ild2 (pc := 37) hX dX11_worst_37 ?_
      refine jr_ck3 (fun a2 e2 h2 => ?_)
      refine jr_cV3i (pc := 38) hX lX11_297 (c_X1_mostAtOnce hX.F σ1 a2 h2 _ _ _) (jd_dd hD rfl) (by simp [jd_v_cat, jd_cti, jd_ctl]) dX11_worst_38 h2 (fun r3 σ3 p3 => ?_)
      refine jr_cV1i (pc := 41) hX lX11_128 (c_X11_grant hX.F σ3 t (p3.at (p1.at ht :) :) _) (jd_dd hD rfl) (Nat.le_of_ble_eq_true rfl) dX11_worst_41 (p3.at (p1.at ht :) :) (fun r4 σ4 p4 => ?_)
      exact jr_iret (pc := 44) hX dX11_worst_44 rfl
    · refine jr_ald0 (pc := 21) hX dX11_worst_21 ?_
      refine jr_iconst (pc := 22) hX 2 rfl dX11_worst_22 ?_
      refine jr_cV1i (pc := 23) hX lX11_104 (c_X11_refuse hX.F σ1 t (p1.at ht :) _) (jd_dd hD rfl) (Nat.le_of_ble_eq_true rfl) dX11_worst_23 (p1.at ht :) (fun r5 σ5 p5 => ?_)
      exact jr_iret (pc := 26) hX dX11_worst_26 rfl
  · refine jr_ald0 (pc := 7) hX dX11_worst_7 ?_
    refine jr_iconst (pc := 8) hX 1 rfl dX11_worst_8 ?_
    refine jr_cV1i (pc := 9) hX lX11_104 (c_X11_refuse hX.F σ t ht _) (jd_dd hD rfl) (Nat.le_of_ble_eq_true rfl) dX11_worst_9 ht (fun r6 σ6 p6 => ?_)
    exact jr_iret (pc := 12) hX dX11_worst_12 rfl
def m_X11_deny (t : Nat) (x0p : Int32) (σ : jd_Hp) : Option (Int32 × jd_Hp) :=
jd_li (jd_pi σ t 11 x0p) fun τ1 =>
some (0, τ1)
set_option maxHeartbeats 4000000 in
set_option maxRecDepth 20000 in
theorem c_X11_deny {l : Launch} {s0 : State} {G : jd_G} (hF : jd_F s0 G) (σ : jd_Hp) (t : Nat) (ht : σ.1[t]? = some (11, 12)) (x0p : Int32) : jd_M l s0 G yX11_deny cX11_deny 2 (some .boolean) 0 je_i [jd_v G (some t), .int x0p] σ (m_X11_deny t x0p σ) := by
  refine jd_enter hF (by decide) (fun G => [some (jd_v G (some t)), some (.int x0p)]) rfl (by simp [lv_args, jd_al, jd_v_cat, jd_cti, jd_ctl]) (by simp [lg_sl, jd_v_cat, jd_cti, jd_ctl]) (fun X hD hX => ?_)
  have hX : jd_C X RX11 "deny" cX11_deny 2 (some .boolean) := hX
  unfold m_X11_deny
  refine jr_ald0 (pc := 0) hX dX11_deny_0 ?_
  refine jr_ild1 (pc := 1) hX dX11_deny_1 ?_
  refine jr_puti (pc := 2) hX fX11_89 rfl dX11_deny_2 ht ?_
  refine jr_li ?_
  refine jr_iconst (pc := 5) hX 0 rfl dX11_deny_5 ?_
  exact jr_zret (pc := 6) hX dX11_deny_6 (Or.inl rfl) rfl
def m_X11_acted (t : Nat) (σ : jd_Hp) : Option (Int32 × jd_Hp) :=
jd_o σ (6, 8) (σ.2.2.2 t 2) fun a1 =>
jd_b (m_X6_settle a1 σ) fun r2 σ2 =>
jd_li (jd_pi σ2 t 11 0) fun τ3 =>
some (1, τ3)
set_option maxHeartbeats 4000000 in
set_option maxRecDepth 20000 in
theorem c_X11_acted {l : Launch} {s0 : State} {G : jd_G} (hF : jd_F s0 G) (σ : jd_Hp) (t : Nat) (ht : σ.1[t]? = some (11, 12)) : jd_M l s0 G yX11_acted cX11_acted 1 (some .boolean) 4 je_i [jd_v G (some t)] σ (m_X11_acted t σ) := by
  refine jd_enter hF (by decide) (fun G => [some (jd_v G (some t))]) rfl (by simp [lv_args, jd_al, jd_v_cat, jd_cti, jd_ctl]) (by simp [lg_sl, jd_v_cat, jd_cti, jd_ctl]) (fun X hD hX => ?_)
  have hX : jd_C X RX11 "acted" cX11_acted 1 (some .boolean) := hX
  unfold m_X11_acted
  refine jr_ald0 (pc := 0) hX dX11_acted_0 ?_
  refine jr_getr (pc := 1) hX fX11_32 rfl dX11_acted_1 ht ?_
  refine jr_ck0 (fun a1 e1 h1 => ?_)
  refine jr_cV0v (pc := 4) hX lX11_366 (c_X6_settle hX.F σ a1 h1) (jd_dd hD rfl) (Nat.le_of_ble_eq_true rfl) dX11_acted_4 h1 (fun r2 σ2 p2 => ?_)
  refine jr_ald0 (pc := 7) hX dX11_acted_7 ?_
  refine jr_iconst (pc := 8) hX 0 rfl dX11_acted_8 ?_
  refine jr_puti (pc := 9) hX fX11_89 rfl dX11_acted_9 (p2.at ht :) ?_
  refine jr_li ?_
  refine jr_iconst (pc := 12) hX 1 rfl dX11_acted_12 ?_
  exact jr_zret (pc := 13) hX dX11_acted_13 (Or.inr rfl) rfl
def m_X11_man (t : Nat) (x0p : Int32) (σ : jd_Hp) : Option (Int32 × jd_Hp) :=
jd_b (m_X11_isPost t x0p σ) fun r1 σ1 =>
jd_if (¬ r1 = 0) (
jd_o σ1 (6, 8) (σ1.2.2.2 t 2) fun a2 =>
jd_b (m_X6_isManned a2 x0p σ1) fun r3 σ3 =>
jd_if (r3 = 0) (
jd_o σ3 (6, 8) (σ3.2.2.2 t 2) fun a4 =>
jd_o σ3 (2, 5) (σ3.2.2.2 t 3) fun a5 =>
jd_b (m_X2_keep a5 (σ3.2.2.2 a4 0) σ3) fun r6 σ6 =>
jd_o σ6 (6, 8) (σ6.2.2.2 t 2) fun a7 =>
jd_o σ6 (4, 4) (σ6.2.2.2 a7 0) fun a8 =>
jd_li (jd_pi σ6 a8 1 ((σ6.2.1 a8 1) ||| (1 <<< (x0p &&& 31)))) fun τ9 =>
jd_b (m_X11_acted t τ9) fun r10 σ10 =>
some ((r10 &&& 1), σ10)) (
jd_b (m_X11_deny t 5 σ3) fun r11 σ11 =>
some ((r11 &&& 1), σ11))) (
jd_b (m_X11_deny t 1 σ1) fun r12 σ12 =>
some ((r12 &&& 1), σ12))
set_option maxHeartbeats 4000000 in
set_option maxRecDepth 20000 in
theorem c_X11_man {l : Launch} {s0 : State} {G : jd_G} (hF : jd_F s0 G) (σ : jd_Hp) (t : Nat) (ht : σ.1[t]? = some (11, 12)) (x0p : Int32) : jd_M l s0 G yX11_man cX11_man 2 (some .boolean) 5 je_i [jd_v G (some t), .int x0p] σ (m_X11_man t x0p σ) := by
  refine jd_enter hF (by decide) (fun G => [some (jd_v G (some t)), some (.int x0p)]) rfl (by simp [lv_args, jd_al, jd_v_cat, jd_cti, jd_ctl]) (by simp [lg_sl, jd_v_cat, jd_cti, jd_ctl]) (fun X hD hX => ?_)
  have hX : jd_C X RX11 "man" cX11_man 2 (some .boolean) := hX
  unfold m_X11_man
  refine jr_ald0 (pc := 0) hX dX11_man_0 ?_
  refine jr_ild1 (pc := 1) hX dX11_man_1 ?_
  refine jr_cV1i (pc := 2) hX lX11_144 (c_X11_isPost hX.F σ t ht _) (jd_dd hD rfl) (Nat.le_of_ble_eq_true rfl) dX11_man_2 ht (fun r1 σ1 p1 => ?_)
  refine jr_ifne (pc := 5) hX 14 dX11_man_5 (by decide) ?_ ?_
  · refine jr_ald0 (pc := 14) hX dX11_man_14 ?_
    refine jr_getr (pc := 15) hX fX11_32 rfl dX11_man_15 (p1.at ht :) ?_
    refine jr_ild1 (pc := 18) hX dX11_man_18 ?_
    refine jr_ck1 (fun a2 e2 h2 => ?_)
    refine jr_cV1i (pc := 19) hX lX11_304 (c_X6_isManned hX.F σ1 a2 h2 _) (jd_dd hD rfl) (Nat.le_of_ble_eq_true rfl) dX11_man_19 h2 (fun r3 σ3 p3 => ?_)
    refine jr_ifeq (pc := 22) hX 31 dX11_man_22 (by decide) ?_ ?_
    · refine jr_ald0 (pc := 31) hX dX11_man_31 ?_
      refine jr_getr (pc := 32) hX fX11_39 rfl dX11_man_32 (p3.at (p1.at ht :) :) ?_
      refine jr_ald0 (pc := 35) hX dX11_man_35 ?_
      refine jr_getr (pc := 36) hX fX11_32 rfl dX11_man_36 (p3.at (p1.at ht :) :) ?_
      refine jr_ck0 (fun a4 e4 h4 => ?_)
      refine jr_getr (pc := 39) hX fX11_216 rfl dX11_man_39 h4 ?_
      refine jr_ck1 (fun a5 e5 h5 => ?_)
      refine jr_cV1v (pc := 42) hX lX11_307 (c_X2_keep hX.F σ3 a5 h5 _) (jd_dd hD rfl) (Nat.le_of_ble_eq_true rfl) dX11_man_42 h5 (fun r6 σ6 p6 => ?_)
      refine jr_ald0 (pc := 45) hX dX11_man_45 ?_
      refine jr_getr (pc := 46) hX fX11_32 rfl dX11_man_46 (p6.at (p3.at (p1.at ht :) :) :) ?_
      refine jr_ck0 (fun a7 e7 h7 => ?_)
      refine jr_getr (pc := 49) hX fX11_216 rfl dX11_man_49 h7 ?_
      refine jr_dup (pc := 52) hX (jd_v_cat _ _) dX11_man_52 ?_
      refine jr_ck0 (fun a8 e8 h8 => ?_)
      refine jr_geti (pc := 53) hX fX11_311 rfl dX11_man_53 h8 ?_
      refine jr_iconst (pc := 56) hX 1 rfl dX11_man_56 ?_
      refine jr_ild1 (pc := 57) hX dX11_man_57 ?_
      refine jr_ishl (pc := 58) hX dX11_man_58 ?_
      refine jr_ior (pc := 59) hX dX11_man_59 ?_
      refine jr_ek1 e8 ?_
      refine jr_puti (pc := 60) hX fX11_311 rfl dX11_man_60 h8 ?_
      refine jr_li ?_
      refine jr_ald0 (pc := 63) hX dX11_man_63 ?_
      refine jr_cV0i (pc := 64) hX lX11_314 (c_X11_acted hX.F (jd_pi σ6 a8 1 ((σ6.2.1 a8 1) ||| (1 <<< (x0p &&& 31)))) t (p6.at (p3.at (p1.at ht :) :) :)) (jd_dd hD rfl) (Nat.le_of_ble_eq_true rfl) dX11_man_64 (p6.at (p3.at (p1.at ht :) :) :) (fun r10 σ10 p10 => ?_)
      exact jr_bret (pc := 67) hX dX11_man_67 rfl
    · refine jr_ald0 (pc := 25) hX dX11_man_25 ?_
      refine jr_iconst (pc := 26) hX 5 rfl dX11_man_26 ?_
      refine jr_cV1i (pc := 27) hX lX11_301 (c_X11_deny hX.F σ3 t (p3.at (p1.at ht :) :) _) (jd_dd hD rfl) (Nat.le_of_ble_eq_true rfl) dX11_man_27 (p3.at (p1.at ht :) :) (fun r11 σ11 p11 => ?_)
      exact jr_bret (pc := 30) hX dX11_man_30 rfl
  · refine jr_ald0 (pc := 8) hX dX11_man_8 ?_
    refine jr_iconst (pc := 9) hX 1 rfl dX11_man_9 ?_
    refine jr_cV1i (pc := 10) hX lX11_301 (c_X11_deny hX.F σ1 t (p1.at ht :) _) (jd_dd hD rfl) (Nat.le_of_ble_eq_true rfl) dX11_man_10 (p1.at ht :) (fun r12 σ12 p12 => ?_)
    exact jr_bret (pc := 13) hX dX11_man_13 rfl
def m_X11_leave (t : Nat) (x0p : Int32) (σ : jd_Hp) : Option (Int32 × jd_Hp) :=
jd_b (m_X11_isPost t x0p σ) fun r1 σ1 =>
jd_if (¬ r1 = 0) (
jd_o σ1 (6, 8) (σ1.2.2.2 t 2) fun a2 =>
jd_b (m_X6_isManned a2 x0p σ1) fun r3 σ3 =>
jd_if (¬ r3 = 0) (
jd_o σ3 (6, 8) (σ3.2.2.2 t 2) fun a4 =>
jd_o σ3 (2, 5) (σ3.2.2.2 t 3) fun a5 =>
jd_b (m_X2_keep a5 (σ3.2.2.2 a4 0) σ3) fun r6 σ6 =>
jd_o σ6 (6, 8) (σ6.2.2.2 t 2) fun a7 =>
jd_o σ6 (4, 4) (σ6.2.2.2 a7 0) fun a8 =>
jd_li (jd_pi σ6 a8 1 ((σ6.2.1 a8 1) &&& ((1 <<< (x0p &&& 31)) ^^^ (-1)))) fun τ9 =>
jd_b (m_X11_acted t τ9) fun r10 σ10 =>
some ((r10 &&& 1), σ10)) (
jd_b (m_X11_deny t 5 σ3) fun r11 σ11 =>
some ((r11 &&& 1), σ11))) (
jd_b (m_X11_deny t 1 σ1) fun r12 σ12 =>
some ((r12 &&& 1), σ12))
set_option maxHeartbeats 4000000 in
set_option maxRecDepth 20000 in
theorem c_X11_leave {l : Launch} {s0 : State} {G : jd_G} (hF : jd_F s0 G) (σ : jd_Hp) (t : Nat) (ht : σ.1[t]? = some (11, 12)) (x0p : Int32) : jd_M l s0 G yX11_leave cX11_leave 2 (some .boolean) 5 je_i [jd_v G (some t), .int x0p] σ (m_X11_leave t x0p σ) := by
  refine jd_enter hF (by decide) (fun G => [some (jd_v G (some t)), some (.int x0p)]) rfl (by simp [lv_args, jd_al, jd_v_cat, jd_cti, jd_ctl]) (by simp [lg_sl, jd_v_cat, jd_cti, jd_ctl]) (fun X hD hX => ?_)
  have hX : jd_C X RX11 "leave" cX11_leave 2 (some .boolean) := hX
  unfold m_X11_leave
  refine jr_ald0 (pc := 0) hX dX11_leave_0 ?_
  refine jr_ild1 (pc := 1) hX dX11_leave_1 ?_
  refine jr_cV1i (pc := 2) hX lX11_144 (c_X11_isPost hX.F σ t ht _) (jd_dd hD rfl) (Nat.le_of_ble_eq_true rfl) dX11_leave_2 ht (fun r1 σ1 p1 => ?_)
  refine jr_ifne (pc := 5) hX 14 dX11_leave_5 (by decide) ?_ ?_
  · refine jr_ald0 (pc := 14) hX dX11_leave_14 ?_
    refine jr_getr (pc := 15) hX fX11_32 rfl dX11_leave_15 (p1.at ht :) ?_
    refine jr_ild1 (pc := 18) hX dX11_leave_18 ?_
    refine jr_ck1 (fun a2 e2 h2 => ?_)
    refine jr_cV1i (pc := 19) hX lX11_304 (c_X6_isManned hX.F σ1 a2 h2 _) (jd_dd hD rfl) (Nat.le_of_ble_eq_true rfl) dX11_leave_19 h2 (fun r3 σ3 p3 => ?_)
    refine jr_ifne (pc := 22) hX 31 dX11_leave_22 (by decide) ?_ ?_
    · refine jr_ald0 (pc := 31) hX dX11_leave_31 ?_
      refine jr_getr (pc := 32) hX fX11_39 rfl dX11_leave_32 (p3.at (p1.at ht :) :) ?_
      refine jr_ald0 (pc := 35) hX dX11_leave_35 ?_
      refine jr_getr (pc := 36) hX fX11_32 rfl dX11_leave_36 (p3.at (p1.at ht :) :) ?_
      refine jr_ck0 (fun a4 e4 h4 => ?_)
      refine jr_getr (pc := 39) hX fX11_216 rfl dX11_leave_39 h4 ?_
      refine jr_ck1 (fun a5 e5 h5 => ?_)
      refine jr_cV1v (pc := 42) hX lX11_307 (c_X2_keep hX.F σ3 a5 h5 _) (jd_dd hD rfl) (Nat.le_of_ble_eq_true rfl) dX11_leave_42 h5 (fun r6 σ6 p6 => ?_)
      refine jr_ald0 (pc := 45) hX dX11_leave_45 ?_
      refine jr_getr (pc := 46) hX fX11_32 rfl dX11_leave_46 (p6.at (p3.at (p1.at ht :) :) :) ?_
      refine jr_ck0 (fun a7 e7 h7 => ?_)
      refine jr_getr (pc := 49) hX fX11_216 rfl dX11_leave_49 h7 ?_
      refine jr_dup (pc := 52) hX (jd_v_cat _ _) dX11_leave_52 ?_
      refine jr_ck0 (fun a8 e8 h8 => ?_)
      refine jr_geti (pc := 53) hX fX11_311 rfl dX11_leave_53 h8 ?_
      refine jr_iconst (pc := 56) hX 1 rfl dX11_leave_56 ?_
      refine jr_ild1 (pc := 57) hX dX11_leave_57 ?_
      refine jr_ishl (pc := 58) hX dX11_leave_58 ?_
      refine jr_iconst (pc := 59) hX (-1) rfl dX11_leave_59 ?_
      refine jr_ixor (pc := 60) hX dX11_leave_60 ?_
      refine jr_iand (pc := 61) hX dX11_leave_61 ?_
      refine jr_ek1 e8 ?_
      refine jr_puti (pc := 62) hX fX11_311 rfl dX11_leave_62 h8 ?_
      refine jr_li ?_
      refine jr_ald0 (pc := 65) hX dX11_leave_65 ?_
      refine jr_cV0i (pc := 66) hX lX11_314 (c_X11_acted hX.F (jd_pi σ6 a8 1 ((σ6.2.1 a8 1) &&& ((1 <<< (x0p &&& 31)) ^^^ (-1)))) t (p6.at (p3.at (p1.at ht :) :) :)) (jd_dd hD rfl) (Nat.le_of_ble_eq_true rfl) dX11_leave_66 (p6.at (p3.at (p1.at ht :) :) :) (fun r10 σ10 p10 => ?_)
      exact jr_bret (pc := 69) hX dX11_leave_69 rfl
    · refine jr_ald0 (pc := 25) hX dX11_leave_25 ?_
      refine jr_iconst (pc := 26) hX 5 rfl dX11_leave_26 ?_
      refine jr_cV1i (pc := 27) hX lX11_301 (c_X11_deny hX.F σ3 t (p3.at (p1.at ht :) :) _) (jd_dd hD rfl) (Nat.le_of_ble_eq_true rfl) dX11_leave_27 (p3.at (p1.at ht :) :) (fun r11 σ11 p11 => ?_)
      exact jr_bret (pc := 30) hX dX11_leave_30 rfl
  · refine jr_ald0 (pc := 8) hX dX11_leave_8 ?_
    refine jr_iconst (pc := 9) hX 1 rfl dX11_leave_9 ?_
    refine jr_cV1i (pc := 10) hX lX11_301 (c_X11_deny hX.F σ1 t (p1.at ht :) _) (jd_dd hD rfl) (Nat.le_of_ble_eq_true rfl) dX11_leave_10 (p1.at ht :) (fun r12 σ12 p12 => ?_)
    exact jr_bret (pc := 13) hX dX11_leave_13 rfl
