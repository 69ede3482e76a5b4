theorem fX11_318 : jd_fl RX11 318 6 2 8 true := ⟨_, _, rfl, by decide, by decide, rfl, rfl, jd_mem 334 (by decide +kernel) (by decide +kernel)⟩
theorem fX11_321 : jd_fl RX11 321 4 3 4 false := ⟨_, _, rfl, by decide, by decide, rfl, rfl, jd_mem 224 (by decide +kernel) (by decide +kernel)⟩
theorem lX11_324 : jd_mv RX11 324 6 8 yX6_isUnder cX6_isUnder 3 (some .boolean) 2 := ⟨_, _, rfl, by decide, rfl, Or.inl (jd_mem 1171 (by decide +kernel) (by decide +kernel)), qX6_isUnder.1, qX6_isUnder.2.1, qX6_isUnder.2.2.1, qX6_isUnder.2.2.2.1, qX6_isUnder.2.2.2.2, by decide⟩
theorem qX6_reaches : Cond.instanceMethod yX6_reaches ∈ jd_TB ∧ Cond.selects RX6 yX6_reaches yX6_reaches ∈ jd_TB ∧ Cond.initialized RX6 ∈ jd_TB ∧ Cond.code yX6_reaches cX6_reaches 3 (some .boolean) ∈ jd_TB ∧ jd_ds yX6_reaches 2 := ⟨jd_mem 1173 (by decide +kernel) (by decide +kernel), jd_mem 1174 (by decide +kernel) (by decide +kernel), jd_mem 95 (by decide +kernel) (by decide +kernel), jd_mem 1175 (by decide +kernel) (by decide +kernel), ⟨by decide, by decide, by decide +kernel⟩⟩
theorem lX11_327 : jd_mv RX11 327 6 8 yX6_reaches cX6_reaches 3 (some .boolean) 2 := ⟨_, _, rfl, by decide, rfl, Or.inl (jd_mem 1172 (by decide +kernel) (by decide +kernel)), qX6_reaches.1, qX6_reaches.2.1, qX6_reaches.2.2.1, qX6_reaches.2.2.2.1, qX6_reaches.2.2.2.2, by decide⟩
theorem fX11_330 : jd_fl RX11 330 4 2 4 false := ⟨_, _, rfl, by decide, by decide, rfl, rfl, jd_mem 220 (by decide +kernel) (by decide +kernel)⟩
theorem qX2_takeBack : Cond.instanceMethod yX2_takeBack ∈ jd_TB ∧ Cond.selects RX2 yX2_takeBack yX2_takeBack ∈ jd_TB ∧ Cond.initialized RX2 ∈ jd_TB ∧ Cond.code yX2_takeBack cX2_takeBack 2 (some .boolean) ∈ jd_TB ∧ jd_ds yX2_takeBack 1 := ⟨jd_mem 1181 (by decide +kernel) (by decide +kernel), jd_mem 1182 (by decide +kernel) (by decide +kernel), jd_mem 98 (by decide +kernel) (by decide +kernel), jd_mem 1183 (by decide +kernel) (by decide +kernel), ⟨by decide, by decide, by decide +kernel⟩⟩
theorem lX11_333 : jd_mv RX11 333 2 5 yX2_takeBack cX2_takeBack 2 (some .boolean) 1 := ⟨_, _, rfl, by decide, rfl, Or.inl (jd_mem 1180 (by decide +kernel) (by decide +kernel)), qX2_takeBack.1, qX2_takeBack.2.1, qX2_takeBack.2.2.1, qX2_takeBack.2.2.2.1, qX2_takeBack.2.2.2.2, by decide⟩
theorem fX11_337 : jd_fl RX11 337 2 4 5 false := ⟨_, _, rfl, by decide, by decide, rfl, rfl, jd_mem 381 (by decide +kernel) (by decide +kernel)⟩
theorem qX2_keepImage : Cond.instanceMethod yX2_keepImage ∈ jd_TB ∧ Cond.selects RX2 yX2_keepImage yX2_keepImage ∈ jd_TB ∧ Cond.initialized RX2 ∈ jd_TB ∧ Cond.code yX2_keepImage cX2_keepImage 2 (some .int) ∈ jd_TB ∧ jd_ds yX2_keepImage 1 := ⟨jd_mem 1189 (by decide +kernel) (by decide +kernel), jd_mem 1190 (by decide +kernel) (by decide +kernel), jd_mem 98 (by decide +kernel) (by decide +kernel), jd_mem 1191 (by decide +kernel) (by decide +kernel), ⟨by decide, by decide, by decide +kernel⟩⟩
theorem lX11_340 : jd_mv RX11 340 2 5 yX2_keepImage cX2_keepImage 2 (some .int) 1 := ⟨_, _, rfl, by decide, rfl, Or.inl (jd_mem 1188 (by decide +kernel) (by decide +kernel)), qX2_keepImage.1, qX2_keepImage.2.1, qX2_keepImage.2.2.1, qX2_keepImage.2.2.2.1, qX2_keepImage.2.2.2.2, by decide⟩
theorem qX2_bringBack : Cond.instanceMethod yX2_bringBack ∈ jd_TB ∧ Cond.selects RX2 yX2_bringBack yX2_bringBack ∈ jd_TB ∧ Cond.initialized RX2 ∈ jd_TB ∧ Cond.code yX2_bringBack cX2_bringBack 3 (some .boolean) ∈ jd_TB ∧ jd_ds yX2_bringBack 2 := ⟨jd_mem 1197 (by decide +kernel) (by decide +kernel), jd_mem 1198 (by decide +kernel) (by decide +kernel), jd_mem 98 (by decide +kernel) (by decide +kernel), jd_mem 1199 (by decide +kernel) (by decide +kernel), ⟨by decide, by decide, by decide +kernel⟩⟩
theorem lX11_344 : jd_mv RX11 344 2 5 yX2_bringBack cX2_bringBack 3 (some .boolean) 2 := ⟨_, _, rfl, by decide, rfl, Or.inl (jd_mem 1196 (by decide +kernel) (by decide +kernel)), qX2_bringBack.1, qX2_bringBack.2.1, qX2_bringBack.2.2.1, qX2_bringBack.2.2.2.1, qX2_bringBack.2.2.2.2, by decide⟩
theorem fX11_354 : jd_fl RX11 354 2 3 5 false := ⟨_, _, rfl, by decide, by decide, rfl, rfl, jd_mem 379 (by decide +kernel) (by decide +kernel)⟩
theorem qX10_count : Cond.instanceMethod yX10_count ∈ jd_TB ∧ Cond.selects RX10 yX10_count yX10_count ∈ jd_TB ∧ Cond.initialized RX10 ∈ jd_TB ∧ Cond.code yX10_count cX10_count 2 (some .int) ∈ jd_TB ∧ jd_ds yX10_count 1 := ⟨jd_mem 1205 (by decide +kernel) (by decide +kernel), jd_mem 1206 (by decide +kernel) (by decide +kernel), jd_mem 97 (by decide +kernel) (by decide +kernel), jd_mem 1207 (by decide +kernel) (by decide +kernel), ⟨by decide, by decide, by decide +kernel⟩⟩
theorem lX11_357 : jd_mv RX11 357 10 16 yX10_count cX10_count 2 (some .int) 1 := ⟨_, _, rfl, by decide, rfl, Or.inl (jd_mem 1204 (by decide +kernel) (by decide +kernel)), qX10_count.1, qX10_count.2.1, qX10_count.2.2.1, qX10_count.2.2.2.1, qX10_count.2.2.2.2, by decide⟩
theorem dX11_seat_0 : decode cX11_seat 0 = .ok (.aload_n 0, 1) := by decide +kernel
theorem dX11_seat_1 : decode cX11_seat 1 = .ok (.iload_n 1, 1) := by decide +kernel
theorem dX11_seat_2 : decode cX11_seat 2 = .ok (.invokevirtual 137, 3) := by decide +kernel
theorem dX11_seat_5 : decode cX11_seat 5 = .ok (.ifCond .ne 9, 3) := by decide +kernel
theorem dX11_seat_8 : decode cX11_seat 8 = .ok (.aload_n 0, 1) := by decide +kernel
theorem dX11_seat_9 : decode cX11_seat 9 = .ok (.iconst 1, 1) := by decide +kernel
theorem dX11_seat_10 : decode cX11_seat 10 = .ok (.invokevirtual 104, 3) := by decide +kernel
theorem dX11_seat_13 : decode cX11_seat 13 = .ok (.ireturn, 1) := by decide +kernel
theorem dX11_seat_14 : decode cX11_seat 14 = .ok (.iload_n 2, 1) := by decide +kernel
theorem dX11_seat_15 : decode cX11_seat 15 = .ok (.ifCond .lt 9, 3) := by decide +kernel
theorem dX11_seat_18 : decode cX11_seat 18 = .ok (.iload_n 2, 1) := by decide +kernel
theorem dX11_seat_19 : decode cX11_seat 19 = .ok (.bipush 99, 2) := by decide +kernel
theorem dX11_seat_21 : decode cX11_seat 21 = .ok (.if_icmp .le 9, 3) := by decide +kernel
theorem dX11_seat_24 : decode cX11_seat 24 = .ok (.aload_n 0, 1) := by decide +kernel
theorem dX11_seat_25 : decode cX11_seat 25 = .ok (.iconst 2, 1) := by decide +kernel
theorem dX11_seat_26 : decode cX11_seat 26 = .ok (.invokevirtual 104, 3) := by decide +kernel
theorem dX11_seat_29 : decode cX11_seat 29 = .ok (.ireturn, 1) := by decide +kernel
theorem dX11_seat_30 : decode cX11_seat 30 = .ok (.aload_n 0, 1) := by decide +kernel
theorem dX11_seat_31 : decode cX11_seat 31 = .ok (.getfield 32, 3) := by decide +kernel
theorem dX11_seat_34 : decode cX11_seat 34 = .ok (.getfield 216, 3) := by decide +kernel
theorem dX11_seat_37 : decode cX11_seat 37 = .ok (.getfield 220, 3) := by decide +kernel
theorem dX11_seat_40 : decode cX11_seat 40 = .ok (.iload_n 1, 1) := by decide +kernel
theorem dX11_seat_41 : decode cX11_seat 41 = .ok (.iaload, 1) := by decide +kernel
theorem dX11_seat_42 : decode cX11_seat 42 = .ok (.iload_n 2, 1) := by decide +kernel
theorem dX11_seat_43 : decode cX11_seat 43 = .ok (.if_icmp .ne 9, 3) := by decide +kernel
theorem dX11_seat_46 : decode cX11_seat 46 = .ok (.aload_n 0, 1) := by decide +kernel
theorem dX11_seat_47 : decode cX11_seat 47 = .ok (.iconst 5, 1) := by decide +kernel
theorem dX11_seat_48 : decode cX11_seat 48 = .ok (.invokevirtual 104, 3) := by decide +kernel
theorem dX11_seat_51 : decode cX11_seat 51 = .ok (.ireturn, 1) := by decide +kernel
theorem dX11_seat_52 : decode cX11_seat 52 = .ok (.aload_n 0, 1) := by decide +kernel
theorem dX11_seat_53 : decode cX11_seat 53 = .ok (.getfield 39, 3) := by decide +kernel
theorem dX11_seat_56 : decode cX11_seat 56 = .ok (.aload_n 0, 1) := by decide +kernel
theorem dX11_seat_57 : decode cX11_seat 57 = .ok (.getfield 32, 3) := by decide +kernel
theorem dX11_seat_60 : decode cX11_seat 60 = .ok (.getfield 216, 3) := by decide +kernel
theorem dX11_seat_63 : decode cX11_seat 63 = .ok (.invokevirtual 307, 3) := by decide +kernel
theorem dX11_seat_66 : decode cX11_seat 66 = .ok (.aload_n 0, 1) := by decide +kernel
theorem dX11_seat_67 : decode cX11_seat 67 = .ok (.getfield 32, 3) := by decide +kernel
theorem dX11_seat_70 : decode cX11_seat 70 = .ok (.getfield 216, 3) := by decide +kernel
theorem dX11_seat_73 : decode cX11_seat 73 = .ok (.getfield 220, 3) := by decide +kernel
theorem dX11_seat_76 : decode cX11_seat 76 = .ok (.iload_n 1, 1) := by decide +kernel
theorem dX11_seat_77 : decode cX11_seat 77 = .ok (.iload_n 2, 1) := by decide +kernel
theorem dX11_seat_78 : decode cX11_seat 78 = .ok (.iastore, 1) := by decide +kernel
theorem dX11_seat_79 : decode cX11_seat 79 = .ok (.aload_n 0, 1) := by decide +kernel
theorem dX11_seat_80 : decode cX11_seat 80 = .ok (.invokevirtual 314, 3) := by decide +kernel
theorem dX11_seat_83 : decode cX11_seat 83 = .ok (.pop, 1) := by decide +kernel
theorem dX11_seat_84 : decode cX11_seat 84 = .ok (.aload_n 0, 1) := by decide +kernel
theorem dX11_seat_85 : decode cX11_seat 85 = .ok (.getfield 32, 3) := by decide +kernel
theorem dX11_seat_88 : decode cX11_seat 88 = .ok (.getfield 318, 3) := by decide +kernel
theorem dX11_seat_91 : decode cX11_seat 91 = .ok (.iload_n 1, 1) := by decide +kernel
theorem dX11_seat_92 : decode cX11_seat 92 = .ok (.iaload, 1) := by decide +kernel
theorem dX11_seat_93 : decode cX11_seat 93 = .ok (.ireturn, 1) := by decide +kernel
theorem dX11_minute_0 : decode cX11_minute 0 = .ok (.aload_n 0, 1) := by decide +kernel
theorem dX11_minute_1 : decode cX11_minute 1 = .ok (.getfield 85, 3) := by decide +kernel
theorem dX11_minute_4 : decode cX11_minute 4 = .ok (.ifCond .ne 9, 3) := by decide +kernel
theorem dX11_minute_7 : decode cX11_minute 7 = .ok (.aload_n 0, 1) := by decide +kernel
theorem dX11_minute_8 : decode cX11_minute 8 = .ok (.iconst 1, 1) := by decide +kernel
theorem dX11_minute_9 : decode cX11_minute 9 = .ok (.invokevirtual 104, 3) := by decide +kernel
theorem dX11_minute_12 : decode cX11_minute 12 = .ok (.ireturn, 1) := by decide +kernel
theorem dX11_minute_13 : decode cX11_minute 13 = .ok (.iload_n 1, 1) := by decide +kernel
theorem dX11_minute_14 : decode cX11_minute 14 = .ok (.iconst 1, 1) := by decide +kernel
theorem dX11_minute_15 : decode cX11_minute 15 = .ok (.if_icmp .lt 9, 3) := by decide +kernel
theorem dX11_minute_18 : decode cX11_minute 18 = .ok (.iload_n 1, 1) := by decide +kernel
theorem dX11_minute_19 : decode cX11_minute 19 = .ok (.bipush 60, 2) := by decide +kernel
theorem dX11_minute_21 : decode cX11_minute 21 = .ok (.if_icmp .le 9, 3) := by decide +kernel
theorem dX11_minute_24 : decode cX11_minute 24 = .ok (.aload_n 0, 1) := by decide +kernel
theorem dX11_minute_25 : decode cX11_minute 25 = .ok (.iconst 2, 1) := by decide +kernel
theorem dX11_minute_26 : decode cX11_minute 26 = .ok (.invokevirtual 104, 3) := by decide +kernel
theorem dX11_minute_29 : decode cX11_minute 29 = .ok (.ireturn, 1) := by decide +kernel
theorem dX11_minute_30 : decode cX11_minute 30 = .ok (.aload_n 0, 1) := by decide +kernel
theorem dX11_minute_31 : decode cX11_minute 31 = .ok (.getfield 32, 3) := by decide +kernel
theorem dX11_minute_34 : decode cX11_minute 34 = .ok (.getfield 216, 3) := by decide +kernel
theorem dX11_minute_37 : decode cX11_minute 37 = .ok (.getfield 321, 3) := by decide +kernel
theorem dX11_minute_40 : decode cX11_minute 40 = .ok (.iload_n 1, 1) := by decide +kernel
theorem dX11_minute_41 : decode cX11_minute 41 = .ok (.iadd, 1) := by decide +kernel
theorem dX11_minute_42 : decode cX11_minute 42 = .ok (.sipush 999, 3) := by decide +kernel
theorem dX11_minute_45 : decode cX11_minute 45 = .ok (.if_icmp .le 9, 3) := by decide +kernel
theorem dX11_minute_48 : decode cX11_minute 48 = .ok (.aload_n 0, 1) := by decide +kernel
theorem dX11_minute_49 : decode cX11_minute 49 = .ok (.iconst 3, 1) := by decide +kernel
theorem dX11_minute_50 : decode cX11_minute 50 = .ok (.invokevirtual 104, 3) := by decide +kernel
theorem dX11_minute_53 : decode cX11_minute 53 = .ok (.ireturn, 1) := by decide +kernel
theorem dX11_minute_54 : decode cX11_minute 54 = .ok (.aload_n 0, 1) := by decide +kernel
theorem dX11_minute_55 : decode cX11_minute 55 = .ok (.getfield 39, 3) := by decide +kernel
theorem dX11_minute_58 : decode cX11_minute 58 = .ok (.aload_n 0, 1) := by decide +kernel
theorem dX11_minute_59 : decode cX11_minute 59 = .ok (.getfield 32, 3) := by decide +kernel
theorem dX11_minute_62 : decode cX11_minute 62 = .ok (.getfield 216, 3) := by decide +kernel
theorem dX11_minute_65 : decode cX11_minute 65 = .ok (.invokevirtual 307, 3) := by decide +kernel
theorem dX11_minute_68 : decode cX11_minute 68 = .ok (.aload_n 0, 1) := by decide +kernel
theorem dX11_minute_69 : decode cX11_minute 69 = .ok (.getfield 32, 3) := by decide +kernel
theorem dX11_minute_72 : decode cX11_minute 72 = .ok (.getfield 216, 3) := by decide +kernel
theorem dX11_minute_75 : decode cX11_minute 75 = .ok (.dup, 1) := by decide +kernel
theorem dX11_minute_76 : decode cX11_minute 76 = .ok (.getfield 321, 3) := by decide +kernel
theorem dX11_minute_79 : decode cX11_minute 79 = .ok (.iload_n 1, 1) := by decide +kernel
theorem dX11_minute_80 : decode cX11_minute 80 = .ok (.iadd, 1) := by decide +kernel
theorem dX11_minute_81 : decode cX11_minute 81 = .ok (.putfield 321, 3) := by decide +kernel
theorem dX11_minute_84 : decode cX11_minute 84 = .ok (.aload_n 0, 1) := by decide +kernel
theorem dX11_minute_85 : decode cX11_minute 85 = .ok (.invokevirtual 314, 3) := by decide +kernel
theorem dX11_minute_88 : decode cX11_minute 88 = .ok (.pop, 1) := by decide +kernel
theorem dX11_minute_89 : decode cX11_minute 89 = .ok (.aload_n 0, 1) := by decide +kernel
theorem dX11_minute_90 : decode cX11_minute 90 = .ok (.getfield 32, 3) := by decide +kernel
theorem dX11_minute_93 : decode cX11_minute 93 = .ok (.aload_n 0, 1) := by decide +kernel
theorem dX11_minute_94 : decode cX11_minute 94 = .ok (.getfield 32, 3) := by decide +kernel
theorem dX11_minute_97 : decode cX11_minute 97 = .ok (.getfield 216, 3) := by decide +kernel
theorem dX11_minute_100 : decode cX11_minute 100 = .ok (.getfield 321, 3) := by decide +kernel
theorem dX11_minute_103 : decode cX11_minute 103 = .ok (.invokevirtual 163, 3) := by decide +kernel
theorem dX11_minute_106 : decode cX11_minute 106 = .ok (.ireturn, 1) := by decide +kernel
theorem dX11_lift_0 : decode cX11_lift 0 = .ok (.aload_n 0, 1) := by decide +kernel
theorem dX11_lift_1 : decode cX11_lift 1 = .ok (.iload_n 1, 1) := by decide +kernel
theorem dX11_lift_2 : decode cX11_lift 2 = .ok (.invokevirtual 137, 3) := by decide +kernel
theorem dX11_lift_5 : decode cX11_lift 5 = .ok (.ifCond .ne 9, 3) := by decide +kernel
theorem dX11_lift_8 : decode cX11_lift 8 = .ok (.aload_n 0, 1) := by decide +kernel
theorem dX11_lift_9 : decode cX11_lift 9 = .ok (.iconst 1, 1) := by decide +kernel
theorem dX11_lift_10 : decode cX11_lift 10 = .ok (.invokevirtual 104, 3) := by decide +kernel
theorem dX11_lift_13 : decode cX11_lift 13 = .ok (.ireturn, 1) := by decide +kernel
theorem dX11_lift_14 : decode cX11_lift 14 = .ok (.aload_n 0, 1) := by decide +kernel
theorem dX11_lift_15 : decode cX11_lift 15 = .ok (.getfield 32, 3) := by decide +kernel
theorem dX11_lift_18 : decode cX11_lift 18 = .ok (.iload_n 1, 1) := by decide +kernel
theorem dX11_lift_19 : decode cX11_lift 19 = .ok (.aload_n 0, 1) := by decide +kernel
theorem dX11_lift_20 : decode cX11_lift 20 = .ok (.getfield 32, 3) := by decide +kernel
theorem dX11_lift_23 : decode cX11_lift 23 = .ok (.getfield 216, 3) := by decide +kernel
theorem dX11_lift_26 : decode cX11_lift 26 = .ok (.getfield 321, 3) := by decide +kernel
theorem dX11_lift_29 : decode cX11_lift 29 = .ok (.invokevirtual 324, 3) := by decide +kernel
theorem dX11_lift_32 : decode cX11_lift 32 = .ok (.ifCond .ne 9, 3) := by decide +kernel
theorem dX11_lift_35 : decode cX11_lift 35 = .ok (.aload_n 0, 1) := by decide +kernel
theorem dX11_lift_36 : decode cX11_lift 36 = .ok (.iconst 5, 1) := by decide +kernel
theorem dX11_lift_37 : decode cX11_lift 37 = .ok (.invokevirtual 104, 3) := by decide +kernel
theorem dX11_lift_40 : decode cX11_lift 40 = .ok (.ireturn, 1) := by decide +kernel
theorem dX11_lift_41 : decode cX11_lift 41 = .ok (.aload_n 0, 1) := by decide +kernel
theorem dX11_lift_42 : decode cX11_lift 42 = .ok (.getfield 32, 3) := by decide +kernel
theorem dX11_lift_45 : decode cX11_lift 45 = .ok (.iload_n 1, 1) := by decide +kernel
theorem dX11_lift_46 : decode cX11_lift 46 = .ok (.invokevirtual 175, 3) := by decide +kernel
theorem dX11_lift_49 : decode cX11_lift 49 = .ok (.istore_n 2, 1) := by decide +kernel
theorem dX11_lift_50 : decode cX11_lift 50 = .ok (.iload_n 2, 1) := by decide +kernel
theorem dX11_lift_51 : decode cX11_lift 51 = .ok (.ifCond .lt 15, 3) := by decide +kernel
theorem dX11_lift_54 : decode cX11_lift 54 = .ok (.aload_n 0, 1) := by decide +kernel
theorem dX11_lift_55 : decode cX11_lift 55 = .ok (.getfield 32, 3) := by decide +kernel
theorem dX11_lift_58 : decode cX11_lift 58 = .ok (.iload_n 2, 1) := by decide +kernel
theorem dX11_lift_59 : decode cX11_lift 59 = .ok (.iload_n 1, 1) := by decide +kernel
theorem dX11_lift_60 : decode cX11_lift 60 = .ok (.invokevirtual 327, 3) := by decide +kernel
theorem dX11_lift_63 : decode cX11_lift 63 = .ok (.ifCond .ne 10, 3) := by decide +kernel
theorem dX11_lift_66 : decode cX11_lift 66 = .ok (.aload_n 0, 1) := by decide +kernel
theorem dX11_lift_67 : decode cX11_lift 67 = .ok (.bipush 6, 2) := by decide +kernel
theorem dX11_lift_69 : decode cX11_lift 69 = .ok (.invokevirtual 104, 3) := by decide +kernel
theorem dX11_lift_72 : decode cX11_lift 72 = .ok (.ireturn, 1) := by decide +kernel
theorem dX11_lift_73 : decode cX11_lift 73 = .ok (.aload_n 0, 1) := by decide +kernel
theorem dX11_lift_74 : decode cX11_lift 74 = .ok (.getfield 39, 3) := by decide +kernel
theorem dX11_lift_77 : decode cX11_lift 77 = .ok (.aload_n 0, 1) := by decide +kernel
theorem dX11_lift_78 : decode cX11_lift 78 = .ok (.getfield 32, 3) := by decide +kernel
theorem dX11_lift_81 : decode cX11_lift 81 = .ok (.getfield 216, 3) := by decide +kernel
theorem dX11_lift_84 : decode cX11_lift 84 = .ok (.invokevirtual 307, 3) := by decide +kernel
theorem dX11_lift_87 : decode cX11_lift 87 = .ok (.aload_n 0, 1) := by decide +kernel
theorem dX11_lift_88 : decode cX11_lift 88 = .ok (.getfield 32, 3) := by decide +kernel
theorem dX11_lift_91 : decode cX11_lift 91 = .ok (.getfield 216, 3) := by decide +kernel
theorem dX11_lift_94 : decode cX11_lift 94 = .ok (.dup, 1) := by decide +kernel
theorem dX11_lift_95 : decode cX11_lift 95 = .ok (.getfield 330, 3) := by decide +kernel
theorem dX11_lift_98 : decode cX11_lift 98 = .ok (.iconst 1, 1) := by decide +kernel
theorem dX11_lift_99 : decode cX11_lift 99 = .ok (.iload_n 1, 1) := by decide +kernel
theorem dX11_lift_100 : decode cX11_lift 100 = .ok (.ishl, 1) := by decide +kernel
theorem dX11_lift_101 : decode cX11_lift 101 = .ok (.ior, 1) := by decide +kernel
theorem dX11_lift_102 : decode cX11_lift 102 = .ok (.putfield 330, 3) := by decide +kernel
theorem dX11_lift_105 : decode cX11_lift 105 = .ok (.aload_n 0, 1) := by decide +kernel
theorem dX11_lift_106 : decode cX11_lift 106 = .ok (.invokevirtual 314, 3) := by decide +kernel
theorem dX11_lift_109 : decode cX11_lift 109 = .ok (.pop, 1) := by decide +kernel
theorem dX11_lift_110 : decode cX11_lift 110 = .ok (.iload_n 2, 1) := by decide +kernel
theorem dX11_lift_111 : decode cX11_lift 111 = .ok (.ireturn, 1) := by decide +kernel
theorem dX11_undo_0 : decode cX11_undo 0 = .ok (.aload_n 0, 1) := by decide +kernel
theorem dX11_undo_1 : decode cX11_undo 1 = .ok (.getfield 39, 3) := by decide +kernel
theorem dX11_undo_4 : decode cX11_undo 4 = .ok (.aload_n 0, 1) := by decide +kernel
theorem dX11_undo_5 : decode cX11_undo 5 = .ok (.getfield 32, 3) := by decide +kernel
theorem dX11_undo_8 : decode cX11_undo 8 = .ok (.getfield 216, 3) := by decide +kernel
theorem dX11_undo_11 : decode cX11_undo 11 = .ok (.invokevirtual 333, 3) := by decide +kernel
theorem dX11_undo_14 : decode cX11_undo 14 = .ok (.ifCond .ne 10, 3) := by decide +kernel
theorem dX11_undo_17 : decode cX11_undo 17 = .ok (.aload_n 0, 1) := by decide +kernel
theorem dX11_undo_18 : decode cX11_undo 18 = .ok (.bipush 6, 2) := by decide +kernel
theorem dX11_undo_20 : decode cX11_undo 20 = .ok (.invokevirtual 301, 3) := by decide +kernel
theorem dX11_undo_23 : decode cX11_undo 23 = .ok (.ireturn, 1) := by decide +kernel
theorem dX11_undo_24 : decode cX11_undo 24 = .ok (.aload_n 0, 1) := by decide +kernel
theorem dX11_undo_25 : decode cX11_undo 25 = .ok (.invokevirtual 314, 3) := by decide +kernel
theorem dX11_undo_28 : decode cX11_undo 28 = .ok (.ireturn, 1) := by decide +kernel
theorem dX11_image_0 : decode cX11_image 0 = .ok (.aload_n 0, 1) := by decide +kernel
theorem dX11_image_1 : decode cX11_image 1 = .ok (.getfield 85, 3) := by decide +kernel
theorem dX11_image_4 : decode cX11_image 4 = .ok (.ifCond .ne 9, 3) := by decide +kernel
theorem dX11_image_7 : decode cX11_image 7 = .ok (.aload_n 0, 1) := by decide +kernel
theorem dX11_image_8 : decode cX11_image 8 = .ok (.iconst 1, 1) := by decide +kernel
theorem dX11_image_9 : decode cX11_image 9 = .ok (.invokevirtual 104, 3) := by decide +kernel
theorem dX11_image_12 : decode cX11_image 12 = .ok (.ireturn, 1) := by decide +kernel
theorem dX11_image_13 : decode cX11_image 13 = .ok (.aload_n 0, 1) := by decide +kernel
theorem dX11_image_14 : decode cX11_image 14 = .ok (.getfield 39, 3) := by decide +kernel
theorem dX11_image_17 : decode cX11_image 17 = .ok (.getfield 337, 3) := by decide +kernel
theorem dX11_image_20 : decode cX11_image 20 = .ok (.iconst 3, 1) := by decide +kernel
theorem dX11_image_21 : decode cX11_image 21 = .ok (.if_icmp .lt 9, 3) := by decide +kernel
theorem dX11_image_24 : decode cX11_image 24 = .ok (.aload_n 0, 1) := by decide +kernel
theorem dX11_image_25 : decode cX11_image 25 = .ok (.iconst 3, 1) := by decide +kernel
theorem dX11_image_26 : decode cX11_image 26 = .ok (.invokevirtual 104, 3) := by decide +kernel
theorem dX11_image_29 : decode cX11_image 29 = .ok (.ireturn, 1) := by decide +kernel
theorem dX11_image_30 : decode cX11_image 30 = .ok (.aload_n 0, 1) := by decide +kernel
theorem dX11_image_31 : decode cX11_image 31 = .ok (.aload_n 0, 1) := by decide +kernel
theorem dX11_image_32 : decode cX11_image 32 = .ok (.getfield 39, 3) := by decide +kernel
theorem dX11_image_35 : decode cX11_image 35 = .ok (.aload_n 0, 1) := by decide +kernel
theorem dX11_image_36 : decode cX11_image 36 = .ok (.getfield 32, 3) := by decide +kernel
theorem dX11_image_39 : decode cX11_image 39 = .ok (.getfield 216, 3) := by decide +kernel
theorem dX11_image_42 : decode cX11_image 42 = .ok (.invokevirtual 340, 3) := by decide +kernel
theorem dX11_image_45 : decode cX11_image 45 = .ok (.invokevirtual 128, 3) := by decide +kernel
theorem dX11_image_48 : decode cX11_image 48 = .ok (.ireturn, 1) := by decide +kernel
theorem dX11_back_0 : decode cX11_back 0 = .ok (.aload_n 0, 1) := by decide +kernel
theorem dX11_back_1 : decode cX11_back 1 = .ok (.getfield 39, 3) := by decide +kernel
theorem dX11_back_4 : decode cX11_back 4 = .ok (.iload_n 1, 1) := by decide +kernel
theorem dX11_back_5 : decode cX11_back 5 = .ok (.aload_n 0, 1) := by decide +kernel
theorem dX11_back_6 : decode cX11_back 6 = .ok (.getfield 32, 3) := by decide +kernel
theorem dX11_back_9 : decode cX11_back 9 = .ok (.getfield 216, 3) := by decide +kernel
theorem dX11_back_12 : decode cX11_back 12 = .ok (.invokevirtual 344, 3) := by decide +kernel
theorem dX11_back_15 : decode cX11_back 15 = .ok (.ifCond .ne 9, 3) := by decide +kernel
theorem dX11_back_18 : decode cX11_back 18 = .ok (.aload_n 0, 1) := by decide +kernel
theorem dX11_back_19 : decode cX11_back 19 = .ok (.iconst 1, 1) := by decide +kernel
theorem dX11_back_20 : decode cX11_back 20 = .ok (.invokevirtual 301, 3) := by decide +kernel
theorem dX11_back_23 : decode cX11_back 23 = .ok (.ireturn, 1) := by decide +kernel
theorem dX11_back_24 : decode cX11_back 24 = .ok (.aload_n 0, 1) := by decide +kernel
theorem dX11_back_25 : decode cX11_back 25 = .ok (.invokevirtual 314, 3) := by decide +kernel
theorem dX11_back_28 : decode cX11_back 28 = .ok (.ireturn, 1) := by decide +kernel
theorem dX11_size_0 : decode cX11_size 0 = .ok (.iload_n 1, 1) := by decide +kernel
theorem dX11_size_1 : decode cX11_size 1 = .ok (.bipush 11, 2) := by decide +kernel
theorem dX11_size_3 : decode cX11_size 3 = .ok (.if_icmp .ne 11, 3) := by decide +kernel
theorem dX11_size_6 : decode cX11_size 6 = .ok (.aload_n 0, 1) := by decide +kernel
theorem dX11_size_7 : decode cX11_size 7 = .ok (.getfield 10, 3) := by decide +kernel
theorem dX11_size_10 : decode cX11_size 10 = .ok (.getfield 101, 3) := by decide +kernel
theorem dX11_size_13 : decode cX11_size 13 = .ok (.ireturn, 1) := by decide +kernel
theorem dX11_size_14 : decode cX11_size 14 = .ok (.iload_n 1, 1) := by decide +kernel
theorem dX11_size_15 : decode cX11_size 15 = .ok (.ifCond .lt 9, 3) := by decide +kernel
theorem dX11_size_18 : decode cX11_size 18 = .ok (.iload_n 1, 1) := by decide +kernel
theorem dX11_size_19 : decode cX11_size 19 = .ok (.bipush 11, 2) := by decide +kernel
theorem dX11_size_21 : decode cX11_size 21 = .ok (.if_icmp .le 5, 3) := by decide +kernel
theorem dX11_size_24 : decode cX11_size 24 = .ok (.iconst (-1), 1) := by decide +kernel
theorem dX11_size_25 : decode cX11_size 25 = .ok (.ireturn, 1) := by decide +kernel
theorem dX11_size_26 : decode cX11_size 26 = .ok (.aload_n 0, 1) := by decide +kernel
theorem dX11_size_27 : decode cX11_size 27 = .ok (.getfield 85, 3) := by decide +kernel
theorem dX11_size_30 : decode cX11_size 30 = .ok (.ifCond .ne 5, 3) := by decide +kernel
theorem dX11_size_33 : decode cX11_size 33 = .ok (.iconst 0, 1) := by decide +kernel
theorem dX11_size_34 : decode cX11_size 34 = .ok (.ireturn, 1) := by decide +kernel
theorem dX11_size_35 : decode cX11_size 35 = .ok (.iload_n 1, 1) := by decide +kernel
theorem dX11_size_36 : decode cX11_size 36 = .ok (.tableswitch 55 8 10 #[28, 39, 47], 28) := by decide +kernel
theorem dX11_size_64 : decode cX11_size 64 = .ok (.aload_n 0, 1) := by decide +kernel
theorem dX11_size_65 : decode cX11_size 65 = .ok (.getfield 32, 3) := by decide +kernel
theorem dX11_size_68 : decode cX11_size 68 = .ok (.getfield 216, 3) := by decide +kernel
theorem dX11_size_71 : decode cX11_size 71 = .ok (.getfield 321, 3) := by decide +kernel
theorem dX11_size_74 : decode cX11_size 74 = .ok (.ireturn, 1) := by decide +kernel
theorem dX11_size_75 : decode cX11_size 75 = .ok (.aload_n 0, 1) := by decide +kernel
theorem dX11_size_76 : decode cX11_size 76 = .ok (.getfield 39, 3) := by decide +kernel
theorem dX11_size_79 : decode cX11_size 79 = .ok (.getfield 354, 3) := by decide +kernel
theorem dX11_size_82 : decode cX11_size 82 = .ok (.ireturn, 1) := by decide +kernel
theorem dX11_size_83 : decode cX11_size 83 = .ok (.aload_n 0, 1) := by decide +kernel
theorem dX11_size_84 : decode cX11_size 84 = .ok (.getfield 39, 3) := by decide +kernel
theorem dX11_size_87 : decode cX11_size 87 = .ok (.getfield 337, 3) := by decide +kernel
theorem dX11_size_90 : decode cX11_size 90 = .ok (.ireturn, 1) := by decide +kernel
theorem dX11_size_91 : decode cX11_size 91 = .ok (.aload_n 0, 1) := by decide +kernel
theorem dX11_size_92 : decode cX11_size 92 = .ok (.getfield 32, 3) := by decide +kernel
theorem dX11_size_95 : decode cX11_size 95 = .ok (.getfield 112, 3) := by decide +kernel
theorem dX11_size_98 : decode cX11_size 98 = .ok (.iload_n 1, 1) := by decide +kernel
theorem dX11_size_99 : decode cX11_size 99 = .ok (.invokevirtual 357, 3) := by decide +kernel
theorem dX11_size_102 : decode cX11_size 102 = .ok (.ireturn, 1) := by decide +kernel
theorem dX11_trouble_0 : decode cX11_trouble 0 = .ok (.aload_n 0, 1) := by decide +kernel
theorem dX11_trouble_1 : decode cX11_trouble 1 = .ok (.getfield 89, 3) := by decide +kernel
theorem dX11_trouble_4 : decode cX11_trouble 4 = .ok (.ireturn, 1) := by decide +kernel
def m_X11_seat (t : Nat) (x0p : Int32) (x1p : Int32) (σ : jd_Hp) : Option (Int32 × jd_Hp) :=
jd_b (m_X11_isPerson t x0p σ) fun r1 σ1 =>
jd_if (¬ r1 = 0) (
jd_if (x1p < 0) (
jd_b (m_X11_refuse t 2 σ1) fun r2 σ2 =>
some (r2, σ2)) (
jd_if (x1p ≤ 99) (
jd_o σ1 (6, 8) (σ1.2.2.2 t 2) fun a3 =>
jd_o σ1 (4, 4) (σ1.2.2.2 a3 0) fun a4 =>
jd_ia σ1 20 (σ1.2.2.2 a4 0) x0p fun a5 j5 =>
jd_if (¬ (σ1.2.1 a5 j5) = x1p) (
jd_o σ1 (2, 5) (σ1.2.2.2 t 3) fun a6 =>
jd_b (m_X2_keep a6 (σ1.2.2.2 a3 0) σ1) fun r7 σ7 =>
jd_o σ7 (6, 8) (σ7.2.2.2 t 2) fun a8 =>
jd_o σ7 (4, 4) (σ7.2.2.2 a8 0) fun a9 =>
jd_ia σ7 20 (σ7.2.2.2 a9 0) x0p fun a10 j10 =>
jd_li (jd_pi σ7 a10 j10 x1p) fun τ11 =>
jd_b (m_X11_acted t τ11) fun r12 σ12 =>
jd_o σ12 (6, 8) (σ12.2.2.2 t 2) fun a13 =>
jd_ia σ12 20 (σ12.2.2.2 a13 2) x0p fun a14 j14 =>
some ((σ12.2.1 a14 j14), σ12)) (
jd_b (m_X11_refuse t 5 σ1) fun r15 σ15 =>
some (r15, σ15))) (
jd_b (m_X11_refuse t 2 σ1) fun r16 σ16 =>
some (r16, σ16)))) (
jd_b (m_X11_refuse t 1 σ1) fun r17 σ17 =>
some (r17, σ17))
set_option maxHeartbeats 4000000 in
set_option maxRecDepth 20000 in
theorem c_X11_seat {l : Launch} {s0 : State} {G : jd_G} (hF : jd_F s0 G) (σ : jd_Hp) (t : Nat) (ht : σ.1[t]? = some (11, 12)) (x0p : Int32) (x1p : Int32) : jd_M l s0 G yX11_seat cX11_seat 3 (some .int) 5 je_i [jd_v G (some t), .int x0p, .int x1p] σ (m_X11_seat t x0p x1p σ) := by
  refine jd_enter hF (by decide) (fun G => [some (jd_v G (some t)), some (.int x0p), some (.int x1p)]) rfl (by simp [lv_args, jd_al, jd_v_cat, jd_cti, jd_ctl]) (by simp [lg_sl, jd_v_cat, jd_cti, jd_ctl]) (fun X hD hX => ?_)
  have hX : jd_C X RX11 "seat" cX11_seat 3 (some .int) := hX
  unfold m_X11_seat
  refine jr_ald0 (pc := 0) hX dX11_seat_0 ?_
  refine jr_ild1 (pc := 1) hX dX11_seat_1 ?_
  refine jr_cV1i (pc := 2) hX lX11_137 (c_X11_isPerson hX.F σ t ht _) (jd_dd hD rfl) (Nat.le_of_ble_eq_true rfl) dX11_seat_2 ht (fun r1 σ1 p1 => ?_)
  refine jr_ifne (pc := 5) hX 14 dX11_seat_5 (by decide) ?_ ?_
  · refine jr_ild2 (pc := 14) hX dX11_seat_14 ?_
    refine jr_iflt (pc := 15) hX 24 dX11_seat_15 (by decide) ?_ ?_
    · refine jr_ald0 (pc := 24) hX dX11_seat_24 ?_
      refine jr_iconst (pc := 25) hX 2 rfl dX11_seat_25 ?_
      refine jr_cV1i (pc := 26) hX lX11_104 (c_X11_refuse hX.F σ1 t (p1.at ht :) _) (jd_dd hD rfl) (Nat.le_of_ble_eq_true rfl) dX11_seat_26 (p1.at ht :) (fun r2 σ2 p2 => ?_)
      exact jr_iret (pc := 29) hX dX11_seat_29 rfl
    · refine jr_ild2 (pc := 18) hX dX11_seat_18 ?_
      refine jr_bipush (pc := 19) hX 99 rfl dX11_seat_19 ?_
      refine jr_icle (pc := 21) hX 30 dX11_seat_21 (by decide) ?_ ?_
      · refine jr_ald0 (pc := 30) hX dX11_seat_30 ?_
        refine jr_getr (pc := 31) hX fX11_32 rfl dX11_seat_31 (p1.at ht :) ?_
        refine jr_ck0 (fun a3 e3 h3 => ?_)
        refine jr_getr (pc := 34) hX fX11_216 rfl dX11_seat_34 h3 ?_
        refine jr_ck0 (fun a4 e4 h4 => ?_)
        refine jr_getr (pc := 37) hX fX11_220 rfl dX11_seat_37 h4 ?_
        refine jr_ild1 (pc := 40) hX dX11_seat_40 ?_
        refine jr_iaC (pc := 41) hX dX11_seat_41 (fun a5 n5 e5 h5 => ?_)
        refine jr_ild2 (pc := 42) hX dX11_seat_42 ?_
        refine jr_icne (pc := 43) hX 52 dX11_seat_43 (by decide) ?_ ?_
        · refine jr_ald0 (pc := 52) hX dX11_seat_52 ?_
          refine jr_getr (pc := 53) hX fX11_39 rfl dX11_seat_53 (p1.at ht :) ?_
          refine jr_ald0 (pc := 56) hX dX11_seat_56 ?_
          refine jr_getr (pc := 57) hX fX11_32 rfl dX11_seat_57 (p1.at ht :) ?_
          refine jr_ek0 e3 ?_
          refine jr_getr (pc := 60) hX fX11_216 rfl dX11_seat_60 h3 ?_
          refine jr_ck1 (fun a6 e6 h6 => ?_)
          refine jr_cV1v (pc := 63) hX lX11_307 (c_X2_keep hX.F σ1 a6 h6 _) (jd_dd hD rfl) (Nat.le_of_ble_eq_true rfl) dX11_seat_63 h6 (fun r7 σ7 p7 => ?_)
          refine jr_ald0 (pc := 66) hX dX11_seat_66 ?_
          refine jr_getr (pc := 67) hX fX11_32 rfl dX11_seat_67 (p7.at (p1.at ht :) :) ?_
          refine jr_ck0 (fun a8 e8 h8 => ?_)
          refine jr_getr (pc := 70) hX fX11_216 rfl dX11_seat_70 h8 ?_
          refine jr_ck0 (fun a9 e9 h9 => ?_)
          refine jr_getr (pc := 73) hX fX11_220 rfl dX11_seat_73 h9 ?_
          refine jr_ild1 (pc := 76) hX dX11_seat_76 ?_
          refine jr_ild2 (pc := 77) hX dX11_seat_77 ?_
          refine jr_iaS (pc := 78) hX dX11_seat_78 (fun a10 n10 e10 h10 => ?_)
          refine jr_li ?_
          refine jr_ald0 (pc := 79) hX dX11_seat_79 ?_
          refine jr_cV0i (pc := 80) hX lX11_314 (c_X11_acted hX.F (jd_pi σ7 a10 x0p.toNatClampNeg x1p) t (p7.at (p1.at ht :) :)) (jd_dd hD rfl) (Nat.le_of_ble_eq_true rfl) dX11_seat_80 (p7.at (p1.at ht :) :) (fun r12 σ12 p12 => ?_)
          refine jr_pop (pc := 83) hX rfl dX11_seat_83 ?_
          refine jr_ald0 (pc := 84) hX dX11_seat_84 ?_
          refine jr_getr (pc := 85) hX fX11_32 rfl dX11_seat_85 (p12.at (p7.at (p1.at ht :) :) :) ?_
          refine jr_ck0 (fun a13 e13 h13 => ?_)
          refine jr_getr (pc := 88) hX fX11_318 rfl dX11_seat_88 h13 ?_
          refine jr_ild1 (pc := 91) hX dX11_seat_91 ?_
          refine jr_iaC (pc := 92) hX dX11_seat_92 (fun a14 n14 e14 h14 => ?_)
          exact jr_iret (pc := 93) hX dX11_seat_93 rfl
        · refine jr_ald0 (pc := 46) hX dX11_seat_46 ?_
          refine jr_iconst (pc := 47) hX 5 rfl dX11_seat_47 ?_
          refine jr_cV1i (pc := 48) hX lX11_104 (c_X11_refuse hX.F σ1 t (p1.at ht :) _) (jd_dd hD rfl) (Nat.le_of_ble_eq_true rfl) dX11_seat_48 (p1.at ht :) (fun r15 σ15 p15 => ?_)
          exact jr_iret (pc := 51) hX dX11_seat_51 rfl
      · refine jr_ald0 (pc := 24) hX dX11_seat_24 ?_
        refine jr_iconst (pc := 25) hX 2 rfl dX11_seat_25 ?_
        refine jr_cV1i (pc := 26) hX lX11_104 (c_X11_refuse hX.F σ1 t (p1.at ht :) _) (jd_dd hD rfl) (Nat.le_of_ble_eq_true rfl) dX11_seat_26 (p1.at ht :) (fun r16 σ16 p16 => ?_)
        exact jr_iret (pc := 29) hX dX11_seat_29 rfl
  · refine jr_ald0 (pc := 8) hX dX11_seat_8 ?_
    refine jr_iconst (pc := 9) hX 1 rfl dX11_seat_9 ?_
    refine jr_cV1i (pc := 10) hX lX11_104 (c_X11_refuse hX.F σ1 t (p1.at ht :) _) (jd_dd hD rfl) (Nat.le_of_ble_eq_true rfl) dX11_seat_10 (p1.at ht :) (fun r17 σ17 p17 => ?_)
    exact jr_iret (pc := 13) hX dX11_seat_13 rfl
def m_X11_minute (t : Nat) (x0p : Int32) (σ : jd_Hp) : Option (Int32 × jd_Hp) :=
jd_if (¬ (σ.2.1 t 10) = 0) (
jd_if (x0p < 1) (
jd_b (m_X11_refuse t 2 σ) fun r1 σ1 =>
some (r1, σ1)) (
jd_if (x0p ≤ 60) (
jd_o σ (6, 8) (σ.2.2.2 t 2) fun a2 =>
jd_o σ (4, 4) (σ.2.2.2 a2 0) fun a3 =>
jd_if (((σ.2.1 a3 3) + x0p) ≤ 999) (
jd_o σ (2, 5) (σ.2.2.2 t 3) fun a4 =>
jd_b (m_X2_keep a4 (σ.2.2.2 a2 0) σ) fun r5 σ5 =>
jd_o σ5 (6, 8) (σ5.2.2.2 t 2) fun a6 =>
jd_o σ5 (4, 4) (σ5.2.2.2 a6 0) fun a7 =>
jd_li (jd_pi σ5 a7 3 ((σ5.2.1 a7 3) + x0p)) fun τ8 =>
jd_b (m_X11_acted t τ8) fun r9 σ9 =>
jd_o σ9 (6, 8) (σ9.2.2.2 t 2) fun a10 =>
jd_o σ9 (4, 4) (σ9.2.2.2 a10 0) fun a11 =>
jd_b (m_X6_underBits a10 (σ9.2.1 a11 3) σ9) fun r12 σ12 =>
some (r12, σ12)) (
jd_b (m_X11_refuse t 3 σ) fun r13 σ13 =>
some (r13, σ13))) (
jd_b (m_X11_refuse t 2 σ) fun r14 σ14 =>
some (r14, σ14)))) (
jd_b (m_X11_refuse t 1 σ) fun r15 σ15 =>
some (r15, σ15))
set_option maxHeartbeats 4000000 in
set_option maxRecDepth 20000 in
theorem c_X11_minute {l : Launch} {s0 : State} {G : jd_G} (hF : jd_F s0 G) (σ : jd_Hp) (t : Nat) (ht : σ.1[t]? = some (11, 12)) (x0p : Int32) : jd_M l s0 G yX11_minute cX11_minute 2 (some .int) 5 je_i [jd_v G (some t), .int x0p] σ (m_X11_minute t x0p σ) := by
  refine jd_enter hF (by decide) (fun G => [some (jd_v G (some t)), some (.int x0p)]) rfl (by simp [lv_args, jd_al, jd_v_cat, jd_cti, jd_ctl]) (by simp [lg_sl, jd_v_cat, jd_cti, jd_ctl]) (fun X hD hX => ?_)
  have hX : jd_C X RX11 "minute" cX11_minute 2 (some .int) := hX
  unfold m_X11_minute
  refine jr_ald0 (pc := 0) hX dX11_minute_0 ?_
  refine jr_geti (pc := 1) hX fX11_85 rfl dX11_minute_1 ht ?_
  refine jr_ifne (pc := 4) hX 13 dX11_minute_4 (by decide) ?_ ?_
  · refine jr_ild1 (pc := 13) hX dX11_minute_13 ?_
    refine jr_iconst (pc := 14) hX 1 rfl dX11_minute_14 ?_
    refine jr_iclt (pc := 15) hX 24 dX11_minute_15 (by decide) ?_ ?_
    · refine jr_ald0 (pc := 24) hX dX11_minute_24 ?_
      refine jr_iconst (pc := 25) hX 2 rfl dX11_minute_25 ?_
      refine jr_cV1i (pc := 26) hX lX11_104 (c_X11_refuse hX.F σ t ht _) (jd_dd hD rfl) (Nat.le_of_ble_eq_true rfl) dX11_minute_26 ht (fun r1 σ1 p1 => ?_)
      exact jr_iret (pc := 29) hX dX11_minute_29 rfl
    · refine jr_ild1 (pc := 18) hX dX11_minute_18 ?_
      refine jr_bipush (pc := 19) hX 60 rfl dX11_minute_19 ?_
      refine jr_icle (pc := 21) hX 30 dX11_minute_21 (by decide) ?_ ?_
      · refine jr_ald0 (pc := 30) hX dX11_minute_30 ?_
        refine jr_getr (pc := 31) hX fX11_32 rfl dX11_minute_31 ht ?_
        refine jr_ck0 (fun a2 e2 h2 => ?_)
        refine jr_getr (pc := 34) hX fX11_216 rfl dX11_minute_34 h2 ?_
        refine jr_ck0 (fun a3 e3 h3 => ?_)
        refine jr_geti (pc := 37) hX fX11_321 rfl dX11_minute_37 h3 ?_
        refine jr_ild1 (pc := 40) hX dX11_minute_40 ?_
        refine jr_iadd (pc := 41) hX dX11_minute_41 ?_
        refine jr_sipush (pc := 42) hX 999 rfl dX11_minute_42 ?_
        refine jr_icle (pc := 45) hX 54 dX11_minute_45 (by decide) ?_ ?_
        · refine jr_ald0 (pc := 54) hX dX11_minute_54 ?_
          refine jr_getr (pc := 55) hX fX11_39 rfl dX11_minute_55 ht ?_
          refine jr_ald0 (pc := 58) hX dX11_minute_58 ?_
          refine jr_getr (pc := 59) hX fX11_32 rfl dX11_minute_59 ht ?_
          refine jr_ek0 e2 ?_
          refine jr_getr (pc := 62) hX fX11_216 rfl dX11_minute_62 h2 ?_
          refine jr_ck1 (fun a4 e4 h4 => ?_)
          refine jr_cV1v (pc := 65) hX lX11_307 (c_X2_keep hX.F σ a4 h4 _) (jd_dd hD rfl) (Nat.le_of_ble_eq_true rfl) dX11_minute_65 h4 (fun r5 σ5 p5 => ?_)
          refine jr_ald0 (pc := 68) hX dX11_minute_68 ?_
          refine jr_getr (pc := 69) hX fX11_32 rfl dX11_minute_69 (p5.at ht :) ?_
          refine jr_ck0 (fun a6 e6 h6 => ?_)
          refine jr_getr (pc := 72) hX fX11_216 rfl dX11_minute_72 h6 ?_
          refine jr_dup (pc := 75) hX (jd_v_cat _ _) dX11_minute_75 ?_
          refine jr_ck0 (fun a7 e7 h7 => ?_)
          refine jr_geti (pc := 76) hX fX11_321 rfl dX11_minute_76 h7 ?_
          refine jr_ild1 (pc := 79) hX dX11_minute_79 ?_
          refine jr_iadd (pc := 80) hX dX11_minute_80 ?_
          refine jr_ek1 e7 ?_
          refine jr_puti (pc := 81) hX fX11_321 rfl dX11_minute_81 h7 ?_
          refine jr_li ?_
          refine jr_ald0 (pc := 84) hX dX11_minute_84 ?_
          refine jr_cV0i (pc := 85) hX lX11_314 (c_X11_acted hX.F (jd_pi σ5 a7 3 ((σ5.2.1 a7 3) + x0p)) t (p5.at ht :)) (jd_dd hD rfl) (Nat.le_of_ble_eq_true rfl) dX11_minute_85 (p5.at ht :) (fun r9 σ9 p9 => ?_)
          refine jr_pop (pc := 88) hX rfl dX11_minute_88 ?_
          refine jr_ald0 (pc := 89) hX dX11_minute_89 ?_
          refine jr_getr (pc := 90) hX fX11_32 rfl dX11_minute_90 (p9.at (p5.at ht :) :) ?_
          refine jr_ald0 (pc := 93) hX dX11_minute_93 ?_
          refine jr_getr (pc := 94) hX fX11_32 rfl dX11_minute_94 (p9.at (p5.at ht :) :) ?_
          refine jr_ck0 (fun a10 e10 h10 => ?_)
          refine jr_getr (pc := 97) hX fX11_216 rfl dX11_minute_97 h10 ?_
          refine jr_ck0 (fun a11 e11 h11 => ?_)
          refine jr_geti (pc := 100) hX fX11_321 rfl dX11_minute_100 h11 ?_
          refine jr_ek1 e10 ?_
          refine jr_cV1i (pc := 103) hX lX11_163 (c_X6_underBits hX.F σ9 a10 h10 _) (jd_dd hD rfl) (Nat.le_of_ble_eq_true rfl) dX11_minute_103 h10 (fun r12 σ12 p12 => ?_)
          exact jr_iret (pc := 106) hX dX11_minute_106 rfl
        · refine jr_ald0 (pc := 48) hX dX11_minute_48 ?_
          refine jr_iconst (pc := 49) hX 3 rfl dX11_minute_49 ?_
          refine jr_cV1i (pc := 50) hX lX11_104 (c_X11_refuse hX.F σ t ht _) (jd_dd hD rfl) (Nat.le_of_ble_eq_true rfl) dX11_minute_50 ht (fun r13 σ13 p13 => ?_)
          exact jr_iret (pc := 53) hX dX11_minute_53 rfl
      · refine jr_ald0 (pc := 24) hX dX11_minute_24 ?_
        refine jr_iconst (pc := 25) hX 2 rfl dX11_minute_25 ?_
        refine jr_cV1i (pc := 26) hX lX11_104 (c_X11_refuse hX.F σ t ht _) (jd_dd hD rfl) (Nat.le_of_ble_eq_true rfl) dX11_minute_26 ht (fun r14 σ14 p14 => ?_)
        exact jr_iret (pc := 29) hX dX11_minute_29 rfl
  · refine jr_ald0 (pc := 7) hX dX11_minute_7 ?_
    refine jr_iconst (pc := 8) hX 1 rfl dX11_minute_8 ?_
    refine jr_cV1i (pc := 9) hX lX11_104 (c_X11_refuse hX.F σ t ht _) (jd_dd hD rfl) (Nat.le_of_ble_eq_true rfl) dX11_minute_9 ht (fun r15 σ15 p15 => ?_)
    exact jr_iret (pc := 12) hX dX11_minute_12 rfl
def m_X11_lift (t : Nat) (x0p : Int32) (σ : jd_Hp) : Option (Int32 × jd_Hp) :=
jd_b (m_X11_isPerson t x0p σ) fun r1 σ1 =>
jd_if (¬ r1 = 0) (
jd_o σ1 (6, 8) (σ1.2.2.2 t 2) fun a2 =>
jd_o σ1 (4, 4) (σ1.2.2.2 a2 0) fun a3 =>
jd_b (m_X6_isUnder a2 x0p (σ1.2.1 a3 3) σ1) fun r4 σ4 =>
jd_if (¬ r4 = 0) (
jd_o σ4 (6, 8) (σ4.2.2.2 t 2) fun a5 =>
jd_b (m_X6_nearestManned a5 x0p σ4) fun r6 σ6 =>
jd_if (r6 < 0) (
jd_b (m_X11_refuse t 6 σ6) fun r7 σ7 =>
some (r7, σ7)) (
jd_o σ6 (6, 8) (σ6.2.2.2 t 2) fun a8 =>
jd_b (m_X6_reaches a8 r6 x0p σ6) fun r9 σ9 =>
jd_if (¬ r9 = 0) (
jd_o σ9 (6, 8) (σ9.2.2.2 t 2) fun a10 =>
jd_o σ9 (2, 5) (σ9.2.2.2 t 3) fun a11 =>
jd_b (m_X2_keep a11 (σ9.2.2.2 a10 0) σ9) fun r12 σ12 =>
jd_o σ12 (6, 8) (σ12.2.2.2 t 2) fun a13 =>
jd_o σ12 (4, 4) (σ12.2.2.2 a13 0) fun a14 =>
jd_li (jd_pi σ12 a14 2 ((σ12.2.1 a14 2) ||| (1 <<< (x0p &&& 31)))) fun τ15 =>
jd_b (m_X11_acted t τ15) fun r16 σ16 =>
some (r6, σ16)) (
jd_b (m_X11_refuse t 6 σ9) fun r17 σ17 =>
some (r17, σ17)))) (
jd_b (m_X11_refuse t 5 σ4) fun r18 σ18 =>
some (r18, σ18))) (
jd_b (m_X11_refuse t 1 σ1) fun r19 σ19 =>
some (r19, σ19))
set_option maxHeartbeats 4000000 in
set_option maxRecDepth 20000 in
theorem c_X11_lift {l : Launch} {s0 : State} {G : jd_G} (hF : jd_F s0 G) (σ : jd_Hp) (t : Nat) (ht : σ.1[t]? = some (11, 12)) (x0p : Int32) : jd_M l s0 G yX11_lift cX11_lift 3 (some .int) 5 je_i [jd_v G (some t), .int x0p] σ (m_X11_lift t x0p σ) := by
  refine jd_enter hF (by decide) (fun G => [some (jd_v G (some t)), some (.int x0p), none]) rfl (by simp [lv_args, jd_al, jd_v_cat, jd_cti, jd_ctl]) (by simp [lg_sl, jd_v_cat, jd_cti, jd_ctl]) (fun X hD hX => ?_)
  have hX : jd_C X RX11 "lift" cX11_lift 3 (some .int) := hX
  unfold m_X11_lift
  refine jr_ald0 (pc := 0) hX dX11_lift_0 ?_
  refine jr_ild1 (pc := 1) hX dX11_lift_1 ?_
  refine jr_cV1i (pc := 2) hX lX11_137 (c_X11_isPerson hX.F σ t ht _) (jd_dd hD rfl) (Nat.le_of_ble_eq_true rfl) dX11_lift_2 ht (fun r1 σ1 p1 => ?_)
  refine jr_ifne (pc := 5) hX 14 dX11_lift_5 (by decide) ?_ ?_
  · refine jr_ald0 (pc := 14) hX dX11_lift_14 ?_
    refine jr_getr (pc := 15) hX fX11_32 rfl dX11_lift_15 (p1.at ht :) ?_
    refine jr_ild1 (pc := 18) hX dX11_lift_18 ?_
    refine jr_ald0 (pc := 19) hX dX11_lift_19 ?_
    refine jr_getr (pc := 20) hX fX11_32 rfl dX11_lift_20 (p1.at ht :) ?_
    refine jr_ck0 (fun a2 e2 h2 => ?_)
    refine jr_getr (pc := 23) hX fX11_216 rfl dX11_lift_23 h2 ?_
    refine jr_ck0 (fun a3 e3 h3 => ?_)
    refine jr_geti (pc := 26) hX fX11_321 rfl dX11_lift_26 h3 ?_
    refine jr_ek2 e2 ?_
    refine jr_cV2i (pc := 29) hX lX11_324 (c_X6_isUnder hX.F σ1 a2 h2 _ _) (jd_dd hD rfl) (Nat.le_of_ble_eq_true rfl) dX11_lift_29 h2 (fun r4 σ4 p4 => ?_)
    refine jr_ifne (pc := 32) hX 41 dX11_lift_32 (by decide) ?_ ?_
    · refine jr_ald0 (pc := 41) hX dX11_lift_41 ?_
      refine jr_getr (pc := 42) hX fX11_32 rfl dX11_lift_42 (p4.at (p1.at ht :) :) ?_
      refine jr_ild1 (pc := 45) hX dX11_lift_45 ?_
      refine jr_ck1 (fun a5 e5 h5 => ?_)
      refine jr_cV1i (pc := 46) hX lX11_175 (c_X6_nearestManned hX.F σ4 a5 h5 _) (jd_dd hD rfl) (Nat.le_of_ble_eq_true rfl) dX11_lift_46 h5 (fun r6 σ6 p6 => ?_)
      refine jr_ist2 (pc := 49) hX (jn_i _) dX11_lift_49 ?_
      refine jr_ild2 (pc := 50) hX dX11_lift_50 ?_
      refine jr_iflt (pc := 51) hX 66 dX11_lift_51 (by decide) ?_ ?_
      · refine jr_ald0 (pc := 66) hX dX11_lift_66 ?_
        refine jr_bipush (pc := 67) hX 6 rfl dX11_lift_67 ?_
        refine jr_cV1i (pc := 69) hX lX11_104 (c_X11_refuse hX.F σ6 t (p6.at (p4.at (p1.at ht :) :) :) _) (jd_dd hD rfl) (Nat.le_of_ble_eq_true rfl) dX11_lift_69 (p6.at (p4.at (p1.at ht :) :) :) (fun r7 σ7 p7 => ?_)
        exact jr_iret (pc := 72) hX dX11_lift_72 rfl
      · refine jr_ald0 (pc := 54) hX dX11_lift_54 ?_
        refine jr_getr (pc := 55) hX fX11_32 rfl dX11_lift_55 (p6.at (p4.at (p1.at ht :) :) :) ?_
        refine jr_ild2 (pc := 58) hX dX11_lift_58 ?_
        refine jr_ild1 (pc := 59) hX dX11_lift_59 ?_
        refine jr_ck2 (fun a8 e8 h8 => ?_)
        refine jr_cV2i (pc := 60) hX lX11_327 (c_X6_reaches hX.F σ6 a8 h8 _ _) (jd_dd hD rfl) (Nat.le_of_ble_eq_true rfl) dX11_lift_60 h8 (fun r9 σ9 p9 => ?_)
        refine jr_ifne (pc := 63) hX 73 dX11_lift_63 (by decide) ?_ ?_
        · refine jr_ald0 (pc := 73) hX dX11_lift_73 ?_
          refine jr_getr (pc := 74) hX fX11_39 rfl dX11_lift_74 (p9.at (p6.at (p4.at (p1.at ht :) :) :) :) ?_
          refine jr_ald0 (pc := 77) hX dX11_lift_77 ?_
          refine jr_getr (pc := 78) hX fX11_32 rfl dX11_lift_78 (p9.at (p6.at (p4.at (p1.at ht :) :) :) :) ?_
          refine jr_ck0 (fun a10 e10 h10 => ?_)
          refine jr_getr (pc := 81) hX fX11_216 rfl dX11_lift_81 h10 ?_
          refine jr_ck1 (fun a11 e11 h11 => ?_)
          refine jr_cV1v (pc := 84) hX lX11_307 (c_X2_keep hX.F σ9 a11 h11 _) (jd_dd hD rfl) (Nat.le_of_ble_eq_true rfl) dX11_lift_84 h11 (fun r12 σ12 p12 => ?_)
          refine jr_ald0 (pc := 87) hX dX11_lift_87 ?_
          refine jr_getr (pc := 88) hX fX11_32 rfl dX11_lift_88 (p12.at (p9.at (p6.at (p4.at (p1.at ht :) :) :) :) :) ?_
          refine jr_ck0 (fun a13 e13 h13 => ?_)
          refine jr_getr (pc := 91) hX fX11_216 rfl dX11_lift_91 h13 ?_
          refine jr_dup (pc := 94) hX (jd_v_cat _ _) dX11_lift_94 ?_
          refine jr_ck0 (fun a14 e14 h14 => ?_)
          refine jr_geti (pc := 95) hX fX11_330 rfl dX11_lift_95 h14 ?_
          refine jr_iconst (pc := 98) hX 1 rfl dX11_lift_98 ?_
          refine jr_ild1 (pc := 99) hX dX11_lift_99 ?_
          refine jr_ishl (pc := 100) hX dX11_lift_100 ?_
          refine jr_ior (pc := 101) hX dX11_lift_101 ?_
          refine jr_ek1 e14 ?_
          refine jr_puti (pc := 102) hX fX11_330 rfl dX11_lift_102 h14 ?_
          refine jr_li ?_
          refine jr_ald0 (pc := 105) hX dX11_lift_105 ?_
          refine jr_cV0i (pc := 106) hX lX11_314 (c_X11_acted hX.F (jd_pi σ12 a14 2 ((σ12.2.1 a14 2) ||| (1 <<< (x0p &&& 31)))) t (p12.at (p9.at (p6.at (p4.at (p1.at ht :) :) :) :) :)) (jd_dd hD rfl) (Nat.le_of_ble_eq_true rfl) dX11_lift_106 (p12.at (p9.at (p6.at (p4.at (p1.at ht :) :) :) :) :) (fun r16 σ16 p16 => ?_)
          refine jr_pop (pc := 109) hX rfl dX11_lift_109 ?_
          refine jr_ild2 (pc := 110) hX dX11_lift_110 ?_
          exact jr_iret (pc := 111) hX dX11_lift_111 rfl
        · refine jr_ald0 (pc := 66) hX dX11_lift_66 ?_
          refine jr_bipush (pc := 67) hX 6 rfl dX11_lift_67 ?_
          refine jr_cV1i (pc := 69) hX lX11_104 (c_X11_refuse hX.F σ9 t (p9.at (p6.at (p4.at (p1.at ht :) :) :) :) _) (jd_dd hD rfl) (Nat.le_of_ble_eq_true rfl) dX11_lift_69 (p9.at (p6.at (p4.at (p1.at ht :) :) :) :) (fun r17 σ17 p17 => ?_)
          exact jr_iret (pc := 72) hX dX11_lift_72 rfl
    · refine jr_ald0 (pc := 35) hX dX11_lift_35 ?_
      refine jr_iconst (pc := 36) hX 5 rfl dX11_lift_36 ?_
      refine jr_cV1i (pc := 37) hX lX11_104 (c_X11_refuse hX.F σ4 t (p4.at (p1.at ht :) :) _) (jd_dd hD rfl) (Nat.le_of_ble_eq_true rfl) dX11_lift_37 (p4.at (p1.at ht :) :) (fun r18 σ18 p18 => ?_)
      exact jr_iret (pc := 40) hX dX11_lift_40 rfl
  · refine jr_ald0 (pc := 8) hX dX11_lift_8 ?_
    refine jr_iconst (pc := 9) hX 1 rfl dX11_lift_9 ?_
    refine jr_cV1i (pc := 10) hX lX11_104 (c_X11_refuse hX.F σ1 t (p1.at ht :) _) (jd_dd hD rfl) (Nat.le_of_ble_eq_true rfl) dX11_lift_10 (p1.at ht :) (fun r19 σ19 p19 => ?_)
    exact jr_iret (pc := 13) hX dX11_lift_13 rfl
def m_X11_undo (t : Nat) (σ : jd_Hp) : Option (Int32 × jd_Hp) :=
jd_o σ (6, 8) (σ.2.2.2 t 2) fun a1 =>
jd_o σ (2, 5) (σ.2.2.2 t 3) fun a2 =>
jd_b (m_X2_takeBack a2 (σ.2.2.2 a1 0) σ) fun r3 σ3 =>
jd_if (¬ r3 = 0) (
jd_b (m_X11_acted t σ3) fun r4 σ4 =>
some ((r4 &&& 1), σ4)) (
jd_b (m_X11_deny t 6 σ3) fun r5 σ5 =>
some ((r5 &&& 1), σ5))
set_option maxHeartbeats 4000000 in
set_option maxRecDepth 20000 in
theorem c_X11_undo {l : Launch} {s0 : State} {G : jd_G} (hF : jd_F s0 G) (σ : jd_Hp) (t : Nat) (ht : σ.1[t]? = some (11, 12)) : jd_M l s0 G yX11_undo cX11_undo 1 (some .boolean) 5 je_i [jd_v G (some t)] σ (m_X11_undo t σ) := by
  refine jd_enter hF (by decide) (fun G => [some (jd_v G (some t))]) rfl (by simp [lv_args, jd_al, jd_v_cat, jd_cti, jd_ctl]) (by simp [lg_sl, jd_v_cat, jd_cti, jd_ctl]) (fun X hD hX => ?_)
  have hX : jd_C X RX11 "undo" cX11_undo 1 (some .boolean) := hX
  unfold m_X11_undo
  refine jr_ald0 (pc := 0) hX dX11_undo_0 ?_
  refine jr_getr (pc := 1) hX fX11_39 rfl dX11_undo_1 ht ?_
  refine jr_ald0 (pc := 4) hX dX11_undo_4 ?_
  refine jr_getr (pc := 5) hX fX11_32 rfl dX11_undo_5 ht ?_
  refine jr_ck0 (fun a1 e1 h1 => ?_)
  refine jr_getr (pc := 8) hX fX11_216 rfl dX11_undo_8 h1 ?_
  refine jr_ck1 (fun a2 e2 h2 => ?_)
  refine jr_cV1i (pc := 11) hX lX11_333 (c_X2_takeBack hX.F σ a2 h2 _) (jd_dd hD rfl) (Nat.le_of_ble_eq_true rfl) dX11_undo_11 h2 (fun r3 σ3 p3 => ?_)
  refine jr_ifne (pc := 14) hX 24 dX11_undo_14 (by decide) ?_ ?_
  · refine jr_ald0 (pc := 24) hX dX11_undo_24 ?_
    refine jr_cV0i (pc := 25) hX lX11_314 (c_X11_acted hX.F σ3 t (p3.at ht :)) (jd_dd hD rfl) (Nat.le_of_ble_eq_true rfl) dX11_undo_25 (p3.at ht :) (fun r4 σ4 p4 => ?_)
    exact jr_bret (pc := 28) hX dX11_undo_28 rfl
  · refine jr_ald0 (pc := 17) hX dX11_undo_17 ?_
    refine jr_bipush (pc := 18) hX 6 rfl dX11_undo_18 ?_
    refine jr_cV1i (pc := 20) hX lX11_301 (c_X11_deny hX.F σ3 t (p3.at ht :) _) (jd_dd hD rfl) (Nat.le_of_ble_eq_true rfl) dX11_undo_20 (p3.at ht :) (fun r5 σ5 p5 => ?_)
    exact jr_bret (pc := 23) hX dX11_undo_23 rfl
def m_X11_image (t : Nat) (σ : jd_Hp) : Option (Int32 × jd_Hp) :=
jd_if (¬ (σ.2.1 t 10) = 0) (
jd_o σ (2, 5) (σ.2.2.2 t 3) fun a1 =>
jd_if ((σ.2.1 a1 4) < 3) (
jd_o σ (6, 8) (σ.2.2.2 t 2) fun a2 =>
jd_b (m_X2_keepImage a1 (σ.2.2.2 a2 0) σ) fun r3 σ3 =>
jd_b (m_X11_grant t r3 σ3) fun r4 σ4 =>
some (r4, σ4)) (
jd_b (m_X11_refuse t 3 σ) fun r5 σ5 =>
some (r5, σ5))) (
jd_b (m_X11_refuse t 1 σ) fun r6 σ6 =>
some (r6, σ6))
set_option maxHeartbeats 4000000 in
set_option maxRecDepth 20000 in
theorem c_X11_image {l : Launch} {s0 : State} {G : jd_G} (hF : jd_F s0 G) (σ : jd_Hp) (t : Nat) (ht : σ.1[t]? = some (11, 12)) : jd_M l s0 G yX11_image cX11_image 1 (some .int) 2 je_i [jd_v G (some t)] σ (m_X11_image t σ) := by
  refine jd_enter hF (by decide) (fun G => [some (jd_v G (some t))]) rfl (by simp [lv_args, jd_al, jd_v_cat, jd_cti, jd_ctl]) (by simp [lg_sl, jd_v_cat, jd_cti, jd_ctl]) (fun X hD hX => ?_)
  have hX : jd_C X RX11 "image" cX11_image 1 (some .int) := hX
  unfold m_X11_image
  refine jr_ald0 (pc := 0) hX dX11_image_0 ?_
  refine jr_geti (pc := 1) hX fX11_85 rfl dX11_image_1 ht ?_
  refine jr_ifne (pc := 4) hX 13 dX11_image_4 (by decide) ?_ ?_
  · refine jr_ald0 (pc := 13) hX dX11_image_13 ?_
    refine jr_getr (pc := 14) hX fX11_39 rfl dX11_image_14 ht ?_
    refine jr_ck0 (fun a1 e1 h1 => ?_)
    refine jr_geti (pc := 17) hX fX11_337 rfl dX11_image_17 h1 ?_
    refine jr_iconst (pc := 20) hX 3 rfl dX11_image_20 ?_
    refine jr_iclt (pc := 21) hX 30 dX11_image_21 (by decide) ?_ ?_
    · refine jr_ald0 (pc := 30) hX dX11_image_30 ?_
      refine jr_ald0 (pc := 31) hX dX11_image_31 ?_
      refine jr_getr (pc := 32) hX fX11_39 rfl dX11_image_32 ht ?_
      refine jr_ald0 (pc := 35) hX dX11_image_35 ?_
      refine jr_getr (pc := 36) hX fX11_32 rfl dX11_image_36 ht ?_
      refine jr_ck0 (fun a2 e2 h2 => ?_)
      refine jr_getr (pc := 39) hX fX11_216 rfl dX11_image_39 h2 ?_
      refine jr_ek1 e1 ?_
      refine jr_cV1i (pc := 42) hX lX11_340 (c_X2_keepImage hX.F σ a1 h1 _) (jd_dd hD rfl) (by simp [jd_v_cat, jd_cti, jd_ctl]) dX11_image_42 h1 (fun r3 σ3 p3 => ?_)
      refine jr_cV1i (pc := 45) hX lX11_128 (c_X11_grant hX.F σ3 t (p3.at ht :) _) (jd_dd hD rfl) (Nat.le_of_ble_eq_true rfl) dX11_image_45 (p3.at ht :) (fun r4 σ4 p4 => ?_)
      exact jr_iret (pc := 48) hX dX11_image_48 rfl
    · refine jr_ald0 (pc := 24) hX dX11_image_24 ?_
      refine jr_iconst (pc := 25) hX 3 rfl dX11_image_25 ?_
      refine jr_cV1i (pc := 26) hX lX11_104 (c_X11_refuse hX.F σ t ht _) (jd_dd hD rfl) (Nat.le_of_ble_eq_true rfl) dX11_image_26 ht (fun r5 σ5 p5 => ?_)
      exact jr_iret (pc := 29) hX dX11_image_29 rfl
  · refine jr_ald0 (pc := 7) hX dX11_image_7 ?_
    refine jr_iconst (pc := 8) hX 1 rfl dX11_image_8 ?_
    refine jr_cV1i (pc := 9) hX lX11_104 (c_X11_refuse hX.F σ t ht _) (jd_dd hD rfl) (Nat.le_of_ble_eq_true rfl) dX11_image_9 ht (fun r6 σ6 p6 => ?_)
    exact jr_iret (pc := 12) hX dX11_image_12 rfl
def m_X11_back (t : Nat) (x0p : Int32) (σ : jd_Hp) : Option (Int32 × jd_Hp) :=
jd_o σ (6, 8) (σ.2.2.2 t 2) fun a1 =>
jd_o σ (2, 5) (σ.2.2.2 t 3) fun a2 =>
jd_b (m_X2_bringBack a2 x0p (σ.2.2.2 a1 0) σ) fun r3 σ3 =>
jd_if (¬ r3 = 0) (
jd_b (m_X11_acted t σ3) fun r4 σ4 =>
some ((r4 &&& 1), σ4)) (
jd_b (m_X11_deny t 1 σ3) fun r5 σ5 =>
some ((r5 &&& 1), σ5))
set_option maxHeartbeats 4000000 in
set_option maxRecDepth 20000 in
theorem c_X11_back {l : Launch} {s0 : State} {G : jd_G} (hF : jd_F s0 G) (σ : jd_Hp) (t : Nat) (ht : σ.1[t]? = some (11, 12)) (x0p : Int32) : jd_M l s0 G yX11_back cX11_back 2 (some .boolean) 5 je_i [jd_v G (some t), .int x0p] σ (m_X11_back t x0p σ) := by
  refine jd_enter hF (by decide) (fun G => [some (jd_v G (some t)), some (.int x0p)]) rfl (by simp [lv_args, jd_al, jd_v_cat, jd_cti, jd_ctl]) (by simp [lg_sl, jd_v_cat, jd_cti, jd_ctl]) (fun X hD hX => ?_)
  have hX : jd_C X RX11 "back" cX11_back 2 (some .boolean) := hX
  unfold m_X11_back
  refine jr_ald0 (pc := 0) hX dX11_back_0 ?_
  refine jr_getr (pc := 1) hX fX11_39 rfl dX11_back_1 ht ?_
  refine jr_ild1 (pc := 4) hX dX11_back_4 ?_
  refine jr_ald0 (pc := 5) hX dX11_back_5 ?_
  refine jr_getr (pc := 6) hX fX11_32 rfl dX11_back_6 ht ?_
  refine jr_ck0 (fun a1 e1 h1 => ?_)
  refine jr_getr (pc := 9) hX fX11_216 rfl dX11_back_9 h1 ?_
  refine jr_ck2 (fun a2 e2 h2 => ?_)
  refine jr_cV2i (pc := 12) hX lX11_344 (c_X2_bringBack hX.F σ a2 h2 _ _) (jd_dd hD rfl) (Nat.le_of_ble_eq_true rfl) dX11_back_12 h2 (fun r3 σ3 p3 => ?_)
  refine jr_ifne (pc := 15) hX 24 dX11_back_15 (by decide) ?_ ?_
  · refine jr_ald0 (pc := 24) hX dX11_back_24 ?_
    refine jr_cV0i (pc := 25) hX lX11_314 (c_X11_acted hX.F σ3 t (p3.at ht :)) (jd_dd hD rfl) (Nat.le_of_ble_eq_true rfl) dX11_back_25 (p3.at ht :) (fun r4 σ4 p4 => ?_)
    exact jr_bret (pc := 28) hX dX11_back_28 rfl
  · refine jr_ald0 (pc := 18) hX dX11_back_18 ?_
    refine jr_iconst (pc := 19) hX 1 rfl dX11_back_19 ?_
    refine jr_cV1i (pc := 20) hX lX11_301 (c_X11_deny hX.F σ3 t (p3.at ht :) _) (jd_dd hD rfl) (Nat.le_of_ble_eq_true rfl) dX11_back_20 (p3.at ht :) (fun r5 σ5 p5 => ?_)
    exact jr_bret (pc := 23) hX dX11_back_23 rfl
def m_X11_size (t : Nat) (x0p : Int32) (σ : jd_Hp) : Option (Int32 × jd_Hp) :=
jd_if (¬ x0p = 11) (
jd_if (x0p < 0) (
some ((-1), σ)) (
jd_if (x0p ≤ 11) (
jd_if (¬ (σ.2.1 t 10) = 0) (
jd_sw x0p 8 [
jd_o σ (6, 8) (σ.2.2.2 t 2) fun a1 =>
jd_o σ (4, 4) (σ.2.2.2 a1 0) fun a2 =>
some ((σ.2.1 a2 3), σ),
jd_o σ (2, 5) (σ.2.2.2 t 3) fun a3 =>
some ((σ.2.1 a3 3), σ),
jd_o σ (2, 5) (σ.2.2.2 t 3) fun a4 =>
some ((σ.2.1 a4 4), σ)] (
jd_o σ (6, 8) (σ.2.2.2 t 2) fun a5 =>
jd_o σ (10, 16) (σ.2.2.2 a5 5) fun a6 =>
jd_b (m_X10_count a6 x0p σ) fun r7 σ7 =>
some (r7, σ7))) (
some (0, σ))) (
some ((-1), σ)))) (
jd_o σ (8, 2) (σ.2.2.2 t 0) fun a8 =>
some ((σ.2.1 a8 1), σ))
set_option maxHeartbeats 4000000 in
set_option maxRecDepth 20000 in
theorem c_X11_size {l : Launch} {s0 : State} {G : jd_G} (hF : jd_F s0 G) (σ : jd_Hp) (t : Nat) (ht : σ.1[t]? = some (11, 12)) (x0p : Int32) : jd_M l s0 G yX11_size cX11_size 2 (some .int) 2 je_i [jd_v G (some t), .int x0p] σ (m_X11_size t x0p σ) := by
  refine jd_enter hF (by decide) (fun G => [some (jd_v G (some t)), some (.int x0p)]) rfl (by simp [lv_args, jd_al, jd_v_cat, jd_cti, jd_ctl]) (by simp [lg_sl, jd_v_cat, jd_cti, jd_ctl]) (fun X hD hX => ?_)
  have hX : jd_C X RX11 "size" cX11_size 2 (some .int) := hX
  unfold m_X11_size
  refine jr_ild1 (pc := 0) hX dX11_size_0 ?_
  refine jr_bipush (pc := 1) hX 11 rfl dX11_size_1 ?_
  refine jr_icne (pc := 3) hX 14 dX11_size_3 (by decide) ?_ ?_
  · refine jr_ild1 (pc := 14) hX dX11_size_14 ?_
    refine jr_iflt (pc := 15) hX 24 dX11_size_15 (by decide) ?_ ?_
    · refine jr_iconst (pc := 24) hX (-1) rfl dX11_size_24 ?_
      exact jr_iret (pc := 25) hX dX11_size_25 rfl
    · refine jr_ild1 (pc := 18) hX dX11_size_18 ?_
      refine jr_bipush (pc := 19) hX 11 rfl dX11_size_19 ?_
      refine jr_icle (pc := 21) hX 26 dX11_size_21 (by decide) ?_ ?_
      · refine jr_ald0 (pc := 26) hX dX11_size_26 ?_
        refine jr_geti (pc := 27) hX fX11_85 rfl dX11_size_27 ht ?_
        refine jr_ifne (pc := 30) hX 35 dX11_size_30 (by decide) ?_ ?_
        · refine jr_ild1 (pc := 35) hX dX11_size_35 ?_
          refine jr_tsw (pc := 36) hX [64, 75, 83] 91 dX11_size_36 (by decide) rfl (by decide) rfl (fun i t A h1 h2 => ?_) ?_
          · match i, h1, h2 with
            | 0, h1, h2 =>
              cases h1
              cases h2
              refine jr_ald0 (pc := 64) hX dX11_size_64 ?_
              refine jr_getr (pc := 65) hX fX11_32 rfl dX11_size_65 ht ?_
              refine jr_ck0 (fun a1 e1 h1 => ?_)
              refine jr_getr (pc := 68) hX fX11_216 rfl dX11_size_68 h1 ?_
              refine jr_ck0 (fun a2 e2 h2 => ?_)
              refine jr_geti (pc := 71) hX fX11_321 rfl dX11_size_71 h2 ?_
              exact jr_iret (pc := 74) hX dX11_size_74 rfl
            | 1, h1, h2 =>
              cases h1
              cases h2
              refine jr_ald0 (pc := 75) hX dX11_size_75 ?_
              refine jr_getr (pc := 76) hX fX11_39 rfl dX11_size_76 ht ?_
              refine jr_ck0 (fun a3 e3 h3 => ?_)
              refine jr_geti (pc := 79) hX fX11_354 rfl dX11_size_79 h3 ?_
              exact jr_iret (pc := 82) hX dX11_size_82 rfl
            | 2, h1, h2 =>
              cases h1
              cases h2
              refine jr_ald0 (pc := 83) hX dX11_size_83 ?_
              refine jr_getr (pc := 84) hX fX11_39 rfl dX11_size_84 ht ?_
              refine jr_ck0 (fun a4 e4 h4 => ?_)
              refine jr_geti (pc := 87) hX fX11_337 rfl dX11_size_87 h4 ?_
              exact jr_iret (pc := 90) hX dX11_size_90 rfl
            | i + 3, h1, h2 => simp at h1
          · refine jr_ald0 (pc := 91) hX dX11_size_91 ?_
            refine jr_getr (pc := 92) hX fX11_32 rfl dX11_size_92 ht ?_
            refine jr_ck0 (fun a5 e5 h5 => ?_)
            refine jr_getr (pc := 95) hX fX11_112 rfl dX11_size_95 h5 ?_
            refine jr_ild1 (pc := 98) hX dX11_size_98 ?_
            refine jr_ck1 (fun a6 e6 h6 => ?_)
            refine jr_cV1i (pc := 99) hX lX11_357 (c_X10_count hX.F σ a6 h6 _) (jd_dd hD rfl) (Nat.le_of_ble_eq_true rfl) dX11_size_99 h6 (fun r7 σ7 p7 => ?_)
            exact jr_iret (pc := 102) hX dX11_size_102 rfl
        · refine jr_iconst (pc := 33) hX 0 rfl dX11_size_33 ?_
          exact jr_iret (pc := 34) hX dX11_size_34 rfl
      · refine jr_iconst (pc := 24) hX (-1) rfl dX11_size_24 ?_
        exact jr_iret (pc := 25) hX dX11_size_25 rfl
  · refine jr_ald0 (pc := 6) hX dX11_size_6 ?_
    refine jr_getr (pc := 7) hX fX11_10 rfl dX11_size_7 ht ?_
    refine jr_ck0 (fun a8 e8 h8 => ?_)
    refine jr_geti (pc := 10) hX fX11_101 rfl dX11_size_10 h8 ?_
    exact jr_iret (pc := 13) hX dX11_size_13 rfl
def m_X11_trouble (t : Nat) (σ : jd_Hp) : Option (Int32 × jd_Hp) :=
some ((σ.2.1 t 11), σ)
set_option maxHeartbeats 4000000 in
set_option maxRecDepth 20000 in
theorem c_X11_trouble {l : Launch} {s0 : State} {G : jd_G} (hF : jd_F s0 G) (σ : jd_Hp) (t : Nat) (ht : σ.1[t]? = some (11, 12)) : jd_M l s0 G yX11_trouble cX11_trouble 1 (some .int) 0 je_i [jd_v G (some t)] σ (m_X11_trouble t σ) := by
  refine jd_enter hF (by decide) (fun G => [some (jd_v G (some t))]) rfl (by simp [lv_args, jd_al, jd_v_cat, jd_cti, jd_ctl]) (by simp [lg_sl, jd_v_cat, jd_cti, jd_ctl]) (fun X hD hX => ?_)
  have hX : jd_C X RX11 "trouble" cX11_trouble 1 (some .int) := hX
  unfold m_X11_trouble
  refine jr_ald0 (pc := 0) hX dX11_trouble_0 ?_
  refine jr_geti (pc := 1) hX fX11_89 rfl dX11_trouble_1 ht ?_
  exact jr_iret (pc := 4) hX dX11_trouble_4 rfl
