theorem lX0_3 : jd_oi RX0 3 := ⟨jd_mem 398 (by decide +kernel) (by decide +kernel), jd_mem 122 (by decide +kernel) (by decide +kernel), jd_mem 123 (by decide +kernel) (by decide +kernel)⟩
theorem aC_int : Cond.arrayClass .int ∈ jd_TB := jd_mem 197 (by decide +kernel) (by decide +kernel)
theorem fX0_9 : jd_fl RX0 9 0 0 4 true := ⟨_, _, rfl, by decide, by decide, rfl, rfl, jd_mem 399 (by decide +kernel) (by decide +kernel)⟩
theorem fX0_15 : jd_fl RX0 15 0 1 4 true := ⟨_, _, rfl, by decide, by decide, rfl, rfl, jd_mem 401 (by decide +kernel) (by decide +kernel)⟩
theorem fX0_18 : jd_fl RX0 18 0 2 4 false := ⟨_, _, rfl, by decide, by decide, rfl, rfl, jd_mem 402 (by decide +kernel) (by decide +kernel)⟩
theorem fX0_22 : jd_fl RX0 22 0 3 4 false := ⟨_, _, rfl, by decide, by decide, rfl, rfl, jd_mem 404 (by decide +kernel) (by decide +kernel)⟩
theorem kJ6_265 : Cond.constant RJ6 265 1431655765 ∈ jd_TB := jd_mem 723 (by decide +kernel) (by decide +kernel)
theorem kJ6_266 : Cond.constant RJ6 266 858993459 ∈ jd_TB := jd_mem 724 (by decide +kernel) (by decide +kernel)
theorem kJ6_267 : Cond.constant RJ6 267 252645135 ∈ jd_TB := jd_mem 725 (by decide +kernel) (by decide +kernel)
theorem fX6_38 : jd_fl RX6 38 6 6 8 false := ⟨_, _, rfl, by decide, by decide, rfl, rfl, jd_mem 342 (by decide +kernel) (by decide +kernel)⟩
theorem qX11_has : Cond.static yX11_has ∈ jd_TB ∧ Cond.initialized yX11_has.cls ∈ jd_TB ∧ Cond.code yX11_has cX11_has 2 (some .boolean) ∈ jd_TB ∧ jd_ds yX11_has 2 := ⟨jd_mem 690 (by decide +kernel) (by decide +kernel), jd_mem 92 (by decide +kernel) (by decide +kernel), jd_mem 691 (by decide +kernel) (by decide +kernel), ⟨by decide, by decide, by decide +kernel⟩⟩
theorem lX6_65 : jd_st RX6 65 yX11_has cX11_has 2 (some .boolean) 2 := ⟨Or.inr ⟨"ShoreGuards", List.mem_of_getElem? (i := 719) (by decide +kernel)⟩, qX11_has.1, qX11_has.2.1, qX11_has.2.2.1, qX11_has.2.2.2, by decide⟩
theorem fX6_34 : jd_fl RX6 34 6 5 8 false := ⟨_, _, rfl, by decide, by decide, rfl, rfl, jd_mem 337 (by decide +kernel) (by decide +kernel)⟩
theorem fX6_121 : jd_fl RX6 121 10 6 16 true := ⟨_, _, rfl, by decide, by decide, rfl, rfl, jd_mem 261 (by decide +kernel) (by decide +kernel)⟩
theorem fX6_12 : jd_fl RX6 12 6 0 8 true := ⟨_, _, rfl, by decide, by decide, rfl, rfl, jd_mem 326 (by decide +kernel) (by decide +kernel)⟩
theorem fX6_55 : jd_fl RX6 55 4 0 4 true := ⟨_, _, rfl, by decide, by decide, rfl, rfl, jd_mem 212 (by decide +kernel) (by decide +kernel)⟩
theorem lX6_89 : jd_ms RX6 89 Lib.Math.abs.name Lib.Math.abs.code 1 := ⟨jd_mem 716 (by decide +kernel) (by decide +kernel), jd_mem 717 (by decide +kernel) (by decide +kernel), jd_mem 105 (by decide +kernel) (by decide +kernel), jd_mem 718 (by decide +kernel) (by decide +kernel)⟩
theorem fX6_124 : jd_fl RX6 124 10 7 16 true := ⟨_, _, rfl, by decide, by decide, rfl, rfl, jd_mem 264 (by decide +kernel) (by decide +kernel)⟩
theorem qX0_take : Cond.instanceMethod yX0_take ∈ jd_TB ∧ Cond.selects RX0 yX0_take yX0_take ∈ jd_TB ∧ Cond.initialized RX0 ∈ jd_TB ∧ Cond.code yX0_take cX0_take 4 none ∈ jd_TB ∧ jd_ds yX0_take 2 := ⟨jd_mem 920 (by decide +kernel) (by decide +kernel), jd_mem 25 (by decide +kernel) (by decide +kernel), jd_mem 99 (by decide +kernel) (by decide +kernel), jd_mem 921 (by decide +kernel) (by decide +kernel), ⟨by decide, by decide, by decide +kernel⟩⟩
theorem lX0_40 : jd_mv RX0 40 0 4 yX0_take cX0_take 4 none 2 := ⟨_, _, rfl, by decide, rfl, Or.inl (jd_mem 918 (by decide +kernel) (by decide +kernel)), qX0_take.1, qX0_take.2.1, qX0_take.2.2.1, qX0_take.2.2.2.1, qX0_take.2.2.2.2, by decide⟩
theorem fX0_44 : jd_fl RX0 44 6 6 8 false := ⟨_, _, rfl, by decide, by decide, rfl, rfl, jd_mem 343 (by decide +kernel) (by decide +kernel)⟩
theorem qJ6_bitCount_0f7a4 : Cond.static yJ6_bitCount_0f7a4 ∈ jd_TB ∧ Cond.initialized yJ6_bitCount_0f7a4.cls ∈ jd_TB ∧ Cond.code yJ6_bitCount_0f7a4 cJ6_bitCount_0f7a4 1 (some .int) ∈ jd_TB ∧ jd_ds yJ6_bitCount_0f7a4 1 := ⟨jd_mem 721 (by decide +kernel) (by decide +kernel), jd_mem 110 (by decide +kernel) (by decide +kernel), jd_mem 722 (by decide +kernel) (by decide +kernel), ⟨by decide, by decide, by decide +kernel⟩⟩
theorem lX0_47 : jd_st RX0 47 yJ6_bitCount_0f7a4 cJ6_bitCount_0f7a4 1 (some .int) 1 := ⟨Or.inl (jd_mem 922 (by decide +kernel) (by decide +kernel)), qJ6_bitCount_0f7a4.1, qJ6_bitCount_0f7a4.2.1, qJ6_bitCount_0f7a4.2.2.1, qJ6_bitCount_0f7a4.2.2.2, by decide⟩
theorem fX0_53 : jd_fl RX0 53 6 5 8 false := ⟨_, _, rfl, by decide, by decide, rfl, rfl, jd_mem 340 (by decide +kernel) (by decide +kernel)⟩
theorem fX0_57 : jd_fl RX0 57 10 11 16 false := ⟨_, _, rfl, by decide, by decide, rfl, rfl, jd_mem 280 (by decide +kernel) (by decide +kernel)⟩
theorem qX6_sinks : Cond.instanceMethod yX6_sinks ∈ jd_TB ∧ Cond.selects RX6 yX6_sinks yX6_sinks ∈ jd_TB ∧ Cond.initialized RX6 ∈ jd_TB ∧ Cond.code yX6_sinks cX6_sinks 2 (some .boolean) ∈ jd_TB ∧ jd_ds yX6_sinks 1 := ⟨jd_mem 785 (by decide +kernel) (by decide +kernel), jd_mem 786 (by decide +kernel) (by decide +kernel), jd_mem 95 (by decide +kernel) (by decide +kernel), jd_mem 787 (by decide +kernel) (by decide +kernel), ⟨by decide, by decide, by decide +kernel⟩⟩
theorem lX0_62 : jd_mv RX0 62 6 8 yX6_sinks cX6_sinks 2 (some .boolean) 1 := ⟨_, _, rfl, by decide, rfl, Or.inl (jd_mem 923 (by decide +kernel) (by decide +kernel)), qX6_sinks.1, qX6_sinks.2.1, qX6_sinks.2.2.1, qX6_sinks.2.2.2.1, qX6_sinks.2.2.2.2, by decide⟩
theorem lX0_66 : jd_st RX0 66 yX11_has cX11_has 2 (some .boolean) 2 := ⟨Or.inr ⟨"ShoreGuards", List.mem_of_getElem? (i := 924) (by decide +kernel)⟩, qX11_has.1, qX11_has.2.1, qX11_has.2.2.1, qX11_has.2.2.2, by decide⟩
theorem qX6_timeTo : Cond.instanceMethod yX6_timeTo ∈ jd_TB ∧ Cond.selects RX6 yX6_timeTo yX6_timeTo ∈ jd_TB ∧ Cond.initialized RX6 ∈ jd_TB ∧ Cond.code yX6_timeTo cX6_timeTo 3 (some .int) ∈ jd_TB ∧ jd_ds yX6_timeTo 2 := ⟨jd_mem 738 (by decide +kernel) (by decide +kernel), jd_mem 739 (by decide +kernel) (by decide +kernel), jd_mem 95 (by decide +kernel) (by decide +kernel), jd_mem 740 (by decide +kernel) (by decide +kernel), ⟨by decide, by decide, by decide +kernel⟩⟩
theorem lX0_70 : jd_mv RX0 70 6 8 yX6_timeTo cX6_timeTo 3 (some .int) 2 := ⟨_, _, rfl, by decide, rfl, Or.inl (jd_mem 925 (by decide +kernel) (by decide +kernel)), qX6_timeTo.1, qX6_timeTo.2.1, qX6_timeTo.2.2.1, qX6_timeTo.2.2.2.1, qX6_timeTo.2.2.2.2, by decide⟩
theorem fX0_74 : jd_fl RX0 74 6 2 8 true := ⟨_, _, rfl, by decide, by decide, rfl, rfl, jd_mem 333 (by decide +kernel) (by decide +kernel)⟩
theorem lX0_77 : jd_ms RX0 77 Lib.Math.max.name Lib.Math.max.code 2 := ⟨jd_mem 926 (by decide +kernel) (by decide +kernel), jd_mem 731 (by decide +kernel) (by decide +kernel), jd_mem 105 (by decide +kernel) (by decide +kernel), jd_mem 732 (by decide +kernel) (by decide +kernel)⟩
theorem fX0_82 : jd_fl RX0 82 10 8 16 false := ⟨_, _, rfl, by decide, by decide, rfl, rfl, jd_mem 266 (by decide +kernel) (by decide +kernel)⟩
theorem qX0_extend : Cond.static yX0_extend ∈ jd_TB ∧ Cond.initialized yX0_extend.cls ∈ jd_TB ∧ Cond.code yX0_extend cX0_extend 10 none ∈ jd_TB ∧ jd_ds yX0_extend 6 := ⟨jd_mem 916 (by decide +kernel) (by decide +kernel), jd_mem 99 (by decide +kernel) (by decide +kernel), jd_mem 917 (by decide +kernel) (by decide +kernel), ⟨by decide, by decide, by decide +kernel⟩⟩
theorem lX0_36 : jd_st RX0 36 yX0_extend cX0_extend 10 none 6 := ⟨Or.inl (jd_mem 915 (by decide +kernel) (by decide +kernel)), qX0_extend.1, qX0_extend.2.1, qX0_extend.2.2.1, qX0_extend.2.2.2, by decide⟩
theorem fX0_25 : jd_fl RX0 25 6 0 8 true := ⟨_, _, rfl, by decide, by decide, rfl, rfl, jd_mem 327 (by decide +kernel) (by decide +kernel)⟩
theorem fX0_31 : jd_fl RX0 31 4 3 4 false := ⟨_, _, rfl, by decide, by decide, rfl, rfl, jd_mem 222 (by decide +kernel) (by decide +kernel)⟩
theorem lX1_3 : jd_oi RX1 3 := ⟨jd_mem 460 (by decide +kernel) (by decide +kernel), jd_mem 122 (by decide +kernel) (by decide +kernel), jd_mem 123 (by decide +kernel) (by decide +kernel)⟩
theorem aC_long : Cond.arrayClass .long ∈ jd_TB := jd_mem 454 (by decide +kernel) (by decide +kernel)
theorem fX1_9 : jd_fl RX1 9 1 0 2 true := ⟨_, _, rfl, by decide, by decide, rfl, rfl, jd_mem 461 (by decide +kernel) (by decide +kernel)⟩
theorem fX1_15 : jd_fl RX1 15 1 1 2 false := ⟨_, _, rfl, by decide, by decide, rfl, rfl, jd_mem 462 (by decide +kernel) (by decide +kernel)⟩
theorem lX1_46 : jd_mv RX1 46 6 8 yX6_sinks cX6_sinks 2 (some .boolean) 1 := ⟨_, _, rfl, by decide, rfl, Or.inl (jd_mem 1085 (by decide +kernel) (by decide +kernel)), qX6_sinks.1, qX6_sinks.2.1, qX6_sinks.2.2.1, qX6_sinks.2.2.2.1, qX6_sinks.2.2.2.2, by decide⟩
theorem fX1_71 : jd_fl RX1 71 6 7 8 false := ⟨_, _, rfl, by decide, by decide, rfl, rfl, jd_mem 347 (by decide +kernel) (by decide +kernel)⟩
theorem lX1_54 : jd_st RX1 54 yX11_has cX11_has 2 (some .boolean) 2 := ⟨Or.inr ⟨"ShoreGuards", List.mem_of_getElem? (i := 1086) (by decide +kernel)⟩, qX11_has.1, qX11_has.2.1, qX11_has.2.2.1, qX11_has.2.2.2, by decide⟩
theorem dX0_init_0 : decode cX0_init 0 = .ok (.aload_n 0, 1) := by decide +kernel
theorem dX0_init_1 : decode cX0_init 1 = .ok (.invokespecial 3, 3) := by decide +kernel
theorem dX0_init_4 : decode cX0_init 4 = .ok (.aload_n 0, 1) := by decide +kernel
theorem dX0_init_5 : decode cX0_init 5 = .ok (.bipush 6, 2) := by decide +kernel
theorem dX0_init_7 : decode cX0_init 7 = .ok (.newarray .int, 2) := by decide +kernel
theorem dX0_init_9 : decode cX0_init 9 = .ok (.putfield 9, 3) := by decide +kernel
theorem dX0_init_12 : decode cX0_init 12 = .ok (.aload_n 0, 1) := by decide +kernel
theorem dX0_init_13 : decode cX0_init 13 = .ok (.bipush 6, 2) := by decide +kernel
theorem dX0_init_15 : decode cX0_init 15 = .ok (.newarray .int, 2) := by decide +kernel
theorem dX0_init_17 : decode cX0_init 17 = .ok (.putfield 15, 3) := by decide +kernel
theorem dX0_init_20 : decode cX0_init 20 = .ok (.aload_n 0, 1) := by decide +kernel
theorem dX0_init_21 : decode cX0_init 21 = .ok (.iconst 0, 1) := by decide +kernel
theorem dX0_init_22 : decode cX0_init 22 = .ok (.putfield 18, 3) := by decide +kernel
theorem dX0_init_25 : decode cX0_init 25 = .ok (.aload_n 0, 1) := by decide +kernel
theorem dX0_init_26 : decode cX0_init 26 = .ok (.iconst 0, 1) := by decide +kernel
theorem dX0_init_27 : decode cX0_init 27 = .ok (.putfield 22, 3) := by decide +kernel
theorem dX0_init_30 : decode cX0_init 30 = .ok (.return_, 1) := by decide +kernel
theorem dX0_take_0 : decode cX0_take 0 = .ok (.iconst 0, 1) := by decide +kernel
theorem dX0_take_1 : decode cX0_take 1 = .ok (.istore_n 3, 1) := by decide +kernel
theorem dX0_take_2 : decode cX0_take 2 = .ok (.iload_n 3, 1) := by decide +kernel
theorem dX0_take_3 : decode cX0_take 3 = .ok (.iload_n 1, 1) := by decide +kernel
theorem dX0_take_4 : decode cX0_take 4 = .ok (.if_icmp .ge 27, 3) := by decide +kernel
theorem dX0_take_7 : decode cX0_take 7 = .ok (.iload_n 3, 1) := by decide +kernel
theorem dX0_take_8 : decode cX0_take 8 = .ok (.bipush 6, 2) := by decide +kernel
theorem dX0_take_10 : decode cX0_take 10 = .ok (.if_icmp .ge 21, 3) := by decide +kernel
theorem dX0_take_13 : decode cX0_take 13 = .ok (.aload_n 0, 1) := by decide +kernel
theorem dX0_take_14 : decode cX0_take 14 = .ok (.getfield 9, 3) := by decide +kernel
theorem dX0_take_17 : decode cX0_take 17 = .ok (.iload_n 3, 1) := by decide +kernel
theorem dX0_take_18 : decode cX0_take 18 = .ok (.aload_n 0, 1) := by decide +kernel
theorem dX0_take_19 : decode cX0_take 19 = .ok (.getfield 15, 3) := by decide +kernel
theorem dX0_take_22 : decode cX0_take 22 = .ok (.iload_n 3, 1) := by decide +kernel
theorem dX0_take_23 : decode cX0_take 23 = .ok (.iaload, 1) := by decide +kernel
theorem dX0_take_24 : decode cX0_take 24 = .ok (.iastore, 1) := by decide +kernel
theorem dX0_take_25 : decode cX0_take 25 = .ok (.iinc 3 1, 3) := by decide +kernel
theorem dX0_take_28 : decode cX0_take 28 = .ok (.goto (-26), 3) := by decide +kernel
theorem dX0_take_31 : decode cX0_take 31 = .ok (.aload_n 0, 1) := by decide +kernel
theorem dX0_take_32 : decode cX0_take 32 = .ok (.iload_n 1, 1) := by decide +kernel
theorem dX0_take_33 : decode cX0_take 33 = .ok (.putfield 18, 3) := by decide +kernel
theorem dX0_take_36 : decode cX0_take 36 = .ok (.aload_n 0, 1) := by decide +kernel
theorem dX0_take_37 : decode cX0_take 37 = .ok (.iload_n 2, 1) := by decide +kernel
theorem dX0_take_38 : decode cX0_take 38 = .ok (.putfield 22, 3) := by decide +kernel
theorem dX0_take_41 : decode cX0_take 41 = .ok (.return_, 1) := by decide +kernel
theorem dJ6_bitCount_0f7a4_0 : decode cJ6_bitCount_0f7a4 0 = .ok (.iload_n 0, 1) := by decide +kernel
theorem dJ6_bitCount_0f7a4_1 : decode cJ6_bitCount_0f7a4 1 = .ok (.iload_n 0, 1) := by decide +kernel
theorem dJ6_bitCount_0f7a4_2 : decode cJ6_bitCount_0f7a4 2 = .ok (.iconst 1, 1) := by decide +kernel
theorem dJ6_bitCount_0f7a4_3 : decode cJ6_bitCount_0f7a4 3 = .ok (.iushr, 1) := by decide +kernel
theorem dJ6_bitCount_0f7a4_4 : decode cJ6_bitCount_0f7a4 4 = .ok (.ldc_w 265, 3) := by decide +kernel
theorem dJ6_bitCount_0f7a4_7 : decode cJ6_bitCount_0f7a4 7 = .ok (.iand, 1) := by decide +kernel
theorem dJ6_bitCount_0f7a4_8 : decode cJ6_bitCount_0f7a4 8 = .ok (.isub, 1) := by decide +kernel
theorem dJ6_bitCount_0f7a4_9 : decode cJ6_bitCount_0f7a4 9 = .ok (.istore_n 0, 1) := by decide +kernel
theorem dJ6_bitCount_0f7a4_10 : decode cJ6_bitCount_0f7a4 10 = .ok (.iload_n 0, 1) := by decide +kernel
theorem dJ6_bitCount_0f7a4_11 : decode cJ6_bitCount_0f7a4 11 = .ok (.ldc_w 266, 3) := by decide +kernel
theorem dJ6_bitCount_0f7a4_14 : decode cJ6_bitCount_0f7a4 14 = .ok (.iand, 1) := by decide +kernel
theorem dJ6_bitCount_0f7a4_15 : decode cJ6_bitCount_0f7a4 15 = .ok (.iload_n 0, 1) := by decide +kernel
theorem dJ6_bitCount_0f7a4_16 : decode cJ6_bitCount_0f7a4 16 = .ok (.iconst 2, 1) := by decide +kernel
theorem dJ6_bitCount_0f7a4_17 : decode cJ6_bitCount_0f7a4 17 = .ok (.iushr, 1) := by decide +kernel
theorem dJ6_bitCount_0f7a4_18 : decode cJ6_bitCount_0f7a4 18 = .ok (.ldc_w 266, 3) := by decide +kernel
theorem dJ6_bitCount_0f7a4_21 : decode cJ6_bitCount_0f7a4 21 = .ok (.iand, 1) := by decide +kernel
theorem dJ6_bitCount_0f7a4_22 : decode cJ6_bitCount_0f7a4 22 = .ok (.iadd, 1) := by decide +kernel
theorem dJ6_bitCount_0f7a4_23 : decode cJ6_bitCount_0f7a4 23 = .ok (.istore_n 0, 1) := by decide +kernel
theorem dJ6_bitCount_0f7a4_24 : decode cJ6_bitCount_0f7a4 24 = .ok (.iload_n 0, 1) := by decide +kernel
theorem dJ6_bitCount_0f7a4_25 : decode cJ6_bitCount_0f7a4 25 = .ok (.iload_n 0, 1) := by decide +kernel
theorem dJ6_bitCount_0f7a4_26 : decode cJ6_bitCount_0f7a4 26 = .ok (.iconst 4, 1) := by decide +kernel
theorem dJ6_bitCount_0f7a4_27 : decode cJ6_bitCount_0f7a4 27 = .ok (.iushr, 1) := by decide +kernel
theorem dJ6_bitCount_0f7a4_28 : decode cJ6_bitCount_0f7a4 28 = .ok (.iadd, 1) := by decide +kernel
theorem dJ6_bitCount_0f7a4_29 : decode cJ6_bitCount_0f7a4 29 = .ok (.ldc_w 267, 3) := by decide +kernel
theorem dJ6_bitCount_0f7a4_32 : decode cJ6_bitCount_0f7a4 32 = .ok (.iand, 1) := by decide +kernel
theorem dJ6_bitCount_0f7a4_33 : decode cJ6_bitCount_0f7a4 33 = .ok (.istore_n 0, 1) := by decide +kernel
theorem dJ6_bitCount_0f7a4_34 : decode cJ6_bitCount_0f7a4 34 = .ok (.iload_n 0, 1) := by decide +kernel
theorem dJ6_bitCount_0f7a4_35 : decode cJ6_bitCount_0f7a4 35 = .ok (.iload_n 0, 1) := by decide +kernel
theorem dJ6_bitCount_0f7a4_36 : decode cJ6_bitCount_0f7a4 36 = .ok (.bipush 8, 2) := by decide +kernel
theorem dJ6_bitCount_0f7a4_38 : decode cJ6_bitCount_0f7a4 38 = .ok (.iushr, 1) := by decide +kernel
theorem dJ6_bitCount_0f7a4_39 : decode cJ6_bitCount_0f7a4 39 = .ok (.iadd, 1) := by decide +kernel
theorem dJ6_bitCount_0f7a4_40 : decode cJ6_bitCount_0f7a4 40 = .ok (.istore_n 0, 1) := by decide +kernel
theorem dJ6_bitCount_0f7a4_41 : decode cJ6_bitCount_0f7a4 41 = .ok (.iload_n 0, 1) := by decide +kernel
theorem dJ6_bitCount_0f7a4_42 : decode cJ6_bitCount_0f7a4 42 = .ok (.iload_n 0, 1) := by decide +kernel
theorem dJ6_bitCount_0f7a4_43 : decode cJ6_bitCount_0f7a4 43 = .ok (.bipush 16, 2) := by decide +kernel
theorem dJ6_bitCount_0f7a4_45 : decode cJ6_bitCount_0f7a4 45 = .ok (.iushr, 1) := by decide +kernel
theorem dJ6_bitCount_0f7a4_46 : decode cJ6_bitCount_0f7a4 46 = .ok (.iadd, 1) := by decide +kernel
theorem dJ6_bitCount_0f7a4_47 : decode cJ6_bitCount_0f7a4 47 = .ok (.istore_n 0, 1) := by decide +kernel
theorem dJ6_bitCount_0f7a4_48 : decode cJ6_bitCount_0f7a4 48 = .ok (.iload_n 0, 1) := by decide +kernel
theorem dJ6_bitCount_0f7a4_49 : decode cJ6_bitCount_0f7a4 49 = .ok (.bipush 63, 2) := by decide +kernel
theorem dJ6_bitCount_0f7a4_51 : decode cJ6_bitCount_0f7a4 51 = .ok (.iand, 1) := by decide +kernel
theorem dJ6_bitCount_0f7a4_52 : decode cJ6_bitCount_0f7a4 52 = .ok (.ireturn, 1) := by decide +kernel
theorem dX11_has_0 : decode cX11_has 0 = .ok (.iload_n 0, 1) := by decide +kernel
theorem dX11_has_1 : decode cX11_has 1 = .ok (.iload_n 1, 1) := by decide +kernel
theorem dX11_has_2 : decode cX11_has 2 = .ok (.ishr, 1) := by decide +kernel
theorem dX11_has_3 : decode cX11_has 3 = .ok (.iconst 1, 1) := by decide +kernel
theorem dX11_has_4 : decode cX11_has 4 = .ok (.iand, 1) := by decide +kernel
theorem dX11_has_5 : decode cX11_has 5 = .ok (.ifCond .eq 7, 3) := by decide +kernel
theorem dX11_has_8 : decode cX11_has 8 = .ok (.iconst 1, 1) := by decide +kernel
theorem dX11_has_9 : decode cX11_has 9 = .ok (.goto 4, 3) := by decide +kernel
theorem dX11_has_12 : decode cX11_has 12 = .ok (.iconst 0, 1) := by decide +kernel
theorem dX11_has_13 : decode cX11_has 13 = .ok (.ireturn, 1) := by decide +kernel
theorem dX6_sinks_0 : decode cX6_sinks 0 = .ok (.aload_n 0, 1) := by decide +kernel
theorem dX6_sinks_1 : decode cX6_sinks 1 = .ok (.getfield 38, 3) := by decide +kernel
theorem dX6_sinks_4 : decode cX6_sinks 4 = .ok (.iload_n 1, 1) := by decide +kernel
theorem dX6_sinks_5 : decode cX6_sinks 5 = .ok (.invokestatic 65, 3) := by decide +kernel
theorem dX6_sinks_8 : decode cX6_sinks 8 = .ok (.ireturn, 1) := by decide +kernel
theorem dX6_timeTo_0 : decode cX6_timeTo 0 = .ok (.aload_n 0, 1) := by decide +kernel
theorem dX6_timeTo_1 : decode cX6_timeTo 1 = .ok (.getfield 34, 3) := by decide +kernel
theorem dX6_timeTo_4 : decode cX6_timeTo 4 = .ok (.getfield 121, 3) := by decide +kernel
theorem dX6_timeTo_7 : decode cX6_timeTo 7 = .ok (.iload_n 1, 1) := by decide +kernel
theorem dX6_timeTo_8 : decode cX6_timeTo 8 = .ok (.iaload, 1) := by decide +kernel
theorem dX6_timeTo_9 : decode cX6_timeTo 9 = .ok (.aload_n 0, 1) := by decide +kernel
theorem dX6_timeTo_10 : decode cX6_timeTo 10 = .ok (.getfield 12, 3) := by decide +kernel
theorem dX6_timeTo_13 : decode cX6_timeTo 13 = .ok (.getfield 55, 3) := by decide +kernel
theorem dX6_timeTo_16 : decode cX6_timeTo 16 = .ok (.iload_n 2, 1) := by decide +kernel
theorem dX6_timeTo_17 : decode cX6_timeTo 17 = .ok (.iaload, 1) := by decide +kernel
theorem dX6_timeTo_18 : decode cX6_timeTo 18 = .ok (.isub, 1) := by decide +kernel
theorem dX6_timeTo_19 : decode cX6_timeTo 19 = .ok (.invokestatic 89, 3) := by decide +kernel
theorem dX6_timeTo_22 : decode cX6_timeTo 22 = .ok (.aload_n 0, 1) := by decide +kernel
theorem dX6_timeTo_23 : decode cX6_timeTo 23 = .ok (.getfield 34, 3) := by decide +kernel
theorem dX6_timeTo_26 : decode cX6_timeTo 26 = .ok (.getfield 124, 3) := by decide +kernel
theorem dX6_timeTo_29 : decode cX6_timeTo 29 = .ok (.iload_n 1, 1) := by decide +kernel
theorem dX6_timeTo_30 : decode cX6_timeTo 30 = .ok (.iaload, 1) := by decide +kernel
theorem dX6_timeTo_31 : decode cX6_timeTo 31 = .ok (.iadd, 1) := by decide +kernel
theorem dX6_timeTo_32 : decode cX6_timeTo 32 = .ok (.ireturn, 1) := by decide +kernel
theorem dX0_extend_0 : decode cX0_extend 0 = .ok (.iload_n 3, 1) := by decide +kernel
theorem dX0_extend_1 : decode cX0_extend 1 = .ok (.aload_n 0, 1) := by decide +kernel
theorem dX0_extend_2 : decode cX0_extend 2 = .ok (.getfield 18, 3) := by decide +kernel
theorem dX0_extend_5 : decode cX0_extend 5 = .ok (.if_icmp .le 10, 3) := by decide +kernel
theorem dX0_extend_8 : decode cX0_extend 8 = .ok (.aload_n 0, 1) := by decide +kernel
theorem dX0_extend_9 : decode cX0_extend 9 = .ok (.iload_n 3, 1) := by decide +kernel
theorem dX0_extend_10 : decode cX0_extend 10 = .ok (.iload 5, 2) := by decide +kernel
theorem dX0_extend_12 : decode cX0_extend 12 = .ok (.invokevirtual 40, 3) := by decide +kernel
theorem dX0_extend_15 : decode cX0_extend 15 = .ok (.aload_n 1, 1) := by decide +kernel
theorem dX0_extend_16 : decode cX0_extend 16 = .ok (.getfield 44, 3) := by decide +kernel
theorem dX0_extend_19 : decode cX0_extend 19 = .ok (.iload 4, 2) := by decide +kernel
theorem dX0_extend_21 : decode cX0_extend 21 = .ok (.iconst (-1), 1) := by decide +kernel
theorem dX0_extend_22 : decode cX0_extend 22 = .ok (.ixor, 1) := by decide +kernel
theorem dX0_extend_23 : decode cX0_extend 23 = .ok (.iand, 1) := by decide +kernel
theorem dX0_extend_24 : decode cX0_extend 24 = .ok (.invokestatic 47, 3) := by decide +kernel
theorem dX0_extend_27 : decode cX0_extend 27 = .ok (.istore 6, 2) := by decide +kernel
theorem dX0_extend_29 : decode cX0_extend 29 = .ok (.iload_n 3, 1) := by decide +kernel
theorem dX0_extend_30 : decode cX0_extend 30 = .ok (.bipush 6, 2) := by decide +kernel
theorem dX0_extend_32 : decode cX0_extend 32 = .ok (.if_icmp .ge 14, 3) := by decide +kernel
theorem dX0_extend_35 : decode cX0_extend 35 = .ok (.iload_n 3, 1) := by decide +kernel
theorem dX0_extend_36 : decode cX0_extend 36 = .ok (.iload 6, 2) := by decide +kernel
theorem dX0_extend_38 : decode cX0_extend 38 = .ok (.iadd, 1) := by decide +kernel
theorem dX0_extend_39 : decode cX0_extend 39 = .ok (.aload_n 0, 1) := by decide +kernel
theorem dX0_extend_40 : decode cX0_extend 40 = .ok (.getfield 18, 3) := by decide +kernel
theorem dX0_extend_43 : decode cX0_extend 43 = .ok (.if_icmp .gt 4, 3) := by decide +kernel
theorem dX0_extend_46 : decode cX0_extend 46 = .ok (.return_, 1) := by decide +kernel
theorem dX0_extend_47 : decode cX0_extend 47 = .ok (.iconst 0, 1) := by decide +kernel
theorem dX0_extend_48 : decode cX0_extend 48 = .ok (.istore 7, 2) := by decide +kernel
theorem dX0_extend_50 : decode cX0_extend 50 = .ok (.iload 7, 2) := by decide +kernel
theorem dX0_extend_52 : decode cX0_extend 52 = .ok (.aload_n 1, 1) := by decide +kernel
theorem dX0_extend_53 : decode cX0_extend 53 = .ok (.getfield 53, 3) := by decide +kernel
theorem dX0_extend_56 : decode cX0_extend 56 = .ok (.getfield 57, 3) := by decide +kernel
theorem dX0_extend_59 : decode cX0_extend 59 = .ok (.if_icmp .ge 103, 3) := by decide +kernel
theorem dX0_extend_62 : decode cX0_extend 62 = .ok (.aload_n 1, 1) := by decide +kernel
theorem dX0_extend_63 : decode cX0_extend 63 = .ok (.iload 7, 2) := by decide +kernel
theorem dX0_extend_65 : decode cX0_extend 65 = .ok (.invokevirtual 62, 3) := by decide +kernel
theorem dX0_extend_68 : decode cX0_extend 68 = .ok (.ifCond .eq 88, 3) := by decide +kernel
theorem dX0_extend_71 : decode cX0_extend 71 = .ok (.iload 4, 2) := by decide +kernel
theorem dX0_extend_73 : decode cX0_extend 73 = .ok (.iload 7, 2) := by decide +kernel
theorem dX0_extend_75 : decode cX0_extend 75 = .ok (.invokestatic 66, 3) := by decide +kernel
theorem dX0_extend_78 : decode cX0_extend 78 = .ok (.ifCond .ne 78, 3) := by decide +kernel
theorem dX0_extend_81 : decode cX0_extend 81 = .ok (.aload_n 1, 1) := by decide +kernel
theorem dX0_extend_82 : decode cX0_extend 82 = .ok (.iload_n 2, 1) := by decide +kernel
theorem dX0_extend_83 : decode cX0_extend 83 = .ok (.iload 7, 2) := by decide +kernel
theorem dX0_extend_85 : decode cX0_extend 85 = .ok (.invokevirtual 70, 3) := by decide +kernel
theorem dX0_extend_88 : decode cX0_extend 88 = .ok (.istore 8, 2) := by decide +kernel
theorem dX0_extend_90 : decode cX0_extend 90 = .ok (.iload 5, 2) := by decide +kernel
theorem dX0_extend_92 : decode cX0_extend 92 = .ok (.aload_n 1, 1) := by decide +kernel
theorem dX0_extend_93 : decode cX0_extend 93 = .ok (.getfield 74, 3) := by decide +kernel
theorem dX0_extend_96 : decode cX0_extend 96 = .ok (.iload 7, 2) := by decide +kernel
theorem dX0_extend_98 : decode cX0_extend 98 = .ok (.iaload, 1) := by decide +kernel
theorem dX0_extend_99 : decode cX0_extend 99 = .ok (.invokestatic 77, 3) := by decide +kernel
theorem dX0_extend_102 : decode cX0_extend 102 = .ok (.iload 8, 2) := by decide +kernel
theorem dX0_extend_104 : decode cX0_extend 104 = .ok (.iadd, 1) := by decide +kernel
theorem dX0_extend_105 : decode cX0_extend 105 = .ok (.istore 9, 2) := by decide +kernel
theorem dX0_extend_107 : decode cX0_extend 107 = .ok (.iload 9, 2) := by decide +kernel
theorem dX0_extend_109 : decode cX0_extend 109 = .ok (.aload_n 1, 1) := by decide +kernel
theorem dX0_extend_110 : decode cX0_extend 110 = .ok (.getfield 74, 3) := by decide +kernel
theorem dX0_extend_113 : decode cX0_extend 113 = .ok (.iload 7, 2) := by decide +kernel
theorem dX0_extend_115 : decode cX0_extend 115 = .ok (.iaload, 1) := by decide +kernel
theorem dX0_extend_116 : decode cX0_extend 116 = .ok (.aload_n 1, 1) := by decide +kernel
theorem dX0_extend_117 : decode cX0_extend 117 = .ok (.getfield 53, 3) := by decide +kernel
theorem dX0_extend_120 : decode cX0_extend 120 = .ok (.getfield 82, 3) := by decide +kernel
theorem dX0_extend_123 : decode cX0_extend 123 = .ok (.iadd, 1) := by decide +kernel
theorem dX0_extend_124 : decode cX0_extend 124 = .ok (.if_icmp .gt 32, 3) := by decide +kernel
theorem dX0_extend_127 : decode cX0_extend 127 = .ok (.aload_n 0, 1) := by decide +kernel
theorem dX0_extend_128 : decode cX0_extend 128 = .ok (.getfield 15, 3) := by decide +kernel
theorem dX0_extend_131 : decode cX0_extend 131 = .ok (.iload_n 3, 1) := by decide +kernel
theorem dX0_extend_132 : decode cX0_extend 132 = .ok (.iload 7, 2) := by decide +kernel
theorem dX0_extend_134 : decode cX0_extend 134 = .ok (.iastore, 1) := by decide +kernel
theorem dX0_extend_135 : decode cX0_extend 135 = .ok (.aload_n 0, 1) := by decide +kernel
theorem dX0_extend_136 : decode cX0_extend 136 = .ok (.aload_n 1, 1) := by decide +kernel
theorem dX0_extend_137 : decode cX0_extend 137 = .ok (.iload_n 2, 1) := by decide +kernel
theorem dX0_extend_138 : decode cX0_extend 138 = .ok (.iload_n 3, 1) := by decide +kernel
theorem dX0_extend_139 : decode cX0_extend 139 = .ok (.iconst 1, 1) := by decide +kernel
theorem dX0_extend_140 : decode cX0_extend 140 = .ok (.iadd, 1) := by decide +kernel
theorem dX0_extend_141 : decode cX0_extend 141 = .ok (.iload 4, 2) := by decide +kernel
theorem dX0_extend_143 : decode cX0_extend 143 = .ok (.iconst 1, 1) := by decide +kernel
theorem dX0_extend_144 : decode cX0_extend 144 = .ok (.iload 7, 2) := by decide +kernel
theorem dX0_extend_146 : decode cX0_extend 146 = .ok (.ishl, 1) := by decide +kernel
theorem dX0_extend_147 : decode cX0_extend 147 = .ok (.ior, 1) := by decide +kernel
theorem dX0_extend_148 : decode cX0_extend 148 = .ok (.iload 9, 2) := by decide +kernel
theorem dX0_extend_150 : decode cX0_extend 150 = .ok (.iload 8, 2) := by decide +kernel
theorem dX0_extend_152 : decode cX0_extend 152 = .ok (.iadd, 1) := by decide +kernel
theorem dX0_extend_153 : decode cX0_extend 153 = .ok (.invokestatic 36, 3) := by decide +kernel
theorem dX0_extend_156 : decode cX0_extend 156 = .ok (.iinc 7 1, 3) := by decide +kernel
theorem dX0_extend_159 : decode cX0_extend 159 = .ok (.goto (-109), 3) := by decide +kernel
theorem dX0_extend_162 : decode cX0_extend 162 = .ok (.return_, 1) := by decide +kernel
theorem dX0_search_0 : decode cX0_search 0 = .ok (.aload_n 0, 1) := by decide +kernel
theorem dX0_search_1 : decode cX0_search 1 = .ok (.iconst 0, 1) := by decide +kernel
theorem dX0_search_2 : decode cX0_search 2 = .ok (.putfield 18, 3) := by decide +kernel
theorem dX0_search_5 : decode cX0_search 5 = .ok (.aload_n 0, 1) := by decide +kernel
theorem dX0_search_6 : decode cX0_search 6 = .ok (.aload_n 1, 1) := by decide +kernel
theorem dX0_search_7 : decode cX0_search 7 = .ok (.getfield 25, 3) := by decide +kernel
theorem dX0_search_10 : decode cX0_search 10 = .ok (.getfield 31, 3) := by decide +kernel
theorem dX0_search_13 : decode cX0_search 13 = .ok (.putfield 22, 3) := by decide +kernel
theorem dX0_search_16 : decode cX0_search 16 = .ok (.aload_n 0, 1) := by decide +kernel
theorem dX0_search_17 : decode cX0_search 17 = .ok (.aload_n 1, 1) := by decide +kernel
theorem dX0_search_18 : decode cX0_search 18 = .ok (.iload_n 2, 1) := by decide +kernel
theorem dX0_search_19 : decode cX0_search 19 = .ok (.iconst 0, 1) := by decide +kernel
theorem dX0_search_20 : decode cX0_search 20 = .ok (.iconst 0, 1) := by decide +kernel
theorem dX0_search_21 : decode cX0_search 21 = .ok (.aload_n 1, 1) := by decide +kernel
theorem dX0_search_22 : decode cX0_search 22 = .ok (.getfield 25, 3) := by decide +kernel
theorem dX0_search_25 : decode cX0_search 25 = .ok (.getfield 31, 3) := by decide +kernel
theorem dX0_search_28 : decode cX0_search 28 = .ok (.invokestatic 36, 3) := by decide +kernel
theorem dX0_search_31 : decode cX0_search 31 = .ok (.return_, 1) := by decide +kernel
theorem dX1_init_0 : decode cX1_init 0 = .ok (.aload_n 0, 1) := by decide +kernel
theorem dX1_init_1 : decode cX1_init 1 = .ok (.invokespecial 3, 3) := by decide +kernel
theorem dX1_init_4 : decode cX1_init 4 = .ok (.aload_n 0, 1) := by decide +kernel
theorem dX1_init_5 : decode cX1_init 5 = .ok (.bipush 7, 2) := by decide +kernel
theorem dX1_init_7 : decode cX1_init 7 = .ok (.newarray .long, 2) := by decide +kernel
theorem dX1_init_9 : decode cX1_init 9 = .ok (.putfield 9, 3) := by decide +kernel
theorem dX1_init_12 : decode cX1_init 12 = .ok (.aload_n 0, 1) := by decide +kernel
theorem dX1_init_13 : decode cX1_init 13 = .ok (.iconst 0, 1) := by decide +kernel
theorem dX1_init_14 : decode cX1_init 14 = .ok (.putfield 15, 3) := by decide +kernel
theorem dX1_init_17 : decode cX1_init 17 = .ok (.return_, 1) := by decide +kernel
theorem dX1_isAtRisk_0 : decode cX1_isAtRisk 0 = .ok (.aload_n 0, 1) := by decide +kernel
theorem dX1_isAtRisk_1 : decode cX1_isAtRisk 1 = .ok (.iload_n 1, 1) := by decide +kernel
theorem dX1_isAtRisk_2 : decode cX1_isAtRisk 2 = .ok (.invokevirtual 46, 3) := by decide +kernel
theorem dX1_isAtRisk_5 : decode cX1_isAtRisk 5 = .ok (.ifCond .eq 18, 3) := by decide +kernel
theorem dX1_isAtRisk_8 : decode cX1_isAtRisk 8 = .ok (.aload_n 0, 1) := by decide +kernel
theorem dX1_isAtRisk_9 : decode cX1_isAtRisk 9 = .ok (.getfield 71, 3) := by decide +kernel
theorem dX1_isAtRisk_12 : decode cX1_isAtRisk 12 = .ok (.iload_n 1, 1) := by decide +kernel
theorem dX1_isAtRisk_13 : decode cX1_isAtRisk 13 = .ok (.invokestatic 54, 3) := by decide +kernel
theorem dX1_isAtRisk_16 : decode cX1_isAtRisk 16 = .ok (.ifCond .ne 7, 3) := by decide +kernel
theorem dX1_isAtRisk_19 : decode cX1_isAtRisk 19 = .ok (.iconst 1, 1) := by decide +kernel
theorem dX1_isAtRisk_20 : decode cX1_isAtRisk 20 = .ok (.goto 4, 3) := by decide +kernel
theorem dX1_isAtRisk_23 : decode cX1_isAtRisk 23 = .ok (.iconst 0, 1) := by decide +kernel
theorem dX1_isAtRisk_24 : decode cX1_isAtRisk 24 = .ok (.ireturn, 1) := by decide +kernel
theorem dX3_commonDivisor_0 : decode cX3_commonDivisor 0 = .ok (.lload_n 0, 1) := by decide +kernel
theorem dX3_commonDivisor_1 : decode cX3_commonDivisor 1 = .ok (.lstore 4, 2) := by decide +kernel
theorem dX3_commonDivisor_3 : decode cX3_commonDivisor 3 = .ok (.lload_n 2, 1) := by decide +kernel
theorem dX3_commonDivisor_4 : decode cX3_commonDivisor 4 = .ok (.lstore 6, 2) := by decide +kernel
theorem dX3_commonDivisor_6 : decode cX3_commonDivisor 6 = .ok (.iconst 0, 1) := by decide +kernel
theorem dX3_commonDivisor_7 : decode cX3_commonDivisor 7 = .ok (.istore 8, 2) := by decide +kernel
theorem dX3_commonDivisor_9 : decode cX3_commonDivisor 9 = .ok (.iload 8, 2) := by decide +kernel
theorem dX3_commonDivisor_11 : decode cX3_commonDivisor 11 = .ok (.sipush 200, 3) := by decide +kernel
theorem dX3_commonDivisor_14 : decode cX3_commonDivisor 14 = .ok (.if_icmp .ge 31, 3) := by decide +kernel
theorem dX3_commonDivisor_17 : decode cX3_commonDivisor 17 = .ok (.lload 6, 2) := by decide +kernel
theorem dX3_commonDivisor_19 : decode cX3_commonDivisor 19 = .ok (.lconst 0, 1) := by decide +kernel
theorem dX3_commonDivisor_20 : decode cX3_commonDivisor 20 = .ok (.lcmp, 1) := by decide +kernel
theorem dX3_commonDivisor_21 : decode cX3_commonDivisor 21 = .ok (.ifCond .eq 24, 3) := by decide +kernel
theorem dX3_commonDivisor_24 : decode cX3_commonDivisor 24 = .ok (.lload 4, 2) := by decide +kernel
theorem dX3_commonDivisor_26 : decode cX3_commonDivisor 26 = .ok (.lload 6, 2) := by decide +kernel
theorem dX3_commonDivisor_28 : decode cX3_commonDivisor 28 = .ok (.lrem, 1) := by decide +kernel
theorem dX3_commonDivisor_29 : decode cX3_commonDivisor 29 = .ok (.lstore 9, 2) := by decide +kernel
theorem dX3_commonDivisor_31 : decode cX3_commonDivisor 31 = .ok (.lload 6, 2) := by decide +kernel
theorem dX3_commonDivisor_33 : decode cX3_commonDivisor 33 = .ok (.lstore 4, 2) := by decide +kernel
theorem dX3_commonDivisor_35 : decode cX3_commonDivisor 35 = .ok (.lload 9, 2) := by decide +kernel
theorem dX3_commonDivisor_37 : decode cX3_commonDivisor 37 = .ok (.lstore 6, 2) := by decide +kernel
theorem dX3_commonDivisor_39 : decode cX3_commonDivisor 39 = .ok (.iinc 8 1, 3) := by decide +kernel
theorem dX3_commonDivisor_42 : decode cX3_commonDivisor 42 = .ok (.goto (-33), 3) := by decide +kernel
theorem dX3_commonDivisor_45 : decode cX3_commonDivisor 45 = .ok (.lload 4, 2) := by decide +kernel
theorem dX3_commonDivisor_47 : decode cX3_commonDivisor 47 = .ok (.lreturn, 1) := by decide +kernel
def m_X0_init (t : Nat) (σ : jd_Hp) : Option (Unit × jd_Hp) :=
jd_li (jd_new σ (20, 6)) fun τ1 =>
jd_li (jd_pr τ1 t 0 (some σ.1.length)) fun τ2 =>
jd_li (jd_new τ2 (20, 6)) fun τ3 =>
jd_li (jd_pr τ3 t 1 (some τ2.1.length)) fun τ4 =>
jd_li (jd_pi τ4 t 2 0) fun τ5 =>
jd_li (jd_pi τ5 t 3 0) fun τ6 =>
some ((), τ6)
set_option maxHeartbeats 4000000 in
set_option maxRecDepth 20000 in
theorem c_X0_init {l : Launch} {s0 : State} {G : jd_G} (hF : jd_F s0 G) (σ : jd_Hp) (t : Nat) (ht : σ.1[t]? = some (0, 4)) : jd_M l s0 G yX0_init cX0_init 1 none 1 je_v [jd_v G (some t)] σ (m_X0_init t σ) := by
  refine jd_enter hF (by decide) (fun G => [some (jd_v G (some t))]) rfl (by simp [lv_args, jd_al, jd_v_cat, jd_cti, jd_ctl]) (by simp [lg_sl, jd_v_cat, jd_cti, jd_ctl]) (fun X hD hX => ?_)
  have hX : jd_C X RX0 "<init>" cX0_init 1 none := hX
  unfold m_X0_init
  refine jr_ald0 (pc := 0) hX dX0_init_0 ?_
  refine jr_oinit (pc := 1) hX lX0_3 (jd_d1 hD rfl) (Nat.le_of_ble_eq_true rfl) dX0_init_1 ?_
  refine jr_ald0 (pc := 4) hX dX0_init_4 ?_
  refine jr_bipush (pc := 5) hX 6 rfl dX0_init_5 ?_
  refine jr_newai (pc := 7) hX 6 (by decide) (by decide) (by decide) aC_int dX0_init_7 ?_
  refine jr_li ?_
  refine jr_putrF (pc := 9) hX fX0_9 rfl ⟨_, _, rfl, rfl⟩ rfl dX0_init_9 ((jd_p.new σ (20, 6)).at ht :) ?_
  refine jr_li ?_
  refine jr_ald0 (pc := 12) hX dX0_init_12 ?_
  refine jr_bipush (pc := 13) hX 6 rfl dX0_init_13 ?_
  refine jr_newai (pc := 15) hX 6 (by decide) (by decide) (by decide) aC_int dX0_init_15 ?_
  refine jr_li ?_
  refine jr_putrF (pc := 17) hX fX0_15 rfl ⟨_, _, rfl, rfl⟩ rfl dX0_init_17 ((jd_p.new (jd_pr (jd_new σ (20, 6)) t 0 (some σ.1.length)) (20, 6)).at ((jd_p.new σ (20, 6)).at ht :) :) ?_
  refine jr_li ?_
  refine jr_ald0 (pc := 20) hX dX0_init_20 ?_
  refine jr_iconst (pc := 21) hX 0 rfl dX0_init_21 ?_
  refine jr_puti (pc := 22) hX fX0_18 rfl dX0_init_22 ((jd_p.new (jd_pr (jd_new σ (20, 6)) t 0 (some σ.1.length)) (20, 6)).at ((jd_p.new σ (20, 6)).at ht :) :) ?_
  refine jr_li ?_
  refine jr_ald0 (pc := 25) hX dX0_init_25 ?_
  refine jr_iconst (pc := 26) hX 0 rfl dX0_init_26 ?_
  refine jr_puti (pc := 27) hX fX0_22 rfl dX0_init_27 ((jd_p.new (jd_pr (jd_new σ (20, 6)) t 0 (some σ.1.length)) (20, 6)).at ((jd_p.new σ (20, 6)).at ht :) :) ?_
  refine jr_li ?_
  exact jr_vret (pc := 30) hX dX0_init_30 rfl
def m_X0_take (t : Nat) (x0p : Int32) (x1p : Int32) (σ : jd_Hp) : Option (Unit × jd_Hp) :=
jd_b (jd_lp (S := Int32) (T := Unit) (fun s1 σ1 =>
jd_if (x0p ≤ s1) (
some ((Sum.inr ()), σ1)) (
jd_if (6 ≤ s1) (
some ((Sum.inr ()), σ1)) (
jd_o σ1 (0, 4) (some t) fun a3 =>
jd_ia σ1 20 (σ1.2.2.2 a3 1) s1 fun a4 j4 =>
jd_ia σ1 20 (σ1.2.2.2 a3 0) s1 fun a5 j5 =>
jd_li (jd_pi σ1 a5 j5 (σ1.2.1 a4 j4)) fun τ6 =>
some (Sum.inl (s1 + 1), τ6)))) jd_fu 0 σ) fun t2 σ2 =>
jd_o σ2 (0, 4) (some t) fun a7 =>
jd_li (jd_pi σ2 a7 2 x0p) fun τ8 =>
jd_li (jd_pi τ8 a7 3 x1p) fun τ9 =>
some ((), τ9)
set_option maxHeartbeats 4000000 in
set_option maxRecDepth 20000 in
theorem c_X0_take {l : Launch} {s0 : State} {G : jd_G} (hF : jd_F s0 G) (σ : jd_Hp) (t : Nat) (ht : σ.1[t]? = some (0, 4)) (x0p : Int32) (x1p : Int32) : jd_M l s0 G yX0_take cX0_take 4 none 0 je_v [jd_v G (some t), .int x0p, .int x1p] σ (m_X0_take t x0p x1p σ) := by
  refine jd_enter hF (by decide) (fun G => [some (jd_v G (some t)), some (.int x0p), some (.int x1p), none]) rfl (by simp [lv_args, jd_al, jd_v_cat, jd_cti, jd_ctl]) (by simp [lg_sl, jd_v_cat, jd_cti, jd_ctl]) (fun X hD hX => ?_)
  have hX : jd_C X RX0 "take" cX0_take 4 none := hX
  unfold m_X0_take
  refine jr_iconst (pc := 0) hX 0 rfl dX0_take_0 ?_
  refine jr_ist3 (pc := 1) hX (jn_i _) dX0_take_1 ?_
  refine jr_loop (pc := 2) (fun (s1 : Int32) => [some (jd_v (jd_gG X) (some t)), some (.int x0p), some (.int x1p), some (.int s1)]) (fun (t2 : Unit) => [some (jd_v (jd_gG X) (some t)), some (.int x0p), some (.int x1p), none]) 31 0 (fun t2 σ2 => ?_) (fun K1 bk1 ex1 s1 σ1 => ?_)
  · refine jr_ald0 (pc := 31) hX dX0_take_31 ?_
    refine jr_ild1 (pc := 32) hX dX0_take_32 ?_
    refine jr_ck1 (fun a7 e7 h7 => ?_)
    refine jr_puti (pc := 33) hX fX0_18 rfl dX0_take_33 h7 ?_
    refine jr_li ?_
    refine jr_ald0 (pc := 36) hX dX0_take_36 ?_
    refine jr_ild2 (pc := 37) hX dX0_take_37 ?_
    refine jr_ek1 e7 ?_
    refine jr_puti (pc := 38) hX fX0_22 rfl dX0_take_38 h7 ?_
    refine jr_li ?_
    exact jr_vret (pc := 41) hX dX0_take_41 rfl
  · refine jr_ild3 (pc := 2) hX dX0_take_2 ?_
    refine jr_ild1 (pc := 3) hX dX0_take_3 ?_
    refine jr_icge (pc := 4) hX 31 dX0_take_4 (by decide) ?_ ?_
    · refine jr_wk [true, true, true, false] ?_
      exact ex1 () _
    · refine jr_ild3 (pc := 7) hX dX0_take_7 ?_
      refine jr_bipush (pc := 8) hX 6 rfl dX0_take_8 ?_
      refine jr_icge (pc := 10) hX 31 dX0_take_10 (by decide) ?_ ?_
      · refine jr_wk [true, true, true, false] ?_
        exact ex1 () _
      · refine jr_ald0 (pc := 13) hX dX0_take_13 ?_
        refine jr_ck0 (fun a3 e3 h3 => ?_)
        refine jr_getr (pc := 14) hX fX0_9 rfl dX0_take_14 h3 ?_
        refine jr_ild3 (pc := 17) hX dX0_take_17 ?_
        refine jr_ald0 (pc := 18) hX dX0_take_18 ?_
        refine jr_ek0 e3 ?_
        refine jr_getr (pc := 19) hX fX0_15 rfl dX0_take_19 h3 ?_
        refine jr_ild3 (pc := 22) hX dX0_take_22 ?_
        refine jr_iaC (pc := 23) hX dX0_take_23 (fun a4 n4 e4 h4 => ?_)
        refine jr_iaS (pc := 24) hX dX0_take_24 (fun a5 n5 e5 h5 => ?_)
        refine jr_li ?_
        refine jr_inc3 (pc := 25) hX 1 rfl (jn_i _) dX0_take_25 ?_
        refine jr_goto (pc := 28) hX 2 dX0_take_28 (by decide) ?_
        exact bk1 (s1 + 1) _
def m_J6_bitCount_0f7a4 (x0p : Int32) (σ : jd_Hp) : Option (Int32 × jd_Hp) :=
jd_li (x0p - ((x0p.toUInt32 >>> ((1 : Int32).toUInt32 &&& Int32.toUInt32 31)).toInt32 &&& 1431655765)) fun x1 =>
jd_li ((x1 &&& 858993459) + ((x1.toUInt32 >>> ((2 : Int32).toUInt32 &&& Int32.toUInt32 31)).toInt32 &&& 858993459)) fun x2 =>
jd_li ((x2 + (x2.toUInt32 >>> ((4 : Int32).toUInt32 &&& Int32.toUInt32 31)).toInt32) &&& 252645135) fun x3 =>
jd_li (x3 + (x3.toUInt32 >>> ((8 : Int32).toUInt32 &&& Int32.toUInt32 31)).toInt32) fun x4 =>
jd_li (x4 + (x4.toUInt32 >>> ((16 : Int32).toUInt32 &&& Int32.toUInt32 31)).toInt32) fun x5 =>
some ((x5 &&& 63), σ)
set_option maxHeartbeats 4000000 in
set_option maxRecDepth 20000 in
theorem c_J6_bitCount_0f7a4 {l : Launch} {s0 : State} {G : jd_G} (hF : jd_F s0 G) (σ : jd_Hp) (x0p : Int32) : jd_M l s0 G yJ6_bitCount_0f7a4 cJ6_bitCount_0f7a4 1 (some .int) 0 je_i [.int x0p] σ (m_J6_bitCount_0f7a4 x0p σ) := by
  refine jd_enter hF (by decide) (fun G => [some (.int x0p)]) rfl (by simp [lv_args, jd_al, jd_v_cat, jd_cti, jd_ctl]) (by simp [lg_sl, jd_v_cat, jd_cti, jd_ctl]) (fun X hD hX => ?_)
  have hX : jd_C X RJ6 "bitCount" cJ6_bitCount_0f7a4 1 (some .int) := hX
  unfold m_J6_bitCount_0f7a4
  refine jr_ild0 (pc := 0) hX dJ6_bitCount_0f7a4_0 ?_
  refine jr_ild0 (pc := 1) hX dJ6_bitCount_0f7a4_1 ?_
  refine jr_iconst (pc := 2) hX 1 rfl dJ6_bitCount_0f7a4_2 ?_
  refine jr_iushr (pc := 3) hX dJ6_bitCount_0f7a4_3 ?_
  refine jr_ldcw (pc := 4) hX kJ6_265 dJ6_bitCount_0f7a4_4 ?_
  refine jr_iand (pc := 7) hX dJ6_bitCount_0f7a4_7 ?_
  refine jr_isub (pc := 8) hX dJ6_bitCount_0f7a4_8 ?_
  refine jr_ist0 (pc := 9) hX dJ6_bitCount_0f7a4_9 ?_
  refine jr_li ?_
  refine jr_ild0 (pc := 10) hX dJ6_bitCount_0f7a4_10 ?_
  refine jr_ldcw (pc := 11) hX kJ6_266 dJ6_bitCount_0f7a4_11 ?_
  refine jr_iand (pc := 14) hX dJ6_bitCount_0f7a4_14 ?_
  refine jr_ild0 (pc := 15) hX dJ6_bitCount_0f7a4_15 ?_
  refine jr_iconst (pc := 16) hX 2 rfl dJ6_bitCount_0f7a4_16 ?_
  refine jr_iushr (pc := 17) hX dJ6_bitCount_0f7a4_17 ?_
  refine jr_ldcw (pc := 18) hX kJ6_266 dJ6_bitCount_0f7a4_18 ?_
  refine jr_iand (pc := 21) hX dJ6_bitCount_0f7a4_21 ?_
  refine jr_iadd (pc := 22) hX dJ6_bitCount_0f7a4_22 ?_
  refine jr_ist0 (pc := 23) hX dJ6_bitCount_0f7a4_23 ?_
  refine jr_li ?_
  refine jr_ild0 (pc := 24) hX dJ6_bitCount_0f7a4_24 ?_
  refine jr_ild0 (pc := 25) hX dJ6_bitCount_0f7a4_25 ?_
  refine jr_iconst (pc := 26) hX 4 rfl dJ6_bitCount_0f7a4_26 ?_
  refine jr_iushr (pc := 27) hX dJ6_bitCount_0f7a4_27 ?_
  refine jr_iadd (pc := 28) hX dJ6_bitCount_0f7a4_28 ?_
  refine jr_ldcw (pc := 29) hX kJ6_267 dJ6_bitCount_0f7a4_29 ?_
  refine jr_iand (pc := 32) hX dJ6_bitCount_0f7a4_32 ?_
  refine jr_ist0 (pc := 33) hX dJ6_bitCount_0f7a4_33 ?_
  refine jr_li ?_
  refine jr_ild0 (pc := 34) hX dJ6_bitCount_0f7a4_34 ?_
  refine jr_ild0 (pc := 35) hX dJ6_bitCount_0f7a4_35 ?_
  refine jr_bipush (pc := 36) hX 8 rfl dJ6_bitCount_0f7a4_36 ?_
  refine jr_iushr (pc := 38) hX dJ6_bitCount_0f7a4_38 ?_
  refine jr_iadd (pc := 39) hX dJ6_bitCount_0f7a4_39 ?_
  refine jr_ist0 (pc := 40) hX dJ6_bitCount_0f7a4_40 ?_
  refine jr_li ?_
  refine jr_ild0 (pc := 41) hX dJ6_bitCount_0f7a4_41 ?_
  refine jr_ild0 (pc := 42) hX dJ6_bitCount_0f7a4_42 ?_
  refine jr_bipush (pc := 43) hX 16 rfl dJ6_bitCount_0f7a4_43 ?_
  refine jr_iushr (pc := 45) hX dJ6_bitCount_0f7a4_45 ?_
  refine jr_iadd (pc := 46) hX dJ6_bitCount_0f7a4_46 ?_
  refine jr_ist0 (pc := 47) hX dJ6_bitCount_0f7a4_47 ?_
  refine jr_li ?_
  refine jr_ild0 (pc := 48) hX dJ6_bitCount_0f7a4_48 ?_
  refine jr_bipush (pc := 49) hX 63 rfl dJ6_bitCount_0f7a4_49 ?_
  refine jr_iand (pc := 51) hX dJ6_bitCount_0f7a4_51 ?_
  exact jr_iret (pc := 52) hX dJ6_bitCount_0f7a4_52 rfl
def m_X11_has (x0p : Int32) (x1p : Int32) (σ : jd_Hp) : Option (Int32 × jd_Hp) :=
jd_if (((x0p >>> (x1p &&& 31)) &&& 1) = 0) (
some (0, σ)) (
some (1, σ))
set_option maxHeartbeats 4000000 in
set_option maxRecDepth 20000 in
theorem c_X11_has {l : Launch} {s0 : State} {G : jd_G} (hF : jd_F s0 G) (σ : jd_Hp) (x0p : Int32) (x1p : Int32) : jd_M l s0 G yX11_has cX11_has 2 (some .boolean) 0 je_i [.int x0p, .int x1p] σ (m_X11_has x0p x1p σ) := by
  refine jd_enter hF (by decide) (fun G => [some (.int x0p), some (.int x1p)]) rfl (by simp [lv_args, jd_al, jd_v_cat, jd_cti, jd_ctl]) (by simp [lg_sl, jd_v_cat, jd_cti, jd_ctl]) (fun X hD hX => ?_)
  have hX : jd_C X RX11 "has" cX11_has 2 (some .boolean) := hX
  unfold m_X11_has
  refine jr_ild0 (pc := 0) hX dX11_has_0 ?_
  refine jr_ild1 (pc := 1) hX dX11_has_1 ?_
  refine jr_ishr (pc := 2) hX dX11_has_2 ?_
  refine jr_iconst (pc := 3) hX 1 rfl dX11_has_3 ?_
  refine jr_iand (pc := 4) hX dX11_has_4 ?_
  refine jr_ifeq (pc := 5) hX 12 dX11_has_5 (by decide) ?_ ?_
  · refine jr_iconst (pc := 12) hX 0 rfl dX11_has_12 ?_
    exact jr_zret (pc := 13) hX dX11_has_13 (Or.inl rfl) rfl
  · refine jr_iconst (pc := 8) hX 1 rfl dX11_has_8 ?_
    refine jr_goto (pc := 9) hX 13 dX11_has_9 (by decide) ?_
    exact jr_zret (pc := 13) hX dX11_has_13 (Or.inr rfl) rfl
def m_X6_sinks (t : Nat) (x0p : Int32) (σ : jd_Hp) : Option (Int32 × jd_Hp) :=
jd_b (m_X11_has (σ.2.1 t 6) x0p σ) fun r1 σ1 =>
some ((r1 &&& 1), σ1)
set_option maxHeartbeats 4000000 in
set_option maxRecDepth 20000 in
theorem c_X6_sinks {l : Launch} {s0 : State} {G : jd_G} (hF : jd_F s0 G) (σ : jd_Hp) (t : Nat) (ht : σ.1[t]? = some (6, 8)) (x0p : Int32) : jd_M l s0 G yX6_sinks cX6_sinks 2 (some .boolean) 1 je_i [jd_v G (some t), .int x0p] σ (m_X6_sinks t x0p σ) := by
  refine jd_enter hF (by decide) (fun G => [some (jd_v G (some t)), some (.int x0p)]) rfl (by simp [lv_args, jd_al, jd_v_cat, jd_cti, jd_ctl]) (by simp [lg_sl, jd_v_cat, jd_cti, jd_ctl]) (fun X hD hX => ?_)
  have hX : jd_C X RX6 "sinks" cX6_sinks 2 (some .boolean) := hX
  unfold m_X6_sinks
  refine jr_ald0 (pc := 0) hX dX6_sinks_0 ?_
  refine jr_geti (pc := 1) hX fX6_38 rfl dX6_sinks_1 ht ?_
  refine jr_ild1 (pc := 4) hX dX6_sinks_4 ?_
  refine jr_cS2i (pc := 5) hX lX6_65 (c_X11_has hX.F σ _ _) (jd_dd hD rfl) (Nat.le_of_ble_eq_true rfl) dX6_sinks_5 (fun r1 σ1 p1 => ?_)
  exact jr_bret (pc := 8) hX dX6_sinks_8 rfl
def m_X6_timeTo (t : Nat) (x0p : Int32) (x1p : Int32) (σ : jd_Hp) : Option (Int32 × jd_Hp) :=
jd_o σ (10, 16) (σ.2.2.2 t 5) fun a1 =>
jd_ia σ 20 (σ.2.2.2 a1 6) x0p fun a2 j2 =>
jd_o σ (4, 4) (σ.2.2.2 t 0) fun a3 =>
jd_ia σ 20 (σ.2.2.2 a3 0) x1p fun a4 j4 =>
jd_ia σ 20 (σ.2.2.2 a1 7) x0p fun a5 j5 =>
some (((jd_abs ((σ.2.1 a2 j2) - (σ.2.1 a4 j4))) + (σ.2.1 a5 j5)), σ)
set_option maxHeartbeats 4000000 in
set_option maxRecDepth 20000 in
theorem c_X6_timeTo {l : Launch} {s0 : State} {G : jd_G} (hF : jd_F s0 G) (σ : jd_Hp) (t : Nat) (ht : σ.1[t]? = some (6, 8)) (x0p : Int32) (x1p : Int32) : jd_M l s0 G yX6_timeTo cX6_timeTo 3 (some .int) 1 je_i [jd_v G (some t), .int x0p, .int x1p] σ (m_X6_timeTo t x0p x1p σ) := by
  refine jd_enter hF (by decide) (fun G => [some (jd_v G (some t)), some (.int x0p), some (.int x1p)]) rfl (by simp [lv_args, jd_al, jd_v_cat, jd_cti, jd_ctl]) (by simp [lg_sl, jd_v_cat, jd_cti, jd_ctl]) (fun X hD hX => ?_)
  have hX : jd_C X RX6 "timeTo" cX6_timeTo 3 (some .int) := hX
  unfold m_X6_timeTo
  refine jr_ald0 (pc := 0) hX dX6_timeTo_0 ?_
  refine jr_getr (pc := 1) hX fX6_34 rfl dX6_timeTo_1 ht ?_
  refine jr_ck0 (fun a1 e1 h1 => ?_)
  refine jr_getr (pc := 4) hX fX6_121 rfl dX6_timeTo_4 h1 ?_
  refine jr_ild1 (pc := 7) hX dX6_timeTo_7 ?_
  refine jr_iaC (pc := 8) hX dX6_timeTo_8 (fun a2 n2 e2 h2 => ?_)
  refine jr_ald0 (pc := 9) hX dX6_timeTo_9 ?_
  refine jr_getr (pc := 10) hX fX6_12 rfl dX6_timeTo_10 ht ?_
  refine jr_ck0 (fun a3 e3 h3 => ?_)
  refine jr_getr (pc := 13) hX fX6_55 rfl dX6_timeTo_13 h3 ?_
  refine jr_ild2 (pc := 16) hX dX6_timeTo_16 ?_
  refine jr_iaC (pc := 17) hX dX6_timeTo_17 (fun a4 n4 e4 h4 => ?_)
  refine jr_isub (pc := 18) hX dX6_timeTo_18 ?_
  refine jr_mabs (pc := 19) hX lX6_89 (jd_d1 hD rfl) (Nat.le_of_ble_eq_true rfl) dX6_timeTo_19 ?_
  refine jr_ald0 (pc := 22) hX dX6_timeTo_22 ?_
  refine jr_getr (pc := 23) hX fX6_34 rfl dX6_timeTo_23 ht ?_
  refine jr_ek0 e1 ?_
  refine jr_getr (pc := 26) hX fX6_124 rfl dX6_timeTo_26 h1 ?_
  refine jr_ild1 (pc := 29) hX dX6_timeTo_29 ?_
  refine jr_iaC (pc := 30) hX dX6_timeTo_30 (fun a5 n5 e5 h5 => ?_)
  refine jr_iadd (pc := 31) hX dX6_timeTo_31 ?_
  exact jr_iret (pc := 32) hX dX6_timeTo_32 rfl
def m_X0_extend : Nat → (Option Nat) → (Option Nat) → Int32 → Int32 → Int32 → Int32 → jd_Hp → Option (Unit × jd_Hp)
  | 0, _, _, _, _, _, _, _ => none
  | f + 1, o0p, o1p, x2p, x3p, x4p, x5p, σ =>
    jd_o σ (0, 4) o0p fun a1 =>
    jd_b (α := Unit) (
    jd_if (x3p ≤ (σ.2.1 a1 2)) (
    some ((), σ)) (
    jd_b (m_X0_take a1 x3p x5p σ) fun r4 σ4 =>
    some ((), σ4))) fun t3 σ3 =>
    jd_o σ3 (6, 8) o1p fun a5 =>
    jd_b (m_J6_bitCount_0f7a4 ((σ3.2.1 a5 6) &&& (x4p ^^^ (-1))) σ3) fun r6 σ6 =>
    jd_if (6 ≤ x3p) (
    some ((), σ6)) (
    jd_o σ6 (0, 4) o0p fun a7 =>
    jd_if ((σ6.2.1 a7 2) < (x3p + r6)) (
    jd_b (jd_lp (S := Int32) (T := Unit) (fun s8 σ8 =>
    jd_o σ8 (6, 8) o1p fun a10 =>
    jd_o σ8 (10, 16) (σ8.2.2.2 a10 5) fun a11 =>
    jd_if ((σ8.2.1 a11 11) ≤ s8) (
    some ((Sum.inr ()), σ8)) (
    jd_b (m_X6_sinks a10 s8 σ8) fun r12 σ12 =>
    jd_if (r12 = 0) (
    some (Sum.inl (s8 + 1), σ12)) (
    jd_b (m_X11_has x4p s8 σ12) fun r13 σ13 =>
    jd_if (¬ r13 = 0) (
    some (Sum.inl (s8 + 1), σ13)) (
    jd_b (m_X6_timeTo a10 x2p s8 σ13) fun r14 σ14 =>
    jd_ia σ14 20 (σ14.2.2.2 a10 2) s8 fun a15 j15 =>
    jd_li ((jd_max x5p (σ14.2.1 a15 j15)) + r14) fun x16 =>
    jd_ia σ14 20 (σ14.2.2.2 a10 2) s8 fun a17 j17 =>
    jd_o σ14 (10, 16) (σ14.2.2.2 a10 5) fun a18 =>
    jd_if (((σ14.2.1 a17 j17) + (σ14.2.1 a18 8)) < x16) (
    some (Sum.inl (s8 + 1), σ14)) (
    jd_o σ14 (0, 4) o0p fun a19 =>
    jd_ia σ14 20 (σ14.2.2.2 a19 1) x3p fun a20 j20 =>
    jd_li (jd_pi σ14 a20 j20 s8) fun τ21 =>
    jd_b (m_X0_extend f o0p o1p x2p (x3p + 1) (x4p ||| (1 <<< (s8 &&& 31))) (x16 + r14) τ21) fun r22 σ22 =>
    some (Sum.inl (s8 + 1), σ22)))))) jd_fu 0 σ6) fun t9 σ9 =>
    some ((), σ9)) (
    some ((), σ6)))
set_option maxHeartbeats 4000000 in
set_option maxRecDepth 20000 in
theorem c_X0_extend {l : Launch} {s0 : State} {G : jd_G} (hF : jd_F s0 G) (f : Nat) (σ : jd_Hp) (o0p : (Option Nat)) (o1p : (Option Nat)) (x2p : Int32) (x3p : Int32) (x4p : Int32) (x5p : Int32) : jd_M l s0 G yX0_extend cX0_extend 10 none (f + 3) je_v [jd_v G o0p, jd_v G o1p, .int x2p, .int x3p, .int x4p, .int x5p] σ (m_X0_extend f o0p o1p x2p x3p x4p x5p σ) := by
  revert l s0 G σ o0p o1p x2p x3p x4p x5p
  induction f with
  | zero =>
    intros
    intro v σ' hv
    cases hv
  | succ f ih =>
    intro l s0 G hF σ o0p o1p x2p x3p x4p x5p
    refine jd_enter hF (by decide) (fun G => [some (jd_v G o0p), some (jd_v G o1p), some (.int x2p), some (.int x3p), some (.int x4p), some (.int x5p), none, none, none, none]) rfl (by simp [lv_args, jd_al, jd_v_cat, jd_cti, jd_ctl]) (by simp [lg_sl, jd_v_cat, jd_cti, jd_ctl]) (fun X hD hX => ?_)
    have hX : jd_C X RX0 "extend" cX0_extend 10 none := hX
    unfold m_X0_extend
    refine jr_ild3 (pc := 0) hX dX0_extend_0 ?_
    refine jr_ald0 (pc := 1) hX dX0_extend_1 ?_
    refine jr_ck0 (fun a1 e1 h1 => ?_)
    refine jr_geti (pc := 2) hX fX0_18 rfl dX0_extend_2 h1 ?_
    refine jr_join (pc := 5) 15 (fun (t3 : Unit) => [some (jd_v (jd_gG X) o0p), some (jd_v (jd_gG X) o1p), some (.int x2p), some (.int x3p), some (.int x4p), some (.int x5p), none, none, none, none]) (fun (t3 : Unit) => []) (fun t3 σ3 => ?_) (fun K3 jj3 => ?_)
    · refine jr_ald1 (pc := 15) hX dX0_extend_15 ?_
      refine jr_ck0 (fun a5 e5 h5 => ?_)
      refine jr_geti (pc := 16) hX fX0_44 rfl dX0_extend_16 h5 ?_
      refine jr_ild4 (pc := 19) hX dX0_extend_19 ?_
      refine jr_iconst (pc := 21) hX (-1) rfl dX0_extend_21 ?_
      refine jr_ixor (pc := 22) hX dX0_extend_22 ?_
      refine jr_iand (pc := 23) hX dX0_extend_23 ?_
      refine jr_cS1i (pc := 24) hX lX0_47 (c_J6_bitCount_0f7a4 hX.F σ3 _) (by rw [hD]; omega) (Nat.le_of_ble_eq_true rfl) dX0_extend_24 (fun r6 σ6 p6 => ?_)
      refine jr_ist6 (pc := 27) hX (jn_i _) dX0_extend_27 ?_
      refine jr_ild3 (pc := 29) hX dX0_extend_29 ?_
      refine jr_bipush (pc := 30) hX 6 rfl dX0_extend_30 ?_
      refine jr_icge (pc := 32) hX 46 dX0_extend_32 (by decide) ?_ ?_
      · exact jr_vret (pc := 46) hX dX0_extend_46 rfl
      · refine jr_ild3 (pc := 35) hX dX0_extend_35 ?_
        refine jr_ild6 (pc := 36) hX dX0_extend_36 ?_
        refine jr_iadd (pc := 38) hX dX0_extend_38 ?_
        refine jr_ald0 (pc := 39) hX dX0_extend_39 ?_
        refine jr_ck0 (fun a7 e7 h7 => ?_)
        refine jr_geti (pc := 40) hX fX0_18 rfl dX0_extend_40 h7 ?_
        refine jr_icgt (pc := 43) hX 47 dX0_extend_43 (by decide) ?_ ?_
        · refine jr_iconst (pc := 47) hX 0 rfl dX0_extend_47 ?_
          refine jr_ist7 (pc := 48) hX (jn_i _) dX0_extend_48 ?_
          refine jr_wk [true, true, true, true, true, true, false, true, true, true] ?_
          refine jr_loop (pc := 50) (fun (s8 : Int32) => [some (jd_v (jd_gG X) o0p), some (jd_v (jd_gG X) o1p), some (.int x2p), some (.int x3p), some (.int x4p), some (.int x5p), none, some (.int s8), none, none]) (fun (t9 : Unit) => [none, none, none, none, none, none, none, none, none, none]) 162 0 (fun t9 σ9 => ?_) (fun K8 bk8 ex8 s8 σ8 => ?_)
          · exact jr_vret (pc := 162) hX dX0_extend_162 rfl
          · refine jr_ild7 (pc := 50) hX dX0_extend_50 ?_
            refine jr_ald1 (pc := 52) hX dX0_extend_52 ?_
            refine jr_ck0 (fun a10 e10 h10 => ?_)
            refine jr_getr (pc := 53) hX fX0_53 rfl dX0_extend_53 h10 ?_
            refine jr_ck0 (fun a11 e11 h11 => ?_)
            refine jr_geti (pc := 56) hX fX0_57 rfl dX0_extend_56 h11 ?_
            refine jr_icge (pc := 59) hX 162 dX0_extend_59 (by decide) ?_ ?_
            · refine jr_wk [false, false, false, false, false, false, true, false, true, true] ?_
              exact ex8 () _
            · refine jr_ald1 (pc := 62) hX dX0_extend_62 ?_
              refine jr_ild7 (pc := 63) hX dX0_extend_63 ?_
              refine jr_ek1 e10 ?_
              refine jr_cV1i (pc := 65) hX lX0_62 (c_X6_sinks hX.F σ8 a10 h10 _) (by rw [hD]; omega) (Nat.le_of_ble_eq_true rfl) dX0_extend_65 h10 (fun r12 σ12 p12 => ?_)
              refine jr_ifeq (pc := 68) hX 156 dX0_extend_68 (by decide) ?_ ?_
              · refine jr_inc7 (pc := 156) hX 1 rfl jn_n dX0_extend_156 ?_
                refine jr_goto (pc := 159) hX 50 dX0_extend_159 (by decide) ?_
                exact bk8 (s8 + 1) _
              · refine jr_ild4 (pc := 71) hX dX0_extend_71 ?_
                refine jr_ild7 (pc := 73) hX dX0_extend_73 ?_
                refine jr_cS2i (pc := 75) hX lX0_66 (c_X11_has hX.F σ12 _ _) (by rw [hD]; omega) (Nat.le_of_ble_eq_true rfl) dX0_extend_75 (fun r13 σ13 p13 => ?_)
                refine jr_ifne (pc := 78) hX 156 dX0_extend_78 (by decide) ?_ ?_
                · refine jr_inc7 (pc := 156) hX 1 rfl jn_n dX0_extend_156 ?_
                  refine jr_goto (pc := 159) hX 50 dX0_extend_159 (by decide) ?_
                  exact bk8 (s8 + 1) _
                · refine jr_ald1 (pc := 81) hX dX0_extend_81 ?_
                  refine jr_ild2 (pc := 82) hX dX0_extend_82 ?_
                  refine jr_ild7 (pc := 83) hX dX0_extend_83 ?_
                  refine jr_ek2 e10 ?_
                  refine jr_cV2i (pc := 85) hX lX0_70 (c_X6_timeTo hX.F σ13 a10 (p13.at (p12.at h10 :) :) _ _) (by rw [hD]; omega) (Nat.le_of_ble_eq_true rfl) dX0_extend_85 (p13.at (p12.at h10 :) :) (fun r14 σ14 p14 => ?_)
                  refine jr_ist8 (pc := 88) hX (jn_i _) dX0_extend_88 ?_
                  refine jr_ild5 (pc := 90) hX dX0_extend_90 ?_
                  refine jr_ald1 (pc := 92) hX dX0_extend_92 ?_
                  refine jr_ek0 e10 ?_
                  refine jr_getr (pc := 93) hX fX0_74 rfl dX0_extend_93 (p14.at (p13.at (p12.at h10 :) :) :) ?_
                  refine jr_ild7 (pc := 96) hX dX0_extend_96 ?_
                  refine jr_iaC (pc := 98) hX dX0_extend_98 (fun a15 n15 e15 h15 => ?_)
                  refine jr_mmax (pc := 99) hX lX0_77 (by rw [hD]; omega) (Nat.le_of_ble_eq_true rfl) dX0_extend_99 ?_
                  refine jr_ild8 (pc := 102) hX dX0_extend_102 ?_
                  refine jr_iadd (pc := 104) hX dX0_extend_104 ?_
                  refine jr_ist9 (pc := 105) hX (jn_i _) dX0_extend_105 ?_
                  refine jr_li ?_
                  refine jr_ild9 (pc := 107) hX dX0_extend_107 ?_
                  refine jr_ald1 (pc := 109) hX dX0_extend_109 ?_
                  refine jr_ek0 e10 ?_
                  refine jr_getr (pc := 110) hX fX0_74 rfl dX0_extend_110 (p14.at (p13.at (p12.at h10 :) :) :) ?_
                  refine jr_ild7 (pc := 113) hX dX0_extend_113 ?_
                  refine jr_iaC (pc := 115) hX dX0_extend_115 (fun a17 n17 e17 h17 => ?_)
                  refine jr_ald1 (pc := 116) hX dX0_extend_116 ?_
                  refine jr_ek0 e10 ?_
                  refine jr_getr (pc := 117) hX fX0_53 rfl dX0_extend_117 (p14.at (p13.at (p12.at h10 :) :) :) ?_
                  refine jr_ck0 (fun a18 e18 h18 => ?_)
                  refine jr_geti (pc := 120) hX fX0_82 rfl dX0_extend_120 h18 ?_
                  refine jr_iadd (pc := 123) hX dX0_extend_123 ?_
                  refine jr_icgt (pc := 124) hX 156 dX0_extend_124 (by decide) ?_ ?_
                  · refine jr_inc7 (pc := 156) hX 1 rfl jn_n dX0_extend_156 ?_
                    refine jr_goto (pc := 159) hX 50 dX0_extend_159 (by decide) ?_
                    refine jr_wk [true, true, true, true, true, true, true, true, false, false] ?_
                    exact bk8 (s8 + 1) _
                  · refine jr_ald0 (pc := 127) hX dX0_extend_127 ?_
                    refine jr_ck0 (fun a19 e19 h19 => ?_)
                    refine jr_getr (pc := 128) hX fX0_15 rfl dX0_extend_128 h19 ?_
                    refine jr_ild3 (pc := 131) hX dX0_extend_131 ?_
                    refine jr_ild7 (pc := 132) hX dX0_extend_132 ?_
                    refine jr_iaS (pc := 134) hX dX0_extend_134 (fun a20 n20 e20 h20 => ?_)
                    refine jr_li ?_
                    refine jr_ald0 (pc := 135) hX dX0_extend_135 ?_
                    refine jr_ald1 (pc := 136) hX dX0_extend_136 ?_
                    refine jr_ild2 (pc := 137) hX dX0_extend_137 ?_
                    refine jr_ild3 (pc := 138) hX dX0_extend_138 ?_
                    refine jr_iconst (pc := 139) hX 1 rfl dX0_extend_139 ?_
                    refine jr_iadd (pc := 140) hX dX0_extend_140 ?_
                    refine jr_ild4 (pc := 141) hX dX0_extend_141 ?_
                    refine jr_iconst (pc := 143) hX 1 rfl dX0_extend_143 ?_
                    refine jr_ild7 (pc := 144) hX dX0_extend_144 ?_
                    refine jr_ishl (pc := 146) hX dX0_extend_146 ?_
                    refine jr_ior (pc := 147) hX dX0_extend_147 ?_
                    refine jr_ild9 (pc := 148) hX dX0_extend_148 ?_
                    refine jr_ild8 (pc := 150) hX dX0_extend_150 ?_
                    refine jr_iadd (pc := 152) hX dX0_extend_152 ?_
                    refine jr_cS6v (pc := 153) hX lX0_36 (ih hX.F (jd_pi σ14 a20 x3p.toNatClampNeg s8) _ _ _ _ _ _) (by rw [hD]; omega) (Nat.le_of_ble_eq_true rfl) dX0_extend_153 (fun r22 σ22 p22 => ?_)
                    refine jr_inc7 (pc := 156) hX 1 rfl jn_n dX0_extend_156 ?_
                    refine jr_goto (pc := 159) hX 50 dX0_extend_159 (by decide) ?_
                    refine jr_wk [true, true, true, true, true, true, true, true, false, false] ?_
                    exact bk8 (s8 + 1) _
        · exact jr_vret (pc := 46) hX dX0_extend_46 rfl
    · refine jr_icle (pc := 5) hX 15 dX0_extend_5 (by decide) ?_ ?_
      · exact jj3 () _
      · refine jr_ald0 (pc := 8) hX dX0_extend_8 ?_
        refine jr_ild3 (pc := 9) hX dX0_extend_9 ?_
        refine jr_ild5 (pc := 10) hX dX0_extend_10 ?_
        refine jr_ek2 e1 ?_
        refine jr_cV2v (pc := 12) hX lX0_40 (c_X0_take hX.F σ a1 h1 _ _) (by rw [hD]; omega) (Nat.le_of_ble_eq_true rfl) dX0_extend_12 h1 (fun r4 σ4 p4 => ?_)
        exact jj3 () _
def m_X0_search (t : Nat) (o0p : (Option Nat)) (x1p : Int32) (σ : jd_Hp) : Option (Unit × jd_Hp) :=
jd_li (jd_pi σ t 2 0) fun τ1 =>
jd_o τ1 (6, 8) o0p fun a2 =>
jd_o τ1 (4, 4) (τ1.2.2.2 a2 0) fun a3 =>
jd_li (jd_pi τ1 t 3 (τ1.2.1 a3 3)) fun τ4 =>
jd_o τ4 (4, 4) (τ4.2.2.2 a2 0) fun a5 =>
jd_b (m_X0_extend 8 (some t) o0p x1p 0 0 (τ4.2.1 a5 3) τ4) fun r6 σ6 =>
some ((), σ6)
set_option maxHeartbeats 4000000 in
set_option maxRecDepth 20000 in
theorem c_X0_search {l : Launch} {s0 : State} {G : jd_G} (hF : jd_F s0 G) (σ : jd_Hp) (t : Nat) (ht : σ.1[t]? = some (0, 4)) (o0p : (Option Nat)) (x1p : Int32) : jd_M l s0 G yX0_search cX0_search 3 none 12 je_v [jd_v G (some t), jd_v G o0p, .int x1p] σ (m_X0_search t o0p x1p σ) := by
  refine jd_enter hF (by decide) (fun G => [some (jd_v G (some t)), some (jd_v G o0p), some (.int x1p)]) rfl (by simp [lv_args, jd_al, jd_v_cat, jd_cti, jd_ctl]) (by simp [lg_sl, jd_v_cat, jd_cti, jd_ctl]) (fun X hD hX => ?_)
  have hX : jd_C X RX0 "search" cX0_search 3 none := hX
  unfold m_X0_search
  refine jr_ald0 (pc := 0) hX dX0_search_0 ?_
  refine jr_iconst (pc := 1) hX 0 rfl dX0_search_1 ?_
  refine jr_puti (pc := 2) hX fX0_18 rfl dX0_search_2 ht ?_
  refine jr_li ?_
  refine jr_ald0 (pc := 5) hX dX0_search_5 ?_
  refine jr_ald1 (pc := 6) hX dX0_search_6 ?_
  refine jr_ck0 (fun a2 e2 h2 => ?_)
  refine jr_getr (pc := 7) hX fX0_25 rfl dX0_search_7 h2 ?_
  refine jr_ck0 (fun a3 e3 h3 => ?_)
  refine jr_geti (pc := 10) hX fX0_31 rfl dX0_search_10 h3 ?_
  refine jr_puti (pc := 13) hX fX0_22 rfl dX0_search_13 ht ?_
  refine jr_li ?_
  refine jr_ald0 (pc := 16) hX dX0_search_16 ?_
  refine jr_ald1 (pc := 17) hX dX0_search_17 ?_
  refine jr_ild2 (pc := 18) hX dX0_search_18 ?_
  refine jr_iconst (pc := 19) hX 0 rfl dX0_search_19 ?_
  refine jr_iconst (pc := 20) hX 0 rfl dX0_search_20 ?_
  refine jr_ald1 (pc := 21) hX dX0_search_21 ?_
  refine jr_ek0 e2 ?_
  refine jr_getr (pc := 22) hX fX0_25 rfl dX0_search_22 h2 ?_
  refine jr_ck0 (fun a5 e5 h5 => ?_)
  refine jr_geti (pc := 25) hX fX0_31 rfl dX0_search_25 h5 ?_
  refine jr_cS6v (pc := 28) hX lX0_36 (c_X0_extend hX.F 8 (jd_pi (jd_pi σ t 2 0) t 3 ((jd_pi σ t 2 0).2.1 a3 3)) _ _ _ _ _ _) (jd_dd hD rfl) (Nat.le_of_ble_eq_true rfl) dX0_search_28 (fun r6 σ6 p6 => ?_)
  exact jr_vret (pc := 31) hX dX0_search_31 rfl
def m_X1_init (t : Nat) (σ : jd_Hp) : Option (Unit × jd_Hp) :=
jd_li (jd_new σ (23, 7)) fun τ1 =>
jd_li (jd_pr τ1 t 0 (some σ.1.length)) fun τ2 =>
jd_li (jd_pi τ2 t 1 0) fun τ3 =>
some ((), τ3)
set_option maxHeartbeats 4000000 in
set_option maxRecDepth 20000 in
theorem c_X1_init {l : Launch} {s0 : State} {G : jd_G} (hF : jd_F s0 G) (σ : jd_Hp) (t : Nat) (ht : σ.1[t]? = some (1, 2)) : jd_M l s0 G yX1_init cX1_init 1 none 1 je_v [jd_v G (some t)] σ (m_X1_init t σ) := by
  refine jd_enter hF (by decide) (fun G => [some (jd_v G (some t))]) rfl (by simp [lv_args, jd_al, jd_v_cat, jd_cti, jd_ctl]) (by simp [lg_sl, jd_v_cat, jd_cti, jd_ctl]) (fun X hD hX => ?_)
  have hX : jd_C X RX1 "<init>" cX1_init 1 none := hX
  unfold m_X1_init
  refine jr_ald0 (pc := 0) hX dX1_init_0 ?_
  refine jr_oinit (pc := 1) hX lX1_3 (jd_d1 hD rfl) (Nat.le_of_ble_eq_true rfl) dX1_init_1 ?_
  refine jr_ald0 (pc := 4) hX dX1_init_4 ?_
  refine jr_bipush (pc := 5) hX 7 rfl dX1_init_5 ?_
  refine jr_newal (pc := 7) hX 7 (by decide) (by decide) (by decide) aC_long dX1_init_7 ?_
  refine jr_li ?_
  refine jr_putrF (pc := 9) hX fX1_9 rfl ⟨_, _, rfl, rfl⟩ rfl dX1_init_9 ((jd_p.new σ (23, 7)).at ht :) ?_
  refine jr_li ?_
  refine jr_ald0 (pc := 12) hX dX1_init_12 ?_
  refine jr_iconst (pc := 13) hX 0 rfl dX1_init_13 ?_
  refine jr_puti (pc := 14) hX fX1_15 rfl dX1_init_14 ((jd_p.new σ (23, 7)).at ht :) ?_
  refine jr_li ?_
  exact jr_vret (pc := 17) hX dX1_init_17 rfl
def m_X1_isAtRisk (o0p : (Option Nat)) (x1p : Int32) (σ : jd_Hp) : Option (Int32 × jd_Hp) :=
jd_o σ (6, 8) o0p fun a1 =>
jd_b (m_X6_sinks a1 x1p σ) fun r2 σ2 =>
jd_if (r2 = 0) (
some (0, σ2)) (
jd_b (m_X11_has (σ2.2.1 a1 7) x1p σ2) fun r3 σ3 =>
jd_if (¬ r3 = 0) (
some (0, σ3)) (
some (1, σ3)))
set_option maxHeartbeats 4000000 in
set_option maxRecDepth 20000 in
theorem c_X1_isAtRisk {l : Launch} {s0 : State} {G : jd_G} (hF : jd_F s0 G) (σ : jd_Hp) (o0p : (Option Nat)) (x1p : Int32) : jd_M l s0 G yX1_isAtRisk cX1_isAtRisk 2 (some .boolean) 2 je_i [jd_v G o0p, .int x1p] σ (m_X1_isAtRisk o0p x1p σ) := by
  refine jd_enter hF (by decide) (fun G => [some (jd_v G o0p), some (.int x1p)]) rfl (by simp [lv_args, jd_al, jd_v_cat, jd_cti, jd_ctl]) (by simp [lg_sl, jd_v_cat, jd_cti, jd_ctl]) (fun X hD hX => ?_)
  have hX : jd_C X RX1 "isAtRisk" cX1_isAtRisk 2 (some .boolean) := hX
  unfold m_X1_isAtRisk
  refine jr_ald0 (pc := 0) hX dX1_isAtRisk_0 ?_
  refine jr_ild1 (pc := 1) hX dX1_isAtRisk_1 ?_
  refine jr_ck1 (fun a1 e1 h1 => ?_)
  refine jr_cV1i (pc := 2) hX lX1_46 (c_X6_sinks hX.F σ a1 h1 _) (jd_dd hD rfl) (Nat.le_of_ble_eq_true rfl) dX1_isAtRisk_2 h1 (fun r2 σ2 p2 => ?_)
  refine jr_ifeq (pc := 5) hX 23 dX1_isAtRisk_5 (by decide) ?_ ?_
  · refine jr_iconst (pc := 23) hX 0 rfl dX1_isAtRisk_23 ?_
    exact jr_zret (pc := 24) hX dX1_isAtRisk_24 (Or.inl rfl) rfl
  · refine jr_ald0 (pc := 8) hX dX1_isAtRisk_8 ?_
    refine jr_ek0 e1 ?_
    refine jr_geti (pc := 9) hX fX1_71 rfl dX1_isAtRisk_9 (p2.at h1 :) ?_
    refine jr_ild1 (pc := 12) hX dX1_isAtRisk_12 ?_
    refine jr_cS2i (pc := 13) hX lX1_54 (c_X11_has hX.F σ2 _ _) (jd_dd hD rfl) (Nat.le_of_ble_eq_true rfl) dX1_isAtRisk_13 (fun r3 σ3 p3 => ?_)
    refine jr_ifne (pc := 16) hX 23 dX1_isAtRisk_16 (by decide) ?_ ?_
    · refine jr_iconst (pc := 23) hX 0 rfl dX1_isAtRisk_23 ?_
      exact jr_zret (pc := 24) hX dX1_isAtRisk_24 (Or.inl rfl) rfl
    · refine jr_iconst (pc := 19) hX 1 rfl dX1_isAtRisk_19 ?_
      refine jr_goto (pc := 20) hX 24 dX1_isAtRisk_20 (by decide) ?_
      exact jr_zret (pc := 24) hX dX1_isAtRisk_24 (Or.inr rfl) rfl
def m_X3_commonDivisor (x0p : Int64) (x1p : Int64) (σ : jd_Hp) : Option (Int64 × jd_Hp) :=
jd_b (jd_lp (S := Int64 × Int64 × Int32) (T := Int64) (fun s1 σ1 =>
jd_if (200 ≤ s1.2.2) (
some ((Sum.inr s1.1), σ1)) (
jd_if ((lg_cmp s1.2.1 0) = 0) (
some ((Sum.inr s1.1), σ1)) (
jd_nz (s1.2.1 = 0) <|
jd_li (s1.1 - s1.1 / s1.2.1 * s1.2.1) fun x4 =>
some (Sum.inl (s1.2.1, x4, (s1.2.2 + 1)), σ1)))) jd_fu (x0p, x1p, 0) σ) fun t2 σ2 =>
some (t2, σ2)
set_option maxHeartbeats 4000000 in
set_option maxRecDepth 20000 in
theorem c_X3_commonDivisor {l : Launch} {s0 : State} {G : jd_G} (hF : jd_F s0 G) (σ : jd_Hp) (x0p : Int64) (x1p : Int64) : jd_M l s0 G yX3_commonDivisor cX3_commonDivisor 11 (some .long) 0 je_l [.long x0p, .long x1p] σ (m_X3_commonDivisor x0p x1p σ) := by
  refine jd_enter hF (by decide) (fun G => [some (.long x0p), none, some (.long x1p), none, none, none, none, none, none, none, none]) rfl (by simp [lv_args, jd_al, jd_v_cat, jd_cti, jd_ctl]) (by simp [lg_sl, jd_v_cat, jd_cti, jd_ctl]) (fun X hD hX => ?_)
  have hX : jd_C X RX3 "commonDivisor" cX3_commonDivisor 11 (some .long) := hX
  unfold m_X3_commonDivisor
  refine jr_lld0 (pc := 0) hX dX3_commonDivisor_0 ?_
  refine jr_lst4 (pc := 1) hX jn_n dX3_commonDivisor_1 ?_
  refine jr_lld2 (pc := 3) hX dX3_commonDivisor_3 ?_
  refine jr_lst6 (pc := 4) hX jn_n dX3_commonDivisor_4 ?_
  refine jr_iconst (pc := 6) hX 0 rfl dX3_commonDivisor_6 ?_
  refine jr_ist8 (pc := 7) hX jn_n dX3_commonDivisor_7 ?_
  refine jr_wk [false, true, false, true, true, true, true, true, true, true, true] ?_
  refine jr_loop (pc := 9) (fun (s1 : Int64 × Int64 × Int32) => [none, none, none, none, some (.long s1.1), none, some (.long s1.2.1), none, some (.int s1.2.2), none, none]) (fun (t2 : Int64) => [none, none, none, none, some (.long t2), none, none, none, none, none, none]) 45 (x0p, x1p, 0) (fun t2 σ2 => ?_) (fun K1 bk1 ex1 s1 σ1 => ?_)
  · refine jr_lld4 (pc := 45) hX dX3_commonDivisor_45 ?_
    exact jr_lret (pc := 47) hX dX3_commonDivisor_47 rfl
  · refine jr_ild8 (pc := 9) hX dX3_commonDivisor_9 ?_
    refine jr_sipush (pc := 11) hX 200 rfl dX3_commonDivisor_11 ?_
    refine jr_icge (pc := 14) hX 45 dX3_commonDivisor_14 (by decide) ?_ ?_
    · refine jr_wk [true, true, true, true, true, true, false, true, false, true, true] ?_
      exact ex1 s1.1 _
    · refine jr_lld6 (pc := 17) hX dX3_commonDivisor_17 ?_
      refine jr_lconst (pc := 19) hX 0 rfl dX3_commonDivisor_19 ?_
      refine jr_lcmp (pc := 20) hX dX3_commonDivisor_20 ?_
      refine jr_ifeq (pc := 21) hX 45 dX3_commonDivisor_21 (by decide) ?_ ?_
      · refine jr_wk [true, true, true, true, true, true, false, true, false, true, true] ?_
        exact ex1 s1.1 _
      · refine jr_lld4 (pc := 24) hX dX3_commonDivisor_24 ?_
        refine jr_lld6 (pc := 26) hX dX3_commonDivisor_26 ?_
        refine jr_nz (fun z3 => ?_)
        refine jr_lrem (pc := 28) hX dX3_commonDivisor_28 z3 ?_
        refine jr_lst9 (pc := 29) hX (jn_i _) dX3_commonDivisor_29 ?_
        refine jr_li ?_
        refine jr_lld6 (pc := 31) hX dX3_commonDivisor_31 ?_
        refine jr_lst4 (pc := 33) hX jn_n dX3_commonDivisor_33 ?_
        refine jr_lld9 (pc := 35) hX dX3_commonDivisor_35 ?_
        refine jr_lst6 (pc := 37) hX jn_n dX3_commonDivisor_37 ?_
        refine jr_inc8 (pc := 39) hX 1 rfl jn_n dX3_commonDivisor_39 ?_
        refine jr_goto (pc := 42) hX 9 dX3_commonDivisor_42 (by decide) ?_
        refine jr_wk [true, true, true, true, true, true, true, true, true, false, true] ?_
        exact bk1 (s1.2.1, (s1.1 - s1.1 / s1.2.1 * s1.2.1), (s1.2.2 + 1)) _
