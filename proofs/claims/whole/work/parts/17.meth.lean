theorem qX7_weightIfSinking : Cond.static yX7_weightIfSinking ∈ jd_TB ∧ Cond.initialized yX7_weightIfSinking.cls ∈ jd_TB ∧ Cond.code yX7_weightIfSinking cX7_weightIfSinking 6 (some .long) ∈ jd_TB ∧ jd_ds yX7_weightIfSinking 2 := ⟨jd_mem 754 (by decide +kernel) (by decide +kernel), jd_mem 101 (by decide +kernel) (by decide +kernel), jd_mem 755 (by decide +kernel) (by decide +kernel), ⟨by decide, by decide, by decide +kernel⟩⟩
theorem lX7_26 : jd_st RX7 26 yX7_weightIfSinking cX7_weightIfSinking 6 (some .long) 2 := ⟨Or.inl (jd_mem 753 (by decide +kernel) (by decide +kernel)), qX7_weightIfSinking.1, qX7_weightIfSinking.2.1, qX7_weightIfSinking.2.2.1, qX7_weightIfSinking.2.2.2, by decide⟩
theorem lX7_37 : jd_st RX7 37 yX11_has cX11_has 2 (some .boolean) 2 := ⟨Or.inr ⟨"ShoreGuards", List.mem_of_getElem? (i := 1011) (by decide +kernel)⟩, qX11_has.1, qX11_has.2.1, qX11_has.2.2.1, qX11_has.2.2.2, by decide⟩
theorem kX7_41 : Cond.constantLong RX7 41 2 ∈ jd_TB := jd_mem 1020 (by decide +kernel) (by decide +kernel)
theorem qX7_weightOf : Cond.instanceMethod yX7_weightOf ∈ jd_TB ∧ Cond.selects RX7 yX7_weightOf yX7_weightOf ∈ jd_TB ∧ Cond.initialized RX7 ∈ jd_TB ∧ Cond.code yX7_weightOf cX7_weightOf 5 (some .long) ∈ jd_TB ∧ jd_ds yX7_weightOf 1 := ⟨jd_mem 1008 (by decide +kernel) (by decide +kernel), jd_mem 1009 (by decide +kernel) (by decide +kernel), jd_mem 101 (by decide +kernel) (by decide +kernel), jd_mem 1010 (by decide +kernel) (by decide +kernel), ⟨by decide, by decide, by decide +kernel⟩⟩
theorem lX7_43 : jd_mv RX7 43 7 3 yX7_weightOf cX7_weightOf 5 (some .long) 1 := ⟨_, _, rfl, by decide, rfl, Or.inl (jd_mem 1021 (by decide +kernel) (by decide +kernel)), qX7_weightOf.1, qX7_weightOf.2.1, qX7_weightOf.2.2.1, qX7_weightOf.2.2.2.1, qX7_weightOf.2.2.2.2, by decide⟩
theorem lX7_47 : jd_st RX7 47 yJ6_bitCount_0f7a4 cJ6_bitCount_0f7a4 1 (some .int) 1 := ⟨Or.inl (jd_mem 1022 (by decide +kernel) (by decide +kernel)), qJ6_bitCount_0f7a4.1, qJ6_bitCount_0f7a4.2.1, qJ6_bitCount_0f7a4.2.2.1, qJ6_bitCount_0f7a4.2.2.2, by decide⟩
theorem lX8_3 : jd_oi RX8 3 := ⟨jd_mem 129 (by decide +kernel) (by decide +kernel), jd_mem 122 (by decide +kernel) (by decide +kernel), jd_mem 123 (by decide +kernel) (by decide +kernel)⟩
theorem aC_byte : Cond.arrayClass .byte ∈ jd_TB := jd_mem 139 (by decide +kernel) (by decide +kernel)
theorem fX8_9 : jd_fl RX8 9 8 0 2 true := ⟨_, _, rfl, by decide, by decide, rfl, rfl, jd_mem 130 (by decide +kernel) (by decide +kernel)⟩
theorem fX8_15 : jd_fl RX8 15 8 1 2 false := ⟨_, _, rfl, by decide, by decide, rfl, rfl, jd_mem 132 (by decide +kernel) (by decide +kernel)⟩
theorem lX9_3 : jd_oi RX9 3 := ⟨jd_mem 145 (by decide +kernel) (by decide +kernel), jd_mem 122 (by decide +kernel) (by decide +kernel), jd_mem 123 (by decide +kernel) (by decide +kernel)⟩
theorem fX9_11 : jd_fl RX9 11 9 1 16 true := ⟨_, _, rfl, by decide, by decide, rfl, rfl, jd_mem 147 (by decide +kernel) (by decide +kernel)⟩
theorem fX9_15 : jd_fl RX9 15 9 2 16 true := ⟨_, _, rfl, by decide, by decide, rfl, rfl, jd_mem 148 (by decide +kernel) (by decide +kernel)⟩
theorem fX9_18 : jd_fl RX9 18 9 3 16 true := ⟨_, _, rfl, by decide, by decide, rfl, rfl, jd_mem 149 (by decide +kernel) (by decide +kernel)⟩
theorem aC_boolean : Cond.arrayClass .boolean ∈ jd_TB := jd_mem 198 (by decide +kernel) (by decide +kernel)
theorem fX9_21 : jd_fl RX9 21 9 4 16 true := ⟨_, _, rfl, by decide, by decide, rfl, rfl, jd_mem 150 (by decide +kernel) (by decide +kernel)⟩
theorem fX9_25 : jd_fl RX9 25 9 5 16 false := ⟨_, _, rfl, by decide, by decide, rfl, rfl, jd_mem 151 (by decide +kernel) (by decide +kernel)⟩
theorem fX9_29 : jd_fl RX9 29 9 6 16 false := ⟨_, _, rfl, by decide, by decide, rfl, rfl, jd_mem 152 (by decide +kernel) (by decide +kernel)⟩
theorem fX9_32 : jd_fl RX9 32 9 7 16 false := ⟨_, _, rfl, by decide, by decide, rfl, rfl, jd_mem 153 (by decide +kernel) (by decide +kernel)⟩
theorem fX9_35 : jd_fl RX9 35 9 8 16 false := ⟨_, _, rfl, by decide, by decide, rfl, rfl, jd_mem 154 (by decide +kernel) (by decide +kernel)⟩
theorem fX9_38 : jd_fl RX9 38 9 9 16 false := ⟨_, _, rfl, by decide, by decide, rfl, rfl, jd_mem 155 (by decide +kernel) (by decide +kernel)⟩
theorem fX9_41 : jd_fl RX9 41 9 10 16 false := ⟨_, _, rfl, by decide, by decide, rfl, rfl, jd_mem 156 (by decide +kernel) (by decide +kernel)⟩
theorem fX9_44 : jd_fl RX9 44 9 11 16 false := ⟨_, _, rfl, by decide, by decide, rfl, rfl, jd_mem 157 (by decide +kernel) (by decide +kernel)⟩
theorem fX9_47 : jd_fl RX9 47 9 12 16 false := ⟨_, _, rfl, by decide, by decide, rfl, rfl, jd_mem 158 (by decide +kernel) (by decide +kernel)⟩
theorem fX9_50 : jd_fl RX9 50 9 13 16 false := ⟨_, _, rfl, by decide, by decide, rfl, rfl, jd_mem 159 (by decide +kernel) (by decide +kernel)⟩
theorem fX9_54 : jd_fl RX9 54 9 14 16 false := ⟨_, _, rfl, by decide, by decide, rfl, rfl, jd_mem 160 (by decide +kernel) (by decide +kernel)⟩
theorem fX9_57 : jd_fl RX9 57 9 15 16 false := ⟨_, _, rfl, by decide, by decide, rfl, rfl, jd_mem 162 (by decide +kernel) (by decide +kernel)⟩
theorem fX9_60 : jd_fl RX9 60 9 0 16 true := ⟨_, _, rfl, by decide, by decide, rfl, rfl, jd_mem 146 (by decide +kernel) (by decide +kernel)⟩
theorem dX7_weigh_0 : decode cX7_weigh 0 = .ok (.aload_n 0, 1) := by decide +kernel
theorem dX7_weigh_1 : decode cX7_weigh 1 = .ok (.aload_n 1, 1) := by decide +kernel
theorem dX7_weigh_2 : decode cX7_weigh 2 = .ok (.getfield 23, 3) := by decide +kernel
theorem dX7_weigh_5 : decode cX7_weigh 5 = .ok (.putfield 15, 3) := by decide +kernel
theorem dX7_weigh_8 : decode cX7_weigh 8 = .ok (.aload_n 0, 1) := by decide +kernel
theorem dX7_weigh_9 : decode cX7_weigh 9 = .ok (.lconst 0, 1) := by decide +kernel
theorem dX7_weigh_10 : decode cX7_weigh 10 = .ok (.putfield 19, 3) := by decide +kernel
theorem dX7_weigh_13 : decode cX7_weigh 13 = .ok (.iconst 0, 1) := by decide +kernel
theorem dX7_weigh_14 : decode cX7_weigh 14 = .ok (.istore_n 2, 1) := by decide +kernel
theorem dX7_weigh_15 : decode cX7_weigh 15 = .ok (.iload_n 2, 1) := by decide +kernel
theorem dX7_weigh_16 : decode cX7_weigh 16 = .ok (.aload_n 0, 1) := by decide +kernel
theorem dX7_weigh_17 : decode cX7_weigh 17 = .ok (.getfield 15, 3) := by decide +kernel
theorem dX7_weigh_20 : decode cX7_weigh 20 = .ok (.if_icmp .ge 35, 3) := by decide +kernel
theorem dX7_weigh_23 : decode cX7_weigh 23 = .ok (.aload_n 0, 1) := by decide +kernel
theorem dX7_weigh_24 : decode cX7_weigh 24 = .ok (.getfield 9, 3) := by decide +kernel
theorem dX7_weigh_27 : decode cX7_weigh 27 = .ok (.iload_n 2, 1) := by decide +kernel
theorem dX7_weigh_28 : decode cX7_weigh 28 = .ok (.aload_n 1, 1) := by decide +kernel
theorem dX7_weigh_29 : decode cX7_weigh 29 = .ok (.iload_n 2, 1) := by decide +kernel
theorem dX7_weigh_30 : decode cX7_weigh 30 = .ok (.invokestatic 26, 3) := by decide +kernel
theorem dX7_weigh_33 : decode cX7_weigh 33 = .ok (.lastore, 1) := by decide +kernel
theorem dX7_weigh_34 : decode cX7_weigh 34 = .ok (.aload_n 0, 1) := by decide +kernel
theorem dX7_weigh_35 : decode cX7_weigh 35 = .ok (.dup, 1) := by decide +kernel
theorem dX7_weigh_36 : decode cX7_weigh 36 = .ok (.getfield 19, 3) := by decide +kernel
theorem dX7_weigh_39 : decode cX7_weigh 39 = .ok (.aload_n 0, 1) := by decide +kernel
theorem dX7_weigh_40 : decode cX7_weigh 40 = .ok (.getfield 9, 3) := by decide +kernel
theorem dX7_weigh_43 : decode cX7_weigh 43 = .ok (.iload_n 2, 1) := by decide +kernel
theorem dX7_weigh_44 : decode cX7_weigh 44 = .ok (.laload, 1) := by decide +kernel
theorem dX7_weigh_45 : decode cX7_weigh 45 = .ok (.ladd, 1) := by decide +kernel
theorem dX7_weigh_46 : decode cX7_weigh 46 = .ok (.putfield 19, 3) := by decide +kernel
theorem dX7_weigh_49 : decode cX7_weigh 49 = .ok (.iinc 2 1, 3) := by decide +kernel
theorem dX7_weigh_52 : decode cX7_weigh 52 = .ok (.goto (-37), 3) := by decide +kernel
theorem dX7_weigh_55 : decode cX7_weigh 55 = .ok (.return_, 1) := by decide +kernel
theorem dX7_weightOf_0 : decode cX7_weightOf 0 = .ok (.lconst 0, 1) := by decide +kernel
theorem dX7_weightOf_1 : decode cX7_weightOf 1 = .ok (.lstore_n 2, 1) := by decide +kernel
theorem dX7_weightOf_2 : decode cX7_weightOf 2 = .ok (.iconst 0, 1) := by decide +kernel
theorem dX7_weightOf_3 : decode cX7_weightOf 3 = .ok (.istore 4, 2) := by decide +kernel
theorem dX7_weightOf_5 : decode cX7_weightOf 5 = .ok (.iload 4, 2) := by decide +kernel
theorem dX7_weightOf_7 : decode cX7_weightOf 7 = .ok (.aload_n 0, 1) := by decide +kernel
theorem dX7_weightOf_8 : decode cX7_weightOf 8 = .ok (.getfield 15, 3) := by decide +kernel
theorem dX7_weightOf_11 : decode cX7_weightOf 11 = .ok (.if_icmp .ge 28, 3) := by decide +kernel
theorem dX7_weightOf_14 : decode cX7_weightOf 14 = .ok (.iload_n 1, 1) := by decide +kernel
theorem dX7_weightOf_15 : decode cX7_weightOf 15 = .ok (.iload 4, 2) := by decide +kernel
theorem dX7_weightOf_17 : decode cX7_weightOf 17 = .ok (.invokestatic 37, 3) := by decide +kernel
theorem dX7_weightOf_20 : decode cX7_weightOf 20 = .ok (.ifCond .eq 13, 3) := by decide +kernel
theorem dX7_weightOf_23 : decode cX7_weightOf 23 = .ok (.lload_n 2, 1) := by decide +kernel
theorem dX7_weightOf_24 : decode cX7_weightOf 24 = .ok (.aload_n 0, 1) := by decide +kernel
theorem dX7_weightOf_25 : decode cX7_weightOf 25 = .ok (.getfield 9, 3) := by decide +kernel
theorem dX7_weightOf_28 : decode cX7_weightOf 28 = .ok (.iload 4, 2) := by decide +kernel
theorem dX7_weightOf_30 : decode cX7_weightOf 30 = .ok (.laload, 1) := by decide +kernel
theorem dX7_weightOf_31 : decode cX7_weightOf 31 = .ok (.ladd, 1) := by decide +kernel
theorem dX7_weightOf_32 : decode cX7_weightOf 32 = .ok (.lstore_n 2, 1) := by decide +kernel
theorem dX7_weightOf_33 : decode cX7_weightOf 33 = .ok (.iinc 4 1, 3) := by decide +kernel
theorem dX7_weightOf_36 : decode cX7_weightOf 36 = .ok (.goto (-31), 3) := by decide +kernel
theorem dX7_weightOf_39 : decode cX7_weightOf 39 = .ok (.lload_n 2, 1) := by decide +kernel
theorem dX7_weightOf_40 : decode cX7_weightOf 40 = .ok (.lreturn, 1) := by decide +kernel
theorem dX7_heaviest_0 : decode cX7_heaviest 0 = .ok (.bipush (-2), 2) := by decide +kernel
theorem dX7_heaviest_2 : decode cX7_heaviest 2 = .ok (.istore_n 1, 1) := by decide +kernel
theorem dX7_heaviest_3 : decode cX7_heaviest 3 = .ok (.lconst 0, 1) := by decide +kernel
theorem dX7_heaviest_4 : decode cX7_heaviest 4 = .ok (.lstore_n 2, 1) := by decide +kernel
theorem dX7_heaviest_5 : decode cX7_heaviest 5 = .ok (.iconst 0, 1) := by decide +kernel
theorem dX7_heaviest_6 : decode cX7_heaviest 6 = .ok (.istore 4, 2) := by decide +kernel
theorem dX7_heaviest_8 : decode cX7_heaviest 8 = .ok (.iload 4, 2) := by decide +kernel
theorem dX7_heaviest_10 : decode cX7_heaviest 10 = .ok (.aload_n 0, 1) := by decide +kernel
theorem dX7_heaviest_11 : decode cX7_heaviest 11 = .ok (.getfield 15, 3) := by decide +kernel
theorem dX7_heaviest_14 : decode cX7_heaviest 14 = .ok (.if_icmp .ge 32, 3) := by decide +kernel
theorem dX7_heaviest_17 : decode cX7_heaviest 17 = .ok (.aload_n 0, 1) := by decide +kernel
theorem dX7_heaviest_18 : decode cX7_heaviest 18 = .ok (.getfield 9, 3) := by decide +kernel
theorem dX7_heaviest_21 : decode cX7_heaviest 21 = .ok (.iload 4, 2) := by decide +kernel
theorem dX7_heaviest_23 : decode cX7_heaviest 23 = .ok (.laload, 1) := by decide +kernel
theorem dX7_heaviest_24 : decode cX7_heaviest 24 = .ok (.lload_n 2, 1) := by decide +kernel
theorem dX7_heaviest_25 : decode cX7_heaviest 25 = .ok (.lcmp, 1) := by decide +kernel
theorem dX7_heaviest_26 : decode cX7_heaviest 26 = .ok (.ifCond .le 14, 3) := by decide +kernel
theorem dX7_heaviest_29 : decode cX7_heaviest 29 = .ok (.aload_n 0, 1) := by decide +kernel
theorem dX7_heaviest_30 : decode cX7_heaviest 30 = .ok (.getfield 9, 3) := by decide +kernel
theorem dX7_heaviest_33 : decode cX7_heaviest 33 = .ok (.iload 4, 2) := by decide +kernel
theorem dX7_heaviest_35 : decode cX7_heaviest 35 = .ok (.laload, 1) := by decide +kernel
theorem dX7_heaviest_36 : decode cX7_heaviest 36 = .ok (.lstore_n 2, 1) := by decide +kernel
theorem dX7_heaviest_37 : decode cX7_heaviest 37 = .ok (.iload 4, 2) := by decide +kernel
theorem dX7_heaviest_39 : decode cX7_heaviest 39 = .ok (.istore_n 1, 1) := by decide +kernel
theorem dX7_heaviest_40 : decode cX7_heaviest 40 = .ok (.iinc 4 1, 3) := by decide +kernel
theorem dX7_heaviest_43 : decode cX7_heaviest 43 = .ok (.goto (-35), 3) := by decide +kernel
theorem dX7_heaviest_46 : decode cX7_heaviest 46 = .ok (.iload_n 1, 1) := by decide +kernel
theorem dX7_heaviest_47 : decode cX7_heaviest 47 = .ok (.ireturn, 1) := by decide +kernel
theorem dX7_fewestByHalf_0 : decode cX7_fewestByHalf 0 = .ok (.bipush (-2), 2) := by decide +kernel
theorem dX7_fewestByHalf_2 : decode cX7_fewestByHalf 2 = .ok (.istore_n 1, 1) := by decide +kernel
theorem dX7_fewestByHalf_3 : decode cX7_fewestByHalf 3 = .ok (.iconst 1, 1) := by decide +kernel
theorem dX7_fewestByHalf_4 : decode cX7_fewestByHalf 4 = .ok (.istore_n 2, 1) := by decide +kernel
theorem dX7_fewestByHalf_5 : decode cX7_fewestByHalf 5 = .ok (.iload_n 2, 1) := by decide +kernel
theorem dX7_fewestByHalf_6 : decode cX7_fewestByHalf 6 = .ok (.iconst 1, 1) := by decide +kernel
theorem dX7_fewestByHalf_7 : decode cX7_fewestByHalf 7 = .ok (.aload_n 0, 1) := by decide +kernel
theorem dX7_fewestByHalf_8 : decode cX7_fewestByHalf 8 = .ok (.getfield 15, 3) := by decide +kernel
theorem dX7_fewestByHalf_11 : decode cX7_fewestByHalf 11 = .ok (.ishl, 1) := by decide +kernel
theorem dX7_fewestByHalf_12 : decode cX7_fewestByHalf 12 = .ok (.if_icmp .ge 45, 3) := by decide +kernel
theorem dX7_fewestByHalf_15 : decode cX7_fewestByHalf 15 = .ok (.ldc2_w 41, 3) := by decide +kernel
theorem dX7_fewestByHalf_18 : decode cX7_fewestByHalf 18 = .ok (.aload_n 0, 1) := by decide +kernel
theorem dX7_fewestByHalf_19 : decode cX7_fewestByHalf 19 = .ok (.iload_n 2, 1) := by decide +kernel
theorem dX7_fewestByHalf_20 : decode cX7_fewestByHalf 20 = .ok (.invokevirtual 43, 3) := by decide +kernel
theorem dX7_fewestByHalf_23 : decode cX7_fewestByHalf 23 = .ok (.lmul, 1) := by decide +kernel
theorem dX7_fewestByHalf_24 : decode cX7_fewestByHalf 24 = .ok (.aload_n 0, 1) := by decide +kernel
theorem dX7_fewestByHalf_25 : decode cX7_fewestByHalf 25 = .ok (.getfield 19, 3) := by decide +kernel
theorem dX7_fewestByHalf_28 : decode cX7_fewestByHalf 28 = .ok (.lcmp, 1) := by decide +kernel
theorem dX7_fewestByHalf_29 : decode cX7_fewestByHalf 29 = .ok (.ifCond .le 22, 3) := by decide +kernel
theorem dX7_fewestByHalf_32 : decode cX7_fewestByHalf 32 = .ok (.iload_n 1, 1) := by decide +kernel
theorem dX7_fewestByHalf_33 : decode cX7_fewestByHalf 33 = .ok (.bipush (-2), 2) := by decide +kernel
theorem dX7_fewestByHalf_35 : decode cX7_fewestByHalf 35 = .ok (.if_icmp .eq 14, 3) := by decide +kernel
theorem dX7_fewestByHalf_38 : decode cX7_fewestByHalf 38 = .ok (.iload_n 2, 1) := by decide +kernel
theorem dX7_fewestByHalf_39 : decode cX7_fewestByHalf 39 = .ok (.invokestatic 47, 3) := by decide +kernel
theorem dX7_fewestByHalf_42 : decode cX7_fewestByHalf 42 = .ok (.iload_n 1, 1) := by decide +kernel
theorem dX7_fewestByHalf_43 : decode cX7_fewestByHalf 43 = .ok (.invokestatic 47, 3) := by decide +kernel
theorem dX7_fewestByHalf_46 : decode cX7_fewestByHalf 46 = .ok (.if_icmp .ge 5, 3) := by decide +kernel
theorem dX7_fewestByHalf_49 : decode cX7_fewestByHalf 49 = .ok (.iload_n 2, 1) := by decide +kernel
theorem dX7_fewestByHalf_50 : decode cX7_fewestByHalf 50 = .ok (.istore_n 1, 1) := by decide +kernel
theorem dX7_fewestByHalf_51 : decode cX7_fewestByHalf 51 = .ok (.iinc 2 1, 3) := by decide +kernel
theorem dX7_fewestByHalf_54 : decode cX7_fewestByHalf 54 = .ok (.goto (-49), 3) := by decide +kernel
theorem dX7_fewestByHalf_57 : decode cX7_fewestByHalf 57 = .ok (.iload_n 1, 1) := by decide +kernel
theorem dX7_fewestByHalf_58 : decode cX7_fewestByHalf 58 = .ok (.ireturn, 1) := by decide +kernel
theorem dX8_init_0 : decode cX8_init 0 = .ok (.aload_n 0, 1) := by decide +kernel
theorem dX8_init_1 : decode cX8_init 1 = .ok (.invokespecial 3, 3) := by decide +kernel
theorem dX8_init_4 : decode cX8_init 4 = .ok (.aload_n 0, 1) := by decide +kernel
theorem dX8_init_5 : decode cX8_init 5 = .ok (.sipush 900, 3) := by decide +kernel
theorem dX8_init_8 : decode cX8_init 8 = .ok (.newarray .byte, 2) := by decide +kernel
theorem dX8_init_10 : decode cX8_init 10 = .ok (.putfield 9, 3) := by decide +kernel
theorem dX8_init_13 : decode cX8_init 13 = .ok (.aload_n 0, 1) := by decide +kernel
theorem dX8_init_14 : decode cX8_init 14 = .ok (.iconst 0, 1) := by decide +kernel
theorem dX8_init_15 : decode cX8_init 15 = .ok (.putfield 15, 3) := by decide +kernel
theorem dX8_init_18 : decode cX8_init 18 = .ok (.return_, 1) := by decide +kernel
theorem dX8_hasRoomFor_0 : decode cX8_hasRoomFor 0 = .ok (.aload_n 0, 1) := by decide +kernel
theorem dX8_hasRoomFor_1 : decode cX8_hasRoomFor 1 = .ok (.getfield 15, 3) := by decide +kernel
theorem dX8_hasRoomFor_4 : decode cX8_hasRoomFor 4 = .ok (.iload_n 1, 1) := by decide +kernel
theorem dX8_hasRoomFor_5 : decode cX8_hasRoomFor 5 = .ok (.iadd, 1) := by decide +kernel
theorem dX8_hasRoomFor_6 : decode cX8_hasRoomFor 6 = .ok (.sipush 900, 3) := by decide +kernel
theorem dX8_hasRoomFor_9 : decode cX8_hasRoomFor 9 = .ok (.if_icmp .gt 7, 3) := by decide +kernel
theorem dX8_hasRoomFor_12 : decode cX8_hasRoomFor 12 = .ok (.iconst 1, 1) := by decide +kernel
theorem dX8_hasRoomFor_13 : decode cX8_hasRoomFor 13 = .ok (.goto 4, 3) := by decide +kernel
theorem dX8_hasRoomFor_16 : decode cX8_hasRoomFor 16 = .ok (.iconst 0, 1) := by decide +kernel
theorem dX8_hasRoomFor_17 : decode cX8_hasRoomFor 17 = .ok (.ireturn, 1) := by decide +kernel
theorem dX8_put_0 : decode cX8_put 0 = .ok (.bipush 24, 2) := by decide +kernel
theorem dX8_put_2 : decode cX8_put 2 = .ok (.istore_n 2, 1) := by decide +kernel
theorem dX8_put_3 : decode cX8_put 3 = .ok (.iload_n 2, 1) := by decide +kernel
theorem dX8_put_4 : decode cX8_put 4 = .ok (.ifCond .lt 49, 3) := by decide +kernel
theorem dX8_put_7 : decode cX8_put 7 = .ok (.aload_n 0, 1) := by decide +kernel
theorem dX8_put_8 : decode cX8_put 8 = .ok (.getfield 15, 3) := by decide +kernel
theorem dX8_put_11 : decode cX8_put 11 = .ok (.ifCond .lt 36, 3) := by decide +kernel
theorem dX8_put_14 : decode cX8_put 14 = .ok (.aload_n 0, 1) := by decide +kernel
theorem dX8_put_15 : decode cX8_put 15 = .ok (.getfield 15, 3) := by decide +kernel
theorem dX8_put_18 : decode cX8_put 18 = .ok (.sipush 900, 3) := by decide +kernel
theorem dX8_put_21 : decode cX8_put 21 = .ok (.if_icmp .ge 26, 3) := by decide +kernel
theorem dX8_put_24 : decode cX8_put 24 = .ok (.aload_n 0, 1) := by decide +kernel
theorem dX8_put_25 : decode cX8_put 25 = .ok (.getfield 9, 3) := by decide +kernel
theorem dX8_put_28 : decode cX8_put 28 = .ok (.aload_n 0, 1) := by decide +kernel
theorem dX8_put_29 : decode cX8_put 29 = .ok (.getfield 15, 3) := by decide +kernel
theorem dX8_put_32 : decode cX8_put 32 = .ok (.iload_n 1, 1) := by decide +kernel
theorem dX8_put_33 : decode cX8_put 33 = .ok (.iload_n 2, 1) := by decide +kernel
theorem dX8_put_34 : decode cX8_put 34 = .ok (.ishr, 1) := by decide +kernel
theorem dX8_put_35 : decode cX8_put 35 = .ok (.i2b, 1) := by decide +kernel
theorem dX8_put_36 : decode cX8_put 36 = .ok (.bastore, 1) := by decide +kernel
theorem dX8_put_37 : decode cX8_put 37 = .ok (.aload_n 0, 1) := by decide +kernel
theorem dX8_put_38 : decode cX8_put 38 = .ok (.dup, 1) := by decide +kernel
theorem dX8_put_39 : decode cX8_put 39 = .ok (.getfield 15, 3) := by decide +kernel
theorem dX8_put_42 : decode cX8_put 42 = .ok (.iconst 1, 1) := by decide +kernel
theorem dX8_put_43 : decode cX8_put 43 = .ok (.iadd, 1) := by decide +kernel
theorem dX8_put_44 : decode cX8_put 44 = .ok (.putfield 15, 3) := by decide +kernel
theorem dX8_put_47 : decode cX8_put 47 = .ok (.iinc 2 (-8), 3) := by decide +kernel
theorem dX8_put_50 : decode cX8_put 50 = .ok (.goto (-47), 3) := by decide +kernel
theorem dX8_put_53 : decode cX8_put 53 = .ok (.return_, 1) := by decide +kernel
theorem dX9_init_0 : decode cX9_init 0 = .ok (.aload_n 0, 1) := by decide +kernel
theorem dX9_init_1 : decode cX9_init 1 = .ok (.invokespecial 3, 3) := by decide +kernel
theorem dX9_init_4 : decode cX9_init 4 = .ok (.aload_n 0, 1) := by decide +kernel
theorem dX9_init_5 : decode cX9_init 5 = .ok (.bipush 11, 2) := by decide +kernel
theorem dX9_init_7 : decode cX9_init 7 = .ok (.newarray .int, 2) := by decide +kernel
theorem dX9_init_9 : decode cX9_init 9 = .ok (.putfield 11, 3) := by decide +kernel
theorem dX9_init_12 : decode cX9_init 12 = .ok (.aload_n 0, 1) := by decide +kernel
theorem dX9_init_13 : decode cX9_init 13 = .ok (.bipush 11, 2) := by decide +kernel
theorem dX9_init_15 : decode cX9_init 15 = .ok (.newarray .int, 2) := by decide +kernel
theorem dX9_init_17 : decode cX9_init 17 = .ok (.putfield 15, 3) := by decide +kernel
theorem dX9_init_20 : decode cX9_init 20 = .ok (.aload_n 0, 1) := by decide +kernel
theorem dX9_init_21 : decode cX9_init 21 = .ok (.bipush 11, 2) := by decide +kernel
theorem dX9_init_23 : decode cX9_init 23 = .ok (.newarray .int, 2) := by decide +kernel
theorem dX9_init_25 : decode cX9_init 25 = .ok (.putfield 18, 3) := by decide +kernel
theorem dX9_init_28 : decode cX9_init 28 = .ok (.aload_n 0, 1) := by decide +kernel
theorem dX9_init_29 : decode cX9_init 29 = .ok (.bipush 11, 2) := by decide +kernel
theorem dX9_init_31 : decode cX9_init 31 = .ok (.newarray .boolean, 2) := by decide +kernel
theorem dX9_init_33 : decode cX9_init 33 = .ok (.putfield 21, 3) := by decide +kernel
theorem dX9_init_36 : decode cX9_init 36 = .ok (.aload_n 0, 1) := by decide +kernel
theorem dX9_init_37 : decode cX9_init 37 = .ok (.iconst 0, 1) := by decide +kernel
theorem dX9_init_38 : decode cX9_init 38 = .ok (.putfield 25, 3) := by decide +kernel
theorem dX9_init_41 : decode cX9_init 41 = .ok (.aload_n 0, 1) := by decide +kernel
theorem dX9_init_42 : decode cX9_init 42 = .ok (.iconst 0, 1) := by decide +kernel
theorem dX9_init_43 : decode cX9_init 43 = .ok (.putfield 29, 3) := by decide +kernel
theorem dX9_init_46 : decode cX9_init 46 = .ok (.aload_n 0, 1) := by decide +kernel
theorem dX9_init_47 : decode cX9_init 47 = .ok (.iconst 0, 1) := by decide +kernel
theorem dX9_init_48 : decode cX9_init 48 = .ok (.putfield 32, 3) := by decide +kernel
theorem dX9_init_51 : decode cX9_init 51 = .ok (.aload_n 0, 1) := by decide +kernel
theorem dX9_init_52 : decode cX9_init 52 = .ok (.iconst 0, 1) := by decide +kernel
theorem dX9_init_53 : decode cX9_init 53 = .ok (.putfield 35, 3) := by decide +kernel
theorem dX9_init_56 : decode cX9_init 56 = .ok (.aload_n 0, 1) := by decide +kernel
theorem dX9_init_57 : decode cX9_init 57 = .ok (.iconst 0, 1) := by decide +kernel
theorem dX9_init_58 : decode cX9_init 58 = .ok (.putfield 38, 3) := by decide +kernel
theorem dX9_init_61 : decode cX9_init 61 = .ok (.aload_n 0, 1) := by decide +kernel
theorem dX9_init_62 : decode cX9_init 62 = .ok (.iconst 0, 1) := by decide +kernel
theorem dX9_init_63 : decode cX9_init 63 = .ok (.putfield 41, 3) := by decide +kernel
theorem dX9_init_66 : decode cX9_init 66 = .ok (.aload_n 0, 1) := by decide +kernel
theorem dX9_init_67 : decode cX9_init 67 = .ok (.iconst 0, 1) := by decide +kernel
theorem dX9_init_68 : decode cX9_init 68 = .ok (.putfield 44, 3) := by decide +kernel
theorem dX9_init_71 : decode cX9_init 71 = .ok (.aload_n 0, 1) := by decide +kernel
theorem dX9_init_72 : decode cX9_init 72 = .ok (.iconst (-1), 1) := by decide +kernel
theorem dX9_init_73 : decode cX9_init 73 = .ok (.putfield 47, 3) := by decide +kernel
theorem dX9_init_76 : decode cX9_init 76 = .ok (.aload_n 0, 1) := by decide +kernel
theorem dX9_init_77 : decode cX9_init 77 = .ok (.iconst 0, 1) := by decide +kernel
theorem dX9_init_78 : decode cX9_init 78 = .ok (.putfield 50, 3) := by decide +kernel
theorem dX9_init_81 : decode cX9_init 81 = .ok (.aload_n 0, 1) := by decide +kernel
theorem dX9_init_82 : decode cX9_init 82 = .ok (.iconst 0, 1) := by decide +kernel
theorem dX9_init_83 : decode cX9_init 83 = .ok (.putfield 54, 3) := by decide +kernel
theorem dX9_init_86 : decode cX9_init 86 = .ok (.aload_n 0, 1) := by decide +kernel
theorem dX9_init_87 : decode cX9_init 87 = .ok (.iconst (-1), 1) := by decide +kernel
theorem dX9_init_88 : decode cX9_init 88 = .ok (.putfield 57, 3) := by decide +kernel
theorem dX9_init_91 : decode cX9_init 91 = .ok (.aload_n 0, 1) := by decide +kernel
theorem dX9_init_92 : decode cX9_init 92 = .ok (.aload_n 1, 1) := by decide +kernel
theorem dX9_init_93 : decode cX9_init 93 = .ok (.putfield 60, 3) := by decide +kernel
theorem dX9_init_96 : decode cX9_init 96 = .ok (.return_, 1) := by decide +kernel
theorem dX10_clear_0 : decode cX10_clear 0 = .ok (.iconst 0, 1) := by decide +kernel
theorem dX10_clear_1 : decode cX10_clear 1 = .ok (.istore_n 1, 1) := by decide +kernel
theorem dX10_clear_2 : decode cX10_clear 2 = .ok (.iload_n 1, 1) := by decide +kernel
theorem dX10_clear_3 : decode cX10_clear 3 = .ok (.bipush 6, 2) := by decide +kernel
theorem dX10_clear_5 : decode cX10_clear 5 = .ok (.if_icmp .ge 23, 3) := by decide +kernel
theorem dX10_clear_8 : decode cX10_clear 8 = .ok (.aload_n 0, 1) := by decide +kernel
theorem dX10_clear_9 : decode cX10_clear 9 = .ok (.getfield 24, 3) := by decide +kernel
theorem dX10_clear_12 : decode cX10_clear 12 = .ok (.iload_n 1, 1) := by decide +kernel
theorem dX10_clear_13 : decode cX10_clear 13 = .ok (.iconst 0, 1) := by decide +kernel
theorem dX10_clear_14 : decode cX10_clear 14 = .ok (.iastore, 1) := by decide +kernel
theorem dX10_clear_15 : decode cX10_clear 15 = .ok (.aload_n 0, 1) := by decide +kernel
theorem dX10_clear_16 : decode cX10_clear 16 = .ok (.getfield 27, 3) := by decide +kernel
theorem dX10_clear_19 : decode cX10_clear 19 = .ok (.iload_n 1, 1) := by decide +kernel
theorem dX10_clear_20 : decode cX10_clear 20 = .ok (.iconst 0, 1) := by decide +kernel
theorem dX10_clear_21 : decode cX10_clear 21 = .ok (.iastore, 1) := by decide +kernel
theorem dX10_clear_22 : decode cX10_clear 22 = .ok (.iinc 1 1, 3) := by decide +kernel
theorem dX10_clear_25 : decode cX10_clear 25 = .ok (.goto (-23), 3) := by decide +kernel
theorem dX10_clear_28 : decode cX10_clear 28 = .ok (.aload_n 0, 1) := by decide +kernel
theorem dX10_clear_29 : decode cX10_clear 29 = .ok (.iconst 0, 1) := by decide +kernel
theorem dX10_clear_30 : decode cX10_clear 30 = .ok (.putfield 46, 3) := by decide +kernel
theorem dX10_clear_33 : decode cX10_clear 33 = .ok (.aload_n 0, 1) := by decide +kernel
theorem dX10_clear_34 : decode cX10_clear 34 = .ok (.iconst 0, 1) := by decide +kernel
theorem dX10_clear_35 : decode cX10_clear 35 = .ok (.putfield 49, 3) := by decide +kernel
theorem dX10_clear_38 : decode cX10_clear 38 = .ok (.aload_n 0, 1) := by decide +kernel
theorem dX10_clear_39 : decode cX10_clear 39 = .ok (.iconst 0, 1) := by decide +kernel
theorem dX10_clear_40 : decode cX10_clear 40 = .ok (.putfield 52, 3) := by decide +kernel
theorem dX10_clear_43 : decode cX10_clear 43 = .ok (.aload_n 0, 1) := by decide +kernel
theorem dX10_clear_44 : decode cX10_clear 44 = .ok (.iconst 0, 1) := by decide +kernel
theorem dX10_clear_45 : decode cX10_clear 45 = .ok (.putfield 55, 3) := by decide +kernel
theorem dX10_clear_48 : decode cX10_clear 48 = .ok (.aload_n 0, 1) := by decide +kernel
theorem dX10_clear_49 : decode cX10_clear 49 = .ok (.iconst 0, 1) := by decide +kernel
theorem dX10_clear_50 : decode cX10_clear 50 = .ok (.putfield 58, 3) := by decide +kernel
theorem dX10_clear_53 : decode cX10_clear 53 = .ok (.return_, 1) := by decide +kernel
theorem dX9_isLetter_0 : decode cX9_isLetter 0 = .ok (.iload_n 0, 1) := by decide +kernel
theorem dX9_isLetter_1 : decode cX9_isLetter 1 = .ok (.bipush 97, 2) := by decide +kernel
theorem dX9_isLetter_3 : decode cX9_isLetter 3 = .ok (.if_icmp .lt 13, 3) := by decide +kernel
theorem dX9_isLetter_6 : decode cX9_isLetter 6 = .ok (.iload_n 0, 1) := by decide +kernel
theorem dX9_isLetter_7 : decode cX9_isLetter 7 = .ok (.bipush 122, 2) := by decide +kernel
theorem dX9_isLetter_9 : decode cX9_isLetter 9 = .ok (.if_icmp .gt 7, 3) := by decide +kernel
theorem dX9_isLetter_12 : decode cX9_isLetter 12 = .ok (.iconst 1, 1) := by decide +kernel
theorem dX9_isLetter_13 : decode cX9_isLetter 13 = .ok (.goto 4, 3) := by decide +kernel
theorem dX9_isLetter_16 : decode cX9_isLetter 16 = .ok (.iconst 0, 1) := by decide +kernel
theorem dX9_isLetter_17 : decode cX9_isLetter 17 = .ok (.ireturn, 1) := by decide +kernel
theorem dX9_isDigit_0 : decode cX9_isDigit 0 = .ok (.iload_n 0, 1) := by decide +kernel
theorem dX9_isDigit_1 : decode cX9_isDigit 1 = .ok (.bipush 48, 2) := by decide +kernel
theorem dX9_isDigit_3 : decode cX9_isDigit 3 = .ok (.if_icmp .lt 13, 3) := by decide +kernel
theorem dX9_isDigit_6 : decode cX9_isDigit 6 = .ok (.iload_n 0, 1) := by decide +kernel
theorem dX9_isDigit_7 : decode cX9_isDigit 7 = .ok (.bipush 57, 2) := by decide +kernel
theorem dX9_isDigit_9 : decode cX9_isDigit 9 = .ok (.if_icmp .gt 7, 3) := by decide +kernel
theorem dX9_isDigit_12 : decode cX9_isDigit 12 = .ok (.iconst 1, 1) := by decide +kernel
theorem dX9_isDigit_13 : decode cX9_isDigit 13 = .ok (.goto 4, 3) := by decide +kernel
theorem dX9_isDigit_16 : decode cX9_isDigit 16 = .ok (.iconst 0, 1) := by decide +kernel
theorem dX9_isDigit_17 : decode cX9_isDigit 17 = .ok (.ireturn, 1) := by decide +kernel
def m_X7_weigh (t : Nat) (o0p : (Option Nat)) (σ : jd_Hp) : Option (Unit × jd_Hp) :=
jd_o σ (10, 16) o0p fun a1 =>
jd_li (jd_pi σ t 1 (σ.2.1 a1 11)) fun τ2 =>
jd_li (jd_pl τ2 t 2 0) fun τ3 =>
jd_b (jd_lp (S := Int32) (T := Unit) (fun s4 σ4 =>
jd_o σ4 (7, 3) (some t) fun a6 =>
jd_if ((σ4.2.1 a6 1) ≤ s4) (
some ((Sum.inr ()), σ4)) (
jd_b (m_X7_weightIfSinking o0p s4 σ4) fun r7 σ7 =>
jd_ia σ7 23 (σ4.2.2.2 a6 0) s4 fun a8 j8 =>
jd_li (jd_pl σ7 a8 j8 r7) fun τ9 =>
jd_ia τ9 23 (τ9.2.2.2 a6 0) s4 fun a10 j10 =>
jd_li (jd_pl τ9 a6 2 ((τ9.2.2.1 a6 2) + (τ9.2.2.1 a10 j10))) fun τ11 =>
some (Sum.inl (s4 + 1), τ11))) jd_fu 0 τ3) fun t5 σ5 =>
some ((), σ5)
set_option maxHeartbeats 4000000 in
set_option maxRecDepth 20000 in
theorem c_X7_weigh {l : Launch} {s0 : State} {G : jd_G} (hF : jd_F s0 G) (σ : jd_Hp) (t : Nat) (ht : σ.1[t]? = some (7, 3)) (o0p : (Option Nat)) : jd_M l s0 G yX7_weigh cX7_weigh 3 none 1 je_v [jd_v G (some t), jd_v G o0p] σ (m_X7_weigh t o0p σ) := by
  refine jd_enter hF (by decide) (fun G => [some (jd_v G (some t)), some (jd_v G o0p), none]) rfl (by simp [lv_args, jd_al, jd_v_cat, jd_cti, jd_ctl]) (by simp [lg_sl, jd_v_cat, jd_cti, jd_ctl]) (fun X hD hX => ?_)
  have hX : jd_C X RX7 "weigh" cX7_weigh 3 none := hX
  unfold m_X7_weigh
  refine jr_ald0 (pc := 0) hX dX7_weigh_0 ?_
  refine jr_ald1 (pc := 1) hX dX7_weigh_1 ?_
  refine jr_ck0 (fun a1 e1 h1 => ?_)
  refine jr_geti (pc := 2) hX fX7_23 rfl dX7_weigh_2 h1 ?_
  refine jr_puti (pc := 5) hX fX7_15 rfl dX7_weigh_5 ht ?_
  refine jr_li ?_
  refine jr_ald0 (pc := 8) hX dX7_weigh_8 ?_
  refine jr_lconst (pc := 9) hX 0 rfl dX7_weigh_9 ?_
  refine jr_putl (pc := 10) hX fX7_19 rfl dX7_weigh_10 ht ?_
  refine jr_li ?_
  refine jr_iconst (pc := 13) hX 0 rfl dX7_weigh_13 ?_
  refine jr_ist2 (pc := 14) hX (jn_r _ _) dX7_weigh_14 ?_
  refine jr_loop (pc := 15) (fun (s4 : Int32) => [some (jd_v (jd_gG X) (some t)), some (jd_v (jd_gG X) o0p), some (.int s4)]) (fun (t5 : Unit) => [none, none, none]) 55 0 (fun t5 σ5 => ?_) (fun K4 bk4 ex4 s4 σ4 => ?_)
  · exact jr_vret (pc := 55) hX dX7_weigh_55 rfl
  · refine jr_ild2 (pc := 15) hX dX7_weigh_15 ?_
    refine jr_ald0 (pc := 16) hX dX7_weigh_16 ?_
    refine jr_ck0 (fun a6 e6 h6 => ?_)
    refine jr_geti (pc := 17) hX fX7_15 rfl dX7_weigh_17 h6 ?_
    refine jr_icge (pc := 20) hX 55 dX7_weigh_20 (by decide) ?_ ?_
    · refine jr_wk [false, false, false] ?_
      exact ex4 () _
    · refine jr_ald0 (pc := 23) hX dX7_weigh_23 ?_
      refine jr_ek0 e6 ?_
      refine jr_getr (pc := 24) hX fX7_9 rfl dX7_weigh_24 h6 ?_
      refine jr_ild2 (pc := 27) hX dX7_weigh_27 ?_
      refine jr_ald1 (pc := 28) hX dX7_weigh_28 ?_
      refine jr_ild2 (pc := 29) hX dX7_weigh_29 ?_
      refine jr_cS2l (pc := 30) hX lX7_26 (c_X7_weightIfSinking hX.F σ4 _ _) (jd_dd hD rfl) (by simp [jd_v_cat, jd_cti, jd_ctl]) dX7_weigh_30 (fun r7 σ7 p7 => ?_)
      refine jr_laS (pc := 33) hX dX7_weigh_33 (fun a8 n8 e8 h8 => ?_)
      refine jr_li ?_
      refine jr_ald0 (pc := 34) hX dX7_weigh_34 ?_
      refine jr_dup (pc := 35) hX (jd_v_cat _ _) dX7_weigh_35 ?_
      refine jr_ek0 e6 ?_
      refine jr_getl (pc := 36) hX fX7_19 rfl dX7_weigh_36 (p7.at h6 :) ?_
      refine jr_ald0 (pc := 39) hX dX7_weigh_39 ?_
      refine jr_ek0 e6 ?_
      refine jr_getr (pc := 40) hX fX7_9 rfl dX7_weigh_40 (p7.at h6 :) ?_
      refine jr_ild2 (pc := 43) hX dX7_weigh_43 ?_
      refine jr_laC (pc := 44) hX dX7_weigh_44 (fun a10 n10 e10 h10 => ?_)
      refine jr_ladd (pc := 45) hX dX7_weigh_45 ?_
      refine jr_ek1 e6 ?_
      refine jr_putl (pc := 46) hX fX7_19 rfl dX7_weigh_46 (p7.at h6 :) ?_
      refine jr_li ?_
      refine jr_inc2 (pc := 49) hX 1 rfl (jn_r _ _) dX7_weigh_49 ?_
      refine jr_goto (pc := 52) hX 15 dX7_weigh_52 (by decide) ?_
      exact bk4 (s4 + 1) _
def m_X7_weightOf (t : Nat) (x0p : Int32) (σ : jd_Hp) : Option (Int64 × jd_Hp) :=
jd_b (jd_lp (S := Int64 × Int32) (T := Int64) (fun s1 σ1 =>
jd_o σ1 (7, 3) (some t) fun a3 =>
jd_if ((σ1.2.1 a3 1) ≤ s1.2) (
some ((Sum.inr s1.1), σ1)) (
jd_b (m_X11_has x0p s1.2 σ1) fun r4 σ4 =>
jd_if (r4 = 0) (
some (Sum.inl (s1.1, (s1.2 + 1)), σ4)) (
jd_ia σ4 23 (σ4.2.2.2 a3 0) s1.2 fun a5 j5 =>
jd_li (s1.1 + (σ4.2.2.1 a5 j5)) fun x6 =>
some (Sum.inl (x6, (s1.2 + 1)), σ4)))) jd_fu (0, 0) σ) fun t2 σ2 =>
some (t2, σ2)
set_option maxHeartbeats 4000000 in
set_option maxRecDepth 20000 in
theorem c_X7_weightOf {l : Launch} {s0 : State} {G : jd_G} (hF : jd_F s0 G) (σ : jd_Hp) (t : Nat) (ht : σ.1[t]? = some (7, 3)) (x0p : Int32) : jd_M l s0 G yX7_weightOf cX7_weightOf 5 (some .long) 1 je_l [jd_v G (some t), .int x0p] σ (m_X7_weightOf t x0p σ) := by
  refine jd_enter hF (by decide) (fun G => [some (jd_v G (some t)), some (.int x0p), none, none, none]) rfl (by simp [lv_args, jd_al, jd_v_cat, jd_cti, jd_ctl]) (by simp [lg_sl, jd_v_cat, jd_cti, jd_ctl]) (fun X hD hX => ?_)
  have hX : jd_C X RX7 "weightOf" cX7_weightOf 5 (some .long) := hX
  unfold m_X7_weightOf
  refine jr_lconst (pc := 0) hX 0 rfl dX7_weightOf_0 ?_
  refine jr_lst2 (pc := 1) hX (jn_i _) dX7_weightOf_1 ?_
  refine jr_iconst (pc := 2) hX 0 rfl dX7_weightOf_2 ?_
  refine jr_ist4 (pc := 3) hX jn_n dX7_weightOf_3 ?_
  refine jr_loop (pc := 5) (fun (s1 : Int64 × Int32) => [some (jd_v (jd_gG X) (some t)), some (.int x0p), some (.long s1.1), none, some (.int s1.2)]) (fun (t2 : Int64) => [none, none, some (.long t2), none, none]) 39 (0, 0) (fun t2 σ2 => ?_) (fun K1 bk1 ex1 s1 σ1 => ?_)
  · refine jr_lld2 (pc := 39) hX dX7_weightOf_39 ?_
    exact jr_lret (pc := 40) hX dX7_weightOf_40 rfl
  · refine jr_ild4 (pc := 5) hX dX7_weightOf_5 ?_
    refine jr_ald0 (pc := 7) hX dX7_weightOf_7 ?_
    refine jr_ck0 (fun a3 e3 h3 => ?_)
    refine jr_geti (pc := 8) hX fX7_15 rfl dX7_weightOf_8 h3 ?_
    refine jr_icge (pc := 11) hX 39 dX7_weightOf_11 (by decide) ?_ ?_
    · refine jr_wk [false, false, true, true, false] ?_
      exact ex1 s1.1 _
    · refine jr_ild1 (pc := 14) hX dX7_weightOf_14 ?_
      refine jr_ild4 (pc := 15) hX dX7_weightOf_15 ?_
      refine jr_cS2i (pc := 17) hX lX7_37 (c_X11_has hX.F σ1 _ _) (jd_dd hD rfl) (Nat.le_of_ble_eq_true rfl) dX7_weightOf_17 (fun r4 σ4 p4 => ?_)
      refine jr_ifeq (pc := 20) hX 33 dX7_weightOf_20 (by decide) ?_ ?_
      · refine jr_inc4 (pc := 33) hX 1 rfl jn_n dX7_weightOf_33 ?_
        refine jr_goto (pc := 36) hX 5 dX7_weightOf_36 (by decide) ?_
        exact bk1 (s1.1, (s1.2 + 1)) _
      · refine jr_lld2 (pc := 23) hX dX7_weightOf_23 ?_
        refine jr_ald0 (pc := 24) hX dX7_weightOf_24 ?_
        refine jr_ek0 e3 ?_
        refine jr_getr (pc := 25) hX fX7_9 rfl dX7_weightOf_25 (p4.at h3 :) ?_
        refine jr_ild4 (pc := 28) hX dX7_weightOf_28 ?_
        refine jr_laC (pc := 30) hX dX7_weightOf_30 (fun a5 n5 e5 h5 => ?_)
        refine jr_ladd (pc := 31) hX dX7_weightOf_31 ?_
        refine jr_lst2 (pc := 32) hX (jn_i _) dX7_weightOf_32 ?_
        refine jr_li ?_
        refine jr_inc4 (pc := 33) hX 1 rfl jn_n dX7_weightOf_33 ?_
        refine jr_goto (pc := 36) hX 5 dX7_weightOf_36 (by decide) ?_
        exact bk1 ((s1.1 + (σ4.2.2.1 a5 s1.2.toNatClampNeg)), (s1.2 + 1)) _
def m_X7_heaviest (t : Nat) (σ : jd_Hp) : Option (Int32 × jd_Hp) :=
jd_b (jd_lp (S := Int32 × Int64 × Int32) (T := Int32) (fun s1 σ1 =>
jd_o σ1 (7, 3) (some t) fun a3 =>
jd_if ((σ1.2.1 a3 1) ≤ s1.2.2) (
some ((Sum.inr s1.1), σ1)) (
jd_ia σ1 23 (σ1.2.2.2 a3 0) s1.2.2 fun a4 j4 =>
jd_if ((lg_cmp (σ1.2.2.1 a4 j4) s1.2.1) ≤ 0) (
some (Sum.inl (s1.1, s1.2.1, (s1.2.2 + 1)), σ1)) (
jd_ia σ1 23 (σ1.2.2.2 a3 0) s1.2.2 fun a5 j5 =>
jd_li (σ1.2.2.1 a5 j5) fun x6 =>
some (Sum.inl (s1.2.2, x6, (s1.2.2 + 1)), σ1)))) jd_fu ((-2), 0, 0) σ) fun t2 σ2 =>
some (t2, σ2)
set_option maxHeartbeats 4000000 in
set_option maxRecDepth 20000 in
theorem c_X7_heaviest {l : Launch} {s0 : State} {G : jd_G} (hF : jd_F s0 G) (σ : jd_Hp) (t : Nat) (ht : σ.1[t]? = some (7, 3)) : jd_M l s0 G yX7_heaviest cX7_heaviest 5 (some .int) 0 je_i [jd_v G (some t)] σ (m_X7_heaviest t σ) := by
  refine jd_enter hF (by decide) (fun G => [some (jd_v G (some t)), none, none, none, none]) rfl (by simp [lv_args, jd_al, jd_v_cat, jd_cti, jd_ctl]) (by simp [lg_sl, jd_v_cat, jd_cti, jd_ctl]) (fun X hD hX => ?_)
  have hX : jd_C X RX7 "heaviest" cX7_heaviest 5 (some .int) := hX
  unfold m_X7_heaviest
  refine jr_bipush (pc := 0) hX (-2) rfl dX7_heaviest_0 ?_
  refine jr_ist1 (pc := 2) hX (jn_r _ _) dX7_heaviest_2 ?_
  refine jr_lconst (pc := 3) hX 0 rfl dX7_heaviest_3 ?_
  refine jr_lst2 (pc := 4) hX (jn_i _) dX7_heaviest_4 ?_
  refine jr_iconst (pc := 5) hX 0 rfl dX7_heaviest_5 ?_
  refine jr_ist4 (pc := 6) hX jn_n dX7_heaviest_6 ?_
  refine jr_loop (pc := 8) (fun (s1 : Int32 × Int64 × Int32) => [some (jd_v (jd_gG X) (some t)), some (.int s1.1), some (.long s1.2.1), none, some (.int s1.2.2)]) (fun (t2 : Int32) => [none, some (.int t2), none, none, none]) 46 ((-2), 0, 0) (fun t2 σ2 => ?_) (fun K1 bk1 ex1 s1 σ1 => ?_)
  · refine jr_ild1 (pc := 46) hX dX7_heaviest_46 ?_
    exact jr_iret (pc := 47) hX dX7_heaviest_47 rfl
  · refine jr_ild4 (pc := 8) hX dX7_heaviest_8 ?_
    refine jr_ald0 (pc := 10) hX dX7_heaviest_10 ?_
    refine jr_ck0 (fun a3 e3 h3 => ?_)
    refine jr_geti (pc := 11) hX fX7_15 rfl dX7_heaviest_11 h3 ?_
    refine jr_icge (pc := 14) hX 46 dX7_heaviest_14 (by decide) ?_ ?_
    · refine jr_wk [false, true, false, true, false] ?_
      exact ex1 s1.1 _
    · refine jr_ald0 (pc := 17) hX dX7_heaviest_17 ?_
      refine jr_ek0 e3 ?_
      refine jr_getr (pc := 18) hX fX7_9 rfl dX7_heaviest_18 h3 ?_
      refine jr_ild4 (pc := 21) hX dX7_heaviest_21 ?_
      refine jr_laC (pc := 23) hX dX7_heaviest_23 (fun a4 n4 e4 h4 => ?_)
      refine jr_lld2 (pc := 24) hX dX7_heaviest_24 ?_
      refine jr_lcmp (pc := 25) hX dX7_heaviest_25 ?_
      refine jr_ifle (pc := 26) hX 40 dX7_heaviest_26 (by decide) ?_ ?_
      · refine jr_inc4 (pc := 40) hX 1 rfl jn_n dX7_heaviest_40 ?_
        refine jr_goto (pc := 43) hX 8 dX7_heaviest_43 (by decide) ?_
        exact bk1 (s1.1, s1.2.1, (s1.2.2 + 1)) _
      · refine jr_ald0 (pc := 29) hX dX7_heaviest_29 ?_
        refine jr_ek0 e3 ?_
        refine jr_getr (pc := 30) hX fX7_9 rfl dX7_heaviest_30 h3 ?_
        refine jr_ild4 (pc := 33) hX dX7_heaviest_33 ?_
        refine jr_laC (pc := 35) hX dX7_heaviest_35 (fun a5 n5 e5 h5 => ?_)
        refine jr_lst2 (pc := 36) hX (jn_i _) dX7_heaviest_36 ?_
        refine jr_li ?_
        refine jr_ild4 (pc := 37) hX dX7_heaviest_37 ?_
        refine jr_ist1 (pc := 39) hX (jn_r _ _) dX7_heaviest_39 ?_
        refine jr_inc4 (pc := 40) hX 1 rfl jn_n dX7_heaviest_40 ?_
        refine jr_goto (pc := 43) hX 8 dX7_heaviest_43 (by decide) ?_
        exact bk1 (s1.2.2, (σ1.2.2.1 a5 s1.2.2.toNatClampNeg), (s1.2.2 + 1)) _
def m_X7_fewestByHalf (t : Nat) (σ : jd_Hp) : Option (Int32 × jd_Hp) :=
jd_b (jd_lp (S := Int32 × Int32) (T := Int32) (fun s1 σ1 =>
jd_o σ1 (7, 3) (some t) fun a3 =>
jd_if ((1 <<< ((σ1.2.1 a3 1) &&& 31)) ≤ s1.2) (
some ((Sum.inr s1.1), σ1)) (
jd_b (m_X7_weightOf a3 s1.2 σ1) fun r4 σ4 =>
jd_if ((lg_cmp (2 * r4) (σ4.2.2.1 a3 2)) ≤ 0) (
some (Sum.inl (s1.1, (s1.2 + 1)), σ4)) (
jd_if (s1.1 = (-2)) (
some (Sum.inl (s1.2, (s1.2 + 1)), σ4)) (
jd_b (m_J6_bitCount_0f7a4 s1.2 σ4) fun r5 σ5 =>
jd_b (m_J6_bitCount_0f7a4 s1.1 σ5) fun r6 σ6 =>
jd_if (r6 ≤ r5) (
some (Sum.inl (s1.1, (s1.2 + 1)), σ6)) (
some (Sum.inl (s1.2, (s1.2 + 1)), σ6)))))) jd_fu ((-2), 1) σ) fun t2 σ2 =>
some (t2, σ2)
set_option maxHeartbeats 4000000 in
set_option maxRecDepth 20000 in
theorem c_X7_fewestByHalf {l : Launch} {s0 : State} {G : jd_G} (hF : jd_F s0 G) (σ : jd_Hp) (t : Nat) (ht : σ.1[t]? = some (7, 3)) : jd_M l s0 G yX7_fewestByHalf cX7_fewestByHalf 3 (some .int) 2 je_i [jd_v G (some t)] σ (m_X7_fewestByHalf t σ) := by
  refine jd_enter hF (by decide) (fun G => [some (jd_v G (some t)), none, none]) rfl (by simp [lv_args, jd_al, jd_v_cat, jd_cti, jd_ctl]) (by simp [lg_sl, jd_v_cat, jd_cti, jd_ctl]) (fun X hD hX => ?_)
  have hX : jd_C X RX7 "fewestByHalf" cX7_fewestByHalf 3 (some .int) := hX
  unfold m_X7_fewestByHalf
  refine jr_bipush (pc := 0) hX (-2) rfl dX7_fewestByHalf_0 ?_
  refine jr_ist1 (pc := 2) hX (jn_r _ _) dX7_fewestByHalf_2 ?_
  refine jr_iconst (pc := 3) hX 1 rfl dX7_fewestByHalf_3 ?_
  refine jr_ist2 (pc := 4) hX (jn_i _) dX7_fewestByHalf_4 ?_
  refine jr_loop (pc := 5) (fun (s1 : Int32 × Int32) => [some (jd_v (jd_gG X) (some t)), some (.int s1.1), some (.int s1.2)]) (fun (t2 : Int32) => [none, some (.int t2), none]) 57 ((-2), 1) (fun t2 σ2 => ?_) (fun K1 bk1 ex1 s1 σ1 => ?_)
  · refine jr_ild1 (pc := 57) hX dX7_fewestByHalf_57 ?_
    exact jr_iret (pc := 58) hX dX7_fewestByHalf_58 rfl
  · refine jr_ild2 (pc := 5) hX dX7_fewestByHalf_5 ?_
    refine jr_iconst (pc := 6) hX 1 rfl dX7_fewestByHalf_6 ?_
    refine jr_ald0 (pc := 7) hX dX7_fewestByHalf_7 ?_
    refine jr_ck0 (fun a3 e3 h3 => ?_)
    refine jr_geti (pc := 8) hX fX7_15 rfl dX7_fewestByHalf_8 h3 ?_
    refine jr_ishl (pc := 11) hX dX7_fewestByHalf_11 ?_
    refine jr_icge (pc := 12) hX 57 dX7_fewestByHalf_12 (by decide) ?_ ?_
    · refine jr_wk [false, true, false] ?_
      exact ex1 s1.1 _
    · refine jr_ldc2 (pc := 15) hX kX7_41 dX7_fewestByHalf_15 ?_
      refine jr_ald0 (pc := 18) hX dX7_fewestByHalf_18 ?_
      refine jr_ild2 (pc := 19) hX dX7_fewestByHalf_19 ?_
      refine jr_ek1 e3 ?_
      refine jr_cV1l (pc := 20) hX lX7_43 (c_X7_weightOf hX.F σ1 a3 h3 _) (jd_dd hD rfl) (Nat.le_of_ble_eq_true rfl) dX7_fewestByHalf_20 h3 (fun r4 σ4 p4 => ?_)
      refine jr_lmul (pc := 23) hX dX7_fewestByHalf_23 ?_
      refine jr_ald0 (pc := 24) hX dX7_fewestByHalf_24 ?_
      refine jr_ek0 e3 ?_
      refine jr_getl (pc := 25) hX fX7_19 rfl dX7_fewestByHalf_25 (p4.at h3 :) ?_
      refine jr_lcmp (pc := 28) hX dX7_fewestByHalf_28 ?_
      refine jr_ifle (pc := 29) hX 51 dX7_fewestByHalf_29 (by decide) ?_ ?_
      · refine jr_inc2 (pc := 51) hX 1 rfl (jn_i _) dX7_fewestByHalf_51 ?_
        refine jr_goto (pc := 54) hX 5 dX7_fewestByHalf_54 (by decide) ?_
        exact bk1 (s1.1, (s1.2 + 1)) _
      · refine jr_ild1 (pc := 32) hX dX7_fewestByHalf_32 ?_
        refine jr_bipush (pc := 33) hX (-2) rfl dX7_fewestByHalf_33 ?_
        refine jr_iceq (pc := 35) hX 49 dX7_fewestByHalf_35 (by decide) ?_ ?_
        · refine jr_ild2 (pc := 49) hX dX7_fewestByHalf_49 ?_
          refine jr_ist1 (pc := 50) hX (jn_r _ _) dX7_fewestByHalf_50 ?_
          refine jr_inc2 (pc := 51) hX 1 rfl (jn_i _) dX7_fewestByHalf_51 ?_
          refine jr_goto (pc := 54) hX 5 dX7_fewestByHalf_54 (by decide) ?_
          exact bk1 (s1.2, (s1.2 + 1)) _
        · refine jr_ild2 (pc := 38) hX dX7_fewestByHalf_38 ?_
          refine jr_cS1i (pc := 39) hX lX7_47 (c_J6_bitCount_0f7a4 hX.F σ4 _) (jd_dd hD rfl) (Nat.le_of_ble_eq_true rfl) dX7_fewestByHalf_39 (fun r5 σ5 p5 => ?_)
          refine jr_ild1 (pc := 42) hX dX7_fewestByHalf_42 ?_
          refine jr_cS1i (pc := 43) hX lX7_47 (c_J6_bitCount_0f7a4 hX.F σ5 _) (jd_dd hD rfl) (Nat.le_of_ble_eq_true rfl) dX7_fewestByHalf_43 (fun r6 σ6 p6 => ?_)
          refine jr_icge (pc := 46) hX 51 dX7_fewestByHalf_46 (by decide) ?_ ?_
          · refine jr_inc2 (pc := 51) hX 1 rfl (jn_i _) dX7_fewestByHalf_51 ?_
            refine jr_goto (pc := 54) hX 5 dX7_fewestByHalf_54 (by decide) ?_
            exact bk1 (s1.1, (s1.2 + 1)) _
          · refine jr_ild2 (pc := 49) hX dX7_fewestByHalf_49 ?_
            refine jr_ist1 (pc := 50) hX (jn_r _ _) dX7_fewestByHalf_50 ?_
            refine jr_inc2 (pc := 51) hX 1 rfl (jn_i _) dX7_fewestByHalf_51 ?_
            refine jr_goto (pc := 54) hX 5 dX7_fewestByHalf_54 (by decide) ?_
            exact bk1 (s1.2, (s1.2 + 1)) _
def m_X8_init (t : Nat) (σ : jd_Hp) : Option (Unit × jd_Hp) :=
jd_li (jd_new σ (21, 900)) fun τ1 =>
jd_li (jd_pr τ1 t 0 (some σ.1.length)) fun τ2 =>
jd_li (jd_pi τ2 t 1 0) fun τ3 =>
some ((), τ3)
set_option maxHeartbeats 4000000 in
set_option maxRecDepth 20000 in
theorem c_X8_init {l : Launch} {s0 : State} {G : jd_G} (hF : jd_F s0 G) (σ : jd_Hp) (t : Nat) (ht : σ.1[t]? = some (8, 2)) : jd_M l s0 G yX8_init cX8_init 1 none 1 je_v [jd_v G (some t)] σ (m_X8_init t σ) := by
  refine jd_enter hF (by decide) (fun G => [some (jd_v G (some t))]) rfl (by simp [lv_args, jd_al, jd_v_cat, jd_cti, jd_ctl]) (by simp [lg_sl, jd_v_cat, jd_cti, jd_ctl]) (fun X hD hX => ?_)
  have hX : jd_C X RX8 "<init>" cX8_init 1 none := hX
  unfold m_X8_init
  refine jr_ald0 (pc := 0) hX dX8_init_0 ?_
  refine jr_oinit (pc := 1) hX lX8_3 (jd_d1 hD rfl) (Nat.le_of_ble_eq_true rfl) dX8_init_1 ?_
  refine jr_ald0 (pc := 4) hX dX8_init_4 ?_
  refine jr_sipush (pc := 5) hX 900 rfl dX8_init_5 ?_
  refine jr_newab (pc := 8) hX 900 (by decide) (by decide) (by decide) aC_byte dX8_init_8 ?_
  refine jr_li ?_
  refine jr_putrF (pc := 10) hX fX8_9 rfl ⟨_, _, rfl, rfl⟩ rfl dX8_init_10 ((jd_p.new σ (21, 900)).at ht :) ?_
  refine jr_li ?_
  refine jr_ald0 (pc := 13) hX dX8_init_13 ?_
  refine jr_iconst (pc := 14) hX 0 rfl dX8_init_14 ?_
  refine jr_puti (pc := 15) hX fX8_15 rfl dX8_init_15 ((jd_p.new σ (21, 900)).at ht :) ?_
  refine jr_li ?_
  exact jr_vret (pc := 18) hX dX8_init_18 rfl
def m_X8_hasRoomFor (t : Nat) (x0p : Int32) (σ : jd_Hp) : Option (Int32 × jd_Hp) :=
jd_if (900 < ((σ.2.1 t 1) + x0p)) (
some (0, σ)) (
some (1, σ))
set_option maxHeartbeats 4000000 in
set_option maxRecDepth 20000 in
theorem c_X8_hasRoomFor {l : Launch} {s0 : State} {G : jd_G} (hF : jd_F s0 G) (σ : jd_Hp) (t : Nat) (ht : σ.1[t]? = some (8, 2)) (x0p : Int32) : jd_M l s0 G yX8_hasRoomFor cX8_hasRoomFor 2 (some .boolean) 0 je_i [jd_v G (some t), .int x0p] σ (m_X8_hasRoomFor t x0p σ) := by
  refine jd_enter hF (by decide) (fun G => [some (jd_v G (some t)), some (.int x0p)]) rfl (by simp [lv_args, jd_al, jd_v_cat, jd_cti, jd_ctl]) (by simp [lg_sl, jd_v_cat, jd_cti, jd_ctl]) (fun X hD hX => ?_)
  have hX : jd_C X RX8 "hasRoomFor" cX8_hasRoomFor 2 (some .boolean) := hX
  unfold m_X8_hasRoomFor
  refine jr_ald0 (pc := 0) hX dX8_hasRoomFor_0 ?_
  refine jr_geti (pc := 1) hX fX8_15 rfl dX8_hasRoomFor_1 ht ?_
  refine jr_ild1 (pc := 4) hX dX8_hasRoomFor_4 ?_
  refine jr_iadd (pc := 5) hX dX8_hasRoomFor_5 ?_
  refine jr_sipush (pc := 6) hX 900 rfl dX8_hasRoomFor_6 ?_
  refine jr_icgt (pc := 9) hX 16 dX8_hasRoomFor_9 (by decide) ?_ ?_
  · refine jr_iconst (pc := 16) hX 0 rfl dX8_hasRoomFor_16 ?_
    exact jr_zret (pc := 17) hX dX8_hasRoomFor_17 (Or.inl rfl) rfl
  · refine jr_iconst (pc := 12) hX 1 rfl dX8_hasRoomFor_12 ?_
    refine jr_goto (pc := 13) hX 17 dX8_hasRoomFor_13 (by decide) ?_
    exact jr_zret (pc := 17) hX dX8_hasRoomFor_17 (Or.inr rfl) rfl
def m_X8_put (t : Nat) (x0p : Int32) (σ : jd_Hp) : Option (Unit × jd_Hp) :=
jd_b (jd_lp (S := Int32) (T := Unit) (fun s1 σ1 =>
jd_if (s1 < 0) (
some ((Sum.inr ()), σ1)) (
jd_o σ1 (8, 2) (some t) fun a3 =>
jd_if ((σ1.2.1 a3 1) < 0) (
some (Sum.inl (s1 + (-8)), σ1)) (
jd_if (900 ≤ (σ1.2.1 a3 1)) (
some (Sum.inl (s1 + (-8)), σ1)) (
jd_ia σ1 21 (σ1.2.2.2 a3 0) (σ1.2.1 a3 1) fun a4 j4 =>
jd_li (jd_pi σ1 a4 j4 (vp_nar .byte ((x0p >>> (s1 &&& 31)).toInt8.toInt32))) fun τ5 =>
jd_li (jd_pi τ5 a3 1 ((τ5.2.1 a3 1) + 1)) fun τ6 =>
some (Sum.inl (s1 + (-8)), τ6))))) jd_fu 24 σ) fun t2 σ2 =>
some ((), σ2)
set_option maxHeartbeats 4000000 in
set_option maxRecDepth 20000 in
theorem c_X8_put {l : Launch} {s0 : State} {G : jd_G} (hF : jd_F s0 G) (σ : jd_Hp) (t : Nat) (ht : σ.1[t]? = some (8, 2)) (x0p : Int32) : jd_M l s0 G yX8_put cX8_put 3 none 0 je_v [jd_v G (some t), .int x0p] σ (m_X8_put t x0p σ) := by
  refine jd_enter hF (by decide) (fun G => [some (jd_v G (some t)), some (.int x0p), none]) rfl (by simp [lv_args, jd_al, jd_v_cat, jd_cti, jd_ctl]) (by simp [lg_sl, jd_v_cat, jd_cti, jd_ctl]) (fun X hD hX => ?_)
  have hX : jd_C X RX8 "put" cX8_put 3 none := hX
  unfold m_X8_put
  refine jr_bipush (pc := 0) hX 24 rfl dX8_put_0 ?_
  refine jr_ist2 (pc := 2) hX (jn_i _) dX8_put_2 ?_
  refine jr_loop (pc := 3) (fun (s1 : Int32) => [some (jd_v (jd_gG X) (some t)), some (.int x0p), some (.int s1)]) (fun (t2 : Unit) => [none, none, none]) 53 24 (fun t2 σ2 => ?_) (fun K1 bk1 ex1 s1 σ1 => ?_)
  · exact jr_vret (pc := 53) hX dX8_put_53 rfl
  · refine jr_ild2 (pc := 3) hX dX8_put_3 ?_
    refine jr_iflt (pc := 4) hX 53 dX8_put_4 (by decide) ?_ ?_
    · refine jr_wk [false, false, false] ?_
      exact ex1 () _
    · refine jr_ald0 (pc := 7) hX dX8_put_7 ?_
      refine jr_ck0 (fun a3 e3 h3 => ?_)
      refine jr_geti (pc := 8) hX fX8_15 rfl dX8_put_8 h3 ?_
      refine jr_iflt (pc := 11) hX 47 dX8_put_11 (by decide) ?_ ?_
      · refine jr_inc2 (pc := 47) hX (-8) rfl (jn_i _) dX8_put_47 ?_
        refine jr_goto (pc := 50) hX 3 dX8_put_50 (by decide) ?_
        exact bk1 (s1 + (-8)) _
      · refine jr_ald0 (pc := 14) hX dX8_put_14 ?_
        refine jr_ek0 e3 ?_
        refine jr_geti (pc := 15) hX fX8_15 rfl dX8_put_15 h3 ?_
        refine jr_sipush (pc := 18) hX 900 rfl dX8_put_18 ?_
        refine jr_icge (pc := 21) hX 47 dX8_put_21 (by decide) ?_ ?_
        · refine jr_inc2 (pc := 47) hX (-8) rfl (jn_i _) dX8_put_47 ?_
          refine jr_goto (pc := 50) hX 3 dX8_put_50 (by decide) ?_
          exact bk1 (s1 + (-8)) _
        · refine jr_ald0 (pc := 24) hX dX8_put_24 ?_
          refine jr_ek0 e3 ?_
          refine jr_getr (pc := 25) hX fX8_9 rfl dX8_put_25 h3 ?_
          refine jr_ald0 (pc := 28) hX dX8_put_28 ?_
          refine jr_ek0 e3 ?_
          refine jr_geti (pc := 29) hX fX8_15 rfl dX8_put_29 h3 ?_
          refine jr_ild1 (pc := 32) hX dX8_put_32 ?_
          refine jr_ild2 (pc := 33) hX dX8_put_33 ?_
          refine jr_ishr (pc := 34) hX dX8_put_34 ?_
          refine jr_i2b (pc := 35) hX dX8_put_35 ?_
          refine jr_baS (pc := 36) hX dX8_put_36 (fun a4 n4 e4 h4 => ?_)
          refine jr_li ?_
          refine jr_ald0 (pc := 37) hX dX8_put_37 ?_
          refine jr_dup (pc := 38) hX (jd_v_cat _ _) dX8_put_38 ?_
          refine jr_ek0 e3 ?_
          refine jr_geti (pc := 39) hX fX8_15 rfl dX8_put_39 h3 ?_
          refine jr_iconst (pc := 42) hX 1 rfl dX8_put_42 ?_
          refine jr_iadd (pc := 43) hX dX8_put_43 ?_
          refine jr_ek1 e3 ?_
          refine jr_puti (pc := 44) hX fX8_15 rfl dX8_put_44 h3 ?_
          refine jr_li ?_
          refine jr_inc2 (pc := 47) hX (-8) rfl (jn_i _) dX8_put_47 ?_
          refine jr_goto (pc := 50) hX 3 dX8_put_50 (by decide) ?_
          exact bk1 (s1 + (-8)) _
def m_X9_init (t : Nat) (o0p : (Option Nat)) (σ : jd_Hp) : Option (Unit × jd_Hp) :=
jd_li (jd_new σ (20, 11)) fun τ1 =>
jd_li (jd_pr τ1 t 1 (some σ.1.length)) fun τ2 =>
jd_li (jd_new τ2 (20, 11)) fun τ3 =>
jd_li (jd_pr τ3 t 2 (some τ2.1.length)) fun τ4 =>
jd_li (jd_new τ4 (20, 11)) fun τ5 =>
jd_li (jd_pr τ5 t 3 (some τ4.1.length)) fun τ6 =>
jd_li (jd_new τ6 (22, 11)) fun τ7 =>
jd_li (jd_pr τ7 t 4 (some τ6.1.length)) fun τ8 =>
jd_li (jd_pi τ8 t 5 0) fun τ9 =>
jd_li (jd_pi τ9 t 6 0) fun τ10 =>
jd_li (jd_pi τ10 t 7 0) fun τ11 =>
jd_li (jd_pi τ11 t 8 0) fun τ12 =>
jd_li (jd_pi τ12 t 9 0) fun τ13 =>
jd_li (jd_pi τ13 t 10 0) fun τ14 =>
jd_li (jd_pi τ14 t 11 0) fun τ15 =>
jd_li (jd_pi τ15 t 12 (-1)) fun τ16 =>
jd_li (jd_pi τ16 t 13 0) fun τ17 =>
jd_li (jd_pi τ17 t 14 0) fun τ18 =>
jd_li (jd_pi τ18 t 15 (-1)) fun τ19 =>
jd_li (jd_pr τ19 t 0 o0p) fun τ20 =>
some ((), τ20)
set_option maxHeartbeats 4000000 in
set_option maxRecDepth 20000 in
theorem c_X9_init {l : Launch} {s0 : State} {G : jd_G} (hF : jd_F s0 G) (σ : jd_Hp) (t : Nat) (ht : σ.1[t]? = some (9, 16)) (o0p : (Option Nat)) : jd_M l s0 G yX9_init cX9_init 2 none 1 je_v [jd_v G (some t), jd_v G o0p] σ (m_X9_init t o0p σ) := by
  refine jd_enter hF (by decide) (fun G => [some (jd_v G (some t)), some (jd_v G o0p)]) rfl (by simp [lv_args, jd_al, jd_v_cat, jd_cti, jd_ctl]) (by simp [lg_sl, jd_v_cat, jd_cti, jd_ctl]) (fun X hD hX => ?_)
  have hX : jd_C X RX9 "<init>" cX9_init 2 none := hX
  unfold m_X9_init
  refine jr_ald0 (pc := 0) hX dX9_init_0 ?_
  refine jr_oinit (pc := 1) hX lX9_3 (jd_d1 hD rfl) (Nat.le_of_ble_eq_true rfl) dX9_init_1 ?_
  refine jr_ald0 (pc := 4) hX dX9_init_4 ?_
  refine jr_bipush (pc := 5) hX 11 rfl dX9_init_5 ?_
  refine jr_newai (pc := 7) hX 11 (by decide) (by decide) (by decide) aC_int dX9_init_7 ?_
  refine jr_li ?_
  refine jr_putrF (pc := 9) hX fX9_11 rfl ⟨_, _, rfl, rfl⟩ rfl dX9_init_9 ((jd_p.new σ (20, 11)).at ht :) ?_
  refine jr_li ?_
  refine jr_ald0 (pc := 12) hX dX9_init_12 ?_
  refine jr_bipush (pc := 13) hX 11 rfl dX9_init_13 ?_
  refine jr_newai (pc := 15) hX 11 (by decide) (by decide) (by decide) aC_int dX9_init_15 ?_
  refine jr_li ?_
  refine jr_putrF (pc := 17) hX fX9_15 rfl ⟨_, _, rfl, rfl⟩ rfl dX9_init_17 ((jd_p.new (jd_pr (jd_new σ (20, 11)) t 1 (some σ.1.length)) (20, 11)).at ((jd_p.new σ (20, 11)).at ht :) :) ?_
  refine jr_li ?_
  refine jr_ald0 (pc := 20) hX dX9_init_20 ?_
  refine jr_bipush (pc := 21) hX 11 rfl dX9_init_21 ?_
  refine jr_newai (pc := 23) hX 11 (by decide) (by decide) (by decide) aC_int dX9_init_23 ?_
  refine jr_li ?_
  refine jr_putrF (pc := 25) hX fX9_18 rfl ⟨_, _, rfl, rfl⟩ rfl dX9_init_25 ((jd_p.new (jd_pr (jd_new (jd_pr (jd_new σ (20, 11)) t 1 (some σ.1.length)) (20, 11)) t 2 (some (jd_pr (jd_new σ (20, 11)) t 1 (some σ.1.length)).1.length)) (20, 11)).at ((jd_p.new (jd_pr (jd_new σ (20, 11)) t 1 (some σ.1.length)) (20, 11)).at ((jd_p.new σ (20, 11)).at ht :) :) :) ?_
  refine jr_li ?_
  refine jr_ald0 (pc := 28) hX dX9_init_28 ?_
  refine jr_bipush (pc := 29) hX 11 rfl dX9_init_29 ?_
  refine jr_newaz (pc := 31) hX 11 (by decide) (by decide) (by decide) aC_boolean dX9_init_31 ?_
  refine jr_li ?_
  refine jr_putrF (pc := 33) hX fX9_21 rfl ⟨_, _, rfl, rfl⟩ rfl dX9_init_33 ((jd_p.new (jd_pr (jd_new (jd_pr (jd_new (jd_pr (jd_new σ (20, 11)) t 1 (some σ.1.length)) (20, 11)) t 2 (some (jd_pr (jd_new σ (20, 11)) t 1 (some σ.1.length)).1.length)) (20, 11)) t 3 (some (jd_pr (jd_new (jd_pr (jd_new σ (20, 11)) t 1 (some σ.1.length)) (20, 11)) t 2 (some (jd_pr (jd_new σ (20, 11)) t 1 (some σ.1.length)).1.length)).1.length)) (22, 11)).at ((jd_p.new (jd_pr (jd_new (jd_pr (jd_new σ (20, 11)) t 1 (some σ.1.length)) (20, 11)) t 2 (some (jd_pr (jd_new σ (20, 11)) t 1 (some σ.1.length)).1.length)) (20, 11)).at ((jd_p.new (jd_pr (jd_new σ (20, 11)) t 1 (some σ.1.length)) (20, 11)).at ((jd_p.new σ (20, 11)).at ht :) :) :) :) ?_
  refine jr_li ?_
  refine jr_ald0 (pc := 36) hX dX9_init_36 ?_
  refine jr_iconst (pc := 37) hX 0 rfl dX9_init_37 ?_
  refine jr_puti (pc := 38) hX fX9_25 rfl dX9_init_38 ((jd_p.new (jd_pr (jd_new (jd_pr (jd_new (jd_pr (jd_new σ (20, 11)) t 1 (some σ.1.length)) (20, 11)) t 2 (some (jd_pr (jd_new σ (20, 11)) t 1 (some σ.1.length)).1.length)) (20, 11)) t 3 (some (jd_pr (jd_new (jd_pr (jd_new σ (20, 11)) t 1 (some σ.1.length)) (20, 11)) t 2 (some (jd_pr (jd_new σ (20, 11)) t 1 (some σ.1.length)).1.length)).1.length)) (22, 11)).at ((jd_p.new (jd_pr (jd_new (jd_pr (jd_new σ (20, 11)) t 1 (some σ.1.length)) (20, 11)) t 2 (some (jd_pr (jd_new σ (20, 11)) t 1 (some σ.1.length)).1.length)) (20, 11)).at ((jd_p.new (jd_pr (jd_new σ (20, 11)) t 1 (some σ.1.length)) (20, 11)).at ((jd_p.new σ (20, 11)).at ht :) :) :) :) ?_
  refine jr_li ?_
  refine jr_ald0 (pc := 41) hX dX9_init_41 ?_
  refine jr_iconst (pc := 42) hX 0 rfl dX9_init_42 ?_
  refine jr_puti (pc := 43) hX fX9_29 rfl dX9_init_43 ((jd_p.new (jd_pr (jd_new (jd_pr (jd_new (jd_pr (jd_new σ (20, 11)) t 1 (some σ.1.length)) (20, 11)) t 2 (some (jd_pr (jd_new σ (20, 11)) t 1 (some σ.1.length)).1.length)) (20, 11)) t 3 (some (jd_pr (jd_new (jd_pr (jd_new σ (20, 11)) t 1 (some σ.1.length)) (20, 11)) t 2 (some (jd_pr (jd_new σ (20, 11)) t 1 (some σ.1.length)).1.length)).1.length)) (22, 11)).at ((jd_p.new (jd_pr (jd_new (jd_pr (jd_new σ (20, 11)) t 1 (some σ.1.length)) (20, 11)) t 2 (some (jd_pr (jd_new σ (20, 11)) t 1 (some σ.1.length)).1.length)) (20, 11)).at ((jd_p.new (jd_pr (jd_new σ (20, 11)) t 1 (some σ.1.length)) (20, 11)).at ((jd_p.new σ (20, 11)).at ht :) :) :) :) ?_
  refine jr_li ?_
  refine jr_ald0 (pc := 46) hX dX9_init_46 ?_
  refine jr_iconst (pc := 47) hX 0 rfl dX9_init_47 ?_
  refine jr_puti (pc := 48) hX fX9_32 rfl dX9_init_48 ((jd_p.new (jd_pr (jd_new (jd_pr (jd_new (jd_pr (jd_new σ (20, 11)) t 1 (some σ.1.length)) (20, 11)) t 2 (some (jd_pr (jd_new σ (20, 11)) t 1 (some σ.1.length)).1.length)) (20, 11)) t 3 (some (jd_pr (jd_new (jd_pr (jd_new σ (20, 11)) t 1 (some σ.1.length)) (20, 11)) t 2 (some (jd_pr (jd_new σ (20, 11)) t 1 (some σ.1.length)).1.length)).1.length)) (22, 11)).at ((jd_p.new (jd_pr (jd_new (jd_pr (jd_new σ (20, 11)) t 1 (some σ.1.length)) (20, 11)) t 2 (some (jd_pr (jd_new σ (20, 11)) t 1 (some σ.1.length)).1.length)) (20, 11)).at ((jd_p.new (jd_pr (jd_new σ (20, 11)) t 1 (some σ.1.length)) (20, 11)).at ((jd_p.new σ (20, 11)).at ht :) :) :) :) ?_
  refine jr_li ?_
  refine jr_ald0 (pc := 51) hX dX9_init_51 ?_
  refine jr_iconst (pc := 52) hX 0 rfl dX9_init_52 ?_
  refine jr_puti (pc := 53) hX fX9_35 rfl dX9_init_53 ((jd_p.new (jd_pr (jd_new (jd_pr (jd_new (jd_pr (jd_new σ (20, 11)) t 1 (some σ.1.length)) (20, 11)) t 2 (some (jd_pr (jd_new σ (20, 11)) t 1 (some σ.1.length)).1.length)) (20, 11)) t 3 (some (jd_pr (jd_new (jd_pr (jd_new σ (20, 11)) t 1 (some σ.1.length)) (20, 11)) t 2 (some (jd_pr (jd_new σ (20, 11)) t 1 (some σ.1.length)).1.length)).1.length)) (22, 11)).at ((jd_p.new (jd_pr (jd_new (jd_pr (jd_new σ (20, 11)) t 1 (some σ.1.length)) (20, 11)) t 2 (some (jd_pr (jd_new σ (20, 11)) t 1 (some σ.1.length)).1.length)) (20, 11)).at ((jd_p.new (jd_pr (jd_new σ (20, 11)) t 1 (some σ.1.length)) (20, 11)).at ((jd_p.new σ (20, 11)).at ht :) :) :) :) ?_
  refine jr_li ?_
  refine jr_ald0 (pc := 56) hX dX9_init_56 ?_
  refine jr_iconst (pc := 57) hX 0 rfl dX9_init_57 ?_
  refine jr_puti (pc := 58) hX fX9_38 rfl dX9_init_58 ((jd_p.new (jd_pr (jd_new (jd_pr (jd_new (jd_pr (jd_new σ (20, 11)) t 1 (some σ.1.length)) (20, 11)) t 2 (some (jd_pr (jd_new σ (20, 11)) t 1 (some σ.1.length)).1.length)) (20, 11)) t 3 (some (jd_pr (jd_new (jd_pr (jd_new σ (20, 11)) t 1 (some σ.1.length)) (20, 11)) t 2 (some (jd_pr (jd_new σ (20, 11)) t 1 (some σ.1.length)).1.length)).1.length)) (22, 11)).at ((jd_p.new (jd_pr (jd_new (jd_pr (jd_new σ (20, 11)) t 1 (some σ.1.length)) (20, 11)) t 2 (some (jd_pr (jd_new σ (20, 11)) t 1 (some σ.1.length)).1.length)) (20, 11)).at ((jd_p.new (jd_pr (jd_new σ (20, 11)) t 1 (some σ.1.length)) (20, 11)).at ((jd_p.new σ (20, 11)).at ht :) :) :) :) ?_
  refine jr_li ?_
  refine jr_ald0 (pc := 61) hX dX9_init_61 ?_
  refine jr_iconst (pc := 62) hX 0 rfl dX9_init_62 ?_
  refine jr_puti (pc := 63) hX fX9_41 rfl dX9_init_63 ((jd_p.new (jd_pr (jd_new (jd_pr (jd_new (jd_pr (jd_new σ (20, 11)) t 1 (some σ.1.length)) (20, 11)) t 2 (some (jd_pr (jd_new σ (20, 11)) t 1 (some σ.1.length)).1.length)) (20, 11)) t 3 (some (jd_pr (jd_new (jd_pr (jd_new σ (20, 11)) t 1 (some σ.1.length)) (20, 11)) t 2 (some (jd_pr (jd_new σ (20, 11)) t 1 (some σ.1.length)).1.length)).1.length)) (22, 11)).at ((jd_p.new (jd_pr (jd_new (jd_pr (jd_new σ (20, 11)) t 1 (some σ.1.length)) (20, 11)) t 2 (some (jd_pr (jd_new σ (20, 11)) t 1 (some σ.1.length)).1.length)) (20, 11)).at ((jd_p.new (jd_pr (jd_new σ (20, 11)) t 1 (some σ.1.length)) (20, 11)).at ((jd_p.new σ (20, 11)).at ht :) :) :) :) ?_
  refine jr_li ?_
  refine jr_ald0 (pc := 66) hX dX9_init_66 ?_
  refine jr_iconst (pc := 67) hX 0 rfl dX9_init_67 ?_
  refine jr_puti (pc := 68) hX fX9_44 rfl dX9_init_68 ((jd_p.new (jd_pr (jd_new (jd_pr (jd_new (jd_pr (jd_new σ (20, 11)) t 1 (some σ.1.length)) (20, 11)) t 2 (some (jd_pr (jd_new σ (20, 11)) t 1 (some σ.1.length)).1.length)) (20, 11)) t 3 (some (jd_pr (jd_new (jd_pr (jd_new σ (20, 11)) t 1 (some σ.1.length)) (20, 11)) t 2 (some (jd_pr (jd_new σ (20, 11)) t 1 (some σ.1.length)).1.length)).1.length)) (22, 11)).at ((jd_p.new (jd_pr (jd_new (jd_pr (jd_new σ (20, 11)) t 1 (some σ.1.length)) (20, 11)) t 2 (some (jd_pr (jd_new σ (20, 11)) t 1 (some σ.1.length)).1.length)) (20, 11)).at ((jd_p.new (jd_pr (jd_new σ (20, 11)) t 1 (some σ.1.length)) (20, 11)).at ((jd_p.new σ (20, 11)).at ht :) :) :) :) ?_
  refine jr_li ?_
  refine jr_ald0 (pc := 71) hX dX9_init_71 ?_
  refine jr_iconst (pc := 72) hX (-1) rfl dX9_init_72 ?_
  refine jr_puti (pc := 73) hX fX9_47 rfl dX9_init_73 ((jd_p.new (jd_pr (jd_new (jd_pr (jd_new (jd_pr (jd_new σ (20, 11)) t 1 (some σ.1.length)) (20, 11)) t 2 (some (jd_pr (jd_new σ (20, 11)) t 1 (some σ.1.length)).1.length)) (20, 11)) t 3 (some (jd_pr (jd_new (jd_pr (jd_new σ (20, 11)) t 1 (some σ.1.length)) (20, 11)) t 2 (some (jd_pr (jd_new σ (20, 11)) t 1 (some σ.1.length)).1.length)).1.length)) (22, 11)).at ((jd_p.new (jd_pr (jd_new (jd_pr (jd_new σ (20, 11)) t 1 (some σ.1.length)) (20, 11)) t 2 (some (jd_pr (jd_new σ (20, 11)) t 1 (some σ.1.length)).1.length)) (20, 11)).at ((jd_p.new (jd_pr (jd_new σ (20, 11)) t 1 (some σ.1.length)) (20, 11)).at ((jd_p.new σ (20, 11)).at ht :) :) :) :) ?_
  refine jr_li ?_
  refine jr_ald0 (pc := 76) hX dX9_init_76 ?_
  refine jr_iconst (pc := 77) hX 0 rfl dX9_init_77 ?_
  refine jr_putz (pc := 78) hX fX9_50 rfl (Or.inl rfl) dX9_init_78 ((jd_p.new (jd_pr (jd_new (jd_pr (jd_new (jd_pr (jd_new σ (20, 11)) t 1 (some σ.1.length)) (20, 11)) t 2 (some (jd_pr (jd_new σ (20, 11)) t 1 (some σ.1.length)).1.length)) (20, 11)) t 3 (some (jd_pr (jd_new (jd_pr (jd_new σ (20, 11)) t 1 (some σ.1.length)) (20, 11)) t 2 (some (jd_pr (jd_new σ (20, 11)) t 1 (some σ.1.length)).1.length)).1.length)) (22, 11)).at ((jd_p.new (jd_pr (jd_new (jd_pr (jd_new σ (20, 11)) t 1 (some σ.1.length)) (20, 11)) t 2 (some (jd_pr (jd_new σ (20, 11)) t 1 (some σ.1.length)).1.length)) (20, 11)).at ((jd_p.new (jd_pr (jd_new σ (20, 11)) t 1 (some σ.1.length)) (20, 11)).at ((jd_p.new σ (20, 11)).at ht :) :) :) :) ?_
  refine jr_li ?_
  refine jr_ald0 (pc := 81) hX dX9_init_81 ?_
  refine jr_iconst (pc := 82) hX 0 rfl dX9_init_82 ?_
  refine jr_puti (pc := 83) hX fX9_54 rfl dX9_init_83 ((jd_p.new (jd_pr (jd_new (jd_pr (jd_new (jd_pr (jd_new σ (20, 11)) t 1 (some σ.1.length)) (20, 11)) t 2 (some (jd_pr (jd_new σ (20, 11)) t 1 (some σ.1.length)).1.length)) (20, 11)) t 3 (some (jd_pr (jd_new (jd_pr (jd_new σ (20, 11)) t 1 (some σ.1.length)) (20, 11)) t 2 (some (jd_pr (jd_new σ (20, 11)) t 1 (some σ.1.length)).1.length)).1.length)) (22, 11)).at ((jd_p.new (jd_pr (jd_new (jd_pr (jd_new σ (20, 11)) t 1 (some σ.1.length)) (20, 11)) t 2 (some (jd_pr (jd_new σ (20, 11)) t 1 (some σ.1.length)).1.length)) (20, 11)).at ((jd_p.new (jd_pr (jd_new σ (20, 11)) t 1 (some σ.1.length)) (20, 11)).at ((jd_p.new σ (20, 11)).at ht :) :) :) :) ?_
  refine jr_li ?_
  refine jr_ald0 (pc := 86) hX dX9_init_86 ?_
  refine jr_iconst (pc := 87) hX (-1) rfl dX9_init_87 ?_
  refine jr_puti (pc := 88) hX fX9_57 rfl dX9_init_88 ((jd_p.new (jd_pr (jd_new (jd_pr (jd_new (jd_pr (jd_new σ (20, 11)) t 1 (some σ.1.length)) (20, 11)) t 2 (some (jd_pr (jd_new σ (20, 11)) t 1 (some σ.1.length)).1.length)) (20, 11)) t 3 (some (jd_pr (jd_new (jd_pr (jd_new σ (20, 11)) t 1 (some σ.1.length)) (20, 11)) t 2 (some (jd_pr (jd_new σ (20, 11)) t 1 (some σ.1.length)).1.length)).1.length)) (22, 11)).at ((jd_p.new (jd_pr (jd_new (jd_pr (jd_new σ (20, 11)) t 1 (some σ.1.length)) (20, 11)) t 2 (some (jd_pr (jd_new σ (20, 11)) t 1 (some σ.1.length)).1.length)) (20, 11)).at ((jd_p.new (jd_pr (jd_new σ (20, 11)) t 1 (some σ.1.length)) (20, 11)).at ((jd_p.new σ (20, 11)).at ht :) :) :) :) ?_
  refine jr_li ?_
  refine jr_ald0 (pc := 91) hX dX9_init_91 ?_
  refine jr_ald1 (pc := 92) hX dX9_init_92 ?_
  refine jr_putrF (pc := 93) hX fX9_60 rfl ⟨_, _, rfl, rfl⟩ rfl dX9_init_93 ((jd_p.new (jd_pr (jd_new (jd_pr (jd_new (jd_pr (jd_new σ (20, 11)) t 1 (some σ.1.length)) (20, 11)) t 2 (some (jd_pr (jd_new σ (20, 11)) t 1 (some σ.1.length)).1.length)) (20, 11)) t 3 (some (jd_pr (jd_new (jd_pr (jd_new σ (20, 11)) t 1 (some σ.1.length)) (20, 11)) t 2 (some (jd_pr (jd_new σ (20, 11)) t 1 (some σ.1.length)).1.length)).1.length)) (22, 11)).at ((jd_p.new (jd_pr (jd_new (jd_pr (jd_new σ (20, 11)) t 1 (some σ.1.length)) (20, 11)) t 2 (some (jd_pr (jd_new σ (20, 11)) t 1 (some σ.1.length)).1.length)) (20, 11)).at ((jd_p.new (jd_pr (jd_new σ (20, 11)) t 1 (some σ.1.length)) (20, 11)).at ((jd_p.new σ (20, 11)).at ht :) :) :) :) ?_
  refine jr_li ?_
  exact jr_vret (pc := 96) hX dX9_init_96 rfl
def m_X10_clear (t : Nat) (σ : jd_Hp) : Option (Unit × jd_Hp) :=
jd_b (jd_lp (S := Int32) (T := Unit) (fun s1 σ1 =>
jd_if (6 ≤ s1) (
some ((Sum.inr ()), σ1)) (
jd_o σ1 (10, 16) (some t) fun a3 =>
jd_ia σ1 20 (σ1.2.2.2 a3 4) s1 fun a4 j4 =>
jd_li (jd_pi σ1 a4 j4 0) fun τ5 =>
jd_ia τ5 20 (τ5.2.2.2 a3 5) s1 fun a6 j6 =>
jd_li (jd_pi τ5 a6 j6 0) fun τ7 =>
some (Sum.inl (s1 + 1), τ7))) jd_fu 0 σ) fun t2 σ2 =>
jd_o σ2 (10, 16) (some t) fun a8 =>
jd_li (jd_pi σ2 a8 11 0) fun τ9 =>
jd_li (jd_pi τ9 a8 12 0) fun τ10 =>
jd_li (jd_pi τ10 a8 13 0) fun τ11 =>
jd_li (jd_pi τ11 a8 14 0) fun τ12 =>
jd_li (jd_pi τ12 a8 15 0) fun τ13 =>
some ((), τ13)
set_option maxHeartbeats 4000000 in
set_option maxRecDepth 20000 in
theorem c_X10_clear {l : Launch} {s0 : State} {G : jd_G} (hF : jd_F s0 G) (σ : jd_Hp) (t : Nat) (ht : σ.1[t]? = some (10, 16)) : jd_M l s0 G yX10_clear cX10_clear 2 none 0 je_v [jd_v G (some t)] σ (m_X10_clear t σ) := by
  refine jd_enter hF (by decide) (fun G => [some (jd_v G (some t)), none]) rfl (by simp [lv_args, jd_al, jd_v_cat, jd_cti, jd_ctl]) (by simp [lg_sl, jd_v_cat, jd_cti, jd_ctl]) (fun X hD hX => ?_)
  have hX : jd_C X RX10 "clear" cX10_clear 2 none := hX
  unfold m_X10_clear
  refine jr_iconst (pc := 0) hX 0 rfl dX10_clear_0 ?_
  refine jr_ist1 (pc := 1) hX (jn_r _ _) dX10_clear_1 ?_
  refine jr_loop (pc := 2) (fun (s1 : Int32) => [some (jd_v (jd_gG X) (some t)), some (.int s1)]) (fun (t2 : Unit) => [some (jd_v (jd_gG X) (some t)), none]) 28 0 (fun t2 σ2 => ?_) (fun K1 bk1 ex1 s1 σ1 => ?_)
  · refine jr_ald0 (pc := 28) hX dX10_clear_28 ?_
    refine jr_iconst (pc := 29) hX 0 rfl dX10_clear_29 ?_
    refine jr_ck1 (fun a8 e8 h8 => ?_)
    refine jr_puti (pc := 30) hX fX10_46 rfl dX10_clear_30 h8 ?_
    refine jr_li ?_
    refine jr_ald0 (pc := 33) hX dX10_clear_33 ?_
    refine jr_iconst (pc := 34) hX 0 rfl dX10_clear_34 ?_
    refine jr_ek1 e8 ?_
    refine jr_puti (pc := 35) hX fX10_49 rfl dX10_clear_35 h8 ?_
    refine jr_li ?_
    refine jr_ald0 (pc := 38) hX dX10_clear_38 ?_
    refine jr_iconst (pc := 39) hX 0 rfl dX10_clear_39 ?_
    refine jr_ek1 e8 ?_
    refine jr_puti (pc := 40) hX fX10_52 rfl dX10_clear_40 h8 ?_
    refine jr_li ?_
    refine jr_ald0 (pc := 43) hX dX10_clear_43 ?_
    refine jr_iconst (pc := 44) hX 0 rfl dX10_clear_44 ?_
    refine jr_ek1 e8 ?_
    refine jr_puti (pc := 45) hX fX10_55 rfl dX10_clear_45 h8 ?_
    refine jr_li ?_
    refine jr_ald0 (pc := 48) hX dX10_clear_48 ?_
    refine jr_iconst (pc := 49) hX 0 rfl dX10_clear_49 ?_
    refine jr_ek1 e8 ?_
    refine jr_puti (pc := 50) hX fX10_58 rfl dX10_clear_50 h8 ?_
    refine jr_li ?_
    exact jr_vret (pc := 53) hX dX10_clear_53 rfl
  · refine jr_ild1 (pc := 2) hX dX10_clear_2 ?_
    refine jr_bipush (pc := 3) hX 6 rfl dX10_clear_3 ?_
    refine jr_icge (pc := 5) hX 28 dX10_clear_5 (by decide) ?_ ?_
    · refine jr_wk [true, false] ?_
      exact ex1 () _
    · refine jr_ald0 (pc := 8) hX dX10_clear_8 ?_
      refine jr_ck0 (fun a3 e3 h3 => ?_)
      refine jr_getr (pc := 9) hX fX10_24 rfl dX10_clear_9 h3 ?_
      refine jr_ild1 (pc := 12) hX dX10_clear_12 ?_
      refine jr_iconst (pc := 13) hX 0 rfl dX10_clear_13 ?_
      refine jr_iaS (pc := 14) hX dX10_clear_14 (fun a4 n4 e4 h4 => ?_)
      refine jr_li ?_
      refine jr_ald0 (pc := 15) hX dX10_clear_15 ?_
      refine jr_ek0 e3 ?_
      refine jr_getr (pc := 16) hX fX10_27 rfl dX10_clear_16 h3 ?_
      refine jr_ild1 (pc := 19) hX dX10_clear_19 ?_
      refine jr_iconst (pc := 20) hX 0 rfl dX10_clear_20 ?_
      refine jr_iaS (pc := 21) hX dX10_clear_21 (fun a6 n6 e6 h6 => ?_)
      refine jr_li ?_
      refine jr_inc1 (pc := 22) hX 1 rfl (jn_r _ _) dX10_clear_22 ?_
      refine jr_goto (pc := 25) hX 2 dX10_clear_25 (by decide) ?_
      exact bk1 (s1 + 1) _
def m_X9_isLetter (x0p : Int32) (σ : jd_Hp) : Option (Int32 × jd_Hp) :=
jd_if (x0p < 97) (
some (0, σ)) (
jd_if (122 < x0p) (
some (0, σ)) (
some (1, σ)))
set_option maxHeartbeats 4000000 in
set_option maxRecDepth 20000 in
theorem c_X9_isLetter {l : Launch} {s0 : State} {G : jd_G} (hF : jd_F s0 G) (σ : jd_Hp) (x0p : Int32) : jd_M l s0 G yX9_isLetter cX9_isLetter 1 (some .boolean) 0 je_i [.int x0p] σ (m_X9_isLetter x0p σ) := by
  refine jd_enter hF (by decide) (fun G => [some (.int x0p)]) rfl (by simp [lv_args, jd_al, jd_v_cat, jd_cti, jd_ctl]) (by simp [lg_sl, jd_v_cat, jd_cti, jd_ctl]) (fun X hD hX => ?_)
  have hX : jd_C X RX9 "isLetter" cX9_isLetter 1 (some .boolean) := hX
  unfold m_X9_isLetter
  refine jr_ild0 (pc := 0) hX dX9_isLetter_0 ?_
  refine jr_bipush (pc := 1) hX 97 rfl dX9_isLetter_1 ?_
  refine jr_iclt (pc := 3) hX 16 dX9_isLetter_3 (by decide) ?_ ?_
  · refine jr_iconst (pc := 16) hX 0 rfl dX9_isLetter_16 ?_
    exact jr_zret (pc := 17) hX dX9_isLetter_17 (Or.inl rfl) rfl
  · refine jr_ild0 (pc := 6) hX dX9_isLetter_6 ?_
    refine jr_bipush (pc := 7) hX 122 rfl dX9_isLetter_7 ?_
    refine jr_icgt (pc := 9) hX 16 dX9_isLetter_9 (by decide) ?_ ?_
    · refine jr_iconst (pc := 16) hX 0 rfl dX9_isLetter_16 ?_
      exact jr_zret (pc := 17) hX dX9_isLetter_17 (Or.inl rfl) rfl
    · refine jr_iconst (pc := 12) hX 1 rfl dX9_isLetter_12 ?_
      refine jr_goto (pc := 13) hX 17 dX9_isLetter_13 (by decide) ?_
      exact jr_zret (pc := 17) hX dX9_isLetter_17 (Or.inr rfl) rfl
def m_X9_isDigit (x0p : Int32) (σ : jd_Hp) : Option (Int32 × jd_Hp) :=
jd_if (x0p < 48) (
some (0, σ)) (
jd_if (57 < x0p) (
some (0, σ)) (
some (1, σ)))
set_option maxHeartbeats 4000000 in
set_option maxRecDepth 20000 in
theorem c_X9_isDigit {l : Launch} {s0 : State} {G : jd_G} (hF : jd_F s0 G) (σ : jd_Hp) (x0p : Int32) : jd_M l s0 G yX9_isDigit cX9_isDigit 1 (some .boolean) 0 je_i [.int x0p] σ (m_X9_isDigit x0p σ) := by
  refine jd_enter hF (by decide) (fun G => [some (.int x0p)]) rfl (by simp [lv_args, jd_al, jd_v_cat, jd_cti, jd_ctl]) (by simp [lg_sl, jd_v_cat, jd_cti, jd_ctl]) (fun X hD hX => ?_)
  have hX : jd_C X RX9 "isDigit" cX9_isDigit 1 (some .boolean) := hX
  unfold m_X9_isDigit
  refine jr_ild0 (pc := 0) hX dX9_isDigit_0 ?_
  refine jr_bipush (pc := 1) hX 48 rfl dX9_isDigit_1 ?_
  refine jr_iclt (pc := 3) hX 16 dX9_isDigit_3 (by decide) ?_ ?_
  · refine jr_iconst (pc := 16) hX 0 rfl dX9_isDigit_16 ?_
    exact jr_zret (pc := 17) hX dX9_isDigit_17 (Or.inl rfl) rfl
  · refine jr_ild0 (pc := 6) hX dX9_isDigit_6 ?_
    refine jr_bipush (pc := 7) hX 57 rfl dX9_isDigit_7 ?_
    refine jr_icgt (pc := 9) hX 16 dX9_isDigit_9 (by decide) ?_ ?_
    · refine jr_iconst (pc := 16) hX 0 rfl dX9_isDigit_16 ?_
      exact jr_zret (pc := 17) hX dX9_isDigit_17 (Or.inl rfl) rfl
    · refine jr_iconst (pc := 12) hX 1 rfl dX9_isDigit_12 ?_
      refine jr_goto (pc := 13) hX 17 dX9_isDigit_13 (by decide) ?_
      exact jr_zret (pc := 17) hX dX9_isDigit_17 (Or.inr rfl) rfl
