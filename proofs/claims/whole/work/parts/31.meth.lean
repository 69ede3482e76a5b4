theorem qX13_swaps : Cond.instanceMethod yX13_swaps ∈ jd_TB ∧ Cond.selects RX13 yX13_swaps yX13_swaps ∈ jd_TB ∧ Cond.initialized RX13 ∈ jd_TB ∧ Cond.code yX13_swaps cX13_swaps 4 none ∈ jd_TB ∧ jd_ds yX13_swaps 2 := ⟨jd_mem 1770 (by decide +kernel) (by decide +kernel), jd_mem 75 (by decide +kernel) (by decide +kernel), jd_mem 104 (by decide +kernel) (by decide +kernel), jd_mem 1771 (by decide +kernel) (by decide +kernel), ⟨by decide, by decide, by decide +kernel⟩⟩
theorem lX13_358 : jd_mv RX13 358 13 29 yX13_swaps cX13_swaps 4 none 2 := ⟨_, _, rfl, by decide, rfl, Or.inl (jd_mem 1768 (by decide +kernel) (by decide +kernel)), qX13_swaps.1, qX13_swaps.2.1, qX13_swaps.2.2.1, qX13_swaps.2.2.2.1, qX13_swaps.2.2.2.2, by decide⟩
theorem qX13_unreached : Cond.instanceMethod yX13_unreached ∈ jd_TB ∧ Cond.selects RX13 yX13_unreached yX13_unreached ∈ jd_TB ∧ Cond.initialized RX13 ∈ jd_TB ∧ Cond.code yX13_unreached cX13_unreached 1 (some .int) ∈ jd_TB ∧ jd_ds yX13_unreached 0 := ⟨jd_mem 1762 (by decide +kernel) (by decide +kernel), jd_mem 73 (by decide +kernel) (by decide +kernel), jd_mem 104 (by decide +kernel) (by decide +kernel), jd_mem 1763 (by decide +kernel) (by decide +kernel), ⟨by decide, by decide, by decide +kernel⟩⟩
theorem lX13_361 : jd_mv RX13 361 13 29 yX13_unreached cX13_unreached 1 (some .int) 0 := ⟨_, _, rfl, by decide, rfl, Or.inl (jd_mem 1760 (by decide +kernel) (by decide +kernel)), qX13_unreached.1, qX13_unreached.2.1, qX13_unreached.2.2.1, qX13_unreached.2.2.2.1, qX13_unreached.2.2.2.2, by decide⟩
theorem qX13_nextOrder : Cond.instanceMethod yX13_nextOrder ∈ jd_TB ∧ Cond.selects RX13 yX13_nextOrder yX13_nextOrder ∈ jd_TB ∧ Cond.initialized RX13 ∈ jd_TB ∧ Cond.code yX13_nextOrder cX13_nextOrder 5 (some .boolean) ∈ jd_TB ∧ jd_ds yX13_nextOrder 0 := ⟨jd_mem 1766 (by decide +kernel) (by decide +kernel), jd_mem 74 (by decide +kernel) (by decide +kernel), jd_mem 104 (by decide +kernel) (by decide +kernel), jd_mem 1767 (by decide +kernel) (by decide +kernel), ⟨by decide, by decide, by decide +kernel⟩⟩
theorem lX13_364 : jd_mv RX13 364 13 29 yX13_nextOrder cX13_nextOrder 5 (some .boolean) 0 := ⟨_, _, rfl, by decide, rfl, Or.inl (jd_mem 1764 (by decide +kernel) (by decide +kernel)), qX13_nextOrder.1, qX13_nextOrder.2.1, qX13_nextOrder.2.2.1, qX13_nextOrder.2.2.2.1, qX13_nextOrder.2.2.2.2, by decide⟩
theorem qX13_seatsBest : Cond.instanceMethod yX13_seatsBest ∈ jd_TB ∧ Cond.selects RX13 yX13_seatsBest yX13_seatsBest ∈ jd_TB ∧ Cond.initialized RX13 ∈ jd_TB ∧ Cond.code yX13_seatsBest cX13_seatsBest 5 (some .int) ∈ jd_TB ∧ jd_ds yX13_seatsBest 0 := ⟨jd_mem 1758 (by decide +kernel) (by decide +kernel), jd_mem 72 (by decide +kernel) (by decide +kernel), jd_mem 104 (by decide +kernel) (by decide +kernel), jd_mem 1759 (by decide +kernel) (by decide +kernel), ⟨by decide, by decide, by decide +kernel⟩⟩
theorem lX13_367 : jd_mv RX13 367 13 29 yX13_seatsBest cX13_seatsBest 5 (some .int) 0 := ⟨_, _, rfl, by decide, rfl, Or.inl (jd_mem 1756 (by decide +kernel) (by decide +kernel)), qX13_seatsBest.1, qX13_seatsBest.2.1, qX13_seatsBest.2.2.1, qX13_seatsBest.2.2.2.1, qX13_seatsBest.2.2.2.2, by decide⟩
theorem fX13_276 : jd_fn RX13 276 12 14 20 true := ⟨_, _, "ShoreGuardsModel", rfl, by decide, by decide, rfl, rfl, List.mem_of_getElem? (i := 1419) (by decide +kernel)⟩
theorem fX13_217 : jd_fn RX13 217 12 2 20 false := ⟨_, _, "ShoreGuardsModel", rfl, by decide, by decide, rfl, rfl, List.mem_of_getElem? (i := 1400) (by decide +kernel)⟩
theorem dX13_nextOrder_0 : decode cX13_nextOrder 0 = .ok (.aload_n 0, 1) := by decide +kernel
theorem dX13_nextOrder_1 : decode cX13_nextOrder 1 = .ok (.getfield 289, 3) := by decide +kernel
theorem dX13_nextOrder_4 : decode cX13_nextOrder 4 = .ok (.getfield 185, 3) := by decide +kernel
theorem dX13_nextOrder_7 : decode cX13_nextOrder 7 = .ok (.iconst 2, 1) := by decide +kernel
theorem dX13_nextOrder_8 : decode cX13_nextOrder 8 = .ok (.isub, 1) := by decide +kernel
theorem dX13_nextOrder_9 : decode cX13_nextOrder 9 = .ok (.istore_n 1, 1) := by decide +kernel
theorem dX13_nextOrder_10 : decode cX13_nextOrder 10 = .ok (.iload_n 1, 1) := by decide +kernel
theorem dX13_nextOrder_11 : decode cX13_nextOrder 11 = .ok (.ifCond .lt 26, 3) := by decide +kernel
theorem dX13_nextOrder_14 : decode cX13_nextOrder 14 = .ok (.aload_n 0, 1) := by decide +kernel
theorem dX13_nextOrder_15 : decode cX13_nextOrder 15 = .ok (.getfield 39, 3) := by decide +kernel
theorem dX13_nextOrder_18 : decode cX13_nextOrder 18 = .ok (.iload_n 1, 1) := by decide +kernel
theorem dX13_nextOrder_19 : decode cX13_nextOrder 19 = .ok (.iaload, 1) := by decide +kernel
theorem dX13_nextOrder_20 : decode cX13_nextOrder 20 = .ok (.aload_n 0, 1) := by decide +kernel
theorem dX13_nextOrder_21 : decode cX13_nextOrder 21 = .ok (.getfield 39, 3) := by decide +kernel
theorem dX13_nextOrder_24 : decode cX13_nextOrder 24 = .ok (.iload_n 1, 1) := by decide +kernel
theorem dX13_nextOrder_25 : decode cX13_nextOrder 25 = .ok (.iconst 1, 1) := by decide +kernel
theorem dX13_nextOrder_26 : decode cX13_nextOrder 26 = .ok (.iadd, 1) := by decide +kernel
theorem dX13_nextOrder_27 : decode cX13_nextOrder 27 = .ok (.iaload, 1) := by decide +kernel
theorem dX13_nextOrder_28 : decode cX13_nextOrder 28 = .ok (.if_icmp .le 9, 3) := by decide +kernel
theorem dX13_nextOrder_31 : decode cX13_nextOrder 31 = .ok (.iinc 1 (-1), 3) := by decide +kernel
theorem dX13_nextOrder_34 : decode cX13_nextOrder 34 = .ok (.goto (-24), 3) := by decide +kernel
theorem dX13_nextOrder_37 : decode cX13_nextOrder 37 = .ok (.iload_n 1, 1) := by decide +kernel
theorem dX13_nextOrder_38 : decode cX13_nextOrder 38 = .ok (.ifCond .ge 5, 3) := by decide +kernel
theorem dX13_nextOrder_41 : decode cX13_nextOrder 41 = .ok (.iconst 0, 1) := by decide +kernel
theorem dX13_nextOrder_42 : decode cX13_nextOrder 42 = .ok (.ireturn, 1) := by decide +kernel
theorem dX13_nextOrder_43 : decode cX13_nextOrder 43 = .ok (.aload_n 0, 1) := by decide +kernel
theorem dX13_nextOrder_44 : decode cX13_nextOrder 44 = .ok (.getfield 289, 3) := by decide +kernel
theorem dX13_nextOrder_47 : decode cX13_nextOrder 47 = .ok (.getfield 185, 3) := by decide +kernel
theorem dX13_nextOrder_50 : decode cX13_nextOrder 50 = .ok (.iconst 1, 1) := by decide +kernel
theorem dX13_nextOrder_51 : decode cX13_nextOrder 51 = .ok (.isub, 1) := by decide +kernel
theorem dX13_nextOrder_52 : decode cX13_nextOrder 52 = .ok (.istore_n 2, 1) := by decide +kernel
theorem dX13_nextOrder_53 : decode cX13_nextOrder 53 = .ok (.aload_n 0, 1) := by decide +kernel
theorem dX13_nextOrder_54 : decode cX13_nextOrder 54 = .ok (.getfield 39, 3) := by decide +kernel
theorem dX13_nextOrder_57 : decode cX13_nextOrder 57 = .ok (.iload_n 2, 1) := by decide +kernel
theorem dX13_nextOrder_58 : decode cX13_nextOrder 58 = .ok (.iaload, 1) := by decide +kernel
theorem dX13_nextOrder_59 : decode cX13_nextOrder 59 = .ok (.aload_n 0, 1) := by decide +kernel
theorem dX13_nextOrder_60 : decode cX13_nextOrder 60 = .ok (.getfield 39, 3) := by decide +kernel
theorem dX13_nextOrder_63 : decode cX13_nextOrder 63 = .ok (.iload_n 1, 1) := by decide +kernel
theorem dX13_nextOrder_64 : decode cX13_nextOrder 64 = .ok (.iaload, 1) := by decide +kernel
theorem dX13_nextOrder_65 : decode cX13_nextOrder 65 = .ok (.if_icmp .ge 9, 3) := by decide +kernel
theorem dX13_nextOrder_68 : decode cX13_nextOrder 68 = .ok (.iinc 2 (-1), 3) := by decide +kernel
theorem dX13_nextOrder_71 : decode cX13_nextOrder 71 = .ok (.goto (-18), 3) := by decide +kernel
theorem dX13_nextOrder_74 : decode cX13_nextOrder 74 = .ok (.aload_n 0, 1) := by decide +kernel
theorem dX13_nextOrder_75 : decode cX13_nextOrder 75 = .ok (.iload_n 1, 1) := by decide +kernel
theorem dX13_nextOrder_76 : decode cX13_nextOrder 76 = .ok (.iload_n 2, 1) := by decide +kernel
theorem dX13_nextOrder_77 : decode cX13_nextOrder 77 = .ok (.invokevirtual 358, 3) := by decide +kernel
theorem dX13_nextOrder_80 : decode cX13_nextOrder 80 = .ok (.iload_n 1, 1) := by decide +kernel
theorem dX13_nextOrder_81 : decode cX13_nextOrder 81 = .ok (.iconst 1, 1) := by decide +kernel
theorem dX13_nextOrder_82 : decode cX13_nextOrder 82 = .ok (.iadd, 1) := by decide +kernel
theorem dX13_nextOrder_83 : decode cX13_nextOrder 83 = .ok (.istore_n 3, 1) := by decide +kernel
theorem dX13_nextOrder_84 : decode cX13_nextOrder 84 = .ok (.aload_n 0, 1) := by decide +kernel
theorem dX13_nextOrder_85 : decode cX13_nextOrder 85 = .ok (.getfield 289, 3) := by decide +kernel
theorem dX13_nextOrder_88 : decode cX13_nextOrder 88 = .ok (.getfield 185, 3) := by decide +kernel
theorem dX13_nextOrder_91 : decode cX13_nextOrder 91 = .ok (.iconst 1, 1) := by decide +kernel
theorem dX13_nextOrder_92 : decode cX13_nextOrder 92 = .ok (.isub, 1) := by decide +kernel
theorem dX13_nextOrder_93 : decode cX13_nextOrder 93 = .ok (.istore 4, 2) := by decide +kernel
theorem dX13_nextOrder_95 : decode cX13_nextOrder 95 = .ok (.iload_n 3, 1) := by decide +kernel
theorem dX13_nextOrder_96 : decode cX13_nextOrder 96 = .ok (.iload 4, 2) := by decide +kernel
theorem dX13_nextOrder_98 : decode cX13_nextOrder 98 = .ok (.if_icmp .ge 19, 3) := by decide +kernel
theorem dX13_nextOrder_101 : decode cX13_nextOrder 101 = .ok (.aload_n 0, 1) := by decide +kernel
theorem dX13_nextOrder_102 : decode cX13_nextOrder 102 = .ok (.iload_n 3, 1) := by decide +kernel
theorem dX13_nextOrder_103 : decode cX13_nextOrder 103 = .ok (.iload 4, 2) := by decide +kernel
theorem dX13_nextOrder_105 : decode cX13_nextOrder 105 = .ok (.invokevirtual 358, 3) := by decide +kernel
theorem dX13_nextOrder_108 : decode cX13_nextOrder 108 = .ok (.iinc 3 1, 3) := by decide +kernel
theorem dX13_nextOrder_111 : decode cX13_nextOrder 111 = .ok (.iinc 4 (-1), 3) := by decide +kernel
theorem dX13_nextOrder_114 : decode cX13_nextOrder 114 = .ok (.goto (-19), 3) := by decide +kernel
theorem dX13_nextOrder_117 : decode cX13_nextOrder 117 = .ok (.iconst 1, 1) := by decide +kernel
theorem dX13_nextOrder_118 : decode cX13_nextOrder 118 = .ok (.ireturn, 1) := by decide +kernel
theorem dX13_seatsBest_0 : decode cX13_seatsBest 0 = .ok (.aload_n 0, 1) := by decide +kernel
theorem dX13_seatsBest_1 : decode cX13_seatsBest 1 = .ok (.invokevirtual 324, 3) := by decide +kernel
theorem dX13_seatsBest_4 : decode cX13_seatsBest 4 = .ok (.iconst 0, 1) := by decide +kernel
theorem dX13_seatsBest_5 : decode cX13_seatsBest 5 = .ok (.istore_n 1, 1) := by decide +kernel
theorem dX13_seatsBest_6 : decode cX13_seatsBest 6 = .ok (.iload_n 1, 1) := by decide +kernel
theorem dX13_seatsBest_7 : decode cX13_seatsBest 7 = .ok (.aload_n 0, 1) := by decide +kernel
theorem dX13_seatsBest_8 : decode cX13_seatsBest 8 = .ok (.getfield 289, 3) := by decide +kernel
theorem dX13_seatsBest_11 : decode cX13_seatsBest 11 = .ok (.getfield 185, 3) := by decide +kernel
theorem dX13_seatsBest_14 : decode cX13_seatsBest 14 = .ok (.if_icmp .ge 16, 3) := by decide +kernel
theorem dX13_seatsBest_17 : decode cX13_seatsBest 17 = .ok (.aload_n 0, 1) := by decide +kernel
theorem dX13_seatsBest_18 : decode cX13_seatsBest 18 = .ok (.getfield 39, 3) := by decide +kernel
theorem dX13_seatsBest_21 : decode cX13_seatsBest 21 = .ok (.iload_n 1, 1) := by decide +kernel
theorem dX13_seatsBest_22 : decode cX13_seatsBest 22 = .ok (.iload_n 1, 1) := by decide +kernel
theorem dX13_seatsBest_23 : decode cX13_seatsBest 23 = .ok (.iastore, 1) := by decide +kernel
theorem dX13_seatsBest_24 : decode cX13_seatsBest 24 = .ok (.iinc 1 1, 3) := by decide +kernel
theorem dX13_seatsBest_27 : decode cX13_seatsBest 27 = .ok (.goto (-21), 3) := by decide +kernel
theorem dX13_seatsBest_30 : decode cX13_seatsBest 30 = .ok (.bipush 7, 2) := by decide +kernel
theorem dX13_seatsBest_32 : decode cX13_seatsBest 32 = .ok (.istore_n 1, 1) := by decide +kernel
theorem dX13_seatsBest_33 : decode cX13_seatsBest 33 = .ok (.iconst 1, 1) := by decide +kernel
theorem dX13_seatsBest_34 : decode cX13_seatsBest 34 = .ok (.istore_n 2, 1) := by decide +kernel
theorem dX13_seatsBest_35 : decode cX13_seatsBest 35 = .ok (.iload_n 2, 1) := by decide +kernel
theorem dX13_seatsBest_36 : decode cX13_seatsBest 36 = .ok (.ifCond .eq 97, 3) := by decide +kernel
theorem dX13_seatsBest_39 : decode cX13_seatsBest 39 = .ok (.iconst 0, 1) := by decide +kernel
theorem dX13_seatsBest_40 : decode cX13_seatsBest 40 = .ok (.istore_n 3, 1) := by decide +kernel
theorem dX13_seatsBest_41 : decode cX13_seatsBest 41 = .ok (.iload_n 3, 1) := by decide +kernel
theorem dX13_seatsBest_42 : decode cX13_seatsBest 42 = .ok (.aload_n 0, 1) := by decide +kernel
theorem dX13_seatsBest_43 : decode cX13_seatsBest 43 = .ok (.getfield 289, 3) := by decide +kernel
theorem dX13_seatsBest_46 : decode cX13_seatsBest 46 = .ok (.getfield 185, 3) := by decide +kernel
theorem dX13_seatsBest_49 : decode cX13_seatsBest 49 = .ok (.if_icmp .ge 26, 3) := by decide +kernel
theorem dX13_seatsBest_52 : decode cX13_seatsBest 52 = .ok (.aload_n 0, 1) := by decide +kernel
theorem dX13_seatsBest_53 : decode cX13_seatsBest 53 = .ok (.getfield 21, 3) := by decide +kernel
theorem dX13_seatsBest_56 : decode cX13_seatsBest 56 = .ok (.iload_n 3, 1) := by decide +kernel
theorem dX13_seatsBest_57 : decode cX13_seatsBest 57 = .ok (.aload_n 0, 1) := by decide +kernel
theorem dX13_seatsBest_58 : decode cX13_seatsBest 58 = .ok (.getfield 17, 3) := by decide +kernel
theorem dX13_seatsBest_61 : decode cX13_seatsBest 61 = .ok (.aload_n 0, 1) := by decide +kernel
theorem dX13_seatsBest_62 : decode cX13_seatsBest 62 = .ok (.getfield 39, 3) := by decide +kernel
theorem dX13_seatsBest_65 : decode cX13_seatsBest 65 = .ok (.iload_n 3, 1) := by decide +kernel
theorem dX13_seatsBest_66 : decode cX13_seatsBest 66 = .ok (.iaload, 1) := by decide +kernel
theorem dX13_seatsBest_67 : decode cX13_seatsBest 67 = .ok (.iaload, 1) := by decide +kernel
theorem dX13_seatsBest_68 : decode cX13_seatsBest 68 = .ok (.iastore, 1) := by decide +kernel
theorem dX13_seatsBest_69 : decode cX13_seatsBest 69 = .ok (.iinc 3 1, 3) := by decide +kernel
theorem dX13_seatsBest_72 : decode cX13_seatsBest 72 = .ok (.goto (-31), 3) := by decide +kernel
theorem dX13_seatsBest_75 : decode cX13_seatsBest 75 = .ok (.aload_n 0, 1) := by decide +kernel
theorem dX13_seatsBest_76 : decode cX13_seatsBest 76 = .ok (.invokevirtual 361, 3) := by decide +kernel
theorem dX13_seatsBest_79 : decode cX13_seatsBest 79 = .ok (.invokestatic 303, 3) := by decide +kernel
theorem dX13_seatsBest_82 : decode cX13_seatsBest 82 = .ok (.istore_n 3, 1) := by decide +kernel
theorem dX13_seatsBest_83 : decode cX13_seatsBest 83 = .ok (.iload_n 3, 1) := by decide +kernel
theorem dX13_seatsBest_84 : decode cX13_seatsBest 84 = .ok (.iload_n 1, 1) := by decide +kernel
theorem dX13_seatsBest_85 : decode cX13_seatsBest 85 = .ok (.if_icmp .ge 40, 3) := by decide +kernel
theorem dX13_seatsBest_88 : decode cX13_seatsBest 88 = .ok (.iload_n 3, 1) := by decide +kernel
theorem dX13_seatsBest_89 : decode cX13_seatsBest 89 = .ok (.istore_n 1, 1) := by decide +kernel
theorem dX13_seatsBest_90 : decode cX13_seatsBest 90 = .ok (.iconst 0, 1) := by decide +kernel
theorem dX13_seatsBest_91 : decode cX13_seatsBest 91 = .ok (.istore 4, 2) := by decide +kernel
theorem dX13_seatsBest_93 : decode cX13_seatsBest 93 = .ok (.iload 4, 2) := by decide +kernel
theorem dX13_seatsBest_95 : decode cX13_seatsBest 95 = .ok (.aload_n 0, 1) := by decide +kernel
theorem dX13_seatsBest_96 : decode cX13_seatsBest 96 = .ok (.getfield 289, 3) := by decide +kernel
theorem dX13_seatsBest_99 : decode cX13_seatsBest 99 = .ok (.getfield 185, 3) := by decide +kernel
theorem dX13_seatsBest_102 : decode cX13_seatsBest 102 = .ok (.if_icmp .ge 23, 3) := by decide +kernel
theorem dX13_seatsBest_105 : decode cX13_seatsBest 105 = .ok (.aload_n 0, 1) := by decide +kernel
theorem dX13_seatsBest_106 : decode cX13_seatsBest 106 = .ok (.getfield 42, 3) := by decide +kernel
theorem dX13_seatsBest_109 : decode cX13_seatsBest 109 = .ok (.iload 4, 2) := by decide +kernel
theorem dX13_seatsBest_111 : decode cX13_seatsBest 111 = .ok (.aload_n 0, 1) := by decide +kernel
theorem dX13_seatsBest_112 : decode cX13_seatsBest 112 = .ok (.getfield 39, 3) := by decide +kernel
theorem dX13_seatsBest_115 : decode cX13_seatsBest 115 = .ok (.iload 4, 2) := by decide +kernel
theorem dX13_seatsBest_117 : decode cX13_seatsBest 117 = .ok (.iaload, 1) := by decide +kernel
theorem dX13_seatsBest_118 : decode cX13_seatsBest 118 = .ok (.iastore, 1) := by decide +kernel
theorem dX13_seatsBest_119 : decode cX13_seatsBest 119 = .ok (.iinc 4 1, 3) := by decide +kernel
theorem dX13_seatsBest_122 : decode cX13_seatsBest 122 = .ok (.goto (-29), 3) := by decide +kernel
theorem dX13_seatsBest_125 : decode cX13_seatsBest 125 = .ok (.aload_n 0, 1) := by decide +kernel
theorem dX13_seatsBest_126 : decode cX13_seatsBest 126 = .ok (.invokevirtual 364, 3) := by decide +kernel
theorem dX13_seatsBest_129 : decode cX13_seatsBest 129 = .ok (.istore_n 2, 1) := by decide +kernel
theorem dX13_seatsBest_130 : decode cX13_seatsBest 130 = .ok (.goto (-95), 3) := by decide +kernel
theorem dX13_seatsBest_133 : decode cX13_seatsBest 133 = .ok (.iload_n 1, 1) := by decide +kernel
theorem dX13_seatsBest_134 : decode cX13_seatsBest 134 = .ok (.ireturn, 1) := by decide +kernel
theorem dX13_seats_0 : decode cX13_seats 0 = .ok (.aload_n 0, 1) := by decide +kernel
theorem dX13_seats_1 : decode cX13_seats 1 = .ok (.iconst 0, 1) := by decide +kernel
theorem dX13_seats_2 : decode cX13_seats 2 = .ok (.putfield 48, 3) := by decide +kernel
theorem dX13_seats_5 : decode cX13_seats 5 = .ok (.aload_n 0, 1) := by decide +kernel
theorem dX13_seats_6 : decode cX13_seats 6 = .ok (.getfield 289, 3) := by decide +kernel
theorem dX13_seats_9 : decode cX13_seats 9 = .ok (.ifnonnull 11, 3) := by decide +kernel
theorem dX13_seats_12 : decode cX13_seats 12 = .ok (.aload_n 0, 1) := by decide +kernel
theorem dX13_seats_13 : decode cX13_seats 13 = .ok (.iconst 1, 1) := by decide +kernel
theorem dX13_seats_14 : decode cX13_seats 14 = .ok (.invokevirtual 54, 3) := by decide +kernel
theorem dX13_seats_17 : decode cX13_seats 17 = .ok (.goto 11, 3) := by decide +kernel
theorem dX13_seats_20 : decode cX13_seats 20 = .ok (.aload_n 0, 1) := by decide +kernel
theorem dX13_seats_21 : decode cX13_seats 21 = .ok (.aload_n 0, 1) := by decide +kernel
theorem dX13_seats_22 : decode cX13_seats 22 = .ok (.invokevirtual 367, 3) := by decide +kernel
theorem dX13_seats_25 : decode cX13_seats 25 = .ok (.invokevirtual 58, 3) := by decide +kernel
theorem dX13_seats_28 : decode cX13_seats 28 = .ok (.ireturn, 1) := by decide +kernel
theorem dX13_seatOf_0 : decode cX13_seatOf 0 = .ok (.aload_n 0, 1) := by decide +kernel
theorem dX13_seatOf_1 : decode cX13_seatOf 1 = .ok (.iconst 0, 1) := by decide +kernel
theorem dX13_seatOf_2 : decode cX13_seatOf 2 = .ok (.putfield 48, 3) := by decide +kernel
theorem dX13_seatOf_5 : decode cX13_seatOf 5 = .ok (.aload_n 0, 1) := by decide +kernel
theorem dX13_seatOf_6 : decode cX13_seatOf 6 = .ok (.iload_n 1, 1) := by decide +kernel
theorem dX13_seatOf_7 : decode cX13_seatOf 7 = .ok (.invokevirtual 321, 3) := by decide +kernel
theorem dX13_seatOf_10 : decode cX13_seatOf 10 = .ok (.ifCond .ne 9, 3) := by decide +kernel
theorem dX13_seatOf_13 : decode cX13_seatOf 13 = .ok (.aload_n 0, 1) := by decide +kernel
theorem dX13_seatOf_14 : decode cX13_seatOf 14 = .ok (.iconst 1, 1) := by decide +kernel
theorem dX13_seatOf_15 : decode cX13_seatOf 15 = .ok (.invokevirtual 54, 3) := by decide +kernel
theorem dX13_seatOf_18 : decode cX13_seatOf 18 = .ok (.ireturn, 1) := by decide +kernel
theorem dX13_seatOf_19 : decode cX13_seatOf 19 = .ok (.aload_n 0, 1) := by decide +kernel
theorem dX13_seatOf_20 : decode cX13_seatOf 20 = .ok (.invokevirtual 367, 3) := by decide +kernel
theorem dX13_seatOf_23 : decode cX13_seatOf 23 = .ok (.pop, 1) := by decide +kernel
theorem dX13_seatOf_24 : decode cX13_seatOf 24 = .ok (.aload_n 0, 1) := by decide +kernel
theorem dX13_seatOf_25 : decode cX13_seatOf 25 = .ok (.aload_n 0, 1) := by decide +kernel
theorem dX13_seatOf_26 : decode cX13_seatOf 26 = .ok (.getfield 17, 3) := by decide +kernel
theorem dX13_seatOf_29 : decode cX13_seatOf 29 = .ok (.aload_n 0, 1) := by decide +kernel
theorem dX13_seatOf_30 : decode cX13_seatOf 30 = .ok (.getfield 42, 3) := by decide +kernel
theorem dX13_seatOf_33 : decode cX13_seatOf 33 = .ok (.iload_n 1, 1) := by decide +kernel
theorem dX13_seatOf_34 : decode cX13_seatOf 34 = .ok (.iaload, 1) := by decide +kernel
theorem dX13_seatOf_35 : decode cX13_seatOf 35 = .ok (.iaload, 1) := by decide +kernel
theorem dX13_seatOf_36 : decode cX13_seatOf 36 = .ok (.invokevirtual 58, 3) := by decide +kernel
theorem dX13_seatOf_39 : decode cX13_seatOf 39 = .ok (.ireturn, 1) := by decide +kernel
theorem dX13_company_0 : decode cX13_company 0 = .ok (.aload_n 0, 1) := by decide +kernel
theorem dX13_company_1 : decode cX13_company 1 = .ok (.iconst 0, 1) := by decide +kernel
theorem dX13_company_2 : decode cX13_company 2 = .ok (.putfield 48, 3) := by decide +kernel
theorem dX13_company_5 : decode cX13_company 5 = .ok (.aload_n 0, 1) := by decide +kernel
theorem dX13_company_6 : decode cX13_company 6 = .ok (.iload_n 1, 1) := by decide +kernel
theorem dX13_company_7 : decode cX13_company 7 = .ok (.invokevirtual 321, 3) := by decide +kernel
theorem dX13_company_10 : decode cX13_company 10 = .ok (.ifCond .ne 9, 3) := by decide +kernel
theorem dX13_company_13 : decode cX13_company 13 = .ok (.aload_n 0, 1) := by decide +kernel
theorem dX13_company_14 : decode cX13_company 14 = .ok (.iconst 1, 1) := by decide +kernel
theorem dX13_company_15 : decode cX13_company 15 = .ok (.invokevirtual 54, 3) := by decide +kernel
theorem dX13_company_18 : decode cX13_company 18 = .ok (.ireturn, 1) := by decide +kernel
theorem dX13_company_19 : decode cX13_company 19 = .ok (.iconst 0, 1) := by decide +kernel
theorem dX13_company_20 : decode cX13_company 20 = .ok (.istore_n 2, 1) := by decide +kernel
theorem dX13_company_21 : decode cX13_company 21 = .ok (.bipush 7, 2) := by decide +kernel
theorem dX13_company_23 : decode cX13_company 23 = .ok (.istore_n 3, 1) := by decide +kernel
theorem dX13_company_24 : decode cX13_company 24 = .ok (.aload_n 0, 1) := by decide +kernel
theorem dX13_company_25 : decode cX13_company 25 = .ok (.invokevirtual 324, 3) := by decide +kernel
theorem dX13_company_28 : decode cX13_company 28 = .ok (.iconst 0, 1) := by decide +kernel
theorem dX13_company_29 : decode cX13_company 29 = .ok (.istore 4, 2) := by decide +kernel
theorem dX13_company_31 : decode cX13_company 31 = .ok (.iload 4, 2) := by decide +kernel
theorem dX13_company_33 : decode cX13_company 33 = .ok (.bipush 99, 2) := by decide +kernel
theorem dX13_company_35 : decode cX13_company 35 = .ok (.if_icmp .gt 41, 3) := by decide +kernel
theorem dX13_company_38 : decode cX13_company 38 = .ok (.aload_n 0, 1) := by decide +kernel
theorem dX13_company_39 : decode cX13_company 39 = .ok (.getfield 21, 3) := by decide +kernel
theorem dX13_company_42 : decode cX13_company 42 = .ok (.iload_n 1, 1) := by decide +kernel
theorem dX13_company_43 : decode cX13_company 43 = .ok (.iload 4, 2) := by decide +kernel
theorem dX13_company_45 : decode cX13_company 45 = .ok (.iastore, 1) := by decide +kernel
theorem dX13_company_46 : decode cX13_company 46 = .ok (.aload_n 0, 1) := by decide +kernel
theorem dX13_company_47 : decode cX13_company 47 = .ok (.invokevirtual 315, 3) := by decide +kernel
theorem dX13_company_50 : decode cX13_company 50 = .ok (.invokestatic 303, 3) := by decide +kernel
theorem dX13_company_53 : decode cX13_company 53 = .ok (.istore 5, 2) := by decide +kernel
theorem dX13_company_55 : decode cX13_company 55 = .ok (.iload 5, 2) := by decide +kernel
theorem dX13_company_57 : decode cX13_company 57 = .ok (.iload_n 3, 1) := by decide +kernel
theorem dX13_company_58 : decode cX13_company 58 = .ok (.if_icmp .lt 6, 3) := by decide +kernel
theorem dX13_company_61 : decode cX13_company 61 = .ok (.goto 9, 3) := by decide +kernel
theorem dX13_company_64 : decode cX13_company 64 = .ok (.iload 5, 2) := by decide +kernel
theorem dX13_company_66 : decode cX13_company 66 = .ok (.istore_n 3, 1) := by decide +kernel
theorem dX13_company_67 : decode cX13_company 67 = .ok (.iload 4, 2) := by decide +kernel
theorem dX13_company_69 : decode cX13_company 69 = .ok (.istore_n 2, 1) := by decide +kernel
theorem dX13_company_70 : decode cX13_company 70 = .ok (.iinc 4 1, 3) := by decide +kernel
theorem dX13_company_73 : decode cX13_company 73 = .ok (.goto (-42), 3) := by decide +kernel
theorem dX13_company_76 : decode cX13_company 76 = .ok (.aload_n 0, 1) := by decide +kernel
theorem dX13_company_77 : decode cX13_company 77 = .ok (.iload_n 2, 1) := by decide +kernel
theorem dX13_company_78 : decode cX13_company 78 = .ok (.invokevirtual 58, 3) := by decide +kernel
theorem dX13_company_81 : decode cX13_company 81 = .ok (.ireturn, 1) := by decide +kernel
theorem dX13_weightOf_0 : decode cX13_weightOf 0 = .ok (.lconst 1, 1) := by decide +kernel
theorem dX13_weightOf_1 : decode cX13_weightOf 1 = .ok (.lstore_n 2, 1) := by decide +kernel
theorem dX13_weightOf_2 : decode cX13_weightOf 2 = .ok (.iconst 0, 1) := by decide +kernel
theorem dX13_weightOf_3 : decode cX13_weightOf 3 = .ok (.istore 4, 2) := by decide +kernel
theorem dX13_weightOf_5 : decode cX13_weightOf 5 = .ok (.iload 4, 2) := by decide +kernel
theorem dX13_weightOf_7 : decode cX13_weightOf 7 = .ok (.aload_n 0, 1) := by decide +kernel
theorem dX13_weightOf_8 : decode cX13_weightOf 8 = .ok (.getfield 289, 3) := by decide +kernel
theorem dX13_weightOf_11 : decode cX13_weightOf 11 = .ok (.getfield 185, 3) := by decide +kernel
theorem dX13_weightOf_14 : decode cX13_weightOf 14 = .ok (.if_icmp .ge 95, 3) := by decide +kernel
theorem dX13_weightOf_17 : decode cX13_weightOf 17 = .ok (.aload_n 0, 1) := by decide +kernel
theorem dX13_weightOf_18 : decode cX13_weightOf 18 = .ok (.getfield 289, 3) := by decide +kernel
theorem dX13_weightOf_21 : decode cX13_weightOf 21 = .ok (.getfield 276, 3) := by decide +kernel
theorem dX13_weightOf_24 : decode cX13_weightOf 24 = .ok (.iload 4, 2) := by decide +kernel
theorem dX13_weightOf_26 : decode cX13_weightOf 26 = .ok (.iaload, 1) := by decide +kernel
theorem dX13_weightOf_27 : decode cX13_weightOf 27 = .ok (.ifCond .ne 6, 3) := by decide +kernel
theorem dX13_weightOf_30 : decode cX13_weightOf 30 = .ok (.goto 73, 3) := by decide +kernel
theorem dX13_weightOf_33 : decode cX13_weightOf 33 = .ok (.iload 4, 2) := by decide +kernel
theorem dX13_weightOf_35 : decode cX13_weightOf 35 = .ok (.iload_n 1, 1) := by decide +kernel
theorem dX13_weightOf_36 : decode cX13_weightOf 36 = .ok (.if_icmp .ne 7, 3) := by decide +kernel
theorem dX13_weightOf_39 : decode cX13_weightOf 39 = .ok (.iconst 1, 1) := by decide +kernel
theorem dX13_weightOf_40 : decode cX13_weightOf 40 = .ok (.goto 4, 3) := by decide +kernel
theorem dX13_weightOf_43 : decode cX13_weightOf 43 = .ok (.iconst 0, 1) := by decide +kernel
theorem dX13_weightOf_44 : decode cX13_weightOf 44 = .ok (.aload_n 0, 1) := by decide +kernel
theorem dX13_weightOf_45 : decode cX13_weightOf 45 = .ok (.getfield 289, 3) := by decide +kernel
theorem dX13_weightOf_48 : decode cX13_weightOf 48 = .ok (.getfield 276, 3) := by decide +kernel
theorem dX13_weightOf_51 : decode cX13_weightOf 51 = .ok (.iload 4, 2) := by decide +kernel
theorem dX13_weightOf_53 : decode cX13_weightOf 53 = .ok (.iaload, 1) := by decide +kernel
theorem dX13_weightOf_54 : decode cX13_weightOf 54 = .ok (.iconst 2, 1) := by decide +kernel
theorem dX13_weightOf_55 : decode cX13_weightOf 55 = .ok (.if_icmp .ne 7, 3) := by decide +kernel
theorem dX13_weightOf_58 : decode cX13_weightOf 58 = .ok (.iconst 1, 1) := by decide +kernel
theorem dX13_weightOf_59 : decode cX13_weightOf 59 = .ok (.goto 4, 3) := by decide +kernel
theorem dX13_weightOf_62 : decode cX13_weightOf 62 = .ok (.iconst 0, 1) := by decide +kernel
theorem dX13_weightOf_63 : decode cX13_weightOf 63 = .ok (.if_icmp .ne 7, 3) := by decide +kernel
theorem dX13_weightOf_66 : decode cX13_weightOf 66 = .ok (.iconst 1, 1) := by decide +kernel
theorem dX13_weightOf_67 : decode cX13_weightOf 67 = .ok (.goto 4, 3) := by decide +kernel
theorem dX13_weightOf_70 : decode cX13_weightOf 70 = .ok (.iconst 0, 1) := by decide +kernel
theorem dX13_weightOf_71 : decode cX13_weightOf 71 = .ok (.istore 5, 2) := by decide +kernel
theorem dX13_weightOf_73 : decode cX13_weightOf 73 = .ok (.lload_n 2, 1) := by decide +kernel
theorem dX13_weightOf_74 : decode cX13_weightOf 74 = .ok (.iload 5, 2) := by decide +kernel
theorem dX13_weightOf_76 : decode cX13_weightOf 76 = .ok (.ifCond .eq 14, 3) := by decide +kernel
theorem dX13_weightOf_79 : decode cX13_weightOf 79 = .ok (.aload_n 0, 1) := by decide +kernel
theorem dX13_weightOf_80 : decode cX13_weightOf 80 = .ok (.getfield 289, 3) := by decide +kernel
theorem dX13_weightOf_83 : decode cX13_weightOf 83 = .ok (.getfield 217, 3) := by decide +kernel
theorem dX13_weightOf_86 : decode cX13_weightOf 86 = .ok (.i2l, 1) := by decide +kernel
theorem dX13_weightOf_87 : decode cX13_weightOf 87 = .ok (.goto 14, 3) := by decide +kernel
theorem dX13_weightOf_90 : decode cX13_weightOf 90 = .ok (.bipush 100, 2) := by decide +kernel
theorem dX13_weightOf_92 : decode cX13_weightOf 92 = .ok (.aload_n 0, 1) := by decide +kernel
theorem dX13_weightOf_93 : decode cX13_weightOf 93 = .ok (.getfield 289, 3) := by decide +kernel
theorem dX13_weightOf_96 : decode cX13_weightOf 96 = .ok (.getfield 217, 3) := by decide +kernel
theorem dX13_weightOf_99 : decode cX13_weightOf 99 = .ok (.isub, 1) := by decide +kernel
theorem dX13_weightOf_100 : decode cX13_weightOf 100 = .ok (.i2l, 1) := by decide +kernel
theorem dX13_weightOf_101 : decode cX13_weightOf 101 = .ok (.lmul, 1) := by decide +kernel
theorem dX13_weightOf_102 : decode cX13_weightOf 102 = .ok (.lstore_n 2, 1) := by decide +kernel
theorem dX13_weightOf_103 : decode cX13_weightOf 103 = .ok (.iinc 4 1, 3) := by decide +kernel
theorem dX13_weightOf_106 : decode cX13_weightOf 106 = .ok (.goto (-101), 3) := by decide +kernel
theorem dX13_weightOf_109 : decode cX13_weightOf 109 = .ok (.lload_n 2, 1) := by decide +kernel
theorem dX13_weightOf_110 : decode cX13_weightOf 110 = .ok (.lreturn, 1) := by decide +kernel
def m_X13_nextOrder (t : Nat) (σ : jd_Hp) : Option (Int32 × jd_Hp) :=
jd_o σ (12, 20) (σ.2.2.2 t 3) fun a1 =>
jd_li ((σ.2.1 a1 3) - 2) fun x2 =>
jd_b (jd_lp (S := Int32) (T := Int32) (fun s3 σ3 =>
jd_if (s3 < 0) (
some ((Sum.inr s3), σ3)) (
jd_o σ3 (13, 29) (some t) fun a5 =>
jd_ia σ3 20 (σ3.2.2.2 a5 25) s3 fun a6 j6 =>
jd_ia σ3 20 (σ3.2.2.2 a5 25) (s3 + 1) fun a7 j7 =>
jd_if ((σ3.2.1 a6 j6) ≤ (σ3.2.1 a7 j7)) (
some ((Sum.inr s3), σ3)) (
some (Sum.inl (s3 + (-1)), σ3)))) jd_fu x2 σ) fun t4 σ4 =>
jd_if (0 ≤ t4) (
jd_o σ4 (13, 29) (some t) fun a8 =>
jd_o σ4 (12, 20) (σ4.2.2.2 a8 3) fun a9 =>
jd_li ((σ4.2.1 a9 3) - 1) fun x10 =>
jd_b (jd_lp (S := Int32) (T := Int32) (fun s11 σ11 =>
jd_o σ11 (13, 29) (some t) fun a13 =>
jd_ia σ11 20 (σ11.2.2.2 a13 25) s11 fun a14 j14 =>
jd_ia σ11 20 (σ11.2.2.2 a13 25) t4 fun a15 j15 =>
jd_if ((σ11.2.1 a15 j15) ≤ (σ11.2.1 a14 j14)) (
some ((Sum.inr s11), σ11)) (
some (Sum.inl (s11 + (-1)), σ11))) jd_fu x10 σ4) fun t12 σ12 =>
jd_o σ12 (13, 29) (some t) fun a16 =>
jd_b (m_X13_swaps a16 t4 t12 σ12) fun r17 σ17 =>
jd_li (t4 + 1) fun x18 =>
jd_o σ17 (12, 20) (σ17.2.2.2 a16 3) fun a19 =>
jd_li ((σ17.2.1 a19 3) - 1) fun x20 =>
jd_b (jd_lp (S := Int32 × Int32) (T := Unit) (fun s21 σ21 =>
jd_if (s21.2 ≤ s21.1) (
some ((Sum.inr ()), σ21)) (
jd_o σ21 (13, 29) (some t) fun a23 =>
jd_b (m_X13_swaps a23 s21.1 s21.2 σ21) fun r24 σ24 =>
some (Sum.inl ((s21.1 + 1), (s21.2 + (-1))), σ24))) jd_fu (x18, x20) σ17) fun t22 σ22 =>
some (1, σ22)) (
some (0, σ4))
set_option maxHeartbeats 4000000 in
set_option maxRecDepth 20000 in
theorem c_X13_nextOrder {l : Launch} {s0 : State} {G : jd_G} (hF : jd_F s0 G) (σ : jd_Hp) (t : Nat) (ht : σ.1[t]? = some (13, 29)) : jd_M l s0 G yX13_nextOrder cX13_nextOrder 5 (some .boolean) 1 je_i [jd_v G (some t)] σ (m_X13_nextOrder t σ) := by
  refine jd_enter hF (by decide) (fun G => [some (jd_v G (some t)), none, none, none, none]) rfl (by simp [lv_args, jd_al, jd_v_cat, jd_cti, jd_ctl]) (by simp [lg_sl, jd_v_cat, jd_cti, jd_ctl]) (fun X hD hX => ?_)
  have hX : jd_C X RX13 "nextOrder" cX13_nextOrder 5 (some .boolean) := hX
  unfold m_X13_nextOrder
  refine jr_ald0 (pc := 0) hX dX13_nextOrder_0 ?_
  refine jr_getr (pc := 1) hX fX13_289 rfl dX13_nextOrder_1 ht ?_
  refine jr_ck0 (fun a1 e1 h1 => ?_)
  refine jr_getiN (pc := 4) hX fX13_185 rfl dX13_nextOrder_4 h1 ?_
  refine jr_iconst (pc := 7) hX 2 rfl dX13_nextOrder_7 ?_
  refine jr_isub (pc := 8) hX dX13_nextOrder_8 ?_
  refine jr_ist1 (pc := 9) hX (jn_r _ _) dX13_nextOrder_9 ?_
  refine jr_li ?_
  refine jr_loop (pc := 10) (fun (s3 : Int32) => [some (jd_v (jd_gG X) (some t)), some (.int s3), none, none, none]) (fun (t4 : Int32) => [some (jd_v (jd_gG X) (some t)), some (.int t4), none, none, none]) 37 ((σ.2.1 a1 3) - 2) (fun t4 σ4 => ?_) (fun K3 bk3 ex3 s3 σ3 => ?_)
  · refine jr_ild1 (pc := 37) hX dX13_nextOrder_37 ?_
    refine jr_ifge (pc := 38) hX 43 dX13_nextOrder_38 (by decide) ?_ ?_
    · refine jr_ald0 (pc := 43) hX dX13_nextOrder_43 ?_
      refine jr_ck0 (fun a8 e8 h8 => ?_)
      refine jr_getr (pc := 44) hX fX13_289 rfl dX13_nextOrder_44 h8 ?_
      refine jr_ck0 (fun a9 e9 h9 => ?_)
      refine jr_getiN (pc := 47) hX fX13_185 rfl dX13_nextOrder_47 h9 ?_
      refine jr_iconst (pc := 50) hX 1 rfl dX13_nextOrder_50 ?_
      refine jr_isub (pc := 51) hX dX13_nextOrder_51 ?_
      refine jr_ist2 (pc := 52) hX (jn_i _) dX13_nextOrder_52 ?_
      refine jr_li ?_
      refine jr_loop (pc := 53) (fun (s11 : Int32) => [some (jd_v (jd_gG X) (some t)), some (.int t4), some (.int s11), none, none]) (fun (t12 : Int32) => [some (jd_v (jd_gG X) (some t)), some (.int t4), some (.int t12), none, none]) 74 ((σ4.2.1 a9 3) - 1) (fun t12 σ12 => ?_) (fun K11 bk11 ex11 s11 σ11 => ?_)
      · refine jr_ald0 (pc := 74) hX dX13_nextOrder_74 ?_
        refine jr_ild1 (pc := 75) hX dX13_nextOrder_75 ?_
        refine jr_ild2 (pc := 76) hX dX13_nextOrder_76 ?_
        refine jr_ck2 (fun a16 e16 h16 => ?_)
        refine jr_cV2v (pc := 77) hX lX13_358 (c_X13_swaps hX.F σ12 a16 h16 _ _) (jd_dd hD rfl) (Nat.le_of_ble_eq_true rfl) dX13_nextOrder_77 h16 (fun r17 σ17 p17 => ?_)
        refine jr_ild1 (pc := 80) hX dX13_nextOrder_80 ?_
        refine jr_iconst (pc := 81) hX 1 rfl dX13_nextOrder_81 ?_
        refine jr_iadd (pc := 82) hX dX13_nextOrder_82 ?_
        refine jr_ist3 (pc := 83) hX (jn_i _) dX13_nextOrder_83 ?_
        refine jr_li ?_
        refine jr_ald0 (pc := 84) hX dX13_nextOrder_84 ?_
        refine jr_ek0 e16 ?_
        refine jr_getr (pc := 85) hX fX13_289 rfl dX13_nextOrder_85 (p17.at h16 :) ?_
        refine jr_ck0 (fun a19 e19 h19 => ?_)
        refine jr_getiN (pc := 88) hX fX13_185 rfl dX13_nextOrder_88 h19 ?_
        refine jr_iconst (pc := 91) hX 1 rfl dX13_nextOrder_91 ?_
        refine jr_isub (pc := 92) hX dX13_nextOrder_92 ?_
        refine jr_ist4 (pc := 93) hX (jn_i _) dX13_nextOrder_93 ?_
        refine jr_li ?_
        refine jr_wk [true, false, false, true, true] ?_
        refine jr_loop (pc := 95) (fun (s21 : Int32 × Int32) => [some (jd_v (jd_gG X) (some t)), none, none, some (.int s21.1), some (.int s21.2)]) (fun (t22 : Unit) => [none, none, none, none, none]) 117 ((t4 + 1), ((σ17.2.1 a19 3) - 1)) (fun t22 σ22 => ?_) (fun K21 bk21 ex21 s21 σ21 => ?_)
        · refine jr_iconst (pc := 117) hX 1 rfl dX13_nextOrder_117 ?_
          exact jr_zret (pc := 118) hX dX13_nextOrder_118 (Or.inr rfl) rfl
        · refine jr_ild3 (pc := 95) hX dX13_nextOrder_95 ?_
          refine jr_ild4 (pc := 96) hX dX13_nextOrder_96 ?_
          refine jr_icge (pc := 98) hX 117 dX13_nextOrder_98 (by decide) ?_ ?_
          · refine jr_wk [false, true, true, false, false] ?_
            exact ex21 () _
          · refine jr_ald0 (pc := 101) hX dX13_nextOrder_101 ?_
            refine jr_ild3 (pc := 102) hX dX13_nextOrder_102 ?_
            refine jr_ild4 (pc := 103) hX dX13_nextOrder_103 ?_
            refine jr_ck2 (fun a23 e23 h23 => ?_)
            refine jr_cV2v (pc := 105) hX lX13_358 (c_X13_swaps hX.F σ21 a23 h23 _ _) (jd_dd hD rfl) (Nat.le_of_ble_eq_true rfl) dX13_nextOrder_105 h23 (fun r24 σ24 p24 => ?_)
            refine jr_inc3 (pc := 108) hX 1 rfl jn_n dX13_nextOrder_108 ?_
            refine jr_inc4 (pc := 111) hX (-1) rfl (jn_i _) dX13_nextOrder_111 ?_
            refine jr_goto (pc := 114) hX 95 dX13_nextOrder_114 (by decide) ?_
            exact bk21 ((s21.1 + 1), (s21.2 + (-1))) _
      · refine jr_ald0 (pc := 53) hX dX13_nextOrder_53 ?_
        refine jr_ck0 (fun a13 e13 h13 => ?_)
        refine jr_getr (pc := 54) hX fX13_39 rfl dX13_nextOrder_54 h13 ?_
        refine jr_ild2 (pc := 57) hX dX13_nextOrder_57 ?_
        refine jr_iaC (pc := 58) hX dX13_nextOrder_58 (fun a14 n14 e14 h14 => ?_)
        refine jr_ald0 (pc := 59) hX dX13_nextOrder_59 ?_
        refine jr_ek0 e13 ?_
        refine jr_getr (pc := 60) hX fX13_39 rfl dX13_nextOrder_60 h13 ?_
        refine jr_ild1 (pc := 63) hX dX13_nextOrder_63 ?_
        refine jr_iaC (pc := 64) hX dX13_nextOrder_64 (fun a15 n15 e15 h15 => ?_)
        refine jr_icge (pc := 65) hX 74 dX13_nextOrder_65 (by decide) ?_ ?_
        · exact ex11 s11 _
        · refine jr_inc2 (pc := 68) hX (-1) rfl (jn_i _) dX13_nextOrder_68 ?_
          refine jr_goto (pc := 71) hX 53 dX13_nextOrder_71 (by decide) ?_
          exact bk11 (s11 + (-1)) _
    · refine jr_iconst (pc := 41) hX 0 rfl dX13_nextOrder_41 ?_
      exact jr_zret (pc := 42) hX dX13_nextOrder_42 (Or.inl rfl) rfl
  · refine jr_ild1 (pc := 10) hX dX13_nextOrder_10 ?_
    refine jr_iflt (pc := 11) hX 37 dX13_nextOrder_11 (by decide) ?_ ?_
    · exact ex3 s3 _
    · refine jr_ald0 (pc := 14) hX dX13_nextOrder_14 ?_
      refine jr_ck0 (fun a5 e5 h5 => ?_)
      refine jr_getr (pc := 15) hX fX13_39 rfl dX13_nextOrder_15 h5 ?_
      refine jr_ild1 (pc := 18) hX dX13_nextOrder_18 ?_
      refine jr_iaC (pc := 19) hX dX13_nextOrder_19 (fun a6 n6 e6 h6 => ?_)
      refine jr_ald0 (pc := 20) hX dX13_nextOrder_20 ?_
      refine jr_ek0 e5 ?_
      refine jr_getr (pc := 21) hX fX13_39 rfl dX13_nextOrder_21 h5 ?_
      refine jr_ild1 (pc := 24) hX dX13_nextOrder_24 ?_
      refine jr_iconst (pc := 25) hX 1 rfl dX13_nextOrder_25 ?_
      refine jr_iadd (pc := 26) hX dX13_nextOrder_26 ?_
      refine jr_iaC (pc := 27) hX dX13_nextOrder_27 (fun a7 n7 e7 h7 => ?_)
      refine jr_icle (pc := 28) hX 37 dX13_nextOrder_28 (by decide) ?_ ?_
      · exact ex3 s3 _
      · refine jr_inc1 (pc := 31) hX (-1) rfl (jn_r _ _) dX13_nextOrder_31 ?_
        refine jr_goto (pc := 34) hX 10 dX13_nextOrder_34 (by decide) ?_
        exact bk3 (s3 + (-1)) _
def m_X13_seatsBest (t : Nat) (σ : jd_Hp) : Option (Int32 × jd_Hp) :=
jd_b (m_X13_works t σ) fun r1 σ1 =>
jd_b (jd_lp (S := Int32) (T := Unit) (fun s2 σ2 =>
jd_o σ2 (13, 29) (some t) fun a4 =>
jd_o σ2 (12, 20) (σ2.2.2.2 a4 3) fun a5 =>
jd_if ((σ2.2.1 a5 3) ≤ s2) (
some ((Sum.inr ()), σ2)) (
jd_ia σ2 20 (σ2.2.2.2 a4 25) s2 fun a6 j6 =>
jd_li (jd_pi σ2 a6 j6 s2) fun τ7 =>
some (Sum.inl (s2 + 1), τ7))) jd_fu 0 σ1) fun t3 σ3 =>
jd_b (jd_lp (S := Int32 × Int32) (T := Int32) (fun s8 σ8 =>
jd_if (s8.2 = 0) (
some ((Sum.inr s8.1), σ8)) (
jd_b (jd_lp (S := Int32) (T := Unit) (fun s10 σ10 =>
jd_o σ10 (13, 29) (some t) fun a12 =>
jd_o σ10 (12, 20) (σ10.2.2.2 a12 3) fun a13 =>
jd_if ((σ10.2.1 a13 3) ≤ s10) (
some ((Sum.inr ()), σ10)) (
jd_ia σ10 20 (σ10.2.2.2 a12 25) s10 fun a14 j14 =>
jd_ia σ10 20 (σ10.2.2.2 a12 15) (σ10.2.1 a14 j14) fun a15 j15 =>
jd_ia σ10 20 (σ10.2.2.2 a12 16) s10 fun a16 j16 =>
jd_li (jd_pi σ10 a16 j16 (σ10.2.1 a15 j15)) fun τ17 =>
some (Sum.inl (s10 + 1), τ17))) jd_fu 0 σ8) fun t11 σ11 =>
jd_o σ11 (13, 29) (some t) fun a18 =>
jd_b (m_X13_unreached a18 σ11) fun r19 σ19 =>
jd_b (m_X13_bits r19 σ19) fun r20 σ20 =>
jd_if (s8.1 ≤ r20) (
jd_b (m_X13_nextOrder a18 σ20) fun r21 σ21 =>
some (Sum.inl (s8.1, r21), σ21)) (
jd_b (jd_lp (S := Int32) (T := Unit) (fun s22 σ22 =>
jd_o σ22 (13, 29) (some t) fun a24 =>
jd_o σ22 (12, 20) (σ22.2.2.2 a24 3) fun a25 =>
jd_if ((σ22.2.1 a25 3) ≤ s22) (
some ((Sum.inr ()), σ22)) (
jd_ia σ22 20 (σ22.2.2.2 a24 25) s22 fun a26 j26 =>
jd_ia σ22 20 (σ22.2.2.2 a24 26) s22 fun a27 j27 =>
jd_li (jd_pi σ22 a27 j27 (σ22.2.1 a26 j26)) fun τ28 =>
some (Sum.inl (s22 + 1), τ28))) jd_fu 0 σ20) fun t23 σ23 =>
jd_o σ23 (13, 29) (some t) fun a29 =>
jd_b (m_X13_nextOrder a29 σ23) fun r30 σ30 =>
some (Sum.inl (r20, r30), σ30)))) jd_fu (7, 1) σ3) fun t9 σ9 =>
some (t9, σ9)
set_option maxHeartbeats 4000000 in
set_option maxRecDepth 20000 in
theorem c_X13_seatsBest {l : Launch} {s0 : State} {G : jd_G} (hF : jd_F s0 G) (σ : jd_Hp) (t : Nat) (ht : σ.1[t]? = some (13, 29)) : jd_M l s0 G yX13_seatsBest cX13_seatsBest 5 (some .int) 5 je_i [jd_v G (some t)] σ (m_X13_seatsBest t σ) := by
  refine jd_enter hF (by decide) (fun G => [some (jd_v G (some t)), none, none, none, none]) rfl (by simp [lv_args, jd_al, jd_v_cat, jd_cti, jd_ctl]) (by simp [lg_sl, jd_v_cat, jd_cti, jd_ctl]) (fun X hD hX => ?_)
  have hX : jd_C X RX13 "seatsBest" cX13_seatsBest 5 (some .int) := hX
  unfold m_X13_seatsBest
  refine jr_ald0 (pc := 0) hX dX13_seatsBest_0 ?_
  refine jr_cV0v (pc := 1) hX lX13_324 (c_X13_works hX.F σ t ht) (jd_dd hD rfl) (Nat.le_of_ble_eq_true rfl) dX13_seatsBest_1 ht (fun r1 σ1 p1 => ?_)
  refine jr_iconst (pc := 4) hX 0 rfl dX13_seatsBest_4 ?_
  refine jr_ist1 (pc := 5) hX (jn_r _ _) dX13_seatsBest_5 ?_
  refine jr_loop (pc := 6) (fun (s2 : Int32) => [some (jd_v (jd_gG X) (some t)), some (.int s2), none, none, none]) (fun (t3 : Unit) => [some (jd_v (jd_gG X) (some t)), none, none, none, none]) 30 0 (fun t3 σ3 => ?_) (fun K2 bk2 ex2 s2 σ2 => ?_)
  · refine jr_bipush (pc := 30) hX 7 rfl dX13_seatsBest_30 ?_
    refine jr_ist1 (pc := 32) hX (jn_r _ _) dX13_seatsBest_32 ?_
    refine jr_iconst (pc := 33) hX 1 rfl dX13_seatsBest_33 ?_
    refine jr_ist2 (pc := 34) hX (jn_i _) dX13_seatsBest_34 ?_
    refine jr_loop (pc := 35) (fun (s8 : Int32 × Int32) => [some (jd_v (jd_gG X) (some t)), some (.int s8.1), some (.int s8.2), none, none]) (fun (t9 : Int32) => [none, some (.int t9), none, none, none]) 133 (7, 1) (fun t9 σ9 => ?_) (fun K8 bk8 ex8 s8 σ8 => ?_)
    · refine jr_ild1 (pc := 133) hX dX13_seatsBest_133 ?_
      exact jr_iret (pc := 134) hX dX13_seatsBest_134 rfl
    · refine jr_ild2 (pc := 35) hX dX13_seatsBest_35 ?_
      refine jr_ifeq (pc := 36) hX 133 dX13_seatsBest_36 (by decide) ?_ ?_
      · refine jr_wk [false, true, false, true, true] ?_
        exact ex8 s8.1 _
      · refine jr_iconst (pc := 39) hX 0 rfl dX13_seatsBest_39 ?_
        refine jr_ist3 (pc := 40) hX (jn_i _) dX13_seatsBest_40 ?_
        refine jr_wk [true, true, false, true, true] ?_
        refine jr_loop (pc := 41) (fun (s10 : Int32) => [some (jd_v (jd_gG X) (some t)), some (.int s8.1), none, some (.int s10), none]) (fun (t11 : Unit) => [some (jd_v (jd_gG X) (some t)), some (.int s8.1), none, none, none]) 75 0 (fun t11 σ11 => ?_) (fun K10 bk10 ex10 s10 σ10 => ?_)
        · refine jr_ald0 (pc := 75) hX dX13_seatsBest_75 ?_
          refine jr_ck0 (fun a18 e18 h18 => ?_)
          refine jr_cV0i (pc := 76) hX lX13_361 (c_X13_unreached hX.F σ11 a18 h18) (jd_dd hD rfl) (Nat.le_of_ble_eq_true rfl) dX13_seatsBest_76 h18 (fun r19 σ19 p19 => ?_)
          refine jr_cS1i (pc := 79) hX lX13_303 (c_X13_bits hX.F σ19 _) (jd_dd hD rfl) (Nat.le_of_ble_eq_true rfl) dX13_seatsBest_79 (fun r20 σ20 p20 => ?_)
          refine jr_ist3 (pc := 82) hX jn_n dX13_seatsBest_82 ?_
          refine jr_ild3 (pc := 83) hX dX13_seatsBest_83 ?_
          refine jr_ild1 (pc := 84) hX dX13_seatsBest_84 ?_
          refine jr_icge (pc := 85) hX 125 dX13_seatsBest_85 (by decide) ?_ ?_
          · refine jr_ald0 (pc := 125) hX dX13_seatsBest_125 ?_
            refine jr_ek0 e18 ?_
            refine jr_cV0i (pc := 126) hX lX13_364 (c_X13_nextOrder hX.F σ20 a18 (p20.at (p19.at h18 :) :)) (jd_dd hD rfl) (Nat.le_of_ble_eq_true rfl) dX13_seatsBest_126 (p20.at (p19.at h18 :) :) (fun r21 σ21 p21 => ?_)
            refine jr_ist2 (pc := 129) hX (jn_i _) dX13_seatsBest_129 ?_
            refine jr_goto (pc := 130) hX 35 dX13_seatsBest_130 (by decide) ?_
            refine jr_wk [true, true, true, false, true] ?_
            exact bk8 (s8.1, r21) _
          · refine jr_ild3 (pc := 88) hX dX13_seatsBest_88 ?_
            refine jr_ist1 (pc := 89) hX (jn_r _ _) dX13_seatsBest_89 ?_
            refine jr_iconst (pc := 90) hX 0 rfl dX13_seatsBest_90 ?_
            refine jr_ist4 (pc := 91) hX (jn_i _) dX13_seatsBest_91 ?_
            refine jr_wk [true, true, true, false, true] ?_
            refine jr_loop (pc := 93) (fun (s22 : Int32) => [some (jd_v (jd_gG X) (some t)), some (.int r20), none, none, some (.int s22)]) (fun (t23 : Unit) => [some (jd_v (jd_gG X) (some t)), some (.int r20), none, none, none]) 125 0 (fun t23 σ23 => ?_) (fun K22 bk22 ex22 s22 σ22 => ?_)
            · refine jr_ald0 (pc := 125) hX dX13_seatsBest_125 ?_
              refine jr_ck0 (fun a29 e29 h29 => ?_)
              refine jr_cV0i (pc := 126) hX lX13_364 (c_X13_nextOrder hX.F σ23 a29 h29) (jd_dd hD rfl) (Nat.le_of_ble_eq_true rfl) dX13_seatsBest_126 h29 (fun r30 σ30 p30 => ?_)
              refine jr_ist2 (pc := 129) hX (jn_i _) dX13_seatsBest_129 ?_
              refine jr_goto (pc := 130) hX 35 dX13_seatsBest_130 (by decide) ?_
              exact bk8 (r20, r30) _
            · refine jr_ild4 (pc := 93) hX dX13_seatsBest_93 ?_
              refine jr_ald0 (pc := 95) hX dX13_seatsBest_95 ?_
              refine jr_ck0 (fun a24 e24 h24 => ?_)
              refine jr_getr (pc := 96) hX fX13_289 rfl dX13_seatsBest_96 h24 ?_
              refine jr_ck0 (fun a25 e25 h25 => ?_)
              refine jr_getiN (pc := 99) hX fX13_185 rfl dX13_seatsBest_99 h25 ?_
              refine jr_icge (pc := 102) hX 125 dX13_seatsBest_102 (by decide) ?_ ?_
              · refine jr_wk [true, true, true, true, false] ?_
                exact ex22 () _
              · refine jr_ald0 (pc := 105) hX dX13_seatsBest_105 ?_
                refine jr_ek0 e24 ?_
                refine jr_getr (pc := 106) hX fX13_42 rfl dX13_seatsBest_106 h24 ?_
                refine jr_ild4 (pc := 109) hX dX13_seatsBest_109 ?_
                refine jr_ald0 (pc := 111) hX dX13_seatsBest_111 ?_
                refine jr_ek0 e24 ?_
                refine jr_getr (pc := 112) hX fX13_39 rfl dX13_seatsBest_112 h24 ?_
                refine jr_ild4 (pc := 115) hX dX13_seatsBest_115 ?_
                refine jr_iaC (pc := 117) hX dX13_seatsBest_117 (fun a26 n26 e26 h26 => ?_)
                refine jr_iaS (pc := 118) hX dX13_seatsBest_118 (fun a27 n27 e27 h27 => ?_)
                refine jr_li ?_
                refine jr_inc4 (pc := 119) hX 1 rfl jn_n dX13_seatsBest_119 ?_
                refine jr_goto (pc := 122) hX 93 dX13_seatsBest_122 (by decide) ?_
                exact bk22 (s22 + 1) _
        · refine jr_ild3 (pc := 41) hX dX13_seatsBest_41 ?_
          refine jr_ald0 (pc := 42) hX dX13_seatsBest_42 ?_
          refine jr_ck0 (fun a12 e12 h12 => ?_)
          refine jr_getr (pc := 43) hX fX13_289 rfl dX13_seatsBest_43 h12 ?_
          refine jr_ck0 (fun a13 e13 h13 => ?_)
          refine jr_getiN (pc := 46) hX fX13_185 rfl dX13_seatsBest_46 h13 ?_
          refine jr_icge (pc := 49) hX 75 dX13_seatsBest_49 (by decide) ?_ ?_
          · refine jr_wk [true, true, true, false, true] ?_
            exact ex10 () _
          · refine jr_ald0 (pc := 52) hX dX13_seatsBest_52 ?_
            refine jr_ek0 e12 ?_
            refine jr_getr (pc := 53) hX fX13_21 rfl dX13_seatsBest_53 h12 ?_
            refine jr_ild3 (pc := 56) hX dX13_seatsBest_56 ?_
            refine jr_ald0 (pc := 57) hX dX13_seatsBest_57 ?_
            refine jr_ek0 e12 ?_
            refine jr_getr (pc := 58) hX fX13_17 rfl dX13_seatsBest_58 h12 ?_
            refine jr_ald0 (pc := 61) hX dX13_seatsBest_61 ?_
            refine jr_ek0 e12 ?_
            refine jr_getr (pc := 62) hX fX13_39 rfl dX13_seatsBest_62 h12 ?_
            refine jr_ild3 (pc := 65) hX dX13_seatsBest_65 ?_
            refine jr_iaC (pc := 66) hX dX13_seatsBest_66 (fun a14 n14 e14 h14 => ?_)
            refine jr_iaC (pc := 67) hX dX13_seatsBest_67 (fun a15 n15 e15 h15 => ?_)
            refine jr_iaS (pc := 68) hX dX13_seatsBest_68 (fun a16 n16 e16 h16 => ?_)
            refine jr_li ?_
            refine jr_inc3 (pc := 69) hX 1 rfl jn_n dX13_seatsBest_69 ?_
            refine jr_goto (pc := 72) hX 41 dX13_seatsBest_72 (by decide) ?_
            exact bk10 (s10 + 1) _
  · refine jr_ild1 (pc := 6) hX dX13_seatsBest_6 ?_
    refine jr_ald0 (pc := 7) hX dX13_seatsBest_7 ?_
    refine jr_ck0 (fun a4 e4 h4 => ?_)
    refine jr_getr (pc := 8) hX fX13_289 rfl dX13_seatsBest_8 h4 ?_
    refine jr_ck0 (fun a5 e5 h5 => ?_)
    refine jr_getiN (pc := 11) hX fX13_185 rfl dX13_seatsBest_11 h5 ?_
    refine jr_icge (pc := 14) hX 30 dX13_seatsBest_14 (by decide) ?_ ?_
    · refine jr_wk [true, false, true, true, true] ?_
      exact ex2 () _
    · refine jr_ald0 (pc := 17) hX dX13_seatsBest_17 ?_
      refine jr_ek0 e4 ?_
      refine jr_getr (pc := 18) hX fX13_39 rfl dX13_seatsBest_18 h4 ?_
      refine jr_ild1 (pc := 21) hX dX13_seatsBest_21 ?_
      refine jr_ild1 (pc := 22) hX dX13_seatsBest_22 ?_
      refine jr_iaS (pc := 23) hX dX13_seatsBest_23 (fun a6 n6 e6 h6 => ?_)
      refine jr_li ?_
      refine jr_inc1 (pc := 24) hX 1 rfl (jn_r _ _) dX13_seatsBest_24 ?_
      refine jr_goto (pc := 27) hX 6 dX13_seatsBest_27 (by decide) ?_
      exact bk2 (s2 + 1) _
def m_X13_seats (t : Nat) (σ : jd_Hp) : Option (Int32 × jd_Hp) :=
jd_li (jd_pi σ t 0 0) fun τ1 =>
jd_if (¬ (τ1.2.2.2 t 3) = none) (
jd_b (m_X13_seatsBest t τ1) fun r2 σ2 =>
jd_b (m_X13_good t r2 σ2) fun r3 σ3 =>
some (r3, σ3)) (
jd_b (m_X13_refused t 1 τ1) fun r4 σ4 =>
some (r4, σ4))
set_option maxHeartbeats 4000000 in
set_option maxRecDepth 20000 in
theorem c_X13_seats {l : Launch} {s0 : State} {G : jd_G} (hF : jd_F s0 G) (σ : jd_Hp) (t : Nat) (ht : σ.1[t]? = some (13, 29)) : jd_M l s0 G yX13_seats cX13_seats 1 (some .int) 6 je_i [jd_v G (some t)] σ (m_X13_seats t σ) := by
  refine jd_enter hF (by decide) (fun G => [some (jd_v G (some t))]) rfl (by simp [lv_args, jd_al, jd_v_cat, jd_cti, jd_ctl]) (by simp [lg_sl, jd_v_cat, jd_cti, jd_ctl]) (fun X hD hX => ?_)
  have hX : jd_C X RX13 "seats" cX13_seats 1 (some .int) := hX
  unfold m_X13_seats
  refine jr_ald0 (pc := 0) hX dX13_seats_0 ?_
  refine jr_iconst (pc := 1) hX 0 rfl dX13_seats_1 ?_
  refine jr_puti (pc := 2) hX fX13_48 rfl dX13_seats_2 ht ?_
  refine jr_li ?_
  refine jr_ald0 (pc := 5) hX dX13_seats_5 ?_
  refine jr_getr (pc := 6) hX fX13_289 rfl dX13_seats_6 ht ?_
  refine jr_ifnonnull (pc := 9) hX 20 dX13_seats_9 (by decide) ?_ ?_
  · refine jr_ald0 (pc := 20) hX dX13_seats_20 ?_
    refine jr_ald0 (pc := 21) hX dX13_seats_21 ?_
    refine jr_cV0i (pc := 22) hX lX13_367 (c_X13_seatsBest hX.F (jd_pi σ t 0 0) t ht) (jd_dd hD rfl) (by simp [jd_v_cat, jd_cti, jd_ctl]) dX13_seats_22 ht (fun r2 σ2 p2 => ?_)
    refine jr_cV1i (pc := 25) hX lX13_58 (c_X13_good hX.F σ2 t (p2.at ht :) _) (jd_dd hD rfl) (Nat.le_of_ble_eq_true rfl) dX13_seats_25 (p2.at ht :) (fun r3 σ3 p3 => ?_)
    exact jr_iret (pc := 28) hX dX13_seats_28 rfl
  · refine jr_ald0 (pc := 12) hX dX13_seats_12 ?_
    refine jr_iconst (pc := 13) hX 1 rfl dX13_seats_13 ?_
    refine jr_cV1i (pc := 14) hX lX13_54 (c_X13_refused hX.F (jd_pi σ t 0 0) t ht _) (jd_dd hD rfl) (Nat.le_of_ble_eq_true rfl) dX13_seats_14 ht (fun r4 σ4 p4 => ?_)
    refine jr_goto (pc := 17) hX 28 dX13_seats_17 (by decide) ?_
    exact jr_iret (pc := 28) hX dX13_seats_28 rfl
def m_X13_seatOf (t : Nat) (x0p : Int32) (σ : jd_Hp) : Option (Int32 × jd_Hp) :=
jd_li (jd_pi σ t 0 0) fun τ1 =>
jd_b (m_X13_isPerson t x0p τ1) fun r2 σ2 =>
jd_if (¬ r2 = 0) (
jd_b (m_X13_seatsBest t σ2) fun r3 σ3 =>
jd_ia σ3 20 (σ3.2.2.2 t 26) x0p fun a4 j4 =>
jd_ia σ3 20 (σ3.2.2.2 t 15) (σ3.2.1 a4 j4) fun a5 j5 =>
jd_b (m_X13_good t (σ3.2.1 a5 j5) σ3) fun r6 σ6 =>
some (r6, σ6)) (
jd_b (m_X13_refused t 1 σ2) fun r7 σ7 =>
some (r7, σ7))
set_option maxHeartbeats 4000000 in
set_option maxRecDepth 20000 in
theorem c_X13_seatOf {l : Launch} {s0 : State} {G : jd_G} (hF : jd_F s0 G) (σ : jd_Hp) (t : Nat) (ht : σ.1[t]? = some (13, 29)) (x0p : Int32) : jd_M l s0 G yX13_seatOf cX13_seatOf 2 (some .int) 6 je_i [jd_v G (some t), .int x0p] σ (m_X13_seatOf t x0p σ) := by
  refine jd_enter hF (by decide) (fun G => [some (jd_v G (some t)), some (.int x0p)]) rfl (by simp [lv_args, jd_al, jd_v_cat, jd_cti, jd_ctl]) (by simp [lg_sl, jd_v_cat, jd_cti, jd_ctl]) (fun X hD hX => ?_)
  have hX : jd_C X RX13 "seatOf" cX13_seatOf 2 (some .int) := hX
  unfold m_X13_seatOf
  refine jr_ald0 (pc := 0) hX dX13_seatOf_0 ?_
  refine jr_iconst (pc := 1) hX 0 rfl dX13_seatOf_1 ?_
  refine jr_puti (pc := 2) hX fX13_48 rfl dX13_seatOf_2 ht ?_
  refine jr_li ?_
  refine jr_ald0 (pc := 5) hX dX13_seatOf_5 ?_
  refine jr_ild1 (pc := 6) hX dX13_seatOf_6 ?_
  refine jr_cV1i (pc := 7) hX lX13_321 (c_X13_isPerson hX.F (jd_pi σ t 0 0) t ht _) (jd_dd hD rfl) (Nat.le_of_ble_eq_true rfl) dX13_seatOf_7 ht (fun r2 σ2 p2 => ?_)
  refine jr_ifne (pc := 10) hX 19 dX13_seatOf_10 (by decide) ?_ ?_
  · refine jr_ald0 (pc := 19) hX dX13_seatOf_19 ?_
    refine jr_cV0i (pc := 20) hX lX13_367 (c_X13_seatsBest hX.F σ2 t (p2.at ht :)) (jd_dd hD rfl) (Nat.le_of_ble_eq_true rfl) dX13_seatOf_20 (p2.at ht :) (fun r3 σ3 p3 => ?_)
    refine jr_pop (pc := 23) hX rfl dX13_seatOf_23 ?_
    refine jr_ald0 (pc := 24) hX dX13_seatOf_24 ?_
    refine jr_ald0 (pc := 25) hX dX13_seatOf_25 ?_
    refine jr_getr (pc := 26) hX fX13_17 rfl dX13_seatOf_26 (p3.at (p2.at ht :) :) ?_
    refine jr_ald0 (pc := 29) hX dX13_seatOf_29 ?_
    refine jr_getr (pc := 30) hX fX13_42 rfl dX13_seatOf_30 (p3.at (p2.at ht :) :) ?_
    refine jr_ild1 (pc := 33) hX dX13_seatOf_33 ?_
    refine jr_iaC (pc := 34) hX dX13_seatOf_34 (fun a4 n4 e4 h4 => ?_)
    refine jr_iaC (pc := 35) hX dX13_seatOf_35 (fun a5 n5 e5 h5 => ?_)
    refine jr_cV1i (pc := 36) hX lX13_58 (c_X13_good hX.F σ3 t (p3.at (p2.at ht :) :) _) (jd_dd hD rfl) (Nat.le_of_ble_eq_true rfl) dX13_seatOf_36 (p3.at (p2.at ht :) :) (fun r6 σ6 p6 => ?_)
    exact jr_iret (pc := 39) hX dX13_seatOf_39 rfl
  · refine jr_ald0 (pc := 13) hX dX13_seatOf_13 ?_
    refine jr_iconst (pc := 14) hX 1 rfl dX13_seatOf_14 ?_
    refine jr_cV1i (pc := 15) hX lX13_54 (c_X13_refused hX.F σ2 t (p2.at ht :) _) (jd_dd hD rfl) (Nat.le_of_ble_eq_true rfl) dX13_seatOf_15 (p2.at ht :) (fun r7 σ7 p7 => ?_)
    exact jr_iret (pc := 18) hX dX13_seatOf_18 rfl
def m_X13_company (t : Nat) (x0p : Int32) (σ : jd_Hp) : Option (Int32 × jd_Hp) :=
jd_li (jd_pi σ t 0 0) fun τ1 =>
jd_b (m_X13_isPerson t x0p τ1) fun r2 σ2 =>
jd_if (¬ r2 = 0) (
jd_b (m_X13_works t σ2) fun r3 σ3 =>
jd_b (jd_lp (S := Int32 × Int32 × Int32) (T := Int32) (fun s4 σ4 =>
jd_if (99 < s4.2.2) (
some ((Sum.inr s4.1), σ4)) (
jd_o σ4 (13, 29) (some t) fun a6 =>
jd_ia σ4 20 (σ4.2.2.2 a6 16) x0p fun a7 j7 =>
jd_li (jd_pi σ4 a7 j7 s4.2.2) fun τ8 =>
jd_b (m_X13_sinkersNow a6 τ8) fun r9 σ9 =>
jd_b (m_X13_bits r9 σ9) fun r10 σ10 =>
jd_if (r10 < s4.2.1) (
some (Sum.inl (s4.2.2, r10, (s4.2.2 + 1)), σ10)) (
some (Sum.inl (s4.1, s4.2.1, (s4.2.2 + 1)), σ10)))) jd_fu (0, 7, 0) σ3) fun t5 σ5 =>
jd_o σ5 (13, 29) (some t) fun a11 =>
jd_b (m_X13_good a11 t5 σ5) fun r12 σ12 =>
some (r12, σ12)) (
jd_b (m_X13_refused t 1 σ2) fun r13 σ13 =>
some (r13, σ13))
set_option maxHeartbeats 4000000 in
set_option maxRecDepth 20000 in
theorem c_X13_company {l : Launch} {s0 : State} {G : jd_G} (hF : jd_F s0 G) (σ : jd_Hp) (t : Nat) (ht : σ.1[t]? = some (13, 29)) (x0p : Int32) : jd_M l s0 G yX13_company cX13_company 6 (some .int) 4 je_i [jd_v G (some t), .int x0p] σ (m_X13_company t x0p σ) := by
  refine jd_enter hF (by decide) (fun G => [some (jd_v G (some t)), some (.int x0p), none, none, none, none]) rfl (by simp [lv_args, jd_al, jd_v_cat, jd_cti, jd_ctl]) (by simp [lg_sl, jd_v_cat, jd_cti, jd_ctl]) (fun X hD hX => ?_)
  have hX : jd_C X RX13 "company" cX13_company 6 (some .int) := hX
  unfold m_X13_company
  refine jr_ald0 (pc := 0) hX dX13_company_0 ?_
  refine jr_iconst (pc := 1) hX 0 rfl dX13_company_1 ?_
  refine jr_puti (pc := 2) hX fX13_48 rfl dX13_company_2 ht ?_
  refine jr_li ?_
  refine jr_ald0 (pc := 5) hX dX13_company_5 ?_
  refine jr_ild1 (pc := 6) hX dX13_company_6 ?_
  refine jr_cV1i (pc := 7) hX lX13_321 (c_X13_isPerson hX.F (jd_pi σ t 0 0) t ht _) (jd_dd hD rfl) (Nat.le_of_ble_eq_true rfl) dX13_company_7 ht (fun r2 σ2 p2 => ?_)
  refine jr_ifne (pc := 10) hX 19 dX13_company_10 (by decide) ?_ ?_
  · refine jr_iconst (pc := 19) hX 0 rfl dX13_company_19 ?_
    refine jr_ist2 (pc := 20) hX (jn_i _) dX13_company_20 ?_
    refine jr_bipush (pc := 21) hX 7 rfl dX13_company_21 ?_
    refine jr_ist3 (pc := 23) hX (jn_i _) dX13_company_23 ?_
    refine jr_ald0 (pc := 24) hX dX13_company_24 ?_
    refine jr_cV0v (pc := 25) hX lX13_324 (c_X13_works hX.F σ2 t (p2.at ht :)) (jd_dd hD rfl) (Nat.le_of_ble_eq_true rfl) dX13_company_25 (p2.at ht :) (fun r3 σ3 p3 => ?_)
    refine jr_iconst (pc := 28) hX 0 rfl dX13_company_28 ?_
    refine jr_ist4 (pc := 29) hX (jn_i _) dX13_company_29 ?_
    refine jr_loop (pc := 31) (fun (s4 : Int32 × Int32 × Int32) => [some (jd_v (jd_gG X) (some t)), some (.int x0p), some (.int s4.1), some (.int s4.2.1), some (.int s4.2.2), none]) (fun (t5 : Int32) => [some (jd_v (jd_gG X) (some t)), none, some (.int t5), none, none, none]) 76 (0, 7, 0) (fun t5 σ5 => ?_) (fun K4 bk4 ex4 s4 σ4 => ?_)
    · refine jr_ald0 (pc := 76) hX dX13_company_76 ?_
      refine jr_ild2 (pc := 77) hX dX13_company_77 ?_
      refine jr_ck1 (fun a11 e11 h11 => ?_)
      refine jr_cV1i (pc := 78) hX lX13_58 (c_X13_good hX.F σ5 a11 h11 _) (jd_dd hD rfl) (Nat.le_of_ble_eq_true rfl) dX13_company_78 h11 (fun r12 σ12 p12 => ?_)
      exact jr_iret (pc := 81) hX dX13_company_81 rfl
    · refine jr_ild4 (pc := 31) hX dX13_company_31 ?_
      refine jr_bipush (pc := 33) hX 99 rfl dX13_company_33 ?_
      refine jr_icgt (pc := 35) hX 76 dX13_company_35 (by decide) ?_ ?_
      · refine jr_wk [true, false, true, false, false, true] ?_
        exact ex4 s4.1 _
      · refine jr_ald0 (pc := 38) hX dX13_company_38 ?_
        refine jr_ck0 (fun a6 e6 h6 => ?_)
        refine jr_getr (pc := 39) hX fX13_21 rfl dX13_company_39 h6 ?_
        refine jr_ild1 (pc := 42) hX dX13_company_42 ?_
        refine jr_ild4 (pc := 43) hX dX13_company_43 ?_
        refine jr_iaS (pc := 45) hX dX13_company_45 (fun a7 n7 e7 h7 => ?_)
        refine jr_li ?_
        refine jr_ald0 (pc := 46) hX dX13_company_46 ?_
        refine jr_ek0 e6 ?_
        refine jr_cV0i (pc := 47) hX lX13_315 (c_X13_sinkersNow hX.F (jd_pi σ4 a7 x0p.toNatClampNeg s4.2.2) a6 h6) (jd_dd hD rfl) (Nat.le_of_ble_eq_true rfl) dX13_company_47 h6 (fun r9 σ9 p9 => ?_)
        refine jr_cS1i (pc := 50) hX lX13_303 (c_X13_bits hX.F σ9 _) (jd_dd hD rfl) (Nat.le_of_ble_eq_true rfl) dX13_company_50 (fun r10 σ10 p10 => ?_)
        refine jr_ist5 (pc := 53) hX (jn_i _) dX13_company_53 ?_
        refine jr_ild5 (pc := 55) hX dX13_company_55 ?_
        refine jr_ild3 (pc := 57) hX dX13_company_57 ?_
        refine jr_iclt (pc := 58) hX 64 dX13_company_58 (by decide) ?_ ?_
        · refine jr_ild5 (pc := 64) hX dX13_company_64 ?_
          refine jr_ist3 (pc := 66) hX (jn_i _) dX13_company_66 ?_
          refine jr_ild4 (pc := 67) hX dX13_company_67 ?_
          refine jr_ist2 (pc := 69) hX (jn_i _) dX13_company_69 ?_
          refine jr_inc4 (pc := 70) hX 1 rfl (jn_i _) dX13_company_70 ?_
          refine jr_goto (pc := 73) hX 31 dX13_company_73 (by decide) ?_
          refine jr_wk [true, true, true, true, true, false] ?_
          exact bk4 (s4.2.2, r10, (s4.2.2 + 1)) _
        · refine jr_goto (pc := 61) hX 70 dX13_company_61 (by decide) ?_
          refine jr_inc4 (pc := 70) hX 1 rfl (jn_i _) dX13_company_70 ?_
          refine jr_goto (pc := 73) hX 31 dX13_company_73 (by decide) ?_
          refine jr_wk [true, true, true, true, true, false] ?_
          exact bk4 (s4.1, s4.2.1, (s4.2.2 + 1)) _
  · refine jr_ald0 (pc := 13) hX dX13_company_13 ?_
    refine jr_iconst (pc := 14) hX 1 rfl dX13_company_14 ?_
    refine jr_cV1i (pc := 15) hX lX13_54 (c_X13_refused hX.F σ2 t (p2.at ht :) _) (jd_dd hD rfl) (Nat.le_of_ble_eq_true rfl) dX13_company_15 (p2.at ht :) (fun r13 σ13 p13 => ?_)
    exact jr_iret (pc := 18) hX dX13_company_18 rfl
def m_X13_weightOf (t : Nat) (x0p : Int32) (σ : jd_Hp) : Option (Int64 × jd_Hp) :=
jd_b (jd_lp (S := Int64 × Int32) (T := Int64) (fun s1 σ1 =>
jd_o σ1 (13, 29) (some t) fun a3 =>
jd_o σ1 (12, 20) (σ1.2.2.2 a3 3) fun a4 =>
jd_if ((σ1.2.1 a4 3) ≤ s1.2) (
some ((Sum.inr s1.1), σ1)) (
jd_ia σ1 20 (σ1.2.2.2 a4 14) s1.2 fun a5 j5 =>
jd_if (¬ (σ1.2.1 a5 j5) = 0) (
jd_b (α := Int32) (
jd_if (¬ s1.2 = x0p) (
some (0, σ1)) (
some (1, σ1))) fun t6 σ6 =>
jd_o σ6 (13, 29) (some t) fun a7 =>
jd_o σ6 (12, 20) (σ6.2.2.2 a7 3) fun a8 =>
jd_ia σ6 20 (σ6.2.2.2 a8 14) s1.2 fun a9 j9 =>
jd_b (α := Int32) (
jd_if (¬ (σ6.2.1 a9 j9) = 2) (
some (0, σ6)) (
some (1, σ6))) fun t10 σ10 =>
jd_b (α := Int32) (
jd_if (¬ t6 = t10) (
some (0, σ10)) (
some (1, σ10))) fun t11 σ11 =>
jd_if (t11 = 0) (
jd_o σ11 (13, 29) (some t) fun a12 =>
jd_o σ11 (12, 20) (σ11.2.2.2 a12 3) fun a13 =>
jd_li (s1.1 * (100 - (σ11.2.1 a13 2)).toInt64) fun x14 =>
some (Sum.inl (x14, (s1.2 + 1)), σ11)) (
jd_o σ11 (13, 29) (some t) fun a15 =>
jd_o σ11 (12, 20) (σ11.2.2.2 a15 3) fun a16 =>
jd_li (s1.1 * (σ11.2.1 a16 2).toInt64) fun x17 =>
some (Sum.inl (x17, (s1.2 + 1)), σ11))) (
some (Sum.inl (s1.1, (s1.2 + 1)), σ1)))) jd_fu (1, 0) σ) fun t2 σ2 =>
some (t2, σ2)
set_option maxHeartbeats 4000000 in
set_option maxRecDepth 20000 in
theorem c_X13_weightOf {l : Launch} {s0 : State} {G : jd_G} (hF : jd_F s0 G) (σ : jd_Hp) (t : Nat) (ht : σ.1[t]? = some (13, 29)) (x0p : Int32) : jd_M l s0 G yX13_weightOf cX13_weightOf 6 (some .long) 0 je_l [jd_v G (some t), .int x0p] σ (m_X13_weightOf t x0p σ) := by
  refine jd_enter hF (by decide) (fun G => [some (jd_v G (some t)), some (.int x0p), none, none, none, none]) rfl (by simp [lv_args, jd_al, jd_v_cat, jd_cti, jd_ctl]) (by simp [lg_sl, jd_v_cat, jd_cti, jd_ctl]) (fun X hD hX => ?_)
  have hX : jd_C X RX13 "weightOf" cX13_weightOf 6 (some .long) := hX
  unfold m_X13_weightOf
  refine jr_lconst (pc := 0) hX 1 rfl dX13_weightOf_0 ?_
  refine jr_lst2 (pc := 1) hX (jn_i _) dX13_weightOf_1 ?_
  refine jr_iconst (pc := 2) hX 0 rfl dX13_weightOf_2 ?_
  refine jr_ist4 (pc := 3) hX jn_n dX13_weightOf_3 ?_
  refine jr_loop (pc := 5) (fun (s1 : Int64 × Int32) => [some (jd_v (jd_gG X) (some t)), some (.int x0p), some (.long s1.1), none, some (.int s1.2), none]) (fun (t2 : Int64) => [none, none, some (.long t2), none, none, none]) 109 (1, 0) (fun t2 σ2 => ?_) (fun K1 bk1 ex1 s1 σ1 => ?_)
  · refine jr_lld2 (pc := 109) hX dX13_weightOf_109 ?_
    exact jr_lret (pc := 110) hX dX13_weightOf_110 rfl
  · refine jr_ild4 (pc := 5) hX dX13_weightOf_5 ?_
    refine jr_ald0 (pc := 7) hX dX13_weightOf_7 ?_
    refine jr_ck0 (fun a3 e3 h3 => ?_)
    refine jr_getr (pc := 8) hX fX13_289 rfl dX13_weightOf_8 h3 ?_
    refine jr_ck0 (fun a4 e4 h4 => ?_)
    refine jr_getiN (pc := 11) hX fX13_185 rfl dX13_weightOf_11 h4 ?_
    refine jr_icge (pc := 14) hX 109 dX13_weightOf_14 (by decide) ?_ ?_
    · refine jr_wk [false, false, true, true, false, true] ?_
      exact ex1 s1.1 _
    · refine jr_ald0 (pc := 17) hX dX13_weightOf_17 ?_
      refine jr_ek0 e3 ?_
      refine jr_getr (pc := 18) hX fX13_289 rfl dX13_weightOf_18 h3 ?_
      refine jr_ek0 e4 ?_
      refine jr_getrN (pc := 21) hX fX13_276 rfl dX13_weightOf_21 h4 ?_
      refine jr_ild4 (pc := 24) hX dX13_weightOf_24 ?_
      refine jr_iaC (pc := 26) hX dX13_weightOf_26 (fun a5 n5 e5 h5 => ?_)
      refine jr_ifne (pc := 27) hX 33 dX13_weightOf_27 (by decide) ?_ ?_
      · refine jr_ild4 (pc := 33) hX dX13_weightOf_33 ?_
        refine jr_ild1 (pc := 35) hX dX13_weightOf_35 ?_
        refine jr_join (pc := 36) 44 (fun (t6 : Int32) => [some (jd_v (jd_gG X) (some t)), some (.int x0p), some (.long s1.1), none, some (.int s1.2), none]) (fun (t6 : Int32) => [.int t6]) (fun t6 σ6 => ?_) (fun K6 jj6 => ?_)
        · refine jr_ald0 (pc := 44) hX dX13_weightOf_44 ?_
          refine jr_ck0 (fun a7 e7 h7 => ?_)
          refine jr_getr (pc := 45) hX fX13_289 rfl dX13_weightOf_45 h7 ?_
          refine jr_ck0 (fun a8 e8 h8 => ?_)
          refine jr_getrN (pc := 48) hX fX13_276 rfl dX13_weightOf_48 h8 ?_
          refine jr_ild4 (pc := 51) hX dX13_weightOf_51 ?_
          refine jr_iaC (pc := 53) hX dX13_weightOf_53 (fun a9 n9 e9 h9 => ?_)
          refine jr_iconst (pc := 54) hX 2 rfl dX13_weightOf_54 ?_
          refine jr_join (pc := 55) 63 (fun (t10 : Int32) => [some (jd_v (jd_gG X) (some t)), some (.int x0p), some (.long s1.1), none, some (.int s1.2), none]) (fun (t10 : Int32) => [.int t10, .int t6]) (fun t10 σ10 => ?_) (fun K10 jj10 => ?_)
          · refine jr_join (pc := 63) 71 (fun (t11 : Int32) => [some (jd_v (jd_gG X) (some t)), some (.int x0p), some (.long s1.1), none, some (.int s1.2), none]) (fun (t11 : Int32) => [.int t11]) (fun t11 σ11 => ?_) (fun K11 jj11 => ?_)
            · refine jr_ist5 (pc := 71) hX (jn_i _) dX13_weightOf_71 ?_
              refine jr_lld2 (pc := 73) hX dX13_weightOf_73 ?_
              refine jr_ild5 (pc := 74) hX dX13_weightOf_74 ?_
              refine jr_ifeq (pc := 76) hX 90 dX13_weightOf_76 (by decide) ?_ ?_
              · refine jr_bipush (pc := 90) hX 100 rfl dX13_weightOf_90 ?_
                refine jr_ald0 (pc := 92) hX dX13_weightOf_92 ?_
                refine jr_ck0 (fun a12 e12 h12 => ?_)
                refine jr_getr (pc := 93) hX fX13_289 rfl dX13_weightOf_93 h12 ?_
                refine jr_ck0 (fun a13 e13 h13 => ?_)
                refine jr_getiN (pc := 96) hX fX13_217 rfl dX13_weightOf_96 h13 ?_
                refine jr_isub (pc := 99) hX dX13_weightOf_99 ?_
                refine jr_i2l (pc := 100) hX dX13_weightOf_100 ?_
                refine jr_lmul (pc := 101) hX dX13_weightOf_101 ?_
                refine jr_lst2 (pc := 102) hX (jn_i _) dX13_weightOf_102 ?_
                refine jr_li ?_
                refine jr_inc4 (pc := 103) hX 1 rfl jn_n dX13_weightOf_103 ?_
                refine jr_goto (pc := 106) hX 5 dX13_weightOf_106 (by decide) ?_
                refine jr_wk [true, true, true, true, true, false] ?_
                exact bk1 ((s1.1 * (100 - (σ11.2.1 a13 2)).toInt64), (s1.2 + 1)) _
              · refine jr_ald0 (pc := 79) hX dX13_weightOf_79 ?_
                refine jr_ck0 (fun a15 e15 h15 => ?_)
                refine jr_getr (pc := 80) hX fX13_289 rfl dX13_weightOf_80 h15 ?_
                refine jr_ck0 (fun a16 e16 h16 => ?_)
                refine jr_getiN (pc := 83) hX fX13_217 rfl dX13_weightOf_83 h16 ?_
                refine jr_i2l (pc := 86) hX dX13_weightOf_86 ?_
                refine jr_goto (pc := 87) hX 101 dX13_weightOf_87 (by decide) ?_
                refine jr_lmul (pc := 101) hX dX13_weightOf_101 ?_
                refine jr_lst2 (pc := 102) hX (jn_i _) dX13_weightOf_102 ?_
                refine jr_li ?_
                refine jr_inc4 (pc := 103) hX 1 rfl jn_n dX13_weightOf_103 ?_
                refine jr_goto (pc := 106) hX 5 dX13_weightOf_106 (by decide) ?_
                refine jr_wk [true, true, true, true, true, false] ?_
                exact bk1 ((s1.1 * (σ11.2.1 a16 2).toInt64), (s1.2 + 1)) _
            · refine jr_icne (pc := 63) hX 70 dX13_weightOf_63 (by decide) ?_ ?_
              · refine jr_iconst (pc := 70) hX 0 rfl dX13_weightOf_70 ?_
                exact jj11 0 _
              · refine jr_iconst (pc := 66) hX 1 rfl dX13_weightOf_66 ?_
                refine jr_goto (pc := 67) hX 71 dX13_weightOf_67 (by decide) ?_
                exact jj11 1 _
          · refine jr_icne (pc := 55) hX 62 dX13_weightOf_55 (by decide) ?_ ?_
            · refine jr_iconst (pc := 62) hX 0 rfl dX13_weightOf_62 ?_
              exact jj10 0 _
            · refine jr_iconst (pc := 58) hX 1 rfl dX13_weightOf_58 ?_
              refine jr_goto (pc := 59) hX 63 dX13_weightOf_59 (by decide) ?_
              exact jj10 1 _
        · refine jr_icne (pc := 36) hX 43 dX13_weightOf_36 (by decide) ?_ ?_
          · refine jr_iconst (pc := 43) hX 0 rfl dX13_weightOf_43 ?_
            exact jj6 0 _
          · refine jr_iconst (pc := 39) hX 1 rfl dX13_weightOf_39 ?_
            refine jr_goto (pc := 40) hX 44 dX13_weightOf_40 (by decide) ?_
            exact jj6 1 _
      · refine jr_goto (pc := 30) hX 103 dX13_weightOf_30 (by decide) ?_
        refine jr_inc4 (pc := 103) hX 1 rfl jn_n dX13_weightOf_103 ?_
        refine jr_goto (pc := 106) hX 5 dX13_weightOf_106 (by decide) ?_
        exact bk1 (s1.1, (s1.2 + 1)) _
