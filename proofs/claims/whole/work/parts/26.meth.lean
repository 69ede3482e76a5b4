theorem fX13_289 : jd_fl RX13 289 13 3 29 false := ⟨_, _, rfl, by decide, by decide, rfl, rfl, jd_mem 1291 (by decide +kernel) (by decide +kernel)⟩
theorem fX13_185 : jd_fn RX13 185 12 3 20 false := ⟨_, _, "ShoreGuardsModel", rfl, by decide, by decide, rfl, rfl, List.mem_of_getElem? (i := 1401) (by decide +kernel)⟩
theorem fX13_253 : jd_fn RX13 253 12 4 20 false := ⟨_, _, "ShoreGuardsModel", rfl, by decide, by decide, rfl, rfl, List.mem_of_getElem? (i := 1402) (by decide +kernel)⟩
theorem qX13_off : Cond.static yX13_off ∈ jd_TB ∧ Cond.initialized yX13_off.cls ∈ jd_TB ∧ Cond.code yX13_off cX13_off 2 (some .int) ∈ jd_TB ∧ jd_ds yX13_off 2 := ⟨jd_mem 1624 (by decide +kernel) (by decide +kernel), jd_mem 104 (by decide +kernel) (by decide +kernel), jd_mem 1625 (by decide +kernel) (by decide +kernel), ⟨by decide, by decide, by decide +kernel⟩⟩
theorem lX13_297 : jd_st RX13 297 yX13_off cX13_off 2 (some .int) 2 := ⟨Or.inl (jd_mem 1623 (by decide +kernel) (by decide +kernel)), qX13_off.1, qX13_off.2.1, qX13_off.2.2.1, qX13_off.2.2.2, by decide⟩
theorem qX13_bit : Cond.static yX13_bit ∈ jd_TB ∧ Cond.initialized yX13_bit.cls ∈ jd_TB ∧ Cond.code yX13_bit cX13_bit 2 (some .boolean) ∈ jd_TB ∧ jd_ds yX13_bit 2 := ⟨jd_mem 1577 (by decide +kernel) (by decide +kernel), jd_mem 104 (by decide +kernel) (by decide +kernel), jd_mem 1578 (by decide +kernel) (by decide +kernel), ⟨by decide, by decide, by decide +kernel⟩⟩
theorem lX13_267 : jd_st RX13 267 yX13_bit cX13_bit 2 (some .boolean) 2 := ⟨Or.inl (jd_mem 1576 (by decide +kernel) (by decide +kernel)), qX13_bit.1, qX13_bit.2.1, qX13_bit.2.2.1, qX13_bit.2.2.2, by decide⟩
theorem qX13_nearTo : Cond.instanceMethod yX13_nearTo ∈ jd_TB ∧ Cond.selects RX13 yX13_nearTo yX13_nearTo ∈ jd_TB ∧ Cond.initialized RX13 ∈ jd_TB ∧ Cond.code yX13_nearTo cX13_nearTo 4 (some .int) ∈ jd_TB ∧ jd_ds yX13_nearTo 1 := ⟨jd_mem 1621 (by decide +kernel) (by decide +kernel), jd_mem 59 (by decide +kernel) (by decide +kernel), jd_mem 104 (by decide +kernel) (by decide +kernel), jd_mem 1622 (by decide +kernel) (by decide +kernel), ⟨by decide, by decide, by decide +kernel⟩⟩
theorem lX13_300 : jd_mv RX13 300 13 29 yX13_nearTo cX13_nearTo 4 (some .int) 1 := ⟨_, _, rfl, by decide, rfl, Or.inl (jd_mem 1619 (by decide +kernel) (by decide +kernel)), qX13_nearTo.1, qX13_nearTo.2.1, qX13_nearTo.2.2.1, qX13_nearTo.2.2.2.1, qX13_nearTo.2.2.2.2, by decide⟩
theorem fX13_244 : jd_fn RX13 244 12 9 20 true := ⟨_, _, "ShoreGuardsModel", rfl, by decide, by decide, rfl, rfl, List.mem_of_getElem? (i := 1409) (by decide +kernel)⟩
theorem fX13_249 : jd_fn RX13 249 12 11 20 true := ⟨_, _, "ShoreGuardsModel", rfl, by decide, by decide, rfl, rfl, List.mem_of_getElem? (i := 1413) (by decide +kernel)⟩
theorem qX13_bits : Cond.static yX13_bits ∈ jd_TB ∧ Cond.initialized yX13_bits.cls ∈ jd_TB ∧ Cond.code yX13_bits cX13_bits 3 (some .int) ∈ jd_TB ∧ jd_ds yX13_bits 1 := ⟨jd_mem 1627 (by decide +kernel) (by decide +kernel), jd_mem 104 (by decide +kernel) (by decide +kernel), jd_mem 1628 (by decide +kernel) (by decide +kernel), ⟨by decide, by decide, by decide +kernel⟩⟩
theorem lX13_303 : jd_st RX13 303 yX13_bits cX13_bits 3 (some .int) 1 := ⟨Or.inl (jd_mem 1626 (by decide +kernel) (by decide +kernel)), qX13_bits.1, qX13_bits.2.1, qX13_bits.2.2.1, qX13_bits.2.2.2, by decide⟩
theorem fX13_215 : jd_fn RX13 215 12 1 20 false := ⟨_, _, "ShoreGuardsModel", rfl, by decide, by decide, rfl, rfl, List.mem_of_getElem? (i := 1399) (by decide +kernel)⟩
theorem qX13_sinksAt : Cond.instanceMethod yX13_sinksAt ∈ jd_TB ∧ Cond.selects RX13 yX13_sinksAt yX13_sinksAt ∈ jd_TB ∧ Cond.initialized RX13 ∈ jd_TB ∧ Cond.code yX13_sinksAt cX13_sinksAt 5 (some .int) ∈ jd_TB ∧ jd_ds yX13_sinksAt 1 := ⟨jd_mem 1617 (by decide +kernel) (by decide +kernel), jd_mem 58 (by decide +kernel) (by decide +kernel), jd_mem 104 (by decide +kernel) (by decide +kernel), jd_mem 1618 (by decide +kernel) (by decide +kernel), ⟨by decide, by decide, by decide +kernel⟩⟩
theorem lX13_306 : jd_mv RX13 306 13 29 yX13_sinksAt cX13_sinksAt 5 (some .int) 1 := ⟨_, _, rfl, by decide, rfl, Or.inl (jd_mem 1615 (by decide +kernel) (by decide +kernel)), qX13_sinksAt.1, qX13_sinksAt.2.1, qX13_sinksAt.2.2.1, qX13_sinksAt.2.2.2.1, qX13_sinksAt.2.2.2.2, by decide⟩
theorem fX13_258 : jd_fn RX13 258 12 15 20 true := ⟨_, _, "ShoreGuardsModel", rfl, by decide, by decide, rfl, rfl, List.mem_of_getElem? (i := 1421) (by decide +kernel)⟩
theorem fX13_260 : jd_fn RX13 260 12 16 20 true := ⟨_, _, "ShoreGuardsModel", rfl, by decide, by decide, rfl, rfl, List.mem_of_getElem? (i := 1423) (by decide +kernel)⟩
theorem qX13_timeTo : Cond.instanceMethod yX13_timeTo ∈ jd_TB ∧ Cond.selects RX13 yX13_timeTo yX13_timeTo ∈ jd_TB ∧ Cond.initialized RX13 ∈ jd_TB ∧ Cond.code yX13_timeTo cX13_timeTo 3 (some .int) ∈ jd_TB ∧ jd_ds yX13_timeTo 2 := ⟨jd_mem 1654 (by decide +kernel) (by decide +kernel), jd_mem 64 (by decide +kernel) (by decide +kernel), jd_mem 104 (by decide +kernel) (by decide +kernel), jd_mem 1655 (by decide +kernel) (by decide +kernel), ⟨by decide, by decide, by decide +kernel⟩⟩
theorem lX13_309 : jd_mv RX13 309 13 29 yX13_timeTo cX13_timeTo 3 (some .int) 2 := ⟨_, _, rfl, by decide, rfl, Or.inl (jd_mem 1652 (by decide +kernel) (by decide +kernel)), qX13_timeTo.1, qX13_timeTo.2.1, qX13_timeTo.2.2.1, qX13_timeTo.2.2.2.1, qX13_timeTo.2.2.2.2, by decide⟩
theorem qX13_reaches : Cond.instanceMethod yX13_reaches ∈ jd_TB ∧ Cond.selects RX13 yX13_reaches yX13_reaches ∈ jd_TB ∧ Cond.initialized RX13 ∈ jd_TB ∧ Cond.code yX13_reaches cX13_reaches 4 (some .int) ∈ jd_TB ∧ jd_ds yX13_reaches 1 := ⟨jd_mem 1650 (by decide +kernel) (by decide +kernel), jd_mem 63 (by decide +kernel) (by decide +kernel), jd_mem 104 (by decide +kernel) (by decide +kernel), jd_mem 1651 (by decide +kernel) (by decide +kernel), ⟨by decide, by decide, by decide +kernel⟩⟩
theorem lX13_312 : jd_mv RX13 312 13 29 yX13_reaches cX13_reaches 4 (some .int) 1 := ⟨_, _, rfl, by decide, rfl, Or.inl (jd_mem 1648 (by decide +kernel) (by decide +kernel)), qX13_reaches.1, qX13_reaches.2.1, qX13_reaches.2.2.1, qX13_reaches.2.2.2.1, qX13_reaches.2.2.2.2, by decide⟩
theorem qX13_sinkersNow : Cond.instanceMethod yX13_sinkersNow ∈ jd_TB ∧ Cond.selects RX13 yX13_sinkersNow yX13_sinkersNow ∈ jd_TB ∧ Cond.initialized RX13 ∈ jd_TB ∧ Cond.code yX13_sinkersNow cX13_sinkersNow 3 (some .int) ∈ jd_TB ∧ jd_ds yX13_sinkersNow 0 := ⟨jd_mem 1666 (by decide +kernel) (by decide +kernel), jd_mem 65 (by decide +kernel) (by decide +kernel), jd_mem 104 (by decide +kernel) (by decide +kernel), jd_mem 1667 (by decide +kernel) (by decide +kernel), ⟨by decide, by decide, by decide +kernel⟩⟩
theorem lX13_315 : jd_mv RX13 315 13 29 yX13_sinkersNow cX13_sinkersNow 3 (some .int) 0 := ⟨_, _, rfl, by decide, rfl, Or.inl (jd_mem 1664 (by decide +kernel) (by decide +kernel)), qX13_sinkersNow.1, qX13_sinkersNow.2.1, qX13_sinkersNow.2.2.1, qX13_sinkersNow.2.2.2.1, qX13_sinkersNow.2.2.2.2, by decide⟩
theorem qX13_reachedBy : Cond.instanceMethod yX13_reachedBy ∈ jd_TB ∧ Cond.selects RX13 yX13_reachedBy yX13_reachedBy ∈ jd_TB ∧ Cond.initialized RX13 ∈ jd_TB ∧ Cond.code yX13_reachedBy cX13_reachedBy 4 (some .int) ∈ jd_TB ∧ jd_ds yX13_reachedBy 1 := ⟨jd_mem 1694 (by decide +kernel) (by decide +kernel), jd_mem 67 (by decide +kernel) (by decide +kernel), jd_mem 104 (by decide +kernel) (by decide +kernel), jd_mem 1695 (by decide +kernel) (by decide +kernel), ⟨by decide, by decide, by decide +kernel⟩⟩
theorem lX13_318 : jd_mv RX13 318 13 29 yX13_reachedBy cX13_reachedBy 4 (some .int) 1 := ⟨_, _, rfl, by decide, rfl, Or.inl (jd_mem 1692 (by decide +kernel) (by decide +kernel)), qX13_reachedBy.1, qX13_reachedBy.2.1, qX13_reachedBy.2.2.1, qX13_reachedBy.2.2.2.1, qX13_reachedBy.2.2.2.2, by decide⟩
theorem dX13_isPerson_0 : decode cX13_isPerson 0 = .ok (.aload_n 0, 1) := by decide +kernel
theorem dX13_isPerson_1 : decode cX13_isPerson 1 = .ok (.getfield 289, 3) := by decide +kernel
theorem dX13_isPerson_4 : decode cX13_isPerson 4 = .ok (.ifnull 22, 3) := by decide +kernel
theorem dX13_isPerson_7 : decode cX13_isPerson 7 = .ok (.iload_n 1, 1) := by decide +kernel
theorem dX13_isPerson_8 : decode cX13_isPerson 8 = .ok (.ifCond .lt 18, 3) := by decide +kernel
theorem dX13_isPerson_11 : decode cX13_isPerson 11 = .ok (.iload_n 1, 1) := by decide +kernel
theorem dX13_isPerson_12 : decode cX13_isPerson 12 = .ok (.aload_n 0, 1) := by decide +kernel
theorem dX13_isPerson_13 : decode cX13_isPerson 13 = .ok (.getfield 289, 3) := by decide +kernel
theorem dX13_isPerson_16 : decode cX13_isPerson 16 = .ok (.getfield 185, 3) := by decide +kernel
theorem dX13_isPerson_19 : decode cX13_isPerson 19 = .ok (.if_icmp .ge 7, 3) := by decide +kernel
theorem dX13_isPerson_22 : decode cX13_isPerson 22 = .ok (.iconst 1, 1) := by decide +kernel
theorem dX13_isPerson_23 : decode cX13_isPerson 23 = .ok (.goto 4, 3) := by decide +kernel
theorem dX13_isPerson_26 : decode cX13_isPerson 26 = .ok (.iconst 0, 1) := by decide +kernel
theorem dX13_isPerson_27 : decode cX13_isPerson 27 = .ok (.ireturn, 1) := by decide +kernel
theorem dX13_isPost_0 : decode cX13_isPost 0 = .ok (.aload_n 0, 1) := by decide +kernel
theorem dX13_isPost_1 : decode cX13_isPost 1 = .ok (.getfield 289, 3) := by decide +kernel
theorem dX13_isPost_4 : decode cX13_isPost 4 = .ok (.ifnull 22, 3) := by decide +kernel
theorem dX13_isPost_7 : decode cX13_isPost 7 = .ok (.iload_n 1, 1) := by decide +kernel
theorem dX13_isPost_8 : decode cX13_isPost 8 = .ok (.ifCond .lt 18, 3) := by decide +kernel
theorem dX13_isPost_11 : decode cX13_isPost 11 = .ok (.iload_n 1, 1) := by decide +kernel
theorem dX13_isPost_12 : decode cX13_isPost 12 = .ok (.aload_n 0, 1) := by decide +kernel
theorem dX13_isPost_13 : decode cX13_isPost 13 = .ok (.getfield 289, 3) := by decide +kernel
theorem dX13_isPost_16 : decode cX13_isPost 16 = .ok (.getfield 253, 3) := by decide +kernel
theorem dX13_isPost_19 : decode cX13_isPost 19 = .ok (.if_icmp .ge 7, 3) := by decide +kernel
theorem dX13_isPost_22 : decode cX13_isPost 22 = .ok (.iconst 1, 1) := by decide +kernel
theorem dX13_isPost_23 : decode cX13_isPost 23 = .ok (.goto 4, 3) := by decide +kernel
theorem dX13_isPost_26 : decode cX13_isPost 26 = .ok (.iconst 0, 1) := by decide +kernel
theorem dX13_isPost_27 : decode cX13_isPost 27 = .ok (.ireturn, 1) := by decide +kernel
theorem dX13_works_0 : decode cX13_works 0 = .ok (.iconst 0, 1) := by decide +kernel
theorem dX13_works_1 : decode cX13_works 1 = .ok (.istore_n 1, 1) := by decide +kernel
theorem dX13_works_2 : decode cX13_works 2 = .ok (.iload_n 1, 1) := by decide +kernel
theorem dX13_works_3 : decode cX13_works 3 = .ok (.bipush 9, 2) := by decide +kernel
theorem dX13_works_5 : decode cX13_works 5 = .ok (.if_icmp .ge 21, 3) := by decide +kernel
theorem dX13_works_8 : decode cX13_works 8 = .ok (.aload_n 0, 1) := by decide +kernel
theorem dX13_works_9 : decode cX13_works 9 = .ok (.getfield 21, 3) := by decide +kernel
theorem dX13_works_12 : decode cX13_works 12 = .ok (.iload_n 1, 1) := by decide +kernel
theorem dX13_works_13 : decode cX13_works 13 = .ok (.aload_n 0, 1) := by decide +kernel
theorem dX13_works_14 : decode cX13_works 14 = .ok (.getfield 17, 3) := by decide +kernel
theorem dX13_works_17 : decode cX13_works 17 = .ok (.iload_n 1, 1) := by decide +kernel
theorem dX13_works_18 : decode cX13_works 18 = .ok (.iaload, 1) := by decide +kernel
theorem dX13_works_19 : decode cX13_works 19 = .ok (.iastore, 1) := by decide +kernel
theorem dX13_works_20 : decode cX13_works 20 = .ok (.iinc 1 1, 3) := by decide +kernel
theorem dX13_works_23 : decode cX13_works 23 = .ok (.goto (-21), 3) := by decide +kernel
theorem dX13_works_26 : decode cX13_works 26 = .ok (.return_, 1) := by decide +kernel
theorem dX13_nearTo_0 : decode cX13_nearTo 0 = .ok (.iconst 0, 1) := by decide +kernel
theorem dX13_nearTo_1 : decode cX13_nearTo 1 = .ok (.istore_n 2, 1) := by decide +kernel
theorem dX13_nearTo_2 : decode cX13_nearTo 2 = .ok (.iconst 0, 1) := by decide +kernel
theorem dX13_nearTo_3 : decode cX13_nearTo 3 = .ok (.istore_n 3, 1) := by decide +kernel
theorem dX13_nearTo_4 : decode cX13_nearTo 4 = .ok (.iload_n 3, 1) := by decide +kernel
theorem dX13_nearTo_5 : decode cX13_nearTo 5 = .ok (.aload_n 0, 1) := by decide +kernel
theorem dX13_nearTo_6 : decode cX13_nearTo 6 = .ok (.getfield 289, 3) := by decide +kernel
theorem dX13_nearTo_9 : decode cX13_nearTo 9 = .ok (.getfield 185, 3) := by decide +kernel
theorem dX13_nearTo_12 : decode cX13_nearTo 12 = .ok (.if_icmp .ge 43, 3) := by decide +kernel
theorem dX13_nearTo_15 : decode cX13_nearTo 15 = .ok (.iload_n 2, 1) := by decide +kernel
theorem dX13_nearTo_16 : decode cX13_nearTo 16 = .ok (.iload_n 3, 1) := by decide +kernel
theorem dX13_nearTo_17 : decode cX13_nearTo 17 = .ok (.iload_n 1, 1) := by decide +kernel
theorem dX13_nearTo_18 : decode cX13_nearTo 18 = .ok (.if_icmp .eq 28, 3) := by decide +kernel
theorem dX13_nearTo_21 : decode cX13_nearTo 21 = .ok (.aload_n 0, 1) := by decide +kernel
theorem dX13_nearTo_22 : decode cX13_nearTo 22 = .ok (.getfield 21, 3) := by decide +kernel
theorem dX13_nearTo_25 : decode cX13_nearTo 25 = .ok (.iload_n 1, 1) := by decide +kernel
theorem dX13_nearTo_26 : decode cX13_nearTo 26 = .ok (.iaload, 1) := by decide +kernel
theorem dX13_nearTo_27 : decode cX13_nearTo 27 = .ok (.aload_n 0, 1) := by decide +kernel
theorem dX13_nearTo_28 : decode cX13_nearTo 28 = .ok (.getfield 21, 3) := by decide +kernel
theorem dX13_nearTo_31 : decode cX13_nearTo 31 = .ok (.iload_n 3, 1) := by decide +kernel
theorem dX13_nearTo_32 : decode cX13_nearTo 32 = .ok (.iaload, 1) := by decide +kernel
theorem dX13_nearTo_33 : decode cX13_nearTo 33 = .ok (.invokestatic 297, 3) := by decide +kernel
theorem dX13_nearTo_36 : decode cX13_nearTo 36 = .ok (.iconst 5, 1) := by decide +kernel
theorem dX13_nearTo_37 : decode cX13_nearTo 37 = .ok (.if_icmp .gt 9, 3) := by decide +kernel
theorem dX13_nearTo_40 : decode cX13_nearTo 40 = .ok (.iconst 1, 1) := by decide +kernel
theorem dX13_nearTo_41 : decode cX13_nearTo 41 = .ok (.iload_n 3, 1) := by decide +kernel
theorem dX13_nearTo_42 : decode cX13_nearTo 42 = .ok (.ishl, 1) := by decide +kernel
theorem dX13_nearTo_43 : decode cX13_nearTo 43 = .ok (.goto 4, 3) := by decide +kernel
theorem dX13_nearTo_46 : decode cX13_nearTo 46 = .ok (.iconst 0, 1) := by decide +kernel
theorem dX13_nearTo_47 : decode cX13_nearTo 47 = .ok (.ior, 1) := by decide +kernel
theorem dX13_nearTo_48 : decode cX13_nearTo 48 = .ok (.istore_n 2, 1) := by decide +kernel
theorem dX13_nearTo_49 : decode cX13_nearTo 49 = .ok (.iinc 3 1, 3) := by decide +kernel
theorem dX13_nearTo_52 : decode cX13_nearTo 52 = .ok (.goto (-48), 3) := by decide +kernel
theorem dX13_nearTo_55 : decode cX13_nearTo 55 = .ok (.iload_n 2, 1) := by decide +kernel
theorem dX13_nearTo_56 : decode cX13_nearTo 56 = .ok (.ireturn, 1) := by decide +kernel
theorem dX13_sinksAt_0 : decode cX13_sinksAt 0 = .ok (.aload_n 0, 1) := by decide +kernel
theorem dX13_sinksAt_1 : decode cX13_sinksAt 1 = .ok (.getfield 21, 3) := by decide +kernel
theorem dX13_sinksAt_4 : decode cX13_sinksAt 4 = .ok (.bipush 7, 2) := by decide +kernel
theorem dX13_sinksAt_6 : decode cX13_sinksAt 6 = .ok (.iaload, 1) := by decide +kernel
theorem dX13_sinksAt_7 : decode cX13_sinksAt 7 = .ok (.iload_n 1, 1) := by decide +kernel
theorem dX13_sinksAt_8 : decode cX13_sinksAt 8 = .ok (.invokestatic 267, 3) := by decide +kernel
theorem dX13_sinksAt_11 : decode cX13_sinksAt 11 = .ok (.ifCond .eq 7, 3) := by decide +kernel
theorem dX13_sinksAt_14 : decode cX13_sinksAt 14 = .ok (.sipush 9999, 3) := by decide +kernel
theorem dX13_sinksAt_17 : decode cX13_sinksAt 17 = .ok (.ireturn, 1) := by decide +kernel
theorem dX13_sinksAt_18 : decode cX13_sinksAt 18 = .ok (.aload_n 0, 1) := by decide +kernel
theorem dX13_sinksAt_19 : decode cX13_sinksAt 19 = .ok (.iload_n 1, 1) := by decide +kernel
theorem dX13_sinksAt_20 : decode cX13_sinksAt 20 = .ok (.invokevirtual 300, 3) := by decide +kernel
theorem dX13_sinksAt_23 : decode cX13_sinksAt 23 = .ok (.istore_n 2, 1) := by decide +kernel
theorem dX13_sinksAt_24 : decode cX13_sinksAt 24 = .ok (.aload_n 0, 1) := by decide +kernel
theorem dX13_sinksAt_25 : decode cX13_sinksAt 25 = .ok (.getfield 289, 3) := by decide +kernel
theorem dX13_sinksAt_28 : decode cX13_sinksAt 28 = .ok (.getfield 244, 3) := by decide +kernel
theorem dX13_sinksAt_31 : decode cX13_sinksAt 31 = .ok (.iload_n 1, 1) := by decide +kernel
theorem dX13_sinksAt_32 : decode cX13_sinksAt 32 = .ok (.iaload, 1) := by decide +kernel
theorem dX13_sinksAt_33 : decode cX13_sinksAt 33 = .ok (.istore_n 3, 1) := by decide +kernel
theorem dX13_sinksAt_34 : decode cX13_sinksAt 34 = .ok (.iload_n 3, 1) := by decide +kernel
theorem dX13_sinksAt_35 : decode cX13_sinksAt 35 = .ok (.iconst 3, 1) := by decide +kernel
theorem dX13_sinksAt_36 : decode cX13_sinksAt 36 = .ok (.if_icmp .ne 11, 3) := by decide +kernel
theorem dX13_sinksAt_39 : decode cX13_sinksAt 39 = .ok (.iload_n 2, 1) := by decide +kernel
theorem dX13_sinksAt_40 : decode cX13_sinksAt 40 = .ok (.ifCond .eq 7, 3) := by decide +kernel
theorem dX13_sinksAt_43 : decode cX13_sinksAt 43 = .ok (.sipush 9999, 3) := by decide +kernel
theorem dX13_sinksAt_46 : decode cX13_sinksAt 46 = .ok (.ireturn, 1) := by decide +kernel
theorem dX13_sinksAt_47 : decode cX13_sinksAt 47 = .ok (.iload_n 3, 1) := by decide +kernel
theorem dX13_sinksAt_48 : decode cX13_sinksAt 48 = .ok (.iconst 2, 1) := by decide +kernel
theorem dX13_sinksAt_49 : decode cX13_sinksAt 49 = .ok (.if_icmp .ne 17, 3) := by decide +kernel
theorem dX13_sinksAt_52 : decode cX13_sinksAt 52 = .ok (.aload_n 0, 1) := by decide +kernel
theorem dX13_sinksAt_53 : decode cX13_sinksAt 53 = .ok (.getfield 289, 3) := by decide +kernel
theorem dX13_sinksAt_56 : decode cX13_sinksAt 56 = .ok (.getfield 249, 3) := by decide +kernel
theorem dX13_sinksAt_59 : decode cX13_sinksAt 59 = .ok (.iload_n 1, 1) := by decide +kernel
theorem dX13_sinksAt_60 : decode cX13_sinksAt 60 = .ok (.iaload, 1) := by decide +kernel
theorem dX13_sinksAt_61 : decode cX13_sinksAt 61 = .ok (.iconst 2, 1) := by decide +kernel
theorem dX13_sinksAt_62 : decode cX13_sinksAt 62 = .ok (.idiv, 1) := by decide +kernel
theorem dX13_sinksAt_63 : decode cX13_sinksAt 63 = .ok (.goto 12, 3) := by decide +kernel
theorem dX13_sinksAt_66 : decode cX13_sinksAt 66 = .ok (.aload_n 0, 1) := by decide +kernel
theorem dX13_sinksAt_67 : decode cX13_sinksAt 67 = .ok (.getfield 289, 3) := by decide +kernel
theorem dX13_sinksAt_70 : decode cX13_sinksAt 70 = .ok (.getfield 249, 3) := by decide +kernel
theorem dX13_sinksAt_73 : decode cX13_sinksAt 73 = .ok (.iload_n 1, 1) := by decide +kernel
theorem dX13_sinksAt_74 : decode cX13_sinksAt 74 = .ok (.iaload, 1) := by decide +kernel
theorem dX13_sinksAt_75 : decode cX13_sinksAt 75 = .ok (.istore 4, 2) := by decide +kernel
theorem dX13_sinksAt_77 : decode cX13_sinksAt 77 = .ok (.iload_n 3, 1) := by decide +kernel
theorem dX13_sinksAt_78 : decode cX13_sinksAt 78 = .ok (.iconst 1, 1) := by decide +kernel
theorem dX13_sinksAt_79 : decode cX13_sinksAt 79 = .ok (.if_icmp .ne 14, 3) := by decide +kernel
theorem dX13_sinksAt_82 : decode cX13_sinksAt 82 = .ok (.iload 4, 2) := by decide +kernel
theorem dX13_sinksAt_84 : decode cX13_sinksAt 84 = .ok (.iconst 3, 1) := by decide +kernel
theorem dX13_sinksAt_85 : decode cX13_sinksAt 85 = .ok (.iload_n 2, 1) := by decide +kernel
theorem dX13_sinksAt_86 : decode cX13_sinksAt 86 = .ok (.invokestatic 303, 3) := by decide +kernel
theorem dX13_sinksAt_89 : decode cX13_sinksAt 89 = .ok (.imul, 1) := by decide +kernel
theorem dX13_sinksAt_90 : decode cX13_sinksAt 90 = .ok (.iadd, 1) := by decide +kernel
theorem dX13_sinksAt_91 : decode cX13_sinksAt 91 = .ok (.istore 4, 2) := by decide +kernel
theorem dX13_sinksAt_93 : decode cX13_sinksAt 93 = .ok (.iload 4, 2) := by decide +kernel
theorem dX13_sinksAt_95 : decode cX13_sinksAt 95 = .ok (.aload_n 0, 1) := by decide +kernel
theorem dX13_sinksAt_96 : decode cX13_sinksAt 96 = .ok (.getfield 289, 3) := by decide +kernel
theorem dX13_sinksAt_99 : decode cX13_sinksAt 99 = .ok (.getfield 215, 3) := by decide +kernel
theorem dX13_sinksAt_102 : decode cX13_sinksAt 102 = .ok (.if_icmp .le 16, 3) := by decide +kernel
theorem dX13_sinksAt_105 : decode cX13_sinksAt 105 = .ok (.iload 4, 2) := by decide +kernel
theorem dX13_sinksAt_107 : decode cX13_sinksAt 107 = .ok (.aload_n 0, 1) := by decide +kernel
theorem dX13_sinksAt_108 : decode cX13_sinksAt 108 = .ok (.getfield 289, 3) := by decide +kernel
theorem dX13_sinksAt_111 : decode cX13_sinksAt 111 = .ok (.getfield 215, 3) := by decide +kernel
theorem dX13_sinksAt_114 : decode cX13_sinksAt 114 = .ok (.isub, 1) := by decide +kernel
theorem dX13_sinksAt_115 : decode cX13_sinksAt 115 = .ok (.goto 4, 3) := by decide +kernel
theorem dX13_sinksAt_118 : decode cX13_sinksAt 118 = .ok (.iconst 0, 1) := by decide +kernel
theorem dX13_sinksAt_119 : decode cX13_sinksAt 119 = .ok (.ireturn, 1) := by decide +kernel
theorem dX13_sinkersNow_0 : decode cX13_sinkersNow 0 = .ok (.iconst 0, 1) := by decide +kernel
theorem dX13_sinkersNow_1 : decode cX13_sinkersNow 1 = .ok (.istore_n 1, 1) := by decide +kernel
theorem dX13_sinkersNow_2 : decode cX13_sinkersNow 2 = .ok (.iconst 0, 1) := by decide +kernel
theorem dX13_sinkersNow_3 : decode cX13_sinkersNow 3 = .ok (.istore_n 2, 1) := by decide +kernel
theorem dX13_sinkersNow_4 : decode cX13_sinkersNow 4 = .ok (.iload_n 2, 1) := by decide +kernel
theorem dX13_sinkersNow_5 : decode cX13_sinkersNow 5 = .ok (.aload_n 0, 1) := by decide +kernel
theorem dX13_sinkersNow_6 : decode cX13_sinkersNow 6 = .ok (.getfield 289, 3) := by decide +kernel
theorem dX13_sinkersNow_9 : decode cX13_sinkersNow 9 = .ok (.getfield 185, 3) := by decide +kernel
theorem dX13_sinkersNow_12 : decode cX13_sinkersNow 12 = .ok (.if_icmp .ge 30, 3) := by decide +kernel
theorem dX13_sinkersNow_15 : decode cX13_sinkersNow 15 = .ok (.iload_n 1, 1) := by decide +kernel
theorem dX13_sinkersNow_16 : decode cX13_sinkersNow 16 = .ok (.aload_n 0, 1) := by decide +kernel
theorem dX13_sinkersNow_17 : decode cX13_sinkersNow 17 = .ok (.iload_n 2, 1) := by decide +kernel
theorem dX13_sinkersNow_18 : decode cX13_sinkersNow 18 = .ok (.invokevirtual 306, 3) := by decide +kernel
theorem dX13_sinkersNow_21 : decode cX13_sinkersNow 21 = .ok (.sipush 9999, 3) := by decide +kernel
theorem dX13_sinkersNow_24 : decode cX13_sinkersNow 24 = .ok (.if_icmp .ge 9, 3) := by decide +kernel
theorem dX13_sinkersNow_27 : decode cX13_sinkersNow 27 = .ok (.iconst 1, 1) := by decide +kernel
theorem dX13_sinkersNow_28 : decode cX13_sinkersNow 28 = .ok (.iload_n 2, 1) := by decide +kernel
theorem dX13_sinkersNow_29 : decode cX13_sinkersNow 29 = .ok (.ishl, 1) := by decide +kernel
theorem dX13_sinkersNow_30 : decode cX13_sinkersNow 30 = .ok (.goto 4, 3) := by decide +kernel
theorem dX13_sinkersNow_33 : decode cX13_sinkersNow 33 = .ok (.iconst 0, 1) := by decide +kernel
theorem dX13_sinkersNow_34 : decode cX13_sinkersNow 34 = .ok (.ior, 1) := by decide +kernel
theorem dX13_sinkersNow_35 : decode cX13_sinkersNow 35 = .ok (.istore_n 1, 1) := by decide +kernel
theorem dX13_sinkersNow_36 : decode cX13_sinkersNow 36 = .ok (.iinc 2 1, 3) := by decide +kernel
theorem dX13_sinkersNow_39 : decode cX13_sinkersNow 39 = .ok (.goto (-35), 3) := by decide +kernel
theorem dX13_sinkersNow_42 : decode cX13_sinkersNow 42 = .ok (.iload_n 1, 1) := by decide +kernel
theorem dX13_sinkersNow_43 : decode cX13_sinkersNow 43 = .ok (.ireturn, 1) := by decide +kernel
theorem dX13_timeTo_0 : decode cX13_timeTo 0 = .ok (.aload_n 0, 1) := by decide +kernel
theorem dX13_timeTo_1 : decode cX13_timeTo 1 = .ok (.getfield 289, 3) := by decide +kernel
theorem dX13_timeTo_4 : decode cX13_timeTo 4 = .ok (.getfield 258, 3) := by decide +kernel
theorem dX13_timeTo_7 : decode cX13_timeTo 7 = .ok (.iload_n 1, 1) := by decide +kernel
theorem dX13_timeTo_8 : decode cX13_timeTo 8 = .ok (.iaload, 1) := by decide +kernel
theorem dX13_timeTo_9 : decode cX13_timeTo 9 = .ok (.aload_n 0, 1) := by decide +kernel
theorem dX13_timeTo_10 : decode cX13_timeTo 10 = .ok (.getfield 21, 3) := by decide +kernel
theorem dX13_timeTo_13 : decode cX13_timeTo 13 = .ok (.iload_n 2, 1) := by decide +kernel
theorem dX13_timeTo_14 : decode cX13_timeTo 14 = .ok (.iaload, 1) := by decide +kernel
theorem dX13_timeTo_15 : decode cX13_timeTo 15 = .ok (.invokestatic 297, 3) := by decide +kernel
theorem dX13_timeTo_18 : decode cX13_timeTo 18 = .ok (.aload_n 0, 1) := by decide +kernel
theorem dX13_timeTo_19 : decode cX13_timeTo 19 = .ok (.getfield 289, 3) := by decide +kernel
theorem dX13_timeTo_22 : decode cX13_timeTo 22 = .ok (.getfield 260, 3) := by decide +kernel
theorem dX13_timeTo_25 : decode cX13_timeTo 25 = .ok (.iload_n 1, 1) := by decide +kernel
theorem dX13_timeTo_26 : decode cX13_timeTo 26 = .ok (.iaload, 1) := by decide +kernel
theorem dX13_timeTo_27 : decode cX13_timeTo 27 = .ok (.iadd, 1) := by decide +kernel
theorem dX13_timeTo_28 : decode cX13_timeTo 28 = .ok (.ireturn, 1) := by decide +kernel
theorem dX13_reaches_0 : decode cX13_reaches 0 = .ok (.iconst 0, 1) := by decide +kernel
theorem dX13_reaches_1 : decode cX13_reaches 1 = .ok (.istore_n 2, 1) := by decide +kernel
theorem dX13_reaches_2 : decode cX13_reaches 2 = .ok (.iconst 0, 1) := by decide +kernel
theorem dX13_reaches_3 : decode cX13_reaches 3 = .ok (.istore_n 3, 1) := by decide +kernel
theorem dX13_reaches_4 : decode cX13_reaches 4 = .ok (.iload_n 3, 1) := by decide +kernel
theorem dX13_reaches_5 : decode cX13_reaches 5 = .ok (.aload_n 0, 1) := by decide +kernel
theorem dX13_reaches_6 : decode cX13_reaches 6 = .ok (.getfield 289, 3) := by decide +kernel
theorem dX13_reaches_9 : decode cX13_reaches 9 = .ok (.getfield 185, 3) := by decide +kernel
theorem dX13_reaches_12 : decode cX13_reaches 12 = .ok (.if_icmp .ge 35, 3) := by decide +kernel
theorem dX13_reaches_15 : decode cX13_reaches 15 = .ok (.iload_n 2, 1) := by decide +kernel
theorem dX13_reaches_16 : decode cX13_reaches 16 = .ok (.aload_n 0, 1) := by decide +kernel
theorem dX13_reaches_17 : decode cX13_reaches 17 = .ok (.iload_n 1, 1) := by decide +kernel
theorem dX13_reaches_18 : decode cX13_reaches 18 = .ok (.iload_n 3, 1) := by decide +kernel
theorem dX13_reaches_19 : decode cX13_reaches 19 = .ok (.invokevirtual 309, 3) := by decide +kernel
theorem dX13_reaches_22 : decode cX13_reaches 22 = .ok (.aload_n 0, 1) := by decide +kernel
theorem dX13_reaches_23 : decode cX13_reaches 23 = .ok (.getfield 289, 3) := by decide +kernel
theorem dX13_reaches_26 : decode cX13_reaches 26 = .ok (.getfield 153, 3) := by decide +kernel
theorem dX13_reaches_29 : decode cX13_reaches 29 = .ok (.if_icmp .gt 9, 3) := by decide +kernel
theorem dX13_reaches_32 : decode cX13_reaches 32 = .ok (.iconst 1, 1) := by decide +kernel
theorem dX13_reaches_33 : decode cX13_reaches 33 = .ok (.iload_n 3, 1) := by decide +kernel
theorem dX13_reaches_34 : decode cX13_reaches 34 = .ok (.ishl, 1) := by decide +kernel
theorem dX13_reaches_35 : decode cX13_reaches 35 = .ok (.goto 4, 3) := by decide +kernel
theorem dX13_reaches_38 : decode cX13_reaches 38 = .ok (.iconst 0, 1) := by decide +kernel
theorem dX13_reaches_39 : decode cX13_reaches 39 = .ok (.ior, 1) := by decide +kernel
theorem dX13_reaches_40 : decode cX13_reaches 40 = .ok (.istore_n 2, 1) := by decide +kernel
theorem dX13_reaches_41 : decode cX13_reaches 41 = .ok (.iinc 3 1, 3) := by decide +kernel
theorem dX13_reaches_44 : decode cX13_reaches 44 = .ok (.goto (-40), 3) := by decide +kernel
theorem dX13_reaches_47 : decode cX13_reaches 47 = .ok (.iload_n 2, 1) := by decide +kernel
theorem dX13_reaches_48 : decode cX13_reaches 48 = .ok (.ireturn, 1) := by decide +kernel
theorem dX13_reachedBy_0 : decode cX13_reachedBy 0 = .ok (.iconst 0, 1) := by decide +kernel
theorem dX13_reachedBy_1 : decode cX13_reachedBy 1 = .ok (.istore_n 2, 1) := by decide +kernel
theorem dX13_reachedBy_2 : decode cX13_reachedBy 2 = .ok (.iconst 0, 1) := by decide +kernel
theorem dX13_reachedBy_3 : decode cX13_reachedBy 3 = .ok (.istore_n 3, 1) := by decide +kernel
theorem dX13_reachedBy_4 : decode cX13_reachedBy 4 = .ok (.iload_n 3, 1) := by decide +kernel
theorem dX13_reachedBy_5 : decode cX13_reachedBy 5 = .ok (.aload_n 0, 1) := by decide +kernel
theorem dX13_reachedBy_6 : decode cX13_reachedBy 6 = .ok (.getfield 289, 3) := by decide +kernel
theorem dX13_reachedBy_9 : decode cX13_reachedBy 9 = .ok (.getfield 253, 3) := by decide +kernel
theorem dX13_reachedBy_12 : decode cX13_reachedBy 12 = .ok (.if_icmp .ge 29, 3) := by decide +kernel
theorem dX13_reachedBy_15 : decode cX13_reachedBy 15 = .ok (.iload_n 2, 1) := by decide +kernel
theorem dX13_reachedBy_16 : decode cX13_reachedBy 16 = .ok (.iload_n 1, 1) := by decide +kernel
theorem dX13_reachedBy_17 : decode cX13_reachedBy 17 = .ok (.iload_n 3, 1) := by decide +kernel
theorem dX13_reachedBy_18 : decode cX13_reachedBy 18 = .ok (.invokestatic 267, 3) := by decide +kernel
theorem dX13_reachedBy_21 : decode cX13_reachedBy 21 = .ok (.ifCond .eq 11, 3) := by decide +kernel
theorem dX13_reachedBy_24 : decode cX13_reachedBy 24 = .ok (.aload_n 0, 1) := by decide +kernel
theorem dX13_reachedBy_25 : decode cX13_reachedBy 25 = .ok (.iload_n 3, 1) := by decide +kernel
theorem dX13_reachedBy_26 : decode cX13_reachedBy 26 = .ok (.invokevirtual 312, 3) := by decide +kernel
theorem dX13_reachedBy_29 : decode cX13_reachedBy 29 = .ok (.goto 4, 3) := by decide +kernel
theorem dX13_reachedBy_32 : decode cX13_reachedBy 32 = .ok (.iconst 0, 1) := by decide +kernel
theorem dX13_reachedBy_33 : decode cX13_reachedBy 33 = .ok (.ior, 1) := by decide +kernel
theorem dX13_reachedBy_34 : decode cX13_reachedBy 34 = .ok (.istore_n 2, 1) := by decide +kernel
theorem dX13_reachedBy_35 : decode cX13_reachedBy 35 = .ok (.iinc 3 1, 3) := by decide +kernel
theorem dX13_reachedBy_38 : decode cX13_reachedBy 38 = .ok (.goto (-34), 3) := by decide +kernel
theorem dX13_reachedBy_41 : decode cX13_reachedBy 41 = .ok (.iload_n 2, 1) := by decide +kernel
theorem dX13_reachedBy_42 : decode cX13_reachedBy 42 = .ok (.ireturn, 1) := by decide +kernel
theorem dX13_unreached_0 : decode cX13_unreached 0 = .ok (.aload_n 0, 1) := by decide +kernel
theorem dX13_unreached_1 : decode cX13_unreached 1 = .ok (.invokevirtual 315, 3) := by decide +kernel
theorem dX13_unreached_4 : decode cX13_unreached 4 = .ok (.aload_n 0, 1) := by decide +kernel
theorem dX13_unreached_5 : decode cX13_unreached 5 = .ok (.aload_n 0, 1) := by decide +kernel
theorem dX13_unreached_6 : decode cX13_unreached 6 = .ok (.getfield 21, 3) := by decide +kernel
theorem dX13_unreached_9 : decode cX13_unreached 9 = .ok (.bipush 6, 2) := by decide +kernel
theorem dX13_unreached_11 : decode cX13_unreached 11 = .ok (.iaload, 1) := by decide +kernel
theorem dX13_unreached_12 : decode cX13_unreached 12 = .ok (.invokevirtual 318, 3) := by decide +kernel
theorem dX13_unreached_15 : decode cX13_unreached 15 = .ok (.iconst (-1), 1) := by decide +kernel
theorem dX13_unreached_16 : decode cX13_unreached 16 = .ok (.ixor, 1) := by decide +kernel
theorem dX13_unreached_17 : decode cX13_unreached 17 = .ok (.iand, 1) := by decide +kernel
theorem dX13_unreached_18 : decode cX13_unreached 18 = .ok (.ireturn, 1) := by decide +kernel
theorem dX13_underAt_0 : decode cX13_underAt 0 = .ok (.iconst 0, 1) := by decide +kernel
theorem dX13_underAt_1 : decode cX13_underAt 1 = .ok (.istore_n 2, 1) := by decide +kernel
theorem dX13_underAt_2 : decode cX13_underAt 2 = .ok (.iconst 0, 1) := by decide +kernel
theorem dX13_underAt_3 : decode cX13_underAt 3 = .ok (.istore_n 3, 1) := by decide +kernel
theorem dX13_underAt_4 : decode cX13_underAt 4 = .ok (.iload_n 3, 1) := by decide +kernel
theorem dX13_underAt_5 : decode cX13_underAt 5 = .ok (.aload_n 0, 1) := by decide +kernel
theorem dX13_underAt_6 : decode cX13_underAt 6 = .ok (.getfield 289, 3) := by decide +kernel
theorem dX13_underAt_9 : decode cX13_underAt 9 = .ok (.getfield 185, 3) := by decide +kernel
theorem dX13_underAt_12 : decode cX13_underAt 12 = .ok (.if_icmp .ge 45, 3) := by decide +kernel
theorem dX13_underAt_15 : decode cX13_underAt 15 = .ok (.iload_n 2, 1) := by decide +kernel
theorem dX13_underAt_16 : decode cX13_underAt 16 = .ok (.aload_n 0, 1) := by decide +kernel
theorem dX13_underAt_17 : decode cX13_underAt 17 = .ok (.iload_n 3, 1) := by decide +kernel
theorem dX13_underAt_18 : decode cX13_underAt 18 = .ok (.invokevirtual 306, 3) := by decide +kernel
theorem dX13_underAt_21 : decode cX13_underAt 21 = .ok (.iload_n 1, 1) := by decide +kernel
theorem dX13_underAt_22 : decode cX13_underAt 22 = .ok (.if_icmp .gt 26, 3) := by decide +kernel
theorem dX13_underAt_25 : decode cX13_underAt 25 = .ok (.iload_n 1, 1) := by decide +kernel
theorem dX13_underAt_26 : decode cX13_underAt 26 = .ok (.aload_n 0, 1) := by decide +kernel
theorem dX13_underAt_27 : decode cX13_underAt 27 = .ok (.iload_n 3, 1) := by decide +kernel
theorem dX13_underAt_28 : decode cX13_underAt 28 = .ok (.invokevirtual 306, 3) := by decide +kernel
theorem dX13_underAt_31 : decode cX13_underAt 31 = .ok (.aload_n 0, 1) := by decide +kernel
theorem dX13_underAt_32 : decode cX13_underAt 32 = .ok (.getfield 289, 3) := by decide +kernel
theorem dX13_underAt_35 : decode cX13_underAt 35 = .ok (.getfield 153, 3) := by decide +kernel
theorem dX13_underAt_38 : decode cX13_underAt 38 = .ok (.iadd, 1) := by decide +kernel
theorem dX13_underAt_39 : decode cX13_underAt 39 = .ok (.if_icmp .ge 9, 3) := by decide +kernel
theorem dX13_underAt_42 : decode cX13_underAt 42 = .ok (.iconst 1, 1) := by decide +kernel
theorem dX13_underAt_43 : decode cX13_underAt 43 = .ok (.iload_n 3, 1) := by decide +kernel
theorem dX13_underAt_44 : decode cX13_underAt 44 = .ok (.ishl, 1) := by decide +kernel
theorem dX13_underAt_45 : decode cX13_underAt 45 = .ok (.goto 4, 3) := by decide +kernel
theorem dX13_underAt_48 : decode cX13_underAt 48 = .ok (.iconst 0, 1) := by decide +kernel
theorem dX13_underAt_49 : decode cX13_underAt 49 = .ok (.ior, 1) := by decide +kernel
theorem dX13_underAt_50 : decode cX13_underAt 50 = .ok (.istore_n 2, 1) := by decide +kernel
theorem dX13_underAt_51 : decode cX13_underAt 51 = .ok (.iinc 3 1, 3) := by decide +kernel
theorem dX13_underAt_54 : decode cX13_underAt 54 = .ok (.goto (-50), 3) := by decide +kernel
theorem dX13_underAt_57 : decode cX13_underAt 57 = .ok (.iload_n 2, 1) := by decide +kernel
theorem dX13_underAt_58 : decode cX13_underAt 58 = .ok (.ireturn, 1) := by decide +kernel
def m_X13_isPerson (t : Nat) (x0p : Int32) (σ : jd_Hp) : Option (Int32 × jd_Hp) :=
jd_if ((σ.2.2.2 t 3) = none) (
some (0, σ)) (
jd_if (x0p < 0) (
some (0, σ)) (
jd_o σ (12, 20) (σ.2.2.2 t 3) fun a1 =>
jd_if ((σ.2.1 a1 3) ≤ x0p) (
some (0, σ)) (
some (1, σ))))
set_option maxHeartbeats 4000000 in
set_option maxRecDepth 20000 in
theorem c_X13_isPerson {l : Launch} {s0 : State} {G : jd_G} (hF : jd_F s0 G) (σ : jd_Hp) (t : Nat) (ht : σ.1[t]? = some (13, 29)) (x0p : Int32) : jd_M l s0 G yX13_isPerson cX13_isPerson 2 (some .boolean) 0 je_i [jd_v G (some t), .int x0p] σ (m_X13_isPerson t x0p σ) := by
  refine jd_enter hF (by decide) (fun G => [some (jd_v G (some t)), some (.int x0p)]) rfl (by simp [lv_args, jd_al, jd_v_cat, jd_cti, jd_ctl]) (by simp [lg_sl, jd_v_cat, jd_cti, jd_ctl]) (fun X hD hX => ?_)
  have hX : jd_C X RX13 "isPerson" cX13_isPerson 2 (some .boolean) := hX
  unfold m_X13_isPerson
  refine jr_ald0 (pc := 0) hX dX13_isPerson_0 ?_
  refine jr_getr (pc := 1) hX fX13_289 rfl dX13_isPerson_1 ht ?_
  refine jr_ifnull (pc := 4) hX 26 dX13_isPerson_4 (by decide) ?_ ?_
  · refine jr_iconst (pc := 26) hX 0 rfl dX13_isPerson_26 ?_
    exact jr_zret (pc := 27) hX dX13_isPerson_27 (Or.inl rfl) rfl
  · refine jr_ild1 (pc := 7) hX dX13_isPerson_7 ?_
    refine jr_iflt (pc := 8) hX 26 dX13_isPerson_8 (by decide) ?_ ?_
    · refine jr_iconst (pc := 26) hX 0 rfl dX13_isPerson_26 ?_
      exact jr_zret (pc := 27) hX dX13_isPerson_27 (Or.inl rfl) rfl
    · refine jr_ild1 (pc := 11) hX dX13_isPerson_11 ?_
      refine jr_ald0 (pc := 12) hX dX13_isPerson_12 ?_
      refine jr_getr (pc := 13) hX fX13_289 rfl dX13_isPerson_13 ht ?_
      refine jr_ck0 (fun a1 e1 h1 => ?_)
      refine jr_getiN (pc := 16) hX fX13_185 rfl dX13_isPerson_16 h1 ?_
      refine jr_icge (pc := 19) hX 26 dX13_isPerson_19 (by decide) ?_ ?_
      · refine jr_iconst (pc := 26) hX 0 rfl dX13_isPerson_26 ?_
        exact jr_zret (pc := 27) hX dX13_isPerson_27 (Or.inl rfl) rfl
      · refine jr_iconst (pc := 22) hX 1 rfl dX13_isPerson_22 ?_
        refine jr_goto (pc := 23) hX 27 dX13_isPerson_23 (by decide) ?_
        exact jr_zret (pc := 27) hX dX13_isPerson_27 (Or.inr rfl) rfl
def m_X13_isPost (t : Nat) (x0p : Int32) (σ : jd_Hp) : Option (Int32 × jd_Hp) :=
jd_if ((σ.2.2.2 t 3) = none) (
some (0, σ)) (
jd_if (x0p < 0) (
some (0, σ)) (
jd_o σ (12, 20) (σ.2.2.2 t 3) fun a1 =>
jd_if ((σ.2.1 a1 4) ≤ x0p) (
some (0, σ)) (
some (1, σ))))
set_option maxHeartbeats 4000000 in
set_option maxRecDepth 20000 in
theorem c_X13_isPost {l : Launch} {s0 : State} {G : jd_G} (hF : jd_F s0 G) (σ : jd_Hp) (t : Nat) (ht : σ.1[t]? = some (13, 29)) (x0p : Int32) : jd_M l s0 G yX13_isPost cX13_isPost 2 (some .boolean) 0 je_i [jd_v G (some t), .int x0p] σ (m_X13_isPost t x0p σ) := by
  refine jd_enter hF (by decide) (fun G => [some (jd_v G (some t)), some (.int x0p)]) rfl (by simp [lv_args, jd_al, jd_v_cat, jd_cti, jd_ctl]) (by simp [lg_sl, jd_v_cat, jd_cti, jd_ctl]) (fun X hD hX => ?_)
  have hX : jd_C X RX13 "isPost" cX13_isPost 2 (some .boolean) := hX
  unfold m_X13_isPost
  refine jr_ald0 (pc := 0) hX dX13_isPost_0 ?_
  refine jr_getr (pc := 1) hX fX13_289 rfl dX13_isPost_1 ht ?_
  refine jr_ifnull (pc := 4) hX 26 dX13_isPost_4 (by decide) ?_ ?_
  · refine jr_iconst (pc := 26) hX 0 rfl dX13_isPost_26 ?_
    exact jr_zret (pc := 27) hX dX13_isPost_27 (Or.inl rfl) rfl
  · refine jr_ild1 (pc := 7) hX dX13_isPost_7 ?_
    refine jr_iflt (pc := 8) hX 26 dX13_isPost_8 (by decide) ?_ ?_
    · refine jr_iconst (pc := 26) hX 0 rfl dX13_isPost_26 ?_
      exact jr_zret (pc := 27) hX dX13_isPost_27 (Or.inl rfl) rfl
    · refine jr_ild1 (pc := 11) hX dX13_isPost_11 ?_
      refine jr_ald0 (pc := 12) hX dX13_isPost_12 ?_
      refine jr_getr (pc := 13) hX fX13_289 rfl dX13_isPost_13 ht ?_
      refine jr_ck0 (fun a1 e1 h1 => ?_)
      refine jr_getiN (pc := 16) hX fX13_253 rfl dX13_isPost_16 h1 ?_
      refine jr_icge (pc := 19) hX 26 dX13_isPost_19 (by decide) ?_ ?_
      · refine jr_iconst (pc := 26) hX 0 rfl dX13_isPost_26 ?_
        exact jr_zret (pc := 27) hX dX13_isPost_27 (Or.inl rfl) rfl
      · refine jr_iconst (pc := 22) hX 1 rfl dX13_isPost_22 ?_
        refine jr_goto (pc := 23) hX 27 dX13_isPost_23 (by decide) ?_
        exact jr_zret (pc := 27) hX dX13_isPost_27 (Or.inr rfl) rfl
def m_X13_works (t : Nat) (σ : jd_Hp) : Option (Unit × jd_Hp) :=
jd_b (jd_lp (S := Int32) (T := Unit) (fun s1 σ1 =>
jd_if (9 ≤ s1) (
some ((Sum.inr ()), σ1)) (
jd_o σ1 (13, 29) (some t) fun a3 =>
jd_ia σ1 20 (σ1.2.2.2 a3 15) s1 fun a4 j4 =>
jd_ia σ1 20 (σ1.2.2.2 a3 16) s1 fun a5 j5 =>
jd_li (jd_pi σ1 a5 j5 (σ1.2.1 a4 j4)) fun τ6 =>
some (Sum.inl (s1 + 1), τ6))) jd_fu 0 σ) fun t2 σ2 =>
some ((), σ2)
set_option maxHeartbeats 4000000 in
set_option maxRecDepth 20000 in
theorem c_X13_works {l : Launch} {s0 : State} {G : jd_G} (hF : jd_F s0 G) (σ : jd_Hp) (t : Nat) (ht : σ.1[t]? = some (13, 29)) : jd_M l s0 G yX13_works cX13_works 2 none 0 je_v [jd_v G (some t)] σ (m_X13_works t σ) := by
  refine jd_enter hF (by decide) (fun G => [some (jd_v G (some t)), none]) rfl (by simp [lv_args, jd_al, jd_v_cat, jd_cti, jd_ctl]) (by simp [lg_sl, jd_v_cat, jd_cti, jd_ctl]) (fun X hD hX => ?_)
  have hX : jd_C X RX13 "works" cX13_works 2 none := hX
  unfold m_X13_works
  refine jr_iconst (pc := 0) hX 0 rfl dX13_works_0 ?_
  refine jr_ist1 (pc := 1) hX (jn_r _ _) dX13_works_1 ?_
  refine jr_loop (pc := 2) (fun (s1 : Int32) => [some (jd_v (jd_gG X) (some t)), some (.int s1)]) (fun (t2 : Unit) => [none, none]) 26 0 (fun t2 σ2 => ?_) (fun K1 bk1 ex1 s1 σ1 => ?_)
  · exact jr_vret (pc := 26) hX dX13_works_26 rfl
  · refine jr_ild1 (pc := 2) hX dX13_works_2 ?_
    refine jr_bipush (pc := 3) hX 9 rfl dX13_works_3 ?_
    refine jr_icge (pc := 5) hX 26 dX13_works_5 (by decide) ?_ ?_
    · refine jr_wk [false, false] ?_
      exact ex1 () _
    · refine jr_ald0 (pc := 8) hX dX13_works_8 ?_
      refine jr_ck0 (fun a3 e3 h3 => ?_)
      refine jr_getr (pc := 9) hX fX13_21 rfl dX13_works_9 h3 ?_
      refine jr_ild1 (pc := 12) hX dX13_works_12 ?_
      refine jr_ald0 (pc := 13) hX dX13_works_13 ?_
      refine jr_ek0 e3 ?_
      refine jr_getr (pc := 14) hX fX13_17 rfl dX13_works_14 h3 ?_
      refine jr_ild1 (pc := 17) hX dX13_works_17 ?_
      refine jr_iaC (pc := 18) hX dX13_works_18 (fun a4 n4 e4 h4 => ?_)
      refine jr_iaS (pc := 19) hX dX13_works_19 (fun a5 n5 e5 h5 => ?_)
      refine jr_li ?_
      refine jr_inc1 (pc := 20) hX 1 rfl (jn_r _ _) dX13_works_20 ?_
      refine jr_goto (pc := 23) hX 2 dX13_works_23 (by decide) ?_
      exact bk1 (s1 + 1) _
def m_X13_nearTo (t : Nat) (x0p : Int32) (σ : jd_Hp) : Option (Int32 × jd_Hp) :=
jd_b (jd_lp (S := Int32 × Int32) (T := Int32) (fun s1 σ1 =>
jd_o σ1 (13, 29) (some t) fun a3 =>
jd_o σ1 (12, 20) (σ1.2.2.2 a3 3) fun a4 =>
jd_if ((σ1.2.1 a4 3) ≤ s1.2) (
some ((Sum.inr s1.1), σ1)) (
jd_if (s1.2 = x0p) (
jd_li (s1.1 ||| 0) fun x5 =>
some (Sum.inl (x5, (s1.2 + 1)), σ1)) (
jd_ia σ1 20 (σ1.2.2.2 a3 16) x0p fun a6 j6 =>
jd_ia σ1 20 (σ1.2.2.2 a3 16) s1.2 fun a7 j7 =>
jd_b (m_X13_off (σ1.2.1 a6 j6) (σ1.2.1 a7 j7) σ1) fun r8 σ8 =>
jd_if (5 < r8) (
jd_li (s1.1 ||| 0) fun x9 =>
some (Sum.inl (x9, (s1.2 + 1)), σ8)) (
jd_li (s1.1 ||| (1 <<< (s1.2 &&& 31))) fun x10 =>
some (Sum.inl (x10, (s1.2 + 1)), σ8))))) jd_fu (0, 0) σ) fun t2 σ2 =>
some (t2, σ2)
set_option maxHeartbeats 4000000 in
set_option maxRecDepth 20000 in
theorem c_X13_nearTo {l : Launch} {s0 : State} {G : jd_G} (hF : jd_F s0 G) (σ : jd_Hp) (t : Nat) (ht : σ.1[t]? = some (13, 29)) (x0p : Int32) : jd_M l s0 G yX13_nearTo cX13_nearTo 4 (some .int) 1 je_i [jd_v G (some t), .int x0p] σ (m_X13_nearTo t x0p σ) := by
  refine jd_enter hF (by decide) (fun G => [some (jd_v G (some t)), some (.int x0p), none, none]) rfl (by simp [lv_args, jd_al, jd_v_cat, jd_cti, jd_ctl]) (by simp [lg_sl, jd_v_cat, jd_cti, jd_ctl]) (fun X hD hX => ?_)
  have hX : jd_C X RX13 "nearTo" cX13_nearTo 4 (some .int) := hX
  unfold m_X13_nearTo
  refine jr_iconst (pc := 0) hX 0 rfl dX13_nearTo_0 ?_
  refine jr_ist2 (pc := 1) hX (jn_i _) dX13_nearTo_1 ?_
  refine jr_iconst (pc := 2) hX 0 rfl dX13_nearTo_2 ?_
  refine jr_ist3 (pc := 3) hX (jn_i _) dX13_nearTo_3 ?_
  refine jr_loop (pc := 4) (fun (s1 : Int32 × Int32) => [some (jd_v (jd_gG X) (some t)), some (.int x0p), some (.int s1.1), some (.int s1.2)]) (fun (t2 : Int32) => [none, none, some (.int t2), none]) 55 (0, 0) (fun t2 σ2 => ?_) (fun K1 bk1 ex1 s1 σ1 => ?_)
  · refine jr_ild2 (pc := 55) hX dX13_nearTo_55 ?_
    exact jr_iret (pc := 56) hX dX13_nearTo_56 rfl
  · refine jr_ild3 (pc := 4) hX dX13_nearTo_4 ?_
    refine jr_ald0 (pc := 5) hX dX13_nearTo_5 ?_
    refine jr_ck0 (fun a3 e3 h3 => ?_)
    refine jr_getr (pc := 6) hX fX13_289 rfl dX13_nearTo_6 h3 ?_
    refine jr_ck0 (fun a4 e4 h4 => ?_)
    refine jr_getiN (pc := 9) hX fX13_185 rfl dX13_nearTo_9 h4 ?_
    refine jr_icge (pc := 12) hX 55 dX13_nearTo_12 (by decide) ?_ ?_
    · refine jr_wk [false, false, true, false] ?_
      exact ex1 s1.1 _
    · refine jr_ild2 (pc := 15) hX dX13_nearTo_15 ?_
      refine jr_ild3 (pc := 16) hX dX13_nearTo_16 ?_
      refine jr_ild1 (pc := 17) hX dX13_nearTo_17 ?_
      refine jr_iceq (pc := 18) hX 46 dX13_nearTo_18 (by decide) ?_ ?_
      · refine jr_iconst (pc := 46) hX 0 rfl dX13_nearTo_46 ?_
        refine jr_ior (pc := 47) hX dX13_nearTo_47 ?_
        refine jr_ist2 (pc := 48) hX (jn_i _) dX13_nearTo_48 ?_
        refine jr_li ?_
        refine jr_inc3 (pc := 49) hX 1 rfl (jn_i _) dX13_nearTo_49 ?_
        refine jr_goto (pc := 52) hX 4 dX13_nearTo_52 (by decide) ?_
        exact bk1 ((s1.1 ||| 0), (s1.2 + 1)) _
      · refine jr_ald0 (pc := 21) hX dX13_nearTo_21 ?_
        refine jr_ek0 e3 ?_
        refine jr_getr (pc := 22) hX fX13_21 rfl dX13_nearTo_22 h3 ?_
        refine jr_ild1 (pc := 25) hX dX13_nearTo_25 ?_
        refine jr_iaC (pc := 26) hX dX13_nearTo_26 (fun a6 n6 e6 h6 => ?_)
        refine jr_ald0 (pc := 27) hX dX13_nearTo_27 ?_
        refine jr_ek0 e3 ?_
        refine jr_getr (pc := 28) hX fX13_21 rfl dX13_nearTo_28 h3 ?_
        refine jr_ild3 (pc := 31) hX dX13_nearTo_31 ?_
        refine jr_iaC (pc := 32) hX dX13_nearTo_32 (fun a7 n7 e7 h7 => ?_)
        refine jr_cS2i (pc := 33) hX lX13_297 (c_X13_off hX.F σ1 _ _) (jd_dd hD rfl) (Nat.le_of_ble_eq_true rfl) dX13_nearTo_33 (fun r8 σ8 p8 => ?_)
        refine jr_iconst (pc := 36) hX 5 rfl dX13_nearTo_36 ?_
        refine jr_icgt (pc := 37) hX 46 dX13_nearTo_37 (by decide) ?_ ?_
        · refine jr_iconst (pc := 46) hX 0 rfl dX13_nearTo_46 ?_
          refine jr_ior (pc := 47) hX dX13_nearTo_47 ?_
          refine jr_ist2 (pc := 48) hX (jn_i _) dX13_nearTo_48 ?_
          refine jr_li ?_
          refine jr_inc3 (pc := 49) hX 1 rfl (jn_i _) dX13_nearTo_49 ?_
          refine jr_goto (pc := 52) hX 4 dX13_nearTo_52 (by decide) ?_
          exact bk1 ((s1.1 ||| 0), (s1.2 + 1)) _
        · refine jr_iconst (pc := 40) hX 1 rfl dX13_nearTo_40 ?_
          refine jr_ild3 (pc := 41) hX dX13_nearTo_41 ?_
          refine jr_ishl (pc := 42) hX dX13_nearTo_42 ?_
          refine jr_goto (pc := 43) hX 47 dX13_nearTo_43 (by decide) ?_
          refine jr_ior (pc := 47) hX dX13_nearTo_47 ?_
          refine jr_ist2 (pc := 48) hX (jn_i _) dX13_nearTo_48 ?_
          refine jr_li ?_
          refine jr_inc3 (pc := 49) hX 1 rfl (jn_i _) dX13_nearTo_49 ?_
          refine jr_goto (pc := 52) hX 4 dX13_nearTo_52 (by decide) ?_
          exact bk1 ((s1.1 ||| (1 <<< (s1.2 &&& 31))), (s1.2 + 1)) _
def m_X13_sinksAt (t : Nat) (x0p : Int32) (σ : jd_Hp) : Option (Int32 × jd_Hp) :=
jd_ia σ 20 (σ.2.2.2 t 16) 7 fun a1 j1 =>
jd_b (m_X13_bit (σ.2.1 a1 j1) x0p σ) fun r2 σ2 =>
jd_if (r2 = 0) (
jd_b (m_X13_nearTo t x0p σ2) fun r3 σ3 =>
jd_o σ3 (12, 20) (σ3.2.2.2 t 3) fun a4 =>
jd_ia σ3 20 (σ3.2.2.2 a4 9) x0p fun a5 j5 =>
jd_li (σ3.2.1 a5 j5) fun x6 =>
jd_if (¬ x6 = 3) (
jd_b (α := Int32) (
jd_if (¬ x6 = 2) (
jd_ia σ3 20 (σ3.2.2.2 a4 11) x0p fun a10 j10 =>
some ((σ3.2.1 a10 j10), σ3)) (
jd_ia σ3 20 (σ3.2.2.2 a4 11) x0p fun a11 j11 =>
some (((σ3.2.1 a11 j11) / 2), σ3))) fun t9 σ9 =>
jd_b (α := Int32) (
jd_if (¬ x6 = 1) (
some (t9, σ9)) (
jd_b (m_X13_bits r3 σ9) fun r15 σ15 =>
jd_li (t9 + (3 * r15)) fun x16 =>
some (x16, σ15))) fun t14 σ14 =>
jd_o σ14 (13, 29) (some t) fun a17 =>
jd_o σ14 (12, 20) (σ14.2.2.2 a17 3) fun a18 =>
jd_if (t14 ≤ (σ14.2.1 a18 1)) (
some (0, σ14)) (
some ((t14 - (σ14.2.1 a18 1)), σ14))) (
jd_if (r3 = 0) (
jd_b (α := Int32) (
jd_if (¬ x6 = 2) (
jd_ia σ3 20 (σ3.2.2.2 a4 11) x0p fun a22 j22 =>
some ((σ3.2.1 a22 j22), σ3)) (
jd_ia σ3 20 (σ3.2.2.2 a4 11) x0p fun a23 j23 =>
some (((σ3.2.1 a23 j23) / 2), σ3))) fun t21 σ21 =>
jd_b (α := Int32) (
jd_if (¬ x6 = 1) (
some (t21, σ21)) (
jd_b (m_X13_bits r3 σ21) fun r27 σ27 =>
jd_li (t21 + (3 * r27)) fun x28 =>
some (x28, σ27))) fun t26 σ26 =>
jd_o σ26 (13, 29) (some t) fun a29 =>
jd_o σ26 (12, 20) (σ26.2.2.2 a29 3) fun a30 =>
jd_if (t26 ≤ (σ26.2.1 a30 1)) (
some (0, σ26)) (
some ((t26 - (σ26.2.1 a30 1)), σ26))) (
some (9999, σ3)))) (
some (9999, σ2))
set_option maxHeartbeats 4000000 in
set_option maxRecDepth 20000 in
theorem c_X13_sinksAt {l : Launch} {s0 : State} {G : jd_G} (hF : jd_F s0 G) (σ : jd_Hp) (t : Nat) (ht : σ.1[t]? = some (13, 29)) (x0p : Int32) : jd_M l s0 G yX13_sinksAt cX13_sinksAt 5 (some .int) 2 je_i [jd_v G (some t), .int x0p] σ (m_X13_sinksAt t x0p σ) := by
  refine jd_enter hF (by decide) (fun G => [some (jd_v G (some t)), some (.int x0p), none, none, none]) rfl (by simp [lv_args, jd_al, jd_v_cat, jd_cti, jd_ctl]) (by simp [lg_sl, jd_v_cat, jd_cti, jd_ctl]) (fun X hD hX => ?_)
  have hX : jd_C X RX13 "sinksAt" cX13_sinksAt 5 (some .int) := hX
  unfold m_X13_sinksAt
  refine jr_ald0 (pc := 0) hX dX13_sinksAt_0 ?_
  refine jr_getr (pc := 1) hX fX13_21 rfl dX13_sinksAt_1 ht ?_
  refine jr_bipush (pc := 4) hX 7 rfl dX13_sinksAt_4 ?_
  refine jr_iaC (pc := 6) hX dX13_sinksAt_6 (fun a1 n1 e1 h1 => ?_)
  refine jr_ild1 (pc := 7) hX dX13_sinksAt_7 ?_
  refine jr_cS2i (pc := 8) hX lX13_267 (c_X13_bit hX.F σ _ _) (jd_dd hD rfl) (Nat.le_of_ble_eq_true rfl) dX13_sinksAt_8 (fun r2 σ2 p2 => ?_)
  refine jr_ifeq (pc := 11) hX 18 dX13_sinksAt_11 (by decide) ?_ ?_
  · refine jr_ald0 (pc := 18) hX dX13_sinksAt_18 ?_
    refine jr_ild1 (pc := 19) hX dX13_sinksAt_19 ?_
    refine jr_cV1i (pc := 20) hX lX13_300 (c_X13_nearTo hX.F σ2 t (p2.at ht :) _) (jd_dd hD rfl) (Nat.le_of_ble_eq_true rfl) dX13_sinksAt_20 (p2.at ht :) (fun r3 σ3 p3 => ?_)
    refine jr_ist2 (pc := 23) hX (jn_i _) dX13_sinksAt_23 ?_
    refine jr_ald0 (pc := 24) hX dX13_sinksAt_24 ?_
    refine jr_getr (pc := 25) hX fX13_289 rfl dX13_sinksAt_25 (p3.at (p2.at ht :) :) ?_
    refine jr_ck0 (fun a4 e4 h4 => ?_)
    refine jr_getrN (pc := 28) hX fX13_244 rfl dX13_sinksAt_28 h4 ?_
    refine jr_ild1 (pc := 31) hX dX13_sinksAt_31 ?_
    refine jr_iaC (pc := 32) hX dX13_sinksAt_32 (fun a5 n5 e5 h5 => ?_)
    refine jr_ist3 (pc := 33) hX (jn_i _) dX13_sinksAt_33 ?_
    refine jr_li ?_
    refine jr_ild3 (pc := 34) hX dX13_sinksAt_34 ?_
    refine jr_iconst (pc := 35) hX 3 rfl dX13_sinksAt_35 ?_
    refine jr_icne (pc := 36) hX 47 dX13_sinksAt_36 (by decide) ?_ ?_
    · refine jr_ild3 (pc := 47) hX dX13_sinksAt_47 ?_
      refine jr_iconst (pc := 48) hX 2 rfl dX13_sinksAt_48 ?_
      refine jr_join (pc := 49) 75 (fun (t9 : Int32) => [some (jd_v (jd_gG X) (some t)), none, some (.int r3), some (.int (σ3.2.1 a5 x0p.toNatClampNeg)), none]) (fun (t9 : Int32) => [.int t9]) (fun t9 σ9 => ?_) (fun K9 jj9 => ?_)
      · refine jr_ist4 (pc := 75) hX (jn_i _) dX13_sinksAt_75 ?_
        refine jr_ild3 (pc := 77) hX dX13_sinksAt_77 ?_
        refine jr_iconst (pc := 78) hX 1 rfl dX13_sinksAt_78 ?_
        refine jr_join (pc := 79) 93 (fun (t14 : Int32) => [some (jd_v (jd_gG X) (some t)), none, none, none, some (.int t14)]) (fun (t14 : Int32) => []) (fun t14 σ14 => ?_) (fun K14 jj14 => ?_)
        · refine jr_ild4 (pc := 93) hX dX13_sinksAt_93 ?_
          refine jr_ald0 (pc := 95) hX dX13_sinksAt_95 ?_
          refine jr_ck0 (fun a17 e17 h17 => ?_)
          refine jr_getr (pc := 96) hX fX13_289 rfl dX13_sinksAt_96 h17 ?_
          refine jr_ck0 (fun a18 e18 h18 => ?_)
          refine jr_getiN (pc := 99) hX fX13_215 rfl dX13_sinksAt_99 h18 ?_
          refine jr_icle (pc := 102) hX 118 dX13_sinksAt_102 (by decide) ?_ ?_
          · refine jr_iconst (pc := 118) hX 0 rfl dX13_sinksAt_118 ?_
            exact jr_iret (pc := 119) hX dX13_sinksAt_119 rfl
          · refine jr_ild4 (pc := 105) hX dX13_sinksAt_105 ?_
            refine jr_ald0 (pc := 107) hX dX13_sinksAt_107 ?_
            refine jr_ek0 e17 ?_
            refine jr_getr (pc := 108) hX fX13_289 rfl dX13_sinksAt_108 h17 ?_
            refine jr_ek0 e18 ?_
            refine jr_getiN (pc := 111) hX fX13_215 rfl dX13_sinksAt_111 h18 ?_
            refine jr_isub (pc := 114) hX dX13_sinksAt_114 ?_
            refine jr_goto (pc := 115) hX 119 dX13_sinksAt_115 (by decide) ?_
            exact jr_iret (pc := 119) hX dX13_sinksAt_119 rfl
        · refine jr_icne (pc := 79) hX 93 dX13_sinksAt_79 (by decide) ?_ ?_
          · refine jr_wk [true, true, false, false, true] ?_
            exact jj14 t9 _
          · refine jr_ild4 (pc := 82) hX dX13_sinksAt_82 ?_
            refine jr_iconst (pc := 84) hX 3 rfl dX13_sinksAt_84 ?_
            refine jr_ild2 (pc := 85) hX dX13_sinksAt_85 ?_
            refine jr_cS1i (pc := 86) hX lX13_303 (c_X13_bits hX.F σ9 _) (jd_dd hD rfl) (Nat.le_of_ble_eq_true rfl) dX13_sinksAt_86 (fun r15 σ15 p15 => ?_)
            refine jr_imul (pc := 89) hX dX13_sinksAt_89 ?_
            refine jr_iadd (pc := 90) hX dX13_sinksAt_90 ?_
            refine jr_ist4 (pc := 91) hX (jn_i _) dX13_sinksAt_91 ?_
            refine jr_li ?_
            refine jr_wk [true, true, false, false, true] ?_
            exact jj14 (t9 + (3 * r15)) _
      · refine jr_icne (pc := 49) hX 66 dX13_sinksAt_49 (by decide) ?_ ?_
        · refine jr_ald0 (pc := 66) hX dX13_sinksAt_66 ?_
          refine jr_getr (pc := 67) hX fX13_289 rfl dX13_sinksAt_67 (p3.at (p2.at ht :) :) ?_
          refine jr_ek0 e4 ?_
          refine jr_getrN (pc := 70) hX fX13_249 rfl dX13_sinksAt_70 h4 ?_
          refine jr_ild1 (pc := 73) hX dX13_sinksAt_73 ?_
          refine jr_iaC (pc := 74) hX dX13_sinksAt_74 (fun a10 n10 e10 h10 => ?_)
          refine jr_wk [true, false, true, true, true] ?_
          exact jj9 (σ3.2.1 a10 x0p.toNatClampNeg) _
        · refine jr_ald0 (pc := 52) hX dX13_sinksAt_52 ?_
          refine jr_getr (pc := 53) hX fX13_289 rfl dX13_sinksAt_53 (p3.at (p2.at ht :) :) ?_
          refine jr_ek0 e4 ?_
          refine jr_getrN (pc := 56) hX fX13_249 rfl dX13_sinksAt_56 h4 ?_
          refine jr_ild1 (pc := 59) hX dX13_sinksAt_59 ?_
          refine jr_iaC (pc := 60) hX dX13_sinksAt_60 (fun a11 n11 e11 h11 => ?_)
          refine jr_iconst (pc := 61) hX 2 rfl dX13_sinksAt_61 ?_
          refine jr_idiv (pc := 62) hX dX13_sinksAt_62 (by decide) ?_
          refine jr_goto (pc := 63) hX 75 dX13_sinksAt_63 (by decide) ?_
          refine jr_wk [true, false, true, true, true] ?_
          exact jj9 ((σ3.2.1 a11 x0p.toNatClampNeg) / 2) _
    · refine jr_ild2 (pc := 39) hX dX13_sinksAt_39 ?_
      refine jr_ifeq (pc := 40) hX 47 dX13_sinksAt_40 (by decide) ?_ ?_
      · refine jr_ild3 (pc := 47) hX dX13_sinksAt_47 ?_
        refine jr_iconst (pc := 48) hX 2 rfl dX13_sinksAt_48 ?_
        refine jr_join (pc := 49) 75 (fun (t21 : Int32) => [some (jd_v (jd_gG X) (some t)), none, some (.int r3), some (.int (σ3.2.1 a5 x0p.toNatClampNeg)), none]) (fun (t21 : Int32) => [.int t21]) (fun t21 σ21 => ?_) (fun K21 jj21 => ?_)
        · refine jr_ist4 (pc := 75) hX (jn_i _) dX13_sinksAt_75 ?_
          refine jr_ild3 (pc := 77) hX dX13_sinksAt_77 ?_
          refine jr_iconst (pc := 78) hX 1 rfl dX13_sinksAt_78 ?_
          refine jr_join (pc := 79) 93 (fun (t26 : Int32) => [some (jd_v (jd_gG X) (some t)), none, none, none, some (.int t26)]) (fun (t26 : Int32) => []) (fun t26 σ26 => ?_) (fun K26 jj26 => ?_)
          · refine jr_ild4 (pc := 93) hX dX13_sinksAt_93 ?_
            refine jr_ald0 (pc := 95) hX dX13_sinksAt_95 ?_
            refine jr_ck0 (fun a29 e29 h29 => ?_)
            refine jr_getr (pc := 96) hX fX13_289 rfl dX13_sinksAt_96 h29 ?_
            refine jr_ck0 (fun a30 e30 h30 => ?_)
            refine jr_getiN (pc := 99) hX fX13_215 rfl dX13_sinksAt_99 h30 ?_
            refine jr_icle (pc := 102) hX 118 dX13_sinksAt_102 (by decide) ?_ ?_
            · refine jr_iconst (pc := 118) hX 0 rfl dX13_sinksAt_118 ?_
              exact jr_iret (pc := 119) hX dX13_sinksAt_119 rfl
            · refine jr_ild4 (pc := 105) hX dX13_sinksAt_105 ?_
              refine jr_ald0 (pc := 107) hX dX13_sinksAt_107 ?_
              refine jr_ek0 e29 ?_
              refine jr_getr (pc := 108) hX fX13_289 rfl dX13_sinksAt_108 h29 ?_
              refine jr_ek0 e30 ?_
              refine jr_getiN (pc := 111) hX fX13_215 rfl dX13_sinksAt_111 h30 ?_
              refine jr_isub (pc := 114) hX dX13_sinksAt_114 ?_
              refine jr_goto (pc := 115) hX 119 dX13_sinksAt_115 (by decide) ?_
              exact jr_iret (pc := 119) hX dX13_sinksAt_119 rfl
          · refine jr_icne (pc := 79) hX 93 dX13_sinksAt_79 (by decide) ?_ ?_
            · refine jr_wk [true, true, false, false, true] ?_
              exact jj26 t21 _
            · refine jr_ild4 (pc := 82) hX dX13_sinksAt_82 ?_
              refine jr_iconst (pc := 84) hX 3 rfl dX13_sinksAt_84 ?_
              refine jr_ild2 (pc := 85) hX dX13_sinksAt_85 ?_
              refine jr_cS1i (pc := 86) hX lX13_303 (c_X13_bits hX.F σ21 _) (jd_dd hD rfl) (Nat.le_of_ble_eq_true rfl) dX13_sinksAt_86 (fun r27 σ27 p27 => ?_)
              refine jr_imul (pc := 89) hX dX13_sinksAt_89 ?_
              refine jr_iadd (pc := 90) hX dX13_sinksAt_90 ?_
              refine jr_ist4 (pc := 91) hX (jn_i _) dX13_sinksAt_91 ?_
              refine jr_li ?_
              refine jr_wk [true, true, false, false, true] ?_
              exact jj26 (t21 + (3 * r27)) _
        · refine jr_icne (pc := 49) hX 66 dX13_sinksAt_49 (by decide) ?_ ?_
          · refine jr_ald0 (pc := 66) hX dX13_sinksAt_66 ?_
            refine jr_getr (pc := 67) hX fX13_289 rfl dX13_sinksAt_67 (p3.at (p2.at ht :) :) ?_
            refine jr_ek0 e4 ?_
            refine jr_getrN (pc := 70) hX fX13_249 rfl dX13_sinksAt_70 h4 ?_
            refine jr_ild1 (pc := 73) hX dX13_sinksAt_73 ?_
            refine jr_iaC (pc := 74) hX dX13_sinksAt_74 (fun a22 n22 e22 h22 => ?_)
            refine jr_wk [true, false, true, true, true] ?_
            exact jj21 (σ3.2.1 a22 x0p.toNatClampNeg) _
          · refine jr_ald0 (pc := 52) hX dX13_sinksAt_52 ?_
            refine jr_getr (pc := 53) hX fX13_289 rfl dX13_sinksAt_53 (p3.at (p2.at ht :) :) ?_
            refine jr_ek0 e4 ?_
            refine jr_getrN (pc := 56) hX fX13_249 rfl dX13_sinksAt_56 h4 ?_
            refine jr_ild1 (pc := 59) hX dX13_sinksAt_59 ?_
            refine jr_iaC (pc := 60) hX dX13_sinksAt_60 (fun a23 n23 e23 h23 => ?_)
            refine jr_iconst (pc := 61) hX 2 rfl dX13_sinksAt_61 ?_
            refine jr_idiv (pc := 62) hX dX13_sinksAt_62 (by decide) ?_
            refine jr_goto (pc := 63) hX 75 dX13_sinksAt_63 (by decide) ?_
            refine jr_wk [true, false, true, true, true] ?_
            exact jj21 ((σ3.2.1 a23 x0p.toNatClampNeg) / 2) _
      · refine jr_sipush (pc := 43) hX 9999 rfl dX13_sinksAt_43 ?_
        exact jr_iret (pc := 46) hX dX13_sinksAt_46 rfl
  · refine jr_sipush (pc := 14) hX 9999 rfl dX13_sinksAt_14 ?_
    exact jr_iret (pc := 17) hX dX13_sinksAt_17 rfl
def m_X13_sinkersNow (t : Nat) (σ : jd_Hp) : Option (Int32 × jd_Hp) :=
jd_b (jd_lp (S := Int32 × Int32) (T := Int32) (fun s1 σ1 =>
jd_o σ1 (13, 29) (some t) fun a3 =>
jd_o σ1 (12, 20) (σ1.2.2.2 a3 3) fun a4 =>
jd_if ((σ1.2.1 a4 3) ≤ s1.2) (
some ((Sum.inr s1.1), σ1)) (
jd_b (m_X13_sinksAt a3 s1.2 σ1) fun r5 σ5 =>
jd_if (9999 ≤ r5) (
jd_li (s1.1 ||| 0) fun x6 =>
some (Sum.inl (x6, (s1.2 + 1)), σ5)) (
jd_li (s1.1 ||| (1 <<< (s1.2 &&& 31))) fun x7 =>
some (Sum.inl (x7, (s1.2 + 1)), σ5)))) jd_fu (0, 0) σ) fun t2 σ2 =>
some (t2, σ2)
set_option maxHeartbeats 4000000 in
set_option maxRecDepth 20000 in
theorem c_X13_sinkersNow {l : Launch} {s0 : State} {G : jd_G} (hF : jd_F s0 G) (σ : jd_Hp) (t : Nat) (ht : σ.1[t]? = some (13, 29)) : jd_M l s0 G yX13_sinkersNow cX13_sinkersNow 3 (some .int) 3 je_i [jd_v G (some t)] σ (m_X13_sinkersNow t σ) := by
  refine jd_enter hF (by decide) (fun G => [some (jd_v G (some t)), none, none]) rfl (by simp [lv_args, jd_al, jd_v_cat, jd_cti, jd_ctl]) (by simp [lg_sl, jd_v_cat, jd_cti, jd_ctl]) (fun X hD hX => ?_)
  have hX : jd_C X RX13 "sinkersNow" cX13_sinkersNow 3 (some .int) := hX
  unfold m_X13_sinkersNow
  refine jr_iconst (pc := 0) hX 0 rfl dX13_sinkersNow_0 ?_
  refine jr_ist1 (pc := 1) hX (jn_r _ _) dX13_sinkersNow_1 ?_
  refine jr_iconst (pc := 2) hX 0 rfl dX13_sinkersNow_2 ?_
  refine jr_ist2 (pc := 3) hX (jn_i _) dX13_sinkersNow_3 ?_
  refine jr_loop (pc := 4) (fun (s1 : Int32 × Int32) => [some (jd_v (jd_gG X) (some t)), some (.int s1.1), some (.int s1.2)]) (fun (t2 : Int32) => [none, some (.int t2), none]) 42 (0, 0) (fun t2 σ2 => ?_) (fun K1 bk1 ex1 s1 σ1 => ?_)
  · refine jr_ild1 (pc := 42) hX dX13_sinkersNow_42 ?_
    exact jr_iret (pc := 43) hX dX13_sinkersNow_43 rfl
  · refine jr_ild2 (pc := 4) hX dX13_sinkersNow_4 ?_
    refine jr_ald0 (pc := 5) hX dX13_sinkersNow_5 ?_
    refine jr_ck0 (fun a3 e3 h3 => ?_)
    refine jr_getr (pc := 6) hX fX13_289 rfl dX13_sinkersNow_6 h3 ?_
    refine jr_ck0 (fun a4 e4 h4 => ?_)
    refine jr_getiN (pc := 9) hX fX13_185 rfl dX13_sinkersNow_9 h4 ?_
    refine jr_icge (pc := 12) hX 42 dX13_sinkersNow_12 (by decide) ?_ ?_
    · refine jr_wk [false, true, false] ?_
      exact ex1 s1.1 _
    · refine jr_ild1 (pc := 15) hX dX13_sinkersNow_15 ?_
      refine jr_ald0 (pc := 16) hX dX13_sinkersNow_16 ?_
      refine jr_ild2 (pc := 17) hX dX13_sinkersNow_17 ?_
      refine jr_ek1 e3 ?_
      refine jr_cV1i (pc := 18) hX lX13_306 (c_X13_sinksAt hX.F σ1 a3 h3 _) (jd_dd hD rfl) (Nat.le_of_ble_eq_true rfl) dX13_sinkersNow_18 h3 (fun r5 σ5 p5 => ?_)
      refine jr_sipush (pc := 21) hX 9999 rfl dX13_sinkersNow_21 ?_
      refine jr_icge (pc := 24) hX 33 dX13_sinkersNow_24 (by decide) ?_ ?_
      · refine jr_iconst (pc := 33) hX 0 rfl dX13_sinkersNow_33 ?_
        refine jr_ior (pc := 34) hX dX13_sinkersNow_34 ?_
        refine jr_ist1 (pc := 35) hX (jn_r _ _) dX13_sinkersNow_35 ?_
        refine jr_li ?_
        refine jr_inc2 (pc := 36) hX 1 rfl (jn_i _) dX13_sinkersNow_36 ?_
        refine jr_goto (pc := 39) hX 4 dX13_sinkersNow_39 (by decide) ?_
        exact bk1 ((s1.1 ||| 0), (s1.2 + 1)) _
      · refine jr_iconst (pc := 27) hX 1 rfl dX13_sinkersNow_27 ?_
        refine jr_ild2 (pc := 28) hX dX13_sinkersNow_28 ?_
        refine jr_ishl (pc := 29) hX dX13_sinkersNow_29 ?_
        refine jr_goto (pc := 30) hX 34 dX13_sinkersNow_30 (by decide) ?_
        refine jr_ior (pc := 34) hX dX13_sinkersNow_34 ?_
        refine jr_ist1 (pc := 35) hX (jn_r _ _) dX13_sinkersNow_35 ?_
        refine jr_li ?_
        refine jr_inc2 (pc := 36) hX 1 rfl (jn_i _) dX13_sinkersNow_36 ?_
        refine jr_goto (pc := 39) hX 4 dX13_sinkersNow_39 (by decide) ?_
        exact bk1 ((s1.1 ||| (1 <<< (s1.2 &&& 31))), (s1.2 + 1)) _
def m_X13_timeTo (t : Nat) (x0p : Int32) (x1p : Int32) (σ : jd_Hp) : Option (Int32 × jd_Hp) :=
jd_o σ (12, 20) (σ.2.2.2 t 3) fun a1 =>
jd_ia σ 20 (σ.2.2.2 a1 15) x0p fun a2 j2 =>
jd_ia σ 20 (σ.2.2.2 t 16) x1p fun a3 j3 =>
jd_b (m_X13_off (σ.2.1 a2 j2) (σ.2.1 a3 j3) σ) fun r4 σ4 =>
jd_o σ4 (12, 20) (σ4.2.2.2 t 3) fun a5 =>
jd_ia σ4 20 (σ4.2.2.2 a5 16) x0p fun a6 j6 =>
some ((r4 + (σ4.2.1 a6 j6)), σ4)
set_option maxHeartbeats 4000000 in
set_option maxRecDepth 20000 in
theorem c_X13_timeTo {l : Launch} {s0 : State} {G : jd_G} (hF : jd_F s0 G) (σ : jd_Hp) (t : Nat) (ht : σ.1[t]? = some (13, 29)) (x0p : Int32) (x1p : Int32) : jd_M l s0 G yX13_timeTo cX13_timeTo 3 (some .int) 1 je_i [jd_v G (some t), .int x0p, .int x1p] σ (m_X13_timeTo t x0p x1p σ) := by
  refine jd_enter hF (by decide) (fun G => [some (jd_v G (some t)), some (.int x0p), some (.int x1p)]) rfl (by simp [lv_args, jd_al, jd_v_cat, jd_cti, jd_ctl]) (by simp [lg_sl, jd_v_cat, jd_cti, jd_ctl]) (fun X hD hX => ?_)
  have hX : jd_C X RX13 "timeTo" cX13_timeTo 3 (some .int) := hX
  unfold m_X13_timeTo
  refine jr_ald0 (pc := 0) hX dX13_timeTo_0 ?_
  refine jr_getr (pc := 1) hX fX13_289 rfl dX13_timeTo_1 ht ?_
  refine jr_ck0 (fun a1 e1 h1 => ?_)
  refine jr_getrN (pc := 4) hX fX13_258 rfl dX13_timeTo_4 h1 ?_
  refine jr_ild1 (pc := 7) hX dX13_timeTo_7 ?_
  refine jr_iaC (pc := 8) hX dX13_timeTo_8 (fun a2 n2 e2 h2 => ?_)
  refine jr_ald0 (pc := 9) hX dX13_timeTo_9 ?_
  refine jr_getr (pc := 10) hX fX13_21 rfl dX13_timeTo_10 ht ?_
  refine jr_ild2 (pc := 13) hX dX13_timeTo_13 ?_
  refine jr_iaC (pc := 14) hX dX13_timeTo_14 (fun a3 n3 e3 h3 => ?_)
  refine jr_cS2i (pc := 15) hX lX13_297 (c_X13_off hX.F σ _ _) (jd_dd hD rfl) (Nat.le_of_ble_eq_true rfl) dX13_timeTo_15 (fun r4 σ4 p4 => ?_)
  refine jr_ald0 (pc := 18) hX dX13_timeTo_18 ?_
  refine jr_getr (pc := 19) hX fX13_289 rfl dX13_timeTo_19 (p4.at ht :) ?_
  refine jr_ck0 (fun a5 e5 h5 => ?_)
  refine jr_getrN (pc := 22) hX fX13_260 rfl dX13_timeTo_22 h5 ?_
  refine jr_ild1 (pc := 25) hX dX13_timeTo_25 ?_
  refine jr_iaC (pc := 26) hX dX13_timeTo_26 (fun a6 n6 e6 h6 => ?_)
  refine jr_iadd (pc := 27) hX dX13_timeTo_27 ?_
  exact jr_iret (pc := 28) hX dX13_timeTo_28 rfl
def m_X13_reaches (t : Nat) (x0p : Int32) (σ : jd_Hp) : Option (Int32 × jd_Hp) :=
jd_b (jd_lp (S := Int32 × Int32) (T := Int32) (fun s1 σ1 =>
jd_o σ1 (13, 29) (some t) fun a3 =>
jd_o σ1 (12, 20) (σ1.2.2.2 a3 3) fun a4 =>
jd_if ((σ1.2.1 a4 3) ≤ s1.2) (
some ((Sum.inr s1.1), σ1)) (
jd_b (m_X13_timeTo a3 x0p s1.2 σ1) fun r5 σ5 =>
jd_o σ5 (12, 20) (σ5.2.2.2 a3 3) fun a6 =>
jd_if ((σ5.2.1 a6 0) < r5) (
jd_li (s1.1 ||| 0) fun x7 =>
some (Sum.inl (x7, (s1.2 + 1)), σ5)) (
jd_li (s1.1 ||| (1 <<< (s1.2 &&& 31))) fun x8 =>
some (Sum.inl (x8, (s1.2 + 1)), σ5)))) jd_fu (0, 0) σ) fun t2 σ2 =>
some (t2, σ2)
set_option maxHeartbeats 4000000 in
set_option maxRecDepth 20000 in
theorem c_X13_reaches {l : Launch} {s0 : State} {G : jd_G} (hF : jd_F s0 G) (σ : jd_Hp) (t : Nat) (ht : σ.1[t]? = some (13, 29)) (x0p : Int32) : jd_M l s0 G yX13_reaches cX13_reaches 4 (some .int) 2 je_i [jd_v G (some t), .int x0p] σ (m_X13_reaches t x0p σ) := by
  refine jd_enter hF (by decide) (fun G => [some (jd_v G (some t)), some (.int x0p), none, none]) rfl (by simp [lv_args, jd_al, jd_v_cat, jd_cti, jd_ctl]) (by simp [lg_sl, jd_v_cat, jd_cti, jd_ctl]) (fun X hD hX => ?_)
  have hX : jd_C X RX13 "reaches" cX13_reaches 4 (some .int) := hX
  unfold m_X13_reaches
  refine jr_iconst (pc := 0) hX 0 rfl dX13_reaches_0 ?_
  refine jr_ist2 (pc := 1) hX (jn_i _) dX13_reaches_1 ?_
  refine jr_iconst (pc := 2) hX 0 rfl dX13_reaches_2 ?_
  refine jr_ist3 (pc := 3) hX (jn_i _) dX13_reaches_3 ?_
  refine jr_loop (pc := 4) (fun (s1 : Int32 × Int32) => [some (jd_v (jd_gG X) (some t)), some (.int x0p), some (.int s1.1), some (.int s1.2)]) (fun (t2 : Int32) => [none, none, some (.int t2), none]) 47 (0, 0) (fun t2 σ2 => ?_) (fun K1 bk1 ex1 s1 σ1 => ?_)
  · refine jr_ild2 (pc := 47) hX dX13_reaches_47 ?_
    exact jr_iret (pc := 48) hX dX13_reaches_48 rfl
  · refine jr_ild3 (pc := 4) hX dX13_reaches_4 ?_
    refine jr_ald0 (pc := 5) hX dX13_reaches_5 ?_
    refine jr_ck0 (fun a3 e3 h3 => ?_)
    refine jr_getr (pc := 6) hX fX13_289 rfl dX13_reaches_6 h3 ?_
    refine jr_ck0 (fun a4 e4 h4 => ?_)
    refine jr_getiN (pc := 9) hX fX13_185 rfl dX13_reaches_9 h4 ?_
    refine jr_icge (pc := 12) hX 47 dX13_reaches_12 (by decide) ?_ ?_
    · refine jr_wk [false, false, true, false] ?_
      exact ex1 s1.1 _
    · refine jr_ild2 (pc := 15) hX dX13_reaches_15 ?_
      refine jr_ald0 (pc := 16) hX dX13_reaches_16 ?_
      refine jr_ild1 (pc := 17) hX dX13_reaches_17 ?_
      refine jr_ild3 (pc := 18) hX dX13_reaches_18 ?_
      refine jr_ek2 e3 ?_
      refine jr_cV2i (pc := 19) hX lX13_309 (c_X13_timeTo hX.F σ1 a3 h3 _ _) (jd_dd hD rfl) (Nat.le_of_ble_eq_true rfl) dX13_reaches_19 h3 (fun r5 σ5 p5 => ?_)
      refine jr_ald0 (pc := 22) hX dX13_reaches_22 ?_
      refine jr_ek0 e3 ?_
      refine jr_getr (pc := 23) hX fX13_289 rfl dX13_reaches_23 (p5.at h3 :) ?_
      refine jr_ck0 (fun a6 e6 h6 => ?_)
      refine jr_getiN (pc := 26) hX fX13_153 rfl dX13_reaches_26 h6 ?_
      refine jr_icgt (pc := 29) hX 38 dX13_reaches_29 (by decide) ?_ ?_
      · refine jr_iconst (pc := 38) hX 0 rfl dX13_reaches_38 ?_
        refine jr_ior (pc := 39) hX dX13_reaches_39 ?_
        refine jr_ist2 (pc := 40) hX (jn_i _) dX13_reaches_40 ?_
        refine jr_li ?_
        refine jr_inc3 (pc := 41) hX 1 rfl (jn_i _) dX13_reaches_41 ?_
        refine jr_goto (pc := 44) hX 4 dX13_reaches_44 (by decide) ?_
        exact bk1 ((s1.1 ||| 0), (s1.2 + 1)) _
      · refine jr_iconst (pc := 32) hX 1 rfl dX13_reaches_32 ?_
        refine jr_ild3 (pc := 33) hX dX13_reaches_33 ?_
        refine jr_ishl (pc := 34) hX dX13_reaches_34 ?_
        refine jr_goto (pc := 35) hX 39 dX13_reaches_35 (by decide) ?_
        refine jr_ior (pc := 39) hX dX13_reaches_39 ?_
        refine jr_ist2 (pc := 40) hX (jn_i _) dX13_reaches_40 ?_
        refine jr_li ?_
        refine jr_inc3 (pc := 41) hX 1 rfl (jn_i _) dX13_reaches_41 ?_
        refine jr_goto (pc := 44) hX 4 dX13_reaches_44 (by decide) ?_
        exact bk1 ((s1.1 ||| (1 <<< (s1.2 &&& 31))), (s1.2 + 1)) _
def m_X13_reachedBy (t : Nat) (x0p : Int32) (σ : jd_Hp) : Option (Int32 × jd_Hp) :=
jd_b (jd_lp (S := Int32 × Int32) (T := Int32) (fun s1 σ1 =>
jd_o σ1 (13, 29) (some t) fun a3 =>
jd_o σ1 (12, 20) (σ1.2.2.2 a3 3) fun a4 =>
jd_if ((σ1.2.1 a4 4) ≤ s1.2) (
some ((Sum.inr s1.1), σ1)) (
jd_b (m_X13_bit x0p s1.2 σ1) fun r5 σ5 =>
jd_if (r5 = 0) (
jd_li (s1.1 ||| 0) fun x6 =>
some (Sum.inl (x6, (s1.2 + 1)), σ5)) (
jd_b (m_X13_reaches a3 s1.2 σ5) fun r7 σ7 =>
jd_li (s1.1 ||| r7) fun x8 =>
some (Sum.inl (x8, (s1.2 + 1)), σ7)))) jd_fu (0, 0) σ) fun t2 σ2 =>
some (t2, σ2)
set_option maxHeartbeats 4000000 in
set_option maxRecDepth 20000 in
theorem c_X13_reachedBy {l : Launch} {s0 : State} {G : jd_G} (hF : jd_F s0 G) (σ : jd_Hp) (t : Nat) (ht : σ.1[t]? = some (13, 29)) (x0p : Int32) : jd_M l s0 G yX13_reachedBy cX13_reachedBy 4 (some .int) 3 je_i [jd_v G (some t), .int x0p] σ (m_X13_reachedBy t x0p σ) := by
  refine jd_enter hF (by decide) (fun G => [some (jd_v G (some t)), some (.int x0p), none, none]) rfl (by simp [lv_args, jd_al, jd_v_cat, jd_cti, jd_ctl]) (by simp [lg_sl, jd_v_cat, jd_cti, jd_ctl]) (fun X hD hX => ?_)
  have hX : jd_C X RX13 "reachedBy" cX13_reachedBy 4 (some .int) := hX
  unfold m_X13_reachedBy
  refine jr_iconst (pc := 0) hX 0 rfl dX13_reachedBy_0 ?_
  refine jr_ist2 (pc := 1) hX (jn_i _) dX13_reachedBy_1 ?_
  refine jr_iconst (pc := 2) hX 0 rfl dX13_reachedBy_2 ?_
  refine jr_ist3 (pc := 3) hX (jn_i _) dX13_reachedBy_3 ?_
  refine jr_loop (pc := 4) (fun (s1 : Int32 × Int32) => [some (jd_v (jd_gG X) (some t)), some (.int x0p), some (.int s1.1), some (.int s1.2)]) (fun (t2 : Int32) => [none, none, some (.int t2), none]) 41 (0, 0) (fun t2 σ2 => ?_) (fun K1 bk1 ex1 s1 σ1 => ?_)
  · refine jr_ild2 (pc := 41) hX dX13_reachedBy_41 ?_
    exact jr_iret (pc := 42) hX dX13_reachedBy_42 rfl
  · refine jr_ild3 (pc := 4) hX dX13_reachedBy_4 ?_
    refine jr_ald0 (pc := 5) hX dX13_reachedBy_5 ?_
    refine jr_ck0 (fun a3 e3 h3 => ?_)
    refine jr_getr (pc := 6) hX fX13_289 rfl dX13_reachedBy_6 h3 ?_
    refine jr_ck0 (fun a4 e4 h4 => ?_)
    refine jr_getiN (pc := 9) hX fX13_253 rfl dX13_reachedBy_9 h4 ?_
    refine jr_icge (pc := 12) hX 41 dX13_reachedBy_12 (by decide) ?_ ?_
    · refine jr_wk [false, false, true, false] ?_
      exact ex1 s1.1 _
    · refine jr_ild2 (pc := 15) hX dX13_reachedBy_15 ?_
      refine jr_ild1 (pc := 16) hX dX13_reachedBy_16 ?_
      refine jr_ild3 (pc := 17) hX dX13_reachedBy_17 ?_
      refine jr_cS2i (pc := 18) hX lX13_267 (c_X13_bit hX.F σ1 _ _) (jd_dd hD rfl) (Nat.le_of_ble_eq_true rfl) dX13_reachedBy_18 (fun r5 σ5 p5 => ?_)
      refine jr_ifeq (pc := 21) hX 32 dX13_reachedBy_21 (by decide) ?_ ?_
      · refine jr_iconst (pc := 32) hX 0 rfl dX13_reachedBy_32 ?_
        refine jr_ior (pc := 33) hX dX13_reachedBy_33 ?_
        refine jr_ist2 (pc := 34) hX (jn_i _) dX13_reachedBy_34 ?_
        refine jr_li ?_
        refine jr_inc3 (pc := 35) hX 1 rfl (jn_i _) dX13_reachedBy_35 ?_
        refine jr_goto (pc := 38) hX 4 dX13_reachedBy_38 (by decide) ?_
        exact bk1 ((s1.1 ||| 0), (s1.2 + 1)) _
      · refine jr_ald0 (pc := 24) hX dX13_reachedBy_24 ?_
        refine jr_ild3 (pc := 25) hX dX13_reachedBy_25 ?_
        refine jr_ek1 e3 ?_
        refine jr_cV1i (pc := 26) hX lX13_312 (c_X13_reaches hX.F σ5 a3 (p5.at h3 :) _) (jd_dd hD rfl) (Nat.le_of_ble_eq_true rfl) dX13_reachedBy_26 (p5.at h3 :) (fun r7 σ7 p7 => ?_)
        refine jr_goto (pc := 29) hX 33 dX13_reachedBy_29 (by decide) ?_
        refine jr_ior (pc := 33) hX dX13_reachedBy_33 ?_
        refine jr_ist2 (pc := 34) hX (jn_i _) dX13_reachedBy_34 ?_
        refine jr_li ?_
        refine jr_inc3 (pc := 35) hX 1 rfl (jn_i _) dX13_reachedBy_35 ?_
        refine jr_goto (pc := 38) hX 4 dX13_reachedBy_38 (by decide) ?_
        exact bk1 ((s1.1 ||| r7), (s1.2 + 1)) _
def m_X13_unreached (t : Nat) (σ : jd_Hp) : Option (Int32 × jd_Hp) :=
jd_b (m_X13_sinkersNow t σ) fun r1 σ1 =>
jd_ia σ1 20 (σ1.2.2.2 t 16) 6 fun a2 j2 =>
jd_b (m_X13_reachedBy t (σ1.2.1 a2 j2) σ1) fun r3 σ3 =>
some ((r1 &&& (r3 ^^^ (-1))), σ3)
set_option maxHeartbeats 4000000 in
set_option maxRecDepth 20000 in
theorem c_X13_unreached {l : Launch} {s0 : State} {G : jd_G} (hF : jd_F s0 G) (σ : jd_Hp) (t : Nat) (ht : σ.1[t]? = some (13, 29)) : jd_M l s0 G yX13_unreached cX13_unreached 1 (some .int) 4 je_i [jd_v G (some t)] σ (m_X13_unreached t σ) := by
  refine jd_enter hF (by decide) (fun G => [some (jd_v G (some t))]) rfl (by simp [lv_args, jd_al, jd_v_cat, jd_cti, jd_ctl]) (by simp [lg_sl, jd_v_cat, jd_cti, jd_ctl]) (fun X hD hX => ?_)
  have hX : jd_C X RX13 "unreached" cX13_unreached 1 (some .int) := hX
  unfold m_X13_unreached
  refine jr_ald0 (pc := 0) hX dX13_unreached_0 ?_
  refine jr_cV0i (pc := 1) hX lX13_315 (c_X13_sinkersNow hX.F σ t ht) (jd_dd hD rfl) (Nat.le_of_ble_eq_true rfl) dX13_unreached_1 ht (fun r1 σ1 p1 => ?_)
  refine jr_ald0 (pc := 4) hX dX13_unreached_4 ?_
  refine jr_ald0 (pc := 5) hX dX13_unreached_5 ?_
  refine jr_getr (pc := 6) hX fX13_21 rfl dX13_unreached_6 (p1.at ht :) ?_
  refine jr_bipush (pc := 9) hX 6 rfl dX13_unreached_9 ?_
  refine jr_iaC (pc := 11) hX dX13_unreached_11 (fun a2 n2 e2 h2 => ?_)
  refine jr_cV1i (pc := 12) hX lX13_318 (c_X13_reachedBy hX.F σ1 t (p1.at ht :) _) (jd_dd hD rfl) (Nat.le_of_ble_eq_true rfl) dX13_unreached_12 (p1.at ht :) (fun r3 σ3 p3 => ?_)
  refine jr_iconst (pc := 15) hX (-1) rfl dX13_unreached_15 ?_
  refine jr_ixor (pc := 16) hX dX13_unreached_16 ?_
  refine jr_iand (pc := 17) hX dX13_unreached_17 ?_
  exact jr_iret (pc := 18) hX dX13_unreached_18 rfl
def m_X13_underAt (t : Nat) (x0p : Int32) (σ : jd_Hp) : Option (Int32 × jd_Hp) :=
jd_b (jd_lp (S := Int32 × Int32) (T := Int32) (fun s1 σ1 =>
jd_o σ1 (13, 29) (some t) fun a3 =>
jd_o σ1 (12, 20) (σ1.2.2.2 a3 3) fun a4 =>
jd_if ((σ1.2.1 a4 3) ≤ s1.2) (
some ((Sum.inr s1.1), σ1)) (
jd_b (m_X13_sinksAt a3 s1.2 σ1) fun r5 σ5 =>
jd_if (x0p < r5) (
jd_li (s1.1 ||| 0) fun x6 =>
some (Sum.inl (x6, (s1.2 + 1)), σ5)) (
jd_b (m_X13_sinksAt a3 s1.2 σ5) fun r7 σ7 =>
jd_o σ7 (12, 20) (σ7.2.2.2 a3 3) fun a8 =>
jd_if ((r7 + (σ7.2.1 a8 0)) ≤ x0p) (
jd_li (s1.1 ||| 0) fun x9 =>
some (Sum.inl (x9, (s1.2 + 1)), σ7)) (
jd_li (s1.1 ||| (1 <<< (s1.2 &&& 31))) fun x10 =>
some (Sum.inl (x10, (s1.2 + 1)), σ7))))) jd_fu (0, 0) σ) fun t2 σ2 =>
some (t2, σ2)
set_option maxHeartbeats 4000000 in
set_option maxRecDepth 20000 in
theorem c_X13_underAt {l : Launch} {s0 : State} {G : jd_G} (hF : jd_F s0 G) (σ : jd_Hp) (t : Nat) (ht : σ.1[t]? = some (13, 29)) (x0p : Int32) : jd_M l s0 G yX13_underAt cX13_underAt 4 (some .int) 3 je_i [jd_v G (some t), .int x0p] σ (m_X13_underAt t x0p σ) := by
  refine jd_enter hF (by decide) (fun G => [some (jd_v G (some t)), some (.int x0p), none, none]) rfl (by simp [lv_args, jd_al, jd_v_cat, jd_cti, jd_ctl]) (by simp [lg_sl, jd_v_cat, jd_cti, jd_ctl]) (fun X hD hX => ?_)
  have hX : jd_C X RX13 "underAt" cX13_underAt 4 (some .int) := hX
  unfold m_X13_underAt
  refine jr_iconst (pc := 0) hX 0 rfl dX13_underAt_0 ?_
  refine jr_ist2 (pc := 1) hX (jn_i _) dX13_underAt_1 ?_
  refine jr_iconst (pc := 2) hX 0 rfl dX13_underAt_2 ?_
  refine jr_ist3 (pc := 3) hX (jn_i _) dX13_underAt_3 ?_
  refine jr_loop (pc := 4) (fun (s1 : Int32 × Int32) => [some (jd_v (jd_gG X) (some t)), some (.int x0p), some (.int s1.1), some (.int s1.2)]) (fun (t2 : Int32) => [none, none, some (.int t2), none]) 57 (0, 0) (fun t2 σ2 => ?_) (fun K1 bk1 ex1 s1 σ1 => ?_)
  · refine jr_ild2 (pc := 57) hX dX13_underAt_57 ?_
    exact jr_iret (pc := 58) hX dX13_underAt_58 rfl
  · refine jr_ild3 (pc := 4) hX dX13_underAt_4 ?_
    refine jr_ald0 (pc := 5) hX dX13_underAt_5 ?_
    refine jr_ck0 (fun a3 e3 h3 => ?_)
    refine jr_getr (pc := 6) hX fX13_289 rfl dX13_underAt_6 h3 ?_
    refine jr_ck0 (fun a4 e4 h4 => ?_)
    refine jr_getiN (pc := 9) hX fX13_185 rfl dX13_underAt_9 h4 ?_
    refine jr_icge (pc := 12) hX 57 dX13_underAt_12 (by decide) ?_ ?_
    · refine jr_wk [false, false, true, false] ?_
      exact ex1 s1.1 _
    · refine jr_ild2 (pc := 15) hX dX13_underAt_15 ?_
      refine jr_ald0 (pc := 16) hX dX13_underAt_16 ?_
      refine jr_ild3 (pc := 17) hX dX13_underAt_17 ?_
      refine jr_ek1 e3 ?_
      refine jr_cV1i (pc := 18) hX lX13_306 (c_X13_sinksAt hX.F σ1 a3 h3 _) (jd_dd hD rfl) (Nat.le_of_ble_eq_true rfl) dX13_underAt_18 h3 (fun r5 σ5 p5 => ?_)
      refine jr_ild1 (pc := 21) hX dX13_underAt_21 ?_
      refine jr_icgt (pc := 22) hX 48 dX13_underAt_22 (by decide) ?_ ?_
      · refine jr_iconst (pc := 48) hX 0 rfl dX13_underAt_48 ?_
        refine jr_ior (pc := 49) hX dX13_underAt_49 ?_
        refine jr_ist2 (pc := 50) hX (jn_i _) dX13_underAt_50 ?_
        refine jr_li ?_
        refine jr_inc3 (pc := 51) hX 1 rfl (jn_i _) dX13_underAt_51 ?_
        refine jr_goto (pc := 54) hX 4 dX13_underAt_54 (by decide) ?_
        exact bk1 ((s1.1 ||| 0), (s1.2 + 1)) _
      · refine jr_ild1 (pc := 25) hX dX13_underAt_25 ?_
        refine jr_ald0 (pc := 26) hX dX13_underAt_26 ?_
        refine jr_ild3 (pc := 27) hX dX13_underAt_27 ?_
        refine jr_ek1 e3 ?_
        refine jr_cV1i (pc := 28) hX lX13_306 (c_X13_sinksAt hX.F σ5 a3 (p5.at h3 :) _) (jd_dd hD rfl) (Nat.le_of_ble_eq_true rfl) dX13_underAt_28 (p5.at h3 :) (fun r7 σ7 p7 => ?_)
        refine jr_ald0 (pc := 31) hX dX13_underAt_31 ?_
        refine jr_ek0 e3 ?_
        refine jr_getr (pc := 32) hX fX13_289 rfl dX13_underAt_32 (p7.at (p5.at h3 :) :) ?_
        refine jr_ck0 (fun a8 e8 h8 => ?_)
        refine jr_getiN (pc := 35) hX fX13_153 rfl dX13_underAt_35 h8 ?_
        refine jr_iadd (pc := 38) hX dX13_underAt_38 ?_
        refine jr_icge (pc := 39) hX 48 dX13_underAt_39 (by decide) ?_ ?_
        · refine jr_iconst (pc := 48) hX 0 rfl dX13_underAt_48 ?_
          refine jr_ior (pc := 49) hX dX13_underAt_49 ?_
          refine jr_ist2 (pc := 50) hX (jn_i _) dX13_underAt_50 ?_
          refine jr_li ?_
          refine jr_inc3 (pc := 51) hX 1 rfl (jn_i _) dX13_underAt_51 ?_
          refine jr_goto (pc := 54) hX 4 dX13_underAt_54 (by decide) ?_
          exact bk1 ((s1.1 ||| 0), (s1.2 + 1)) _
        · refine jr_iconst (pc := 42) hX 1 rfl dX13_underAt_42 ?_
          refine jr_ild3 (pc := 43) hX dX13_underAt_43 ?_
          refine jr_ishl (pc := 44) hX dX13_underAt_44 ?_
          refine jr_goto (pc := 45) hX 49 dX13_underAt_45 (by decide) ?_
          refine jr_ior (pc := 49) hX dX13_underAt_49 ?_
          refine jr_ist2 (pc := 50) hX (jn_i _) dX13_underAt_50 ?_
          refine jr_li ?_
          refine jr_inc3 (pc := 51) hX 1 rfl (jn_i _) dX13_underAt_51 ?_
          refine jr_goto (pc := 54) hX 4 dX13_underAt_54 (by decide) ?_
          exact bk1 ((s1.1 ||| (1 <<< (s1.2 &&& 31))), (s1.2 + 1)) _
