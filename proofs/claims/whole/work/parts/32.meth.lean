theorem qX13_weightOf : Cond.instanceMethod yX13_weightOf ∈ jd_TB ∧ Cond.selects RX13 yX13_weightOf yX13_weightOf ∈ jd_TB ∧ Cond.initialized RX13 ∈ jd_TB ∧ Cond.code yX13_weightOf cX13_weightOf 6 (some .long) ∈ jd_TB ∧ jd_ds yX13_weightOf 1 := ⟨jd_mem 1786 (by decide +kernel) (by decide +kernel), jd_mem 76 (by decide +kernel) (by decide +kernel), jd_mem 104 (by decide +kernel) (by decide +kernel), jd_mem 1787 (by decide +kernel) (by decide +kernel), ⟨by decide, by decide, by decide +kernel⟩⟩
theorem lX13_370 : jd_mv RX13 370 13 29 yX13_weightOf cX13_weightOf 6 (some .long) 1 := ⟨_, _, rfl, by decide, rfl, Or.inl (jd_mem 1784 (by decide +kernel) (by decide +kernel)), qX13_weightOf.1, qX13_weightOf.2.1, qX13_weightOf.2.2.1, qX13_weightOf.2.2.2.1, qX13_weightOf.2.2.2.2, by decide⟩
theorem qX13_everybody : Cond.instanceMethod yX13_everybody ∈ jd_TB ∧ Cond.selects RX13 yX13_everybody yX13_everybody ∈ jd_TB ∧ Cond.initialized RX13 ∈ jd_TB ∧ Cond.code yX13_everybody cX13_everybody 1 (some .int) ∈ jd_TB ∧ jd_ds yX13_everybody 0 := ⟨jd_mem 1790 (by decide +kernel) (by decide +kernel), jd_mem 77 (by decide +kernel) (by decide +kernel), jd_mem 104 (by decide +kernel) (by decide +kernel), jd_mem 1791 (by decide +kernel) (by decide +kernel), ⟨by decide, by decide, by decide +kernel⟩⟩
theorem lX13_374 : jd_mv RX13 374 13 29 yX13_everybody cX13_everybody 1 (some .int) 0 := ⟨_, _, rfl, by decide, rfl, Or.inl (jd_mem 1788 (by decide +kernel) (by decide +kernel)), qX13_everybody.1, qX13_everybody.2.1, qX13_everybody.2.2.1, qX13_everybody.2.2.2.1, qX13_everybody.2.2.2.2, by decide⟩
theorem qX13_weightOfAll : Cond.instanceMethod yX13_weightOfAll ∈ jd_TB ∧ Cond.selects RX13 yX13_weightOfAll yX13_weightOfAll ∈ jd_TB ∧ Cond.initialized RX13 ∈ jd_TB ∧ Cond.code yX13_weightOfAll cX13_weightOfAll 5 (some .long) ∈ jd_TB ∧ jd_ds yX13_weightOfAll 1 := ⟨jd_mem 1794 (by decide +kernel) (by decide +kernel), jd_mem 78 (by decide +kernel) (by decide +kernel), jd_mem 104 (by decide +kernel) (by decide +kernel), jd_mem 1795 (by decide +kernel) (by decide +kernel), ⟨by decide, by decide, by decide +kernel⟩⟩
theorem lX13_377 : jd_mv RX13 377 13 29 yX13_weightOfAll cX13_weightOfAll 5 (some .long) 1 := ⟨_, _, rfl, by decide, rfl, Or.inl (jd_mem 1792 (by decide +kernel) (by decide +kernel)), qX13_weightOfAll.1, qX13_weightOfAll.2.1, qX13_weightOfAll.2.2.1, qX13_weightOfAll.2.2.2.1, qX13_weightOfAll.2.2.2.2, by decide⟩
theorem qX13_fraction : Cond.instanceMethod yX13_fraction ∈ jd_TB ∧ Cond.selects RX13 yX13_fraction yX13_fraction ∈ jd_TB ∧ Cond.initialized RX13 ∈ jd_TB ∧ Cond.code yX13_fraction cX13_fraction 6 (some .long) ∈ jd_TB ∧ jd_ds yX13_fraction 3 := ⟨jd_mem 1798 (by decide +kernel) (by decide +kernel), jd_mem 79 (by decide +kernel) (by decide +kernel), jd_mem 104 (by decide +kernel) (by decide +kernel), jd_mem 1799 (by decide +kernel) (by decide +kernel), ⟨by decide, by decide, by decide +kernel⟩⟩
theorem lX13_380 : jd_mv RX13 380 13 29 yX13_fraction cX13_fraction 6 (some .long) 3 := ⟨_, _, rfl, by decide, rfl, Or.inl (jd_mem 1796 (by decide +kernel) (by decide +kernel)), qX13_fraction.1, qX13_fraction.2.1, qX13_fraction.2.2.1, qX13_fraction.2.2.2.1, qX13_fraction.2.2.2.2, by decide⟩
theorem kX13_384 : Cond.constantLong RX13 384 2 ∈ jd_TB := jd_mem 1815 (by decide +kernel) (by decide +kernel)
theorem qX13_knownBy : Cond.instanceMethod yX13_knownBy ∈ jd_TB ∧ Cond.selects RX13 yX13_knownBy yX13_knownBy ∈ jd_TB ∧ Cond.initialized RX13 ∈ jd_TB ∧ Cond.code yX13_knownBy cX13_knownBy 4 (some .int) ∈ jd_TB ∧ jd_ds yX13_knownBy 1 := ⟨jd_mem 1826 (by decide +kernel) (by decide +kernel), jd_mem 80 (by decide +kernel) (by decide +kernel), jd_mem 104 (by decide +kernel) (by decide +kernel), jd_mem 1827 (by decide +kernel) (by decide +kernel), ⟨by decide, by decide, by decide +kernel⟩⟩
theorem lX13_386 : jd_mv RX13 386 13 29 yX13_knownBy cX13_knownBy 4 (some .int) 1 := ⟨_, _, rfl, by decide, rfl, Or.inl (jd_mem 1824 (by decide +kernel) (by decide +kernel)), qX13_knownBy.1, qX13_knownBy.2.1, qX13_knownBy.2.2.1, qX13_knownBy.2.2.2.1, qX13_knownBy.2.2.2.2, by decide⟩
theorem dX13_weightOfAll_0 : decode cX13_weightOfAll 0 = .ok (.lconst 0, 1) := by decide +kernel
theorem dX13_weightOfAll_1 : decode cX13_weightOfAll 1 = .ok (.lstore_n 2, 1) := by decide +kernel
theorem dX13_weightOfAll_2 : decode cX13_weightOfAll 2 = .ok (.iconst 0, 1) := by decide +kernel
theorem dX13_weightOfAll_3 : decode cX13_weightOfAll 3 = .ok (.istore 4, 2) := by decide +kernel
theorem dX13_weightOfAll_5 : decode cX13_weightOfAll 5 = .ok (.iload 4, 2) := by decide +kernel
theorem dX13_weightOfAll_7 : decode cX13_weightOfAll 7 = .ok (.aload_n 0, 1) := by decide +kernel
theorem dX13_weightOfAll_8 : decode cX13_weightOfAll 8 = .ok (.getfield 289, 3) := by decide +kernel
theorem dX13_weightOfAll_11 : decode cX13_weightOfAll 11 = .ok (.getfield 185, 3) := by decide +kernel
theorem dX13_weightOfAll_14 : decode cX13_weightOfAll 14 = .ok (.if_icmp .ge 31, 3) := by decide +kernel
theorem dX13_weightOfAll_17 : decode cX13_weightOfAll 17 = .ok (.lload_n 2, 1) := by decide +kernel
theorem dX13_weightOfAll_18 : decode cX13_weightOfAll 18 = .ok (.iload_n 1, 1) := by decide +kernel
theorem dX13_weightOfAll_19 : decode cX13_weightOfAll 19 = .ok (.iload 4, 2) := by decide +kernel
theorem dX13_weightOfAll_21 : decode cX13_weightOfAll 21 = .ok (.invokestatic 267, 3) := by decide +kernel
theorem dX13_weightOfAll_24 : decode cX13_weightOfAll 24 = .ok (.ifCond .eq 12, 3) := by decide +kernel
theorem dX13_weightOfAll_27 : decode cX13_weightOfAll 27 = .ok (.aload_n 0, 1) := by decide +kernel
theorem dX13_weightOfAll_28 : decode cX13_weightOfAll 28 = .ok (.iload 4, 2) := by decide +kernel
theorem dX13_weightOfAll_30 : decode cX13_weightOfAll 30 = .ok (.invokevirtual 370, 3) := by decide +kernel
theorem dX13_weightOfAll_33 : decode cX13_weightOfAll 33 = .ok (.goto 4, 3) := by decide +kernel
theorem dX13_weightOfAll_36 : decode cX13_weightOfAll 36 = .ok (.lconst 0, 1) := by decide +kernel
theorem dX13_weightOfAll_37 : decode cX13_weightOfAll 37 = .ok (.ladd, 1) := by decide +kernel
theorem dX13_weightOfAll_38 : decode cX13_weightOfAll 38 = .ok (.lstore_n 2, 1) := by decide +kernel
theorem dX13_weightOfAll_39 : decode cX13_weightOfAll 39 = .ok (.iinc 4 1, 3) := by decide +kernel
theorem dX13_weightOfAll_42 : decode cX13_weightOfAll 42 = .ok (.goto (-37), 3) := by decide +kernel
theorem dX13_weightOfAll_45 : decode cX13_weightOfAll 45 = .ok (.lload_n 2, 1) := by decide +kernel
theorem dX13_weightOfAll_46 : decode cX13_weightOfAll 46 = .ok (.lreturn, 1) := by decide +kernel
theorem dX13_everybody_0 : decode cX13_everybody 0 = .ok (.iconst 1, 1) := by decide +kernel
theorem dX13_everybody_1 : decode cX13_everybody 1 = .ok (.aload_n 0, 1) := by decide +kernel
theorem dX13_everybody_2 : decode cX13_everybody 2 = .ok (.getfield 289, 3) := by decide +kernel
theorem dX13_everybody_5 : decode cX13_everybody 5 = .ok (.getfield 185, 3) := by decide +kernel
theorem dX13_everybody_8 : decode cX13_everybody 8 = .ok (.ishl, 1) := by decide +kernel
theorem dX13_everybody_9 : decode cX13_everybody 9 = .ok (.iconst 1, 1) := by decide +kernel
theorem dX13_everybody_10 : decode cX13_everybody 10 = .ok (.isub, 1) := by decide +kernel
theorem dX13_everybody_11 : decode cX13_everybody 11 = .ok (.ireturn, 1) := by decide +kernel
theorem dX13_odds_0 : decode cX13_odds 0 = .ok (.aload_n 0, 1) := by decide +kernel
theorem dX13_odds_1 : decode cX13_odds 1 = .ok (.iconst 0, 1) := by decide +kernel
theorem dX13_odds_2 : decode cX13_odds 2 = .ok (.putfield 48, 3) := by decide +kernel
theorem dX13_odds_5 : decode cX13_odds 5 = .ok (.aload_n 0, 1) := by decide +kernel
theorem dX13_odds_6 : decode cX13_odds 6 = .ok (.iload_n 1, 1) := by decide +kernel
theorem dX13_odds_7 : decode cX13_odds 7 = .ok (.invokevirtual 321, 3) := by decide +kernel
theorem dX13_odds_10 : decode cX13_odds 10 = .ok (.ifCond .eq 24, 3) := by decide +kernel
theorem dX13_odds_13 : decode cX13_odds 13 = .ok (.aload_n 0, 1) := by decide +kernel
theorem dX13_odds_14 : decode cX13_odds 14 = .ok (.aload_n 0, 1) := by decide +kernel
theorem dX13_odds_15 : decode cX13_odds 15 = .ok (.iload_n 1, 1) := by decide +kernel
theorem dX13_odds_16 : decode cX13_odds 16 = .ok (.invokevirtual 370, 3) := by decide +kernel
theorem dX13_odds_19 : decode cX13_odds 19 = .ok (.aload_n 0, 1) := by decide +kernel
theorem dX13_odds_20 : decode cX13_odds 20 = .ok (.aload_n 0, 1) := by decide +kernel
theorem dX13_odds_21 : decode cX13_odds 21 = .ok (.invokevirtual 374, 3) := by decide +kernel
theorem dX13_odds_24 : decode cX13_odds 24 = .ok (.invokevirtual 377, 3) := by decide +kernel
theorem dX13_odds_27 : decode cX13_odds 27 = .ok (.iload_n 2, 1) := by decide +kernel
theorem dX13_odds_28 : decode cX13_odds 28 = .ok (.invokevirtual 380, 3) := by decide +kernel
theorem dX13_odds_31 : decode cX13_odds 31 = .ok (.goto 9, 3) := by decide +kernel
theorem dX13_odds_34 : decode cX13_odds 34 = .ok (.aload_n 0, 1) := by decide +kernel
theorem dX13_odds_35 : decode cX13_odds 35 = .ok (.iconst 1, 1) := by decide +kernel
theorem dX13_odds_36 : decode cX13_odds 36 = .ok (.invokevirtual 54, 3) := by decide +kernel
theorem dX13_odds_39 : decode cX13_odds 39 = .ok (.i2l, 1) := by decide +kernel
theorem dX13_odds_40 : decode cX13_odds 40 = .ok (.lreturn, 1) := by decide +kernel
theorem dX13_likeliest_0 : decode cX13_likeliest 0 = .ok (.aload_n 0, 1) := by decide +kernel
theorem dX13_likeliest_1 : decode cX13_likeliest 1 = .ok (.iconst 0, 1) := by decide +kernel
theorem dX13_likeliest_2 : decode cX13_likeliest 2 = .ok (.putfield 48, 3) := by decide +kernel
theorem dX13_likeliest_5 : decode cX13_likeliest 5 = .ok (.aload_n 0, 1) := by decide +kernel
theorem dX13_likeliest_6 : decode cX13_likeliest 6 = .ok (.getfield 289, 3) := by decide +kernel
theorem dX13_likeliest_9 : decode cX13_likeliest 9 = .ok (.ifnonnull 9, 3) := by decide +kernel
theorem dX13_likeliest_12 : decode cX13_likeliest 12 = .ok (.aload_n 0, 1) := by decide +kernel
theorem dX13_likeliest_13 : decode cX13_likeliest 13 = .ok (.iconst 1, 1) := by decide +kernel
theorem dX13_likeliest_14 : decode cX13_likeliest 14 = .ok (.invokevirtual 54, 3) := by decide +kernel
theorem dX13_likeliest_17 : decode cX13_likeliest 17 = .ok (.ireturn, 1) := by decide +kernel
theorem dX13_likeliest_18 : decode cX13_likeliest 18 = .ok (.bipush (-2), 2) := by decide +kernel
theorem dX13_likeliest_20 : decode cX13_likeliest 20 = .ok (.istore_n 1, 1) := by decide +kernel
theorem dX13_likeliest_21 : decode cX13_likeliest 21 = .ok (.lconst 0, 1) := by decide +kernel
theorem dX13_likeliest_22 : decode cX13_likeliest 22 = .ok (.lstore_n 2, 1) := by decide +kernel
theorem dX13_likeliest_23 : decode cX13_likeliest 23 = .ok (.iconst 0, 1) := by decide +kernel
theorem dX13_likeliest_24 : decode cX13_likeliest 24 = .ok (.istore 4, 2) := by decide +kernel
theorem dX13_likeliest_26 : decode cX13_likeliest 26 = .ok (.iload 4, 2) := by decide +kernel
theorem dX13_likeliest_28 : decode cX13_likeliest 28 = .ok (.aload_n 0, 1) := by decide +kernel
theorem dX13_likeliest_29 : decode cX13_likeliest 29 = .ok (.getfield 289, 3) := by decide +kernel
theorem dX13_likeliest_32 : decode cX13_likeliest 32 = .ok (.getfield 185, 3) := by decide +kernel
theorem dX13_likeliest_35 : decode cX13_likeliest 35 = .ok (.if_icmp .ge 33, 3) := by decide +kernel
theorem dX13_likeliest_38 : decode cX13_likeliest 38 = .ok (.aload_n 0, 1) := by decide +kernel
theorem dX13_likeliest_39 : decode cX13_likeliest 39 = .ok (.iload 4, 2) := by decide +kernel
theorem dX13_likeliest_41 : decode cX13_likeliest 41 = .ok (.invokevirtual 370, 3) := by decide +kernel
theorem dX13_likeliest_44 : decode cX13_likeliest 44 = .ok (.lload_n 2, 1) := by decide +kernel
theorem dX13_likeliest_45 : decode cX13_likeliest 45 = .ok (.lcmp, 1) := by decide +kernel
theorem dX13_likeliest_46 : decode cX13_likeliest 46 = .ok (.ifCond .gt 6, 3) := by decide +kernel
theorem dX13_likeliest_49 : decode cX13_likeliest 49 = .ok (.goto 13, 3) := by decide +kernel
theorem dX13_likeliest_52 : decode cX13_likeliest 52 = .ok (.aload_n 0, 1) := by decide +kernel
theorem dX13_likeliest_53 : decode cX13_likeliest 53 = .ok (.iload 4, 2) := by decide +kernel
theorem dX13_likeliest_55 : decode cX13_likeliest 55 = .ok (.invokevirtual 370, 3) := by decide +kernel
theorem dX13_likeliest_58 : decode cX13_likeliest 58 = .ok (.lstore_n 2, 1) := by decide +kernel
theorem dX13_likeliest_59 : decode cX13_likeliest 59 = .ok (.iload 4, 2) := by decide +kernel
theorem dX13_likeliest_61 : decode cX13_likeliest 61 = .ok (.istore_n 1, 1) := by decide +kernel
theorem dX13_likeliest_62 : decode cX13_likeliest 62 = .ok (.iinc 4 1, 3) := by decide +kernel
theorem dX13_likeliest_65 : decode cX13_likeliest 65 = .ok (.goto (-39), 3) := by decide +kernel
theorem dX13_likeliest_68 : decode cX13_likeliest 68 = .ok (.aload_n 0, 1) := by decide +kernel
theorem dX13_likeliest_69 : decode cX13_likeliest 69 = .ok (.iload_n 1, 1) := by decide +kernel
theorem dX13_likeliest_70 : decode cX13_likeliest 70 = .ok (.invokevirtual 58, 3) := by decide +kernel
theorem dX13_likeliest_73 : decode cX13_likeliest 73 = .ok (.ireturn, 1) := by decide +kernel
theorem dX13_among_0 : decode cX13_among 0 = .ok (.aload_n 0, 1) := by decide +kernel
theorem dX13_among_1 : decode cX13_among 1 = .ok (.iconst 0, 1) := by decide +kernel
theorem dX13_among_2 : decode cX13_among 2 = .ok (.putfield 48, 3) := by decide +kernel
theorem dX13_among_5 : decode cX13_among 5 = .ok (.aload_n 0, 1) := by decide +kernel
theorem dX13_among_6 : decode cX13_among 6 = .ok (.getfield 289, 3) := by decide +kernel
theorem dX13_among_9 : decode cX13_among 9 = .ok (.ifnull 15, 3) := by decide +kernel
theorem dX13_among_12 : decode cX13_among 12 = .ok (.iload_n 1, 1) := by decide +kernel
theorem dX13_among_13 : decode cX13_among 13 = .ok (.iconst 0, 1) := by decide +kernel
theorem dX13_among_14 : decode cX13_among 14 = .ok (.aload_n 0, 1) := by decide +kernel
theorem dX13_among_15 : decode cX13_among 15 = .ok (.invokevirtual 374, 3) := by decide +kernel
theorem dX13_among_18 : decode cX13_among 18 = .ok (.invokestatic 131, 3) := by decide +kernel
theorem dX13_among_21 : decode cX13_among 21 = .ok (.ifCond .ne 10, 3) := by decide +kernel
theorem dX13_among_24 : decode cX13_among 24 = .ok (.aload_n 0, 1) := by decide +kernel
theorem dX13_among_25 : decode cX13_among 25 = .ok (.iconst 1, 1) := by decide +kernel
theorem dX13_among_26 : decode cX13_among 26 = .ok (.invokevirtual 54, 3) := by decide +kernel
theorem dX13_among_29 : decode cX13_among 29 = .ok (.i2l, 1) := by decide +kernel
theorem dX13_among_30 : decode cX13_among 30 = .ok (.lreturn, 1) := by decide +kernel
theorem dX13_among_31 : decode cX13_among 31 = .ok (.aload_n 0, 1) := by decide +kernel
theorem dX13_among_32 : decode cX13_among 32 = .ok (.aload_n 0, 1) := by decide +kernel
theorem dX13_among_33 : decode cX13_among 33 = .ok (.iload_n 1, 1) := by decide +kernel
theorem dX13_among_34 : decode cX13_among 34 = .ok (.invokevirtual 377, 3) := by decide +kernel
theorem dX13_among_37 : decode cX13_among 37 = .ok (.aload_n 0, 1) := by decide +kernel
theorem dX13_among_38 : decode cX13_among 38 = .ok (.aload_n 0, 1) := by decide +kernel
theorem dX13_among_39 : decode cX13_among 39 = .ok (.invokevirtual 374, 3) := by decide +kernel
theorem dX13_among_42 : decode cX13_among 42 = .ok (.invokevirtual 377, 3) := by decide +kernel
theorem dX13_among_45 : decode cX13_among 45 = .ok (.iload_n 2, 1) := by decide +kernel
theorem dX13_among_46 : decode cX13_among 46 = .ok (.invokevirtual 380, 3) := by decide +kernel
theorem dX13_among_49 : decode cX13_among 49 = .ok (.lreturn, 1) := by decide +kernel
theorem dX13_suspects_0 : decode cX13_suspects 0 = .ok (.aload_n 0, 1) := by decide +kernel
theorem dX13_suspects_1 : decode cX13_suspects 1 = .ok (.iconst 0, 1) := by decide +kernel
theorem dX13_suspects_2 : decode cX13_suspects 2 = .ok (.putfield 48, 3) := by decide +kernel
theorem dX13_suspects_5 : decode cX13_suspects 5 = .ok (.aload_n 0, 1) := by decide +kernel
theorem dX13_suspects_6 : decode cX13_suspects 6 = .ok (.getfield 289, 3) := by decide +kernel
theorem dX13_suspects_9 : decode cX13_suspects 9 = .ok (.ifnonnull 9, 3) := by decide +kernel
theorem dX13_suspects_12 : decode cX13_suspects 12 = .ok (.aload_n 0, 1) := by decide +kernel
theorem dX13_suspects_13 : decode cX13_suspects 13 = .ok (.iconst 1, 1) := by decide +kernel
theorem dX13_suspects_14 : decode cX13_suspects 14 = .ok (.invokevirtual 54, 3) := by decide +kernel
theorem dX13_suspects_17 : decode cX13_suspects 17 = .ok (.ireturn, 1) := by decide +kernel
theorem dX13_suspects_18 : decode cX13_suspects 18 = .ok (.aload_n 0, 1) := by decide +kernel
theorem dX13_suspects_19 : decode cX13_suspects 19 = .ok (.aload_n 0, 1) := by decide +kernel
theorem dX13_suspects_20 : decode cX13_suspects 20 = .ok (.invokevirtual 374, 3) := by decide +kernel
theorem dX13_suspects_23 : decode cX13_suspects 23 = .ok (.invokevirtual 377, 3) := by decide +kernel
theorem dX13_suspects_26 : decode cX13_suspects 26 = .ok (.lstore_n 1, 1) := by decide +kernel
theorem dX13_suspects_27 : decode cX13_suspects 27 = .ok (.bipush (-2), 2) := by decide +kernel
theorem dX13_suspects_29 : decode cX13_suspects 29 = .ok (.istore_n 3, 1) := by decide +kernel
theorem dX13_suspects_30 : decode cX13_suspects 30 = .ok (.iconst 0, 1) := by decide +kernel
theorem dX13_suspects_31 : decode cX13_suspects 31 = .ok (.istore 4, 2) := by decide +kernel
theorem dX13_suspects_33 : decode cX13_suspects 33 = .ok (.iload 4, 2) := by decide +kernel
theorem dX13_suspects_35 : decode cX13_suspects 35 = .ok (.aload_n 0, 1) := by decide +kernel
theorem dX13_suspects_36 : decode cX13_suspects 36 = .ok (.invokevirtual 374, 3) := by decide +kernel
theorem dX13_suspects_39 : decode cX13_suspects 39 = .ok (.if_icmp .gt 45, 3) := by decide +kernel
theorem dX13_suspects_42 : decode cX13_suspects 42 = .ok (.iload_n 3, 1) := by decide +kernel
theorem dX13_suspects_43 : decode cX13_suspects 43 = .ok (.bipush (-2), 2) := by decide +kernel
theorem dX13_suspects_45 : decode cX13_suspects 45 = .ok (.if_icmp .eq 15, 3) := by decide +kernel
theorem dX13_suspects_48 : decode cX13_suspects 48 = .ok (.iload 4, 2) := by decide +kernel
theorem dX13_suspects_50 : decode cX13_suspects 50 = .ok (.invokestatic 303, 3) := by decide +kernel
theorem dX13_suspects_53 : decode cX13_suspects 53 = .ok (.iload_n 3, 1) := by decide +kernel
theorem dX13_suspects_54 : decode cX13_suspects 54 = .ok (.invokestatic 303, 3) := by decide +kernel
theorem dX13_suspects_57 : decode cX13_suspects 57 = .ok (.if_icmp .ge 21, 3) := by decide +kernel
theorem dX13_suspects_60 : decode cX13_suspects 60 = .ok (.ldc2_w 384, 3) := by decide +kernel
theorem dX13_suspects_63 : decode cX13_suspects 63 = .ok (.aload_n 0, 1) := by decide +kernel
theorem dX13_suspects_64 : decode cX13_suspects 64 = .ok (.iload 4, 2) := by decide +kernel
theorem dX13_suspects_66 : decode cX13_suspects 66 = .ok (.invokevirtual 377, 3) := by decide +kernel
theorem dX13_suspects_69 : decode cX13_suspects 69 = .ok (.lmul, 1) := by decide +kernel
theorem dX13_suspects_70 : decode cX13_suspects 70 = .ok (.lload_n 1, 1) := by decide +kernel
theorem dX13_suspects_71 : decode cX13_suspects 71 = .ok (.lcmp, 1) := by decide +kernel
theorem dX13_suspects_72 : decode cX13_suspects 72 = .ok (.ifCond .le 6, 3) := by decide +kernel
theorem dX13_suspects_75 : decode cX13_suspects 75 = .ok (.iload 4, 2) := by decide +kernel
theorem dX13_suspects_77 : decode cX13_suspects 77 = .ok (.istore_n 3, 1) := by decide +kernel
theorem dX13_suspects_78 : decode cX13_suspects 78 = .ok (.iinc 4 1, 3) := by decide +kernel
theorem dX13_suspects_81 : decode cX13_suspects 81 = .ok (.goto (-48), 3) := by decide +kernel
theorem dX13_suspects_84 : decode cX13_suspects 84 = .ok (.aload_n 0, 1) := by decide +kernel
theorem dX13_suspects_85 : decode cX13_suspects 85 = .ok (.iload_n 3, 1) := by decide +kernel
theorem dX13_suspects_86 : decode cX13_suspects 86 = .ok (.invokevirtual 58, 3) := by decide +kernel
theorem dX13_suspects_89 : decode cX13_suspects 89 = .ok (.ireturn, 1) := by decide +kernel
theorem dX13_flag_0 : decode cX13_flag 0 = .ok (.aload_n 0, 1) := by decide +kernel
theorem dX13_flag_1 : decode cX13_flag 1 = .ok (.iconst 0, 1) := by decide +kernel
theorem dX13_flag_2 : decode cX13_flag 2 = .ok (.putfield 48, 3) := by decide +kernel
theorem dX13_flag_5 : decode cX13_flag 5 = .ok (.aload_n 0, 1) := by decide +kernel
theorem dX13_flag_6 : decode cX13_flag 6 = .ok (.getfield 289, 3) := by decide +kernel
theorem dX13_flag_9 : decode cX13_flag 9 = .ok (.ifnonnull 9, 3) := by decide +kernel
theorem dX13_flag_12 : decode cX13_flag 12 = .ok (.aload_n 0, 1) := by decide +kernel
theorem dX13_flag_13 : decode cX13_flag 13 = .ok (.iconst 1, 1) := by decide +kernel
theorem dX13_flag_14 : decode cX13_flag 14 = .ok (.invokevirtual 54, 3) := by decide +kernel
theorem dX13_flag_17 : decode cX13_flag 17 = .ok (.ireturn, 1) := by decide +kernel
theorem dX13_flag_18 : decode cX13_flag 18 = .ok (.iload_n 1, 1) := by decide +kernel
theorem dX13_flag_19 : decode cX13_flag 19 = .ok (.iconst 1, 1) := by decide +kernel
theorem dX13_flag_20 : decode cX13_flag 20 = .ok (.bipush 6, 2) := by decide +kernel
theorem dX13_flag_22 : decode cX13_flag 22 = .ok (.invokestatic 131, 3) := by decide +kernel
theorem dX13_flag_25 : decode cX13_flag 25 = .ok (.ifCond .ne 9, 3) := by decide +kernel
theorem dX13_flag_28 : decode cX13_flag 28 = .ok (.aload_n 0, 1) := by decide +kernel
theorem dX13_flag_29 : decode cX13_flag 29 = .ok (.iconst 2, 1) := by decide +kernel
theorem dX13_flag_30 : decode cX13_flag 30 = .ok (.invokevirtual 54, 3) := by decide +kernel
theorem dX13_flag_33 : decode cX13_flag 33 = .ok (.ireturn, 1) := by decide +kernel
theorem dX13_flag_34 : decode cX13_flag 34 = .ok (.aload_n 0, 1) := by decide +kernel
theorem dX13_flag_35 : decode cX13_flag 35 = .ok (.invokevirtual 324, 3) := by decide +kernel
theorem dX13_flag_38 : decode cX13_flag 38 = .ok (.iconst 0, 1) := by decide +kernel
theorem dX13_flag_39 : decode cX13_flag 39 = .ok (.istore_n 2, 1) := by decide +kernel
theorem dX13_flag_40 : decode cX13_flag 40 = .ok (.iload_n 2, 1) := by decide +kernel
theorem dX13_flag_41 : decode cX13_flag 41 = .ok (.sipush 200, 3) := by decide +kernel
theorem dX13_flag_44 : decode cX13_flag 44 = .ok (.if_icmp .gt 61, 3) := by decide +kernel
theorem dX13_flag_47 : decode cX13_flag 47 = .ok (.iconst 0, 1) := by decide +kernel
theorem dX13_flag_48 : decode cX13_flag 48 = .ok (.istore_n 3, 1) := by decide +kernel
theorem dX13_flag_49 : decode cX13_flag 49 = .ok (.iconst 0, 1) := by decide +kernel
theorem dX13_flag_50 : decode cX13_flag 50 = .ok (.istore 4, 2) := by decide +kernel
theorem dX13_flag_52 : decode cX13_flag 52 = .ok (.iload 4, 2) := by decide +kernel
theorem dX13_flag_54 : decode cX13_flag 54 = .ok (.aload_n 0, 1) := by decide +kernel
theorem dX13_flag_55 : decode cX13_flag 55 = .ok (.getfield 289, 3) := by decide +kernel
theorem dX13_flag_58 : decode cX13_flag 58 = .ok (.getfield 185, 3) := by decide +kernel
theorem dX13_flag_61 : decode cX13_flag 61 = .ok (.if_icmp .ge 27, 3) := by decide +kernel
theorem dX13_flag_64 : decode cX13_flag 64 = .ok (.iload_n 3, 1) := by decide +kernel
theorem dX13_flag_65 : decode cX13_flag 65 = .ok (.aload_n 0, 1) := by decide +kernel
theorem dX13_flag_66 : decode cX13_flag 66 = .ok (.iload 4, 2) := by decide +kernel
theorem dX13_flag_68 : decode cX13_flag 68 = .ok (.invokevirtual 306, 3) := by decide +kernel
theorem dX13_flag_71 : decode cX13_flag 71 = .ok (.iload_n 2, 1) := by decide +kernel
theorem dX13_flag_72 : decode cX13_flag 72 = .ok (.if_icmp .gt 7, 3) := by decide +kernel
theorem dX13_flag_75 : decode cX13_flag 75 = .ok (.iconst 1, 1) := by decide +kernel
theorem dX13_flag_76 : decode cX13_flag 76 = .ok (.goto 4, 3) := by decide +kernel
theorem dX13_flag_79 : decode cX13_flag 79 = .ok (.iconst 0, 1) := by decide +kernel
theorem dX13_flag_80 : decode cX13_flag 80 = .ok (.iadd, 1) := by decide +kernel
theorem dX13_flag_81 : decode cX13_flag 81 = .ok (.istore_n 3, 1) := by decide +kernel
theorem dX13_flag_82 : decode cX13_flag 82 = .ok (.iinc 4 1, 3) := by decide +kernel
theorem dX13_flag_85 : decode cX13_flag 85 = .ok (.goto (-33), 3) := by decide +kernel
theorem dX13_flag_88 : decode cX13_flag 88 = .ok (.iload_n 3, 1) := by decide +kernel
theorem dX13_flag_89 : decode cX13_flag 89 = .ok (.iload_n 1, 1) := by decide +kernel
theorem dX13_flag_90 : decode cX13_flag 90 = .ok (.if_icmp .lt 9, 3) := by decide +kernel
theorem dX13_flag_93 : decode cX13_flag 93 = .ok (.aload_n 0, 1) := by decide +kernel
theorem dX13_flag_94 : decode cX13_flag 94 = .ok (.iload_n 2, 1) := by decide +kernel
theorem dX13_flag_95 : decode cX13_flag 95 = .ok (.invokevirtual 58, 3) := by decide +kernel
theorem dX13_flag_98 : decode cX13_flag 98 = .ok (.ireturn, 1) := by decide +kernel
theorem dX13_flag_99 : decode cX13_flag 99 = .ok (.iinc 2 1, 3) := by decide +kernel
theorem dX13_flag_102 : decode cX13_flag 102 = .ok (.goto (-62), 3) := by decide +kernel
theorem dX13_flag_105 : decode cX13_flag 105 = .ok (.aload_n 0, 1) := by decide +kernel
theorem dX13_flag_106 : decode cX13_flag 106 = .ok (.bipush (-2), 2) := by decide +kernel
theorem dX13_flag_108 : decode cX13_flag 108 = .ok (.invokevirtual 58, 3) := by decide +kernel
theorem dX13_flag_111 : decode cX13_flag 111 = .ok (.ireturn, 1) := by decide +kernel
theorem dX13_knownBy_0 : decode cX13_knownBy 0 = .ok (.iload_n 1, 1) := by decide +kernel
theorem dX13_knownBy_1 : decode cX13_knownBy 1 = .ok (.istore_n 2, 1) := by decide +kernel
theorem dX13_knownBy_2 : decode cX13_knownBy 2 = .ok (.iconst 0, 1) := by decide +kernel
theorem dX13_knownBy_3 : decode cX13_knownBy 3 = .ok (.istore_n 3, 1) := by decide +kernel
theorem dX13_knownBy_4 : decode cX13_knownBy 4 = .ok (.iload_n 3, 1) := by decide +kernel
theorem dX13_knownBy_5 : decode cX13_knownBy 5 = .ok (.aload_n 0, 1) := by decide +kernel
theorem dX13_knownBy_6 : decode cX13_knownBy 6 = .ok (.getfield 289, 3) := by decide +kernel
theorem dX13_knownBy_9 : decode cX13_knownBy 9 = .ok (.getfield 185, 3) := by decide +kernel
theorem dX13_knownBy_12 : decode cX13_knownBy 12 = .ok (.if_icmp .ge 33, 3) := by decide +kernel
theorem dX13_knownBy_15 : decode cX13_knownBy 15 = .ok (.iload_n 2, 1) := by decide +kernel
theorem dX13_knownBy_16 : decode cX13_knownBy 16 = .ok (.iload_n 1, 1) := by decide +kernel
theorem dX13_knownBy_17 : decode cX13_knownBy 17 = .ok (.iload_n 3, 1) := by decide +kernel
theorem dX13_knownBy_18 : decode cX13_knownBy 18 = .ok (.invokestatic 267, 3) := by decide +kernel
theorem dX13_knownBy_21 : decode cX13_knownBy 21 = .ok (.ifCond .eq 15, 3) := by decide +kernel
theorem dX13_knownBy_24 : decode cX13_knownBy 24 = .ok (.aload_n 0, 1) := by decide +kernel
theorem dX13_knownBy_25 : decode cX13_knownBy 25 = .ok (.getfield 289, 3) := by decide +kernel
theorem dX13_knownBy_28 : decode cX13_knownBy 28 = .ok (.getfield 274, 3) := by decide +kernel
theorem dX13_knownBy_31 : decode cX13_knownBy 31 = .ok (.iload_n 3, 1) := by decide +kernel
theorem dX13_knownBy_32 : decode cX13_knownBy 32 = .ok (.iaload, 1) := by decide +kernel
theorem dX13_knownBy_33 : decode cX13_knownBy 33 = .ok (.goto 4, 3) := by decide +kernel
theorem dX13_knownBy_36 : decode cX13_knownBy 36 = .ok (.iconst 0, 1) := by decide +kernel
theorem dX13_knownBy_37 : decode cX13_knownBy 37 = .ok (.ior, 1) := by decide +kernel
theorem dX13_knownBy_38 : decode cX13_knownBy 38 = .ok (.istore_n 2, 1) := by decide +kernel
theorem dX13_knownBy_39 : decode cX13_knownBy 39 = .ok (.iinc 3 1, 3) := by decide +kernel
theorem dX13_knownBy_42 : decode cX13_knownBy 42 = .ok (.goto (-38), 3) := by decide +kernel
theorem dX13_knownBy_45 : decode cX13_knownBy 45 = .ok (.iload_n 2, 1) := by decide +kernel
theorem dX13_knownBy_46 : decode cX13_knownBy 46 = .ok (.ireturn, 1) := by decide +kernel
theorem dX13_teach_0 : decode cX13_teach 0 = .ok (.aload_n 0, 1) := by decide +kernel
theorem dX13_teach_1 : decode cX13_teach 1 = .ok (.iconst 0, 1) := by decide +kernel
theorem dX13_teach_2 : decode cX13_teach 2 = .ok (.putfield 48, 3) := by decide +kernel
theorem dX13_teach_5 : decode cX13_teach 5 = .ok (.aload_n 0, 1) := by decide +kernel
theorem dX13_teach_6 : decode cX13_teach 6 = .ok (.getfield 289, 3) := by decide +kernel
theorem dX13_teach_9 : decode cX13_teach 9 = .ok (.ifnonnull 9, 3) := by decide +kernel
theorem dX13_teach_12 : decode cX13_teach 12 = .ok (.aload_n 0, 1) := by decide +kernel
theorem dX13_teach_13 : decode cX13_teach 13 = .ok (.iconst 1, 1) := by decide +kernel
theorem dX13_teach_14 : decode cX13_teach 14 = .ok (.invokevirtual 54, 3) := by decide +kernel
theorem dX13_teach_17 : decode cX13_teach 17 = .ok (.ireturn, 1) := by decide +kernel
theorem dX13_teach_18 : decode cX13_teach 18 = .ok (.bipush (-2), 2) := by decide +kernel
theorem dX13_teach_20 : decode cX13_teach 20 = .ok (.istore_n 1, 1) := by decide +kernel
theorem dX13_teach_21 : decode cX13_teach 21 = .ok (.iconst 0, 1) := by decide +kernel
theorem dX13_teach_22 : decode cX13_teach 22 = .ok (.istore_n 2, 1) := by decide +kernel
theorem dX13_teach_23 : decode cX13_teach 23 = .ok (.iload_n 2, 1) := by decide +kernel
theorem dX13_teach_24 : decode cX13_teach 24 = .ok (.aload_n 0, 1) := by decide +kernel
theorem dX13_teach_25 : decode cX13_teach 25 = .ok (.invokevirtual 374, 3) := by decide +kernel
theorem dX13_teach_28 : decode cX13_teach 28 = .ok (.if_icmp .gt 40, 3) := by decide +kernel
theorem dX13_teach_31 : decode cX13_teach 31 = .ok (.iload_n 1, 1) := by decide +kernel
theorem dX13_teach_32 : decode cX13_teach 32 = .ok (.bipush (-2), 2) := by decide +kernel
theorem dX13_teach_34 : decode cX13_teach 34 = .ok (.if_icmp .eq 14, 3) := by decide +kernel
theorem dX13_teach_37 : decode cX13_teach 37 = .ok (.iload_n 2, 1) := by decide +kernel
theorem dX13_teach_38 : decode cX13_teach 38 = .ok (.invokestatic 303, 3) := by decide +kernel
theorem dX13_teach_41 : decode cX13_teach 41 = .ok (.iload_n 1, 1) := by decide +kernel
theorem dX13_teach_42 : decode cX13_teach 42 = .ok (.invokestatic 303, 3) := by decide +kernel
theorem dX13_teach_45 : decode cX13_teach 45 = .ok (.if_icmp .ge 17, 3) := by decide +kernel
theorem dX13_teach_48 : decode cX13_teach 48 = .ok (.aload_n 0, 1) := by decide +kernel
theorem dX13_teach_49 : decode cX13_teach 49 = .ok (.iload_n 2, 1) := by decide +kernel
theorem dX13_teach_50 : decode cX13_teach 50 = .ok (.invokevirtual 386, 3) := by decide +kernel
theorem dX13_teach_53 : decode cX13_teach 53 = .ok (.aload_n 0, 1) := by decide +kernel
theorem dX13_teach_54 : decode cX13_teach 54 = .ok (.invokevirtual 374, 3) := by decide +kernel
theorem dX13_teach_57 : decode cX13_teach 57 = .ok (.if_icmp .ne 5, 3) := by decide +kernel
theorem dX13_teach_60 : decode cX13_teach 60 = .ok (.iload_n 2, 1) := by decide +kernel
theorem dX13_teach_61 : decode cX13_teach 61 = .ok (.istore_n 1, 1) := by decide +kernel
theorem dX13_teach_62 : decode cX13_teach 62 = .ok (.iinc 2 1, 3) := by decide +kernel
theorem dX13_teach_65 : decode cX13_teach 65 = .ok (.goto (-42), 3) := by decide +kernel
theorem dX13_teach_68 : decode cX13_teach 68 = .ok (.aload_n 0, 1) := by decide +kernel
theorem dX13_teach_69 : decode cX13_teach 69 = .ok (.iload_n 1, 1) := by decide +kernel
theorem dX13_teach_70 : decode cX13_teach 70 = .ok (.invokevirtual 58, 3) := by decide +kernel
theorem dX13_teach_73 : decode cX13_teach 73 = .ok (.ireturn, 1) := by decide +kernel
def m_X13_weightOfAll (t : Nat) (x0p : Int32) (σ : jd_Hp) : Option (Int64 × jd_Hp) :=
jd_b (jd_lp (S := Int64 × Int32) (T := Int64) (fun s1 σ1 =>
jd_o σ1 (13, 29) (some t) fun a3 =>
jd_o σ1 (12, 20) (σ1.2.2.2 a3 3) fun a4 =>
jd_if ((σ1.2.1 a4 3) ≤ s1.2) (
some ((Sum.inr s1.1), σ1)) (
jd_b (m_X13_bit x0p s1.2 σ1) fun r5 σ5 =>
jd_if (r5 = 0) (
jd_li (s1.1 + 0) fun x6 =>
some (Sum.inl (x6, (s1.2 + 1)), σ5)) (
jd_b (m_X13_weightOf a3 s1.2 σ5) fun r7 σ7 =>
jd_li (s1.1 + r7) fun x8 =>
some (Sum.inl (x8, (s1.2 + 1)), σ7)))) jd_fu (0, 0) σ) fun t2 σ2 =>
some (t2, σ2)
set_option maxHeartbeats 4000000 in
set_option maxRecDepth 20000 in
theorem c_X13_weightOfAll {l : Launch} {s0 : State} {G : jd_G} (hF : jd_F s0 G) (σ : jd_Hp) (t : Nat) (ht : σ.1[t]? = some (13, 29)) (x0p : Int32) : jd_M l s0 G yX13_weightOfAll cX13_weightOfAll 5 (some .long) 1 je_l [jd_v G (some t), .int x0p] σ (m_X13_weightOfAll t x0p σ) := by
  refine jd_enter hF (by decide) (fun G => [some (jd_v G (some t)), some (.int x0p), none, none, none]) rfl (by simp [lv_args, jd_al, jd_v_cat, jd_cti, jd_ctl]) (by simp [lg_sl, jd_v_cat, jd_cti, jd_ctl]) (fun X hD hX => ?_)
  have hX : jd_C X RX13 "weightOfAll" cX13_weightOfAll 5 (some .long) := hX
  unfold m_X13_weightOfAll
  refine jr_lconst (pc := 0) hX 0 rfl dX13_weightOfAll_0 ?_
  refine jr_lst2 (pc := 1) hX (jn_i _) dX13_weightOfAll_1 ?_
  refine jr_iconst (pc := 2) hX 0 rfl dX13_weightOfAll_2 ?_
  refine jr_ist4 (pc := 3) hX jn_n dX13_weightOfAll_3 ?_
  refine jr_loop (pc := 5) (fun (s1 : Int64 × Int32) => [some (jd_v (jd_gG X) (some t)), some (.int x0p), some (.long s1.1), none, some (.int s1.2)]) (fun (t2 : Int64) => [none, none, some (.long t2), none, none]) 45 (0, 0) (fun t2 σ2 => ?_) (fun K1 bk1 ex1 s1 σ1 => ?_)
  · refine jr_lld2 (pc := 45) hX dX13_weightOfAll_45 ?_
    exact jr_lret (pc := 46) hX dX13_weightOfAll_46 rfl
  · refine jr_ild4 (pc := 5) hX dX13_weightOfAll_5 ?_
    refine jr_ald0 (pc := 7) hX dX13_weightOfAll_7 ?_
    refine jr_ck0 (fun a3 e3 h3 => ?_)
    refine jr_getr (pc := 8) hX fX13_289 rfl dX13_weightOfAll_8 h3 ?_
    refine jr_ck0 (fun a4 e4 h4 => ?_)
    refine jr_getiN (pc := 11) hX fX13_185 rfl dX13_weightOfAll_11 h4 ?_
    refine jr_icge (pc := 14) hX 45 dX13_weightOfAll_14 (by decide) ?_ ?_
    · refine jr_wk [false, false, true, true, false] ?_
      exact ex1 s1.1 _
    · refine jr_lld2 (pc := 17) hX dX13_weightOfAll_17 ?_
      refine jr_ild1 (pc := 18) hX dX13_weightOfAll_18 ?_
      refine jr_ild4 (pc := 19) hX dX13_weightOfAll_19 ?_
      refine jr_cS2i (pc := 21) hX lX13_267 (c_X13_bit hX.F σ1 _ _) (jd_dd hD rfl) (Nat.le_of_ble_eq_true rfl) dX13_weightOfAll_21 (fun r5 σ5 p5 => ?_)
      refine jr_ifeq (pc := 24) hX 36 dX13_weightOfAll_24 (by decide) ?_ ?_
      · refine jr_lconst (pc := 36) hX 0 rfl dX13_weightOfAll_36 ?_
        refine jr_ladd (pc := 37) hX dX13_weightOfAll_37 ?_
        refine jr_lst2 (pc := 38) hX (jn_i _) dX13_weightOfAll_38 ?_
        refine jr_li ?_
        refine jr_inc4 (pc := 39) hX 1 rfl jn_n dX13_weightOfAll_39 ?_
        refine jr_goto (pc := 42) hX 5 dX13_weightOfAll_42 (by decide) ?_
        exact bk1 ((s1.1 + 0), (s1.2 + 1)) _
      · refine jr_ald0 (pc := 27) hX dX13_weightOfAll_27 ?_
        refine jr_ild4 (pc := 28) hX dX13_weightOfAll_28 ?_
        refine jr_ek1 e3 ?_
        refine jr_cV1l (pc := 30) hX lX13_370 (c_X13_weightOf hX.F σ5 a3 (p5.at h3 :) _) (jd_dd hD rfl) (Nat.le_of_ble_eq_true rfl) dX13_weightOfAll_30 (p5.at h3 :) (fun r7 σ7 p7 => ?_)
        refine jr_goto (pc := 33) hX 37 dX13_weightOfAll_33 (by decide) ?_
        refine jr_ladd (pc := 37) hX dX13_weightOfAll_37 ?_
        refine jr_lst2 (pc := 38) hX (jn_i _) dX13_weightOfAll_38 ?_
        refine jr_li ?_
        refine jr_inc4 (pc := 39) hX 1 rfl jn_n dX13_weightOfAll_39 ?_
        refine jr_goto (pc := 42) hX 5 dX13_weightOfAll_42 (by decide) ?_
        exact bk1 ((s1.1 + r7), (s1.2 + 1)) _
def m_X13_everybody (t : Nat) (σ : jd_Hp) : Option (Int32 × jd_Hp) :=
jd_o σ (12, 20) (σ.2.2.2 t 3) fun a1 =>
some (((1 <<< ((σ.2.1 a1 3) &&& 31)) - 1), σ)
set_option maxHeartbeats 4000000 in
set_option maxRecDepth 20000 in
theorem c_X13_everybody {l : Launch} {s0 : State} {G : jd_G} (hF : jd_F s0 G) (σ : jd_Hp) (t : Nat) (ht : σ.1[t]? = some (13, 29)) : jd_M l s0 G yX13_everybody cX13_everybody 1 (some .int) 0 je_i [jd_v G (some t)] σ (m_X13_everybody t σ) := by
  refine jd_enter hF (by decide) (fun G => [some (jd_v G (some t))]) rfl (by simp [lv_args, jd_al, jd_v_cat, jd_cti, jd_ctl]) (by simp [lg_sl, jd_v_cat, jd_cti, jd_ctl]) (fun X hD hX => ?_)
  have hX : jd_C X RX13 "everybody" cX13_everybody 1 (some .int) := hX
  unfold m_X13_everybody
  refine jr_iconst (pc := 0) hX 1 rfl dX13_everybody_0 ?_
  refine jr_ald0 (pc := 1) hX dX13_everybody_1 ?_
  refine jr_getr (pc := 2) hX fX13_289 rfl dX13_everybody_2 ht ?_
  refine jr_ck0 (fun a1 e1 h1 => ?_)
  refine jr_getiN (pc := 5) hX fX13_185 rfl dX13_everybody_5 h1 ?_
  refine jr_ishl (pc := 8) hX dX13_everybody_8 ?_
  refine jr_iconst (pc := 9) hX 1 rfl dX13_everybody_9 ?_
  refine jr_isub (pc := 10) hX dX13_everybody_10 ?_
  exact jr_iret (pc := 11) hX dX13_everybody_11 rfl
def m_X13_odds (t : Nat) (x0p : Int32) (x1p : Int32) (σ : jd_Hp) : Option (Int64 × jd_Hp) :=
jd_li (jd_pi σ t 0 0) fun τ1 =>
jd_b (m_X13_isPerson t x0p τ1) fun r2 σ2 =>
jd_if (r2 = 0) (
jd_b (m_X13_refused t 1 σ2) fun r3 σ3 =>
some (r3.toInt64, σ3)) (
jd_b (m_X13_weightOf t x0p σ2) fun r4 σ4 =>
jd_b (m_X13_everybody t σ4) fun r5 σ5 =>
jd_b (m_X13_weightOfAll t r5 σ5) fun r6 σ6 =>
jd_b (m_X13_fraction t r4 r6 x1p σ6) fun r7 σ7 =>
some (r7, σ7))
set_option maxHeartbeats 4000000 in
set_option maxRecDepth 20000 in
theorem c_X13_odds {l : Launch} {s0 : State} {G : jd_G} (hF : jd_F s0 G) (σ : jd_Hp) (t : Nat) (ht : σ.1[t]? = some (13, 29)) (x0p : Int32) (x1p : Int32) : jd_M l s0 G yX13_odds cX13_odds 3 (some .long) 2 je_l [jd_v G (some t), .int x0p, .int x1p] σ (m_X13_odds t x0p x1p σ) := by
  refine jd_enter hF (by decide) (fun G => [some (jd_v G (some t)), some (.int x0p), some (.int x1p)]) rfl (by simp [lv_args, jd_al, jd_v_cat, jd_cti, jd_ctl]) (by simp [lg_sl, jd_v_cat, jd_cti, jd_ctl]) (fun X hD hX => ?_)
  have hX : jd_C X RX13 "odds" cX13_odds 3 (some .long) := hX
  unfold m_X13_odds
  refine jr_ald0 (pc := 0) hX dX13_odds_0 ?_
  refine jr_iconst (pc := 1) hX 0 rfl dX13_odds_1 ?_
  refine jr_puti (pc := 2) hX fX13_48 rfl dX13_odds_2 ht ?_
  refine jr_li ?_
  refine jr_ald0 (pc := 5) hX dX13_odds_5 ?_
  refine jr_ild1 (pc := 6) hX dX13_odds_6 ?_
  refine jr_cV1i (pc := 7) hX lX13_321 (c_X13_isPerson hX.F (jd_pi σ t 0 0) t ht _) (jd_dd hD rfl) (Nat.le_of_ble_eq_true rfl) dX13_odds_7 ht (fun r2 σ2 p2 => ?_)
  refine jr_ifeq (pc := 10) hX 34 dX13_odds_10 (by decide) ?_ ?_
  · refine jr_ald0 (pc := 34) hX dX13_odds_34 ?_
    refine jr_iconst (pc := 35) hX 1 rfl dX13_odds_35 ?_
    refine jr_cV1i (pc := 36) hX lX13_54 (c_X13_refused hX.F σ2 t (p2.at ht :) _) (jd_dd hD rfl) (Nat.le_of_ble_eq_true rfl) dX13_odds_36 (p2.at ht :) (fun r3 σ3 p3 => ?_)
    refine jr_i2l (pc := 39) hX dX13_odds_39 ?_
    exact jr_lret (pc := 40) hX dX13_odds_40 rfl
  · refine jr_ald0 (pc := 13) hX dX13_odds_13 ?_
    refine jr_ald0 (pc := 14) hX dX13_odds_14 ?_
    refine jr_ild1 (pc := 15) hX dX13_odds_15 ?_
    refine jr_cV1l (pc := 16) hX lX13_370 (c_X13_weightOf hX.F σ2 t (p2.at ht :) _) (jd_dd hD rfl) (by simp [jd_v_cat, jd_cti, jd_ctl]) dX13_odds_16 (p2.at ht :) (fun r4 σ4 p4 => ?_)
    refine jr_ald0 (pc := 19) hX dX13_odds_19 ?_
    refine jr_ald0 (pc := 20) hX dX13_odds_20 ?_
    refine jr_cV0i (pc := 21) hX lX13_374 (c_X13_everybody hX.F σ4 t (p4.at (p2.at ht :) :)) (jd_dd hD rfl) (by simp [jd_v_cat, jd_cti, jd_ctl]) dX13_odds_21 (p4.at (p2.at ht :) :) (fun r5 σ5 p5 => ?_)
    refine jr_cV1l (pc := 24) hX lX13_377 (c_X13_weightOfAll hX.F σ5 t (p5.at (p4.at (p2.at ht :) :) :) _) (jd_dd hD rfl) (by simp [jd_v_cat, jd_cti, jd_ctl]) dX13_odds_24 (p5.at (p4.at (p2.at ht :) :) :) (fun r6 σ6 p6 => ?_)
    refine jr_ild2 (pc := 27) hX dX13_odds_27 ?_
    refine jr_cV3l (pc := 28) hX lX13_380 (c_X13_fraction hX.F σ6 t (p6.at (p5.at (p4.at (p2.at ht :) :) :) :) _ _ _) (jd_dd hD rfl) (Nat.le_of_ble_eq_true rfl) dX13_odds_28 (p6.at (p5.at (p4.at (p2.at ht :) :) :) :) (fun r7 σ7 p7 => ?_)
    refine jr_goto (pc := 31) hX 40 dX13_odds_31 (by decide) ?_
    exact jr_lret (pc := 40) hX dX13_odds_40 rfl
def m_X13_likeliest (t : Nat) (σ : jd_Hp) : Option (Int32 × jd_Hp) :=
jd_li (jd_pi σ t 0 0) fun τ1 =>
jd_if (¬ (τ1.2.2.2 t 3) = none) (
jd_b (jd_lp (S := Int32 × Int64 × Int32) (T := Int32) (fun s2 σ2 =>
jd_o σ2 (13, 29) (some t) fun a4 =>
jd_o σ2 (12, 20) (σ2.2.2.2 a4 3) fun a5 =>
jd_if ((σ2.2.1 a5 3) ≤ s2.2.2) (
some ((Sum.inr s2.1), σ2)) (
jd_b (m_X13_weightOf a4 s2.2.2 σ2) fun r6 σ6 =>
jd_if (0 < (lg_cmp r6 s2.2.1)) (
jd_b (m_X13_weightOf a4 s2.2.2 σ6) fun r7 σ7 =>
some (Sum.inl (s2.2.2, r7, (s2.2.2 + 1)), σ7)) (
some (Sum.inl (s2.1, s2.2.1, (s2.2.2 + 1)), σ6)))) jd_fu ((-2), 0, 0) τ1) fun t3 σ3 =>
jd_o σ3 (13, 29) (some t) fun a8 =>
jd_b (m_X13_good a8 t3 σ3) fun r9 σ9 =>
some (r9, σ9)) (
jd_b (m_X13_refused t 1 τ1) fun r10 σ10 =>
some (r10, σ10))
set_option maxHeartbeats 4000000 in
set_option maxRecDepth 20000 in
theorem c_X13_likeliest {l : Launch} {s0 : State} {G : jd_G} (hF : jd_F s0 G) (σ : jd_Hp) (t : Nat) (ht : σ.1[t]? = some (13, 29)) : jd_M l s0 G yX13_likeliest cX13_likeliest 5 (some .int) 1 je_i [jd_v G (some t)] σ (m_X13_likeliest t σ) := by
  refine jd_enter hF (by decide) (fun G => [some (jd_v G (some t)), none, none, none, none]) rfl (by simp [lv_args, jd_al, jd_v_cat, jd_cti, jd_ctl]) (by simp [lg_sl, jd_v_cat, jd_cti, jd_ctl]) (fun X hD hX => ?_)
  have hX : jd_C X RX13 "likeliest" cX13_likeliest 5 (some .int) := hX
  unfold m_X13_likeliest
  refine jr_ald0 (pc := 0) hX dX13_likeliest_0 ?_
  refine jr_iconst (pc := 1) hX 0 rfl dX13_likeliest_1 ?_
  refine jr_puti (pc := 2) hX fX13_48 rfl dX13_likeliest_2 ht ?_
  refine jr_li ?_
  refine jr_ald0 (pc := 5) hX dX13_likeliest_5 ?_
  refine jr_getr (pc := 6) hX fX13_289 rfl dX13_likeliest_6 ht ?_
  refine jr_ifnonnull (pc := 9) hX 18 dX13_likeliest_9 (by decide) ?_ ?_
  · refine jr_bipush (pc := 18) hX (-2) rfl dX13_likeliest_18 ?_
    refine jr_ist1 (pc := 20) hX (jn_r _ _) dX13_likeliest_20 ?_
    refine jr_lconst (pc := 21) hX 0 rfl dX13_likeliest_21 ?_
    refine jr_lst2 (pc := 22) hX (jn_i _) dX13_likeliest_22 ?_
    refine jr_iconst (pc := 23) hX 0 rfl dX13_likeliest_23 ?_
    refine jr_ist4 (pc := 24) hX jn_n dX13_likeliest_24 ?_
    refine jr_loop (pc := 26) (fun (s2 : Int32 × Int64 × Int32) => [some (jd_v (jd_gG X) (some t)), some (.int s2.1), some (.long s2.2.1), none, some (.int s2.2.2)]) (fun (t3 : Int32) => [some (jd_v (jd_gG X) (some t)), some (.int t3), none, none, none]) 68 ((-2), 0, 0) (fun t3 σ3 => ?_) (fun K2 bk2 ex2 s2 σ2 => ?_)
    · refine jr_ald0 (pc := 68) hX dX13_likeliest_68 ?_
      refine jr_ild1 (pc := 69) hX dX13_likeliest_69 ?_
      refine jr_ck1 (fun a8 e8 h8 => ?_)
      refine jr_cV1i (pc := 70) hX lX13_58 (c_X13_good hX.F σ3 a8 h8 _) (jd_dd hD rfl) (Nat.le_of_ble_eq_true rfl) dX13_likeliest_70 h8 (fun r9 σ9 p9 => ?_)
      exact jr_iret (pc := 73) hX dX13_likeliest_73 rfl
    · refine jr_ild4 (pc := 26) hX dX13_likeliest_26 ?_
      refine jr_ald0 (pc := 28) hX dX13_likeliest_28 ?_
      refine jr_ck0 (fun a4 e4 h4 => ?_)
      refine jr_getr (pc := 29) hX fX13_289 rfl dX13_likeliest_29 h4 ?_
      refine jr_ck0 (fun a5 e5 h5 => ?_)
      refine jr_getiN (pc := 32) hX fX13_185 rfl dX13_likeliest_32 h5 ?_
      refine jr_icge (pc := 35) hX 68 dX13_likeliest_35 (by decide) ?_ ?_
      · refine jr_wk [true, true, false, true, false] ?_
        exact ex2 s2.1 _
      · refine jr_ald0 (pc := 38) hX dX13_likeliest_38 ?_
        refine jr_ild4 (pc := 39) hX dX13_likeliest_39 ?_
        refine jr_ek1 e4 ?_
        refine jr_cV1l (pc := 41) hX lX13_370 (c_X13_weightOf hX.F σ2 a4 h4 _) (jd_dd hD rfl) (Nat.le_of_ble_eq_true rfl) dX13_likeliest_41 h4 (fun r6 σ6 p6 => ?_)
        refine jr_lld2 (pc := 44) hX dX13_likeliest_44 ?_
        refine jr_lcmp (pc := 45) hX dX13_likeliest_45 ?_
        refine jr_ifgt (pc := 46) hX 52 dX13_likeliest_46 (by decide) ?_ ?_
        · refine jr_ald0 (pc := 52) hX dX13_likeliest_52 ?_
          refine jr_ild4 (pc := 53) hX dX13_likeliest_53 ?_
          refine jr_ek1 e4 ?_
          refine jr_cV1l (pc := 55) hX lX13_370 (c_X13_weightOf hX.F σ6 a4 (p6.at h4 :) _) (jd_dd hD rfl) (Nat.le_of_ble_eq_true rfl) dX13_likeliest_55 (p6.at h4 :) (fun r7 σ7 p7 => ?_)
          refine jr_lst2 (pc := 58) hX (jn_i _) dX13_likeliest_58 ?_
          refine jr_ild4 (pc := 59) hX dX13_likeliest_59 ?_
          refine jr_ist1 (pc := 61) hX (jn_r _ _) dX13_likeliest_61 ?_
          refine jr_inc4 (pc := 62) hX 1 rfl jn_n dX13_likeliest_62 ?_
          refine jr_goto (pc := 65) hX 26 dX13_likeliest_65 (by decide) ?_
          exact bk2 (s2.2.2, r7, (s2.2.2 + 1)) _
        · refine jr_goto (pc := 49) hX 62 dX13_likeliest_49 (by decide) ?_
          refine jr_inc4 (pc := 62) hX 1 rfl jn_n dX13_likeliest_62 ?_
          refine jr_goto (pc := 65) hX 26 dX13_likeliest_65 (by decide) ?_
          exact bk2 (s2.1, s2.2.1, (s2.2.2 + 1)) _
  · refine jr_ald0 (pc := 12) hX dX13_likeliest_12 ?_
    refine jr_iconst (pc := 13) hX 1 rfl dX13_likeliest_13 ?_
    refine jr_cV1i (pc := 14) hX lX13_54 (c_X13_refused hX.F (jd_pi σ t 0 0) t ht _) (jd_dd hD rfl) (Nat.le_of_ble_eq_true rfl) dX13_likeliest_14 ht (fun r10 σ10 p10 => ?_)
    exact jr_iret (pc := 17) hX dX13_likeliest_17 rfl
def m_X13_among (t : Nat) (x0p : Int32) (x1p : Int32) (σ : jd_Hp) : Option (Int64 × jd_Hp) :=
jd_li (jd_pi σ t 0 0) fun τ1 =>
jd_if ((τ1.2.2.2 t 3) = none) (
jd_b (m_X13_refused t 1 τ1) fun r2 σ2 =>
some (r2.toInt64, σ2)) (
jd_b (m_X13_everybody t τ1) fun r3 σ3 =>
jd_b (m_X13_in x0p 0 r3 σ3) fun r4 σ4 =>
jd_if (¬ r4 = 0) (
jd_b (m_X13_weightOfAll t x0p σ4) fun r5 σ5 =>
jd_b (m_X13_everybody t σ5) fun r6 σ6 =>
jd_b (m_X13_weightOfAll t r6 σ6) fun r7 σ7 =>
jd_b (m_X13_fraction t r5 r7 x1p σ7) fun r8 σ8 =>
some (r8, σ8)) (
jd_b (m_X13_refused t 1 σ4) fun r9 σ9 =>
some (r9.toInt64, σ9)))
set_option maxHeartbeats 4000000 in
set_option maxRecDepth 20000 in
theorem c_X13_among {l : Launch} {s0 : State} {G : jd_G} (hF : jd_F s0 G) (σ : jd_Hp) (t : Nat) (ht : σ.1[t]? = some (13, 29)) (x0p : Int32) (x1p : Int32) : jd_M l s0 G yX13_among cX13_among 3 (some .long) 2 je_l [jd_v G (some t), .int x0p, .int x1p] σ (m_X13_among t x0p x1p σ) := by
  refine jd_enter hF (by decide) (fun G => [some (jd_v G (some t)), some (.int x0p), some (.int x1p)]) rfl (by simp [lv_args, jd_al, jd_v_cat, jd_cti, jd_ctl]) (by simp [lg_sl, jd_v_cat, jd_cti, jd_ctl]) (fun X hD hX => ?_)
  have hX : jd_C X RX13 "among" cX13_among 3 (some .long) := hX
  unfold m_X13_among
  refine jr_ald0 (pc := 0) hX dX13_among_0 ?_
  refine jr_iconst (pc := 1) hX 0 rfl dX13_among_1 ?_
  refine jr_puti (pc := 2) hX fX13_48 rfl dX13_among_2 ht ?_
  refine jr_li ?_
  refine jr_ald0 (pc := 5) hX dX13_among_5 ?_
  refine jr_getr (pc := 6) hX fX13_289 rfl dX13_among_6 ht ?_
  refine jr_ifnull (pc := 9) hX 24 dX13_among_9 (by decide) ?_ ?_
  · refine jr_ald0 (pc := 24) hX dX13_among_24 ?_
    refine jr_iconst (pc := 25) hX 1 rfl dX13_among_25 ?_
    refine jr_cV1i (pc := 26) hX lX13_54 (c_X13_refused hX.F (jd_pi σ t 0 0) t ht _) (jd_dd hD rfl) (Nat.le_of_ble_eq_true rfl) dX13_among_26 ht (fun r2 σ2 p2 => ?_)
    refine jr_i2l (pc := 29) hX dX13_among_29 ?_
    exact jr_lret (pc := 30) hX dX13_among_30 rfl
  · refine jr_ild1 (pc := 12) hX dX13_among_12 ?_
    refine jr_iconst (pc := 13) hX 0 rfl dX13_among_13 ?_
    refine jr_ald0 (pc := 14) hX dX13_among_14 ?_
    refine jr_cV0i (pc := 15) hX lX13_374 (c_X13_everybody hX.F (jd_pi σ t 0 0) t ht) (jd_dd hD rfl) (Nat.le_of_ble_eq_true rfl) dX13_among_15 ht (fun r3 σ3 p3 => ?_)
    refine jr_cS3i (pc := 18) hX lX13_131 (c_X13_in hX.F σ3 _ _ _) (jd_dd hD rfl) (Nat.le_of_ble_eq_true rfl) dX13_among_18 (fun r4 σ4 p4 => ?_)
    refine jr_ifne (pc := 21) hX 31 dX13_among_21 (by decide) ?_ ?_
    · refine jr_ald0 (pc := 31) hX dX13_among_31 ?_
      refine jr_ald0 (pc := 32) hX dX13_among_32 ?_
      refine jr_ild1 (pc := 33) hX dX13_among_33 ?_
      refine jr_cV1l (pc := 34) hX lX13_377 (c_X13_weightOfAll hX.F σ4 t (p4.at (p3.at ht :) :) _) (jd_dd hD rfl) (by simp [jd_v_cat, jd_cti, jd_ctl]) dX13_among_34 (p4.at (p3.at ht :) :) (fun r5 σ5 p5 => ?_)
      refine jr_ald0 (pc := 37) hX dX13_among_37 ?_
      refine jr_ald0 (pc := 38) hX dX13_among_38 ?_
      refine jr_cV0i (pc := 39) hX lX13_374 (c_X13_everybody hX.F σ5 t (p5.at (p4.at (p3.at ht :) :) :)) (jd_dd hD rfl) (by simp [jd_v_cat, jd_cti, jd_ctl]) dX13_among_39 (p5.at (p4.at (p3.at ht :) :) :) (fun r6 σ6 p6 => ?_)
      refine jr_cV1l (pc := 42) hX lX13_377 (c_X13_weightOfAll hX.F σ6 t (p6.at (p5.at (p4.at (p3.at ht :) :) :) :) _) (jd_dd hD rfl) (by simp [jd_v_cat, jd_cti, jd_ctl]) dX13_among_42 (p6.at (p5.at (p4.at (p3.at ht :) :) :) :) (fun r7 σ7 p7 => ?_)
      refine jr_ild2 (pc := 45) hX dX13_among_45 ?_
      refine jr_cV3l (pc := 46) hX lX13_380 (c_X13_fraction hX.F σ7 t (p7.at (p6.at (p5.at (p4.at (p3.at ht :) :) :) :) :) _ _ _) (jd_dd hD rfl) (Nat.le_of_ble_eq_true rfl) dX13_among_46 (p7.at (p6.at (p5.at (p4.at (p3.at ht :) :) :) :) :) (fun r8 σ8 p8 => ?_)
      exact jr_lret (pc := 49) hX dX13_among_49 rfl
    · refine jr_ald0 (pc := 24) hX dX13_among_24 ?_
      refine jr_iconst (pc := 25) hX 1 rfl dX13_among_25 ?_
      refine jr_cV1i (pc := 26) hX lX13_54 (c_X13_refused hX.F σ4 t (p4.at (p3.at ht :) :) _) (jd_dd hD rfl) (Nat.le_of_ble_eq_true rfl) dX13_among_26 (p4.at (p3.at ht :) :) (fun r9 σ9 p9 => ?_)
      refine jr_i2l (pc := 29) hX dX13_among_29 ?_
      exact jr_lret (pc := 30) hX dX13_among_30 rfl
def m_X13_suspects (t : Nat) (σ : jd_Hp) : Option (Int32 × jd_Hp) :=
jd_li (jd_pi σ t 0 0) fun τ1 =>
jd_if (¬ (τ1.2.2.2 t 3) = none) (
jd_b (m_X13_everybody t τ1) fun r2 σ2 =>
jd_b (m_X13_weightOfAll t r2 σ2) fun r3 σ3 =>
jd_b (jd_lp (S := Int32 × Int32) (T := Int32) (fun s4 σ4 =>
jd_o σ4 (13, 29) (some t) fun a6 =>
jd_b (m_X13_everybody a6 σ4) fun r7 σ7 =>
jd_if (r7 < s4.2) (
some ((Sum.inr s4.1), σ7)) (
jd_if (s4.1 = (-2)) (
jd_b (m_X13_weightOfAll a6 s4.2 σ7) fun r8 σ8 =>
jd_if ((lg_cmp (2 * r8) r3) ≤ 0) (
some (Sum.inl (s4.1, (s4.2 + 1)), σ8)) (
some (Sum.inl (s4.2, (s4.2 + 1)), σ8))) (
jd_b (m_X13_bits s4.2 σ7) fun r9 σ9 =>
jd_b (m_X13_bits s4.1 σ9) fun r10 σ10 =>
jd_if (r10 ≤ r9) (
some (Sum.inl (s4.1, (s4.2 + 1)), σ10)) (
jd_b (m_X13_weightOfAll a6 s4.2 σ10) fun r11 σ11 =>
jd_if ((lg_cmp (2 * r11) r3) ≤ 0) (
some (Sum.inl (s4.1, (s4.2 + 1)), σ11)) (
some (Sum.inl (s4.2, (s4.2 + 1)), σ11)))))) jd_fu ((-2), 0) σ3) fun t5 σ5 =>
jd_o σ5 (13, 29) (some t) fun a12 =>
jd_b (m_X13_good a12 t5 σ5) fun r13 σ13 =>
some (r13, σ13)) (
jd_b (m_X13_refused t 1 τ1) fun r14 σ14 =>
some (r14, σ14))
set_option maxHeartbeats 4000000 in
set_option maxRecDepth 20000 in
theorem c_X13_suspects {l : Launch} {s0 : State} {G : jd_G} (hF : jd_F s0 G) (σ : jd_Hp) (t : Nat) (ht : σ.1[t]? = some (13, 29)) : jd_M l s0 G yX13_suspects cX13_suspects 5 (some .int) 2 je_i [jd_v G (some t)] σ (m_X13_suspects t σ) := by
  refine jd_enter hF (by decide) (fun G => [some (jd_v G (some t)), none, none, none, none]) rfl (by simp [lv_args, jd_al, jd_v_cat, jd_cti, jd_ctl]) (by simp [lg_sl, jd_v_cat, jd_cti, jd_ctl]) (fun X hD hX => ?_)
  have hX : jd_C X RX13 "suspects" cX13_suspects 5 (some .int) := hX
  unfold m_X13_suspects
  refine jr_ald0 (pc := 0) hX dX13_suspects_0 ?_
  refine jr_iconst (pc := 1) hX 0 rfl dX13_suspects_1 ?_
  refine jr_puti (pc := 2) hX fX13_48 rfl dX13_suspects_2 ht ?_
  refine jr_li ?_
  refine jr_ald0 (pc := 5) hX dX13_suspects_5 ?_
  refine jr_getr (pc := 6) hX fX13_289 rfl dX13_suspects_6 ht ?_
  refine jr_ifnonnull (pc := 9) hX 18 dX13_suspects_9 (by decide) ?_ ?_
  · refine jr_ald0 (pc := 18) hX dX13_suspects_18 ?_
    refine jr_ald0 (pc := 19) hX dX13_suspects_19 ?_
    refine jr_cV0i (pc := 20) hX lX13_374 (c_X13_everybody hX.F (jd_pi σ t 0 0) t ht) (jd_dd hD rfl) (by simp [jd_v_cat, jd_cti, jd_ctl]) dX13_suspects_20 ht (fun r2 σ2 p2 => ?_)
    refine jr_cV1l (pc := 23) hX lX13_377 (c_X13_weightOfAll hX.F σ2 t (p2.at ht :) _) (jd_dd hD rfl) (Nat.le_of_ble_eq_true rfl) dX13_suspects_23 (p2.at ht :) (fun r3 σ3 p3 => ?_)
    refine jr_lst1 (pc := 26) hX (jn_r _ _) dX13_suspects_26 ?_
    refine jr_bipush (pc := 27) hX (-2) rfl dX13_suspects_27 ?_
    refine jr_ist3 (pc := 29) hX jn_n dX13_suspects_29 ?_
    refine jr_iconst (pc := 30) hX 0 rfl dX13_suspects_30 ?_
    refine jr_ist4 (pc := 31) hX (jn_i _) dX13_suspects_31 ?_
    refine jr_loop (pc := 33) (fun (s4 : Int32 × Int32) => [some (jd_v (jd_gG X) (some t)), some (.long r3), none, some (.int s4.1), some (.int s4.2)]) (fun (t5 : Int32) => [some (jd_v (jd_gG X) (some t)), none, none, some (.int t5), none]) 84 ((-2), 0) (fun t5 σ5 => ?_) (fun K4 bk4 ex4 s4 σ4 => ?_)
    · refine jr_ald0 (pc := 84) hX dX13_suspects_84 ?_
      refine jr_ild3 (pc := 85) hX dX13_suspects_85 ?_
      refine jr_ck1 (fun a12 e12 h12 => ?_)
      refine jr_cV1i (pc := 86) hX lX13_58 (c_X13_good hX.F σ5 a12 h12 _) (jd_dd hD rfl) (Nat.le_of_ble_eq_true rfl) dX13_suspects_86 h12 (fun r13 σ13 p13 => ?_)
      exact jr_iret (pc := 89) hX dX13_suspects_89 rfl
    · refine jr_ild4 (pc := 33) hX dX13_suspects_33 ?_
      refine jr_ald0 (pc := 35) hX dX13_suspects_35 ?_
      refine jr_ck0 (fun a6 e6 h6 => ?_)
      refine jr_cV0i (pc := 36) hX lX13_374 (c_X13_everybody hX.F σ4 a6 h6) (jd_dd hD rfl) (Nat.le_of_ble_eq_true rfl) dX13_suspects_36 h6 (fun r7 σ7 p7 => ?_)
      refine jr_icgt (pc := 39) hX 84 dX13_suspects_39 (by decide) ?_ ?_
      · refine jr_wk [true, false, true, true, false] ?_
        exact ex4 s4.1 _
      · refine jr_ild3 (pc := 42) hX dX13_suspects_42 ?_
        refine jr_bipush (pc := 43) hX (-2) rfl dX13_suspects_43 ?_
        refine jr_iceq (pc := 45) hX 60 dX13_suspects_45 (by decide) ?_ ?_
        · refine jr_ldc2 (pc := 60) hX kX13_384 dX13_suspects_60 ?_
          refine jr_ald0 (pc := 63) hX dX13_suspects_63 ?_
          refine jr_ild4 (pc := 64) hX dX13_suspects_64 ?_
          refine jr_ek1 e6 ?_
          refine jr_cV1l (pc := 66) hX lX13_377 (c_X13_weightOfAll hX.F σ7 a6 (p7.at h6 :) _) (jd_dd hD rfl) (Nat.le_of_ble_eq_true rfl) dX13_suspects_66 (p7.at h6 :) (fun r8 σ8 p8 => ?_)
          refine jr_lmul (pc := 69) hX dX13_suspects_69 ?_
          refine jr_lld1 (pc := 70) hX dX13_suspects_70 ?_
          refine jr_lcmp (pc := 71) hX dX13_suspects_71 ?_
          refine jr_ifle (pc := 72) hX 78 dX13_suspects_72 (by decide) ?_ ?_
          · refine jr_inc4 (pc := 78) hX 1 rfl (jn_i _) dX13_suspects_78 ?_
            refine jr_goto (pc := 81) hX 33 dX13_suspects_81 (by decide) ?_
            exact bk4 (s4.1, (s4.2 + 1)) _
          · refine jr_ild4 (pc := 75) hX dX13_suspects_75 ?_
            refine jr_ist3 (pc := 77) hX jn_n dX13_suspects_77 ?_
            refine jr_inc4 (pc := 78) hX 1 rfl (jn_i _) dX13_suspects_78 ?_
            refine jr_goto (pc := 81) hX 33 dX13_suspects_81 (by decide) ?_
            exact bk4 (s4.2, (s4.2 + 1)) _
        · refine jr_ild4 (pc := 48) hX dX13_suspects_48 ?_
          refine jr_cS1i (pc := 50) hX lX13_303 (c_X13_bits hX.F σ7 _) (jd_dd hD rfl) (Nat.le_of_ble_eq_true rfl) dX13_suspects_50 (fun r9 σ9 p9 => ?_)
          refine jr_ild3 (pc := 53) hX dX13_suspects_53 ?_
          refine jr_cS1i (pc := 54) hX lX13_303 (c_X13_bits hX.F σ9 _) (jd_dd hD rfl) (Nat.le_of_ble_eq_true rfl) dX13_suspects_54 (fun r10 σ10 p10 => ?_)
          refine jr_icge (pc := 57) hX 78 dX13_suspects_57 (by decide) ?_ ?_
          · refine jr_inc4 (pc := 78) hX 1 rfl (jn_i _) dX13_suspects_78 ?_
            refine jr_goto (pc := 81) hX 33 dX13_suspects_81 (by decide) ?_
            exact bk4 (s4.1, (s4.2 + 1)) _
          · refine jr_ldc2 (pc := 60) hX kX13_384 dX13_suspects_60 ?_
            refine jr_ald0 (pc := 63) hX dX13_suspects_63 ?_
            refine jr_ild4 (pc := 64) hX dX13_suspects_64 ?_
            refine jr_ek1 e6 ?_
            refine jr_cV1l (pc := 66) hX lX13_377 (c_X13_weightOfAll hX.F σ10 a6 (p10.at (p9.at (p7.at h6 :) :) :) _) (jd_dd hD rfl) (Nat.le_of_ble_eq_true rfl) dX13_suspects_66 (p10.at (p9.at (p7.at h6 :) :) :) (fun r11 σ11 p11 => ?_)
            refine jr_lmul (pc := 69) hX dX13_suspects_69 ?_
            refine jr_lld1 (pc := 70) hX dX13_suspects_70 ?_
            refine jr_lcmp (pc := 71) hX dX13_suspects_71 ?_
            refine jr_ifle (pc := 72) hX 78 dX13_suspects_72 (by decide) ?_ ?_
            · refine jr_inc4 (pc := 78) hX 1 rfl (jn_i _) dX13_suspects_78 ?_
              refine jr_goto (pc := 81) hX 33 dX13_suspects_81 (by decide) ?_
              exact bk4 (s4.1, (s4.2 + 1)) _
            · refine jr_ild4 (pc := 75) hX dX13_suspects_75 ?_
              refine jr_ist3 (pc := 77) hX jn_n dX13_suspects_77 ?_
              refine jr_inc4 (pc := 78) hX 1 rfl (jn_i _) dX13_suspects_78 ?_
              refine jr_goto (pc := 81) hX 33 dX13_suspects_81 (by decide) ?_
              exact bk4 (s4.2, (s4.2 + 1)) _
  · refine jr_ald0 (pc := 12) hX dX13_suspects_12 ?_
    refine jr_iconst (pc := 13) hX 1 rfl dX13_suspects_13 ?_
    refine jr_cV1i (pc := 14) hX lX13_54 (c_X13_refused hX.F (jd_pi σ t 0 0) t ht _) (jd_dd hD rfl) (Nat.le_of_ble_eq_true rfl) dX13_suspects_14 ht (fun r14 σ14 p14 => ?_)
    exact jr_iret (pc := 17) hX dX13_suspects_17 rfl
def m_X13_flag (t : Nat) (x0p : Int32) (σ : jd_Hp) : Option (Int32 × jd_Hp) :=
jd_li (jd_pi σ t 0 0) fun τ1 =>
jd_if (¬ (τ1.2.2.2 t 3) = none) (
jd_b (m_X13_in x0p 1 6 τ1) fun r2 σ2 =>
jd_if (¬ r2 = 0) (
jd_b (m_X13_works t σ2) fun r3 σ3 =>
jd_b (jd_lp (S := Int32) (T := (Unit) ⊕ Int32) (fun s4 σ4 =>
jd_if (200 < s4) (
some ((Sum.inr (Sum.inl ())), σ4)) (
jd_b (jd_lp (S := Int32 × Int32) (T := Int32) (fun s6 σ6 =>
jd_o σ6 (13, 29) (some t) fun a8 =>
jd_o σ6 (12, 20) (σ6.2.2.2 a8 3) fun a9 =>
jd_if ((σ6.2.1 a9 3) ≤ s6.2) (
some ((Sum.inr s6.1), σ6)) (
jd_b (m_X13_sinksAt a8 s6.2 σ6) fun r10 σ10 =>
jd_if (s4 < r10) (
jd_li (s6.1 + 0) fun x11 =>
some (Sum.inl (x11, (s6.2 + 1)), σ10)) (
jd_li (s6.1 + 1) fun x12 =>
some (Sum.inl (x12, (s6.2 + 1)), σ10)))) jd_fu (0, 0) σ4) fun t7 σ7 =>
jd_if (t7 < x0p) (
some (Sum.inl (s4 + 1), σ7)) (
jd_o σ7 (13, 29) (some t) fun a13 =>
jd_b (m_X13_good a13 s4 σ7) fun r14 σ14 =>
some (Sum.inr (Sum.inr r14), σ14)))) jd_fu 0 σ3) (jd_q (fun t5 σ5 =>
jd_o σ5 (13, 29) (some t) fun a15 =>
jd_b (m_X13_good a15 (-2) σ5) fun r16 σ16 =>
some (r16, σ16)) (fun v4 σ5 => some (v4, σ5)))) (
jd_b (m_X13_refused t 2 σ2) fun r17 σ17 =>
some (r17, σ17))) (
jd_b (m_X13_refused t 1 τ1) fun r18 σ18 =>
some (r18, σ18))
set_option maxHeartbeats 4000000 in
set_option maxRecDepth 20000 in
theorem c_X13_flag {l : Launch} {s0 : State} {G : jd_G} (hF : jd_F s0 G) (σ : jd_Hp) (t : Nat) (ht : σ.1[t]? = some (13, 29)) (x0p : Int32) : jd_M l s0 G yX13_flag cX13_flag 5 (some .int) 3 je_i [jd_v G (some t), .int x0p] σ (m_X13_flag t x0p σ) := by
  refine jd_enter hF (by decide) (fun G => [some (jd_v G (some t)), some (.int x0p), none, none, none]) rfl (by simp [lv_args, jd_al, jd_v_cat, jd_cti, jd_ctl]) (by simp [lg_sl, jd_v_cat, jd_cti, jd_ctl]) (fun X hD hX => ?_)
  have hX : jd_C X RX13 "flag" cX13_flag 5 (some .int) := hX
  unfold m_X13_flag
  refine jr_ald0 (pc := 0) hX dX13_flag_0 ?_
  refine jr_iconst (pc := 1) hX 0 rfl dX13_flag_1 ?_
  refine jr_puti (pc := 2) hX fX13_48 rfl dX13_flag_2 ht ?_
  refine jr_li ?_
  refine jr_ald0 (pc := 5) hX dX13_flag_5 ?_
  refine jr_getr (pc := 6) hX fX13_289 rfl dX13_flag_6 ht ?_
  refine jr_ifnonnull (pc := 9) hX 18 dX13_flag_9 (by decide) ?_ ?_
  · refine jr_ild1 (pc := 18) hX dX13_flag_18 ?_
    refine jr_iconst (pc := 19) hX 1 rfl dX13_flag_19 ?_
    refine jr_bipush (pc := 20) hX 6 rfl dX13_flag_20 ?_
    refine jr_cS3i (pc := 22) hX lX13_131 (c_X13_in hX.F (jd_pi σ t 0 0) _ _ _) (jd_dd hD rfl) (Nat.le_of_ble_eq_true rfl) dX13_flag_22 (fun r2 σ2 p2 => ?_)
    refine jr_ifne (pc := 25) hX 34 dX13_flag_25 (by decide) ?_ ?_
    · refine jr_ald0 (pc := 34) hX dX13_flag_34 ?_
      refine jr_cV0v (pc := 35) hX lX13_324 (c_X13_works hX.F σ2 t (p2.at ht :)) (jd_dd hD rfl) (Nat.le_of_ble_eq_true rfl) dX13_flag_35 (p2.at ht :) (fun r3 σ3 p3 => ?_)
      refine jr_iconst (pc := 38) hX 0 rfl dX13_flag_38 ?_
      refine jr_ist2 (pc := 39) hX (jn_i _) dX13_flag_39 ?_
      refine jr_loopR (pc := 40) (fun (s4 : Int32) => [some (jd_v (jd_gG X) (some t)), some (.int x0p), some (.int s4), none, none]) (fun (t5 : Unit) => [some (jd_v (jd_gG X) (some t)), none, none, none, none]) 105 0 (fun t5 σ5 => ?_) (fun K4 bk4 ex4 wr4 s4 σ4 => ?_)
      · refine jr_ald0 (pc := 105) hX dX13_flag_105 ?_
        refine jr_bipush (pc := 106) hX (-2) rfl dX13_flag_106 ?_
        refine jr_ck1 (fun a15 e15 h15 => ?_)
        refine jr_cV1i (pc := 108) hX lX13_58 (c_X13_good hX.F σ5 a15 h15 _) (jd_dd hD rfl) (Nat.le_of_ble_eq_true rfl) dX13_flag_108 h15 (fun r16 σ16 p16 => ?_)
        exact jr_iret (pc := 111) hX dX13_flag_111 rfl
      · refine jr_ild2 (pc := 40) hX dX13_flag_40 ?_
        refine jr_sipush (pc := 41) hX 200 rfl dX13_flag_41 ?_
        refine jr_icgt (pc := 44) hX 105 dX13_flag_44 (by decide) ?_ ?_
        · refine jr_wk [true, false, false, true, true] ?_
          exact ex4 () _
        · refine jr_iconst (pc := 47) hX 0 rfl dX13_flag_47 ?_
          refine jr_ist3 (pc := 48) hX (jn_i _) dX13_flag_48 ?_
          refine jr_iconst (pc := 49) hX 0 rfl dX13_flag_49 ?_
          refine jr_ist4 (pc := 50) hX (jn_i _) dX13_flag_50 ?_
          refine jr_loop (pc := 52) (fun (s6 : Int32 × Int32) => [some (jd_v (jd_gG X) (some t)), some (.int x0p), some (.int s4), some (.int s6.1), some (.int s6.2)]) (fun (t7 : Int32) => [some (jd_v (jd_gG X) (some t)), some (.int x0p), some (.int s4), some (.int t7), none]) 88 (0, 0) (fun t7 σ7 => ?_) (fun K6 bk6 ex6 s6 σ6 => ?_)
          · refine jr_ild3 (pc := 88) hX dX13_flag_88 ?_
            refine jr_ild1 (pc := 89) hX dX13_flag_89 ?_
            refine jr_iclt (pc := 90) hX 99 dX13_flag_90 (by decide) ?_ ?_
            · refine jr_inc2 (pc := 99) hX 1 rfl (jn_i _) dX13_flag_99 ?_
              refine jr_goto (pc := 102) hX 40 dX13_flag_102 (by decide) ?_
              refine jr_wk [true, true, true, false, true] ?_
              exact bk4 (s4 + 1) _
            · refine jr_ald0 (pc := 93) hX dX13_flag_93 ?_
              refine jr_ild2 (pc := 94) hX dX13_flag_94 ?_
              refine jr_ck1 (fun a13 e13 h13 => ?_)
              refine jr_cV1i (pc := 95) hX lX13_58 (c_X13_good hX.F σ7 a13 h13 _) (jd_dd hD rfl) (Nat.le_of_ble_eq_true rfl) dX13_flag_95 h13 (fun r14 σ14 p14 => ?_)
              exact jr_iret (pc := 98) hX dX13_flag_98 ((wr4 _ _).trans rfl)
          · refine jr_ild4 (pc := 52) hX dX13_flag_52 ?_
            refine jr_ald0 (pc := 54) hX dX13_flag_54 ?_
            refine jr_ck0 (fun a8 e8 h8 => ?_)
            refine jr_getr (pc := 55) hX fX13_289 rfl dX13_flag_55 h8 ?_
            refine jr_ck0 (fun a9 e9 h9 => ?_)
            refine jr_getiN (pc := 58) hX fX13_185 rfl dX13_flag_58 h9 ?_
            refine jr_icge (pc := 61) hX 88 dX13_flag_61 (by decide) ?_ ?_
            · refine jr_wk [true, true, true, true, false] ?_
              exact ex6 s6.1 _
            · refine jr_ild3 (pc := 64) hX dX13_flag_64 ?_
              refine jr_ald0 (pc := 65) hX dX13_flag_65 ?_
              refine jr_ild4 (pc := 66) hX dX13_flag_66 ?_
              refine jr_ek1 e8 ?_
              refine jr_cV1i (pc := 68) hX lX13_306 (c_X13_sinksAt hX.F σ6 a8 h8 _) (jd_dd hD rfl) (Nat.le_of_ble_eq_true rfl) dX13_flag_68 h8 (fun r10 σ10 p10 => ?_)
              refine jr_ild2 (pc := 71) hX dX13_flag_71 ?_
              refine jr_icgt (pc := 72) hX 79 dX13_flag_72 (by decide) ?_ ?_
              · refine jr_iconst (pc := 79) hX 0 rfl dX13_flag_79 ?_
                refine jr_iadd (pc := 80) hX dX13_flag_80 ?_
                refine jr_ist3 (pc := 81) hX (jn_i _) dX13_flag_81 ?_
                refine jr_li ?_
                refine jr_inc4 (pc := 82) hX 1 rfl (jn_i _) dX13_flag_82 ?_
                refine jr_goto (pc := 85) hX 52 dX13_flag_85 (by decide) ?_
                exact bk6 ((s6.1 + 0), (s6.2 + 1)) _
              · refine jr_iconst (pc := 75) hX 1 rfl dX13_flag_75 ?_
                refine jr_goto (pc := 76) hX 80 dX13_flag_76 (by decide) ?_
                refine jr_iadd (pc := 80) hX dX13_flag_80 ?_
                refine jr_ist3 (pc := 81) hX (jn_i _) dX13_flag_81 ?_
                refine jr_li ?_
                refine jr_inc4 (pc := 82) hX 1 rfl (jn_i _) dX13_flag_82 ?_
                refine jr_goto (pc := 85) hX 52 dX13_flag_85 (by decide) ?_
                exact bk6 ((s6.1 + 1), (s6.2 + 1)) _
    · refine jr_ald0 (pc := 28) hX dX13_flag_28 ?_
      refine jr_iconst (pc := 29) hX 2 rfl dX13_flag_29 ?_
      refine jr_cV1i (pc := 30) hX lX13_54 (c_X13_refused hX.F σ2 t (p2.at ht :) _) (jd_dd hD rfl) (Nat.le_of_ble_eq_true rfl) dX13_flag_30 (p2.at ht :) (fun r17 σ17 p17 => ?_)
      exact jr_iret (pc := 33) hX dX13_flag_33 rfl
  · refine jr_ald0 (pc := 12) hX dX13_flag_12 ?_
    refine jr_iconst (pc := 13) hX 1 rfl dX13_flag_13 ?_
    refine jr_cV1i (pc := 14) hX lX13_54 (c_X13_refused hX.F (jd_pi σ t 0 0) t ht _) (jd_dd hD rfl) (Nat.le_of_ble_eq_true rfl) dX13_flag_14 ht (fun r18 σ18 p18 => ?_)
    exact jr_iret (pc := 17) hX dX13_flag_17 rfl
def m_X13_knownBy (t : Nat) (x0p : Int32) (σ : jd_Hp) : Option (Int32 × jd_Hp) :=
jd_b (jd_lp (S := Int32 × Int32) (T := Int32) (fun s1 σ1 =>
jd_o σ1 (13, 29) (some t) fun a3 =>
jd_o σ1 (12, 20) (σ1.2.2.2 a3 3) fun a4 =>
jd_if ((σ1.2.1 a4 3) ≤ s1.2) (
some ((Sum.inr s1.1), σ1)) (
jd_b (m_X13_bit x0p s1.2 σ1) fun r5 σ5 =>
jd_if (r5 = 0) (
jd_li (s1.1 ||| 0) fun x6 =>
some (Sum.inl (x6, (s1.2 + 1)), σ5)) (
jd_o σ5 (12, 20) (σ5.2.2.2 a3 3) fun a7 =>
jd_ia σ5 20 (σ5.2.2.2 a7 13) s1.2 fun a8 j8 =>
jd_li (s1.1 ||| (σ5.2.1 a8 j8)) fun x9 =>
some (Sum.inl (x9, (s1.2 + 1)), σ5)))) jd_fu (x0p, 0) σ) fun t2 σ2 =>
some (t2, σ2)
set_option maxHeartbeats 4000000 in
set_option maxRecDepth 20000 in
theorem c_X13_knownBy {l : Launch} {s0 : State} {G : jd_G} (hF : jd_F s0 G) (σ : jd_Hp) (t : Nat) (ht : σ.1[t]? = some (13, 29)) (x0p : Int32) : jd_M l s0 G yX13_knownBy cX13_knownBy 4 (some .int) 1 je_i [jd_v G (some t), .int x0p] σ (m_X13_knownBy t x0p σ) := by
  refine jd_enter hF (by decide) (fun G => [some (jd_v G (some t)), some (.int x0p), none, none]) rfl (by simp [lv_args, jd_al, jd_v_cat, jd_cti, jd_ctl]) (by simp [lg_sl, jd_v_cat, jd_cti, jd_ctl]) (fun X hD hX => ?_)
  have hX : jd_C X RX13 "knownBy" cX13_knownBy 4 (some .int) := hX
  unfold m_X13_knownBy
  refine jr_ild1 (pc := 0) hX dX13_knownBy_0 ?_
  refine jr_ist2 (pc := 1) hX (jn_i _) dX13_knownBy_1 ?_
  refine jr_iconst (pc := 2) hX 0 rfl dX13_knownBy_2 ?_
  refine jr_ist3 (pc := 3) hX (jn_i _) dX13_knownBy_3 ?_
  refine jr_loop (pc := 4) (fun (s1 : Int32 × Int32) => [some (jd_v (jd_gG X) (some t)), some (.int x0p), some (.int s1.1), some (.int s1.2)]) (fun (t2 : Int32) => [none, none, some (.int t2), none]) 45 (x0p, 0) (fun t2 σ2 => ?_) (fun K1 bk1 ex1 s1 σ1 => ?_)
  · refine jr_ild2 (pc := 45) hX dX13_knownBy_45 ?_
    exact jr_iret (pc := 46) hX dX13_knownBy_46 rfl
  · refine jr_ild3 (pc := 4) hX dX13_knownBy_4 ?_
    refine jr_ald0 (pc := 5) hX dX13_knownBy_5 ?_
    refine jr_ck0 (fun a3 e3 h3 => ?_)
    refine jr_getr (pc := 6) hX fX13_289 rfl dX13_knownBy_6 h3 ?_
    refine jr_ck0 (fun a4 e4 h4 => ?_)
    refine jr_getiN (pc := 9) hX fX13_185 rfl dX13_knownBy_9 h4 ?_
    refine jr_icge (pc := 12) hX 45 dX13_knownBy_12 (by decide) ?_ ?_
    · refine jr_wk [false, false, true, false] ?_
      exact ex1 s1.1 _
    · refine jr_ild2 (pc := 15) hX dX13_knownBy_15 ?_
      refine jr_ild1 (pc := 16) hX dX13_knownBy_16 ?_
      refine jr_ild3 (pc := 17) hX dX13_knownBy_17 ?_
      refine jr_cS2i (pc := 18) hX lX13_267 (c_X13_bit hX.F σ1 _ _) (jd_dd hD rfl) (Nat.le_of_ble_eq_true rfl) dX13_knownBy_18 (fun r5 σ5 p5 => ?_)
      refine jr_ifeq (pc := 21) hX 36 dX13_knownBy_21 (by decide) ?_ ?_
      · refine jr_iconst (pc := 36) hX 0 rfl dX13_knownBy_36 ?_
        refine jr_ior (pc := 37) hX dX13_knownBy_37 ?_
        refine jr_ist2 (pc := 38) hX (jn_i _) dX13_knownBy_38 ?_
        refine jr_li ?_
        refine jr_inc3 (pc := 39) hX 1 rfl (jn_i _) dX13_knownBy_39 ?_
        refine jr_goto (pc := 42) hX 4 dX13_knownBy_42 (by decide) ?_
        exact bk1 ((s1.1 ||| 0), (s1.2 + 1)) _
      · refine jr_ald0 (pc := 24) hX dX13_knownBy_24 ?_
        refine jr_ek0 e3 ?_
        refine jr_getr (pc := 25) hX fX13_289 rfl dX13_knownBy_25 (p5.at h3 :) ?_
        refine jr_ck0 (fun a7 e7 h7 => ?_)
        refine jr_getrN (pc := 28) hX fX13_274 rfl dX13_knownBy_28 h7 ?_
        refine jr_ild3 (pc := 31) hX dX13_knownBy_31 ?_
        refine jr_iaC (pc := 32) hX dX13_knownBy_32 (fun a8 n8 e8 h8 => ?_)
        refine jr_goto (pc := 33) hX 37 dX13_knownBy_33 (by decide) ?_
        refine jr_ior (pc := 37) hX dX13_knownBy_37 ?_
        refine jr_ist2 (pc := 38) hX (jn_i _) dX13_knownBy_38 ?_
        refine jr_li ?_
        refine jr_inc3 (pc := 39) hX 1 rfl (jn_i _) dX13_knownBy_39 ?_
        refine jr_goto (pc := 42) hX 4 dX13_knownBy_42 (by decide) ?_
        exact bk1 ((s1.1 ||| (σ5.2.1 a8 s1.2.toNatClampNeg)), (s1.2 + 1)) _
def m_X13_teach (t : Nat) (σ : jd_Hp) : Option (Int32 × jd_Hp) :=
jd_li (jd_pi σ t 0 0) fun τ1 =>
jd_if (¬ (τ1.2.2.2 t 3) = none) (
jd_b (jd_lp (S := Int32 × Int32) (T := Int32) (fun s2 σ2 =>
jd_o σ2 (13, 29) (some t) fun a4 =>
jd_b (m_X13_everybody a4 σ2) fun r5 σ5 =>
jd_if (r5 < s2.2) (
some ((Sum.inr s2.1), σ5)) (
jd_if (s2.1 = (-2)) (
jd_b (m_X13_knownBy a4 s2.2 σ5) fun r6 σ6 =>
jd_b (m_X13_everybody a4 σ6) fun r7 σ7 =>
jd_if (¬ r6 = r7) (
some (Sum.inl (s2.1, (s2.2 + 1)), σ7)) (
some (Sum.inl (s2.2, (s2.2 + 1)), σ7))) (
jd_b (m_X13_bits s2.2 σ5) fun r8 σ8 =>
jd_b (m_X13_bits s2.1 σ8) fun r9 σ9 =>
jd_if (r9 ≤ r8) (
some (Sum.inl (s2.1, (s2.2 + 1)), σ9)) (
jd_b (m_X13_knownBy a4 s2.2 σ9) fun r10 σ10 =>
jd_b (m_X13_everybody a4 σ10) fun r11 σ11 =>
jd_if (¬ r10 = r11) (
some (Sum.inl (s2.1, (s2.2 + 1)), σ11)) (
some (Sum.inl (s2.2, (s2.2 + 1)), σ11)))))) jd_fu ((-2), 0) τ1) fun t3 σ3 =>
jd_o σ3 (13, 29) (some t) fun a12 =>
jd_b (m_X13_good a12 t3 σ3) fun r13 σ13 =>
some (r13, σ13)) (
jd_b (m_X13_refused t 1 τ1) fun r14 σ14 =>
some (r14, σ14))
set_option maxHeartbeats 4000000 in
set_option maxRecDepth 20000 in
theorem c_X13_teach {l : Launch} {s0 : State} {G : jd_G} (hF : jd_F s0 G) (σ : jd_Hp) (t : Nat) (ht : σ.1[t]? = some (13, 29)) : jd_M l s0 G yX13_teach cX13_teach 3 (some .int) 2 je_i [jd_v G (some t)] σ (m_X13_teach t σ) := by
  refine jd_enter hF (by decide) (fun G => [some (jd_v G (some t)), none, none]) rfl (by simp [lv_args, jd_al, jd_v_cat, jd_cti, jd_ctl]) (by simp [lg_sl, jd_v_cat, jd_cti, jd_ctl]) (fun X hD hX => ?_)
  have hX : jd_C X RX13 "teach" cX13_teach 3 (some .int) := hX
  unfold m_X13_teach
  refine jr_ald0 (pc := 0) hX dX13_teach_0 ?_
  refine jr_iconst (pc := 1) hX 0 rfl dX13_teach_1 ?_
  refine jr_puti (pc := 2) hX fX13_48 rfl dX13_teach_2 ht ?_
  refine jr_li ?_
  refine jr_ald0 (pc := 5) hX dX13_teach_5 ?_
  refine jr_getr (pc := 6) hX fX13_289 rfl dX13_teach_6 ht ?_
  refine jr_ifnonnull (pc := 9) hX 18 dX13_teach_9 (by decide) ?_ ?_
  · refine jr_bipush (pc := 18) hX (-2) rfl dX13_teach_18 ?_
    refine jr_ist1 (pc := 20) hX (jn_r _ _) dX13_teach_20 ?_
    refine jr_iconst (pc := 21) hX 0 rfl dX13_teach_21 ?_
    refine jr_ist2 (pc := 22) hX (jn_i _) dX13_teach_22 ?_
    refine jr_loop (pc := 23) (fun (s2 : Int32 × Int32) => [some (jd_v (jd_gG X) (some t)), some (.int s2.1), some (.int s2.2)]) (fun (t3 : Int32) => [some (jd_v (jd_gG X) (some t)), some (.int t3), none]) 68 ((-2), 0) (fun t3 σ3 => ?_) (fun K2 bk2 ex2 s2 σ2 => ?_)
    · refine jr_ald0 (pc := 68) hX dX13_teach_68 ?_
      refine jr_ild1 (pc := 69) hX dX13_teach_69 ?_
      refine jr_ck1 (fun a12 e12 h12 => ?_)
      refine jr_cV1i (pc := 70) hX lX13_58 (c_X13_good hX.F σ3 a12 h12 _) (jd_dd hD rfl) (Nat.le_of_ble_eq_true rfl) dX13_teach_70 h12 (fun r13 σ13 p13 => ?_)
      exact jr_iret (pc := 73) hX dX13_teach_73 rfl
    · refine jr_ild2 (pc := 23) hX dX13_teach_23 ?_
      refine jr_ald0 (pc := 24) hX dX13_teach_24 ?_
      refine jr_ck0 (fun a4 e4 h4 => ?_)
      refine jr_cV0i (pc := 25) hX lX13_374 (c_X13_everybody hX.F σ2 a4 h4) (jd_dd hD rfl) (Nat.le_of_ble_eq_true rfl) dX13_teach_25 h4 (fun r5 σ5 p5 => ?_)
      refine jr_icgt (pc := 28) hX 68 dX13_teach_28 (by decide) ?_ ?_
      · refine jr_wk [true, true, false] ?_
        exact ex2 s2.1 _
      · refine jr_ild1 (pc := 31) hX dX13_teach_31 ?_
        refine jr_bipush (pc := 32) hX (-2) rfl dX13_teach_32 ?_
        refine jr_iceq (pc := 34) hX 48 dX13_teach_34 (by decide) ?_ ?_
        · refine jr_ald0 (pc := 48) hX dX13_teach_48 ?_
          refine jr_ild2 (pc := 49) hX dX13_teach_49 ?_
          refine jr_ek1 e4 ?_
          refine jr_cV1i (pc := 50) hX lX13_386 (c_X13_knownBy hX.F σ5 a4 (p5.at h4 :) _) (jd_dd hD rfl) (Nat.le_of_ble_eq_true rfl) dX13_teach_50 (p5.at h4 :) (fun r6 σ6 p6 => ?_)
          refine jr_ald0 (pc := 53) hX dX13_teach_53 ?_
          refine jr_ek0 e4 ?_
          refine jr_cV0i (pc := 54) hX lX13_374 (c_X13_everybody hX.F σ6 a4 (p6.at (p5.at h4 :) :)) (jd_dd hD rfl) (Nat.le_of_ble_eq_true rfl) dX13_teach_54 (p6.at (p5.at h4 :) :) (fun r7 σ7 p7 => ?_)
          refine jr_icne (pc := 57) hX 62 dX13_teach_57 (by decide) ?_ ?_
          · refine jr_inc2 (pc := 62) hX 1 rfl (jn_i _) dX13_teach_62 ?_
            refine jr_goto (pc := 65) hX 23 dX13_teach_65 (by decide) ?_
            exact bk2 (s2.1, (s2.2 + 1)) _
          · refine jr_ild2 (pc := 60) hX dX13_teach_60 ?_
            refine jr_ist1 (pc := 61) hX (jn_r _ _) dX13_teach_61 ?_
            refine jr_inc2 (pc := 62) hX 1 rfl (jn_i _) dX13_teach_62 ?_
            refine jr_goto (pc := 65) hX 23 dX13_teach_65 (by decide) ?_
            exact bk2 (s2.2, (s2.2 + 1)) _
        · refine jr_ild2 (pc := 37) hX dX13_teach_37 ?_
          refine jr_cS1i (pc := 38) hX lX13_303 (c_X13_bits hX.F σ5 _) (jd_dd hD rfl) (Nat.le_of_ble_eq_true rfl) dX13_teach_38 (fun r8 σ8 p8 => ?_)
          refine jr_ild1 (pc := 41) hX dX13_teach_41 ?_
          refine jr_cS1i (pc := 42) hX lX13_303 (c_X13_bits hX.F σ8 _) (jd_dd hD rfl) (Nat.le_of_ble_eq_true rfl) dX13_teach_42 (fun r9 σ9 p9 => ?_)
          refine jr_icge (pc := 45) hX 62 dX13_teach_45 (by decide) ?_ ?_
          · refine jr_inc2 (pc := 62) hX 1 rfl (jn_i _) dX13_teach_62 ?_
            refine jr_goto (pc := 65) hX 23 dX13_teach_65 (by decide) ?_
            exact bk2 (s2.1, (s2.2 + 1)) _
          · refine jr_ald0 (pc := 48) hX dX13_teach_48 ?_
            refine jr_ild2 (pc := 49) hX dX13_teach_49 ?_
            refine jr_ek1 e4 ?_
            refine jr_cV1i (pc := 50) hX lX13_386 (c_X13_knownBy hX.F σ9 a4 (p9.at (p8.at (p5.at h4 :) :) :) _) (jd_dd hD rfl) (Nat.le_of_ble_eq_true rfl) dX13_teach_50 (p9.at (p8.at (p5.at h4 :) :) :) (fun r10 σ10 p10 => ?_)
            refine jr_ald0 (pc := 53) hX dX13_teach_53 ?_
            refine jr_ek0 e4 ?_
            refine jr_cV0i (pc := 54) hX lX13_374 (c_X13_everybody hX.F σ10 a4 (p10.at (p9.at (p8.at (p5.at h4 :) :) :) :)) (jd_dd hD rfl) (Nat.le_of_ble_eq_true rfl) dX13_teach_54 (p10.at (p9.at (p8.at (p5.at h4 :) :) :) :) (fun r11 σ11 p11 => ?_)
            refine jr_icne (pc := 57) hX 62 dX13_teach_57 (by decide) ?_ ?_
            · refine jr_inc2 (pc := 62) hX 1 rfl (jn_i _) dX13_teach_62 ?_
              refine jr_goto (pc := 65) hX 23 dX13_teach_65 (by decide) ?_
              exact bk2 (s2.1, (s2.2 + 1)) _
            · refine jr_ild2 (pc := 60) hX dX13_teach_60 ?_
              refine jr_ist1 (pc := 61) hX (jn_r _ _) dX13_teach_61 ?_
              refine jr_inc2 (pc := 62) hX 1 rfl (jn_i _) dX13_teach_62 ?_
              refine jr_goto (pc := 65) hX 23 dX13_teach_65 (by decide) ?_
              exact bk2 (s2.2, (s2.2 + 1)) _
  · refine jr_ald0 (pc := 12) hX dX13_teach_12 ?_
    refine jr_iconst (pc := 13) hX 1 rfl dX13_teach_13 ?_
    refine jr_cV1i (pc := 14) hX lX13_54 (c_X13_refused hX.F (jd_pi σ t 0 0) t ht _) (jd_dd hD rfl) (Nat.le_of_ble_eq_true rfl) dX13_teach_14 ht (fun r14 σ14 p14 => ?_)
    exact jr_iret (pc := 17) hX dX13_teach_17 rfl
