theorem fX11_172 : jd_fl RX11 172 6 7 8 false := ⟨_, _, rfl, by decide, by decide, rfl, rfl, jd_mem 348 (by decide +kernel) (by decide +kernel)⟩
theorem lX11_175 : jd_mv RX11 175 6 8 yX6_nearestManned cX6_nearestManned 5 (some .int) 1 := ⟨_, _, rfl, by decide, rfl, Or.inl (jd_mem 857 (by decide +kernel) (by decide +kernel)), qX6_nearestManned.1, qX6_nearestManned.2.1, qX6_nearestManned.2.2.1, qX6_nearestManned.2.2.2.1, qX6_nearestManned.2.2.2.2, by decide⟩
theorem qX6_fewestPosts : Cond.instanceMethod yX6_fewestPosts ∈ jd_TB ∧ Cond.selects RX6 yX6_fewestPosts yX6_fewestPosts ∈ jd_TB ∧ Cond.initialized RX6 ∈ jd_TB ∧ Cond.code yX6_fewestPosts cX6_fewestPosts 3 (some .int) ∈ jd_TB ∧ jd_ds yX6_fewestPosts 0 := ⟨jd_mem 866 (by decide +kernel) (by decide +kernel), jd_mem 867 (by decide +kernel) (by decide +kernel), jd_mem 95 (by decide +kernel) (by decide +kernel), jd_mem 868 (by decide +kernel) (by decide +kernel), ⟨by decide, by decide, by decide +kernel⟩⟩
theorem lX11_178 : jd_mv RX11 178 6 8 yX6_fewestPosts cX6_fewestPosts 3 (some .int) 0 := ⟨_, _, rfl, by decide, rfl, Or.inl (jd_mem 865 (by decide +kernel) (by decide +kernel)), qX6_fewestPosts.1, qX6_fewestPosts.2.1, qX6_fewestPosts.2.2.1, qX6_fewestPosts.2.2.2.1, qX6_fewestPosts.2.2.2.2, by decide⟩
theorem qX6_coveringSets : Cond.instanceMethod yX6_coveringSets ∈ jd_TB ∧ Cond.selects RX6 yX6_coveringSets yX6_coveringSets ∈ jd_TB ∧ Cond.initialized RX6 ∈ jd_TB ∧ Cond.code yX6_coveringSets cX6_coveringSets 3 (some .int) ∈ jd_TB ∧ jd_ds yX6_coveringSets 0 := ⟨jd_mem 878 (by decide +kernel) (by decide +kernel), jd_mem 879 (by decide +kernel) (by decide +kernel), jd_mem 95 (by decide +kernel) (by decide +kernel), jd_mem 880 (by decide +kernel) (by decide +kernel), ⟨by decide, by decide, by decide +kernel⟩⟩
theorem lX11_181 : jd_mv RX11 181 6 8 yX6_coveringSets cX6_coveringSets 3 (some .int) 0 := ⟨_, _, rfl, by decide, rfl, Or.inl (jd_mem 877 (by decide +kernel) (by decide +kernel)), qX6_coveringSets.1, qX6_coveringSets.2.1, qX6_coveringSets.2.2.1, qX6_coveringSets.2.2.2.1, qX6_coveringSets.2.2.2.2, by decide⟩
theorem qX6_postOfMostMore : Cond.instanceMethod yX6_postOfMostMore ∈ jd_TB ∧ Cond.selects RX6 yX6_postOfMostMore yX6_postOfMostMore ∈ jd_TB ∧ Cond.initialized RX6 ∈ jd_TB ∧ Cond.code yX6_postOfMostMore cX6_postOfMostMore 5 (some .int) ∈ jd_TB ∧ jd_ds yX6_postOfMostMore 0 := ⟨jd_mem 886 (by decide +kernel) (by decide +kernel), jd_mem 887 (by decide +kernel) (by decide +kernel), jd_mem 95 (by decide +kernel) (by decide +kernel), jd_mem 888 (by decide +kernel) (by decide +kernel), ⟨by decide, by decide, by decide +kernel⟩⟩
theorem lX11_184 : jd_mv RX11 184 6 8 yX6_postOfMostMore cX6_postOfMostMore 5 (some .int) 0 := ⟨_, _, rfl, by decide, rfl, Or.inl (jd_mem 885 (by decide +kernel) (by decide +kernel)), qX6_postOfMostMore.1, qX6_postOfMostMore.2.1, qX6_postOfMostMore.2.2.1, qX6_postOfMostMore.2.2.2.1, qX6_postOfMostMore.2.2.2.2, by decide⟩
theorem qX6_placeOfMostReached : Cond.instanceMethod yX6_placeOfMostReached ∈ jd_TB ∧ Cond.selects RX6 yX6_placeOfMostReached yX6_placeOfMostReached ∈ jd_TB ∧ Cond.initialized RX6 ∈ jd_TB ∧ Cond.code yX6_placeOfMostReached cX6_placeOfMostReached 7 (some .int) ∈ jd_TB ∧ jd_ds yX6_placeOfMostReached 1 := ⟨jd_mem 894 (by decide +kernel) (by decide +kernel), jd_mem 895 (by decide +kernel) (by decide +kernel), jd_mem 95 (by decide +kernel) (by decide +kernel), jd_mem 896 (by decide +kernel) (by decide +kernel), ⟨by decide, by decide, by decide +kernel⟩⟩
theorem lX11_187 : jd_mv RX11 187 6 8 yX6_placeOfMostReached cX6_placeOfMostReached 7 (some .int) 1 := ⟨_, _, rfl, by decide, rfl, Or.inl (jd_mem 893 (by decide +kernel) (by decide +kernel)), qX6_placeOfMostReached.1, qX6_placeOfMostReached.2.1, qX6_placeOfMostReached.2.2.1, qX6_placeOfMostReached.2.2.2.1, qX6_placeOfMostReached.2.2.2.2, by decide⟩
theorem qX6_leastLimit : Cond.instanceMethod yX6_leastLimit ∈ jd_TB ∧ Cond.selects RX6 yX6_leastLimit yX6_leastLimit ∈ jd_TB ∧ Cond.initialized RX6 ∈ jd_TB ∧ Cond.code yX6_leastLimit cX6_leastLimit 4 (some .int) ∈ jd_TB ∧ jd_ds yX6_leastLimit 0 := ⟨jd_mem 902 (by decide +kernel) (by decide +kernel), jd_mem 903 (by decide +kernel) (by decide +kernel), jd_mem 95 (by decide +kernel) (by decide +kernel), jd_mem 904 (by decide +kernel) (by decide +kernel), ⟨by decide, by decide, by decide +kernel⟩⟩
theorem lX11_190 : jd_mv RX11 190 6 8 yX6_leastLimit cX6_leastLimit 4 (some .int) 0 := ⟨_, _, rfl, by decide, rfl, Or.inl (jd_mem 901 (by decide +kernel) (by decide +kernel)), qX6_leastLimit.1, qX6_leastLimit.2.1, qX6_leastLimit.2.2.1, qX6_leastLimit.2.2.2.1, qX6_leastLimit.2.2.2.2, by decide⟩
theorem qX0_search : Cond.instanceMethod yX0_search ∈ jd_TB ∧ Cond.selects RX0 yX0_search yX0_search ∈ jd_TB ∧ Cond.initialized RX0 ∈ jd_TB ∧ Cond.code yX0_search cX0_search 3 none ∈ jd_TB ∧ jd_ds yX0_search 2 := ⟨jd_mem 912 (by decide +kernel) (by decide +kernel), jd_mem 913 (by decide +kernel) (by decide +kernel), jd_mem 99 (by decide +kernel) (by decide +kernel), jd_mem 914 (by decide +kernel) (by decide +kernel), ⟨by decide, by decide, by decide +kernel⟩⟩
theorem lX11_193 : jd_mv RX11 193 0 4 yX0_search cX0_search 3 none 2 := ⟨_, _, rfl, by decide, rfl, Or.inl (jd_mem 911 (by decide +kernel) (by decide +kernel)), qX0_search.1, qX0_search.2.1, qX0_search.2.2.1, qX0_search.2.2.2.1, qX0_search.2.2.2.2, by decide⟩
theorem fX11_197 : jd_fl RX11 197 0 2 4 false := ⟨_, _, rfl, by decide, by decide, rfl, rfl, jd_mem 403 (by decide +kernel) (by decide +kernel)⟩
theorem fX11_200 : jd_fl RX11 200 0 0 4 true := ⟨_, _, rfl, by decide, by decide, rfl, rfl, jd_mem 400 (by decide +kernel) (by decide +kernel)⟩
theorem fX11_204 : jd_fl RX11 204 0 3 4 false := ⟨_, _, rfl, by decide, by decide, rfl, rfl, jd_mem 405 (by decide +kernel) (by decide +kernel)⟩
theorem qX5_search : Cond.instanceMethod yX5_search ∈ jd_TB ∧ Cond.selects RX5 yX5_search yX5_search ∈ jd_TB ∧ Cond.initialized RX5 ∈ jd_TB ∧ Cond.code yX5_search cX5_search 4 none ∈ jd_TB ∧ jd_ds yX5_search 1 := ⟨jd_mem 944 (by decide +kernel) (by decide +kernel), jd_mem 945 (by decide +kernel) (by decide +kernel), jd_mem 100 (by decide +kernel) (by decide +kernel), jd_mem 946 (by decide +kernel) (by decide +kernel), ⟨by decide, by decide, by decide +kernel⟩⟩
theorem lX11_210 : jd_mv RX11 210 5 4 yX5_search cX5_search 4 none 1 := ⟨_, _, rfl, by decide, rfl, Or.inl (jd_mem 943 (by decide +kernel) (by decide +kernel)), qX5_search.1, qX5_search.2.1, qX5_search.2.2.1, qX5_search.2.2.2.1, qX5_search.2.2.2.2, by decide⟩
theorem fX11_213 : jd_fl RX11 213 5 3 4 false := ⟨_, _, rfl, by decide, by decide, rfl, rfl, jd_mem 426 (by decide +kernel) (by decide +kernel)⟩
theorem fX11_216 : jd_fl RX11 216 6 0 8 true := ⟨_, _, rfl, by decide, by decide, rfl, rfl, jd_mem 329 (by decide +kernel) (by decide +kernel)⟩
theorem fX11_220 : jd_fl RX11 220 4 0 4 true := ⟨_, _, rfl, by decide, by decide, rfl, rfl, jd_mem 213 (by decide +kernel) (by decide +kernel)⟩
theorem fX11_225 : jd_fl RX11 225 5 0 4 true := ⟨_, _, rfl, by decide, by decide, rfl, rfl, jd_mem 422 (by decide +kernel) (by decide +kernel)⟩
theorem qX6_placeOfFewestSinkers : Cond.instanceMethod yX6_placeOfFewestSinkers ∈ jd_TB ∧ Cond.selects RX6 yX6_placeOfFewestSinkers yX6_placeOfFewestSinkers ∈ jd_TB ∧ Cond.initialized RX6 ∈ jd_TB ∧ Cond.code yX6_placeOfFewestSinkers cX6_placeOfFewestSinkers 6 (some .int) ∈ jd_TB ∧ jd_ds yX6_placeOfFewestSinkers 1 := ⟨jd_mem 969 (by decide +kernel) (by decide +kernel), jd_mem 970 (by decide +kernel) (by decide +kernel), jd_mem 95 (by decide +kernel) (by decide +kernel), jd_mem 971 (by decide +kernel) (by decide +kernel), ⟨by decide, by decide, by decide +kernel⟩⟩
theorem lX11_226 : jd_mv RX11 226 6 8 yX6_placeOfFewestSinkers cX6_placeOfFewestSinkers 6 (some .int) 1 := ⟨_, _, rfl, by decide, rfl, Or.inl (jd_mem 968 (by decide +kernel) (by decide +kernel)), qX6_placeOfFewestSinkers.1, qX6_placeOfFewestSinkers.2.1, qX6_placeOfFewestSinkers.2.2.1, qX6_placeOfFewestSinkers.2.2.2.1, qX6_placeOfFewestSinkers.2.2.2.2, by decide⟩
theorem fX11_363 : jd_fl RX11 363 3 0 2 false := ⟨_, _, rfl, by decide, by decide, rfl, rfl, jd_mem 475 (by decide +kernel) (by decide +kernel)⟩
theorem fX11_360 : jd_fl RX11 360 3 1 2 false := ⟨_, _, rfl, by decide, by decide, rfl, rfl, jd_mem 477 (by decide +kernel) (by decide +kernel)⟩
theorem dX11_reached_0 : decode cX11_reached 0 = .ok (.aload_n 0, 1) := by decide +kernel
theorem dX11_reached_1 : decode cX11_reached 1 = .ok (.getfield 85, 3) := by decide +kernel
theorem dX11_reached_4 : decode cX11_reached 4 = .ok (.ifCond .ne 9, 3) := by decide +kernel
theorem dX11_reached_7 : decode cX11_reached 7 = .ok (.aload_n 0, 1) := by decide +kernel
theorem dX11_reached_8 : decode cX11_reached 8 = .ok (.iconst 1, 1) := by decide +kernel
theorem dX11_reached_9 : decode cX11_reached 9 = .ok (.invokevirtual 104, 3) := by decide +kernel
theorem dX11_reached_12 : decode cX11_reached 12 = .ok (.ireturn, 1) := by decide +kernel
theorem dX11_reached_13 : decode cX11_reached 13 = .ok (.aload_n 0, 1) := by decide +kernel
theorem dX11_reached_14 : decode cX11_reached 14 = .ok (.aload_n 0, 1) := by decide +kernel
theorem dX11_reached_15 : decode cX11_reached 15 = .ok (.getfield 32, 3) := by decide +kernel
theorem dX11_reached_18 : decode cX11_reached 18 = .ok (.getfield 153, 3) := by decide +kernel
theorem dX11_reached_21 : decode cX11_reached 21 = .ok (.aload_n 0, 1) := by decide +kernel
theorem dX11_reached_22 : decode cX11_reached 22 = .ok (.getfield 32, 3) := by decide +kernel
theorem dX11_reached_25 : decode cX11_reached 25 = .ok (.getfield 172, 3) := by decide +kernel
theorem dX11_reached_28 : decode cX11_reached 28 = .ok (.iand, 1) := by decide +kernel
theorem dX11_reached_29 : decode cX11_reached 29 = .ok (.invokevirtual 128, 3) := by decide +kernel
theorem dX11_reached_32 : decode cX11_reached 32 = .ok (.ireturn, 1) := by decide +kernel
theorem dX11_nearest_0 : decode cX11_nearest 0 = .ok (.aload_n 0, 1) := by decide +kernel
theorem dX11_nearest_1 : decode cX11_nearest 1 = .ok (.iload_n 1, 1) := by decide +kernel
theorem dX11_nearest_2 : decode cX11_nearest 2 = .ok (.invokevirtual 137, 3) := by decide +kernel
theorem dX11_nearest_5 : decode cX11_nearest 5 = .ok (.ifCond .ne 9, 3) := by decide +kernel
theorem dX11_nearest_8 : decode cX11_nearest 8 = .ok (.aload_n 0, 1) := by decide +kernel
theorem dX11_nearest_9 : decode cX11_nearest 9 = .ok (.iconst 1, 1) := by decide +kernel
theorem dX11_nearest_10 : decode cX11_nearest 10 = .ok (.invokevirtual 104, 3) := by decide +kernel
theorem dX11_nearest_13 : decode cX11_nearest 13 = .ok (.ireturn, 1) := by decide +kernel
theorem dX11_nearest_14 : decode cX11_nearest 14 = .ok (.aload_n 0, 1) := by decide +kernel
theorem dX11_nearest_15 : decode cX11_nearest 15 = .ok (.aload_n 0, 1) := by decide +kernel
theorem dX11_nearest_16 : decode cX11_nearest 16 = .ok (.getfield 32, 3) := by decide +kernel
theorem dX11_nearest_19 : decode cX11_nearest 19 = .ok (.iload_n 1, 1) := by decide +kernel
theorem dX11_nearest_20 : decode cX11_nearest 20 = .ok (.invokevirtual 175, 3) := by decide +kernel
theorem dX11_nearest_23 : decode cX11_nearest 23 = .ok (.invokevirtual 128, 3) := by decide +kernel
theorem dX11_nearest_26 : decode cX11_nearest 26 = .ok (.ireturn, 1) := by decide +kernel
theorem dX11_cover_0 : decode cX11_cover 0 = .ok (.aload_n 0, 1) := by decide +kernel
theorem dX11_cover_1 : decode cX11_cover 1 = .ok (.getfield 85, 3) := by decide +kernel
theorem dX11_cover_4 : decode cX11_cover 4 = .ok (.ifCond .ne 9, 3) := by decide +kernel
theorem dX11_cover_7 : decode cX11_cover 7 = .ok (.aload_n 0, 1) := by decide +kernel
theorem dX11_cover_8 : decode cX11_cover 8 = .ok (.iconst 1, 1) := by decide +kernel
theorem dX11_cover_9 : decode cX11_cover 9 = .ok (.invokevirtual 104, 3) := by decide +kernel
theorem dX11_cover_12 : decode cX11_cover 12 = .ok (.ireturn, 1) := by decide +kernel
theorem dX11_cover_13 : decode cX11_cover 13 = .ok (.aload_n 0, 1) := by decide +kernel
theorem dX11_cover_14 : decode cX11_cover 14 = .ok (.aload_n 0, 1) := by decide +kernel
theorem dX11_cover_15 : decode cX11_cover 15 = .ok (.getfield 32, 3) := by decide +kernel
theorem dX11_cover_18 : decode cX11_cover 18 = .ok (.invokevirtual 178, 3) := by decide +kernel
theorem dX11_cover_21 : decode cX11_cover 21 = .ok (.invokevirtual 128, 3) := by decide +kernel
theorem dX11_cover_24 : decode cX11_cover 24 = .ok (.ireturn, 1) := by decide +kernel
theorem dX11_covers_0 : decode cX11_covers 0 = .ok (.aload_n 0, 1) := by decide +kernel
theorem dX11_covers_1 : decode cX11_covers 1 = .ok (.getfield 85, 3) := by decide +kernel
theorem dX11_covers_4 : decode cX11_covers 4 = .ok (.ifCond .ne 9, 3) := by decide +kernel
theorem dX11_covers_7 : decode cX11_covers 7 = .ok (.aload_n 0, 1) := by decide +kernel
theorem dX11_covers_8 : decode cX11_covers 8 = .ok (.iconst 1, 1) := by decide +kernel
theorem dX11_covers_9 : decode cX11_covers 9 = .ok (.invokevirtual 104, 3) := by decide +kernel
theorem dX11_covers_12 : decode cX11_covers 12 = .ok (.ireturn, 1) := by decide +kernel
theorem dX11_covers_13 : decode cX11_covers 13 = .ok (.aload_n 0, 1) := by decide +kernel
theorem dX11_covers_14 : decode cX11_covers 14 = .ok (.aload_n 0, 1) := by decide +kernel
theorem dX11_covers_15 : decode cX11_covers 15 = .ok (.getfield 32, 3) := by decide +kernel
theorem dX11_covers_18 : decode cX11_covers 18 = .ok (.invokevirtual 181, 3) := by decide +kernel
theorem dX11_covers_21 : decode cX11_covers 21 = .ok (.invokevirtual 128, 3) := by decide +kernel
theorem dX11_covers_24 : decode cX11_covers 24 = .ok (.ireturn, 1) := by decide +kernel
theorem dX11_bestPost_0 : decode cX11_bestPost 0 = .ok (.aload_n 0, 1) := by decide +kernel
theorem dX11_bestPost_1 : decode cX11_bestPost 1 = .ok (.getfield 85, 3) := by decide +kernel
theorem dX11_bestPost_4 : decode cX11_bestPost 4 = .ok (.ifCond .ne 9, 3) := by decide +kernel
theorem dX11_bestPost_7 : decode cX11_bestPost 7 = .ok (.aload_n 0, 1) := by decide +kernel
theorem dX11_bestPost_8 : decode cX11_bestPost 8 = .ok (.iconst 1, 1) := by decide +kernel
theorem dX11_bestPost_9 : decode cX11_bestPost 9 = .ok (.invokevirtual 104, 3) := by decide +kernel
theorem dX11_bestPost_12 : decode cX11_bestPost 12 = .ok (.ireturn, 1) := by decide +kernel
theorem dX11_bestPost_13 : decode cX11_bestPost 13 = .ok (.aload_n 0, 1) := by decide +kernel
theorem dX11_bestPost_14 : decode cX11_bestPost 14 = .ok (.aload_n 0, 1) := by decide +kernel
theorem dX11_bestPost_15 : decode cX11_bestPost 15 = .ok (.getfield 32, 3) := by decide +kernel
theorem dX11_bestPost_18 : decode cX11_bestPost 18 = .ok (.invokevirtual 184, 3) := by decide +kernel
theorem dX11_bestPost_21 : decode cX11_bestPost 21 = .ok (.invokevirtual 128, 3) := by decide +kernel
theorem dX11_bestPost_24 : decode cX11_bestPost 24 = .ok (.ireturn, 1) := by decide +kernel
theorem dX11_bestPlace_0 : decode cX11_bestPlace 0 = .ok (.aload_n 0, 1) := by decide +kernel
theorem dX11_bestPlace_1 : decode cX11_bestPlace 1 = .ok (.getfield 85, 3) := by decide +kernel
theorem dX11_bestPlace_4 : decode cX11_bestPlace 4 = .ok (.ifCond .ne 9, 3) := by decide +kernel
theorem dX11_bestPlace_7 : decode cX11_bestPlace 7 = .ok (.aload_n 0, 1) := by decide +kernel
theorem dX11_bestPlace_8 : decode cX11_bestPlace 8 = .ok (.iconst 1, 1) := by decide +kernel
theorem dX11_bestPlace_9 : decode cX11_bestPlace 9 = .ok (.invokevirtual 104, 3) := by decide +kernel
theorem dX11_bestPlace_12 : decode cX11_bestPlace 12 = .ok (.ireturn, 1) := by decide +kernel
theorem dX11_bestPlace_13 : decode cX11_bestPlace 13 = .ok (.iload_n 1, 1) := by decide +kernel
theorem dX11_bestPlace_14 : decode cX11_bestPlace 14 = .ok (.iconst 1, 1) := by decide +kernel
theorem dX11_bestPlace_15 : decode cX11_bestPlace 15 = .ok (.if_icmp .lt 9, 3) := by decide +kernel
theorem dX11_bestPlace_18 : decode cX11_bestPlace 18 = .ok (.iload_n 1, 1) := by decide +kernel
theorem dX11_bestPlace_19 : decode cX11_bestPlace 19 = .ok (.bipush 40, 2) := by decide +kernel
theorem dX11_bestPlace_21 : decode cX11_bestPlace 21 = .ok (.if_icmp .le 9, 3) := by decide +kernel
theorem dX11_bestPlace_24 : decode cX11_bestPlace 24 = .ok (.aload_n 0, 1) := by decide +kernel
theorem dX11_bestPlace_25 : decode cX11_bestPlace 25 = .ok (.iconst 2, 1) := by decide +kernel
theorem dX11_bestPlace_26 : decode cX11_bestPlace 26 = .ok (.invokevirtual 104, 3) := by decide +kernel
theorem dX11_bestPlace_29 : decode cX11_bestPlace 29 = .ok (.ireturn, 1) := by decide +kernel
theorem dX11_bestPlace_30 : decode cX11_bestPlace 30 = .ok (.aload_n 0, 1) := by decide +kernel
theorem dX11_bestPlace_31 : decode cX11_bestPlace 31 = .ok (.aload_n 0, 1) := by decide +kernel
theorem dX11_bestPlace_32 : decode cX11_bestPlace 32 = .ok (.getfield 32, 3) := by decide +kernel
theorem dX11_bestPlace_35 : decode cX11_bestPlace 35 = .ok (.iload_n 1, 1) := by decide +kernel
theorem dX11_bestPlace_36 : decode cX11_bestPlace 36 = .ok (.invokevirtual 187, 3) := by decide +kernel
theorem dX11_bestPlace_39 : decode cX11_bestPlace 39 = .ok (.invokevirtual 128, 3) := by decide +kernel
theorem dX11_bestPlace_42 : decode cX11_bestPlace 42 = .ok (.ireturn, 1) := by decide +kernel
theorem dX11_limitFor_0 : decode cX11_limitFor 0 = .ok (.aload_n 0, 1) := by decide +kernel
theorem dX11_limitFor_1 : decode cX11_limitFor 1 = .ok (.getfield 85, 3) := by decide +kernel
theorem dX11_limitFor_4 : decode cX11_limitFor 4 = .ok (.ifCond .ne 9, 3) := by decide +kernel
theorem dX11_limitFor_7 : decode cX11_limitFor 7 = .ok (.aload_n 0, 1) := by decide +kernel
theorem dX11_limitFor_8 : decode cX11_limitFor 8 = .ok (.iconst 1, 1) := by decide +kernel
theorem dX11_limitFor_9 : decode cX11_limitFor 9 = .ok (.invokevirtual 104, 3) := by decide +kernel
theorem dX11_limitFor_12 : decode cX11_limitFor 12 = .ok (.ireturn, 1) := by decide +kernel
theorem dX11_limitFor_13 : decode cX11_limitFor 13 = .ok (.aload_n 0, 1) := by decide +kernel
theorem dX11_limitFor_14 : decode cX11_limitFor 14 = .ok (.aload_n 0, 1) := by decide +kernel
theorem dX11_limitFor_15 : decode cX11_limitFor 15 = .ok (.getfield 32, 3) := by decide +kernel
theorem dX11_limitFor_18 : decode cX11_limitFor 18 = .ok (.invokevirtual 190, 3) := by decide +kernel
theorem dX11_limitFor_21 : decode cX11_limitFor 21 = .ok (.invokevirtual 128, 3) := by decide +kernel
theorem dX11_limitFor_24 : decode cX11_limitFor 24 = .ok (.ireturn, 1) := by decide +kernel
theorem dX11_alone_0 : decode cX11_alone 0 = .ok (.aload_n 0, 1) := by decide +kernel
theorem dX11_alone_1 : decode cX11_alone 1 = .ok (.iload_n 1, 1) := by decide +kernel
theorem dX11_alone_2 : decode cX11_alone 2 = .ok (.invokevirtual 144, 3) := by decide +kernel
theorem dX11_alone_5 : decode cX11_alone 5 = .ok (.ifCond .ne 9, 3) := by decide +kernel
theorem dX11_alone_8 : decode cX11_alone 8 = .ok (.aload_n 0, 1) := by decide +kernel
theorem dX11_alone_9 : decode cX11_alone 9 = .ok (.iconst 1, 1) := by decide +kernel
theorem dX11_alone_10 : decode cX11_alone 10 = .ok (.invokevirtual 104, 3) := by decide +kernel
theorem dX11_alone_13 : decode cX11_alone 13 = .ok (.ireturn, 1) := by decide +kernel
theorem dX11_alone_14 : decode cX11_alone 14 = .ok (.aload_n 0, 1) := by decide +kernel
theorem dX11_alone_15 : decode cX11_alone 15 = .ok (.getfield 46, 3) := by decide +kernel
theorem dX11_alone_18 : decode cX11_alone 18 = .ok (.aload_n 0, 1) := by decide +kernel
theorem dX11_alone_19 : decode cX11_alone 19 = .ok (.getfield 32, 3) := by decide +kernel
theorem dX11_alone_22 : decode cX11_alone 22 = .ok (.iload_n 1, 1) := by decide +kernel
theorem dX11_alone_23 : decode cX11_alone 23 = .ok (.invokevirtual 193, 3) := by decide +kernel
theorem dX11_alone_26 : decode cX11_alone 26 = .ok (.aload_n 0, 1) := by decide +kernel
theorem dX11_alone_27 : decode cX11_alone 27 = .ok (.aload_n 0, 1) := by decide +kernel
theorem dX11_alone_28 : decode cX11_alone 28 = .ok (.getfield 46, 3) := by decide +kernel
theorem dX11_alone_31 : decode cX11_alone 31 = .ok (.getfield 197, 3) := by decide +kernel
theorem dX11_alone_34 : decode cX11_alone 34 = .ok (.invokevirtual 128, 3) := by decide +kernel
theorem dX11_alone_37 : decode cX11_alone 37 = .ok (.ireturn, 1) := by decide +kernel
theorem dX11_aloneAt_0 : decode cX11_aloneAt 0 = .ok (.aload_n 0, 1) := by decide +kernel
theorem dX11_aloneAt_1 : decode cX11_aloneAt 1 = .ok (.iload_n 1, 1) := by decide +kernel
theorem dX11_aloneAt_2 : decode cX11_aloneAt 2 = .ok (.invokevirtual 144, 3) := by decide +kernel
theorem dX11_aloneAt_5 : decode cX11_aloneAt 5 = .ok (.ifCond .ne 9, 3) := by decide +kernel
theorem dX11_aloneAt_8 : decode cX11_aloneAt 8 = .ok (.aload_n 0, 1) := by decide +kernel
theorem dX11_aloneAt_9 : decode cX11_aloneAt 9 = .ok (.iconst 1, 1) := by decide +kernel
theorem dX11_aloneAt_10 : decode cX11_aloneAt 10 = .ok (.invokevirtual 104, 3) := by decide +kernel
theorem dX11_aloneAt_13 : decode cX11_aloneAt 13 = .ok (.ireturn, 1) := by decide +kernel
theorem dX11_aloneAt_14 : decode cX11_aloneAt 14 = .ok (.aload_n 0, 1) := by decide +kernel
theorem dX11_aloneAt_15 : decode cX11_aloneAt 15 = .ok (.getfield 46, 3) := by decide +kernel
theorem dX11_aloneAt_18 : decode cX11_aloneAt 18 = .ok (.aload_n 0, 1) := by decide +kernel
theorem dX11_aloneAt_19 : decode cX11_aloneAt 19 = .ok (.getfield 32, 3) := by decide +kernel
theorem dX11_aloneAt_22 : decode cX11_aloneAt 22 = .ok (.iload_n 1, 1) := by decide +kernel
theorem dX11_aloneAt_23 : decode cX11_aloneAt 23 = .ok (.invokevirtual 193, 3) := by decide +kernel
theorem dX11_aloneAt_26 : decode cX11_aloneAt 26 = .ok (.iload_n 2, 1) := by decide +kernel
theorem dX11_aloneAt_27 : decode cX11_aloneAt 27 = .ok (.ifCond .lt 14, 3) := by decide +kernel
theorem dX11_aloneAt_30 : decode cX11_aloneAt 30 = .ok (.iload_n 2, 1) := by decide +kernel
theorem dX11_aloneAt_31 : decode cX11_aloneAt 31 = .ok (.aload_n 0, 1) := by decide +kernel
theorem dX11_aloneAt_32 : decode cX11_aloneAt 32 = .ok (.getfield 46, 3) := by decide +kernel
theorem dX11_aloneAt_35 : decode cX11_aloneAt 35 = .ok (.getfield 197, 3) := by decide +kernel
theorem dX11_aloneAt_38 : decode cX11_aloneAt 38 = .ok (.if_icmp .lt 9, 3) := by decide +kernel
theorem dX11_aloneAt_41 : decode cX11_aloneAt 41 = .ok (.aload_n 0, 1) := by decide +kernel
theorem dX11_aloneAt_42 : decode cX11_aloneAt 42 = .ok (.iconst 1, 1) := by decide +kernel
theorem dX11_aloneAt_43 : decode cX11_aloneAt 43 = .ok (.invokevirtual 104, 3) := by decide +kernel
theorem dX11_aloneAt_46 : decode cX11_aloneAt 46 = .ok (.ireturn, 1) := by decide +kernel
theorem dX11_aloneAt_47 : decode cX11_aloneAt 47 = .ok (.aload_n 0, 1) := by decide +kernel
theorem dX11_aloneAt_48 : decode cX11_aloneAt 48 = .ok (.aload_n 0, 1) := by decide +kernel
theorem dX11_aloneAt_49 : decode cX11_aloneAt 49 = .ok (.getfield 46, 3) := by decide +kernel
theorem dX11_aloneAt_52 : decode cX11_aloneAt 52 = .ok (.getfield 200, 3) := by decide +kernel
theorem dX11_aloneAt_55 : decode cX11_aloneAt 55 = .ok (.iload_n 2, 1) := by decide +kernel
theorem dX11_aloneAt_56 : decode cX11_aloneAt 56 = .ok (.iaload, 1) := by decide +kernel
theorem dX11_aloneAt_57 : decode cX11_aloneAt 57 = .ok (.invokevirtual 128, 3) := by decide +kernel
theorem dX11_aloneAt_60 : decode cX11_aloneAt 60 = .ok (.ireturn, 1) := by decide +kernel
theorem dX11_aloneFree_0 : decode cX11_aloneFree 0 = .ok (.aload_n 0, 1) := by decide +kernel
theorem dX11_aloneFree_1 : decode cX11_aloneFree 1 = .ok (.iload_n 1, 1) := by decide +kernel
theorem dX11_aloneFree_2 : decode cX11_aloneFree 2 = .ok (.invokevirtual 144, 3) := by decide +kernel
theorem dX11_aloneFree_5 : decode cX11_aloneFree 5 = .ok (.ifCond .ne 9, 3) := by decide +kernel
theorem dX11_aloneFree_8 : decode cX11_aloneFree 8 = .ok (.aload_n 0, 1) := by decide +kernel
theorem dX11_aloneFree_9 : decode cX11_aloneFree 9 = .ok (.iconst 1, 1) := by decide +kernel
theorem dX11_aloneFree_10 : decode cX11_aloneFree 10 = .ok (.invokevirtual 104, 3) := by decide +kernel
theorem dX11_aloneFree_13 : decode cX11_aloneFree 13 = .ok (.ireturn, 1) := by decide +kernel
theorem dX11_aloneFree_14 : decode cX11_aloneFree 14 = .ok (.aload_n 0, 1) := by decide +kernel
theorem dX11_aloneFree_15 : decode cX11_aloneFree 15 = .ok (.getfield 46, 3) := by decide +kernel
theorem dX11_aloneFree_18 : decode cX11_aloneFree 18 = .ok (.aload_n 0, 1) := by decide +kernel
theorem dX11_aloneFree_19 : decode cX11_aloneFree 19 = .ok (.getfield 32, 3) := by decide +kernel
theorem dX11_aloneFree_22 : decode cX11_aloneFree 22 = .ok (.iload_n 1, 1) := by decide +kernel
theorem dX11_aloneFree_23 : decode cX11_aloneFree 23 = .ok (.invokevirtual 193, 3) := by decide +kernel
theorem dX11_aloneFree_26 : decode cX11_aloneFree 26 = .ok (.aload_n 0, 1) := by decide +kernel
theorem dX11_aloneFree_27 : decode cX11_aloneFree 27 = .ok (.aload_n 0, 1) := by decide +kernel
theorem dX11_aloneFree_28 : decode cX11_aloneFree 28 = .ok (.getfield 46, 3) := by decide +kernel
theorem dX11_aloneFree_31 : decode cX11_aloneFree 31 = .ok (.getfield 204, 3) := by decide +kernel
theorem dX11_aloneFree_34 : decode cX11_aloneFree 34 = .ok (.invokevirtual 128, 3) := by decide +kernel
theorem dX11_aloneFree_37 : decode cX11_aloneFree 37 = .ok (.ireturn, 1) := by decide +kernel
theorem dX11_bestAlone_0 : decode cX11_bestAlone 0 = .ok (.aload_n 0, 1) := by decide +kernel
theorem dX11_bestAlone_1 : decode cX11_bestAlone 1 = .ok (.getfield 85, 3) := by decide +kernel
theorem dX11_bestAlone_4 : decode cX11_bestAlone 4 = .ok (.ifCond .ne 9, 3) := by decide +kernel
theorem dX11_bestAlone_7 : decode cX11_bestAlone 7 = .ok (.aload_n 0, 1) := by decide +kernel
theorem dX11_bestAlone_8 : decode cX11_bestAlone 8 = .ok (.iconst 1, 1) := by decide +kernel
theorem dX11_bestAlone_9 : decode cX11_bestAlone 9 = .ok (.invokevirtual 104, 3) := by decide +kernel
theorem dX11_bestAlone_12 : decode cX11_bestAlone 12 = .ok (.ireturn, 1) := by decide +kernel
theorem dX11_bestAlone_13 : decode cX11_bestAlone 13 = .ok (.bipush (-2), 2) := by decide +kernel
theorem dX11_bestAlone_15 : decode cX11_bestAlone 15 = .ok (.istore_n 1, 1) := by decide +kernel
theorem dX11_bestAlone_16 : decode cX11_bestAlone 16 = .ok (.iconst (-1), 1) := by decide +kernel
theorem dX11_bestAlone_17 : decode cX11_bestAlone 17 = .ok (.istore_n 2, 1) := by decide +kernel
theorem dX11_bestAlone_18 : decode cX11_bestAlone 18 = .ok (.iconst 0, 1) := by decide +kernel
theorem dX11_bestAlone_19 : decode cX11_bestAlone 19 = .ok (.istore_n 3, 1) := by decide +kernel
theorem dX11_bestAlone_20 : decode cX11_bestAlone 20 = .ok (.iload_n 3, 1) := by decide +kernel
theorem dX11_bestAlone_21 : decode cX11_bestAlone 21 = .ok (.aload_n 0, 1) := by decide +kernel
theorem dX11_bestAlone_22 : decode cX11_bestAlone 22 = .ok (.getfield 32, 3) := by decide +kernel
theorem dX11_bestAlone_25 : decode cX11_bestAlone 25 = .ok (.getfield 112, 3) := by decide +kernel
theorem dX11_bestAlone_28 : decode cX11_bestAlone 28 = .ok (.getfield 207, 3) := by decide +kernel
theorem dX11_bestAlone_31 : decode cX11_bestAlone 31 = .ok (.if_icmp .ge 42, 3) := by decide +kernel
theorem dX11_bestAlone_34 : decode cX11_bestAlone 34 = .ok (.aload_n 0, 1) := by decide +kernel
theorem dX11_bestAlone_35 : decode cX11_bestAlone 35 = .ok (.getfield 46, 3) := by decide +kernel
theorem dX11_bestAlone_38 : decode cX11_bestAlone 38 = .ok (.aload_n 0, 1) := by decide +kernel
theorem dX11_bestAlone_39 : decode cX11_bestAlone 39 = .ok (.getfield 32, 3) := by decide +kernel
theorem dX11_bestAlone_42 : decode cX11_bestAlone 42 = .ok (.iload_n 3, 1) := by decide +kernel
theorem dX11_bestAlone_43 : decode cX11_bestAlone 43 = .ok (.invokevirtual 193, 3) := by decide +kernel
theorem dX11_bestAlone_46 : decode cX11_bestAlone 46 = .ok (.aload_n 0, 1) := by decide +kernel
theorem dX11_bestAlone_47 : decode cX11_bestAlone 47 = .ok (.getfield 46, 3) := by decide +kernel
theorem dX11_bestAlone_50 : decode cX11_bestAlone 50 = .ok (.getfield 197, 3) := by decide +kernel
theorem dX11_bestAlone_53 : decode cX11_bestAlone 53 = .ok (.iload_n 2, 1) := by decide +kernel
theorem dX11_bestAlone_54 : decode cX11_bestAlone 54 = .ok (.if_icmp .le 13, 3) := by decide +kernel
theorem dX11_bestAlone_57 : decode cX11_bestAlone 57 = .ok (.aload_n 0, 1) := by decide +kernel
theorem dX11_bestAlone_58 : decode cX11_bestAlone 58 = .ok (.getfield 46, 3) := by decide +kernel
theorem dX11_bestAlone_61 : decode cX11_bestAlone 61 = .ok (.getfield 197, 3) := by decide +kernel
theorem dX11_bestAlone_64 : decode cX11_bestAlone 64 = .ok (.istore_n 2, 1) := by decide +kernel
theorem dX11_bestAlone_65 : decode cX11_bestAlone 65 = .ok (.iload_n 3, 1) := by decide +kernel
theorem dX11_bestAlone_66 : decode cX11_bestAlone 66 = .ok (.istore_n 1, 1) := by decide +kernel
theorem dX11_bestAlone_67 : decode cX11_bestAlone 67 = .ok (.iinc 3 1, 3) := by decide +kernel
theorem dX11_bestAlone_70 : decode cX11_bestAlone 70 = .ok (.goto (-50), 3) := by decide +kernel
theorem dX11_bestAlone_73 : decode cX11_bestAlone 73 = .ok (.aload_n 0, 1) := by decide +kernel
theorem dX11_bestAlone_74 : decode cX11_bestAlone 74 = .ok (.iload_n 1, 1) := by decide +kernel
theorem dX11_bestAlone_75 : decode cX11_bestAlone 75 = .ok (.invokevirtual 128, 3) := by decide +kernel
theorem dX11_bestAlone_78 : decode cX11_bestAlone 78 = .ok (.ireturn, 1) := by decide +kernel
theorem dX11_seats_0 : decode cX11_seats 0 = .ok (.aload_n 0, 1) := by decide +kernel
theorem dX11_seats_1 : decode cX11_seats 1 = .ok (.getfield 85, 3) := by decide +kernel
theorem dX11_seats_4 : decode cX11_seats 4 = .ok (.ifCond .ne 9, 3) := by decide +kernel
theorem dX11_seats_7 : decode cX11_seats 7 = .ok (.aload_n 0, 1) := by decide +kernel
theorem dX11_seats_8 : decode cX11_seats 8 = .ok (.iconst 1, 1) := by decide +kernel
theorem dX11_seats_9 : decode cX11_seats 9 = .ok (.invokevirtual 104, 3) := by decide +kernel
theorem dX11_seats_12 : decode cX11_seats 12 = .ok (.ireturn, 1) := by decide +kernel
theorem dX11_seats_13 : decode cX11_seats 13 = .ok (.aload_n 0, 1) := by decide +kernel
theorem dX11_seats_14 : decode cX11_seats 14 = .ok (.getfield 53, 3) := by decide +kernel
theorem dX11_seats_17 : decode cX11_seats 17 = .ok (.aload_n 0, 1) := by decide +kernel
theorem dX11_seats_18 : decode cX11_seats 18 = .ok (.getfield 32, 3) := by decide +kernel
theorem dX11_seats_21 : decode cX11_seats 21 = .ok (.invokevirtual 210, 3) := by decide +kernel
theorem dX11_seats_24 : decode cX11_seats 24 = .ok (.aload_n 0, 1) := by decide +kernel
theorem dX11_seats_25 : decode cX11_seats 25 = .ok (.aload_n 0, 1) := by decide +kernel
theorem dX11_seats_26 : decode cX11_seats 26 = .ok (.getfield 53, 3) := by decide +kernel
theorem dX11_seats_29 : decode cX11_seats 29 = .ok (.getfield 213, 3) := by decide +kernel
theorem dX11_seats_32 : decode cX11_seats 32 = .ok (.invokevirtual 128, 3) := by decide +kernel
theorem dX11_seats_35 : decode cX11_seats 35 = .ok (.ireturn, 1) := by decide +kernel
theorem dX11_seatOf_0 : decode cX11_seatOf 0 = .ok (.aload_n 0, 1) := by decide +kernel
theorem dX11_seatOf_1 : decode cX11_seatOf 1 = .ok (.iload_n 1, 1) := by decide +kernel
theorem dX11_seatOf_2 : decode cX11_seatOf 2 = .ok (.invokevirtual 137, 3) := by decide +kernel
theorem dX11_seatOf_5 : decode cX11_seatOf 5 = .ok (.ifCond .ne 9, 3) := by decide +kernel
theorem dX11_seatOf_8 : decode cX11_seatOf 8 = .ok (.aload_n 0, 1) := by decide +kernel
theorem dX11_seatOf_9 : decode cX11_seatOf 9 = .ok (.iconst 1, 1) := by decide +kernel
theorem dX11_seatOf_10 : decode cX11_seatOf 10 = .ok (.invokevirtual 104, 3) := by decide +kernel
theorem dX11_seatOf_13 : decode cX11_seatOf 13 = .ok (.ireturn, 1) := by decide +kernel
theorem dX11_seatOf_14 : decode cX11_seatOf 14 = .ok (.aload_n 0, 1) := by decide +kernel
theorem dX11_seatOf_15 : decode cX11_seatOf 15 = .ok (.getfield 53, 3) := by decide +kernel
theorem dX11_seatOf_18 : decode cX11_seatOf 18 = .ok (.aload_n 0, 1) := by decide +kernel
theorem dX11_seatOf_19 : decode cX11_seatOf 19 = .ok (.getfield 32, 3) := by decide +kernel
theorem dX11_seatOf_22 : decode cX11_seatOf 22 = .ok (.invokevirtual 210, 3) := by decide +kernel
theorem dX11_seatOf_25 : decode cX11_seatOf 25 = .ok (.aload_n 0, 1) := by decide +kernel
theorem dX11_seatOf_26 : decode cX11_seatOf 26 = .ok (.aload_n 0, 1) := by decide +kernel
theorem dX11_seatOf_27 : decode cX11_seatOf 27 = .ok (.getfield 32, 3) := by decide +kernel
theorem dX11_seatOf_30 : decode cX11_seatOf 30 = .ok (.getfield 216, 3) := by decide +kernel
theorem dX11_seatOf_33 : decode cX11_seatOf 33 = .ok (.getfield 220, 3) := by decide +kernel
theorem dX11_seatOf_36 : decode cX11_seatOf 36 = .ok (.aload_n 0, 1) := by decide +kernel
theorem dX11_seatOf_37 : decode cX11_seatOf 37 = .ok (.getfield 53, 3) := by decide +kernel
theorem dX11_seatOf_40 : decode cX11_seatOf 40 = .ok (.getfield 225, 3) := by decide +kernel
theorem dX11_seatOf_43 : decode cX11_seatOf 43 = .ok (.iload_n 1, 1) := by decide +kernel
theorem dX11_seatOf_44 : decode cX11_seatOf 44 = .ok (.iaload, 1) := by decide +kernel
theorem dX11_seatOf_45 : decode cX11_seatOf 45 = .ok (.iaload, 1) := by decide +kernel
theorem dX11_seatOf_46 : decode cX11_seatOf 46 = .ok (.invokevirtual 128, 3) := by decide +kernel
theorem dX11_seatOf_49 : decode cX11_seatOf 49 = .ok (.ireturn, 1) := by decide +kernel
theorem dX11_company_0 : decode cX11_company 0 = .ok (.aload_n 0, 1) := by decide +kernel
theorem dX11_company_1 : decode cX11_company 1 = .ok (.iload_n 1, 1) := by decide +kernel
theorem dX11_company_2 : decode cX11_company 2 = .ok (.invokevirtual 137, 3) := by decide +kernel
theorem dX11_company_5 : decode cX11_company 5 = .ok (.ifCond .ne 9, 3) := by decide +kernel
theorem dX11_company_8 : decode cX11_company 8 = .ok (.aload_n 0, 1) := by decide +kernel
theorem dX11_company_9 : decode cX11_company 9 = .ok (.iconst 1, 1) := by decide +kernel
theorem dX11_company_10 : decode cX11_company 10 = .ok (.invokevirtual 104, 3) := by decide +kernel
theorem dX11_company_13 : decode cX11_company 13 = .ok (.ireturn, 1) := by decide +kernel
theorem dX11_company_14 : decode cX11_company 14 = .ok (.aload_n 0, 1) := by decide +kernel
theorem dX11_company_15 : decode cX11_company 15 = .ok (.aload_n 0, 1) := by decide +kernel
theorem dX11_company_16 : decode cX11_company 16 = .ok (.getfield 32, 3) := by decide +kernel
theorem dX11_company_19 : decode cX11_company 19 = .ok (.iload_n 1, 1) := by decide +kernel
theorem dX11_company_20 : decode cX11_company 20 = .ok (.invokevirtual 226, 3) := by decide +kernel
theorem dX11_company_23 : decode cX11_company 23 = .ok (.invokevirtual 128, 3) := by decide +kernel
theorem dX11_company_26 : decode cX11_company 26 = .ok (.ireturn, 1) := by decide +kernel
theorem dX11_grantRatio_0 : decode cX11_grantRatio 0 = .ok (.aload_n 0, 1) := by decide +kernel
theorem dX11_grantRatio_1 : decode cX11_grantRatio 1 = .ok (.iconst 0, 1) := by decide +kernel
theorem dX11_grantRatio_2 : decode cX11_grantRatio 2 = .ok (.putfield 89, 3) := by decide +kernel
theorem dX11_grantRatio_5 : decode cX11_grantRatio 5 = .ok (.iload_n 1, 1) := by decide +kernel
theorem dX11_grantRatio_6 : decode cX11_grantRatio 6 = .ok (.ifCond .eq 13, 3) := by decide +kernel
theorem dX11_grantRatio_9 : decode cX11_grantRatio 9 = .ok (.aload_n 0, 1) := by decide +kernel
theorem dX11_grantRatio_10 : decode cX11_grantRatio 10 = .ok (.getfield 74, 3) := by decide +kernel
theorem dX11_grantRatio_13 : decode cX11_grantRatio 13 = .ok (.getfield 360, 3) := by decide +kernel
theorem dX11_grantRatio_16 : decode cX11_grantRatio 16 = .ok (.goto 10, 3) := by decide +kernel
theorem dX11_grantRatio_19 : decode cX11_grantRatio 19 = .ok (.aload_n 0, 1) := by decide +kernel
theorem dX11_grantRatio_20 : decode cX11_grantRatio 20 = .ok (.getfield 74, 3) := by decide +kernel
theorem dX11_grantRatio_23 : decode cX11_grantRatio 23 = .ok (.getfield 363, 3) := by decide +kernel
theorem dX11_grantRatio_26 : decode cX11_grantRatio 26 = .ok (.lreturn, 1) := by decide +kernel
def m_X11_reached (t : Nat) (σ : jd_Hp) : Option (Int32 × jd_Hp) :=
jd_if (¬ (σ.2.1 t 10) = 0) (
jd_o σ (6, 8) (σ.2.2.2 t 2) fun a1 =>
jd_b (m_X11_grant t ((σ.2.1 a1 6) &&& (σ.2.1 a1 7)) σ) fun r2 σ2 =>
some (r2, σ2)) (
jd_b (m_X11_refuse t 1 σ) fun r3 σ3 =>
some (r3, σ3))
set_option maxHeartbeats 4000000 in
set_option maxRecDepth 20000 in
theorem c_X11_reached {l : Launch} {s0 : State} {G : jd_G} (hF : jd_F s0 G) (σ : jd_Hp) (t : Nat) (ht : σ.1[t]? = some (11, 12)) : jd_M l s0 G yX11_reached cX11_reached 1 (some .int) 1 je_i [jd_v G (some t)] σ (m_X11_reached t σ) := by
  refine jd_enter hF (by decide) (fun G => [some (jd_v G (some t))]) rfl (by simp [lv_args, jd_al, jd_v_cat, jd_cti, jd_ctl]) (by simp [lg_sl, jd_v_cat, jd_cti, jd_ctl]) (fun X hD hX => ?_)
  have hX : jd_C X RX11 "reached" cX11_reached 1 (some .int) := hX
  unfold m_X11_reached
  refine jr_ald0 (pc := 0) hX dX11_reached_0 ?_
  refine jr_geti (pc := 1) hX fX11_85 rfl dX11_reached_1 ht ?_
  refine jr_ifne (pc := 4) hX 13 dX11_reached_4 (by decide) ?_ ?_
  · refine jr_ald0 (pc := 13) hX dX11_reached_13 ?_
    refine jr_ald0 (pc := 14) hX dX11_reached_14 ?_
    refine jr_getr (pc := 15) hX fX11_32 rfl dX11_reached_15 ht ?_
    refine jr_ck0 (fun a1 e1 h1 => ?_)
    refine jr_geti (pc := 18) hX fX11_153 rfl dX11_reached_18 h1 ?_
    refine jr_ald0 (pc := 21) hX dX11_reached_21 ?_
    refine jr_getr (pc := 22) hX fX11_32 rfl dX11_reached_22 ht ?_
    refine jr_ek0 e1 ?_
    refine jr_geti (pc := 25) hX fX11_172 rfl dX11_reached_25 h1 ?_
    refine jr_iand (pc := 28) hX dX11_reached_28 ?_
    refine jr_cV1i (pc := 29) hX lX11_128 (c_X11_grant hX.F σ t ht _) (jd_dd hD rfl) (Nat.le_of_ble_eq_true rfl) dX11_reached_29 ht (fun r2 σ2 p2 => ?_)
    exact jr_iret (pc := 32) hX dX11_reached_32 rfl
  · refine jr_ald0 (pc := 7) hX dX11_reached_7 ?_
    refine jr_iconst (pc := 8) hX 1 rfl dX11_reached_8 ?_
    refine jr_cV1i (pc := 9) hX lX11_104 (c_X11_refuse hX.F σ t ht _) (jd_dd hD rfl) (Nat.le_of_ble_eq_true rfl) dX11_reached_9 ht (fun r3 σ3 p3 => ?_)
    exact jr_iret (pc := 12) hX dX11_reached_12 rfl
def m_X11_nearest (t : Nat) (x0p : Int32) (σ : jd_Hp) : Option (Int32 × jd_Hp) :=
jd_b (m_X11_isPerson t x0p σ) fun r1 σ1 =>
jd_if (¬ r1 = 0) (
jd_o σ1 (6, 8) (σ1.2.2.2 t 2) fun a2 =>
jd_b (m_X6_nearestManned a2 x0p σ1) fun r3 σ3 =>
jd_b (m_X11_grant t r3 σ3) fun r4 σ4 =>
some (r4, σ4)) (
jd_b (m_X11_refuse t 1 σ1) fun r5 σ5 =>
some (r5, σ5))
set_option maxHeartbeats 4000000 in
set_option maxRecDepth 20000 in
theorem c_X11_nearest {l : Launch} {s0 : State} {G : jd_G} (hF : jd_F s0 G) (σ : jd_Hp) (t : Nat) (ht : σ.1[t]? = some (11, 12)) (x0p : Int32) : jd_M l s0 G yX11_nearest cX11_nearest 2 (some .int) 3 je_i [jd_v G (some t), .int x0p] σ (m_X11_nearest t x0p σ) := by
  refine jd_enter hF (by decide) (fun G => [some (jd_v G (some t)), some (.int x0p)]) rfl (by simp [lv_args, jd_al, jd_v_cat, jd_cti, jd_ctl]) (by simp [lg_sl, jd_v_cat, jd_cti, jd_ctl]) (fun X hD hX => ?_)
  have hX : jd_C X RX11 "nearest" cX11_nearest 2 (some .int) := hX
  unfold m_X11_nearest
  refine jr_ald0 (pc := 0) hX dX11_nearest_0 ?_
  refine jr_ild1 (pc := 1) hX dX11_nearest_1 ?_
  refine jr_cV1i (pc := 2) hX lX11_137 (c_X11_isPerson hX.F σ t ht _) (jd_dd hD rfl) (Nat.le_of_ble_eq_true rfl) dX11_nearest_2 ht (fun r1 σ1 p1 => ?_)
  refine jr_ifne (pc := 5) hX 14 dX11_nearest_5 (by decide) ?_ ?_
  · refine jr_ald0 (pc := 14) hX dX11_nearest_14 ?_
    refine jr_ald0 (pc := 15) hX dX11_nearest_15 ?_
    refine jr_getr (pc := 16) hX fX11_32 rfl dX11_nearest_16 (p1.at ht :) ?_
    refine jr_ild1 (pc := 19) hX dX11_nearest_19 ?_
    refine jr_ck1 (fun a2 e2 h2 => ?_)
    refine jr_cV1i (pc := 20) hX lX11_175 (c_X6_nearestManned hX.F σ1 a2 h2 _) (jd_dd hD rfl) (by simp [jd_v_cat, jd_cti, jd_ctl]) dX11_nearest_20 h2 (fun r3 σ3 p3 => ?_)
    refine jr_cV1i (pc := 23) hX lX11_128 (c_X11_grant hX.F σ3 t (p3.at (p1.at ht :) :) _) (jd_dd hD rfl) (Nat.le_of_ble_eq_true rfl) dX11_nearest_23 (p3.at (p1.at ht :) :) (fun r4 σ4 p4 => ?_)
    exact jr_iret (pc := 26) hX dX11_nearest_26 rfl
  · refine jr_ald0 (pc := 8) hX dX11_nearest_8 ?_
    refine jr_iconst (pc := 9) hX 1 rfl dX11_nearest_9 ?_
    refine jr_cV1i (pc := 10) hX lX11_104 (c_X11_refuse hX.F σ1 t (p1.at ht :) _) (jd_dd hD rfl) (Nat.le_of_ble_eq_true rfl) dX11_nearest_10 (p1.at ht :) (fun r5 σ5 p5 => ?_)
    exact jr_iret (pc := 13) hX dX11_nearest_13 rfl
def m_X11_cover (t : Nat) (σ : jd_Hp) : Option (Int32 × jd_Hp) :=
jd_if (¬ (σ.2.1 t 10) = 0) (
jd_o σ (6, 8) (σ.2.2.2 t 2) fun a1 =>
jd_b (m_X6_fewestPosts a1 σ) fun r2 σ2 =>
jd_b (m_X11_grant t r2 σ2) fun r3 σ3 =>
some (r3, σ3)) (
jd_b (m_X11_refuse t 1 σ) fun r4 σ4 =>
some (r4, σ4))
set_option maxHeartbeats 4000000 in
set_option maxRecDepth 20000 in
theorem c_X11_cover {l : Launch} {s0 : State} {G : jd_G} (hF : jd_F s0 G) (σ : jd_Hp) (t : Nat) (ht : σ.1[t]? = some (11, 12)) : jd_M l s0 G yX11_cover cX11_cover 1 (some .int) 3 je_i [jd_v G (some t)] σ (m_X11_cover t σ) := by
  refine jd_enter hF (by decide) (fun G => [some (jd_v G (some t))]) rfl (by simp [lv_args, jd_al, jd_v_cat, jd_cti, jd_ctl]) (by simp [lg_sl, jd_v_cat, jd_cti, jd_ctl]) (fun X hD hX => ?_)
  have hX : jd_C X RX11 "cover" cX11_cover 1 (some .int) := hX
  unfold m_X11_cover
  refine jr_ald0 (pc := 0) hX dX11_cover_0 ?_
  refine jr_geti (pc := 1) hX fX11_85 rfl dX11_cover_1 ht ?_
  refine jr_ifne (pc := 4) hX 13 dX11_cover_4 (by decide) ?_ ?_
  · refine jr_ald0 (pc := 13) hX dX11_cover_13 ?_
    refine jr_ald0 (pc := 14) hX dX11_cover_14 ?_
    refine jr_getr (pc := 15) hX fX11_32 rfl dX11_cover_15 ht ?_
    refine jr_ck0 (fun a1 e1 h1 => ?_)
    refine jr_cV0i (pc := 18) hX lX11_178 (c_X6_fewestPosts hX.F σ a1 h1) (jd_dd hD rfl) (by simp [jd_v_cat, jd_cti, jd_ctl]) dX11_cover_18 h1 (fun r2 σ2 p2 => ?_)
    refine jr_cV1i (pc := 21) hX lX11_128 (c_X11_grant hX.F σ2 t (p2.at ht :) _) (jd_dd hD rfl) (Nat.le_of_ble_eq_true rfl) dX11_cover_21 (p2.at ht :) (fun r3 σ3 p3 => ?_)
    exact jr_iret (pc := 24) hX dX11_cover_24 rfl
  · refine jr_ald0 (pc := 7) hX dX11_cover_7 ?_
    refine jr_iconst (pc := 8) hX 1 rfl dX11_cover_8 ?_
    refine jr_cV1i (pc := 9) hX lX11_104 (c_X11_refuse hX.F σ t ht _) (jd_dd hD rfl) (Nat.le_of_ble_eq_true rfl) dX11_cover_9 ht (fun r4 σ4 p4 => ?_)
    exact jr_iret (pc := 12) hX dX11_cover_12 rfl
def m_X11_covers (t : Nat) (σ : jd_Hp) : Option (Int32 × jd_Hp) :=
jd_if (¬ (σ.2.1 t 10) = 0) (
jd_o σ (6, 8) (σ.2.2.2 t 2) fun a1 =>
jd_b (m_X6_coveringSets a1 σ) fun r2 σ2 =>
jd_b (m_X11_grant t r2 σ2) fun r3 σ3 =>
some (r3, σ3)) (
jd_b (m_X11_refuse t 1 σ) fun r4 σ4 =>
some (r4, σ4))
set_option maxHeartbeats 4000000 in
set_option maxRecDepth 20000 in
theorem c_X11_covers {l : Launch} {s0 : State} {G : jd_G} (hF : jd_F s0 G) (σ : jd_Hp) (t : Nat) (ht : σ.1[t]? = some (11, 12)) : jd_M l s0 G yX11_covers cX11_covers 1 (some .int) 3 je_i [jd_v G (some t)] σ (m_X11_covers t σ) := by
  refine jd_enter hF (by decide) (fun G => [some (jd_v G (some t))]) rfl (by simp [lv_args, jd_al, jd_v_cat, jd_cti, jd_ctl]) (by simp [lg_sl, jd_v_cat, jd_cti, jd_ctl]) (fun X hD hX => ?_)
  have hX : jd_C X RX11 "covers" cX11_covers 1 (some .int) := hX
  unfold m_X11_covers
  refine jr_ald0 (pc := 0) hX dX11_covers_0 ?_
  refine jr_geti (pc := 1) hX fX11_85 rfl dX11_covers_1 ht ?_
  refine jr_ifne (pc := 4) hX 13 dX11_covers_4 (by decide) ?_ ?_
  · refine jr_ald0 (pc := 13) hX dX11_covers_13 ?_
    refine jr_ald0 (pc := 14) hX dX11_covers_14 ?_
    refine jr_getr (pc := 15) hX fX11_32 rfl dX11_covers_15 ht ?_
    refine jr_ck0 (fun a1 e1 h1 => ?_)
    refine jr_cV0i (pc := 18) hX lX11_181 (c_X6_coveringSets hX.F σ a1 h1) (jd_dd hD rfl) (by simp [jd_v_cat, jd_cti, jd_ctl]) dX11_covers_18 h1 (fun r2 σ2 p2 => ?_)
    refine jr_cV1i (pc := 21) hX lX11_128 (c_X11_grant hX.F σ2 t (p2.at ht :) _) (jd_dd hD rfl) (Nat.le_of_ble_eq_true rfl) dX11_covers_21 (p2.at ht :) (fun r3 σ3 p3 => ?_)
    exact jr_iret (pc := 24) hX dX11_covers_24 rfl
  · refine jr_ald0 (pc := 7) hX dX11_covers_7 ?_
    refine jr_iconst (pc := 8) hX 1 rfl dX11_covers_8 ?_
    refine jr_cV1i (pc := 9) hX lX11_104 (c_X11_refuse hX.F σ t ht _) (jd_dd hD rfl) (Nat.le_of_ble_eq_true rfl) dX11_covers_9 ht (fun r4 σ4 p4 => ?_)
    exact jr_iret (pc := 12) hX dX11_covers_12 rfl
def m_X11_bestPost (t : Nat) (σ : jd_Hp) : Option (Int32 × jd_Hp) :=
jd_if (¬ (σ.2.1 t 10) = 0) (
jd_o σ (6, 8) (σ.2.2.2 t 2) fun a1 =>
jd_b (m_X6_postOfMostMore a1 σ) fun r2 σ2 =>
jd_b (m_X11_grant t r2 σ2) fun r3 σ3 =>
some (r3, σ3)) (
jd_b (m_X11_refuse t 1 σ) fun r4 σ4 =>
some (r4, σ4))
set_option maxHeartbeats 4000000 in
set_option maxRecDepth 20000 in
theorem c_X11_bestPost {l : Launch} {s0 : State} {G : jd_G} (hF : jd_F s0 G) (σ : jd_Hp) (t : Nat) (ht : σ.1[t]? = some (11, 12)) : jd_M l s0 G yX11_bestPost cX11_bestPost 1 (some .int) 2 je_i [jd_v G (some t)] σ (m_X11_bestPost t σ) := by
  refine jd_enter hF (by decide) (fun G => [some (jd_v G (some t))]) rfl (by simp [lv_args, jd_al, jd_v_cat, jd_cti, jd_ctl]) (by simp [lg_sl, jd_v_cat, jd_cti, jd_ctl]) (fun X hD hX => ?_)
  have hX : jd_C X RX11 "bestPost" cX11_bestPost 1 (some .int) := hX
  unfold m_X11_bestPost
  refine jr_ald0 (pc := 0) hX dX11_bestPost_0 ?_
  refine jr_geti (pc := 1) hX fX11_85 rfl dX11_bestPost_1 ht ?_
  refine jr_ifne (pc := 4) hX 13 dX11_bestPost_4 (by decide) ?_ ?_
  · refine jr_ald0 (pc := 13) hX dX11_bestPost_13 ?_
    refine jr_ald0 (pc := 14) hX dX11_bestPost_14 ?_
    refine jr_getr (pc := 15) hX fX11_32 rfl dX11_bestPost_15 ht ?_
    refine jr_ck0 (fun a1 e1 h1 => ?_)
    refine jr_cV0i (pc := 18) hX lX11_184 (c_X6_postOfMostMore hX.F σ a1 h1) (jd_dd hD rfl) (by simp [jd_v_cat, jd_cti, jd_ctl]) dX11_bestPost_18 h1 (fun r2 σ2 p2 => ?_)
    refine jr_cV1i (pc := 21) hX lX11_128 (c_X11_grant hX.F σ2 t (p2.at ht :) _) (jd_dd hD rfl) (Nat.le_of_ble_eq_true rfl) dX11_bestPost_21 (p2.at ht :) (fun r3 σ3 p3 => ?_)
    exact jr_iret (pc := 24) hX dX11_bestPost_24 rfl
  · refine jr_ald0 (pc := 7) hX dX11_bestPost_7 ?_
    refine jr_iconst (pc := 8) hX 1 rfl dX11_bestPost_8 ?_
    refine jr_cV1i (pc := 9) hX lX11_104 (c_X11_refuse hX.F σ t ht _) (jd_dd hD rfl) (Nat.le_of_ble_eq_true rfl) dX11_bestPost_9 ht (fun r4 σ4 p4 => ?_)
    exact jr_iret (pc := 12) hX dX11_bestPost_12 rfl
def m_X11_bestPlace (t : Nat) (x0p : Int32) (σ : jd_Hp) : Option (Int32 × jd_Hp) :=
jd_if (¬ (σ.2.1 t 10) = 0) (
jd_if (x0p < 1) (
jd_b (m_X11_refuse t 2 σ) fun r1 σ1 =>
some (r1, σ1)) (
jd_if (x0p ≤ 40) (
jd_o σ (6, 8) (σ.2.2.2 t 2) fun a2 =>
jd_b (m_X6_placeOfMostReached a2 x0p σ) fun r3 σ3 =>
jd_b (m_X11_grant t r3 σ3) fun r4 σ4 =>
some (r4, σ4)) (
jd_b (m_X11_refuse t 2 σ) fun r5 σ5 =>
some (r5, σ5)))) (
jd_b (m_X11_refuse t 1 σ) fun r6 σ6 =>
some (r6, σ6))
set_option maxHeartbeats 4000000 in
set_option maxRecDepth 20000 in
theorem c_X11_bestPlace {l : Launch} {s0 : State} {G : jd_G} (hF : jd_F s0 G) (σ : jd_Hp) (t : Nat) (ht : σ.1[t]? = some (11, 12)) (x0p : Int32) : jd_M l s0 G yX11_bestPlace cX11_bestPlace 2 (some .int) 3 je_i [jd_v G (some t), .int x0p] σ (m_X11_bestPlace t x0p σ) := by
  refine jd_enter hF (by decide) (fun G => [some (jd_v G (some t)), some (.int x0p)]) rfl (by simp [lv_args, jd_al, jd_v_cat, jd_cti, jd_ctl]) (by simp [lg_sl, jd_v_cat, jd_cti, jd_ctl]) (fun X hD hX => ?_)
  have hX : jd_C X RX11 "bestPlace" cX11_bestPlace 2 (some .int) := hX
  unfold m_X11_bestPlace
  refine jr_ald0 (pc := 0) hX dX11_bestPlace_0 ?_
  refine jr_geti (pc := 1) hX fX11_85 rfl dX11_bestPlace_1 ht ?_
  refine jr_ifne (pc := 4) hX 13 dX11_bestPlace_4 (by decide) ?_ ?_
  · refine jr_ild1 (pc := 13) hX dX11_bestPlace_13 ?_
    refine jr_iconst (pc := 14) hX 1 rfl dX11_bestPlace_14 ?_
    refine jr_iclt (pc := 15) hX 24 dX11_bestPlace_15 (by decide) ?_ ?_
    · refine jr_ald0 (pc := 24) hX dX11_bestPlace_24 ?_
      refine jr_iconst (pc := 25) hX 2 rfl dX11_bestPlace_25 ?_
      refine jr_cV1i (pc := 26) hX lX11_104 (c_X11_refuse hX.F σ t ht _) (jd_dd hD rfl) (Nat.le_of_ble_eq_true rfl) dX11_bestPlace_26 ht (fun r1 σ1 p1 => ?_)
      exact jr_iret (pc := 29) hX dX11_bestPlace_29 rfl
    · refine jr_ild1 (pc := 18) hX dX11_bestPlace_18 ?_
      refine jr_bipush (pc := 19) hX 40 rfl dX11_bestPlace_19 ?_
      refine jr_icle (pc := 21) hX 30 dX11_bestPlace_21 (by decide) ?_ ?_
      · refine jr_ald0 (pc := 30) hX dX11_bestPlace_30 ?_
        refine jr_ald0 (pc := 31) hX dX11_bestPlace_31 ?_
        refine jr_getr (pc := 32) hX fX11_32 rfl dX11_bestPlace_32 ht ?_
        refine jr_ild1 (pc := 35) hX dX11_bestPlace_35 ?_
        refine jr_ck1 (fun a2 e2 h2 => ?_)
        refine jr_cV1i (pc := 36) hX lX11_187 (c_X6_placeOfMostReached hX.F σ a2 h2 _) (jd_dd hD rfl) (by simp [jd_v_cat, jd_cti, jd_ctl]) dX11_bestPlace_36 h2 (fun r3 σ3 p3 => ?_)
        refine jr_cV1i (pc := 39) hX lX11_128 (c_X11_grant hX.F σ3 t (p3.at ht :) _) (jd_dd hD rfl) (Nat.le_of_ble_eq_true rfl) dX11_bestPlace_39 (p3.at ht :) (fun r4 σ4 p4 => ?_)
        exact jr_iret (pc := 42) hX dX11_bestPlace_42 rfl
      · refine jr_ald0 (pc := 24) hX dX11_bestPlace_24 ?_
        refine jr_iconst (pc := 25) hX 2 rfl dX11_bestPlace_25 ?_
        refine jr_cV1i (pc := 26) hX lX11_104 (c_X11_refuse hX.F σ t ht _) (jd_dd hD rfl) (Nat.le_of_ble_eq_true rfl) dX11_bestPlace_26 ht (fun r5 σ5 p5 => ?_)
        exact jr_iret (pc := 29) hX dX11_bestPlace_29 rfl
  · refine jr_ald0 (pc := 7) hX dX11_bestPlace_7 ?_
    refine jr_iconst (pc := 8) hX 1 rfl dX11_bestPlace_8 ?_
    refine jr_cV1i (pc := 9) hX lX11_104 (c_X11_refuse hX.F σ t ht _) (jd_dd hD rfl) (Nat.le_of_ble_eq_true rfl) dX11_bestPlace_9 ht (fun r6 σ6 p6 => ?_)
    exact jr_iret (pc := 12) hX dX11_bestPlace_12 rfl
def m_X11_limitFor (t : Nat) (σ : jd_Hp) : Option (Int32 × jd_Hp) :=
jd_if (¬ (σ.2.1 t 10) = 0) (
jd_o σ (6, 8) (σ.2.2.2 t 2) fun a1 =>
jd_b (m_X6_leastLimit a1 σ) fun r2 σ2 =>
jd_b (m_X11_grant t r2 σ2) fun r3 σ3 =>
some (r3, σ3)) (
jd_b (m_X11_refuse t 1 σ) fun r4 σ4 =>
some (r4, σ4))
set_option maxHeartbeats 4000000 in
set_option maxRecDepth 20000 in
theorem c_X11_limitFor {l : Launch} {s0 : State} {G : jd_G} (hF : jd_F s0 G) (σ : jd_Hp) (t : Nat) (ht : σ.1[t]? = some (11, 12)) : jd_M l s0 G yX11_limitFor cX11_limitFor 1 (some .int) 4 je_i [jd_v G (some t)] σ (m_X11_limitFor t σ) := by
  refine jd_enter hF (by decide) (fun G => [some (jd_v G (some t))]) rfl (by simp [lv_args, jd_al, jd_v_cat, jd_cti, jd_ctl]) (by simp [lg_sl, jd_v_cat, jd_cti, jd_ctl]) (fun X hD hX => ?_)
  have hX : jd_C X RX11 "limitFor" cX11_limitFor 1 (some .int) := hX
  unfold m_X11_limitFor
  refine jr_ald0 (pc := 0) hX dX11_limitFor_0 ?_
  refine jr_geti (pc := 1) hX fX11_85 rfl dX11_limitFor_1 ht ?_
  refine jr_ifne (pc := 4) hX 13 dX11_limitFor_4 (by decide) ?_ ?_
  · refine jr_ald0 (pc := 13) hX dX11_limitFor_13 ?_
    refine jr_ald0 (pc := 14) hX dX11_limitFor_14 ?_
    refine jr_getr (pc := 15) hX fX11_32 rfl dX11_limitFor_15 ht ?_
    refine jr_ck0 (fun a1 e1 h1 => ?_)
    refine jr_cV0i (pc := 18) hX lX11_190 (c_X6_leastLimit hX.F σ a1 h1) (jd_dd hD rfl) (by simp [jd_v_cat, jd_cti, jd_ctl]) dX11_limitFor_18 h1 (fun r2 σ2 p2 => ?_)
    refine jr_cV1i (pc := 21) hX lX11_128 (c_X11_grant hX.F σ2 t (p2.at ht :) _) (jd_dd hD rfl) (Nat.le_of_ble_eq_true rfl) dX11_limitFor_21 (p2.at ht :) (fun r3 σ3 p3 => ?_)
    exact jr_iret (pc := 24) hX dX11_limitFor_24 rfl
  · refine jr_ald0 (pc := 7) hX dX11_limitFor_7 ?_
    refine jr_iconst (pc := 8) hX 1 rfl dX11_limitFor_8 ?_
    refine jr_cV1i (pc := 9) hX lX11_104 (c_X11_refuse hX.F σ t ht _) (jd_dd hD rfl) (Nat.le_of_ble_eq_true rfl) dX11_limitFor_9 ht (fun r4 σ4 p4 => ?_)
    exact jr_iret (pc := 12) hX dX11_limitFor_12 rfl
def m_X11_alone (t : Nat) (x0p : Int32) (σ : jd_Hp) : Option (Int32 × jd_Hp) :=
jd_b (m_X11_isPost t x0p σ) fun r1 σ1 =>
jd_if (¬ r1 = 0) (
jd_o σ1 (0, 4) (σ1.2.2.2 t 4) fun a2 =>
jd_b (m_X0_search a2 (σ1.2.2.2 t 2) x0p σ1) fun r3 σ3 =>
jd_o σ3 (0, 4) (σ3.2.2.2 t 4) fun a4 =>
jd_b (m_X11_grant t (σ3.2.1 a4 2) σ3) fun r5 σ5 =>
some (r5, σ5)) (
jd_b (m_X11_refuse t 1 σ1) fun r6 σ6 =>
some (r6, σ6))
set_option maxHeartbeats 4000000 in
set_option maxRecDepth 20000 in
theorem c_X11_alone {l : Launch} {s0 : State} {G : jd_G} (hF : jd_F s0 G) (σ : jd_Hp) (t : Nat) (ht : σ.1[t]? = some (11, 12)) (x0p : Int32) : jd_M l s0 G yX11_alone cX11_alone 2 (some .int) 13 je_i [jd_v G (some t), .int x0p] σ (m_X11_alone t x0p σ) := by
  refine jd_enter hF (by decide) (fun G => [some (jd_v G (some t)), some (.int x0p)]) rfl (by simp [lv_args, jd_al, jd_v_cat, jd_cti, jd_ctl]) (by simp [lg_sl, jd_v_cat, jd_cti, jd_ctl]) (fun X hD hX => ?_)
  have hX : jd_C X RX11 "alone" cX11_alone 2 (some .int) := hX
  unfold m_X11_alone
  refine jr_ald0 (pc := 0) hX dX11_alone_0 ?_
  refine jr_ild1 (pc := 1) hX dX11_alone_1 ?_
  refine jr_cV1i (pc := 2) hX lX11_144 (c_X11_isPost hX.F σ t ht _) (jd_dd hD rfl) (Nat.le_of_ble_eq_true rfl) dX11_alone_2 ht (fun r1 σ1 p1 => ?_)
  refine jr_ifne (pc := 5) hX 14 dX11_alone_5 (by decide) ?_ ?_
  · refine jr_ald0 (pc := 14) hX dX11_alone_14 ?_
    refine jr_getr (pc := 15) hX fX11_46 rfl dX11_alone_15 (p1.at ht :) ?_
    refine jr_ald0 (pc := 18) hX dX11_alone_18 ?_
    refine jr_getr (pc := 19) hX fX11_32 rfl dX11_alone_19 (p1.at ht :) ?_
    refine jr_ild1 (pc := 22) hX dX11_alone_22 ?_
    refine jr_ck2 (fun a2 e2 h2 => ?_)
    refine jr_cV2v (pc := 23) hX lX11_193 (c_X0_search hX.F σ1 a2 h2 _ _) (jd_dd hD rfl) (Nat.le_of_ble_eq_true rfl) dX11_alone_23 h2 (fun r3 σ3 p3 => ?_)
    refine jr_ald0 (pc := 26) hX dX11_alone_26 ?_
    refine jr_ald0 (pc := 27) hX dX11_alone_27 ?_
    refine jr_getr (pc := 28) hX fX11_46 rfl dX11_alone_28 (p3.at (p1.at ht :) :) ?_
    refine jr_ck0 (fun a4 e4 h4 => ?_)
    refine jr_geti (pc := 31) hX fX11_197 rfl dX11_alone_31 h4 ?_
    refine jr_cV1i (pc := 34) hX lX11_128 (c_X11_grant hX.F σ3 t (p3.at (p1.at ht :) :) _) (jd_dd hD rfl) (Nat.le_of_ble_eq_true rfl) dX11_alone_34 (p3.at (p1.at ht :) :) (fun r5 σ5 p5 => ?_)
    exact jr_iret (pc := 37) hX dX11_alone_37 rfl
  · refine jr_ald0 (pc := 8) hX dX11_alone_8 ?_
    refine jr_iconst (pc := 9) hX 1 rfl dX11_alone_9 ?_
    refine jr_cV1i (pc := 10) hX lX11_104 (c_X11_refuse hX.F σ1 t (p1.at ht :) _) (jd_dd hD rfl) (Nat.le_of_ble_eq_true rfl) dX11_alone_10 (p1.at ht :) (fun r6 σ6 p6 => ?_)
    exact jr_iret (pc := 13) hX dX11_alone_13 rfl
def m_X11_aloneAt (t : Nat) (x0p : Int32) (x1p : Int32) (σ : jd_Hp) : Option (Int32 × jd_Hp) :=
jd_b (m_X11_isPost t x0p σ) fun r1 σ1 =>
jd_if (¬ r1 = 0) (
jd_o σ1 (0, 4) (σ1.2.2.2 t 4) fun a2 =>
jd_b (m_X0_search a2 (σ1.2.2.2 t 2) x0p σ1) fun r3 σ3 =>
jd_if (x1p < 0) (
jd_b (m_X11_refuse t 1 σ3) fun r4 σ4 =>
some (r4, σ4)) (
jd_o σ3 (0, 4) (σ3.2.2.2 t 4) fun a5 =>
jd_if (x1p < (σ3.2.1 a5 2)) (
jd_ia σ3 20 (σ3.2.2.2 a5 0) x1p fun a6 j6 =>
jd_b (m_X11_grant t (σ3.2.1 a6 j6) σ3) fun r7 σ7 =>
some (r7, σ7)) (
jd_b (m_X11_refuse t 1 σ3) fun r8 σ8 =>
some (r8, σ8)))) (
jd_b (m_X11_refuse t 1 σ1) fun r9 σ9 =>
some (r9, σ9))
set_option maxHeartbeats 4000000 in
set_option maxRecDepth 20000 in
theorem c_X11_aloneAt {l : Launch} {s0 : State} {G : jd_G} (hF : jd_F s0 G) (σ : jd_Hp) (t : Nat) (ht : σ.1[t]? = some (11, 12)) (x0p : Int32) (x1p : Int32) : jd_M l s0 G yX11_aloneAt cX11_aloneAt 3 (some .int) 13 je_i [jd_v G (some t), .int x0p, .int x1p] σ (m_X11_aloneAt t x0p x1p σ) := by
  refine jd_enter hF (by decide) (fun G => [some (jd_v G (some t)), some (.int x0p), some (.int x1p)]) rfl (by simp [lv_args, jd_al, jd_v_cat, jd_cti, jd_ctl]) (by simp [lg_sl, jd_v_cat, jd_cti, jd_ctl]) (fun X hD hX => ?_)
  have hX : jd_C X RX11 "aloneAt" cX11_aloneAt 3 (some .int) := hX
  unfold m_X11_aloneAt
  refine jr_ald0 (pc := 0) hX dX11_aloneAt_0 ?_
  refine jr_ild1 (pc := 1) hX dX11_aloneAt_1 ?_
  refine jr_cV1i (pc := 2) hX lX11_144 (c_X11_isPost hX.F σ t ht _) (jd_dd hD rfl) (Nat.le_of_ble_eq_true rfl) dX11_aloneAt_2 ht (fun r1 σ1 p1 => ?_)
  refine jr_ifne (pc := 5) hX 14 dX11_aloneAt_5 (by decide) ?_ ?_
  · refine jr_ald0 (pc := 14) hX dX11_aloneAt_14 ?_
    refine jr_getr (pc := 15) hX fX11_46 rfl dX11_aloneAt_15 (p1.at ht :) ?_
    refine jr_ald0 (pc := 18) hX dX11_aloneAt_18 ?_
    refine jr_getr (pc := 19) hX fX11_32 rfl dX11_aloneAt_19 (p1.at ht :) ?_
    refine jr_ild1 (pc := 22) hX dX11_aloneAt_22 ?_
    refine jr_ck2 (fun a2 e2 h2 => ?_)
    refine jr_cV2v (pc := 23) hX lX11_193 (c_X0_search hX.F σ1 a2 h2 _ _) (jd_dd hD rfl) (Nat.le_of_ble_eq_true rfl) dX11_aloneAt_23 h2 (fun r3 σ3 p3 => ?_)
    refine jr_ild2 (pc := 26) hX dX11_aloneAt_26 ?_
    refine jr_iflt (pc := 27) hX 41 dX11_aloneAt_27 (by decide) ?_ ?_
    · refine jr_ald0 (pc := 41) hX dX11_aloneAt_41 ?_
      refine jr_iconst (pc := 42) hX 1 rfl dX11_aloneAt_42 ?_
      refine jr_cV1i (pc := 43) hX lX11_104 (c_X11_refuse hX.F σ3 t (p3.at (p1.at ht :) :) _) (jd_dd hD rfl) (Nat.le_of_ble_eq_true rfl) dX11_aloneAt_43 (p3.at (p1.at ht :) :) (fun r4 σ4 p4 => ?_)
      exact jr_iret (pc := 46) hX dX11_aloneAt_46 rfl
    · refine jr_ild2 (pc := 30) hX dX11_aloneAt_30 ?_
      refine jr_ald0 (pc := 31) hX dX11_aloneAt_31 ?_
      refine jr_getr (pc := 32) hX fX11_46 rfl dX11_aloneAt_32 (p3.at (p1.at ht :) :) ?_
      refine jr_ck0 (fun a5 e5 h5 => ?_)
      refine jr_geti (pc := 35) hX fX11_197 rfl dX11_aloneAt_35 h5 ?_
      refine jr_iclt (pc := 38) hX 47 dX11_aloneAt_38 (by decide) ?_ ?_
      · refine jr_ald0 (pc := 47) hX dX11_aloneAt_47 ?_
        refine jr_ald0 (pc := 48) hX dX11_aloneAt_48 ?_
        refine jr_getr (pc := 49) hX fX11_46 rfl dX11_aloneAt_49 (p3.at (p1.at ht :) :) ?_
        refine jr_ek0 e5 ?_
        refine jr_getr (pc := 52) hX fX11_200 rfl dX11_aloneAt_52 h5 ?_
        refine jr_ild2 (pc := 55) hX dX11_aloneAt_55 ?_
        refine jr_iaC (pc := 56) hX dX11_aloneAt_56 (fun a6 n6 e6 h6 => ?_)
        refine jr_cV1i (pc := 57) hX lX11_128 (c_X11_grant hX.F σ3 t (p3.at (p1.at ht :) :) _) (jd_dd hD rfl) (Nat.le_of_ble_eq_true rfl) dX11_aloneAt_57 (p3.at (p1.at ht :) :) (fun r7 σ7 p7 => ?_)
        exact jr_iret (pc := 60) hX dX11_aloneAt_60 rfl
      · refine jr_ald0 (pc := 41) hX dX11_aloneAt_41 ?_
        refine jr_iconst (pc := 42) hX 1 rfl dX11_aloneAt_42 ?_
        refine jr_cV1i (pc := 43) hX lX11_104 (c_X11_refuse hX.F σ3 t (p3.at (p1.at ht :) :) _) (jd_dd hD rfl) (Nat.le_of_ble_eq_true rfl) dX11_aloneAt_43 (p3.at (p1.at ht :) :) (fun r8 σ8 p8 => ?_)
        exact jr_iret (pc := 46) hX dX11_aloneAt_46 rfl
  · refine jr_ald0 (pc := 8) hX dX11_aloneAt_8 ?_
    refine jr_iconst (pc := 9) hX 1 rfl dX11_aloneAt_9 ?_
    refine jr_cV1i (pc := 10) hX lX11_104 (c_X11_refuse hX.F σ1 t (p1.at ht :) _) (jd_dd hD rfl) (Nat.le_of_ble_eq_true rfl) dX11_aloneAt_10 (p1.at ht :) (fun r9 σ9 p9 => ?_)
    exact jr_iret (pc := 13) hX dX11_aloneAt_13 rfl
def m_X11_aloneFree (t : Nat) (x0p : Int32) (σ : jd_Hp) : Option (Int32 × jd_Hp) :=
jd_b (m_X11_isPost t x0p σ) fun r1 σ1 =>
jd_if (¬ r1 = 0) (
jd_o σ1 (0, 4) (σ1.2.2.2 t 4) fun a2 =>
jd_b (m_X0_search a2 (σ1.2.2.2 t 2) x0p σ1) fun r3 σ3 =>
jd_o σ3 (0, 4) (σ3.2.2.2 t 4) fun a4 =>
jd_b (m_X11_grant t (σ3.2.1 a4 3) σ3) fun r5 σ5 =>
some (r5, σ5)) (
jd_b (m_X11_refuse t 1 σ1) fun r6 σ6 =>
some (r6, σ6))
set_option maxHeartbeats 4000000 in
set_option maxRecDepth 20000 in
theorem c_X11_aloneFree {l : Launch} {s0 : State} {G : jd_G} (hF : jd_F s0 G) (σ : jd_Hp) (t : Nat) (ht : σ.1[t]? = some (11, 12)) (x0p : Int32) : jd_M l s0 G yX11_aloneFree cX11_aloneFree 2 (some .int) 13 je_i [jd_v G (some t), .int x0p] σ (m_X11_aloneFree t x0p σ) := by
  refine jd_enter hF (by decide) (fun G => [some (jd_v G (some t)), some (.int x0p)]) rfl (by simp [lv_args, jd_al, jd_v_cat, jd_cti, jd_ctl]) (by simp [lg_sl, jd_v_cat, jd_cti, jd_ctl]) (fun X hD hX => ?_)
  have hX : jd_C X RX11 "aloneFree" cX11_aloneFree 2 (some .int) := hX
  unfold m_X11_aloneFree
  refine jr_ald0 (pc := 0) hX dX11_aloneFree_0 ?_
  refine jr_ild1 (pc := 1) hX dX11_aloneFree_1 ?_
  refine jr_cV1i (pc := 2) hX lX11_144 (c_X11_isPost hX.F σ t ht _) (jd_dd hD rfl) (Nat.le_of_ble_eq_true rfl) dX11_aloneFree_2 ht (fun r1 σ1 p1 => ?_)
  refine jr_ifne (pc := 5) hX 14 dX11_aloneFree_5 (by decide) ?_ ?_
  · refine jr_ald0 (pc := 14) hX dX11_aloneFree_14 ?_
    refine jr_getr (pc := 15) hX fX11_46 rfl dX11_aloneFree_15 (p1.at ht :) ?_
    refine jr_ald0 (pc := 18) hX dX11_aloneFree_18 ?_
    refine jr_getr (pc := 19) hX fX11_32 rfl dX11_aloneFree_19 (p1.at ht :) ?_
    refine jr_ild1 (pc := 22) hX dX11_aloneFree_22 ?_
    refine jr_ck2 (fun a2 e2 h2 => ?_)
    refine jr_cV2v (pc := 23) hX lX11_193 (c_X0_search hX.F σ1 a2 h2 _ _) (jd_dd hD rfl) (Nat.le_of_ble_eq_true rfl) dX11_aloneFree_23 h2 (fun r3 σ3 p3 => ?_)
    refine jr_ald0 (pc := 26) hX dX11_aloneFree_26 ?_
    refine jr_ald0 (pc := 27) hX dX11_aloneFree_27 ?_
    refine jr_getr (pc := 28) hX fX11_46 rfl dX11_aloneFree_28 (p3.at (p1.at ht :) :) ?_
    refine jr_ck0 (fun a4 e4 h4 => ?_)
    refine jr_geti (pc := 31) hX fX11_204 rfl dX11_aloneFree_31 h4 ?_
    refine jr_cV1i (pc := 34) hX lX11_128 (c_X11_grant hX.F σ3 t (p3.at (p1.at ht :) :) _) (jd_dd hD rfl) (Nat.le_of_ble_eq_true rfl) dX11_aloneFree_34 (p3.at (p1.at ht :) :) (fun r5 σ5 p5 => ?_)
    exact jr_iret (pc := 37) hX dX11_aloneFree_37 rfl
  · refine jr_ald0 (pc := 8) hX dX11_aloneFree_8 ?_
    refine jr_iconst (pc := 9) hX 1 rfl dX11_aloneFree_9 ?_
    refine jr_cV1i (pc := 10) hX lX11_104 (c_X11_refuse hX.F σ1 t (p1.at ht :) _) (jd_dd hD rfl) (Nat.le_of_ble_eq_true rfl) dX11_aloneFree_10 (p1.at ht :) (fun r6 σ6 p6 => ?_)
    exact jr_iret (pc := 13) hX dX11_aloneFree_13 rfl
def m_X11_bestAlone (t : Nat) (σ : jd_Hp) : Option (Int32 × jd_Hp) :=
jd_if (¬ (σ.2.1 t 10) = 0) (
jd_b (jd_lp (S := Int32 × Int32 × Int32) (T := Int32) (fun s1 σ1 =>
jd_o σ1 (11, 12) (some t) fun a3 =>
jd_o σ1 (6, 8) (σ1.2.2.2 a3 2) fun a4 =>
jd_o σ1 (10, 16) (σ1.2.2.2 a4 5) fun a5 =>
jd_if ((σ1.2.1 a5 12) ≤ s1.2.2) (
some ((Sum.inr s1.1), σ1)) (
jd_o σ1 (0, 4) (σ1.2.2.2 a3 4) fun a6 =>
jd_b (m_X0_search a6 (σ1.2.2.2 a3 2) s1.2.2 σ1) fun r7 σ7 =>
jd_o σ7 (0, 4) (σ7.2.2.2 a3 4) fun a8 =>
jd_if ((σ7.2.1 a8 2) ≤ s1.2.1) (
some (Sum.inl (s1.1, s1.2.1, (s1.2.2 + 1)), σ7)) (
jd_li (σ7.2.1 a8 2) fun x9 =>
some (Sum.inl (s1.2.2, x9, (s1.2.2 + 1)), σ7)))) jd_fu ((-2), (-1), 0) σ) fun t2 σ2 =>
jd_o σ2 (11, 12) (some t) fun a10 =>
jd_b (m_X11_grant a10 t2 σ2) fun r11 σ11 =>
some (r11, σ11)) (
jd_b (m_X11_refuse t 1 σ) fun r12 σ12 =>
some (r12, σ12))
set_option maxHeartbeats 4000000 in
set_option maxRecDepth 20000 in
theorem c_X11_bestAlone {l : Launch} {s0 : State} {G : jd_G} (hF : jd_F s0 G) (σ : jd_Hp) (t : Nat) (ht : σ.1[t]? = some (11, 12)) : jd_M l s0 G yX11_bestAlone cX11_bestAlone 4 (some .int) 13 je_i [jd_v G (some t)] σ (m_X11_bestAlone t σ) := by
  refine jd_enter hF (by decide) (fun G => [some (jd_v G (some t)), none, none, none]) rfl (by simp [lv_args, jd_al, jd_v_cat, jd_cti, jd_ctl]) (by simp [lg_sl, jd_v_cat, jd_cti, jd_ctl]) (fun X hD hX => ?_)
  have hX : jd_C X RX11 "bestAlone" cX11_bestAlone 4 (some .int) := hX
  unfold m_X11_bestAlone
  refine jr_ald0 (pc := 0) hX dX11_bestAlone_0 ?_
  refine jr_geti (pc := 1) hX fX11_85 rfl dX11_bestAlone_1 ht ?_
  refine jr_ifne (pc := 4) hX 13 dX11_bestAlone_4 (by decide) ?_ ?_
  · refine jr_bipush (pc := 13) hX (-2) rfl dX11_bestAlone_13 ?_
    refine jr_ist1 (pc := 15) hX (jn_r _ _) dX11_bestAlone_15 ?_
    refine jr_iconst (pc := 16) hX (-1) rfl dX11_bestAlone_16 ?_
    refine jr_ist2 (pc := 17) hX (jn_i _) dX11_bestAlone_17 ?_
    refine jr_iconst (pc := 18) hX 0 rfl dX11_bestAlone_18 ?_
    refine jr_ist3 (pc := 19) hX (jn_i _) dX11_bestAlone_19 ?_
    refine jr_loop (pc := 20) (fun (s1 : Int32 × Int32 × Int32) => [some (jd_v (jd_gG X) (some t)), some (.int s1.1), some (.int s1.2.1), some (.int s1.2.2)]) (fun (t2 : Int32) => [some (jd_v (jd_gG X) (some t)), some (.int t2), none, none]) 73 ((-2), (-1), 0) (fun t2 σ2 => ?_) (fun K1 bk1 ex1 s1 σ1 => ?_)
    · refine jr_ald0 (pc := 73) hX dX11_bestAlone_73 ?_
      refine jr_ild1 (pc := 74) hX dX11_bestAlone_74 ?_
      refine jr_ck1 (fun a10 e10 h10 => ?_)
      refine jr_cV1i (pc := 75) hX lX11_128 (c_X11_grant hX.F σ2 a10 h10 _) (jd_dd hD rfl) (Nat.le_of_ble_eq_true rfl) dX11_bestAlone_75 h10 (fun r11 σ11 p11 => ?_)
      exact jr_iret (pc := 78) hX dX11_bestAlone_78 rfl
    · refine jr_ild3 (pc := 20) hX dX11_bestAlone_20 ?_
      refine jr_ald0 (pc := 21) hX dX11_bestAlone_21 ?_
      refine jr_ck0 (fun a3 e3 h3 => ?_)
      refine jr_getr (pc := 22) hX fX11_32 rfl dX11_bestAlone_22 h3 ?_
      refine jr_ck0 (fun a4 e4 h4 => ?_)
      refine jr_getr (pc := 25) hX fX11_112 rfl dX11_bestAlone_25 h4 ?_
      refine jr_ck0 (fun a5 e5 h5 => ?_)
      refine jr_geti (pc := 28) hX fX11_207 rfl dX11_bestAlone_28 h5 ?_
      refine jr_icge (pc := 31) hX 73 dX11_bestAlone_31 (by decide) ?_ ?_
      · refine jr_wk [true, true, false, false] ?_
        exact ex1 s1.1 _
      · refine jr_ald0 (pc := 34) hX dX11_bestAlone_34 ?_
        refine jr_ek0 e3 ?_
        refine jr_getr (pc := 35) hX fX11_46 rfl dX11_bestAlone_35 h3 ?_
        refine jr_ald0 (pc := 38) hX dX11_bestAlone_38 ?_
        refine jr_ek0 e3 ?_
        refine jr_getr (pc := 39) hX fX11_32 rfl dX11_bestAlone_39 h3 ?_
        refine jr_ild3 (pc := 42) hX dX11_bestAlone_42 ?_
        refine jr_ck2 (fun a6 e6 h6 => ?_)
        refine jr_cV2v (pc := 43) hX lX11_193 (c_X0_search hX.F σ1 a6 h6 _ _) (jd_dd hD rfl) (Nat.le_of_ble_eq_true rfl) dX11_bestAlone_43 h6 (fun r7 σ7 p7 => ?_)
        refine jr_ald0 (pc := 46) hX dX11_bestAlone_46 ?_
        refine jr_ek0 e3 ?_
        refine jr_getr (pc := 47) hX fX11_46 rfl dX11_bestAlone_47 (p7.at h3 :) ?_
        refine jr_ck0 (fun a8 e8 h8 => ?_)
        refine jr_geti (pc := 50) hX fX11_197 rfl dX11_bestAlone_50 h8 ?_
        refine jr_ild2 (pc := 53) hX dX11_bestAlone_53 ?_
        refine jr_icle (pc := 54) hX 67 dX11_bestAlone_54 (by decide) ?_ ?_
        · refine jr_inc3 (pc := 67) hX 1 rfl (jn_i _) dX11_bestAlone_67 ?_
          refine jr_goto (pc := 70) hX 20 dX11_bestAlone_70 (by decide) ?_
          exact bk1 (s1.1, s1.2.1, (s1.2.2 + 1)) _
        · refine jr_ald0 (pc := 57) hX dX11_bestAlone_57 ?_
          refine jr_ek0 e3 ?_
          refine jr_getr (pc := 58) hX fX11_46 rfl dX11_bestAlone_58 (p7.at h3 :) ?_
          refine jr_ek0 e8 ?_
          refine jr_geti (pc := 61) hX fX11_197 rfl dX11_bestAlone_61 h8 ?_
          refine jr_ist2 (pc := 64) hX (jn_i _) dX11_bestAlone_64 ?_
          refine jr_li ?_
          refine jr_ild3 (pc := 65) hX dX11_bestAlone_65 ?_
          refine jr_ist1 (pc := 66) hX (jn_r _ _) dX11_bestAlone_66 ?_
          refine jr_inc3 (pc := 67) hX 1 rfl (jn_i _) dX11_bestAlone_67 ?_
          refine jr_goto (pc := 70) hX 20 dX11_bestAlone_70 (by decide) ?_
          exact bk1 (s1.2.2, (σ7.2.1 a8 2), (s1.2.2 + 1)) _
  · refine jr_ald0 (pc := 7) hX dX11_bestAlone_7 ?_
    refine jr_iconst (pc := 8) hX 1 rfl dX11_bestAlone_8 ?_
    refine jr_cV1i (pc := 9) hX lX11_104 (c_X11_refuse hX.F σ t ht _) (jd_dd hD rfl) (Nat.le_of_ble_eq_true rfl) dX11_bestAlone_9 ht (fun r12 σ12 p12 => ?_)
    exact jr_iret (pc := 12) hX dX11_bestAlone_12 rfl
def m_X11_seats (t : Nat) (σ : jd_Hp) : Option (Int32 × jd_Hp) :=
jd_if (¬ (σ.2.1 t 10) = 0) (
jd_o σ (5, 4) (σ.2.2.2 t 5) fun a1 =>
jd_b (m_X5_search a1 (σ.2.2.2 t 2) σ) fun r2 σ2 =>
jd_o σ2 (5, 4) (σ2.2.2.2 t 5) fun a3 =>
jd_b (m_X11_grant t (σ2.2.1 a3 3) σ2) fun r4 σ4 =>
some (r4, σ4)) (
jd_b (m_X11_refuse t 1 σ) fun r5 σ5 =>
some (r5, σ5))
set_option maxHeartbeats 4000000 in
set_option maxRecDepth 20000 in
theorem c_X11_seats {l : Launch} {s0 : State} {G : jd_G} (hF : jd_F s0 G) (σ : jd_Hp) (t : Nat) (ht : σ.1[t]? = some (11, 12)) : jd_M l s0 G yX11_seats cX11_seats 1 (some .int) 12 je_i [jd_v G (some t)] σ (m_X11_seats t σ) := by
  refine jd_enter hF (by decide) (fun G => [some (jd_v G (some t))]) rfl (by simp [lv_args, jd_al, jd_v_cat, jd_cti, jd_ctl]) (by simp [lg_sl, jd_v_cat, jd_cti, jd_ctl]) (fun X hD hX => ?_)
  have hX : jd_C X RX11 "seats" cX11_seats 1 (some .int) := hX
  unfold m_X11_seats
  refine jr_ald0 (pc := 0) hX dX11_seats_0 ?_
  refine jr_geti (pc := 1) hX fX11_85 rfl dX11_seats_1 ht ?_
  refine jr_ifne (pc := 4) hX 13 dX11_seats_4 (by decide) ?_ ?_
  · refine jr_ald0 (pc := 13) hX dX11_seats_13 ?_
    refine jr_getr (pc := 14) hX fX11_53 rfl dX11_seats_14 ht ?_
    refine jr_ald0 (pc := 17) hX dX11_seats_17 ?_
    refine jr_getr (pc := 18) hX fX11_32 rfl dX11_seats_18 ht ?_
    refine jr_ck1 (fun a1 e1 h1 => ?_)
    refine jr_cV1v (pc := 21) hX lX11_210 (c_X5_search hX.F σ a1 h1 _) (jd_dd hD rfl) (Nat.le_of_ble_eq_true rfl) dX11_seats_21 h1 (fun r2 σ2 p2 => ?_)
    refine jr_ald0 (pc := 24) hX dX11_seats_24 ?_
    refine jr_ald0 (pc := 25) hX dX11_seats_25 ?_
    refine jr_getr (pc := 26) hX fX11_53 rfl dX11_seats_26 (p2.at ht :) ?_
    refine jr_ck0 (fun a3 e3 h3 => ?_)
    refine jr_geti (pc := 29) hX fX11_213 rfl dX11_seats_29 h3 ?_
    refine jr_cV1i (pc := 32) hX lX11_128 (c_X11_grant hX.F σ2 t (p2.at ht :) _) (jd_dd hD rfl) (Nat.le_of_ble_eq_true rfl) dX11_seats_32 (p2.at ht :) (fun r4 σ4 p4 => ?_)
    exact jr_iret (pc := 35) hX dX11_seats_35 rfl
  · refine jr_ald0 (pc := 7) hX dX11_seats_7 ?_
    refine jr_iconst (pc := 8) hX 1 rfl dX11_seats_8 ?_
    refine jr_cV1i (pc := 9) hX lX11_104 (c_X11_refuse hX.F σ t ht _) (jd_dd hD rfl) (Nat.le_of_ble_eq_true rfl) dX11_seats_9 ht (fun r5 σ5 p5 => ?_)
    exact jr_iret (pc := 12) hX dX11_seats_12 rfl
def m_X11_seatOf (t : Nat) (x0p : Int32) (σ : jd_Hp) : Option (Int32 × jd_Hp) :=
jd_b (m_X11_isPerson t x0p σ) fun r1 σ1 =>
jd_if (¬ r1 = 0) (
jd_o σ1 (5, 4) (σ1.2.2.2 t 5) fun a2 =>
jd_b (m_X5_search a2 (σ1.2.2.2 t 2) σ1) fun r3 σ3 =>
jd_o σ3 (6, 8) (σ3.2.2.2 t 2) fun a4 =>
jd_o σ3 (4, 4) (σ3.2.2.2 a4 0) fun a5 =>
jd_o σ3 (5, 4) (σ3.2.2.2 t 5) fun a6 =>
jd_ia σ3 20 (σ3.2.2.2 a6 0) x0p fun a7 j7 =>
jd_ia σ3 20 (σ3.2.2.2 a5 0) (σ3.2.1 a7 j7) fun a8 j8 =>
jd_b (m_X11_grant t (σ3.2.1 a8 j8) σ3) fun r9 σ9 =>
some (r9, σ9)) (
jd_b (m_X11_refuse t 1 σ1) fun r10 σ10 =>
some (r10, σ10))
set_option maxHeartbeats 4000000 in
set_option maxRecDepth 20000 in
theorem c_X11_seatOf {l : Launch} {s0 : State} {G : jd_G} (hF : jd_F s0 G) (σ : jd_Hp) (t : Nat) (ht : σ.1[t]? = some (11, 12)) (x0p : Int32) : jd_M l s0 G yX11_seatOf cX11_seatOf 2 (some .int) 12 je_i [jd_v G (some t), .int x0p] σ (m_X11_seatOf t x0p σ) := by
  refine jd_enter hF (by decide) (fun G => [some (jd_v G (some t)), some (.int x0p)]) rfl (by simp [lv_args, jd_al, jd_v_cat, jd_cti, jd_ctl]) (by simp [lg_sl, jd_v_cat, jd_cti, jd_ctl]) (fun X hD hX => ?_)
  have hX : jd_C X RX11 "seatOf" cX11_seatOf 2 (some .int) := hX
  unfold m_X11_seatOf
  refine jr_ald0 (pc := 0) hX dX11_seatOf_0 ?_
  refine jr_ild1 (pc := 1) hX dX11_seatOf_1 ?_
  refine jr_cV1i (pc := 2) hX lX11_137 (c_X11_isPerson hX.F σ t ht _) (jd_dd hD rfl) (Nat.le_of_ble_eq_true rfl) dX11_seatOf_2 ht (fun r1 σ1 p1 => ?_)
  refine jr_ifne (pc := 5) hX 14 dX11_seatOf_5 (by decide) ?_ ?_
  · refine jr_ald0 (pc := 14) hX dX11_seatOf_14 ?_
    refine jr_getr (pc := 15) hX fX11_53 rfl dX11_seatOf_15 (p1.at ht :) ?_
    refine jr_ald0 (pc := 18) hX dX11_seatOf_18 ?_
    refine jr_getr (pc := 19) hX fX11_32 rfl dX11_seatOf_19 (p1.at ht :) ?_
    refine jr_ck1 (fun a2 e2 h2 => ?_)
    refine jr_cV1v (pc := 22) hX lX11_210 (c_X5_search hX.F σ1 a2 h2 _) (jd_dd hD rfl) (Nat.le_of_ble_eq_true rfl) dX11_seatOf_22 h2 (fun r3 σ3 p3 => ?_)
    refine jr_ald0 (pc := 25) hX dX11_seatOf_25 ?_
    refine jr_ald0 (pc := 26) hX dX11_seatOf_26 ?_
    refine jr_getr (pc := 27) hX fX11_32 rfl dX11_seatOf_27 (p3.at (p1.at ht :) :) ?_
    refine jr_ck0 (fun a4 e4 h4 => ?_)
    refine jr_getr (pc := 30) hX fX11_216 rfl dX11_seatOf_30 h4 ?_
    refine jr_ck0 (fun a5 e5 h5 => ?_)
    refine jr_getr (pc := 33) hX fX11_220 rfl dX11_seatOf_33 h5 ?_
    refine jr_ald0 (pc := 36) hX dX11_seatOf_36 ?_
    refine jr_getr (pc := 37) hX fX11_53 rfl dX11_seatOf_37 (p3.at (p1.at ht :) :) ?_
    refine jr_ck0 (fun a6 e6 h6 => ?_)
    refine jr_getr (pc := 40) hX fX11_225 rfl dX11_seatOf_40 h6 ?_
    refine jr_ild1 (pc := 43) hX dX11_seatOf_43 ?_
    refine jr_iaC (pc := 44) hX dX11_seatOf_44 (fun a7 n7 e7 h7 => ?_)
    refine jr_iaC (pc := 45) hX dX11_seatOf_45 (fun a8 n8 e8 h8 => ?_)
    refine jr_cV1i (pc := 46) hX lX11_128 (c_X11_grant hX.F σ3 t (p3.at (p1.at ht :) :) _) (jd_dd hD rfl) (Nat.le_of_ble_eq_true rfl) dX11_seatOf_46 (p3.at (p1.at ht :) :) (fun r9 σ9 p9 => ?_)
    exact jr_iret (pc := 49) hX dX11_seatOf_49 rfl
  · refine jr_ald0 (pc := 8) hX dX11_seatOf_8 ?_
    refine jr_iconst (pc := 9) hX 1 rfl dX11_seatOf_9 ?_
    refine jr_cV1i (pc := 10) hX lX11_104 (c_X11_refuse hX.F σ1 t (p1.at ht :) _) (jd_dd hD rfl) (Nat.le_of_ble_eq_true rfl) dX11_seatOf_10 (p1.at ht :) (fun r10 σ10 p10 => ?_)
    exact jr_iret (pc := 13) hX dX11_seatOf_13 rfl
def m_X11_company (t : Nat) (x0p : Int32) (σ : jd_Hp) : Option (Int32 × jd_Hp) :=
jd_b (m_X11_isPerson t x0p σ) fun r1 σ1 =>
jd_if (¬ r1 = 0) (
jd_o σ1 (6, 8) (σ1.2.2.2 t 2) fun a2 =>
jd_b (m_X6_placeOfFewestSinkers a2 x0p σ1) fun r3 σ3 =>
jd_b (m_X11_grant t r3 σ3) fun r4 σ4 =>
some (r4, σ4)) (
jd_b (m_X11_refuse t 1 σ1) fun r5 σ5 =>
some (r5, σ5))
set_option maxHeartbeats 4000000 in
set_option maxRecDepth 20000 in
theorem c_X11_company {l : Launch} {s0 : State} {G : jd_G} (hF : jd_F s0 G) (σ : jd_Hp) (t : Nat) (ht : σ.1[t]? = some (11, 12)) (x0p : Int32) : jd_M l s0 G yX11_company cX11_company 2 (some .int) 4 je_i [jd_v G (some t), .int x0p] σ (m_X11_company t x0p σ) := by
  refine jd_enter hF (by decide) (fun G => [some (jd_v G (some t)), some (.int x0p)]) rfl (by simp [lv_args, jd_al, jd_v_cat, jd_cti, jd_ctl]) (by simp [lg_sl, jd_v_cat, jd_cti, jd_ctl]) (fun X hD hX => ?_)
  have hX : jd_C X RX11 "company" cX11_company 2 (some .int) := hX
  unfold m_X11_company
  refine jr_ald0 (pc := 0) hX dX11_company_0 ?_
  refine jr_ild1 (pc := 1) hX dX11_company_1 ?_
  refine jr_cV1i (pc := 2) hX lX11_137 (c_X11_isPerson hX.F σ t ht _) (jd_dd hD rfl) (Nat.le_of_ble_eq_true rfl) dX11_company_2 ht (fun r1 σ1 p1 => ?_)
  refine jr_ifne (pc := 5) hX 14 dX11_company_5 (by decide) ?_ ?_
  · refine jr_ald0 (pc := 14) hX dX11_company_14 ?_
    refine jr_ald0 (pc := 15) hX dX11_company_15 ?_
    refine jr_getr (pc := 16) hX fX11_32 rfl dX11_company_16 (p1.at ht :) ?_
    refine jr_ild1 (pc := 19) hX dX11_company_19 ?_
    refine jr_ck1 (fun a2 e2 h2 => ?_)
    refine jr_cV1i (pc := 20) hX lX11_226 (c_X6_placeOfFewestSinkers hX.F σ1 a2 h2 _) (jd_dd hD rfl) (by simp [jd_v_cat, jd_cti, jd_ctl]) dX11_company_20 h2 (fun r3 σ3 p3 => ?_)
    refine jr_cV1i (pc := 23) hX lX11_128 (c_X11_grant hX.F σ3 t (p3.at (p1.at ht :) :) _) (jd_dd hD rfl) (Nat.le_of_ble_eq_true rfl) dX11_company_23 (p3.at (p1.at ht :) :) (fun r4 σ4 p4 => ?_)
    exact jr_iret (pc := 26) hX dX11_company_26 rfl
  · refine jr_ald0 (pc := 8) hX dX11_company_8 ?_
    refine jr_iconst (pc := 9) hX 1 rfl dX11_company_9 ?_
    refine jr_cV1i (pc := 10) hX lX11_104 (c_X11_refuse hX.F σ1 t (p1.at ht :) _) (jd_dd hD rfl) (Nat.le_of_ble_eq_true rfl) dX11_company_10 (p1.at ht :) (fun r5 σ5 p5 => ?_)
    exact jr_iret (pc := 13) hX dX11_company_13 rfl
def m_X11_grantRatio (t : Nat) (x0p : Int32) (σ : jd_Hp) : Option (Int64 × jd_Hp) :=
jd_li (jd_pi σ t 11 0) fun τ1 =>
jd_if (x0p = 0) (
jd_o τ1 (3, 2) (τ1.2.2.2 t 8) fun a2 =>
some ((τ1.2.2.1 a2 0), τ1)) (
jd_o τ1 (3, 2) (τ1.2.2.2 t 8) fun a3 =>
some ((τ1.2.2.1 a3 1), τ1))
set_option maxHeartbeats 4000000 in
set_option maxRecDepth 20000 in
theorem c_X11_grantRatio {l : Launch} {s0 : State} {G : jd_G} (hF : jd_F s0 G) (σ : jd_Hp) (t : Nat) (ht : σ.1[t]? = some (11, 12)) (x0p : Int32) : jd_M l s0 G yX11_grantRatio cX11_grantRatio 2 (some .long) 0 je_l [jd_v G (some t), .int x0p] σ (m_X11_grantRatio t x0p σ) := by
  refine jd_enter hF (by decide) (fun G => [some (jd_v G (some t)), some (.int x0p)]) rfl (by simp [lv_args, jd_al, jd_v_cat, jd_cti, jd_ctl]) (by simp [lg_sl, jd_v_cat, jd_cti, jd_ctl]) (fun X hD hX => ?_)
  have hX : jd_C X RX11 "grantRatio" cX11_grantRatio 2 (some .long) := hX
  unfold m_X11_grantRatio
  refine jr_ald0 (pc := 0) hX dX11_grantRatio_0 ?_
  refine jr_iconst (pc := 1) hX 0 rfl dX11_grantRatio_1 ?_
  refine jr_puti (pc := 2) hX fX11_89 rfl dX11_grantRatio_2 ht ?_
  refine jr_li ?_
  refine jr_ild1 (pc := 5) hX dX11_grantRatio_5 ?_
  refine jr_ifeq (pc := 6) hX 19 dX11_grantRatio_6 (by decide) ?_ ?_
  · refine jr_ald0 (pc := 19) hX dX11_grantRatio_19 ?_
    refine jr_getr (pc := 20) hX fX11_74 rfl dX11_grantRatio_20 ht ?_
    refine jr_ck0 (fun a2 e2 h2 => ?_)
    refine jr_getl (pc := 23) hX fX11_363 rfl dX11_grantRatio_23 h2 ?_
    exact jr_lret (pc := 26) hX dX11_grantRatio_26 rfl
  · refine jr_ald0 (pc := 9) hX dX11_grantRatio_9 ?_
    refine jr_getr (pc := 10) hX fX11_74 rfl dX11_grantRatio_10 ht ?_
    refine jr_ck0 (fun a3 e3 h3 => ?_)
    refine jr_getl (pc := 13) hX fX11_360 rfl dX11_grantRatio_13 h3 ?_
    refine jr_goto (pc := 16) hX 26 dX11_grantRatio_16 (by decide) ?_
    exact jr_lret (pc := 26) hX dX11_grantRatio_26 rfl
