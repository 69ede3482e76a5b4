theorem lX11_1 : jd_oi RX11 1 := ⟨jd_mem 121 (by decide +kernel) (by decide +kernel), jd_mem 122 (by decide +kernel) (by decide +kernel), jd_mem 123 (by decide +kernel) (by decide +kernel)⟩
theorem nX11_7 : jd_cr RX11 7 8 2 := ⟨_, _, rfl, by decide, jd_mem 124 (by decide +kernel) (by decide +kernel), jd_mem 125 (by decide +kernel) (by decide +kernel), jd_mem 93 (by decide +kernel) (by decide +kernel)⟩
theorem qX8_init : Cond.instanceMethod yX8_init ∈ jd_TB ∧ Cond.initialized yX8_init.cls ∈ jd_TB ∧ Cond.code yX8_init cX8_init 1 none ∈ jd_TB ∧ jd_ds yX8_init 0 := ⟨jd_mem 127 (by decide +kernel) (by decide +kernel), jd_mem 93 (by decide +kernel) (by decide +kernel), jd_mem 128 (by decide +kernel) (by decide +kernel), ⟨by decide, by decide, by decide +kernel⟩⟩
theorem lX11_9 : jd_sp RX11 9 yX8_init cX8_init 1 0 := ⟨Or.inr ⟨"ShoreGuards", List.mem_of_getElem? (i := 126) (by decide +kernel)⟩, qX8_init.1, qX8_init.2.1, qX8_init.2.2.1, qX8_init.2.2.2, by decide, rfl⟩
theorem fX11_10 : jd_fl RX11 10 11 0 12 true := ⟨_, _, rfl, by decide, by decide, rfl, rfl, jd_mem 485 (by decide +kernel) (by decide +kernel)⟩
theorem nX11_16 : jd_cr RX11 16 9 16 := ⟨_, _, rfl, by decide, jd_mem 140 (by decide +kernel) (by decide +kernel), jd_mem 141 (by decide +kernel) (by decide +kernel), jd_mem 94 (by decide +kernel) (by decide +kernel)⟩
theorem fX11_18 : jd_fl RX11 18 8 0 2 true := ⟨_, _, rfl, by decide, by decide, rfl, rfl, jd_mem 131 (by decide +kernel) (by decide +kernel)⟩
theorem qX9_init : Cond.instanceMethod yX9_init ∈ jd_TB ∧ Cond.initialized yX9_init.cls ∈ jd_TB ∧ Cond.code yX9_init cX9_init 2 none ∈ jd_TB ∧ jd_ds yX9_init 1 := ⟨jd_mem 143 (by decide +kernel) (by decide +kernel), jd_mem 94 (by decide +kernel) (by decide +kernel), jd_mem 144 (by decide +kernel) (by decide +kernel), ⟨by decide, by decide, by decide +kernel⟩⟩
theorem lX11_22 : jd_sp RX11 22 yX9_init cX9_init 2 1 := ⟨Or.inl (jd_mem 142 (by decide +kernel) (by decide +kernel)), qX9_init.1, qX9_init.2.1, qX9_init.2.2.1, qX9_init.2.2.2, by decide, rfl⟩
theorem fX11_25 : jd_fl RX11 25 11 1 12 true := ⟨_, _, rfl, by decide, by decide, rfl, rfl, jd_mem 486 (by decide +kernel) (by decide +kernel)⟩
theorem nX11_29 : jd_cr RX11 29 6 8 := ⟨_, _, rfl, by decide, jd_mem 199 (by decide +kernel) (by decide +kernel), jd_mem 200 (by decide +kernel) (by decide +kernel), jd_mem 95 (by decide +kernel) (by decide +kernel)⟩
theorem qX6_init : Cond.instanceMethod yX6_init ∈ jd_TB ∧ Cond.initialized yX6_init.cls ∈ jd_TB ∧ Cond.code yX6_init cX6_init 1 none ∈ jd_TB ∧ jd_ds yX6_init 0 := ⟨jd_mem 202 (by decide +kernel) (by decide +kernel), jd_mem 95 (by decide +kernel) (by decide +kernel), jd_mem 203 (by decide +kernel) (by decide +kernel), ⟨by decide, by decide, by decide +kernel⟩⟩
theorem lX11_31 : jd_sp RX11 31 yX6_init cX6_init 1 0 := ⟨Or.inr ⟨"ShoreGuards", List.mem_of_getElem? (i := 201) (by decide +kernel)⟩, qX6_init.1, qX6_init.2.1, qX6_init.2.2.1, qX6_init.2.2.2, by decide, rfl⟩
theorem fX11_32 : jd_fl RX11 32 11 2 12 true := ⟨_, _, rfl, by decide, by decide, rfl, rfl, jd_mem 487 (by decide +kernel) (by decide +kernel)⟩
theorem nX11_36 : jd_cr RX11 36 2 5 := ⟨_, _, rfl, by decide, jd_mem 366 (by decide +kernel) (by decide +kernel), jd_mem 367 (by decide +kernel) (by decide +kernel), jd_mem 98 (by decide +kernel) (by decide +kernel)⟩
theorem qX2_init : Cond.instanceMethod yX2_init ∈ jd_TB ∧ Cond.initialized yX2_init.cls ∈ jd_TB ∧ Cond.code yX2_init cX2_init 2 none ∈ jd_TB ∧ jd_ds yX2_init 0 := ⟨jd_mem 369 (by decide +kernel) (by decide +kernel), jd_mem 98 (by decide +kernel) (by decide +kernel), jd_mem 370 (by decide +kernel) (by decide +kernel), ⟨by decide, by decide, by decide +kernel⟩⟩
theorem lX11_38 : jd_sp RX11 38 yX2_init cX2_init 2 0 := ⟨Or.inl (jd_mem 368 (by decide +kernel) (by decide +kernel)), qX2_init.1, qX2_init.2.1, qX2_init.2.2.1, qX2_init.2.2.2, by decide, rfl⟩
theorem fX11_39 : jd_fl RX11 39 11 3 12 true := ⟨_, _, rfl, by decide, by decide, rfl, rfl, jd_mem 488 (by decide +kernel) (by decide +kernel)⟩
theorem nX11_43 : jd_cr RX11 43 0 4 := ⟨_, _, rfl, by decide, jd_mem 393 (by decide +kernel) (by decide +kernel), jd_mem 394 (by decide +kernel) (by decide +kernel), jd_mem 99 (by decide +kernel) (by decide +kernel)⟩
theorem qX0_init : Cond.instanceMethod yX0_init ∈ jd_TB ∧ Cond.initialized yX0_init.cls ∈ jd_TB ∧ Cond.code yX0_init cX0_init 1 none ∈ jd_TB ∧ jd_ds yX0_init 0 := ⟨jd_mem 396 (by decide +kernel) (by decide +kernel), jd_mem 99 (by decide +kernel) (by decide +kernel), jd_mem 397 (by decide +kernel) (by decide +kernel), ⟨by decide, by decide, by decide +kernel⟩⟩
theorem lX11_45 : jd_sp RX11 45 yX0_init cX0_init 1 0 := ⟨Or.inr ⟨"ShoreGuards", List.mem_of_getElem? (i := 395) (by decide +kernel)⟩, qX0_init.1, qX0_init.2.1, qX0_init.2.2.1, qX0_init.2.2.2, by decide, rfl⟩
theorem fX11_46 : jd_fl RX11 46 11 4 12 true := ⟨_, _, rfl, by decide, by decide, rfl, rfl, jd_mem 489 (by decide +kernel) (by decide +kernel)⟩
theorem nX11_50 : jd_cr RX11 50 5 4 := ⟨_, _, rfl, by decide, jd_mem 415 (by decide +kernel) (by decide +kernel), jd_mem 416 (by decide +kernel) (by decide +kernel), jd_mem 100 (by decide +kernel) (by decide +kernel)⟩
theorem qX5_init : Cond.instanceMethod yX5_init ∈ jd_TB ∧ Cond.initialized yX5_init.cls ∈ jd_TB ∧ Cond.code yX5_init cX5_init 1 none ∈ jd_TB ∧ jd_ds yX5_init 0 := ⟨jd_mem 418 (by decide +kernel) (by decide +kernel), jd_mem 100 (by decide +kernel) (by decide +kernel), jd_mem 419 (by decide +kernel) (by decide +kernel), ⟨by decide, by decide, by decide +kernel⟩⟩
theorem lX11_52 : jd_sp RX11 52 yX5_init cX5_init 1 0 := ⟨Or.inr ⟨"ShoreGuards", List.mem_of_getElem? (i := 417) (by decide +kernel)⟩, qX5_init.1, qX5_init.2.1, qX5_init.2.2.1, qX5_init.2.2.2, by decide, rfl⟩
theorem fX11_53 : jd_fl RX11 53 11 5 12 true := ⟨_, _, rfl, by decide, by decide, rfl, rfl, jd_mem 490 (by decide +kernel) (by decide +kernel)⟩
theorem nX11_57 : jd_cr RX11 57 7 3 := ⟨_, _, rfl, by decide, jd_mem 436 (by decide +kernel) (by decide +kernel), jd_mem 437 (by decide +kernel) (by decide +kernel), jd_mem 101 (by decide +kernel) (by decide +kernel)⟩
theorem qX7_init : Cond.instanceMethod yX7_init ∈ jd_TB ∧ Cond.initialized yX7_init.cls ∈ jd_TB ∧ Cond.code yX7_init cX7_init 1 none ∈ jd_TB ∧ jd_ds yX7_init 0 := ⟨jd_mem 439 (by decide +kernel) (by decide +kernel), jd_mem 101 (by decide +kernel) (by decide +kernel), jd_mem 440 (by decide +kernel) (by decide +kernel), ⟨by decide, by decide, by decide +kernel⟩⟩
theorem lX11_59 : jd_sp RX11 59 yX7_init cX7_init 1 0 := ⟨Or.inr ⟨"ShoreGuards", List.mem_of_getElem? (i := 438) (by decide +kernel)⟩, qX7_init.1, qX7_init.2.1, qX7_init.2.2.1, qX7_init.2.2.2, by decide, rfl⟩
theorem fX11_60 : jd_fl RX11 60 11 6 12 true := ⟨_, _, rfl, by decide, by decide, rfl, rfl, jd_mem 491 (by decide +kernel) (by decide +kernel)⟩
theorem nX11_64 : jd_cr RX11 64 1 2 := ⟨_, _, rfl, by decide, jd_mem 455 (by decide +kernel) (by decide +kernel), jd_mem 456 (by decide +kernel) (by decide +kernel), jd_mem 102 (by decide +kernel) (by decide +kernel)⟩
theorem qX1_init : Cond.instanceMethod yX1_init ∈ jd_TB ∧ Cond.initialized yX1_init.cls ∈ jd_TB ∧ Cond.code yX1_init cX1_init 1 none ∈ jd_TB ∧ jd_ds yX1_init 0 := ⟨jd_mem 458 (by decide +kernel) (by decide +kernel), jd_mem 102 (by decide +kernel) (by decide +kernel), jd_mem 459 (by decide +kernel) (by decide +kernel), ⟨by decide, by decide, by decide +kernel⟩⟩
theorem lX11_66 : jd_sp RX11 66 yX1_init cX1_init 1 0 := ⟨Or.inr ⟨"ShoreGuards", List.mem_of_getElem? (i := 457) (by decide +kernel)⟩, qX1_init.1, qX1_init.2.1, qX1_init.2.2.1, qX1_init.2.2.2, by decide, rfl⟩
theorem fX11_67 : jd_fl RX11 67 11 7 12 true := ⟨_, _, rfl, by decide, by decide, rfl, rfl, jd_mem 492 (by decide +kernel) (by decide +kernel)⟩
theorem nX11_71 : jd_cr RX11 71 3 2 := ⟨_, _, rfl, by decide, jd_mem 468 (by decide +kernel) (by decide +kernel), jd_mem 469 (by decide +kernel) (by decide +kernel), jd_mem 103 (by decide +kernel) (by decide +kernel)⟩
theorem qX3_init : Cond.instanceMethod yX3_init ∈ jd_TB ∧ Cond.initialized yX3_init.cls ∈ jd_TB ∧ Cond.code yX3_init cX3_init 1 none ∈ jd_TB ∧ jd_ds yX3_init 0 := ⟨jd_mem 471 (by decide +kernel) (by decide +kernel), jd_mem 103 (by decide +kernel) (by decide +kernel), jd_mem 472 (by decide +kernel) (by decide +kernel), ⟨by decide, by decide, by decide +kernel⟩⟩
theorem lX11_73 : jd_sp RX11 73 yX3_init cX3_init 1 0 := ⟨Or.inr ⟨"ShoreGuards", List.mem_of_getElem? (i := 470) (by decide +kernel)⟩, qX3_init.1, qX3_init.2.1, qX3_init.2.2.1, qX3_init.2.2.2, by decide, rfl⟩
theorem fX11_74 : jd_fl RX11 74 11 8 12 true := ⟨_, _, rfl, by decide, by decide, rfl, rfl, jd_mem 493 (by decide +kernel) (by decide +kernel)⟩
theorem nX11_78 : jd_cr RX11 78 10 16 := ⟨_, _, rfl, by decide, jd_mem 483 (by decide +kernel) (by decide +kernel), jd_mem 235 (by decide +kernel) (by decide +kernel), jd_mem 97 (by decide +kernel) (by decide +kernel)⟩
theorem lX11_80 : jd_sp RX11 80 yX10_init cX10_init 1 0 := ⟨Or.inr ⟨"ShoreGuards", List.mem_of_getElem? (i := 484) (by decide +kernel)⟩, qX10_init.1, qX10_init.2.1, qX10_init.2.2.1, qX10_init.2.2.2, by decide, rfl⟩
theorem fX11_81 : jd_fl RX11 81 11 9 12 false := ⟨_, _, rfl, by decide, by decide, rfl, rfl, jd_mem 494 (by decide +kernel) (by decide +kernel)⟩
theorem fX11_85 : jd_fl RX11 85 11 10 12 false := ⟨_, _, rfl, by decide, by decide, rfl, rfl, jd_mem 495 (by decide +kernel) (by decide +kernel)⟩
theorem fX11_89 : jd_fl RX11 89 11 11 12 false := ⟨_, _, rfl, by decide, by decide, rfl, rfl, jd_mem 496 (by decide +kernel) (by decide +kernel)⟩
theorem qX8_hasRoomFor : Cond.instanceMethod yX8_hasRoomFor ∈ jd_TB ∧ Cond.selects RX8 yX8_hasRoomFor yX8_hasRoomFor ∈ jd_TB ∧ Cond.initialized RX8 ∈ jd_TB ∧ Cond.code yX8_hasRoomFor cX8_hasRoomFor 2 (some .boolean) ∈ jd_TB ∧ jd_ds yX8_hasRoomFor 1 := ⟨jd_mem 527 (by decide +kernel) (by decide +kernel), jd_mem 528 (by decide +kernel) (by decide +kernel), jd_mem 93 (by decide +kernel) (by decide +kernel), jd_mem 529 (by decide +kernel) (by decide +kernel), ⟨by decide, by decide, by decide +kernel⟩⟩
theorem lX11_93 : jd_mv RX11 93 8 2 yX8_hasRoomFor cX8_hasRoomFor 2 (some .boolean) 1 := ⟨_, _, rfl, by decide, rfl, Or.inl (jd_mem 526 (by decide +kernel) (by decide +kernel)), qX8_hasRoomFor.1, qX8_hasRoomFor.2.1, qX8_hasRoomFor.2.2.1, qX8_hasRoomFor.2.2.2.1, qX8_hasRoomFor.2.2.2.2, by decide⟩
theorem qX8_put : Cond.instanceMethod yX8_put ∈ jd_TB ∧ Cond.selects RX8 yX8_put yX8_put ∈ jd_TB ∧ Cond.initialized RX8 ∈ jd_TB ∧ Cond.code yX8_put cX8_put 3 none ∈ jd_TB ∧ jd_ds yX8_put 1 := ⟨jd_mem 531 (by decide +kernel) (by decide +kernel), jd_mem 532 (by decide +kernel) (by decide +kernel), jd_mem 93 (by decide +kernel) (by decide +kernel), jd_mem 533 (by decide +kernel) (by decide +kernel), ⟨by decide, by decide, by decide +kernel⟩⟩
theorem lX11_97 : jd_mv RX11 97 8 2 yX8_put cX8_put 3 none 1 := ⟨_, _, rfl, by decide, rfl, Or.inl (jd_mem 530 (by decide +kernel) (by decide +kernel)), qX8_put.1, qX8_put.2.1, qX8_put.2.2.1, qX8_put.2.2.2.1, qX8_put.2.2.2.2, by decide⟩
theorem fX11_101 : jd_fl RX11 101 8 1 2 false := ⟨_, _, rfl, by decide, by decide, rfl, rfl, jd_mem 133 (by decide +kernel) (by decide +kernel)⟩
theorem fX11_131 : jd_fl RX11 131 9 14 16 false := ⟨_, _, rfl, by decide, by decide, rfl, rfl, jd_mem 161 (by decide +kernel) (by decide +kernel)⟩
theorem fX11_134 : jd_fl RX11 134 9 15 16 false := ⟨_, _, rfl, by decide, by decide, rfl, rfl, jd_mem 163 (by decide +kernel) (by decide +kernel)⟩
theorem fX11_112 : jd_fl RX11 112 6 5 8 false := ⟨_, _, rfl, by decide, by decide, rfl, rfl, jd_mem 341 (by decide +kernel) (by decide +kernel)⟩
theorem fX11_125 : jd_fl RX11 125 10 11 16 false := ⟨_, _, rfl, by decide, by decide, rfl, rfl, jd_mem 281 (by decide +kernel) (by decide +kernel)⟩
theorem qX11_isPerson : Cond.instanceMethod yX11_isPerson ∈ jd_TB ∧ Cond.selects RX11 yX11_isPerson yX11_isPerson ∈ jd_TB ∧ Cond.initialized RX11 ∈ jd_TB ∧ Cond.code yX11_isPerson cX11_isPerson 2 (some .boolean) ∈ jd_TB ∧ jd_ds yX11_isPerson 1 := ⟨jd_mem 774 (by decide +kernel) (by decide +kernel), jd_mem 22 (by decide +kernel) (by decide +kernel), jd_mem 92 (by decide +kernel) (by decide +kernel), jd_mem 775 (by decide +kernel) (by decide +kernel), ⟨by decide, by decide, by decide +kernel⟩⟩
theorem lX11_137 : jd_mv RX11 137 11 12 yX11_isPerson cX11_isPerson 2 (some .boolean) 1 := ⟨_, _, rfl, by decide, rfl, Or.inl (jd_mem 772 (by decide +kernel) (by decide +kernel)), qX11_isPerson.1, qX11_isPerson.2.1, qX11_isPerson.2.2.1, qX11_isPerson.2.2.2.1, qX11_isPerson.2.2.2.2, by decide⟩
theorem qX11_refuse : Cond.instanceMethod yX11_refuse ∈ jd_TB ∧ Cond.selects RX11 yX11_refuse yX11_refuse ∈ jd_TB ∧ Cond.initialized RX11 ∈ jd_TB ∧ Cond.code yX11_refuse cX11_refuse 2 (some .int) ∈ jd_TB ∧ jd_ds yX11_refuse 1 := ⟨jd_mem 540 (by decide +kernel) (by decide +kernel), jd_mem 0 (by decide +kernel) (by decide +kernel), jd_mem 92 (by decide +kernel) (by decide +kernel), jd_mem 541 (by decide +kernel) (by decide +kernel), ⟨by decide, by decide, by decide +kernel⟩⟩
theorem lX11_104 : jd_mv RX11 104 11 12 yX11_refuse cX11_refuse 2 (some .int) 1 := ⟨_, _, rfl, by decide, rfl, Or.inl (jd_mem 538 (by decide +kernel) (by decide +kernel)), qX11_refuse.1, qX11_refuse.2.1, qX11_refuse.2.2.1, qX11_refuse.2.2.2.1, qX11_refuse.2.2.2.2, by decide⟩
theorem qX6_ofPerson : Cond.instanceMethod yX6_ofPerson ∈ jd_TB ∧ Cond.selects RX6 yX6_ofPerson yX6_ofPerson ∈ jd_TB ∧ Cond.initialized RX6 ∈ jd_TB ∧ Cond.code yX6_ofPerson cX6_ofPerson 3 (some .int) ∈ jd_TB ∧ jd_ds yX6_ofPerson 2 := ⟨jd_mem 777 (by decide +kernel) (by decide +kernel), jd_mem 778 (by decide +kernel) (by decide +kernel), jd_mem 95 (by decide +kernel) (by decide +kernel), jd_mem 779 (by decide +kernel) (by decide +kernel), ⟨by decide, by decide, by decide +kernel⟩⟩
theorem lX11_140 : jd_mv RX11 140 6 8 yX6_ofPerson cX6_ofPerson 3 (some .int) 2 := ⟨_, _, rfl, by decide, rfl, Or.inl (jd_mem 776 (by decide +kernel) (by decide +kernel)), qX6_ofPerson.1, qX6_ofPerson.2.1, qX6_ofPerson.2.2.1, qX6_ofPerson.2.2.2.1, qX6_ofPerson.2.2.2.2, by decide⟩
theorem qX11_grant : Cond.instanceMethod yX11_grant ∈ jd_TB ∧ Cond.selects RX11 yX11_grant yX11_grant ∈ jd_TB ∧ Cond.initialized RX11 ∈ jd_TB ∧ Cond.code yX11_grant cX11_grant 2 (some .int) ∈ jd_TB ∧ jd_ds yX11_grant 1 := ⟨jd_mem 758 (by decide +kernel) (by decide +kernel), jd_mem 21 (by decide +kernel) (by decide +kernel), jd_mem 92 (by decide +kernel) (by decide +kernel), jd_mem 759 (by decide +kernel) (by decide +kernel), ⟨by decide, by decide, by decide +kernel⟩⟩
theorem lX11_128 : jd_mv RX11 128 11 12 yX11_grant cX11_grant 2 (some .int) 1 := ⟨_, _, rfl, by decide, rfl, Or.inl (jd_mem 756 (by decide +kernel) (by decide +kernel)), qX11_grant.1, qX11_grant.2.1, qX11_grant.2.2.1, qX11_grant.2.2.2.1, qX11_grant.2.2.2.2, by decide⟩
theorem fX11_207 : jd_fl RX11 207 10 12 16 false := ⟨_, _, rfl, by decide, by decide, rfl, rfl, jd_mem 285 (by decide +kernel) (by decide +kernel)⟩
theorem qX11_isPost : Cond.instanceMethod yX11_isPost ∈ jd_TB ∧ Cond.selects RX11 yX11_isPost yX11_isPost ∈ jd_TB ∧ Cond.initialized RX11 ∈ jd_TB ∧ Cond.code yX11_isPost cX11_isPost 2 (some .boolean) ∈ jd_TB ∧ jd_ds yX11_isPost 1 := ⟨jd_mem 798 (by decide +kernel) (by decide +kernel), jd_mem 23 (by decide +kernel) (by decide +kernel), jd_mem 92 (by decide +kernel) (by decide +kernel), jd_mem 799 (by decide +kernel) (by decide +kernel), ⟨by decide, by decide, by decide +kernel⟩⟩
theorem lX11_144 : jd_mv RX11 144 11 12 yX11_isPost cX11_isPost 2 (some .boolean) 1 := ⟨_, _, rfl, by decide, rfl, Or.inl (jd_mem 796 (by decide +kernel) (by decide +kernel)), qX11_isPost.1, qX11_isPost.2.1, qX11_isPost.2.2.1, qX11_isPost.2.2.2.1, qX11_isPost.2.2.2.2, by decide⟩
theorem qX6_ofPost : Cond.instanceMethod yX6_ofPost ∈ jd_TB ∧ Cond.selects RX6 yX6_ofPost yX6_ofPost ∈ jd_TB ∧ Cond.initialized RX6 ∈ jd_TB ∧ Cond.code yX6_ofPost cX6_ofPost 3 (some .int) ∈ jd_TB ∧ jd_ds yX6_ofPost 2 := ⟨jd_mem 801 (by decide +kernel) (by decide +kernel), jd_mem 802 (by decide +kernel) (by decide +kernel), jd_mem 95 (by decide +kernel) (by decide +kernel), jd_mem 803 (by decide +kernel) (by decide +kernel), ⟨by decide, by decide, by decide +kernel⟩⟩
theorem lX11_147 : jd_mv RX11 147 6 8 yX6_ofPost cX6_ofPost 3 (some .int) 2 := ⟨_, _, rfl, by decide, rfl, Or.inl (jd_mem 800 (by decide +kernel) (by decide +kernel)), qX6_ofPost.1, qX6_ofPost.2.1, qX6_ofPost.2.2.1, qX6_ofPost.2.2.2.1, qX6_ofPost.2.2.2.2, by decide⟩
theorem lX11_150 : jd_mv RX11 150 6 8 yX6_timeTo cX6_timeTo 3 (some .int) 2 := ⟨_, _, rfl, by decide, rfl, Or.inl (jd_mem 808 (by decide +kernel) (by decide +kernel)), qX6_timeTo.1, qX6_timeTo.2.1, qX6_timeTo.2.2.1, qX6_timeTo.2.2.2.1, qX6_timeTo.2.2.2.2, by decide⟩
theorem fX11_153 : jd_fl RX11 153 6 6 8 false := ⟨_, _, rfl, by decide, by decide, rfl, rfl, jd_mem 344 (by decide +kernel) (by decide +kernel)⟩
theorem qX6_firstSinker : Cond.instanceMethod yX6_firstSinker ∈ jd_TB ∧ Cond.selects RX6 yX6_firstSinker yX6_firstSinker ∈ jd_TB ∧ Cond.initialized RX6 ∈ jd_TB ∧ Cond.code yX6_firstSinker cX6_firstSinker 4 (some .int) ∈ jd_TB ∧ jd_ds yX6_firstSinker 0 := ⟨jd_mem 818 (by decide +kernel) (by decide +kernel), jd_mem 819 (by decide +kernel) (by decide +kernel), jd_mem 95 (by decide +kernel) (by decide +kernel), jd_mem 820 (by decide +kernel) (by decide +kernel), ⟨by decide, by decide, by decide +kernel⟩⟩
theorem lX11_156 : jd_mv RX11 156 6 8 yX6_firstSinker cX6_firstSinker 4 (some .int) 0 := ⟨_, _, rfl, by decide, rfl, Or.inl (jd_mem 817 (by decide +kernel) (by decide +kernel)), qX6_firstSinker.1, qX6_firstSinker.2.1, qX6_firstSinker.2.2.1, qX6_firstSinker.2.2.2.1, qX6_firstSinker.2.2.2.2, by decide⟩
theorem qX11_isAskedMinute : Cond.static yX11_isAskedMinute ∈ jd_TB ∧ Cond.initialized yX11_isAskedMinute.cls ∈ jd_TB ∧ Cond.code yX11_isAskedMinute cX11_isAskedMinute 1 (some .boolean) ∈ jd_TB ∧ jd_ds yX11_isAskedMinute 1 := ⟨jd_mem 826 (by decide +kernel) (by decide +kernel), jd_mem 92 (by decide +kernel) (by decide +kernel), jd_mem 827 (by decide +kernel) (by decide +kernel), ⟨by decide, by decide, by decide +kernel⟩⟩
theorem lX11_160 : jd_st RX11 160 yX11_isAskedMinute cX11_isAskedMinute 1 (some .boolean) 1 := ⟨Or.inl (jd_mem 825 (by decide +kernel) (by decide +kernel)), qX11_isAskedMinute.1, qX11_isAskedMinute.2.1, qX11_isAskedMinute.2.2.1, qX11_isAskedMinute.2.2.2, by decide⟩
theorem lX11_163 : jd_mv RX11 163 6 8 yX6_underBits cX6_underBits 4 (some .int) 1 := ⟨_, _, rfl, by decide, rfl, Or.inl (jd_mem 828 (by decide +kernel) (by decide +kernel)), qX6_underBits.1, qX6_underBits.2.1, qX6_underBits.2.2.1, qX6_underBits.2.2.2.1, qX6_underBits.2.2.2.2, by decide⟩
theorem qX6_lostBits : Cond.instanceMethod yX6_lostBits ∈ jd_TB ∧ Cond.selects RX6 yX6_lostBits yX6_lostBits ∈ jd_TB ∧ Cond.initialized RX6 ∈ jd_TB ∧ Cond.code yX6_lostBits cX6_lostBits 4 (some .int) ∈ jd_TB ∧ jd_ds yX6_lostBits 1 := ⟨jd_mem 837 (by decide +kernel) (by decide +kernel), jd_mem 838 (by decide +kernel) (by decide +kernel), jd_mem 95 (by decide +kernel) (by decide +kernel), jd_mem 839 (by decide +kernel) (by decide +kernel), ⟨by decide, by decide, by decide +kernel⟩⟩
theorem lX11_166 : jd_mv RX11 166 6 8 yX6_lostBits cX6_lostBits 4 (some .int) 1 := ⟨_, _, rfl, by decide, rfl, Or.inl (jd_mem 836 (by decide +kernel) (by decide +kernel)), qX6_lostBits.1, qX6_lostBits.2.1, qX6_lostBits.2.2.1, qX6_lostBits.2.2.2.1, qX6_lostBits.2.2.2.2, by decide⟩
theorem qX6_minuteOfMostUnder : Cond.instanceMethod yX6_minuteOfMostUnder ∈ jd_TB ∧ Cond.selects RX6 yX6_minuteOfMostUnder yX6_minuteOfMostUnder ∈ jd_TB ∧ Cond.initialized RX6 ∈ jd_TB ∧ Cond.code yX6_minuteOfMostUnder cX6_minuteOfMostUnder 5 (some .int) ∈ jd_TB ∧ jd_ds yX6_minuteOfMostUnder 0 := ⟨jd_mem 845 (by decide +kernel) (by decide +kernel), jd_mem 846 (by decide +kernel) (by decide +kernel), jd_mem 95 (by decide +kernel) (by decide +kernel), jd_mem 847 (by decide +kernel) (by decide +kernel), ⟨by decide, by decide, by decide +kernel⟩⟩
theorem lX11_169 : jd_mv RX11 169 6 8 yX6_minuteOfMostUnder cX6_minuteOfMostUnder 5 (some .int) 0 := ⟨_, _, rfl, by decide, rfl, Or.inl (jd_mem 844 (by decide +kernel) (by decide +kernel)), qX6_minuteOfMostUnder.1, qX6_minuteOfMostUnder.2.1, qX6_minuteOfMostUnder.2.2.1, qX6_minuteOfMostUnder.2.2.2.1, qX6_minuteOfMostUnder.2.2.2.2, by decide⟩
theorem dX11_init_0 : decode cX11_init 0 = .ok (.aload_n 0, 1) := by decide +kernel
theorem dX11_init_1 : decode cX11_init 1 = .ok (.invokespecial 1, 3) := by decide +kernel
theorem dX11_init_4 : decode cX11_init 4 = .ok (.aload_n 0, 1) := by decide +kernel
theorem dX11_init_5 : decode cX11_init 5 = .ok (.new 7, 3) := by decide +kernel
theorem dX11_init_8 : decode cX11_init 8 = .ok (.dup, 1) := by decide +kernel
theorem dX11_init_9 : decode cX11_init 9 = .ok (.invokespecial 9, 3) := by decide +kernel
theorem dX11_init_12 : decode cX11_init 12 = .ok (.putfield 10, 3) := by decide +kernel
theorem dX11_init_15 : decode cX11_init 15 = .ok (.aload_n 0, 1) := by decide +kernel
theorem dX11_init_16 : decode cX11_init 16 = .ok (.new 16, 3) := by decide +kernel
theorem dX11_init_19 : decode cX11_init 19 = .ok (.dup, 1) := by decide +kernel
theorem dX11_init_20 : decode cX11_init 20 = .ok (.aload_n 0, 1) := by decide +kernel
theorem dX11_init_21 : decode cX11_init 21 = .ok (.getfield 10, 3) := by decide +kernel
theorem dX11_init_24 : decode cX11_init 24 = .ok (.getfield 18, 3) := by decide +kernel
theorem dX11_init_27 : decode cX11_init 27 = .ok (.invokespecial 22, 3) := by decide +kernel
theorem dX11_init_30 : decode cX11_init 30 = .ok (.putfield 25, 3) := by decide +kernel
theorem dX11_init_33 : decode cX11_init 33 = .ok (.aload_n 0, 1) := by decide +kernel
theorem dX11_init_34 : decode cX11_init 34 = .ok (.new 29, 3) := by decide +kernel
theorem dX11_init_37 : decode cX11_init 37 = .ok (.dup, 1) := by decide +kernel
theorem dX11_init_38 : decode cX11_init 38 = .ok (.invokespecial 31, 3) := by decide +kernel
theorem dX11_init_41 : decode cX11_init 41 = .ok (.putfield 32, 3) := by decide +kernel
theorem dX11_init_44 : decode cX11_init 44 = .ok (.aload_n 0, 1) := by decide +kernel
theorem dX11_init_45 : decode cX11_init 45 = .ok (.new 36, 3) := by decide +kernel
theorem dX11_init_48 : decode cX11_init 48 = .ok (.dup, 1) := by decide +kernel
theorem dX11_init_49 : decode cX11_init 49 = .ok (.invokespecial 38, 3) := by decide +kernel
theorem dX11_init_52 : decode cX11_init 52 = .ok (.putfield 39, 3) := by decide +kernel
theorem dX11_init_55 : decode cX11_init 55 = .ok (.aload_n 0, 1) := by decide +kernel
theorem dX11_init_56 : decode cX11_init 56 = .ok (.new 43, 3) := by decide +kernel
theorem dX11_init_59 : decode cX11_init 59 = .ok (.dup, 1) := by decide +kernel
theorem dX11_init_60 : decode cX11_init 60 = .ok (.invokespecial 45, 3) := by decide +kernel
theorem dX11_init_63 : decode cX11_init 63 = .ok (.putfield 46, 3) := by decide +kernel
theorem dX11_init_66 : decode cX11_init 66 = .ok (.aload_n 0, 1) := by decide +kernel
theorem dX11_init_67 : decode cX11_init 67 = .ok (.new 50, 3) := by decide +kernel
theorem dX11_init_70 : decode cX11_init 70 = .ok (.dup, 1) := by decide +kernel
theorem dX11_init_71 : decode cX11_init 71 = .ok (.invokespecial 52, 3) := by decide +kernel
theorem dX11_init_74 : decode cX11_init 74 = .ok (.putfield 53, 3) := by decide +kernel
theorem dX11_init_77 : decode cX11_init 77 = .ok (.aload_n 0, 1) := by decide +kernel
theorem dX11_init_78 : decode cX11_init 78 = .ok (.new 57, 3) := by decide +kernel
theorem dX11_init_81 : decode cX11_init 81 = .ok (.dup, 1) := by decide +kernel
theorem dX11_init_82 : decode cX11_init 82 = .ok (.invokespecial 59, 3) := by decide +kernel
theorem dX11_init_85 : decode cX11_init 85 = .ok (.putfield 60, 3) := by decide +kernel
theorem dX11_init_88 : decode cX11_init 88 = .ok (.aload_n 0, 1) := by decide +kernel
theorem dX11_init_89 : decode cX11_init 89 = .ok (.new 64, 3) := by decide +kernel
theorem dX11_init_92 : decode cX11_init 92 = .ok (.dup, 1) := by decide +kernel
theorem dX11_init_93 : decode cX11_init 93 = .ok (.invokespecial 66, 3) := by decide +kernel
theorem dX11_init_96 : decode cX11_init 96 = .ok (.putfield 67, 3) := by decide +kernel
theorem dX11_init_99 : decode cX11_init 99 = .ok (.aload_n 0, 1) := by decide +kernel
theorem dX11_init_100 : decode cX11_init 100 = .ok (.new 71, 3) := by decide +kernel
theorem dX11_init_103 : decode cX11_init 103 = .ok (.dup, 1) := by decide +kernel
theorem dX11_init_104 : decode cX11_init 104 = .ok (.invokespecial 73, 3) := by decide +kernel
theorem dX11_init_107 : decode cX11_init 107 = .ok (.putfield 74, 3) := by decide +kernel
theorem dX11_init_110 : decode cX11_init 110 = .ok (.aload_n 0, 1) := by decide +kernel
theorem dX11_init_111 : decode cX11_init 111 = .ok (.new 78, 3) := by decide +kernel
theorem dX11_init_114 : decode cX11_init 114 = .ok (.dup, 1) := by decide +kernel
theorem dX11_init_115 : decode cX11_init 115 = .ok (.invokespecial 80, 3) := by decide +kernel
theorem dX11_init_118 : decode cX11_init 118 = .ok (.putfield 81, 3) := by decide +kernel
theorem dX11_init_121 : decode cX11_init 121 = .ok (.aload_n 0, 1) := by decide +kernel
theorem dX11_init_122 : decode cX11_init 122 = .ok (.iconst 0, 1) := by decide +kernel
theorem dX11_init_123 : decode cX11_init 123 = .ok (.putfield 85, 3) := by decide +kernel
theorem dX11_init_126 : decode cX11_init 126 = .ok (.aload_n 0, 1) := by decide +kernel
theorem dX11_init_127 : decode cX11_init 127 = .ok (.iconst 0, 1) := by decide +kernel
theorem dX11_init_128 : decode cX11_init 128 = .ok (.putfield 89, 3) := by decide +kernel
theorem dX11_init_131 : decode cX11_init 131 = .ok (.return_, 1) := by decide +kernel
theorem dX11_feed_0 : decode cX11_feed 0 = .ok (.aload_n 0, 1) := by decide +kernel
theorem dX11_feed_1 : decode cX11_feed 1 = .ok (.getfield 10, 3) := by decide +kernel
theorem dX11_feed_4 : decode cX11_feed 4 = .ok (.bipush 20, 2) := by decide +kernel
theorem dX11_feed_6 : decode cX11_feed 6 = .ok (.invokevirtual 93, 3) := by decide +kernel
theorem dX11_feed_9 : decode cX11_feed 9 = .ok (.ifCond .ne 5, 3) := by decide +kernel
theorem dX11_feed_12 : decode cX11_feed 12 = .ok (.iconst (-1), 1) := by decide +kernel
theorem dX11_feed_13 : decode cX11_feed 13 = .ok (.ireturn, 1) := by decide +kernel
theorem dX11_feed_14 : decode cX11_feed 14 = .ok (.aload_n 0, 1) := by decide +kernel
theorem dX11_feed_15 : decode cX11_feed 15 = .ok (.getfield 10, 3) := by decide +kernel
theorem dX11_feed_18 : decode cX11_feed 18 = .ok (.iload_n 1, 1) := by decide +kernel
theorem dX11_feed_19 : decode cX11_feed 19 = .ok (.invokevirtual 97, 3) := by decide +kernel
theorem dX11_feed_22 : decode cX11_feed 22 = .ok (.aload_n 0, 1) := by decide +kernel
theorem dX11_feed_23 : decode cX11_feed 23 = .ok (.getfield 10, 3) := by decide +kernel
theorem dX11_feed_26 : decode cX11_feed 26 = .ok (.iload_n 2, 1) := by decide +kernel
theorem dX11_feed_27 : decode cX11_feed 27 = .ok (.invokevirtual 97, 3) := by decide +kernel
theorem dX11_feed_30 : decode cX11_feed 30 = .ok (.aload_n 0, 1) := by decide +kernel
theorem dX11_feed_31 : decode cX11_feed 31 = .ok (.getfield 10, 3) := by decide +kernel
theorem dX11_feed_34 : decode cX11_feed 34 = .ok (.iload_n 3, 1) := by decide +kernel
theorem dX11_feed_35 : decode cX11_feed 35 = .ok (.invokevirtual 97, 3) := by decide +kernel
theorem dX11_feed_38 : decode cX11_feed 38 = .ok (.aload_n 0, 1) := by decide +kernel
theorem dX11_feed_39 : decode cX11_feed 39 = .ok (.getfield 10, 3) := by decide +kernel
theorem dX11_feed_42 : decode cX11_feed 42 = .ok (.iload 4, 2) := by decide +kernel
theorem dX11_feed_44 : decode cX11_feed 44 = .ok (.invokevirtual 97, 3) := by decide +kernel
theorem dX11_feed_47 : decode cX11_feed 47 = .ok (.aload_n 0, 1) := by decide +kernel
theorem dX11_feed_48 : decode cX11_feed 48 = .ok (.getfield 10, 3) := by decide +kernel
theorem dX11_feed_51 : decode cX11_feed 51 = .ok (.iload 5, 2) := by decide +kernel
theorem dX11_feed_53 : decode cX11_feed 53 = .ok (.invokevirtual 97, 3) := by decide +kernel
theorem dX11_feed_56 : decode cX11_feed 56 = .ok (.aload_n 0, 1) := by decide +kernel
theorem dX11_feed_57 : decode cX11_feed 57 = .ok (.getfield 10, 3) := by decide +kernel
theorem dX11_feed_60 : decode cX11_feed 60 = .ok (.getfield 101, 3) := by decide +kernel
theorem dX11_feed_63 : decode cX11_feed 63 = .ok (.ireturn, 1) := by decide +kernel
theorem dX11_refuse_0 : decode cX11_refuse 0 = .ok (.aload_n 0, 1) := by decide +kernel
theorem dX11_refuse_1 : decode cX11_refuse 1 = .ok (.iload_n 1, 1) := by decide +kernel
theorem dX11_refuse_2 : decode cX11_refuse 2 = .ok (.putfield 89, 3) := by decide +kernel
theorem dX11_refuse_5 : decode cX11_refuse 5 = .ok (.iconst (-1), 1) := by decide +kernel
theorem dX11_refuse_6 : decode cX11_refuse 6 = .ok (.ireturn, 1) := by decide +kernel
theorem dX11_grant_0 : decode cX11_grant 0 = .ok (.aload_n 0, 1) := by decide +kernel
theorem dX11_grant_1 : decode cX11_grant 1 = .ok (.iconst 0, 1) := by decide +kernel
theorem dX11_grant_2 : decode cX11_grant 2 = .ok (.putfield 89, 3) := by decide +kernel
theorem dX11_grant_5 : decode cX11_grant 5 = .ok (.iload_n 1, 1) := by decide +kernel
theorem dX11_grant_6 : decode cX11_grant 6 = .ok (.ireturn, 1) := by decide +kernel
theorem dX11_fault_0 : decode cX11_fault 0 = .ok (.aload_n 0, 1) := by decide +kernel
theorem dX11_fault_1 : decode cX11_fault 1 = .ok (.getfield 25, 3) := by decide +kernel
theorem dX11_fault_4 : decode cX11_fault 4 = .ok (.getfield 131, 3) := by decide +kernel
theorem dX11_fault_7 : decode cX11_fault 7 = .ok (.ireturn, 1) := by decide +kernel
theorem dX11_where_0 : decode cX11_where 0 = .ok (.aload_n 0, 1) := by decide +kernel
theorem dX11_where_1 : decode cX11_where 1 = .ok (.getfield 89, 3) := by decide +kernel
theorem dX11_where_4 : decode cX11_where 4 = .ok (.iconst 4, 1) := by decide +kernel
theorem dX11_where_5 : decode cX11_where 5 = .ok (.if_icmp .ne 13, 3) := by decide +kernel
theorem dX11_where_8 : decode cX11_where 8 = .ok (.aload_n 0, 1) := by decide +kernel
theorem dX11_where_9 : decode cX11_where 9 = .ok (.getfield 25, 3) := by decide +kernel
theorem dX11_where_12 : decode cX11_where 12 = .ok (.getfield 134, 3) := by decide +kernel
theorem dX11_where_15 : decode cX11_where 15 = .ok (.goto 4, 3) := by decide +kernel
theorem dX11_where_18 : decode cX11_where 18 = .ok (.iconst (-1), 1) := by decide +kernel
theorem dX11_where_19 : decode cX11_where 19 = .ok (.ireturn, 1) := by decide +kernel
theorem dX11_isPerson_0 : decode cX11_isPerson 0 = .ok (.aload_n 0, 1) := by decide +kernel
theorem dX11_isPerson_1 : decode cX11_isPerson 1 = .ok (.getfield 85, 3) := by decide +kernel
theorem dX11_isPerson_4 : decode cX11_isPerson 4 = .ok (.ifCond .eq 25, 3) := by decide +kernel
theorem dX11_isPerson_7 : decode cX11_isPerson 7 = .ok (.iload_n 1, 1) := by decide +kernel
theorem dX11_isPerson_8 : decode cX11_isPerson 8 = .ok (.ifCond .lt 21, 3) := by decide +kernel
theorem dX11_isPerson_11 : decode cX11_isPerson 11 = .ok (.iload_n 1, 1) := by decide +kernel
theorem dX11_isPerson_12 : decode cX11_isPerson 12 = .ok (.aload_n 0, 1) := by decide +kernel
theorem dX11_isPerson_13 : decode cX11_isPerson 13 = .ok (.getfield 32, 3) := by decide +kernel
theorem dX11_isPerson_16 : decode cX11_isPerson 16 = .ok (.getfield 112, 3) := by decide +kernel
theorem dX11_isPerson_19 : decode cX11_isPerson 19 = .ok (.getfield 125, 3) := by decide +kernel
theorem dX11_isPerson_22 : decode cX11_isPerson 22 = .ok (.if_icmp .ge 7, 3) := by decide +kernel
theorem dX11_isPerson_25 : decode cX11_isPerson 25 = .ok (.iconst 1, 1) := by decide +kernel
theorem dX11_isPerson_26 : decode cX11_isPerson 26 = .ok (.goto 4, 3) := by decide +kernel
theorem dX11_isPerson_29 : decode cX11_isPerson 29 = .ok (.iconst 0, 1) := by decide +kernel
theorem dX11_isPerson_30 : decode cX11_isPerson 30 = .ok (.ireturn, 1) := by decide +kernel
theorem dX11_person_0 : decode cX11_person 0 = .ok (.aload_n 0, 1) := by decide +kernel
theorem dX11_person_1 : decode cX11_person 1 = .ok (.iload_n 1, 1) := by decide +kernel
theorem dX11_person_2 : decode cX11_person 2 = .ok (.invokevirtual 137, 3) := by decide +kernel
theorem dX11_person_5 : decode cX11_person 5 = .ok (.ifCond .eq 13, 3) := by decide +kernel
theorem dX11_person_8 : decode cX11_person 8 = .ok (.iload_n 2, 1) := by decide +kernel
theorem dX11_person_9 : decode cX11_person 9 = .ok (.ifCond .lt 9, 3) := by decide +kernel
theorem dX11_person_12 : decode cX11_person 12 = .ok (.iload_n 2, 1) := by decide +kernel
theorem dX11_person_13 : decode cX11_person 13 = .ok (.bipush 8, 2) := by decide +kernel
theorem dX11_person_15 : decode cX11_person 15 = .ok (.if_icmp .le 9, 3) := by decide +kernel
theorem dX11_person_18 : decode cX11_person 18 = .ok (.aload_n 0, 1) := by decide +kernel
theorem dX11_person_19 : decode cX11_person 19 = .ok (.iconst 1, 1) := by decide +kernel
theorem dX11_person_20 : decode cX11_person 20 = .ok (.invokevirtual 104, 3) := by decide +kernel
theorem dX11_person_23 : decode cX11_person 23 = .ok (.ireturn, 1) := by decide +kernel
theorem dX11_person_24 : decode cX11_person 24 = .ok (.aload_n 0, 1) := by decide +kernel
theorem dX11_person_25 : decode cX11_person 25 = .ok (.aload_n 0, 1) := by decide +kernel
theorem dX11_person_26 : decode cX11_person 26 = .ok (.getfield 32, 3) := by decide +kernel
theorem dX11_person_29 : decode cX11_person 29 = .ok (.iload_n 1, 1) := by decide +kernel
theorem dX11_person_30 : decode cX11_person 30 = .ok (.iload_n 2, 1) := by decide +kernel
theorem dX11_person_31 : decode cX11_person 31 = .ok (.invokevirtual 140, 3) := by decide +kernel
theorem dX11_person_34 : decode cX11_person 34 = .ok (.invokevirtual 128, 3) := by decide +kernel
theorem dX11_person_37 : decode cX11_person 37 = .ok (.ireturn, 1) := by decide +kernel
theorem dX11_isPost_0 : decode cX11_isPost 0 = .ok (.aload_n 0, 1) := by decide +kernel
theorem dX11_isPost_1 : decode cX11_isPost 1 = .ok (.getfield 85, 3) := by decide +kernel
theorem dX11_isPost_4 : decode cX11_isPost 4 = .ok (.ifCond .eq 25, 3) := by decide +kernel
theorem dX11_isPost_7 : decode cX11_isPost 7 = .ok (.iload_n 1, 1) := by decide +kernel
theorem dX11_isPost_8 : decode cX11_isPost 8 = .ok (.ifCond .lt 21, 3) := by decide +kernel
theorem dX11_isPost_11 : decode cX11_isPost 11 = .ok (.iload_n 1, 1) := by decide +kernel
theorem dX11_isPost_12 : decode cX11_isPost 12 = .ok (.aload_n 0, 1) := by decide +kernel
theorem dX11_isPost_13 : decode cX11_isPost 13 = .ok (.getfield 32, 3) := by decide +kernel
theorem dX11_isPost_16 : decode cX11_isPost 16 = .ok (.getfield 112, 3) := by decide +kernel
theorem dX11_isPost_19 : decode cX11_isPost 19 = .ok (.getfield 207, 3) := by decide +kernel
theorem dX11_isPost_22 : decode cX11_isPost 22 = .ok (.if_icmp .ge 7, 3) := by decide +kernel
theorem dX11_isPost_25 : decode cX11_isPost 25 = .ok (.iconst 1, 1) := by decide +kernel
theorem dX11_isPost_26 : decode cX11_isPost 26 = .ok (.goto 4, 3) := by decide +kernel
theorem dX11_isPost_29 : decode cX11_isPost 29 = .ok (.iconst 0, 1) := by decide +kernel
theorem dX11_isPost_30 : decode cX11_isPost 30 = .ok (.ireturn, 1) := by decide +kernel
theorem dX11_post_0 : decode cX11_post 0 = .ok (.aload_n 0, 1) := by decide +kernel
theorem dX11_post_1 : decode cX11_post 1 = .ok (.iload_n 1, 1) := by decide +kernel
theorem dX11_post_2 : decode cX11_post 2 = .ok (.invokevirtual 144, 3) := by decide +kernel
theorem dX11_post_5 : decode cX11_post 5 = .ok (.ifCond .eq 12, 3) := by decide +kernel
theorem dX11_post_8 : decode cX11_post 8 = .ok (.iload_n 2, 1) := by decide +kernel
theorem dX11_post_9 : decode cX11_post 9 = .ok (.ifCond .lt 8, 3) := by decide +kernel
theorem dX11_post_12 : decode cX11_post 12 = .ok (.iload_n 2, 1) := by decide +kernel
theorem dX11_post_13 : decode cX11_post 13 = .ok (.iconst 3, 1) := by decide +kernel
theorem dX11_post_14 : decode cX11_post 14 = .ok (.if_icmp .le 9, 3) := by decide +kernel
theorem dX11_post_17 : decode cX11_post 17 = .ok (.aload_n 0, 1) := by decide +kernel
theorem dX11_post_18 : decode cX11_post 18 = .ok (.iconst 1, 1) := by decide +kernel
theorem dX11_post_19 : decode cX11_post 19 = .ok (.invokevirtual 104, 3) := by decide +kernel
theorem dX11_post_22 : decode cX11_post 22 = .ok (.ireturn, 1) := by decide +kernel
theorem dX11_post_23 : decode cX11_post 23 = .ok (.aload_n 0, 1) := by decide +kernel
theorem dX11_post_24 : decode cX11_post 24 = .ok (.aload_n 0, 1) := by decide +kernel
theorem dX11_post_25 : decode cX11_post 25 = .ok (.getfield 32, 3) := by decide +kernel
theorem dX11_post_28 : decode cX11_post 28 = .ok (.iload_n 1, 1) := by decide +kernel
theorem dX11_post_29 : decode cX11_post 29 = .ok (.iload_n 2, 1) := by decide +kernel
theorem dX11_post_30 : decode cX11_post 30 = .ok (.invokevirtual 147, 3) := by decide +kernel
theorem dX11_post_33 : decode cX11_post 33 = .ok (.invokevirtual 128, 3) := by decide +kernel
theorem dX11_post_36 : decode cX11_post 36 = .ok (.ireturn, 1) := by decide +kernel
theorem dX11_time_0 : decode cX11_time 0 = .ok (.aload_n 0, 1) := by decide +kernel
theorem dX11_time_1 : decode cX11_time 1 = .ok (.iload_n 1, 1) := by decide +kernel
theorem dX11_time_2 : decode cX11_time 2 = .ok (.invokevirtual 144, 3) := by decide +kernel
theorem dX11_time_5 : decode cX11_time 5 = .ok (.ifCond .eq 11, 3) := by decide +kernel
theorem dX11_time_8 : decode cX11_time 8 = .ok (.aload_n 0, 1) := by decide +kernel
theorem dX11_time_9 : decode cX11_time 9 = .ok (.iload_n 2, 1) := by decide +kernel
theorem dX11_time_10 : decode cX11_time 10 = .ok (.invokevirtual 137, 3) := by decide +kernel
theorem dX11_time_13 : decode cX11_time 13 = .ok (.ifCond .ne 9, 3) := by decide +kernel
theorem dX11_time_16 : decode cX11_time 16 = .ok (.aload_n 0, 1) := by decide +kernel
theorem dX11_time_17 : decode cX11_time 17 = .ok (.iconst 1, 1) := by decide +kernel
theorem dX11_time_18 : decode cX11_time 18 = .ok (.invokevirtual 104, 3) := by decide +kernel
theorem dX11_time_21 : decode cX11_time 21 = .ok (.ireturn, 1) := by decide +kernel
theorem dX11_time_22 : decode cX11_time 22 = .ok (.aload_n 0, 1) := by decide +kernel
theorem dX11_time_23 : decode cX11_time 23 = .ok (.aload_n 0, 1) := by decide +kernel
theorem dX11_time_24 : decode cX11_time 24 = .ok (.getfield 32, 3) := by decide +kernel
theorem dX11_time_27 : decode cX11_time 27 = .ok (.iload_n 1, 1) := by decide +kernel
theorem dX11_time_28 : decode cX11_time 28 = .ok (.iload_n 2, 1) := by decide +kernel
theorem dX11_time_29 : decode cX11_time 29 = .ok (.invokevirtual 150, 3) := by decide +kernel
theorem dX11_time_32 : decode cX11_time 32 = .ok (.invokevirtual 128, 3) := by decide +kernel
theorem dX11_time_35 : decode cX11_time 35 = .ok (.ireturn, 1) := by decide +kernel
theorem dX11_sinkers_0 : decode cX11_sinkers 0 = .ok (.aload_n 0, 1) := by decide +kernel
theorem dX11_sinkers_1 : decode cX11_sinkers 1 = .ok (.getfield 85, 3) := by decide +kernel
theorem dX11_sinkers_4 : decode cX11_sinkers 4 = .ok (.ifCond .ne 9, 3) := by decide +kernel
theorem dX11_sinkers_7 : decode cX11_sinkers 7 = .ok (.aload_n 0, 1) := by decide +kernel
theorem dX11_sinkers_8 : decode cX11_sinkers 8 = .ok (.iconst 1, 1) := by decide +kernel
theorem dX11_sinkers_9 : decode cX11_sinkers 9 = .ok (.invokevirtual 104, 3) := by decide +kernel
theorem dX11_sinkers_12 : decode cX11_sinkers 12 = .ok (.ireturn, 1) := by decide +kernel
theorem dX11_sinkers_13 : decode cX11_sinkers 13 = .ok (.aload_n 0, 1) := by decide +kernel
theorem dX11_sinkers_14 : decode cX11_sinkers 14 = .ok (.aload_n 0, 1) := by decide +kernel
theorem dX11_sinkers_15 : decode cX11_sinkers 15 = .ok (.getfield 32, 3) := by decide +kernel
theorem dX11_sinkers_18 : decode cX11_sinkers 18 = .ok (.getfield 153, 3) := by decide +kernel
theorem dX11_sinkers_21 : decode cX11_sinkers 21 = .ok (.invokevirtual 128, 3) := by decide +kernel
theorem dX11_sinkers_24 : decode cX11_sinkers 24 = .ok (.ireturn, 1) := by decide +kernel
theorem dX11_first_0 : decode cX11_first 0 = .ok (.aload_n 0, 1) := by decide +kernel
theorem dX11_first_1 : decode cX11_first 1 = .ok (.getfield 85, 3) := by decide +kernel
theorem dX11_first_4 : decode cX11_first 4 = .ok (.ifCond .ne 9, 3) := by decide +kernel
theorem dX11_first_7 : decode cX11_first 7 = .ok (.aload_n 0, 1) := by decide +kernel
theorem dX11_first_8 : decode cX11_first 8 = .ok (.iconst 1, 1) := by decide +kernel
theorem dX11_first_9 : decode cX11_first 9 = .ok (.invokevirtual 104, 3) := by decide +kernel
theorem dX11_first_12 : decode cX11_first 12 = .ok (.ireturn, 1) := by decide +kernel
theorem dX11_first_13 : decode cX11_first 13 = .ok (.aload_n 0, 1) := by decide +kernel
theorem dX11_first_14 : decode cX11_first 14 = .ok (.aload_n 0, 1) := by decide +kernel
theorem dX11_first_15 : decode cX11_first 15 = .ok (.getfield 32, 3) := by decide +kernel
theorem dX11_first_18 : decode cX11_first 18 = .ok (.invokevirtual 156, 3) := by decide +kernel
theorem dX11_first_21 : decode cX11_first 21 = .ok (.invokevirtual 128, 3) := by decide +kernel
theorem dX11_first_24 : decode cX11_first 24 = .ok (.ireturn, 1) := by decide +kernel
theorem dX11_isAskedMinute_0 : decode cX11_isAskedMinute 0 = .ok (.iload_n 0, 1) := by decide +kernel
theorem dX11_isAskedMinute_1 : decode cX11_isAskedMinute 1 = .ok (.ifCond .lt 14, 3) := by decide +kernel
theorem dX11_isAskedMinute_4 : decode cX11_isAskedMinute 4 = .ok (.iload_n 0, 1) := by decide +kernel
theorem dX11_isAskedMinute_5 : decode cX11_isAskedMinute 5 = .ok (.sipush 200, 3) := by decide +kernel
theorem dX11_isAskedMinute_8 : decode cX11_isAskedMinute 8 = .ok (.if_icmp .gt 7, 3) := by decide +kernel
theorem dX11_isAskedMinute_11 : decode cX11_isAskedMinute 11 = .ok (.iconst 1, 1) := by decide +kernel
theorem dX11_isAskedMinute_12 : decode cX11_isAskedMinute 12 = .ok (.goto 4, 3) := by decide +kernel
theorem dX11_isAskedMinute_15 : decode cX11_isAskedMinute 15 = .ok (.iconst 0, 1) := by decide +kernel
theorem dX11_isAskedMinute_16 : decode cX11_isAskedMinute 16 = .ok (.ireturn, 1) := by decide +kernel
theorem dX11_under_0 : decode cX11_under 0 = .ok (.aload_n 0, 1) := by decide +kernel
theorem dX11_under_1 : decode cX11_under 1 = .ok (.getfield 85, 3) := by decide +kernel
theorem dX11_under_4 : decode cX11_under 4 = .ok (.ifCond .ne 9, 3) := by decide +kernel
theorem dX11_under_7 : decode cX11_under 7 = .ok (.aload_n 0, 1) := by decide +kernel
theorem dX11_under_8 : decode cX11_under 8 = .ok (.iconst 1, 1) := by decide +kernel
theorem dX11_under_9 : decode cX11_under 9 = .ok (.invokevirtual 104, 3) := by decide +kernel
theorem dX11_under_12 : decode cX11_under 12 = .ok (.ireturn, 1) := by decide +kernel
theorem dX11_under_13 : decode cX11_under 13 = .ok (.iload_n 1, 1) := by decide +kernel
theorem dX11_under_14 : decode cX11_under 14 = .ok (.invokestatic 160, 3) := by decide +kernel
theorem dX11_under_17 : decode cX11_under 17 = .ok (.ifCond .ne 9, 3) := by decide +kernel
theorem dX11_under_20 : decode cX11_under 20 = .ok (.aload_n 0, 1) := by decide +kernel
theorem dX11_under_21 : decode cX11_under 21 = .ok (.iconst 2, 1) := by decide +kernel
theorem dX11_under_22 : decode cX11_under 22 = .ok (.invokevirtual 104, 3) := by decide +kernel
theorem dX11_under_25 : decode cX11_under 25 = .ok (.ireturn, 1) := by decide +kernel
theorem dX11_under_26 : decode cX11_under 26 = .ok (.aload_n 0, 1) := by decide +kernel
theorem dX11_under_27 : decode cX11_under 27 = .ok (.aload_n 0, 1) := by decide +kernel
theorem dX11_under_28 : decode cX11_under 28 = .ok (.getfield 32, 3) := by decide +kernel
theorem dX11_under_31 : decode cX11_under 31 = .ok (.iload_n 1, 1) := by decide +kernel
theorem dX11_under_32 : decode cX11_under 32 = .ok (.invokevirtual 163, 3) := by decide +kernel
theorem dX11_under_35 : decode cX11_under 35 = .ok (.invokevirtual 128, 3) := by decide +kernel
theorem dX11_under_38 : decode cX11_under 38 = .ok (.ireturn, 1) := by decide +kernel
theorem dX11_lost_0 : decode cX11_lost 0 = .ok (.aload_n 0, 1) := by decide +kernel
theorem dX11_lost_1 : decode cX11_lost 1 = .ok (.getfield 85, 3) := by decide +kernel
theorem dX11_lost_4 : decode cX11_lost 4 = .ok (.ifCond .ne 9, 3) := by decide +kernel
theorem dX11_lost_7 : decode cX11_lost 7 = .ok (.aload_n 0, 1) := by decide +kernel
theorem dX11_lost_8 : decode cX11_lost 8 = .ok (.iconst 1, 1) := by decide +kernel
theorem dX11_lost_9 : decode cX11_lost 9 = .ok (.invokevirtual 104, 3) := by decide +kernel
theorem dX11_lost_12 : decode cX11_lost 12 = .ok (.ireturn, 1) := by decide +kernel
theorem dX11_lost_13 : decode cX11_lost 13 = .ok (.iload_n 1, 1) := by decide +kernel
theorem dX11_lost_14 : decode cX11_lost 14 = .ok (.invokestatic 160, 3) := by decide +kernel
theorem dX11_lost_17 : decode cX11_lost 17 = .ok (.ifCond .ne 9, 3) := by decide +kernel
theorem dX11_lost_20 : decode cX11_lost 20 = .ok (.aload_n 0, 1) := by decide +kernel
theorem dX11_lost_21 : decode cX11_lost 21 = .ok (.iconst 2, 1) := by decide +kernel
theorem dX11_lost_22 : decode cX11_lost 22 = .ok (.invokevirtual 104, 3) := by decide +kernel
theorem dX11_lost_25 : decode cX11_lost 25 = .ok (.ireturn, 1) := by decide +kernel
theorem dX11_lost_26 : decode cX11_lost 26 = .ok (.aload_n 0, 1) := by decide +kernel
theorem dX11_lost_27 : decode cX11_lost 27 = .ok (.aload_n 0, 1) := by decide +kernel
theorem dX11_lost_28 : decode cX11_lost 28 = .ok (.getfield 32, 3) := by decide +kernel
theorem dX11_lost_31 : decode cX11_lost 31 = .ok (.iload_n 1, 1) := by decide +kernel
theorem dX11_lost_32 : decode cX11_lost 32 = .ok (.invokevirtual 166, 3) := by decide +kernel
theorem dX11_lost_35 : decode cX11_lost 35 = .ok (.invokevirtual 128, 3) := by decide +kernel
theorem dX11_lost_38 : decode cX11_lost 38 = .ok (.ireturn, 1) := by decide +kernel
theorem dX11_worstMinute_0 : decode cX11_worstMinute 0 = .ok (.aload_n 0, 1) := by decide +kernel
theorem dX11_worstMinute_1 : decode cX11_worstMinute 1 = .ok (.getfield 85, 3) := by decide +kernel
theorem dX11_worstMinute_4 : decode cX11_worstMinute 4 = .ok (.ifCond .ne 9, 3) := by decide +kernel
theorem dX11_worstMinute_7 : decode cX11_worstMinute 7 = .ok (.aload_n 0, 1) := by decide +kernel
theorem dX11_worstMinute_8 : decode cX11_worstMinute 8 = .ok (.iconst 1, 1) := by decide +kernel
theorem dX11_worstMinute_9 : decode cX11_worstMinute 9 = .ok (.invokevirtual 104, 3) := by decide +kernel
theorem dX11_worstMinute_12 : decode cX11_worstMinute 12 = .ok (.ireturn, 1) := by decide +kernel
theorem dX11_worstMinute_13 : decode cX11_worstMinute 13 = .ok (.aload_n 0, 1) := by decide +kernel
theorem dX11_worstMinute_14 : decode cX11_worstMinute 14 = .ok (.aload_n 0, 1) := by decide +kernel
theorem dX11_worstMinute_15 : decode cX11_worstMinute 15 = .ok (.getfield 32, 3) := by decide +kernel
theorem dX11_worstMinute_18 : decode cX11_worstMinute 18 = .ok (.invokevirtual 169, 3) := by decide +kernel
theorem dX11_worstMinute_21 : decode cX11_worstMinute 21 = .ok (.invokevirtual 128, 3) := by decide +kernel
theorem dX11_worstMinute_24 : decode cX11_worstMinute 24 = .ok (.ireturn, 1) := by decide +kernel
def m_X11_init (t : Nat) (σ : jd_Hp) : Option (Unit × jd_Hp) :=
jd_li (jd_new σ (8, 2)) fun τ1 =>
jd_b (m_X8_init σ.1.length τ1) fun r2 σ2 =>
jd_li (jd_pr σ2 t 0 (some σ.1.length)) fun τ3 =>
jd_li (jd_new τ3 (9, 16)) fun τ4 =>
jd_o τ4 (8, 2) (τ4.2.2.2 t 0) fun a5 =>
jd_b (m_X9_init τ3.1.length (τ4.2.2.2 a5 0) τ4) fun r6 σ6 =>
jd_li (jd_pr σ6 t 1 (some τ3.1.length)) fun τ7 =>
jd_li (jd_new τ7 (6, 8)) fun τ8 =>
jd_b (m_X6_init τ7.1.length τ8) fun r9 σ9 =>
jd_li (jd_pr σ9 t 2 (some τ7.1.length)) fun τ10 =>
jd_li (jd_new τ10 (2, 5)) fun τ11 =>
jd_b (m_X2_init τ10.1.length τ11) fun r12 σ12 =>
jd_li (jd_pr σ12 t 3 (some τ10.1.length)) fun τ13 =>
jd_li (jd_new τ13 (0, 4)) fun τ14 =>
jd_b (m_X0_init τ13.1.length τ14) fun r15 σ15 =>
jd_li (jd_pr σ15 t 4 (some τ13.1.length)) fun τ16 =>
jd_li (jd_new τ16 (5, 4)) fun τ17 =>
jd_b (m_X5_init τ16.1.length τ17) fun r18 σ18 =>
jd_li (jd_pr σ18 t 5 (some τ16.1.length)) fun τ19 =>
jd_li (jd_new τ19 (7, 3)) fun τ20 =>
jd_b (m_X7_init τ19.1.length τ20) fun r21 σ21 =>
jd_li (jd_pr σ21 t 6 (some τ19.1.length)) fun τ22 =>
jd_li (jd_new τ22 (1, 2)) fun τ23 =>
jd_b (m_X1_init τ22.1.length τ23) fun r24 σ24 =>
jd_li (jd_pr σ24 t 7 (some τ22.1.length)) fun τ25 =>
jd_li (jd_new τ25 (3, 2)) fun τ26 =>
jd_b (m_X3_init τ25.1.length τ26) fun r27 σ27 =>
jd_li (jd_pr σ27 t 8 (some τ25.1.length)) fun τ28 =>
jd_li (jd_new τ28 (10, 16)) fun τ29 =>
jd_b (m_X10_init τ28.1.length τ29) fun r30 σ30 =>
jd_li (jd_pr σ30 t 9 (some τ28.1.length)) fun τ31 =>
jd_li (jd_pi τ31 t 10 0) fun τ32 =>
jd_li (jd_pi τ32 t 11 0) fun τ33 =>
some ((), τ33)
set_option maxHeartbeats 4000000 in
set_option maxRecDepth 20000 in
theorem c_X11_init {l : Launch} {s0 : State} {G : jd_G} (hF : jd_F s0 G) (σ : jd_Hp) (t : Nat) (ht : σ.1[t]? = some (11, 12)) : jd_M l s0 G yX11_init cX11_init 1 none 3 je_v [jd_v G (some t)] σ (m_X11_init t σ) := by
  refine jd_enter hF (by decide) (fun G => [some (jd_v G (some t))]) rfl (by simp [lv_args, jd_al, jd_v_cat, jd_cti, jd_ctl]) (by simp [lg_sl, jd_v_cat, jd_cti, jd_ctl]) (fun X hD hX => ?_)
  have hX : jd_C X RX11 "<init>" cX11_init 1 none := hX
  unfold m_X11_init
  refine jr_ald0 (pc := 0) hX dX11_init_0 ?_
  refine jr_oinit (pc := 1) hX lX11_1 (jd_d1 hD rfl) (Nat.le_of_ble_eq_true rfl) dX11_init_1 ?_
  refine jr_ald0 (pc := 4) hX dX11_init_4 ?_
  refine jr_new (pc := 5) hX nX11_7 dX11_init_5 ?_
  refine jr_li ?_
  refine jr_dup (pc := 8) hX (jd_v_cat _ _) dX11_init_8 ?_
  refine jr_cI0 (pc := 9) hX lX11_9 (c_X8_init hX.F (jd_new σ (8, 2)) σ.1.length (jd_nw (σ := σ) (x := (8, 2)) :)) (jd_dd hD rfl) (by simp [jd_v_cat, jd_cti, jd_ctl]) dX11_init_9 (fun r2 σ2 p2 => ?_)
  refine jr_putrF (pc := 12) hX fX11_10 rfl ⟨_, _, rfl, rfl⟩ rfl dX11_init_12 (p2.at ((jd_p.new σ (8, 2)).at ht :) :) ?_
  refine jr_li ?_
  refine jr_ald0 (pc := 15) hX dX11_init_15 ?_
  refine jr_new (pc := 16) hX nX11_16 dX11_init_16 ?_
  refine jr_li ?_
  refine jr_dup (pc := 19) hX (jd_v_cat _ _) dX11_init_19 ?_
  refine jr_ald0 (pc := 20) hX dX11_init_20 ?_
  refine jr_getr (pc := 21) hX fX11_10 rfl dX11_init_21 ((jd_p.new (jd_pr σ2 t 0 (some σ.1.length)) (9, 16)).at (p2.at ((jd_p.new σ (8, 2)).at ht :) :) :) ?_
  refine jr_ck0 (fun a5 e5 h5 => ?_)
  refine jr_getr (pc := 24) hX fX11_18 rfl dX11_init_24 h5 ?_
  refine jr_cI1 (pc := 27) hX lX11_22 (c_X9_init hX.F (jd_new (jd_pr σ2 t 0 (some σ.1.length)) (9, 16)) (jd_pr σ2 t 0 (some σ.1.length)).1.length (jd_nw (σ := (jd_pr σ2 t 0 (some σ.1.length))) (x := (9, 16)) :) _) (jd_dd hD rfl) (by simp [jd_v_cat, jd_cti, jd_ctl]) dX11_init_27 (fun r6 σ6 p6 => ?_)
  refine jr_putrF (pc := 30) hX fX11_25 rfl ⟨_, _, rfl, rfl⟩ rfl dX11_init_30 (p6.at ((jd_p.new (jd_pr σ2 t 0 (some σ.1.length)) (9, 16)).at (p2.at ((jd_p.new σ (8, 2)).at ht :) :) :) :) ?_
  refine jr_li ?_
  refine jr_ald0 (pc := 33) hX dX11_init_33 ?_
  refine jr_new (pc := 34) hX nX11_29 dX11_init_34 ?_
  refine jr_li ?_
  refine jr_dup (pc := 37) hX (jd_v_cat _ _) dX11_init_37 ?_
  refine jr_cI0 (pc := 38) hX lX11_31 (c_X6_init hX.F (jd_new (jd_pr σ6 t 1 (some (jd_pr σ2 t 0 (some σ.1.length)).1.length)) (6, 8)) (jd_pr σ6 t 1 (some (jd_pr σ2 t 0 (some σ.1.length)).1.length)).1.length (jd_nw (σ := (jd_pr σ6 t 1 (some (jd_pr σ2 t 0 (some σ.1.length)).1.length))) (x := (6, 8)) :)) (jd_dd hD rfl) (by simp [jd_v_cat, jd_cti, jd_ctl]) dX11_init_38 (fun r9 σ9 p9 => ?_)
  refine jr_putrF (pc := 41) hX fX11_32 rfl ⟨_, _, rfl, rfl⟩ rfl dX11_init_41 (p9.at ((jd_p.new (jd_pr σ6 t 1 (some (jd_pr σ2 t 0 (some σ.1.length)).1.length)) (6, 8)).at (p6.at ((jd_p.new (jd_pr σ2 t 0 (some σ.1.length)) (9, 16)).at (p2.at ((jd_p.new σ (8, 2)).at ht :) :) :) :) :) :) ?_
  refine jr_li ?_
  refine jr_ald0 (pc := 44) hX dX11_init_44 ?_
  refine jr_new (pc := 45) hX nX11_36 dX11_init_45 ?_
  refine jr_li ?_
  refine jr_dup (pc := 48) hX (jd_v_cat _ _) dX11_init_48 ?_
  refine jr_cI0 (pc := 49) hX lX11_38 (c_X2_init hX.F (jd_new (jd_pr σ9 t 2 (some (jd_pr σ6 t 1 (some (jd_pr σ2 t 0 (some σ.1.length)).1.length)).1.length)) (2, 5)) (jd_pr σ9 t 2 (some (jd_pr σ6 t 1 (some (jd_pr σ2 t 0 (some σ.1.length)).1.length)).1.length)).1.length (jd_nw (σ := (jd_pr σ9 t 2 (some (jd_pr σ6 t 1 (some (jd_pr σ2 t 0 (some σ.1.length)).1.length)).1.length))) (x := (2, 5)) :)) (jd_dd hD rfl) (by simp [jd_v_cat, jd_cti, jd_ctl]) dX11_init_49 (fun r12 σ12 p12 => ?_)
  refine jr_putrF (pc := 52) hX fX11_39 rfl ⟨_, _, rfl, rfl⟩ rfl dX11_init_52 (p12.at ((jd_p.new (jd_pr σ9 t 2 (some (jd_pr σ6 t 1 (some (jd_pr σ2 t 0 (some σ.1.length)).1.length)).1.length)) (2, 5)).at (p9.at ((jd_p.new (jd_pr σ6 t 1 (some (jd_pr σ2 t 0 (some σ.1.length)).1.length)) (6, 8)).at (p6.at ((jd_p.new (jd_pr σ2 t 0 (some σ.1.length)) (9, 16)).at (p2.at ((jd_p.new σ (8, 2)).at ht :) :) :) :) :) :) :) :) ?_
  refine jr_li ?_
  refine jr_ald0 (pc := 55) hX dX11_init_55 ?_
  refine jr_new (pc := 56) hX nX11_43 dX11_init_56 ?_
  refine jr_li ?_
  refine jr_dup (pc := 59) hX (jd_v_cat _ _) dX11_init_59 ?_
  refine jr_cI0 (pc := 60) hX lX11_45 (c_X0_init hX.F (jd_new (jd_pr σ12 t 3 (some (jd_pr σ9 t 2 (some (jd_pr σ6 t 1 (some (jd_pr σ2 t 0 (some σ.1.length)).1.length)).1.length)).1.length)) (0, 4)) (jd_pr σ12 t 3 (some (jd_pr σ9 t 2 (some (jd_pr σ6 t 1 (some (jd_pr σ2 t 0 (some σ.1.length)).1.length)).1.length)).1.length)).1.length (jd_nw (σ := (jd_pr σ12 t 3 (some (jd_pr σ9 t 2 (some (jd_pr σ6 t 1 (some (jd_pr σ2 t 0 (some σ.1.length)).1.length)).1.length)).1.length))) (x := (0, 4)) :)) (jd_dd hD rfl) (by simp [jd_v_cat, jd_cti, jd_ctl]) dX11_init_60 (fun r15 σ15 p15 => ?_)
  refine jr_putrF (pc := 63) hX fX11_46 rfl ⟨_, _, rfl, rfl⟩ rfl dX11_init_63 (p15.at ((jd_p.new (jd_pr σ12 t 3 (some (jd_pr σ9 t 2 (some (jd_pr σ6 t 1 (some (jd_pr σ2 t 0 (some σ.1.length)).1.length)).1.length)).1.length)) (0, 4)).at (p12.at ((jd_p.new (jd_pr σ9 t 2 (some (jd_pr σ6 t 1 (some (jd_pr σ2 t 0 (some σ.1.length)).1.length)).1.length)) (2, 5)).at (p9.at ((jd_p.new (jd_pr σ6 t 1 (some (jd_pr σ2 t 0 (some σ.1.length)).1.length)) (6, 8)).at (p6.at ((jd_p.new (jd_pr σ2 t 0 (some σ.1.length)) (9, 16)).at (p2.at ((jd_p.new σ (8, 2)).at ht :) :) :) :) :) :) :) :) :) :) ?_
  refine jr_li ?_
  refine jr_ald0 (pc := 66) hX dX11_init_66 ?_
  refine jr_new (pc := 67) hX nX11_50 dX11_init_67 ?_
  refine jr_li ?_
  refine jr_dup (pc := 70) hX (jd_v_cat _ _) dX11_init_70 ?_
  refine jr_cI0 (pc := 71) hX lX11_52 (c_X5_init hX.F (jd_new (jd_pr σ15 t 4 (some (jd_pr σ12 t 3 (some (jd_pr σ9 t 2 (some (jd_pr σ6 t 1 (some (jd_pr σ2 t 0 (some σ.1.length)).1.length)).1.length)).1.length)).1.length)) (5, 4)) (jd_pr σ15 t 4 (some (jd_pr σ12 t 3 (some (jd_pr σ9 t 2 (some (jd_pr σ6 t 1 (some (jd_pr σ2 t 0 (some σ.1.length)).1.length)).1.length)).1.length)).1.length)).1.length (jd_nw (σ := (jd_pr σ15 t 4 (some (jd_pr σ12 t 3 (some (jd_pr σ9 t 2 (some (jd_pr σ6 t 1 (some (jd_pr σ2 t 0 (some σ.1.length)).1.length)).1.length)).1.length)).1.length))) (x := (5, 4)) :)) (jd_dd hD rfl) (by simp [jd_v_cat, jd_cti, jd_ctl]) dX11_init_71 (fun r18 σ18 p18 => ?_)
  refine jr_putrF (pc := 74) hX fX11_53 rfl ⟨_, _, rfl, rfl⟩ rfl dX11_init_74 (p18.at ((jd_p.new (jd_pr σ15 t 4 (some (jd_pr σ12 t 3 (some (jd_pr σ9 t 2 (some (jd_pr σ6 t 1 (some (jd_pr σ2 t 0 (some σ.1.length)).1.length)).1.length)).1.length)).1.length)) (5, 4)).at (p15.at ((jd_p.new (jd_pr σ12 t 3 (some (jd_pr σ9 t 2 (some (jd_pr σ6 t 1 (some (jd_pr σ2 t 0 (some σ.1.length)).1.length)).1.length)).1.length)) (0, 4)).at (p12.at ((jd_p.new (jd_pr σ9 t 2 (some (jd_pr σ6 t 1 (some (jd_pr σ2 t 0 (some σ.1.length)).1.length)).1.length)) (2, 5)).at (p9.at ((jd_p.new (jd_pr σ6 t 1 (some (jd_pr σ2 t 0 (some σ.1.length)).1.length)) (6, 8)).at (p6.at ((jd_p.new (jd_pr σ2 t 0 (some σ.1.length)) (9, 16)).at (p2.at ((jd_p.new σ (8, 2)).at ht :) :) :) :) :) :) :) :) :) :) :) :) ?_
  refine jr_li ?_
  refine jr_ald0 (pc := 77) hX dX11_init_77 ?_
  refine jr_new (pc := 78) hX nX11_57 dX11_init_78 ?_
  refine jr_li ?_
  refine jr_dup (pc := 81) hX (jd_v_cat _ _) dX11_init_81 ?_
  refine jr_cI0 (pc := 82) hX lX11_59 (c_X7_init hX.F (jd_new (jd_pr σ18 t 5 (some (jd_pr σ15 t 4 (some (jd_pr σ12 t 3 (some (jd_pr σ9 t 2 (some (jd_pr σ6 t 1 (some (jd_pr σ2 t 0 (some σ.1.length)).1.length)).1.length)).1.length)).1.length)).1.length)) (7, 3)) (jd_pr σ18 t 5 (some (jd_pr σ15 t 4 (some (jd_pr σ12 t 3 (some (jd_pr σ9 t 2 (some (jd_pr σ6 t 1 (some (jd_pr σ2 t 0 (some σ.1.length)).1.length)).1.length)).1.length)).1.length)).1.length)).1.length (jd_nw (σ := (jd_pr σ18 t 5 (some (jd_pr σ15 t 4 (some (jd_pr σ12 t 3 (some (jd_pr σ9 t 2 (some (jd_pr σ6 t 1 (some (jd_pr σ2 t 0 (some σ.1.length)).1.length)).1.length)).1.length)).1.length)).1.length))) (x := (7, 3)) :)) (jd_dd hD rfl) (by simp [jd_v_cat, jd_cti, jd_ctl]) dX11_init_82 (fun r21 σ21 p21 => ?_)
  refine jr_putrF (pc := 85) hX fX11_60 rfl ⟨_, _, rfl, rfl⟩ rfl dX11_init_85 (p21.at ((jd_p.new (jd_pr σ18 t 5 (some (jd_pr σ15 t 4 (some (jd_pr σ12 t 3 (some (jd_pr σ9 t 2 (some (jd_pr σ6 t 1 (some (jd_pr σ2 t 0 (some σ.1.length)).1.length)).1.length)).1.length)).1.length)).1.length)) (7, 3)).at (p18.at ((jd_p.new (jd_pr σ15 t 4 (some (jd_pr σ12 t 3 (some (jd_pr σ9 t 2 (some (jd_pr σ6 t 1 (some (jd_pr σ2 t 0 (some σ.1.length)).1.length)).1.length)).1.length)).1.length)) (5, 4)).at (p15.at ((jd_p.new (jd_pr σ12 t 3 (some (jd_pr σ9 t 2 (some (jd_pr σ6 t 1 (some (jd_pr σ2 t 0 (some σ.1.length)).1.length)).1.length)).1.length)) (0, 4)).at (p12.at ((jd_p.new (jd_pr σ9 t 2 (some (jd_pr σ6 t 1 (some (jd_pr σ2 t 0 (some σ.1.length)).1.length)).1.length)) (2, 5)).at (p9.at ((jd_p.new (jd_pr σ6 t 1 (some (jd_pr σ2 t 0 (some σ.1.length)).1.length)) (6, 8)).at (p6.at ((jd_p.new (jd_pr σ2 t 0 (some σ.1.length)) (9, 16)).at (p2.at ((jd_p.new σ (8, 2)).at ht :) :) :) :) :) :) :) :) :) :) :) :) :) :) ?_
  refine jr_li ?_
  refine jr_ald0 (pc := 88) hX dX11_init_88 ?_
  refine jr_new (pc := 89) hX nX11_64 dX11_init_89 ?_
  refine jr_li ?_
  refine jr_dup (pc := 92) hX (jd_v_cat _ _) dX11_init_92 ?_
  refine jr_cI0 (pc := 93) hX lX11_66 (c_X1_init hX.F (jd_new (jd_pr σ21 t 6 (some (jd_pr σ18 t 5 (some (jd_pr σ15 t 4 (some (jd_pr σ12 t 3 (some (jd_pr σ9 t 2 (some (jd_pr σ6 t 1 (some (jd_pr σ2 t 0 (some σ.1.length)).1.length)).1.length)).1.length)).1.length)).1.length)).1.length)) (1, 2)) (jd_pr σ21 t 6 (some (jd_pr σ18 t 5 (some (jd_pr σ15 t 4 (some (jd_pr σ12 t 3 (some (jd_pr σ9 t 2 (some (jd_pr σ6 t 1 (some (jd_pr σ2 t 0 (some σ.1.length)).1.length)).1.length)).1.length)).1.length)).1.length)).1.length)).1.length (jd_nw (σ := (jd_pr σ21 t 6 (some (jd_pr σ18 t 5 (some (jd_pr σ15 t 4 (some (jd_pr σ12 t 3 (some (jd_pr σ9 t 2 (some (jd_pr σ6 t 1 (some (jd_pr σ2 t 0 (some σ.1.length)).1.length)).1.length)).1.length)).1.length)).1.length)).1.length))) (x := (1, 2)) :)) (jd_dd hD rfl) (by simp [jd_v_cat, jd_cti, jd_ctl]) dX11_init_93 (fun r24 σ24 p24 => ?_)
  refine jr_putrF (pc := 96) hX fX11_67 rfl ⟨_, _, rfl, rfl⟩ rfl dX11_init_96 (p24.at ((jd_p.new (jd_pr σ21 t 6 (some (jd_pr σ18 t 5 (some (jd_pr σ15 t 4 (some (jd_pr σ12 t 3 (some (jd_pr σ9 t 2 (some (jd_pr σ6 t 1 (some (jd_pr σ2 t 0 (some σ.1.length)).1.length)).1.length)).1.length)).1.length)).1.length)).1.length)) (1, 2)).at (p21.at ((jd_p.new (jd_pr σ18 t 5 (some (jd_pr σ15 t 4 (some (jd_pr σ12 t 3 (some (jd_pr σ9 t 2 (some (jd_pr σ6 t 1 (some (jd_pr σ2 t 0 (some σ.1.length)).1.length)).1.length)).1.length)).1.length)).1.length)) (7, 3)).at (p18.at ((jd_p.new (jd_pr σ15 t 4 (some (jd_pr σ12 t 3 (some (jd_pr σ9 t 2 (some (jd_pr σ6 t 1 (some (jd_pr σ2 t 0 (some σ.1.length)).1.length)).1.length)).1.length)).1.length)) (5, 4)).at (p15.at ((jd_p.new (jd_pr σ12 t 3 (some (jd_pr σ9 t 2 (some (jd_pr σ6 t 1 (some (jd_pr σ2 t 0 (some σ.1.length)).1.length)).1.length)).1.length)) (0, 4)).at (p12.at ((jd_p.new (jd_pr σ9 t 2 (some (jd_pr σ6 t 1 (some (jd_pr σ2 t 0 (some σ.1.length)).1.length)).1.length)) (2, 5)).at (p9.at ((jd_p.new (jd_pr σ6 t 1 (some (jd_pr σ2 t 0 (some σ.1.length)).1.length)) (6, 8)).at (p6.at ((jd_p.new (jd_pr σ2 t 0 (some σ.1.length)) (9, 16)).at (p2.at ((jd_p.new σ (8, 2)).at ht :) :) :) :) :) :) :) :) :) :) :) :) :) :) :) :) ?_
  refine jr_li ?_
  refine jr_ald0 (pc := 99) hX dX11_init_99 ?_
  refine jr_new (pc := 100) hX nX11_71 dX11_init_100 ?_
  refine jr_li ?_
  refine jr_dup (pc := 103) hX (jd_v_cat _ _) dX11_init_103 ?_
  refine jr_cI0 (pc := 104) hX lX11_73 (c_X3_init hX.F (jd_new (jd_pr σ24 t 7 (some (jd_pr σ21 t 6 (some (jd_pr σ18 t 5 (some (jd_pr σ15 t 4 (some (jd_pr σ12 t 3 (some (jd_pr σ9 t 2 (some (jd_pr σ6 t 1 (some (jd_pr σ2 t 0 (some σ.1.length)).1.length)).1.length)).1.length)).1.length)).1.length)).1.length)).1.length)) (3, 2)) (jd_pr σ24 t 7 (some (jd_pr σ21 t 6 (some (jd_pr σ18 t 5 (some (jd_pr σ15 t 4 (some (jd_pr σ12 t 3 (some (jd_pr σ9 t 2 (some (jd_pr σ6 t 1 (some (jd_pr σ2 t 0 (some σ.1.length)).1.length)).1.length)).1.length)).1.length)).1.length)).1.length)).1.length)).1.length (jd_nw (σ := (jd_pr σ24 t 7 (some (jd_pr σ21 t 6 (some (jd_pr σ18 t 5 (some (jd_pr σ15 t 4 (some (jd_pr σ12 t 3 (some (jd_pr σ9 t 2 (some (jd_pr σ6 t 1 (some (jd_pr σ2 t 0 (some σ.1.length)).1.length)).1.length)).1.length)).1.length)).1.length)).1.length)).1.length))) (x := (3, 2)) :)) (jd_dd hD rfl) (by simp [jd_v_cat, jd_cti, jd_ctl]) dX11_init_104 (fun r27 σ27 p27 => ?_)
  refine jr_putrF (pc := 107) hX fX11_74 rfl ⟨_, _, rfl, rfl⟩ rfl dX11_init_107 (p27.at ((jd_p.new (jd_pr σ24 t 7 (some (jd_pr σ21 t 6 (some (jd_pr σ18 t 5 (some (jd_pr σ15 t 4 (some (jd_pr σ12 t 3 (some (jd_pr σ9 t 2 (some (jd_pr σ6 t 1 (some (jd_pr σ2 t 0 (some σ.1.length)).1.length)).1.length)).1.length)).1.length)).1.length)).1.length)).1.length)) (3, 2)).at (p24.at ((jd_p.new (jd_pr σ21 t 6 (some (jd_pr σ18 t 5 (some (jd_pr σ15 t 4 (some (jd_pr σ12 t 3 (some (jd_pr σ9 t 2 (some (jd_pr σ6 t 1 (some (jd_pr σ2 t 0 (some σ.1.length)).1.length)).1.length)).1.length)).1.length)).1.length)).1.length)) (1, 2)).at (p21.at ((jd_p.new (jd_pr σ18 t 5 (some (jd_pr σ15 t 4 (some (jd_pr σ12 t 3 (some (jd_pr σ9 t 2 (some (jd_pr σ6 t 1 (some (jd_pr σ2 t 0 (some σ.1.length)).1.length)).1.length)).1.length)).1.length)).1.length)) (7, 3)).at (p18.at ((jd_p.new (jd_pr σ15 t 4 (some (jd_pr σ12 t 3 (some (jd_pr σ9 t 2 (some (jd_pr σ6 t 1 (some (jd_pr σ2 t 0 (some σ.1.length)).1.length)).1.length)).1.length)).1.length)) (5, 4)).at (p15.at ((jd_p.new (jd_pr σ12 t 3 (some (jd_pr σ9 t 2 (some (jd_pr σ6 t 1 (some (jd_pr σ2 t 0 (some σ.1.length)).1.length)).1.length)).1.length)) (0, 4)).at (p12.at ((jd_p.new (jd_pr σ9 t 2 (some (jd_pr σ6 t 1 (some (jd_pr σ2 t 0 (some σ.1.length)).1.length)).1.length)) (2, 5)).at (p9.at ((jd_p.new (jd_pr σ6 t 1 (some (jd_pr σ2 t 0 (some σ.1.length)).1.length)) (6, 8)).at (p6.at ((jd_p.new (jd_pr σ2 t 0 (some σ.1.length)) (9, 16)).at (p2.at ((jd_p.new σ (8, 2)).at ht :) :) :) :) :) :) :) :) :) :) :) :) :) :) :) :) :) :) ?_
  refine jr_li ?_
  refine jr_ald0 (pc := 110) hX dX11_init_110 ?_
  refine jr_new (pc := 111) hX nX11_78 dX11_init_111 ?_
  refine jr_li ?_
  refine jr_dup (pc := 114) hX (jd_v_cat _ _) dX11_init_114 ?_
  refine jr_cI0 (pc := 115) hX lX11_80 (c_X10_init hX.F (jd_new (jd_pr σ27 t 8 (some (jd_pr σ24 t 7 (some (jd_pr σ21 t 6 (some (jd_pr σ18 t 5 (some (jd_pr σ15 t 4 (some (jd_pr σ12 t 3 (some (jd_pr σ9 t 2 (some (jd_pr σ6 t 1 (some (jd_pr σ2 t 0 (some σ.1.length)).1.length)).1.length)).1.length)).1.length)).1.length)).1.length)).1.length)).1.length)) (10, 16)) (jd_pr σ27 t 8 (some (jd_pr σ24 t 7 (some (jd_pr σ21 t 6 (some (jd_pr σ18 t 5 (some (jd_pr σ15 t 4 (some (jd_pr σ12 t 3 (some (jd_pr σ9 t 2 (some (jd_pr σ6 t 1 (some (jd_pr σ2 t 0 (some σ.1.length)).1.length)).1.length)).1.length)).1.length)).1.length)).1.length)).1.length)).1.length)).1.length (jd_nw (σ := (jd_pr σ27 t 8 (some (jd_pr σ24 t 7 (some (jd_pr σ21 t 6 (some (jd_pr σ18 t 5 (some (jd_pr σ15 t 4 (some (jd_pr σ12 t 3 (some (jd_pr σ9 t 2 (some (jd_pr σ6 t 1 (some (jd_pr σ2 t 0 (some σ.1.length)).1.length)).1.length)).1.length)).1.length)).1.length)).1.length)).1.length)).1.length))) (x := (10, 16)) :)) (jd_dd hD rfl) (by simp [jd_v_cat, jd_cti, jd_ctl]) dX11_init_115 (fun r30 σ30 p30 => ?_)
  refine jr_putr (pc := 118) hX fX11_81 rfl dX11_init_118 (p30.at ((jd_p.new (jd_pr σ27 t 8 (some (jd_pr σ24 t 7 (some (jd_pr σ21 t 6 (some (jd_pr σ18 t 5 (some (jd_pr σ15 t 4 (some (jd_pr σ12 t 3 (some (jd_pr σ9 t 2 (some (jd_pr σ6 t 1 (some (jd_pr σ2 t 0 (some σ.1.length)).1.length)).1.length)).1.length)).1.length)).1.length)).1.length)).1.length)).1.length)) (10, 16)).at (p27.at ((jd_p.new (jd_pr σ24 t 7 (some (jd_pr σ21 t 6 (some (jd_pr σ18 t 5 (some (jd_pr σ15 t 4 (some (jd_pr σ12 t 3 (some (jd_pr σ9 t 2 (some (jd_pr σ6 t 1 (some (jd_pr σ2 t 0 (some σ.1.length)).1.length)).1.length)).1.length)).1.length)).1.length)).1.length)).1.length)) (3, 2)).at (p24.at ((jd_p.new (jd_pr σ21 t 6 (some (jd_pr σ18 t 5 (some (jd_pr σ15 t 4 (some (jd_pr σ12 t 3 (some (jd_pr σ9 t 2 (some (jd_pr σ6 t 1 (some (jd_pr σ2 t 0 (some σ.1.length)).1.length)).1.length)).1.length)).1.length)).1.length)).1.length)) (1, 2)).at (p21.at ((jd_p.new (jd_pr σ18 t 5 (some (jd_pr σ15 t 4 (some (jd_pr σ12 t 3 (some (jd_pr σ9 t 2 (some (jd_pr σ6 t 1 (some (jd_pr σ2 t 0 (some σ.1.length)).1.length)).1.length)).1.length)).1.length)).1.length)) (7, 3)).at (p18.at ((jd_p.new (jd_pr σ15 t 4 (some (jd_pr σ12 t 3 (some (jd_pr σ9 t 2 (some (jd_pr σ6 t 1 (some (jd_pr σ2 t 0 (some σ.1.length)).1.length)).1.length)).1.length)).1.length)) (5, 4)).at (p15.at ((jd_p.new (jd_pr σ12 t 3 (some (jd_pr σ9 t 2 (some (jd_pr σ6 t 1 (some (jd_pr σ2 t 0 (some σ.1.length)).1.length)).1.length)).1.length)) (0, 4)).at (p12.at ((jd_p.new (jd_pr σ9 t 2 (some (jd_pr σ6 t 1 (some (jd_pr σ2 t 0 (some σ.1.length)).1.length)).1.length)) (2, 5)).at (p9.at ((jd_p.new (jd_pr σ6 t 1 (some (jd_pr σ2 t 0 (some σ.1.length)).1.length)) (6, 8)).at (p6.at ((jd_p.new (jd_pr σ2 t 0 (some σ.1.length)) (9, 16)).at (p2.at ((jd_p.new σ (8, 2)).at ht :) :) :) :) :) :) :) :) :) :) :) :) :) :) :) :) :) :) :) :) ?_
  refine jr_li ?_
  refine jr_ald0 (pc := 121) hX dX11_init_121 ?_
  refine jr_iconst (pc := 122) hX 0 rfl dX11_init_122 ?_
  refine jr_putz (pc := 123) hX fX11_85 rfl (Or.inl rfl) dX11_init_123 (p30.at ((jd_p.new (jd_pr σ27 t 8 (some (jd_pr σ24 t 7 (some (jd_pr σ21 t 6 (some (jd_pr σ18 t 5 (some (jd_pr σ15 t 4 (some (jd_pr σ12 t 3 (some (jd_pr σ9 t 2 (some (jd_pr σ6 t 1 (some (jd_pr σ2 t 0 (some σ.1.length)).1.length)).1.length)).1.length)).1.length)).1.length)).1.length)).1.length)).1.length)) (10, 16)).at (p27.at ((jd_p.new (jd_pr σ24 t 7 (some (jd_pr σ21 t 6 (some (jd_pr σ18 t 5 (some (jd_pr σ15 t 4 (some (jd_pr σ12 t 3 (some (jd_pr σ9 t 2 (some (jd_pr σ6 t 1 (some (jd_pr σ2 t 0 (some σ.1.length)).1.length)).1.length)).1.length)).1.length)).1.length)).1.length)).1.length)) (3, 2)).at (p24.at ((jd_p.new (jd_pr σ21 t 6 (some (jd_pr σ18 t 5 (some (jd_pr σ15 t 4 (some (jd_pr σ12 t 3 (some (jd_pr σ9 t 2 (some (jd_pr σ6 t 1 (some (jd_pr σ2 t 0 (some σ.1.length)).1.length)).1.length)).1.length)).1.length)).1.length)).1.length)) (1, 2)).at (p21.at ((jd_p.new (jd_pr σ18 t 5 (some (jd_pr σ15 t 4 (some (jd_pr σ12 t 3 (some (jd_pr σ9 t 2 (some (jd_pr σ6 t 1 (some (jd_pr σ2 t 0 (some σ.1.length)).1.length)).1.length)).1.length)).1.length)).1.length)) (7, 3)).at (p18.at ((jd_p.new (jd_pr σ15 t 4 (some (jd_pr σ12 t 3 (some (jd_pr σ9 t 2 (some (jd_pr σ6 t 1 (some (jd_pr σ2 t 0 (some σ.1.length)).1.length)).1.length)).1.length)).1.length)) (5, 4)).at (p15.at ((jd_p.new (jd_pr σ12 t 3 (some (jd_pr σ9 t 2 (some (jd_pr σ6 t 1 (some (jd_pr σ2 t 0 (some σ.1.length)).1.length)).1.length)).1.length)) (0, 4)).at (p12.at ((jd_p.new (jd_pr σ9 t 2 (some (jd_pr σ6 t 1 (some (jd_pr σ2 t 0 (some σ.1.length)).1.length)).1.length)) (2, 5)).at (p9.at ((jd_p.new (jd_pr σ6 t 1 (some (jd_pr σ2 t 0 (some σ.1.length)).1.length)) (6, 8)).at (p6.at ((jd_p.new (jd_pr σ2 t 0 (some σ.1.length)) (9, 16)).at (p2.at ((jd_p.new σ (8, 2)).at ht :) :) :) :) :) :) :) :) :) :) :) :) :) :) :) :) :) :) :) :) ?_
  refine jr_li ?_
  refine jr_ald0 (pc := 126) hX dX11_init_126 ?_
  refine jr_iconst (pc := 127) hX 0 rfl dX11_init_127 ?_
  refine jr_puti (pc := 128) hX fX11_89 rfl dX11_init_128 (p30.at ((jd_p.new (jd_pr σ27 t 8 (some (jd_pr σ24 t 7 (some (jd_pr σ21 t 6 (some (jd_pr σ18 t 5 (some (jd_pr σ15 t 4 (some (jd_pr σ12 t 3 (some (jd_pr σ9 t 2 (some (jd_pr σ6 t 1 (some (jd_pr σ2 t 0 (some σ.1.length)).1.length)).1.length)).1.length)).1.length)).1.length)).1.length)).1.length)).1.length)) (10, 16)).at (p27.at ((jd_p.new (jd_pr σ24 t 7 (some (jd_pr σ21 t 6 (some (jd_pr σ18 t 5 (some (jd_pr σ15 t 4 (some (jd_pr σ12 t 3 (some (jd_pr σ9 t 2 (some (jd_pr σ6 t 1 (some (jd_pr σ2 t 0 (some σ.1.length)).1.length)).1.length)).1.length)).1.length)).1.length)).1.length)).1.length)) (3, 2)).at (p24.at ((jd_p.new (jd_pr σ21 t 6 (some (jd_pr σ18 t 5 (some (jd_pr σ15 t 4 (some (jd_pr σ12 t 3 (some (jd_pr σ9 t 2 (some (jd_pr σ6 t 1 (some (jd_pr σ2 t 0 (some σ.1.length)).1.length)).1.length)).1.length)).1.length)).1.length)).1.length)) (1, 2)).at (p21.at ((jd_p.new (jd_pr σ18 t 5 (some (jd_pr σ15 t 4 (some (jd_pr σ12 t 3 (some (jd_pr σ9 t 2 (some (jd_pr σ6 t 1 (some (jd_pr σ2 t 0 (some σ.1.length)).1.length)).1.length)).1.length)).1.length)).1.length)) (7, 3)).at (p18.at ((jd_p.new (jd_pr σ15 t 4 (some (jd_pr σ12 t 3 (some (jd_pr σ9 t 2 (some (jd_pr σ6 t 1 (some (jd_pr σ2 t 0 (some σ.1.length)).1.length)).1.length)).1.length)).1.length)) (5, 4)).at (p15.at ((jd_p.new (jd_pr σ12 t 3 (some (jd_pr σ9 t 2 (some (jd_pr σ6 t 1 (some (jd_pr σ2 t 0 (some σ.1.length)).1.length)).1.length)).1.length)) (0, 4)).at (p12.at ((jd_p.new (jd_pr σ9 t 2 (some (jd_pr σ6 t 1 (some (jd_pr σ2 t 0 (some σ.1.length)).1.length)).1.length)) (2, 5)).at (p9.at ((jd_p.new (jd_pr σ6 t 1 (some (jd_pr σ2 t 0 (some σ.1.length)).1.length)) (6, 8)).at (p6.at ((jd_p.new (jd_pr σ2 t 0 (some σ.1.length)) (9, 16)).at (p2.at ((jd_p.new σ (8, 2)).at ht :) :) :) :) :) :) :) :) :) :) :) :) :) :) :) :) :) :) :) :) ?_
  refine jr_li ?_
  exact jr_vret (pc := 131) hX dX11_init_131 rfl
def m_X11_feed (t : Nat) (x0p : Int32) (x1p : Int32) (x2p : Int32) (x3p : Int32) (x4p : Int32) (σ : jd_Hp) : Option (Int32 × jd_Hp) :=
jd_o σ (8, 2) (σ.2.2.2 t 0) fun a1 =>
jd_b (m_X8_hasRoomFor a1 20 σ) fun r2 σ2 =>
jd_if (¬ r2 = 0) (
jd_o σ2 (8, 2) (σ2.2.2.2 t 0) fun a3 =>
jd_b (m_X8_put a3 x0p σ2) fun r4 σ4 =>
jd_o σ4 (8, 2) (σ4.2.2.2 t 0) fun a5 =>
jd_b (m_X8_put a5 x1p σ4) fun r6 σ6 =>
jd_o σ6 (8, 2) (σ6.2.2.2 t 0) fun a7 =>
jd_b (m_X8_put a7 x2p σ6) fun r8 σ8 =>
jd_o σ8 (8, 2) (σ8.2.2.2 t 0) fun a9 =>
jd_b (m_X8_put a9 x3p σ8) fun r10 σ10 =>
jd_o σ10 (8, 2) (σ10.2.2.2 t 0) fun a11 =>
jd_b (m_X8_put a11 x4p σ10) fun r12 σ12 =>
jd_o σ12 (8, 2) (σ12.2.2.2 t 0) fun a13 =>
some ((σ12.2.1 a13 1), σ12)) (
some ((-1), σ2))
set_option maxHeartbeats 4000000 in
set_option maxRecDepth 20000 in
theorem c_X11_feed {l : Launch} {s0 : State} {G : jd_G} (hF : jd_F s0 G) (σ : jd_Hp) (t : Nat) (ht : σ.1[t]? = some (11, 12)) (x0p : Int32) (x1p : Int32) (x2p : Int32) (x3p : Int32) (x4p : Int32) : jd_M l s0 G yX11_feed cX11_feed 6 (some .int) 1 je_i [jd_v G (some t), .int x0p, .int x1p, .int x2p, .int x3p, .int x4p] σ (m_X11_feed t x0p x1p x2p x3p x4p σ) := by
  refine jd_enter hF (by decide) (fun G => [some (jd_v G (some t)), some (.int x0p), some (.int x1p), some (.int x2p), some (.int x3p), some (.int x4p)]) rfl (by simp [lv_args, jd_al, jd_v_cat, jd_cti, jd_ctl]) (by simp [lg_sl, jd_v_cat, jd_cti, jd_ctl]) (fun X hD hX => ?_)
  have hX : jd_C X RX11 "feed" cX11_feed 6 (some .int) := hX
  unfold m_X11_feed
  refine jr_ald0 (pc := 0) hX dX11_feed_0 ?_
  refine jr_getr (pc := 1) hX fX11_10 rfl dX11_feed_1 ht ?_
  refine jr_bipush (pc := 4) hX 20 rfl dX11_feed_4 ?_
  refine jr_ck1 (fun a1 e1 h1 => ?_)
  refine jr_cV1i (pc := 6) hX lX11_93 (c_X8_hasRoomFor hX.F σ a1 h1 _) (jd_dd hD rfl) (Nat.le_of_ble_eq_true rfl) dX11_feed_6 h1 (fun r2 σ2 p2 => ?_)
  refine jr_ifne (pc := 9) hX 14 dX11_feed_9 (by decide) ?_ ?_
  · refine jr_ald0 (pc := 14) hX dX11_feed_14 ?_
    refine jr_getr (pc := 15) hX fX11_10 rfl dX11_feed_15 (p2.at ht :) ?_
    refine jr_ild1 (pc := 18) hX dX11_feed_18 ?_
    refine jr_ck1 (fun a3 e3 h3 => ?_)
    refine jr_cV1v (pc := 19) hX lX11_97 (c_X8_put hX.F σ2 a3 h3 _) (jd_dd hD rfl) (Nat.le_of_ble_eq_true rfl) dX11_feed_19 h3 (fun r4 σ4 p4 => ?_)
    refine jr_ald0 (pc := 22) hX dX11_feed_22 ?_
    refine jr_getr (pc := 23) hX fX11_10 rfl dX11_feed_23 (p4.at (p2.at ht :) :) ?_
    refine jr_ild2 (pc := 26) hX dX11_feed_26 ?_
    refine jr_ck1 (fun a5 e5 h5 => ?_)
    refine jr_cV1v (pc := 27) hX lX11_97 (c_X8_put hX.F σ4 a5 h5 _) (jd_dd hD rfl) (Nat.le_of_ble_eq_true rfl) dX11_feed_27 h5 (fun r6 σ6 p6 => ?_)
    refine jr_ald0 (pc := 30) hX dX11_feed_30 ?_
    refine jr_getr (pc := 31) hX fX11_10 rfl dX11_feed_31 (p6.at (p4.at (p2.at ht :) :) :) ?_
    refine jr_ild3 (pc := 34) hX dX11_feed_34 ?_
    refine jr_ck1 (fun a7 e7 h7 => ?_)
    refine jr_cV1v (pc := 35) hX lX11_97 (c_X8_put hX.F σ6 a7 h7 _) (jd_dd hD rfl) (Nat.le_of_ble_eq_true rfl) dX11_feed_35 h7 (fun r8 σ8 p8 => ?_)
    refine jr_ald0 (pc := 38) hX dX11_feed_38 ?_
    refine jr_getr (pc := 39) hX fX11_10 rfl dX11_feed_39 (p8.at (p6.at (p4.at (p2.at ht :) :) :) :) ?_
    refine jr_ild4 (pc := 42) hX dX11_feed_42 ?_
    refine jr_ck1 (fun a9 e9 h9 => ?_)
    refine jr_cV1v (pc := 44) hX lX11_97 (c_X8_put hX.F σ8 a9 h9 _) (jd_dd hD rfl) (Nat.le_of_ble_eq_true rfl) dX11_feed_44 h9 (fun r10 σ10 p10 => ?_)
    refine jr_ald0 (pc := 47) hX dX11_feed_47 ?_
    refine jr_getr (pc := 48) hX fX11_10 rfl dX11_feed_48 (p10.at (p8.at (p6.at (p4.at (p2.at ht :) :) :) :) :) ?_
    refine jr_ild5 (pc := 51) hX dX11_feed_51 ?_
    refine jr_ck1 (fun a11 e11 h11 => ?_)
    refine jr_cV1v (pc := 53) hX lX11_97 (c_X8_put hX.F σ10 a11 h11 _) (jd_dd hD rfl) (Nat.le_of_ble_eq_true rfl) dX11_feed_53 h11 (fun r12 σ12 p12 => ?_)
    refine jr_ald0 (pc := 56) hX dX11_feed_56 ?_
    refine jr_getr (pc := 57) hX fX11_10 rfl dX11_feed_57 (p12.at (p10.at (p8.at (p6.at (p4.at (p2.at ht :) :) :) :) :) :) ?_
    refine jr_ck0 (fun a13 e13 h13 => ?_)
    refine jr_geti (pc := 60) hX fX11_101 rfl dX11_feed_60 h13 ?_
    exact jr_iret (pc := 63) hX dX11_feed_63 rfl
  · refine jr_iconst (pc := 12) hX (-1) rfl dX11_feed_12 ?_
    exact jr_iret (pc := 13) hX dX11_feed_13 rfl
def m_X11_refuse (t : Nat) (x0p : Int32) (σ : jd_Hp) : Option (Int32 × jd_Hp) :=
jd_li (jd_pi σ t 11 x0p) fun τ1 =>
some ((-1), τ1)
set_option maxHeartbeats 4000000 in
set_option maxRecDepth 20000 in
theorem c_X11_refuse {l : Launch} {s0 : State} {G : jd_G} (hF : jd_F s0 G) (σ : jd_Hp) (t : Nat) (ht : σ.1[t]? = some (11, 12)) (x0p : Int32) : jd_M l s0 G yX11_refuse cX11_refuse 2 (some .int) 0 je_i [jd_v G (some t), .int x0p] σ (m_X11_refuse t x0p σ) := by
  refine jd_enter hF (by decide) (fun G => [some (jd_v G (some t)), some (.int x0p)]) rfl (by simp [lv_args, jd_al, jd_v_cat, jd_cti, jd_ctl]) (by simp [lg_sl, jd_v_cat, jd_cti, jd_ctl]) (fun X hD hX => ?_)
  have hX : jd_C X RX11 "refuse" cX11_refuse 2 (some .int) := hX
  unfold m_X11_refuse
  refine jr_ald0 (pc := 0) hX dX11_refuse_0 ?_
  refine jr_ild1 (pc := 1) hX dX11_refuse_1 ?_
  refine jr_puti (pc := 2) hX fX11_89 rfl dX11_refuse_2 ht ?_
  refine jr_li ?_
  refine jr_iconst (pc := 5) hX (-1) rfl dX11_refuse_5 ?_
  exact jr_iret (pc := 6) hX dX11_refuse_6 rfl
def m_X11_grant (t : Nat) (x0p : Int32) (σ : jd_Hp) : Option (Int32 × jd_Hp) :=
jd_li (jd_pi σ t 11 0) fun τ1 =>
some (x0p, τ1)
set_option maxHeartbeats 4000000 in
set_option maxRecDepth 20000 in
theorem c_X11_grant {l : Launch} {s0 : State} {G : jd_G} (hF : jd_F s0 G) (σ : jd_Hp) (t : Nat) (ht : σ.1[t]? = some (11, 12)) (x0p : Int32) : jd_M l s0 G yX11_grant cX11_grant 2 (some .int) 0 je_i [jd_v G (some t), .int x0p] σ (m_X11_grant t x0p σ) := by
  refine jd_enter hF (by decide) (fun G => [some (jd_v G (some t)), some (.int x0p)]) rfl (by simp [lv_args, jd_al, jd_v_cat, jd_cti, jd_ctl]) (by simp [lg_sl, jd_v_cat, jd_cti, jd_ctl]) (fun X hD hX => ?_)
  have hX : jd_C X RX11 "grant" cX11_grant 2 (some .int) := hX
  unfold m_X11_grant
  refine jr_ald0 (pc := 0) hX dX11_grant_0 ?_
  refine jr_iconst (pc := 1) hX 0 rfl dX11_grant_1 ?_
  refine jr_puti (pc := 2) hX fX11_89 rfl dX11_grant_2 ht ?_
  refine jr_li ?_
  refine jr_ild1 (pc := 5) hX dX11_grant_5 ?_
  exact jr_iret (pc := 6) hX dX11_grant_6 rfl
def m_X11_fault (t : Nat) (σ : jd_Hp) : Option (Int32 × jd_Hp) :=
jd_o σ (9, 16) (σ.2.2.2 t 1) fun a1 =>
some ((σ.2.1 a1 14), σ)
set_option maxHeartbeats 4000000 in
set_option maxRecDepth 20000 in
theorem c_X11_fault {l : Launch} {s0 : State} {G : jd_G} (hF : jd_F s0 G) (σ : jd_Hp) (t : Nat) (ht : σ.1[t]? = some (11, 12)) : jd_M l s0 G yX11_fault cX11_fault 1 (some .int) 0 je_i [jd_v G (some t)] σ (m_X11_fault t σ) := by
  refine jd_enter hF (by decide) (fun G => [some (jd_v G (some t))]) rfl (by simp [lv_args, jd_al, jd_v_cat, jd_cti, jd_ctl]) (by simp [lg_sl, jd_v_cat, jd_cti, jd_ctl]) (fun X hD hX => ?_)
  have hX : jd_C X RX11 "fault" cX11_fault 1 (some .int) := hX
  unfold m_X11_fault
  refine jr_ald0 (pc := 0) hX dX11_fault_0 ?_
  refine jr_getr (pc := 1) hX fX11_25 rfl dX11_fault_1 ht ?_
  refine jr_ck0 (fun a1 e1 h1 => ?_)
  refine jr_geti (pc := 4) hX fX11_131 rfl dX11_fault_4 h1 ?_
  exact jr_iret (pc := 7) hX dX11_fault_7 rfl
def m_X11_where (t : Nat) (σ : jd_Hp) : Option (Int32 × jd_Hp) :=
jd_if (¬ (σ.2.1 t 11) = 4) (
some ((-1), σ)) (
jd_o σ (9, 16) (σ.2.2.2 t 1) fun a1 =>
some ((σ.2.1 a1 15), σ))
set_option maxHeartbeats 4000000 in
set_option maxRecDepth 20000 in
theorem c_X11_where {l : Launch} {s0 : State} {G : jd_G} (hF : jd_F s0 G) (σ : jd_Hp) (t : Nat) (ht : σ.1[t]? = some (11, 12)) : jd_M l s0 G yX11_where cX11_where 1 (some .int) 0 je_i [jd_v G (some t)] σ (m_X11_where t σ) := by
  refine jd_enter hF (by decide) (fun G => [some (jd_v G (some t))]) rfl (by simp [lv_args, jd_al, jd_v_cat, jd_cti, jd_ctl]) (by simp [lg_sl, jd_v_cat, jd_cti, jd_ctl]) (fun X hD hX => ?_)
  have hX : jd_C X RX11 "where" cX11_where 1 (some .int) := hX
  unfold m_X11_where
  refine jr_ald0 (pc := 0) hX dX11_where_0 ?_
  refine jr_geti (pc := 1) hX fX11_89 rfl dX11_where_1 ht ?_
  refine jr_iconst (pc := 4) hX 4 rfl dX11_where_4 ?_
  refine jr_icne (pc := 5) hX 18 dX11_where_5 (by decide) ?_ ?_
  · refine jr_iconst (pc := 18) hX (-1) rfl dX11_where_18 ?_
    exact jr_iret (pc := 19) hX dX11_where_19 rfl
  · refine jr_ald0 (pc := 8) hX dX11_where_8 ?_
    refine jr_getr (pc := 9) hX fX11_25 rfl dX11_where_9 ht ?_
    refine jr_ck0 (fun a1 e1 h1 => ?_)
    refine jr_geti (pc := 12) hX fX11_134 rfl dX11_where_12 h1 ?_
    refine jr_goto (pc := 15) hX 19 dX11_where_15 (by decide) ?_
    exact jr_iret (pc := 19) hX dX11_where_19 rfl
def m_X11_isPerson (t : Nat) (x0p : Int32) (σ : jd_Hp) : Option (Int32 × jd_Hp) :=
jd_if ((σ.2.1 t 10) = 0) (
some (0, σ)) (
jd_if (x0p < 0) (
some (0, σ)) (
jd_o σ (6, 8) (σ.2.2.2 t 2) fun a1 =>
jd_o σ (10, 16) (σ.2.2.2 a1 5) fun a2 =>
jd_if ((σ.2.1 a2 11) ≤ x0p) (
some (0, σ)) (
some (1, σ))))
set_option maxHeartbeats 4000000 in
set_option maxRecDepth 20000 in
theorem c_X11_isPerson {l : Launch} {s0 : State} {G : jd_G} (hF : jd_F s0 G) (σ : jd_Hp) (t : Nat) (ht : σ.1[t]? = some (11, 12)) (x0p : Int32) : jd_M l s0 G yX11_isPerson cX11_isPerson 2 (some .boolean) 0 je_i [jd_v G (some t), .int x0p] σ (m_X11_isPerson t x0p σ) := by
  refine jd_enter hF (by decide) (fun G => [some (jd_v G (some t)), some (.int x0p)]) rfl (by simp [lv_args, jd_al, jd_v_cat, jd_cti, jd_ctl]) (by simp [lg_sl, jd_v_cat, jd_cti, jd_ctl]) (fun X hD hX => ?_)
  have hX : jd_C X RX11 "isPerson" cX11_isPerson 2 (some .boolean) := hX
  unfold m_X11_isPerson
  refine jr_ald0 (pc := 0) hX dX11_isPerson_0 ?_
  refine jr_geti (pc := 1) hX fX11_85 rfl dX11_isPerson_1 ht ?_
  refine jr_ifeq (pc := 4) hX 29 dX11_isPerson_4 (by decide) ?_ ?_
  · refine jr_iconst (pc := 29) hX 0 rfl dX11_isPerson_29 ?_
    exact jr_zret (pc := 30) hX dX11_isPerson_30 (Or.inl rfl) rfl
  · refine jr_ild1 (pc := 7) hX dX11_isPerson_7 ?_
    refine jr_iflt (pc := 8) hX 29 dX11_isPerson_8 (by decide) ?_ ?_
    · refine jr_iconst (pc := 29) hX 0 rfl dX11_isPerson_29 ?_
      exact jr_zret (pc := 30) hX dX11_isPerson_30 (Or.inl rfl) rfl
    · refine jr_ild1 (pc := 11) hX dX11_isPerson_11 ?_
      refine jr_ald0 (pc := 12) hX dX11_isPerson_12 ?_
      refine jr_getr (pc := 13) hX fX11_32 rfl dX11_isPerson_13 ht ?_
      refine jr_ck0 (fun a1 e1 h1 => ?_)
      refine jr_getr (pc := 16) hX fX11_112 rfl dX11_isPerson_16 h1 ?_
      refine jr_ck0 (fun a2 e2 h2 => ?_)
      refine jr_geti (pc := 19) hX fX11_125 rfl dX11_isPerson_19 h2 ?_
      refine jr_icge (pc := 22) hX 29 dX11_isPerson_22 (by decide) ?_ ?_
      · refine jr_iconst (pc := 29) hX 0 rfl dX11_isPerson_29 ?_
        exact jr_zret (pc := 30) hX dX11_isPerson_30 (Or.inl rfl) rfl
      · refine jr_iconst (pc := 25) hX 1 rfl dX11_isPerson_25 ?_
        refine jr_goto (pc := 26) hX 30 dX11_isPerson_26 (by decide) ?_
        exact jr_zret (pc := 30) hX dX11_isPerson_30 (Or.inr rfl) rfl
def m_X11_person (t : Nat) (x0p : Int32) (x1p : Int32) (σ : jd_Hp) : Option (Int32 × jd_Hp) :=
jd_b (m_X11_isPerson t x0p σ) fun r1 σ1 =>
jd_if (r1 = 0) (
jd_b (m_X11_refuse t 1 σ1) fun r2 σ2 =>
some (r2, σ2)) (
jd_if (x1p < 0) (
jd_b (m_X11_refuse t 1 σ1) fun r3 σ3 =>
some (r3, σ3)) (
jd_if (x1p ≤ 8) (
jd_o σ1 (6, 8) (σ1.2.2.2 t 2) fun a4 =>
jd_b (m_X6_ofPerson a4 x0p x1p σ1) fun r5 σ5 =>
jd_b (m_X11_grant t r5 σ5) fun r6 σ6 =>
some (r6, σ6)) (
jd_b (m_X11_refuse t 1 σ1) fun r7 σ7 =>
some (r7, σ7))))
set_option maxHeartbeats 4000000 in
set_option maxRecDepth 20000 in
theorem c_X11_person {l : Launch} {s0 : State} {G : jd_G} (hF : jd_F s0 G) (σ : jd_Hp) (t : Nat) (ht : σ.1[t]? = some (11, 12)) (x0p : Int32) (x1p : Int32) : jd_M l s0 G yX11_person cX11_person 3 (some .int) 4 je_i [jd_v G (some t), .int x0p, .int x1p] σ (m_X11_person t x0p x1p σ) := by
  refine jd_enter hF (by decide) (fun G => [some (jd_v G (some t)), some (.int x0p), some (.int x1p)]) rfl (by simp [lv_args, jd_al, jd_v_cat, jd_cti, jd_ctl]) (by simp [lg_sl, jd_v_cat, jd_cti, jd_ctl]) (fun X hD hX => ?_)
  have hX : jd_C X RX11 "person" cX11_person 3 (some .int) := hX
  unfold m_X11_person
  refine jr_ald0 (pc := 0) hX dX11_person_0 ?_
  refine jr_ild1 (pc := 1) hX dX11_person_1 ?_
  refine jr_cV1i (pc := 2) hX lX11_137 (c_X11_isPerson hX.F σ t ht _) (jd_dd hD rfl) (Nat.le_of_ble_eq_true rfl) dX11_person_2 ht (fun r1 σ1 p1 => ?_)
  refine jr_ifeq (pc := 5) hX 18 dX11_person_5 (by decide) ?_ ?_
  · refine jr_ald0 (pc := 18) hX dX11_person_18 ?_
    refine jr_iconst (pc := 19) hX 1 rfl dX11_person_19 ?_
    refine jr_cV1i (pc := 20) hX lX11_104 (c_X11_refuse hX.F σ1 t (p1.at ht :) _) (jd_dd hD rfl) (Nat.le_of_ble_eq_true rfl) dX11_person_20 (p1.at ht :) (fun r2 σ2 p2 => ?_)
    exact jr_iret (pc := 23) hX dX11_person_23 rfl
  · refine jr_ild2 (pc := 8) hX dX11_person_8 ?_
    refine jr_iflt (pc := 9) hX 18 dX11_person_9 (by decide) ?_ ?_
    · refine jr_ald0 (pc := 18) hX dX11_person_18 ?_
      refine jr_iconst (pc := 19) hX 1 rfl dX11_person_19 ?_
      refine jr_cV1i (pc := 20) hX lX11_104 (c_X11_refuse hX.F σ1 t (p1.at ht :) _) (jd_dd hD rfl) (Nat.le_of_ble_eq_true rfl) dX11_person_20 (p1.at ht :) (fun r3 σ3 p3 => ?_)
      exact jr_iret (pc := 23) hX dX11_person_23 rfl
    · refine jr_ild2 (pc := 12) hX dX11_person_12 ?_
      refine jr_bipush (pc := 13) hX 8 rfl dX11_person_13 ?_
      refine jr_icle (pc := 15) hX 24 dX11_person_15 (by decide) ?_ ?_
      · refine jr_ald0 (pc := 24) hX dX11_person_24 ?_
        refine jr_ald0 (pc := 25) hX dX11_person_25 ?_
        refine jr_getr (pc := 26) hX fX11_32 rfl dX11_person_26 (p1.at ht :) ?_
        refine jr_ild1 (pc := 29) hX dX11_person_29 ?_
        refine jr_ild2 (pc := 30) hX dX11_person_30 ?_
        refine jr_ck2 (fun a4 e4 h4 => ?_)
        refine jr_cV2i (pc := 31) hX lX11_140 (c_X6_ofPerson hX.F σ1 a4 h4 _ _) (jd_dd hD rfl) (by simp [jd_v_cat, jd_cti, jd_ctl]) dX11_person_31 h4 (fun r5 σ5 p5 => ?_)
        refine jr_cV1i (pc := 34) hX lX11_128 (c_X11_grant hX.F σ5 t (p5.at (p1.at ht :) :) _) (jd_dd hD rfl) (Nat.le_of_ble_eq_true rfl) dX11_person_34 (p5.at (p1.at ht :) :) (fun r6 σ6 p6 => ?_)
        exact jr_iret (pc := 37) hX dX11_person_37 rfl
      · refine jr_ald0 (pc := 18) hX dX11_person_18 ?_
        refine jr_iconst (pc := 19) hX 1 rfl dX11_person_19 ?_
        refine jr_cV1i (pc := 20) hX lX11_104 (c_X11_refuse hX.F σ1 t (p1.at ht :) _) (jd_dd hD rfl) (Nat.le_of_ble_eq_true rfl) dX11_person_20 (p1.at ht :) (fun r7 σ7 p7 => ?_)
        exact jr_iret (pc := 23) hX dX11_person_23 rfl
def m_X11_isPost (t : Nat) (x0p : Int32) (σ : jd_Hp) : Option (Int32 × jd_Hp) :=
jd_if ((σ.2.1 t 10) = 0) (
some (0, σ)) (
jd_if (x0p < 0) (
some (0, σ)) (
jd_o σ (6, 8) (σ.2.2.2 t 2) fun a1 =>
jd_o σ (10, 16) (σ.2.2.2 a1 5) fun a2 =>
jd_if ((σ.2.1 a2 12) ≤ x0p) (
some (0, σ)) (
some (1, σ))))
set_option maxHeartbeats 4000000 in
set_option maxRecDepth 20000 in
theorem c_X11_isPost {l : Launch} {s0 : State} {G : jd_G} (hF : jd_F s0 G) (σ : jd_Hp) (t : Nat) (ht : σ.1[t]? = some (11, 12)) (x0p : Int32) : jd_M l s0 G yX11_isPost cX11_isPost 2 (some .boolean) 0 je_i [jd_v G (some t), .int x0p] σ (m_X11_isPost t x0p σ) := by
  refine jd_enter hF (by decide) (fun G => [some (jd_v G (some t)), some (.int x0p)]) rfl (by simp [lv_args, jd_al, jd_v_cat, jd_cti, jd_ctl]) (by simp [lg_sl, jd_v_cat, jd_cti, jd_ctl]) (fun X hD hX => ?_)
  have hX : jd_C X RX11 "isPost" cX11_isPost 2 (some .boolean) := hX
  unfold m_X11_isPost
  refine jr_ald0 (pc := 0) hX dX11_isPost_0 ?_
  refine jr_geti (pc := 1) hX fX11_85 rfl dX11_isPost_1 ht ?_
  refine jr_ifeq (pc := 4) hX 29 dX11_isPost_4 (by decide) ?_ ?_
  · refine jr_iconst (pc := 29) hX 0 rfl dX11_isPost_29 ?_
    exact jr_zret (pc := 30) hX dX11_isPost_30 (Or.inl rfl) rfl
  · refine jr_ild1 (pc := 7) hX dX11_isPost_7 ?_
    refine jr_iflt (pc := 8) hX 29 dX11_isPost_8 (by decide) ?_ ?_
    · refine jr_iconst (pc := 29) hX 0 rfl dX11_isPost_29 ?_
      exact jr_zret (pc := 30) hX dX11_isPost_30 (Or.inl rfl) rfl
    · refine jr_ild1 (pc := 11) hX dX11_isPost_11 ?_
      refine jr_ald0 (pc := 12) hX dX11_isPost_12 ?_
      refine jr_getr (pc := 13) hX fX11_32 rfl dX11_isPost_13 ht ?_
      refine jr_ck0 (fun a1 e1 h1 => ?_)
      refine jr_getr (pc := 16) hX fX11_112 rfl dX11_isPost_16 h1 ?_
      refine jr_ck0 (fun a2 e2 h2 => ?_)
      refine jr_geti (pc := 19) hX fX11_207 rfl dX11_isPost_19 h2 ?_
      refine jr_icge (pc := 22) hX 29 dX11_isPost_22 (by decide) ?_ ?_
      · refine jr_iconst (pc := 29) hX 0 rfl dX11_isPost_29 ?_
        exact jr_zret (pc := 30) hX dX11_isPost_30 (Or.inl rfl) rfl
      · refine jr_iconst (pc := 25) hX 1 rfl dX11_isPost_25 ?_
        refine jr_goto (pc := 26) hX 30 dX11_isPost_26 (by decide) ?_
        exact jr_zret (pc := 30) hX dX11_isPost_30 (Or.inr rfl) rfl
def m_X11_post (t : Nat) (x0p : Int32) (x1p : Int32) (σ : jd_Hp) : Option (Int32 × jd_Hp) :=
jd_b (m_X11_isPost t x0p σ) fun r1 σ1 =>
jd_if (r1 = 0) (
jd_b (m_X11_refuse t 1 σ1) fun r2 σ2 =>
some (r2, σ2)) (
jd_if (x1p < 0) (
jd_b (m_X11_refuse t 1 σ1) fun r3 σ3 =>
some (r3, σ3)) (
jd_if (x1p ≤ 3) (
jd_o σ1 (6, 8) (σ1.2.2.2 t 2) fun a4 =>
jd_b (m_X6_ofPost a4 x0p x1p σ1) fun r5 σ5 =>
jd_b (m_X11_grant t r5 σ5) fun r6 σ6 =>
some (r6, σ6)) (
jd_b (m_X11_refuse t 1 σ1) fun r7 σ7 =>
some (r7, σ7))))
set_option maxHeartbeats 4000000 in
set_option maxRecDepth 20000 in
theorem c_X11_post {l : Launch} {s0 : State} {G : jd_G} (hF : jd_F s0 G) (σ : jd_Hp) (t : Nat) (ht : σ.1[t]? = some (11, 12)) (x0p : Int32) (x1p : Int32) : jd_M l s0 G yX11_post cX11_post 3 (some .int) 3 je_i [jd_v G (some t), .int x0p, .int x1p] σ (m_X11_post t x0p x1p σ) := by
  refine jd_enter hF (by decide) (fun G => [some (jd_v G (some t)), some (.int x0p), some (.int x1p)]) rfl (by simp [lv_args, jd_al, jd_v_cat, jd_cti, jd_ctl]) (by simp [lg_sl, jd_v_cat, jd_cti, jd_ctl]) (fun X hD hX => ?_)
  have hX : jd_C X RX11 "post" cX11_post 3 (some .int) := hX
  unfold m_X11_post
  refine jr_ald0 (pc := 0) hX dX11_post_0 ?_
  refine jr_ild1 (pc := 1) hX dX11_post_1 ?_
  refine jr_cV1i (pc := 2) hX lX11_144 (c_X11_isPost hX.F σ t ht _) (jd_dd hD rfl) (Nat.le_of_ble_eq_true rfl) dX11_post_2 ht (fun r1 σ1 p1 => ?_)
  refine jr_ifeq (pc := 5) hX 17 dX11_post_5 (by decide) ?_ ?_
  · refine jr_ald0 (pc := 17) hX dX11_post_17 ?_
    refine jr_iconst (pc := 18) hX 1 rfl dX11_post_18 ?_
    refine jr_cV1i (pc := 19) hX lX11_104 (c_X11_refuse hX.F σ1 t (p1.at ht :) _) (jd_dd hD rfl) (Nat.le_of_ble_eq_true rfl) dX11_post_19 (p1.at ht :) (fun r2 σ2 p2 => ?_)
    exact jr_iret (pc := 22) hX dX11_post_22 rfl
  · refine jr_ild2 (pc := 8) hX dX11_post_8 ?_
    refine jr_iflt (pc := 9) hX 17 dX11_post_9 (by decide) ?_ ?_
    · refine jr_ald0 (pc := 17) hX dX11_post_17 ?_
      refine jr_iconst (pc := 18) hX 1 rfl dX11_post_18 ?_
      refine jr_cV1i (pc := 19) hX lX11_104 (c_X11_refuse hX.F σ1 t (p1.at ht :) _) (jd_dd hD rfl) (Nat.le_of_ble_eq_true rfl) dX11_post_19 (p1.at ht :) (fun r3 σ3 p3 => ?_)
      exact jr_iret (pc := 22) hX dX11_post_22 rfl
    · refine jr_ild2 (pc := 12) hX dX11_post_12 ?_
      refine jr_iconst (pc := 13) hX 3 rfl dX11_post_13 ?_
      refine jr_icle (pc := 14) hX 23 dX11_post_14 (by decide) ?_ ?_
      · refine jr_ald0 (pc := 23) hX dX11_post_23 ?_
        refine jr_ald0 (pc := 24) hX dX11_post_24 ?_
        refine jr_getr (pc := 25) hX fX11_32 rfl dX11_post_25 (p1.at ht :) ?_
        refine jr_ild1 (pc := 28) hX dX11_post_28 ?_
        refine jr_ild2 (pc := 29) hX dX11_post_29 ?_
        refine jr_ck2 (fun a4 e4 h4 => ?_)
        refine jr_cV2i (pc := 30) hX lX11_147 (c_X6_ofPost hX.F σ1 a4 h4 _ _) (jd_dd hD rfl) (by simp [jd_v_cat, jd_cti, jd_ctl]) dX11_post_30 h4 (fun r5 σ5 p5 => ?_)
        refine jr_cV1i (pc := 33) hX lX11_128 (c_X11_grant hX.F σ5 t (p5.at (p1.at ht :) :) _) (jd_dd hD rfl) (Nat.le_of_ble_eq_true rfl) dX11_post_33 (p5.at (p1.at ht :) :) (fun r6 σ6 p6 => ?_)
        exact jr_iret (pc := 36) hX dX11_post_36 rfl
      · refine jr_ald0 (pc := 17) hX dX11_post_17 ?_
        refine jr_iconst (pc := 18) hX 1 rfl dX11_post_18 ?_
        refine jr_cV1i (pc := 19) hX lX11_104 (c_X11_refuse hX.F σ1 t (p1.at ht :) _) (jd_dd hD rfl) (Nat.le_of_ble_eq_true rfl) dX11_post_19 (p1.at ht :) (fun r7 σ7 p7 => ?_)
        exact jr_iret (pc := 22) hX dX11_post_22 rfl
def m_X11_time (t : Nat) (x0p : Int32) (x1p : Int32) (σ : jd_Hp) : Option (Int32 × jd_Hp) :=
jd_b (m_X11_isPost t x0p σ) fun r1 σ1 =>
jd_if (r1 = 0) (
jd_b (m_X11_refuse t 1 σ1) fun r2 σ2 =>
some (r2, σ2)) (
jd_b (m_X11_isPerson t x1p σ1) fun r3 σ3 =>
jd_if (¬ r3 = 0) (
jd_o σ3 (6, 8) (σ3.2.2.2 t 2) fun a4 =>
jd_b (m_X6_timeTo a4 x0p x1p σ3) fun r5 σ5 =>
jd_b (m_X11_grant t r5 σ5) fun r6 σ6 =>
some (r6, σ6)) (
jd_b (m_X11_refuse t 1 σ3) fun r7 σ7 =>
some (r7, σ7)))
set_option maxHeartbeats 4000000 in
set_option maxRecDepth 20000 in
theorem c_X11_time {l : Launch} {s0 : State} {G : jd_G} (hF : jd_F s0 G) (σ : jd_Hp) (t : Nat) (ht : σ.1[t]? = some (11, 12)) (x0p : Int32) (x1p : Int32) : jd_M l s0 G yX11_time cX11_time 3 (some .int) 2 je_i [jd_v G (some t), .int x0p, .int x1p] σ (m_X11_time t x0p x1p σ) := by
  refine jd_enter hF (by decide) (fun G => [some (jd_v G (some t)), some (.int x0p), some (.int x1p)]) rfl (by simp [lv_args, jd_al, jd_v_cat, jd_cti, jd_ctl]) (by simp [lg_sl, jd_v_cat, jd_cti, jd_ctl]) (fun X hD hX => ?_)
  have hX : jd_C X RX11 "time" cX11_time 3 (some .int) := hX
  unfold m_X11_time
  refine jr_ald0 (pc := 0) hX dX11_time_0 ?_
  refine jr_ild1 (pc := 1) hX dX11_time_1 ?_
  refine jr_cV1i (pc := 2) hX lX11_144 (c_X11_isPost hX.F σ t ht _) (jd_dd hD rfl) (Nat.le_of_ble_eq_true rfl) dX11_time_2 ht (fun r1 σ1 p1 => ?_)
  refine jr_ifeq (pc := 5) hX 16 dX11_time_5 (by decide) ?_ ?_
  · refine jr_ald0 (pc := 16) hX dX11_time_16 ?_
    refine jr_iconst (pc := 17) hX 1 rfl dX11_time_17 ?_
    refine jr_cV1i (pc := 18) hX lX11_104 (c_X11_refuse hX.F σ1 t (p1.at ht :) _) (jd_dd hD rfl) (Nat.le_of_ble_eq_true rfl) dX11_time_18 (p1.at ht :) (fun r2 σ2 p2 => ?_)
    exact jr_iret (pc := 21) hX dX11_time_21 rfl
  · refine jr_ald0 (pc := 8) hX dX11_time_8 ?_
    refine jr_ild2 (pc := 9) hX dX11_time_9 ?_
    refine jr_cV1i (pc := 10) hX lX11_137 (c_X11_isPerson hX.F σ1 t (p1.at ht :) _) (jd_dd hD rfl) (Nat.le_of_ble_eq_true rfl) dX11_time_10 (p1.at ht :) (fun r3 σ3 p3 => ?_)
    refine jr_ifne (pc := 13) hX 22 dX11_time_13 (by decide) ?_ ?_
    · refine jr_ald0 (pc := 22) hX dX11_time_22 ?_
      refine jr_ald0 (pc := 23) hX dX11_time_23 ?_
      refine jr_getr (pc := 24) hX fX11_32 rfl dX11_time_24 (p3.at (p1.at ht :) :) ?_
      refine jr_ild1 (pc := 27) hX dX11_time_27 ?_
      refine jr_ild2 (pc := 28) hX dX11_time_28 ?_
      refine jr_ck2 (fun a4 e4 h4 => ?_)
      refine jr_cV2i (pc := 29) hX lX11_150 (c_X6_timeTo hX.F σ3 a4 h4 _ _) (jd_dd hD rfl) (by simp [jd_v_cat, jd_cti, jd_ctl]) dX11_time_29 h4 (fun r5 σ5 p5 => ?_)
      refine jr_cV1i (pc := 32) hX lX11_128 (c_X11_grant hX.F σ5 t (p5.at (p3.at (p1.at ht :) :) :) _) (jd_dd hD rfl) (Nat.le_of_ble_eq_true rfl) dX11_time_32 (p5.at (p3.at (p1.at ht :) :) :) (fun r6 σ6 p6 => ?_)
      exact jr_iret (pc := 35) hX dX11_time_35 rfl
    · refine jr_ald0 (pc := 16) hX dX11_time_16 ?_
      refine jr_iconst (pc := 17) hX 1 rfl dX11_time_17 ?_
      refine jr_cV1i (pc := 18) hX lX11_104 (c_X11_refuse hX.F σ3 t (p3.at (p1.at ht :) :) _) (jd_dd hD rfl) (Nat.le_of_ble_eq_true rfl) dX11_time_18 (p3.at (p1.at ht :) :) (fun r7 σ7 p7 => ?_)
      exact jr_iret (pc := 21) hX dX11_time_21 rfl
def m_X11_sinkers (t : Nat) (σ : jd_Hp) : Option (Int32 × jd_Hp) :=
jd_if (¬ (σ.2.1 t 10) = 0) (
jd_o σ (6, 8) (σ.2.2.2 t 2) fun a1 =>
jd_b (m_X11_grant t (σ.2.1 a1 6) σ) fun r2 σ2 =>
some (r2, σ2)) (
jd_b (m_X11_refuse t 1 σ) fun r3 σ3 =>
some (r3, σ3))
set_option maxHeartbeats 4000000 in
set_option maxRecDepth 20000 in
theorem c_X11_sinkers {l : Launch} {s0 : State} {G : jd_G} (hF : jd_F s0 G) (σ : jd_Hp) (t : Nat) (ht : σ.1[t]? = some (11, 12)) : jd_M l s0 G yX11_sinkers cX11_sinkers 1 (some .int) 1 je_i [jd_v G (some t)] σ (m_X11_sinkers t σ) := by
  refine jd_enter hF (by decide) (fun G => [some (jd_v G (some t))]) rfl (by simp [lv_args, jd_al, jd_v_cat, jd_cti, jd_ctl]) (by simp [lg_sl, jd_v_cat, jd_cti, jd_ctl]) (fun X hD hX => ?_)
  have hX : jd_C X RX11 "sinkers" cX11_sinkers 1 (some .int) := hX
  unfold m_X11_sinkers
  refine jr_ald0 (pc := 0) hX dX11_sinkers_0 ?_
  refine jr_geti (pc := 1) hX fX11_85 rfl dX11_sinkers_1 ht ?_
  refine jr_ifne (pc := 4) hX 13 dX11_sinkers_4 (by decide) ?_ ?_
  · refine jr_ald0 (pc := 13) hX dX11_sinkers_13 ?_
    refine jr_ald0 (pc := 14) hX dX11_sinkers_14 ?_
    refine jr_getr (pc := 15) hX fX11_32 rfl dX11_sinkers_15 ht ?_
    refine jr_ck0 (fun a1 e1 h1 => ?_)
    refine jr_geti (pc := 18) hX fX11_153 rfl dX11_sinkers_18 h1 ?_
    refine jr_cV1i (pc := 21) hX lX11_128 (c_X11_grant hX.F σ t ht _) (jd_dd hD rfl) (Nat.le_of_ble_eq_true rfl) dX11_sinkers_21 ht (fun r2 σ2 p2 => ?_)
    exact jr_iret (pc := 24) hX dX11_sinkers_24 rfl
  · refine jr_ald0 (pc := 7) hX dX11_sinkers_7 ?_
    refine jr_iconst (pc := 8) hX 1 rfl dX11_sinkers_8 ?_
    refine jr_cV1i (pc := 9) hX lX11_104 (c_X11_refuse hX.F σ t ht _) (jd_dd hD rfl) (Nat.le_of_ble_eq_true rfl) dX11_sinkers_9 ht (fun r3 σ3 p3 => ?_)
    exact jr_iret (pc := 12) hX dX11_sinkers_12 rfl
def m_X11_first (t : Nat) (σ : jd_Hp) : Option (Int32 × jd_Hp) :=
jd_if (¬ (σ.2.1 t 10) = 0) (
jd_o σ (6, 8) (σ.2.2.2 t 2) fun a1 =>
jd_b (m_X6_firstSinker a1 σ) fun r2 σ2 =>
jd_b (m_X11_grant t r2 σ2) fun r3 σ3 =>
some (r3, σ3)) (
jd_b (m_X11_refuse t 1 σ) fun r4 σ4 =>
some (r4, σ4))
set_option maxHeartbeats 4000000 in
set_option maxRecDepth 20000 in
theorem c_X11_first {l : Launch} {s0 : State} {G : jd_G} (hF : jd_F s0 G) (σ : jd_Hp) (t : Nat) (ht : σ.1[t]? = some (11, 12)) : jd_M l s0 G yX11_first cX11_first 1 (some .int) 3 je_i [jd_v G (some t)] σ (m_X11_first t σ) := by
  refine jd_enter hF (by decide) (fun G => [some (jd_v G (some t))]) rfl (by simp [lv_args, jd_al, jd_v_cat, jd_cti, jd_ctl]) (by simp [lg_sl, jd_v_cat, jd_cti, jd_ctl]) (fun X hD hX => ?_)
  have hX : jd_C X RX11 "first" cX11_first 1 (some .int) := hX
  unfold m_X11_first
  refine jr_ald0 (pc := 0) hX dX11_first_0 ?_
  refine jr_geti (pc := 1) hX fX11_85 rfl dX11_first_1 ht ?_
  refine jr_ifne (pc := 4) hX 13 dX11_first_4 (by decide) ?_ ?_
  · refine jr_ald0 (pc := 13) hX dX11_first_13 ?_
    refine jr_ald0 (pc := 14) hX dX11_first_14 ?_
    refine jr_getr (pc := 15) hX fX11_32 rfl dX11_first_15 ht ?_
    refine jr_ck0 (fun a1 e1 h1 => ?_)
    refine jr_cV0i (pc := 18) hX lX11_156 (c_X6_firstSinker hX.F σ a1 h1) (jd_dd hD rfl) (by simp [jd_v_cat, jd_cti, jd_ctl]) dX11_first_18 h1 (fun r2 σ2 p2 => ?_)
    refine jr_cV1i (pc := 21) hX lX11_128 (c_X11_grant hX.F σ2 t (p2.at ht :) _) (jd_dd hD rfl) (Nat.le_of_ble_eq_true rfl) dX11_first_21 (p2.at ht :) (fun r3 σ3 p3 => ?_)
    exact jr_iret (pc := 24) hX dX11_first_24 rfl
  · refine jr_ald0 (pc := 7) hX dX11_first_7 ?_
    refine jr_iconst (pc := 8) hX 1 rfl dX11_first_8 ?_
    refine jr_cV1i (pc := 9) hX lX11_104 (c_X11_refuse hX.F σ t ht _) (jd_dd hD rfl) (Nat.le_of_ble_eq_true rfl) dX11_first_9 ht (fun r4 σ4 p4 => ?_)
    exact jr_iret (pc := 12) hX dX11_first_12 rfl
def m_X11_isAskedMinute (x0p : Int32) (σ : jd_Hp) : Option (Int32 × jd_Hp) :=
jd_if (x0p < 0) (
some (0, σ)) (
jd_if (200 < x0p) (
some (0, σ)) (
some (1, σ)))
set_option maxHeartbeats 4000000 in
set_option maxRecDepth 20000 in
theorem c_X11_isAskedMinute {l : Launch} {s0 : State} {G : jd_G} (hF : jd_F s0 G) (σ : jd_Hp) (x0p : Int32) : jd_M l s0 G yX11_isAskedMinute cX11_isAskedMinute 1 (some .boolean) 0 je_i [.int x0p] σ (m_X11_isAskedMinute x0p σ) := by
  refine jd_enter hF (by decide) (fun G => [some (.int x0p)]) rfl (by simp [lv_args, jd_al, jd_v_cat, jd_cti, jd_ctl]) (by simp [lg_sl, jd_v_cat, jd_cti, jd_ctl]) (fun X hD hX => ?_)
  have hX : jd_C X RX11 "isAskedMinute" cX11_isAskedMinute 1 (some .boolean) := hX
  unfold m_X11_isAskedMinute
  refine jr_ild0 (pc := 0) hX dX11_isAskedMinute_0 ?_
  refine jr_iflt (pc := 1) hX 15 dX11_isAskedMinute_1 (by decide) ?_ ?_
  · refine jr_iconst (pc := 15) hX 0 rfl dX11_isAskedMinute_15 ?_
    exact jr_zret (pc := 16) hX dX11_isAskedMinute_16 (Or.inl rfl) rfl
  · refine jr_ild0 (pc := 4) hX dX11_isAskedMinute_4 ?_
    refine jr_sipush (pc := 5) hX 200 rfl dX11_isAskedMinute_5 ?_
    refine jr_icgt (pc := 8) hX 15 dX11_isAskedMinute_8 (by decide) ?_ ?_
    · refine jr_iconst (pc := 15) hX 0 rfl dX11_isAskedMinute_15 ?_
      exact jr_zret (pc := 16) hX dX11_isAskedMinute_16 (Or.inl rfl) rfl
    · refine jr_iconst (pc := 11) hX 1 rfl dX11_isAskedMinute_11 ?_
      refine jr_goto (pc := 12) hX 16 dX11_isAskedMinute_12 (by decide) ?_
      exact jr_zret (pc := 16) hX dX11_isAskedMinute_16 (Or.inr rfl) rfl
def m_X11_under (t : Nat) (x0p : Int32) (σ : jd_Hp) : Option (Int32 × jd_Hp) :=
jd_if (¬ (σ.2.1 t 10) = 0) (
jd_b (m_X11_isAskedMinute x0p σ) fun r1 σ1 =>
jd_if (¬ r1 = 0) (
jd_o σ1 (6, 8) (σ1.2.2.2 t 2) fun a2 =>
jd_b (m_X6_underBits a2 x0p σ1) fun r3 σ3 =>
jd_b (m_X11_grant t r3 σ3) fun r4 σ4 =>
some (r4, σ4)) (
jd_b (m_X11_refuse t 2 σ1) fun r5 σ5 =>
some (r5, σ5))) (
jd_b (m_X11_refuse t 1 σ) fun r6 σ6 =>
some (r6, σ6))
set_option maxHeartbeats 4000000 in
set_option maxRecDepth 20000 in
theorem c_X11_under {l : Launch} {s0 : State} {G : jd_G} (hF : jd_F s0 G) (σ : jd_Hp) (t : Nat) (ht : σ.1[t]? = some (11, 12)) (x0p : Int32) : jd_M l s0 G yX11_under cX11_under 2 (some .int) 4 je_i [jd_v G (some t), .int x0p] σ (m_X11_under t x0p σ) := by
  refine jd_enter hF (by decide) (fun G => [some (jd_v G (some t)), some (.int x0p)]) rfl (by simp [lv_args, jd_al, jd_v_cat, jd_cti, jd_ctl]) (by simp [lg_sl, jd_v_cat, jd_cti, jd_ctl]) (fun X hD hX => ?_)
  have hX : jd_C X RX11 "under" cX11_under 2 (some .int) := hX
  unfold m_X11_under
  refine jr_ald0 (pc := 0) hX dX11_under_0 ?_
  refine jr_geti (pc := 1) hX fX11_85 rfl dX11_under_1 ht ?_
  refine jr_ifne (pc := 4) hX 13 dX11_under_4 (by decide) ?_ ?_
  · refine jr_ild1 (pc := 13) hX dX11_under_13 ?_
    refine jr_cS1i (pc := 14) hX lX11_160 (c_X11_isAskedMinute hX.F σ _) (jd_dd hD rfl) (Nat.le_of_ble_eq_true rfl) dX11_under_14 (fun r1 σ1 p1 => ?_)
    refine jr_ifne (pc := 17) hX 26 dX11_under_17 (by decide) ?_ ?_
    · refine jr_ald0 (pc := 26) hX dX11_under_26 ?_
      refine jr_ald0 (pc := 27) hX dX11_under_27 ?_
      refine jr_getr (pc := 28) hX fX11_32 rfl dX11_under_28 (p1.at ht :) ?_
      refine jr_ild1 (pc := 31) hX dX11_under_31 ?_
      refine jr_ck1 (fun a2 e2 h2 => ?_)
      refine jr_cV1i (pc := 32) hX lX11_163 (c_X6_underBits hX.F σ1 a2 h2 _) (jd_dd hD rfl) (by simp [jd_v_cat, jd_cti, jd_ctl]) dX11_under_32 h2 (fun r3 σ3 p3 => ?_)
      refine jr_cV1i (pc := 35) hX lX11_128 (c_X11_grant hX.F σ3 t (p3.at (p1.at ht :) :) _) (jd_dd hD rfl) (Nat.le_of_ble_eq_true rfl) dX11_under_35 (p3.at (p1.at ht :) :) (fun r4 σ4 p4 => ?_)
      exact jr_iret (pc := 38) hX dX11_under_38 rfl
    · refine jr_ald0 (pc := 20) hX dX11_under_20 ?_
      refine jr_iconst (pc := 21) hX 2 rfl dX11_under_21 ?_
      refine jr_cV1i (pc := 22) hX lX11_104 (c_X11_refuse hX.F σ1 t (p1.at ht :) _) (jd_dd hD rfl) (Nat.le_of_ble_eq_true rfl) dX11_under_22 (p1.at ht :) (fun r5 σ5 p5 => ?_)
      exact jr_iret (pc := 25) hX dX11_under_25 rfl
  · refine jr_ald0 (pc := 7) hX dX11_under_7 ?_
    refine jr_iconst (pc := 8) hX 1 rfl dX11_under_8 ?_
    refine jr_cV1i (pc := 9) hX lX11_104 (c_X11_refuse hX.F σ t ht _) (jd_dd hD rfl) (Nat.le_of_ble_eq_true rfl) dX11_under_9 ht (fun r6 σ6 p6 => ?_)
    exact jr_iret (pc := 12) hX dX11_under_12 rfl
def m_X11_lost (t : Nat) (x0p : Int32) (σ : jd_Hp) : Option (Int32 × jd_Hp) :=
jd_if (¬ (σ.2.1 t 10) = 0) (
jd_b (m_X11_isAskedMinute x0p σ) fun r1 σ1 =>
jd_if (¬ r1 = 0) (
jd_o σ1 (6, 8) (σ1.2.2.2 t 2) fun a2 =>
jd_b (m_X6_lostBits a2 x0p σ1) fun r3 σ3 =>
jd_b (m_X11_grant t r3 σ3) fun r4 σ4 =>
some (r4, σ4)) (
jd_b (m_X11_refuse t 2 σ1) fun r5 σ5 =>
some (r5, σ5))) (
jd_b (m_X11_refuse t 1 σ) fun r6 σ6 =>
some (r6, σ6))
set_option maxHeartbeats 4000000 in
set_option maxRecDepth 20000 in
theorem c_X11_lost {l : Launch} {s0 : State} {G : jd_G} (hF : jd_F s0 G) (σ : jd_Hp) (t : Nat) (ht : σ.1[t]? = some (11, 12)) (x0p : Int32) : jd_M l s0 G yX11_lost cX11_lost 2 (some .int) 4 je_i [jd_v G (some t), .int x0p] σ (m_X11_lost t x0p σ) := by
  refine jd_enter hF (by decide) (fun G => [some (jd_v G (some t)), some (.int x0p)]) rfl (by simp [lv_args, jd_al, jd_v_cat, jd_cti, jd_ctl]) (by simp [lg_sl, jd_v_cat, jd_cti, jd_ctl]) (fun X hD hX => ?_)
  have hX : jd_C X RX11 "lost" cX11_lost 2 (some .int) := hX
  unfold m_X11_lost
  refine jr_ald0 (pc := 0) hX dX11_lost_0 ?_
  refine jr_geti (pc := 1) hX fX11_85 rfl dX11_lost_1 ht ?_
  refine jr_ifne (pc := 4) hX 13 dX11_lost_4 (by decide) ?_ ?_
  · refine jr_ild1 (pc := 13) hX dX11_lost_13 ?_
    refine jr_cS1i (pc := 14) hX lX11_160 (c_X11_isAskedMinute hX.F σ _) (jd_dd hD rfl) (Nat.le_of_ble_eq_true rfl) dX11_lost_14 (fun r1 σ1 p1 => ?_)
    refine jr_ifne (pc := 17) hX 26 dX11_lost_17 (by decide) ?_ ?_
    · refine jr_ald0 (pc := 26) hX dX11_lost_26 ?_
      refine jr_ald0 (pc := 27) hX dX11_lost_27 ?_
      refine jr_getr (pc := 28) hX fX11_32 rfl dX11_lost_28 (p1.at ht :) ?_
      refine jr_ild1 (pc := 31) hX dX11_lost_31 ?_
      refine jr_ck1 (fun a2 e2 h2 => ?_)
      refine jr_cV1i (pc := 32) hX lX11_166 (c_X6_lostBits hX.F σ1 a2 h2 _) (jd_dd hD rfl) (by simp [jd_v_cat, jd_cti, jd_ctl]) dX11_lost_32 h2 (fun r3 σ3 p3 => ?_)
      refine jr_cV1i (pc := 35) hX lX11_128 (c_X11_grant hX.F σ3 t (p3.at (p1.at ht :) :) _) (jd_dd hD rfl) (Nat.le_of_ble_eq_true rfl) dX11_lost_35 (p3.at (p1.at ht :) :) (fun r4 σ4 p4 => ?_)
      exact jr_iret (pc := 38) hX dX11_lost_38 rfl
    · refine jr_ald0 (pc := 20) hX dX11_lost_20 ?_
      refine jr_iconst (pc := 21) hX 2 rfl dX11_lost_21 ?_
      refine jr_cV1i (pc := 22) hX lX11_104 (c_X11_refuse hX.F σ1 t (p1.at ht :) _) (jd_dd hD rfl) (Nat.le_of_ble_eq_true rfl) dX11_lost_22 (p1.at ht :) (fun r5 σ5 p5 => ?_)
      exact jr_iret (pc := 25) hX dX11_lost_25 rfl
  · refine jr_ald0 (pc := 7) hX dX11_lost_7 ?_
    refine jr_iconst (pc := 8) hX 1 rfl dX11_lost_8 ?_
    refine jr_cV1i (pc := 9) hX lX11_104 (c_X11_refuse hX.F σ t ht _) (jd_dd hD rfl) (Nat.le_of_ble_eq_true rfl) dX11_lost_9 ht (fun r6 σ6 p6 => ?_)
    exact jr_iret (pc := 12) hX dX11_lost_12 rfl
def m_X11_worstMinute (t : Nat) (σ : jd_Hp) : Option (Int32 × jd_Hp) :=
jd_if (¬ (σ.2.1 t 10) = 0) (
jd_o σ (6, 8) (σ.2.2.2 t 2) fun a1 =>
jd_b (m_X6_minuteOfMostUnder a1 σ) fun r2 σ2 =>
jd_b (m_X11_grant t r2 σ2) fun r3 σ3 =>
some (r3, σ3)) (
jd_b (m_X11_refuse t 1 σ) fun r4 σ4 =>
some (r4, σ4))
set_option maxHeartbeats 4000000 in
set_option maxRecDepth 20000 in
theorem c_X11_worstMinute {l : Launch} {s0 : State} {G : jd_G} (hF : jd_F s0 G) (σ : jd_Hp) (t : Nat) (ht : σ.1[t]? = some (11, 12)) : jd_M l s0 G yX11_worstMinute cX11_worstMinute 1 (some .int) 5 je_i [jd_v G (some t)] σ (m_X11_worstMinute t σ) := by
  refine jd_enter hF (by decide) (fun G => [some (jd_v G (some t))]) rfl (by simp [lv_args, jd_al, jd_v_cat, jd_cti, jd_ctl]) (by simp [lg_sl, jd_v_cat, jd_cti, jd_ctl]) (fun X hD hX => ?_)
  have hX : jd_C X RX11 "worstMinute" cX11_worstMinute 1 (some .int) := hX
  unfold m_X11_worstMinute
  refine jr_ald0 (pc := 0) hX dX11_worstMinute_0 ?_
  refine jr_geti (pc := 1) hX fX11_85 rfl dX11_worstMinute_1 ht ?_
  refine jr_ifne (pc := 4) hX 13 dX11_worstMinute_4 (by decide) ?_ ?_
  · refine jr_ald0 (pc := 13) hX dX11_worstMinute_13 ?_
    refine jr_ald0 (pc := 14) hX dX11_worstMinute_14 ?_
    refine jr_getr (pc := 15) hX fX11_32 rfl dX11_worstMinute_15 ht ?_
    refine jr_ck0 (fun a1 e1 h1 => ?_)
    refine jr_cV0i (pc := 18) hX lX11_169 (c_X6_minuteOfMostUnder hX.F σ a1 h1) (jd_dd hD rfl) (by simp [jd_v_cat, jd_cti, jd_ctl]) dX11_worstMinute_18 h1 (fun r2 σ2 p2 => ?_)
    refine jr_cV1i (pc := 21) hX lX11_128 (c_X11_grant hX.F σ2 t (p2.at ht :) _) (jd_dd hD rfl) (Nat.le_of_ble_eq_true rfl) dX11_worstMinute_21 (p2.at ht :) (fun r3 σ3 p3 => ?_)
    exact jr_iret (pc := 24) hX dX11_worstMinute_24 rfl
  · refine jr_ald0 (pc := 7) hX dX11_worstMinute_7 ?_
    refine jr_iconst (pc := 8) hX 1 rfl dX11_worstMinute_8 ?_
    refine jr_cV1i (pc := 9) hX lX11_104 (c_X11_refuse hX.F σ t ht _) (jd_dd hD rfl) (Nat.le_of_ble_eq_true rfl) dX11_worstMinute_9 ht (fun r4 σ4 p4 => ?_)
    exact jr_iret (pc := 12) hX dX11_worstMinute_12 rfl
