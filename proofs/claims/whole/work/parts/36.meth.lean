theorem fX13_294 : jd_fl RX13 294 13 20 29 false := ⟨_, _, rfl, by decide, by decide, rfl, rfl, jd_mem 1308 (by decide +kernel) (by decide +kernel)⟩
theorem fX13_265 : jd_fn RX13 265 12 5 20 false := ⟨_, _, "ShoreGuardsModel", rfl, by decide, by decide, rfl, rfl, List.mem_of_getElem? (i := 1403) (by decide +kernel)⟩
theorem fX13_271 : jd_fn RX13 271 12 6 20 false := ⟨_, _, "ShoreGuardsModel", rfl, by decide, by decide, rfl, rfl, List.mem_of_getElem? (i := 1404) (by decide +kernel)⟩
theorem fX13_279 : jd_fn RX13 279 12 7 20 false := ⟨_, _, "ShoreGuardsModel", rfl, by decide, by decide, rfl, rfl, List.mem_of_getElem? (i := 1405) (by decide +kernel)⟩
theorem dX13_undo_0 : decode cX13_undo 0 = .ok (.aload_n 0, 1) := by decide +kernel
theorem dX13_undo_1 : decode cX13_undo 1 = .ok (.iconst 0, 1) := by decide +kernel
theorem dX13_undo_2 : decode cX13_undo 2 = .ok (.putfield 48, 3) := by decide +kernel
theorem dX13_undo_5 : decode cX13_undo 5 = .ok (.aload_n 0, 1) := by decide +kernel
theorem dX13_undo_6 : decode cX13_undo 6 = .ok (.getfield 289, 3) := by decide +kernel
theorem dX13_undo_9 : decode cX13_undo 9 = .ok (.ifnull 10, 3) := by decide +kernel
theorem dX13_undo_12 : decode cX13_undo 12 = .ok (.aload_n 0, 1) := by decide +kernel
theorem dX13_undo_13 : decode cX13_undo 13 = .ok (.getfield 291, 3) := by decide +kernel
theorem dX13_undo_16 : decode cX13_undo 16 = .ok (.ifCond .ne 10, 3) := by decide +kernel
theorem dX13_undo_19 : decode cX13_undo 19 = .ok (.aload_n 0, 1) := by decide +kernel
theorem dX13_undo_20 : decode cX13_undo 20 = .ok (.bipush 6, 2) := by decide +kernel
theorem dX13_undo_22 : decode cX13_undo 22 = .ok (.invokevirtual 428, 3) := by decide +kernel
theorem dX13_undo_25 : decode cX13_undo 25 = .ok (.ireturn, 1) := by decide +kernel
theorem dX13_undo_26 : decode cX13_undo 26 = .ok (.aload_n 0, 1) := by decide +kernel
theorem dX13_undo_27 : decode cX13_undo 27 = .ok (.dup, 1) := by decide +kernel
theorem dX13_undo_28 : decode cX13_undo 28 = .ok (.getfield 291, 3) := by decide +kernel
theorem dX13_undo_31 : decode cX13_undo 31 = .ok (.iconst 1, 1) := by decide +kernel
theorem dX13_undo_32 : decode cX13_undo 32 = .ok (.isub, 1) := by decide +kernel
theorem dX13_undo_33 : decode cX13_undo 33 = .ok (.putfield 291, 3) := by decide +kernel
theorem dX13_undo_36 : decode cX13_undo 36 = .ok (.iconst 0, 1) := by decide +kernel
theorem dX13_undo_37 : decode cX13_undo 37 = .ok (.istore_n 1, 1) := by decide +kernel
theorem dX13_undo_38 : decode cX13_undo 38 = .ok (.iload_n 1, 1) := by decide +kernel
theorem dX13_undo_39 : decode cX13_undo 39 = .ok (.bipush 9, 2) := by decide +kernel
theorem dX13_undo_41 : decode cX13_undo 41 = .ok (.if_icmp .ge 29, 3) := by decide +kernel
theorem dX13_undo_44 : decode cX13_undo 44 = .ok (.aload_n 0, 1) := by decide +kernel
theorem dX13_undo_45 : decode cX13_undo 45 = .ok (.getfield 17, 3) := by decide +kernel
theorem dX13_undo_48 : decode cX13_undo 48 = .ok (.iload_n 1, 1) := by decide +kernel
theorem dX13_undo_49 : decode cX13_undo 49 = .ok (.aload_n 0, 1) := by decide +kernel
theorem dX13_undo_50 : decode cX13_undo 50 = .ok (.getfield 24, 3) := by decide +kernel
theorem dX13_undo_53 : decode cX13_undo 53 = .ok (.bipush 9, 2) := by decide +kernel
theorem dX13_undo_55 : decode cX13_undo 55 = .ok (.aload_n 0, 1) := by decide +kernel
theorem dX13_undo_56 : decode cX13_undo 56 = .ok (.getfield 291, 3) := by decide +kernel
theorem dX13_undo_59 : decode cX13_undo 59 = .ok (.imul, 1) := by decide +kernel
theorem dX13_undo_60 : decode cX13_undo 60 = .ok (.iload_n 1, 1) := by decide +kernel
theorem dX13_undo_61 : decode cX13_undo 61 = .ok (.iadd, 1) := by decide +kernel
theorem dX13_undo_62 : decode cX13_undo 62 = .ok (.iaload, 1) := by decide +kernel
theorem dX13_undo_63 : decode cX13_undo 63 = .ok (.iastore, 1) := by decide +kernel
theorem dX13_undo_64 : decode cX13_undo 64 = .ok (.iinc 1 1, 3) := by decide +kernel
theorem dX13_undo_67 : decode cX13_undo 67 = .ok (.goto (-29), 3) := by decide +kernel
theorem dX13_undo_70 : decode cX13_undo 70 = .ok (.aload_n 0, 1) := by decide +kernel
theorem dX13_undo_71 : decode cX13_undo 71 = .ok (.invokevirtual 434, 3) := by decide +kernel
theorem dX13_undo_74 : decode cX13_undo 74 = .ok (.ireturn, 1) := by decide +kernel
theorem dX13_image_0 : decode cX13_image 0 = .ok (.aload_n 0, 1) := by decide +kernel
theorem dX13_image_1 : decode cX13_image 1 = .ok (.iconst 0, 1) := by decide +kernel
theorem dX13_image_2 : decode cX13_image 2 = .ok (.putfield 48, 3) := by decide +kernel
theorem dX13_image_5 : decode cX13_image 5 = .ok (.aload_n 0, 1) := by decide +kernel
theorem dX13_image_6 : decode cX13_image 6 = .ok (.getfield 289, 3) := by decide +kernel
theorem dX13_image_9 : decode cX13_image 9 = .ok (.ifnonnull 9, 3) := by decide +kernel
theorem dX13_image_12 : decode cX13_image 12 = .ok (.aload_n 0, 1) := by decide +kernel
theorem dX13_image_13 : decode cX13_image 13 = .ok (.iconst 1, 1) := by decide +kernel
theorem dX13_image_14 : decode cX13_image 14 = .ok (.invokevirtual 54, 3) := by decide +kernel
theorem dX13_image_17 : decode cX13_image 17 = .ok (.ireturn, 1) := by decide +kernel
theorem dX13_image_18 : decode cX13_image 18 = .ok (.aload_n 0, 1) := by decide +kernel
theorem dX13_image_19 : decode cX13_image 19 = .ok (.getfield 294, 3) := by decide +kernel
theorem dX13_image_22 : decode cX13_image 22 = .ok (.iconst 3, 1) := by decide +kernel
theorem dX13_image_23 : decode cX13_image 23 = .ok (.if_icmp .ne 9, 3) := by decide +kernel
theorem dX13_image_26 : decode cX13_image 26 = .ok (.aload_n 0, 1) := by decide +kernel
theorem dX13_image_27 : decode cX13_image 27 = .ok (.iconst 3, 1) := by decide +kernel
theorem dX13_image_28 : decode cX13_image 28 = .ok (.invokevirtual 54, 3) := by decide +kernel
theorem dX13_image_31 : decode cX13_image 31 = .ok (.ireturn, 1) := by decide +kernel
theorem dX13_image_32 : decode cX13_image 32 = .ok (.iconst 0, 1) := by decide +kernel
theorem dX13_image_33 : decode cX13_image 33 = .ok (.istore_n 1, 1) := by decide +kernel
theorem dX13_image_34 : decode cX13_image 34 = .ok (.iload_n 1, 1) := by decide +kernel
theorem dX13_image_35 : decode cX13_image 35 = .ok (.bipush 9, 2) := by decide +kernel
theorem dX13_image_37 : decode cX13_image 37 = .ok (.if_icmp .ge 29, 3) := by decide +kernel
theorem dX13_image_40 : decode cX13_image 40 = .ok (.aload_n 0, 1) := by decide +kernel
theorem dX13_image_41 : decode cX13_image 41 = .ok (.getfield 27, 3) := by decide +kernel
theorem dX13_image_44 : decode cX13_image 44 = .ok (.bipush 9, 2) := by decide +kernel
theorem dX13_image_46 : decode cX13_image 46 = .ok (.aload_n 0, 1) := by decide +kernel
theorem dX13_image_47 : decode cX13_image 47 = .ok (.getfield 294, 3) := by decide +kernel
theorem dX13_image_50 : decode cX13_image 50 = .ok (.imul, 1) := by decide +kernel
theorem dX13_image_51 : decode cX13_image 51 = .ok (.iload_n 1, 1) := by decide +kernel
theorem dX13_image_52 : decode cX13_image 52 = .ok (.iadd, 1) := by decide +kernel
theorem dX13_image_53 : decode cX13_image 53 = .ok (.aload_n 0, 1) := by decide +kernel
theorem dX13_image_54 : decode cX13_image 54 = .ok (.getfield 17, 3) := by decide +kernel
theorem dX13_image_57 : decode cX13_image 57 = .ok (.iload_n 1, 1) := by decide +kernel
theorem dX13_image_58 : decode cX13_image 58 = .ok (.iaload, 1) := by decide +kernel
theorem dX13_image_59 : decode cX13_image 59 = .ok (.iastore, 1) := by decide +kernel
theorem dX13_image_60 : decode cX13_image 60 = .ok (.iinc 1 1, 3) := by decide +kernel
theorem dX13_image_63 : decode cX13_image 63 = .ok (.goto (-29), 3) := by decide +kernel
theorem dX13_image_66 : decode cX13_image 66 = .ok (.aload_n 0, 1) := by decide +kernel
theorem dX13_image_67 : decode cX13_image 67 = .ok (.dup, 1) := by decide +kernel
theorem dX13_image_68 : decode cX13_image 68 = .ok (.getfield 294, 3) := by decide +kernel
theorem dX13_image_71 : decode cX13_image 71 = .ok (.iconst 1, 1) := by decide +kernel
theorem dX13_image_72 : decode cX13_image 72 = .ok (.iadd, 1) := by decide +kernel
theorem dX13_image_73 : decode cX13_image 73 = .ok (.putfield 294, 3) := by decide +kernel
theorem dX13_image_76 : decode cX13_image 76 = .ok (.aload_n 0, 1) := by decide +kernel
theorem dX13_image_77 : decode cX13_image 77 = .ok (.aload_n 0, 1) := by decide +kernel
theorem dX13_image_78 : decode cX13_image 78 = .ok (.getfield 294, 3) := by decide +kernel
theorem dX13_image_81 : decode cX13_image 81 = .ok (.iconst 1, 1) := by decide +kernel
theorem dX13_image_82 : decode cX13_image 82 = .ok (.isub, 1) := by decide +kernel
theorem dX13_image_83 : decode cX13_image 83 = .ok (.invokevirtual 58, 3) := by decide +kernel
theorem dX13_image_86 : decode cX13_image 86 = .ok (.ireturn, 1) := by decide +kernel
theorem dX13_back_0 : decode cX13_back 0 = .ok (.aload_n 0, 1) := by decide +kernel
theorem dX13_back_1 : decode cX13_back 1 = .ok (.iconst 0, 1) := by decide +kernel
theorem dX13_back_2 : decode cX13_back 2 = .ok (.putfield 48, 3) := by decide +kernel
theorem dX13_back_5 : decode cX13_back 5 = .ok (.aload_n 0, 1) := by decide +kernel
theorem dX13_back_6 : decode cX13_back 6 = .ok (.getfield 289, 3) := by decide +kernel
theorem dX13_back_9 : decode cX13_back 9 = .ok (.ifnull 15, 3) := by decide +kernel
theorem dX13_back_12 : decode cX13_back 12 = .ok (.iload_n 1, 1) := by decide +kernel
theorem dX13_back_13 : decode cX13_back 13 = .ok (.ifCond .lt 11, 3) := by decide +kernel
theorem dX13_back_16 : decode cX13_back 16 = .ok (.iload_n 1, 1) := by decide +kernel
theorem dX13_back_17 : decode cX13_back 17 = .ok (.aload_n 0, 1) := by decide +kernel
theorem dX13_back_18 : decode cX13_back 18 = .ok (.getfield 294, 3) := by decide +kernel
theorem dX13_back_21 : decode cX13_back 21 = .ok (.if_icmp .lt 9, 3) := by decide +kernel
theorem dX13_back_24 : decode cX13_back 24 = .ok (.aload_n 0, 1) := by decide +kernel
theorem dX13_back_25 : decode cX13_back 25 = .ok (.iconst 1, 1) := by decide +kernel
theorem dX13_back_26 : decode cX13_back 26 = .ok (.invokevirtual 428, 3) := by decide +kernel
theorem dX13_back_29 : decode cX13_back 29 = .ok (.ireturn, 1) := by decide +kernel
theorem dX13_back_30 : decode cX13_back 30 = .ok (.iconst 0, 1) := by decide +kernel
theorem dX13_back_31 : decode cX13_back 31 = .ok (.istore_n 2, 1) := by decide +kernel
theorem dX13_back_32 : decode cX13_back 32 = .ok (.iload_n 2, 1) := by decide +kernel
theorem dX13_back_33 : decode cX13_back 33 = .ok (.bipush 9, 2) := by decide +kernel
theorem dX13_back_35 : decode cX13_back 35 = .ok (.if_icmp .ge 26, 3) := by decide +kernel
theorem dX13_back_38 : decode cX13_back 38 = .ok (.aload_n 0, 1) := by decide +kernel
theorem dX13_back_39 : decode cX13_back 39 = .ok (.getfield 17, 3) := by decide +kernel
theorem dX13_back_42 : decode cX13_back 42 = .ok (.iload_n 2, 1) := by decide +kernel
theorem dX13_back_43 : decode cX13_back 43 = .ok (.aload_n 0, 1) := by decide +kernel
theorem dX13_back_44 : decode cX13_back 44 = .ok (.getfield 27, 3) := by decide +kernel
theorem dX13_back_47 : decode cX13_back 47 = .ok (.bipush 9, 2) := by decide +kernel
theorem dX13_back_49 : decode cX13_back 49 = .ok (.iload_n 1, 1) := by decide +kernel
theorem dX13_back_50 : decode cX13_back 50 = .ok (.imul, 1) := by decide +kernel
theorem dX13_back_51 : decode cX13_back 51 = .ok (.iload_n 2, 1) := by decide +kernel
theorem dX13_back_52 : decode cX13_back 52 = .ok (.iadd, 1) := by decide +kernel
theorem dX13_back_53 : decode cX13_back 53 = .ok (.iaload, 1) := by decide +kernel
theorem dX13_back_54 : decode cX13_back 54 = .ok (.iastore, 1) := by decide +kernel
theorem dX13_back_55 : decode cX13_back 55 = .ok (.iinc 2 1, 3) := by decide +kernel
theorem dX13_back_58 : decode cX13_back 58 = .ok (.goto (-26), 3) := by decide +kernel
theorem dX13_back_61 : decode cX13_back 61 = .ok (.aload_n 0, 1) := by decide +kernel
theorem dX13_back_62 : decode cX13_back 62 = .ok (.iconst 0, 1) := by decide +kernel
theorem dX13_back_63 : decode cX13_back 63 = .ok (.putfield 291, 3) := by decide +kernel
theorem dX13_back_66 : decode cX13_back 66 = .ok (.aload_n 0, 1) := by decide +kernel
theorem dX13_back_67 : decode cX13_back 67 = .ok (.invokevirtual 434, 3) := by decide +kernel
theorem dX13_back_70 : decode cX13_back 70 = .ok (.ireturn, 1) := by decide +kernel
theorem dX13_led_0 : decode cX13_led 0 = .ok (.aload_n 0, 1) := by decide +kernel
theorem dX13_led_1 : decode cX13_led 1 = .ok (.iconst 0, 1) := by decide +kernel
theorem dX13_led_2 : decode cX13_led 2 = .ok (.putfield 48, 3) := by decide +kernel
theorem dX13_led_5 : decode cX13_led 5 = .ok (.iconst 0, 1) := by decide +kernel
theorem dX13_led_6 : decode cX13_led 6 = .ok (.istore_n 2, 1) := by decide +kernel
theorem dX13_led_7 : decode cX13_led 7 = .ok (.aload_n 0, 1) := by decide +kernel
theorem dX13_led_8 : decode cX13_led 8 = .ok (.getfield 289, 3) := by decide +kernel
theorem dX13_led_11 : decode cX13_led 11 = .ok (.ifnull 7, 3) := by decide +kernel
theorem dX13_led_14 : decode cX13_led 14 = .ok (.aload_n 0, 1) := by decide +kernel
theorem dX13_led_15 : decode cX13_led 15 = .ok (.invokevirtual 324, 3) := by decide +kernel
theorem dX13_led_18 : decode cX13_led 18 = .ok (.iconst 0, 1) := by decide +kernel
theorem dX13_led_19 : decode cX13_led 19 = .ok (.istore_n 3, 1) := by decide +kernel
theorem dX13_led_20 : decode cX13_led 20 = .ok (.aload_n 0, 1) := by decide +kernel
theorem dX13_led_21 : decode cX13_led 21 = .ok (.getfield 289, 3) := by decide +kernel
theorem dX13_led_24 : decode cX13_led 24 = .ok (.ifnull 44, 3) := by decide +kernel
theorem dX13_led_27 : decode cX13_led 27 = .ok (.iload_n 3, 1) := by decide +kernel
theorem dX13_led_28 : decode cX13_led 28 = .ok (.aload_n 0, 1) := by decide +kernel
theorem dX13_led_29 : decode cX13_led 29 = .ok (.getfield 289, 3) := by decide +kernel
theorem dX13_led_32 : decode cX13_led 32 = .ok (.getfield 185, 3) := by decide +kernel
theorem dX13_led_35 : decode cX13_led 35 = .ok (.if_icmp .ge 33, 3) := by decide +kernel
theorem dX13_led_38 : decode cX13_led 38 = .ok (.aload_n 0, 1) := by decide +kernel
theorem dX13_led_39 : decode cX13_led 39 = .ok (.invokevirtual 361, 3) := by decide +kernel
theorem dX13_led_42 : decode cX13_led 42 = .ok (.iload_n 3, 1) := by decide +kernel
theorem dX13_led_43 : decode cX13_led 43 = .ok (.invokestatic 267, 3) := by decide +kernel
theorem dX13_led_46 : decode cX13_led 46 = .ok (.ifCond .ne 6, 3) := by decide +kernel
theorem dX13_led_49 : decode cX13_led 49 = .ok (.goto 13, 3) := by decide +kernel
theorem dX13_led_52 : decode cX13_led 52 = .ok (.iload_n 2, 1) := by decide +kernel
theorem dX13_led_53 : decode cX13_led 53 = .ok (.iload_n 1, 1) := by decide +kernel
theorem dX13_led_54 : decode cX13_led 54 = .ok (.if_icmp .ne 5, 3) := by decide +kernel
theorem dX13_led_57 : decode cX13_led 57 = .ok (.iload_n 3, 1) := by decide +kernel
theorem dX13_led_58 : decode cX13_led 58 = .ok (.ireturn, 1) := by decide +kernel
theorem dX13_led_59 : decode cX13_led 59 = .ok (.iinc 2 1, 3) := by decide +kernel
theorem dX13_led_62 : decode cX13_led 62 = .ok (.iinc 3 1, 3) := by decide +kernel
theorem dX13_led_65 : decode cX13_led 65 = .ok (.goto (-45), 3) := by decide +kernel
theorem dX13_led_68 : decode cX13_led 68 = .ok (.aload_n 0, 1) := by decide +kernel
theorem dX13_led_69 : decode cX13_led 69 = .ok (.iconst 1, 1) := by decide +kernel
theorem dX13_led_70 : decode cX13_led 70 = .ok (.putfield 48, 3) := by decide +kernel
theorem dX13_led_73 : decode cX13_led 73 = .ok (.iconst 0, 1) := by decide +kernel
theorem dX13_led_74 : decode cX13_led 74 = .ok (.ireturn, 1) := by decide +kernel
theorem dX13_size_0 : decode cX13_size 0 = .ok (.aload_n 0, 1) := by decide +kernel
theorem dX13_size_1 : decode cX13_size 1 = .ok (.iconst 0, 1) := by decide +kernel
theorem dX13_size_2 : decode cX13_size 2 = .ok (.putfield 48, 3) := by decide +kernel
theorem dX13_size_5 : decode cX13_size 5 = .ok (.iload_n 1, 1) := by decide +kernel
theorem dX13_size_6 : decode cX13_size 6 = .ok (.bipush 11, 2) := by decide +kernel
theorem dX13_size_8 : decode cX13_size 8 = .ok (.if_icmp .ne 8, 3) := by decide +kernel
theorem dX13_size_11 : decode cX13_size 11 = .ok (.aload_n 0, 1) := by decide +kernel
theorem dX13_size_12 : decode cX13_size 12 = .ok (.getfield 282, 3) := by decide +kernel
theorem dX13_size_15 : decode cX13_size 15 = .ok (.ireturn, 1) := by decide +kernel
theorem dX13_size_16 : decode cX13_size 16 = .ok (.iload_n 1, 1) := by decide +kernel
theorem dX13_size_17 : decode cX13_size 17 = .ok (.iconst 0, 1) := by decide +kernel
theorem dX13_size_18 : decode cX13_size 18 = .ok (.bipush 10, 2) := by decide +kernel
theorem dX13_size_20 : decode cX13_size 20 = .ok (.invokestatic 131, 3) := by decide +kernel
theorem dX13_size_23 : decode cX13_size 23 = .ok (.ifCond .ne 5, 3) := by decide +kernel
theorem dX13_size_26 : decode cX13_size 26 = .ok (.iconst (-1), 1) := by decide +kernel
theorem dX13_size_27 : decode cX13_size 27 = .ok (.ireturn, 1) := by decide +kernel
theorem dX13_size_28 : decode cX13_size 28 = .ok (.aload_n 0, 1) := by decide +kernel
theorem dX13_size_29 : decode cX13_size 29 = .ok (.getfield 289, 3) := by decide +kernel
theorem dX13_size_32 : decode cX13_size 32 = .ok (.ifnonnull 5, 3) := by decide +kernel
theorem dX13_size_35 : decode cX13_size 35 = .ok (.iconst 0, 1) := by decide +kernel
theorem dX13_size_36 : decode cX13_size 36 = .ok (.ireturn, 1) := by decide +kernel
theorem dX13_size_37 : decode cX13_size 37 = .ok (.iload_n 1, 1) := by decide +kernel
theorem dX13_size_38 : decode cX13_size 38 = .ok (.tableswitch 134 0 9 #[54, 62, 70, 78, 86, 94, 105, 113, 121, 129], 54) := by decide +kernel
theorem dX13_size_92 : decode cX13_size 92 = .ok (.aload_n 0, 1) := by decide +kernel
theorem dX13_size_93 : decode cX13_size 93 = .ok (.getfield 289, 3) := by decide +kernel
theorem dX13_size_96 : decode cX13_size 96 = .ok (.getfield 153, 3) := by decide +kernel
theorem dX13_size_99 : decode cX13_size 99 = .ok (.ireturn, 1) := by decide +kernel
theorem dX13_size_100 : decode cX13_size 100 = .ok (.aload_n 0, 1) := by decide +kernel
theorem dX13_size_101 : decode cX13_size 101 = .ok (.getfield 289, 3) := by decide +kernel
theorem dX13_size_104 : decode cX13_size 104 = .ok (.getfield 215, 3) := by decide +kernel
theorem dX13_size_107 : decode cX13_size 107 = .ok (.ireturn, 1) := by decide +kernel
theorem dX13_size_108 : decode cX13_size 108 = .ok (.aload_n 0, 1) := by decide +kernel
theorem dX13_size_109 : decode cX13_size 109 = .ok (.getfield 289, 3) := by decide +kernel
theorem dX13_size_112 : decode cX13_size 112 = .ok (.getfield 217, 3) := by decide +kernel
theorem dX13_size_115 : decode cX13_size 115 = .ok (.ireturn, 1) := by decide +kernel
theorem dX13_size_116 : decode cX13_size 116 = .ok (.aload_n 0, 1) := by decide +kernel
theorem dX13_size_117 : decode cX13_size 117 = .ok (.getfield 289, 3) := by decide +kernel
theorem dX13_size_120 : decode cX13_size 120 = .ok (.getfield 185, 3) := by decide +kernel
theorem dX13_size_123 : decode cX13_size 123 = .ok (.ireturn, 1) := by decide +kernel
theorem dX13_size_124 : decode cX13_size 124 = .ok (.aload_n 0, 1) := by decide +kernel
theorem dX13_size_125 : decode cX13_size 125 = .ok (.getfield 289, 3) := by decide +kernel
theorem dX13_size_128 : decode cX13_size 128 = .ok (.getfield 253, 3) := by decide +kernel
theorem dX13_size_131 : decode cX13_size 131 = .ok (.ireturn, 1) := by decide +kernel
theorem dX13_size_132 : decode cX13_size 132 = .ok (.aload_n 0, 1) := by decide +kernel
theorem dX13_size_133 : decode cX13_size 133 = .ok (.getfield 289, 3) := by decide +kernel
theorem dX13_size_136 : decode cX13_size 136 = .ok (.getfield 265, 3) := by decide +kernel
theorem dX13_size_139 : decode cX13_size 139 = .ok (.invokestatic 303, 3) := by decide +kernel
theorem dX13_size_142 : decode cX13_size 142 = .ok (.ireturn, 1) := by decide +kernel
theorem dX13_size_143 : decode cX13_size 143 = .ok (.aload_n 0, 1) := by decide +kernel
theorem dX13_size_144 : decode cX13_size 144 = .ok (.getfield 289, 3) := by decide +kernel
theorem dX13_size_147 : decode cX13_size 147 = .ok (.getfield 271, 3) := by decide +kernel
theorem dX13_size_150 : decode cX13_size 150 = .ok (.ireturn, 1) := by decide +kernel
theorem dX13_size_151 : decode cX13_size 151 = .ok (.aload_n 0, 1) := by decide +kernel
theorem dX13_size_152 : decode cX13_size 152 = .ok (.getfield 289, 3) := by decide +kernel
theorem dX13_size_155 : decode cX13_size 155 = .ok (.getfield 279, 3) := by decide +kernel
theorem dX13_size_158 : decode cX13_size 158 = .ok (.ireturn, 1) := by decide +kernel
theorem dX13_size_159 : decode cX13_size 159 = .ok (.aload_n 0, 1) := by decide +kernel
theorem dX13_size_160 : decode cX13_size 160 = .ok (.getfield 17, 3) := by decide +kernel
theorem dX13_size_163 : decode cX13_size 163 = .ok (.bipush 8, 2) := by decide +kernel
theorem dX13_size_165 : decode cX13_size 165 = .ok (.iaload, 1) := by decide +kernel
theorem dX13_size_166 : decode cX13_size 166 = .ok (.ireturn, 1) := by decide +kernel
theorem dX13_size_167 : decode cX13_size 167 = .ok (.aload_n 0, 1) := by decide +kernel
theorem dX13_size_168 : decode cX13_size 168 = .ok (.getfield 291, 3) := by decide +kernel
theorem dX13_size_171 : decode cX13_size 171 = .ok (.ireturn, 1) := by decide +kernel
theorem dX13_size_172 : decode cX13_size 172 = .ok (.aload_n 0, 1) := by decide +kernel
theorem dX13_size_173 : decode cX13_size 173 = .ok (.getfield 294, 3) := by decide +kernel
theorem dX13_size_176 : decode cX13_size 176 = .ok (.ireturn, 1) := by decide +kernel
theorem dX13_trouble_0 : decode cX13_trouble 0 = .ok (.aload_n 0, 1) := by decide +kernel
theorem dX13_trouble_1 : decode cX13_trouble 1 = .ok (.iconst 0, 1) := by decide +kernel
theorem dX13_trouble_2 : decode cX13_trouble 2 = .ok (.putfield 48, 3) := by decide +kernel
theorem dX13_trouble_5 : decode cX13_trouble 5 = .ok (.aload_n 0, 1) := by decide +kernel
theorem dX13_trouble_6 : decode cX13_trouble 6 = .ok (.getfield 51, 3) := by decide +kernel
theorem dX13_trouble_9 : decode cX13_trouble 9 = .ok (.ireturn, 1) := by decide +kernel
def m_X13_undo (t : Nat) (σ : jd_Hp) : Option (Int32 × jd_Hp) :=
jd_li (jd_pi σ t 0 0) fun τ1 =>
jd_if ((τ1.2.2.2 t 3) = none) (
jd_b (m_X13_denied t 6 τ1) fun r2 σ2 =>
some ((r2 &&& 1), σ2)) (
jd_if (¬ (τ1.2.1 t 19) = 0) (
jd_li (jd_pi τ1 t 19 ((τ1.2.1 t 19) - 1)) fun τ3 =>
jd_b (jd_lp (S := Int32) (T := Unit) (fun s4 σ4 =>
jd_if (9 ≤ s4) (
some ((Sum.inr ()), σ4)) (
jd_o σ4 (13, 29) (some t) fun a6 =>
jd_ia σ4 20 (σ4.2.2.2 a6 17) ((9 * (σ4.2.1 a6 19)) + s4) fun a7 j7 =>
jd_ia σ4 20 (σ4.2.2.2 a6 15) s4 fun a8 j8 =>
jd_li (jd_pi σ4 a8 j8 (σ4.2.1 a7 j7)) fun τ9 =>
some (Sum.inl (s4 + 1), τ9))) jd_fu 0 τ3) fun t5 σ5 =>
jd_o σ5 (13, 29) (some t) fun a10 =>
jd_b (m_X13_granted a10 σ5) fun r11 σ11 =>
some ((r11 &&& 1), σ11)) (
jd_b (m_X13_denied t 6 τ1) fun r12 σ12 =>
some ((r12 &&& 1), σ12)))
set_option maxHeartbeats 4000000 in
set_option maxRecDepth 20000 in
theorem c_X13_undo {l : Launch} {s0 : State} {G : jd_G} (hF : jd_F s0 G) (σ : jd_Hp) (t : Nat) (ht : σ.1[t]? = some (13, 29)) : jd_M l s0 G yX13_undo cX13_undo 2 (some .boolean) 2 je_i [jd_v G (some t)] σ (m_X13_undo t σ) := by
  refine jd_enter hF (by decide) (fun G => [some (jd_v G (some t)), none]) rfl (by simp [lv_args, jd_al, jd_v_cat, jd_cti, jd_ctl]) (by simp [lg_sl, jd_v_cat, jd_cti, jd_ctl]) (fun X hD hX => ?_)
  have hX : jd_C X RX13 "undo" cX13_undo 2 (some .boolean) := hX
  unfold m_X13_undo
  refine jr_ald0 (pc := 0) hX dX13_undo_0 ?_
  refine jr_iconst (pc := 1) hX 0 rfl dX13_undo_1 ?_
  refine jr_puti (pc := 2) hX fX13_48 rfl dX13_undo_2 ht ?_
  refine jr_li ?_
  refine jr_ald0 (pc := 5) hX dX13_undo_5 ?_
  refine jr_getr (pc := 6) hX fX13_289 rfl dX13_undo_6 ht ?_
  refine jr_ifnull (pc := 9) hX 19 dX13_undo_9 (by decide) ?_ ?_
  · refine jr_ald0 (pc := 19) hX dX13_undo_19 ?_
    refine jr_bipush (pc := 20) hX 6 rfl dX13_undo_20 ?_
    refine jr_cV1i (pc := 22) hX lX13_428 (c_X13_denied hX.F (jd_pi σ t 0 0) t ht _) (jd_dd hD rfl) (Nat.le_of_ble_eq_true rfl) dX13_undo_22 ht (fun r2 σ2 p2 => ?_)
    exact jr_bret (pc := 25) hX dX13_undo_25 rfl
  · refine jr_ald0 (pc := 12) hX dX13_undo_12 ?_
    refine jr_geti (pc := 13) hX fX13_291 rfl dX13_undo_13 ht ?_
    refine jr_ifne (pc := 16) hX 26 dX13_undo_16 (by decide) ?_ ?_
    · refine jr_ald0 (pc := 26) hX dX13_undo_26 ?_
      refine jr_dup (pc := 27) hX (jd_v_cat _ _) dX13_undo_27 ?_
      refine jr_geti (pc := 28) hX fX13_291 rfl dX13_undo_28 ht ?_
      refine jr_iconst (pc := 31) hX 1 rfl dX13_undo_31 ?_
      refine jr_isub (pc := 32) hX dX13_undo_32 ?_
      refine jr_puti (pc := 33) hX fX13_291 rfl dX13_undo_33 ht ?_
      refine jr_li ?_
      refine jr_iconst (pc := 36) hX 0 rfl dX13_undo_36 ?_
      refine jr_ist1 (pc := 37) hX (jn_r _ _) dX13_undo_37 ?_
      refine jr_loop (pc := 38) (fun (s4 : Int32) => [some (jd_v (jd_gG X) (some t)), some (.int s4)]) (fun (t5 : Unit) => [some (jd_v (jd_gG X) (some t)), none]) 70 0 (fun t5 σ5 => ?_) (fun K4 bk4 ex4 s4 σ4 => ?_)
      · refine jr_ald0 (pc := 70) hX dX13_undo_70 ?_
        refine jr_ck0 (fun a10 e10 h10 => ?_)
        refine jr_cV0i (pc := 71) hX lX13_434 (c_X13_granted hX.F σ5 a10 h10) (jd_dd hD rfl) (Nat.le_of_ble_eq_true rfl) dX13_undo_71 h10 (fun r11 σ11 p11 => ?_)
        exact jr_bret (pc := 74) hX dX13_undo_74 rfl
      · refine jr_ild1 (pc := 38) hX dX13_undo_38 ?_
        refine jr_bipush (pc := 39) hX 9 rfl dX13_undo_39 ?_
        refine jr_icge (pc := 41) hX 70 dX13_undo_41 (by decide) ?_ ?_
        · refine jr_wk [true, false] ?_
          exact ex4 () _
        · refine jr_ald0 (pc := 44) hX dX13_undo_44 ?_
          refine jr_ck0 (fun a6 e6 h6 => ?_)
          refine jr_getr (pc := 45) hX fX13_17 rfl dX13_undo_45 h6 ?_
          refine jr_ild1 (pc := 48) hX dX13_undo_48 ?_
          refine jr_ald0 (pc := 49) hX dX13_undo_49 ?_
          refine jr_ek0 e6 ?_
          refine jr_getr (pc := 50) hX fX13_24 rfl dX13_undo_50 h6 ?_
          refine jr_bipush (pc := 53) hX 9 rfl dX13_undo_53 ?_
          refine jr_ald0 (pc := 55) hX dX13_undo_55 ?_
          refine jr_ek0 e6 ?_
          refine jr_geti (pc := 56) hX fX13_291 rfl dX13_undo_56 h6 ?_
          refine jr_imul (pc := 59) hX dX13_undo_59 ?_
          refine jr_ild1 (pc := 60) hX dX13_undo_60 ?_
          refine jr_iadd (pc := 61) hX dX13_undo_61 ?_
          refine jr_iaC (pc := 62) hX dX13_undo_62 (fun a7 n7 e7 h7 => ?_)
          refine jr_iaS (pc := 63) hX dX13_undo_63 (fun a8 n8 e8 h8 => ?_)
          refine jr_li ?_
          refine jr_inc1 (pc := 64) hX 1 rfl (jn_r _ _) dX13_undo_64 ?_
          refine jr_goto (pc := 67) hX 38 dX13_undo_67 (by decide) ?_
          exact bk4 (s4 + 1) _
    · refine jr_ald0 (pc := 19) hX dX13_undo_19 ?_
      refine jr_bipush (pc := 20) hX 6 rfl dX13_undo_20 ?_
      refine jr_cV1i (pc := 22) hX lX13_428 (c_X13_denied hX.F (jd_pi σ t 0 0) t ht _) (jd_dd hD rfl) (Nat.le_of_ble_eq_true rfl) dX13_undo_22 ht (fun r12 σ12 p12 => ?_)
      exact jr_bret (pc := 25) hX dX13_undo_25 rfl
def m_X13_image (t : Nat) (σ : jd_Hp) : Option (Int32 × jd_Hp) :=
jd_li (jd_pi σ t 0 0) fun τ1 =>
jd_if (¬ (τ1.2.2.2 t 3) = none) (
jd_if (¬ (τ1.2.1 t 20) = 3) (
jd_b (jd_lp (S := Int32) (T := Unit) (fun s2 σ2 =>
jd_if (9 ≤ s2) (
some ((Sum.inr ()), σ2)) (
jd_o σ2 (13, 29) (some t) fun a4 =>
jd_ia σ2 20 (σ2.2.2.2 a4 15) s2 fun a5 j5 =>
jd_ia σ2 20 (σ2.2.2.2 a4 18) ((9 * (σ2.2.1 a4 20)) + s2) fun a6 j6 =>
jd_li (jd_pi σ2 a6 j6 (σ2.2.1 a5 j5)) fun τ7 =>
some (Sum.inl (s2 + 1), τ7))) jd_fu 0 τ1) fun t3 σ3 =>
jd_o σ3 (13, 29) (some t) fun a8 =>
jd_li (jd_pi σ3 a8 20 ((σ3.2.1 a8 20) + 1)) fun τ9 =>
jd_b (m_X13_good a8 ((τ9.2.1 a8 20) - 1) τ9) fun r10 σ10 =>
some (r10, σ10)) (
jd_b (m_X13_refused t 3 τ1) fun r11 σ11 =>
some (r11, σ11))) (
jd_b (m_X13_refused t 1 τ1) fun r12 σ12 =>
some (r12, σ12))
set_option maxHeartbeats 4000000 in
set_option maxRecDepth 20000 in
theorem c_X13_image {l : Launch} {s0 : State} {G : jd_G} (hF : jd_F s0 G) (σ : jd_Hp) (t : Nat) (ht : σ.1[t]? = some (13, 29)) : jd_M l s0 G yX13_image cX13_image 2 (some .int) 1 je_i [jd_v G (some t)] σ (m_X13_image t σ) := by
  refine jd_enter hF (by decide) (fun G => [some (jd_v G (some t)), none]) rfl (by simp [lv_args, jd_al, jd_v_cat, jd_cti, jd_ctl]) (by simp [lg_sl, jd_v_cat, jd_cti, jd_ctl]) (fun X hD hX => ?_)
  have hX : jd_C X RX13 "image" cX13_image 2 (some .int) := hX
  unfold m_X13_image
  refine jr_ald0 (pc := 0) hX dX13_image_0 ?_
  refine jr_iconst (pc := 1) hX 0 rfl dX13_image_1 ?_
  refine jr_puti (pc := 2) hX fX13_48 rfl dX13_image_2 ht ?_
  refine jr_li ?_
  refine jr_ald0 (pc := 5) hX dX13_image_5 ?_
  refine jr_getr (pc := 6) hX fX13_289 rfl dX13_image_6 ht ?_
  refine jr_ifnonnull (pc := 9) hX 18 dX13_image_9 (by decide) ?_ ?_
  · refine jr_ald0 (pc := 18) hX dX13_image_18 ?_
    refine jr_geti (pc := 19) hX fX13_294 rfl dX13_image_19 ht ?_
    refine jr_iconst (pc := 22) hX 3 rfl dX13_image_22 ?_
    refine jr_icne (pc := 23) hX 32 dX13_image_23 (by decide) ?_ ?_
    · refine jr_iconst (pc := 32) hX 0 rfl dX13_image_32 ?_
      refine jr_ist1 (pc := 33) hX (jn_r _ _) dX13_image_33 ?_
      refine jr_loop (pc := 34) (fun (s2 : Int32) => [some (jd_v (jd_gG X) (some t)), some (.int s2)]) (fun (t3 : Unit) => [some (jd_v (jd_gG X) (some t)), none]) 66 0 (fun t3 σ3 => ?_) (fun K2 bk2 ex2 s2 σ2 => ?_)
      · refine jr_ald0 (pc := 66) hX dX13_image_66 ?_
        refine jr_dup (pc := 67) hX (jd_v_cat _ _) dX13_image_67 ?_
        refine jr_ck0 (fun a8 e8 h8 => ?_)
        refine jr_geti (pc := 68) hX fX13_294 rfl dX13_image_68 h8 ?_
        refine jr_iconst (pc := 71) hX 1 rfl dX13_image_71 ?_
        refine jr_iadd (pc := 72) hX dX13_image_72 ?_
        refine jr_ek1 e8 ?_
        refine jr_puti (pc := 73) hX fX13_294 rfl dX13_image_73 h8 ?_
        refine jr_li ?_
        refine jr_ald0 (pc := 76) hX dX13_image_76 ?_
        refine jr_ald0 (pc := 77) hX dX13_image_77 ?_
        refine jr_ek0 e8 ?_
        refine jr_geti (pc := 78) hX fX13_294 rfl dX13_image_78 h8 ?_
        refine jr_iconst (pc := 81) hX 1 rfl dX13_image_81 ?_
        refine jr_isub (pc := 82) hX dX13_image_82 ?_
        refine jr_ek1 e8 ?_
        refine jr_cV1i (pc := 83) hX lX13_58 (c_X13_good hX.F (jd_pi σ3 a8 20 ((σ3.2.1 a8 20) + 1)) a8 h8 _) (jd_dd hD rfl) (Nat.le_of_ble_eq_true rfl) dX13_image_83 h8 (fun r10 σ10 p10 => ?_)
        exact jr_iret (pc := 86) hX dX13_image_86 rfl
      · refine jr_ild1 (pc := 34) hX dX13_image_34 ?_
        refine jr_bipush (pc := 35) hX 9 rfl dX13_image_35 ?_
        refine jr_icge (pc := 37) hX 66 dX13_image_37 (by decide) ?_ ?_
        · refine jr_wk [true, false] ?_
          exact ex2 () _
        · refine jr_ald0 (pc := 40) hX dX13_image_40 ?_
          refine jr_ck0 (fun a4 e4 h4 => ?_)
          refine jr_getr (pc := 41) hX fX13_27 rfl dX13_image_41 h4 ?_
          refine jr_bipush (pc := 44) hX 9 rfl dX13_image_44 ?_
          refine jr_ald0 (pc := 46) hX dX13_image_46 ?_
          refine jr_ek0 e4 ?_
          refine jr_geti (pc := 47) hX fX13_294 rfl dX13_image_47 h4 ?_
          refine jr_imul (pc := 50) hX dX13_image_50 ?_
          refine jr_ild1 (pc := 51) hX dX13_image_51 ?_
          refine jr_iadd (pc := 52) hX dX13_image_52 ?_
          refine jr_ald0 (pc := 53) hX dX13_image_53 ?_
          refine jr_ek0 e4 ?_
          refine jr_getr (pc := 54) hX fX13_17 rfl dX13_image_54 h4 ?_
          refine jr_ild1 (pc := 57) hX dX13_image_57 ?_
          refine jr_iaC (pc := 58) hX dX13_image_58 (fun a5 n5 e5 h5 => ?_)
          refine jr_iaS (pc := 59) hX dX13_image_59 (fun a6 n6 e6 h6 => ?_)
          refine jr_li ?_
          refine jr_inc1 (pc := 60) hX 1 rfl (jn_r _ _) dX13_image_60 ?_
          refine jr_goto (pc := 63) hX 34 dX13_image_63 (by decide) ?_
          exact bk2 (s2 + 1) _
    · refine jr_ald0 (pc := 26) hX dX13_image_26 ?_
      refine jr_iconst (pc := 27) hX 3 rfl dX13_image_27 ?_
      refine jr_cV1i (pc := 28) hX lX13_54 (c_X13_refused hX.F (jd_pi σ t 0 0) t ht _) (jd_dd hD rfl) (Nat.le_of_ble_eq_true rfl) dX13_image_28 ht (fun r11 σ11 p11 => ?_)
      exact jr_iret (pc := 31) hX dX13_image_31 rfl
  · refine jr_ald0 (pc := 12) hX dX13_image_12 ?_
    refine jr_iconst (pc := 13) hX 1 rfl dX13_image_13 ?_
    refine jr_cV1i (pc := 14) hX lX13_54 (c_X13_refused hX.F (jd_pi σ t 0 0) t ht _) (jd_dd hD rfl) (Nat.le_of_ble_eq_true rfl) dX13_image_14 ht (fun r12 σ12 p12 => ?_)
    exact jr_iret (pc := 17) hX dX13_image_17 rfl
def m_X13_back (t : Nat) (x0p : Int32) (σ : jd_Hp) : Option (Int32 × jd_Hp) :=
jd_li (jd_pi σ t 0 0) fun τ1 =>
jd_if ((τ1.2.2.2 t 3) = none) (
jd_b (m_X13_denied t 1 τ1) fun r2 σ2 =>
some ((r2 &&& 1), σ2)) (
jd_if (x0p < 0) (
jd_b (m_X13_denied t 1 τ1) fun r3 σ3 =>
some ((r3 &&& 1), σ3)) (
jd_if (x0p < (τ1.2.1 t 20)) (
jd_b (jd_lp (S := Int32) (T := Unit) (fun s4 σ4 =>
jd_if (9 ≤ s4) (
some ((Sum.inr ()), σ4)) (
jd_o σ4 (13, 29) (some t) fun a6 =>
jd_ia σ4 20 (σ4.2.2.2 a6 18) ((9 * x0p) + s4) fun a7 j7 =>
jd_ia σ4 20 (σ4.2.2.2 a6 15) s4 fun a8 j8 =>
jd_li (jd_pi σ4 a8 j8 (σ4.2.1 a7 j7)) fun τ9 =>
some (Sum.inl (s4 + 1), τ9))) jd_fu 0 τ1) fun t5 σ5 =>
jd_o σ5 (13, 29) (some t) fun a10 =>
jd_li (jd_pi σ5 a10 19 0) fun τ11 =>
jd_b (m_X13_granted a10 τ11) fun r12 σ12 =>
some ((r12 &&& 1), σ12)) (
jd_b (m_X13_denied t 1 τ1) fun r13 σ13 =>
some ((r13 &&& 1), σ13))))
set_option maxHeartbeats 4000000 in
set_option maxRecDepth 20000 in
theorem c_X13_back {l : Launch} {s0 : State} {G : jd_G} (hF : jd_F s0 G) (σ : jd_Hp) (t : Nat) (ht : σ.1[t]? = some (13, 29)) (x0p : Int32) : jd_M l s0 G yX13_back cX13_back 3 (some .boolean) 2 je_i [jd_v G (some t), .int x0p] σ (m_X13_back t x0p σ) := by
  refine jd_enter hF (by decide) (fun G => [some (jd_v G (some t)), some (.int x0p), none]) rfl (by simp [lv_args, jd_al, jd_v_cat, jd_cti, jd_ctl]) (by simp [lg_sl, jd_v_cat, jd_cti, jd_ctl]) (fun X hD hX => ?_)
  have hX : jd_C X RX13 "back" cX13_back 3 (some .boolean) := hX
  unfold m_X13_back
  refine jr_ald0 (pc := 0) hX dX13_back_0 ?_
  refine jr_iconst (pc := 1) hX 0 rfl dX13_back_1 ?_
  refine jr_puti (pc := 2) hX fX13_48 rfl dX13_back_2 ht ?_
  refine jr_li ?_
  refine jr_ald0 (pc := 5) hX dX13_back_5 ?_
  refine jr_getr (pc := 6) hX fX13_289 rfl dX13_back_6 ht ?_
  refine jr_ifnull (pc := 9) hX 24 dX13_back_9 (by decide) ?_ ?_
  · refine jr_ald0 (pc := 24) hX dX13_back_24 ?_
    refine jr_iconst (pc := 25) hX 1 rfl dX13_back_25 ?_
    refine jr_cV1i (pc := 26) hX lX13_428 (c_X13_denied hX.F (jd_pi σ t 0 0) t ht _) (jd_dd hD rfl) (Nat.le_of_ble_eq_true rfl) dX13_back_26 ht (fun r2 σ2 p2 => ?_)
    exact jr_bret (pc := 29) hX dX13_back_29 rfl
  · refine jr_ild1 (pc := 12) hX dX13_back_12 ?_
    refine jr_iflt (pc := 13) hX 24 dX13_back_13 (by decide) ?_ ?_
    · refine jr_ald0 (pc := 24) hX dX13_back_24 ?_
      refine jr_iconst (pc := 25) hX 1 rfl dX13_back_25 ?_
      refine jr_cV1i (pc := 26) hX lX13_428 (c_X13_denied hX.F (jd_pi σ t 0 0) t ht _) (jd_dd hD rfl) (Nat.le_of_ble_eq_true rfl) dX13_back_26 ht (fun r3 σ3 p3 => ?_)
      exact jr_bret (pc := 29) hX dX13_back_29 rfl
    · refine jr_ild1 (pc := 16) hX dX13_back_16 ?_
      refine jr_ald0 (pc := 17) hX dX13_back_17 ?_
      refine jr_geti (pc := 18) hX fX13_294 rfl dX13_back_18 ht ?_
      refine jr_iclt (pc := 21) hX 30 dX13_back_21 (by decide) ?_ ?_
      · refine jr_iconst (pc := 30) hX 0 rfl dX13_back_30 ?_
        refine jr_ist2 (pc := 31) hX (jn_i _) dX13_back_31 ?_
        refine jr_loop (pc := 32) (fun (s4 : Int32) => [some (jd_v (jd_gG X) (some t)), some (.int x0p), some (.int s4)]) (fun (t5 : Unit) => [some (jd_v (jd_gG X) (some t)), none, none]) 61 0 (fun t5 σ5 => ?_) (fun K4 bk4 ex4 s4 σ4 => ?_)
        · refine jr_ald0 (pc := 61) hX dX13_back_61 ?_
          refine jr_iconst (pc := 62) hX 0 rfl dX13_back_62 ?_
          refine jr_ck1 (fun a10 e10 h10 => ?_)
          refine jr_puti (pc := 63) hX fX13_291 rfl dX13_back_63 h10 ?_
          refine jr_li ?_
          refine jr_ald0 (pc := 66) hX dX13_back_66 ?_
          refine jr_ek0 e10 ?_
          refine jr_cV0i (pc := 67) hX lX13_434 (c_X13_granted hX.F (jd_pi σ5 a10 19 0) a10 h10) (jd_dd hD rfl) (Nat.le_of_ble_eq_true rfl) dX13_back_67 h10 (fun r12 σ12 p12 => ?_)
          exact jr_bret (pc := 70) hX dX13_back_70 rfl
        · refine jr_ild2 (pc := 32) hX dX13_back_32 ?_
          refine jr_bipush (pc := 33) hX 9 rfl dX13_back_33 ?_
          refine jr_icge (pc := 35) hX 61 dX13_back_35 (by decide) ?_ ?_
          · refine jr_wk [true, false, false] ?_
            exact ex4 () _
          · refine jr_ald0 (pc := 38) hX dX13_back_38 ?_
            refine jr_ck0 (fun a6 e6 h6 => ?_)
            refine jr_getr (pc := 39) hX fX13_17 rfl dX13_back_39 h6 ?_
            refine jr_ild2 (pc := 42) hX dX13_back_42 ?_
            refine jr_ald0 (pc := 43) hX dX13_back_43 ?_
            refine jr_ek0 e6 ?_
            refine jr_getr (pc := 44) hX fX13_27 rfl dX13_back_44 h6 ?_
            refine jr_bipush (pc := 47) hX 9 rfl dX13_back_47 ?_
            refine jr_ild1 (pc := 49) hX dX13_back_49 ?_
            refine jr_imul (pc := 50) hX dX13_back_50 ?_
            refine jr_ild2 (pc := 51) hX dX13_back_51 ?_
            refine jr_iadd (pc := 52) hX dX13_back_52 ?_
            refine jr_iaC (pc := 53) hX dX13_back_53 (fun a7 n7 e7 h7 => ?_)
            refine jr_iaS (pc := 54) hX dX13_back_54 (fun a8 n8 e8 h8 => ?_)
            refine jr_li ?_
            refine jr_inc2 (pc := 55) hX 1 rfl (jn_i _) dX13_back_55 ?_
            refine jr_goto (pc := 58) hX 32 dX13_back_58 (by decide) ?_
            exact bk4 (s4 + 1) _
      · refine jr_ald0 (pc := 24) hX dX13_back_24 ?_
        refine jr_iconst (pc := 25) hX 1 rfl dX13_back_25 ?_
        refine jr_cV1i (pc := 26) hX lX13_428 (c_X13_denied hX.F (jd_pi σ t 0 0) t ht _) (jd_dd hD rfl) (Nat.le_of_ble_eq_true rfl) dX13_back_26 ht (fun r13 σ13 p13 => ?_)
        exact jr_bret (pc := 29) hX dX13_back_29 rfl
def m_X13_led (t : Nat) (x0p : Int32) (σ : jd_Hp) : Option (Int32 × jd_Hp) :=
jd_li (jd_pi σ t 0 0) fun τ1 =>
jd_b (α := Unit) (
jd_if ((τ1.2.2.2 t 3) = none) (
some ((), τ1)) (
jd_b (m_X13_works t τ1) fun r4 σ4 =>
some ((), σ4))) fun t3 σ3 =>
jd_b (jd_lp (S := Int32 × Int32) (T := (Unit) ⊕ Int32) (fun s5 σ5 =>
jd_o σ5 (13, 29) (some t) fun a7 =>
jd_if ((σ5.2.2.2 a7 3) = none) (
some ((Sum.inr (Sum.inl ())), σ5)) (
jd_o σ5 (12, 20) (σ5.2.2.2 a7 3) fun a8 =>
jd_if ((σ5.2.1 a8 3) ≤ s5.2) (
some ((Sum.inr (Sum.inl ())), σ5)) (
jd_b (m_X13_unreached a7 σ5) fun r9 σ9 =>
jd_b (m_X13_bit r9 s5.2 σ9) fun r10 σ10 =>
jd_if (¬ r10 = 0) (
jd_if (¬ s5.1 = x0p) (
some (Sum.inl ((s5.1 + 1), (s5.2 + 1)), σ10)) (
some (Sum.inr (Sum.inr s5.2), σ10))) (
some (Sum.inl (s5.1, (s5.2 + 1)), σ10))))) jd_fu (0, 0) σ3) (jd_q (fun t6 σ6 =>
jd_o σ6 (13, 29) (some t) fun a11 =>
jd_li (jd_pi σ6 a11 0 1) fun τ12 =>
some (0, τ12)) (fun v5 σ6 => some (v5, σ6)))
set_option maxHeartbeats 4000000 in
set_option maxRecDepth 20000 in
theorem c_X13_led {l : Launch} {s0 : State} {G : jd_G} (hF : jd_F s0 G) (σ : jd_Hp) (t : Nat) (ht : σ.1[t]? = some (13, 29)) (x0p : Int32) : jd_M l s0 G yX13_led cX13_led 4 (some .int) 5 je_i [jd_v G (some t), .int x0p] σ (m_X13_led t x0p σ) := by
  refine jd_enter hF (by decide) (fun G => [some (jd_v G (some t)), some (.int x0p), none, none]) rfl (by simp [lv_args, jd_al, jd_v_cat, jd_cti, jd_ctl]) (by simp [lg_sl, jd_v_cat, jd_cti, jd_ctl]) (fun X hD hX => ?_)
  have hX : jd_C X RX13 "led" cX13_led 4 (some .int) := hX
  unfold m_X13_led
  refine jr_ald0 (pc := 0) hX dX13_led_0 ?_
  refine jr_iconst (pc := 1) hX 0 rfl dX13_led_1 ?_
  refine jr_puti (pc := 2) hX fX13_48 rfl dX13_led_2 ht ?_
  refine jr_li ?_
  refine jr_iconst (pc := 5) hX 0 rfl dX13_led_5 ?_
  refine jr_ist2 (pc := 6) hX (jn_i _) dX13_led_6 ?_
  refine jr_ald0 (pc := 7) hX dX13_led_7 ?_
  refine jr_getr (pc := 8) hX fX13_289 rfl dX13_led_8 ht ?_
  refine jr_join (pc := 11) 18 (fun (t3 : Unit) => [some (jd_v (jd_gG X) (some t)), some (.int x0p), some (.int 0), none]) (fun (t3 : Unit) => []) (fun t3 σ3 => ?_) (fun K3 jj3 => ?_)
  · refine jr_iconst (pc := 18) hX 0 rfl dX13_led_18 ?_
    refine jr_ist3 (pc := 19) hX (jn_i _) dX13_led_19 ?_
    refine jr_loopR (pc := 20) (fun (s5 : Int32 × Int32) => [some (jd_v (jd_gG X) (some t)), some (.int x0p), some (.int s5.1), some (.int s5.2)]) (fun (t6 : Unit) => [some (jd_v (jd_gG X) (some t)), none, none, none]) 68 (0, 0) (fun t6 σ6 => ?_) (fun K5 bk5 ex5 wr5 s5 σ5 => ?_)
    · refine jr_ald0 (pc := 68) hX dX13_led_68 ?_
      refine jr_iconst (pc := 69) hX 1 rfl dX13_led_69 ?_
      refine jr_ck1 (fun a11 e11 h11 => ?_)
      refine jr_puti (pc := 70) hX fX13_48 rfl dX13_led_70 h11 ?_
      refine jr_li ?_
      refine jr_iconst (pc := 73) hX 0 rfl dX13_led_73 ?_
      exact jr_iret (pc := 74) hX dX13_led_74 rfl
    · refine jr_ald0 (pc := 20) hX dX13_led_20 ?_
      refine jr_ck0 (fun a7 e7 h7 => ?_)
      refine jr_getr (pc := 21) hX fX13_289 rfl dX13_led_21 h7 ?_
      refine jr_ifnull (pc := 24) hX 68 dX13_led_24 (by decide) ?_ ?_
      · refine jr_wk [true, false, false, false] ?_
        exact ex5 () _
      · refine jr_ild3 (pc := 27) hX dX13_led_27 ?_
        refine jr_ald0 (pc := 28) hX dX13_led_28 ?_
        refine jr_ek0 e7 ?_
        refine jr_getr (pc := 29) hX fX13_289 rfl dX13_led_29 h7 ?_
        refine jr_ck0 (fun a8 e8 h8 => ?_)
        refine jr_getiN (pc := 32) hX fX13_185 rfl dX13_led_32 h8 ?_
        refine jr_icge (pc := 35) hX 68 dX13_led_35 (by decide) ?_ ?_
        · refine jr_wk [true, false, false, false] ?_
          exact ex5 () _
        · refine jr_ald0 (pc := 38) hX dX13_led_38 ?_
          refine jr_ek0 e7 ?_
          refine jr_cV0i (pc := 39) hX lX13_361 (c_X13_unreached hX.F σ5 a7 h7) (jd_dd hD rfl) (Nat.le_of_ble_eq_true rfl) dX13_led_39 h7 (fun r9 σ9 p9 => ?_)
          refine jr_ild3 (pc := 42) hX dX13_led_42 ?_
          refine jr_cS2i (pc := 43) hX lX13_267 (c_X13_bit hX.F σ9 _ _) (jd_dd hD rfl) (Nat.le_of_ble_eq_true rfl) dX13_led_43 (fun r10 σ10 p10 => ?_)
          refine jr_ifne (pc := 46) hX 52 dX13_led_46 (by decide) ?_ ?_
          · refine jr_ild2 (pc := 52) hX dX13_led_52 ?_
            refine jr_ild1 (pc := 53) hX dX13_led_53 ?_
            refine jr_icne (pc := 54) hX 59 dX13_led_54 (by decide) ?_ ?_
            · refine jr_inc2 (pc := 59) hX 1 rfl (jn_i _) dX13_led_59 ?_
              refine jr_inc3 (pc := 62) hX 1 rfl (jn_i _) dX13_led_62 ?_
              refine jr_goto (pc := 65) hX 20 dX13_led_65 (by decide) ?_
              exact bk5 ((s5.1 + 1), (s5.2 + 1)) _
            · refine jr_ild3 (pc := 57) hX dX13_led_57 ?_
              exact jr_iret (pc := 58) hX dX13_led_58 ((wr5 _ _).trans rfl)
          · refine jr_goto (pc := 49) hX 62 dX13_led_49 (by decide) ?_
            refine jr_inc3 (pc := 62) hX 1 rfl (jn_i _) dX13_led_62 ?_
            refine jr_goto (pc := 65) hX 20 dX13_led_65 (by decide) ?_
            exact bk5 (s5.1, (s5.2 + 1)) _
  · refine jr_ifnull (pc := 11) hX 18 dX13_led_11 (by decide) ?_ ?_
    · exact jj3 () _
    · refine jr_ald0 (pc := 14) hX dX13_led_14 ?_
      refine jr_cV0v (pc := 15) hX lX13_324 (c_X13_works hX.F (jd_pi σ t 0 0) t ht) (jd_dd hD rfl) (Nat.le_of_ble_eq_true rfl) dX13_led_15 ht (fun r4 σ4 p4 => ?_)
      exact jj3 () _
def m_X13_size (t : Nat) (x0p : Int32) (σ : jd_Hp) : Option (Int32 × jd_Hp) :=
jd_li (jd_pi σ t 0 0) fun τ1 =>
jd_if (¬ x0p = 11) (
jd_b (m_X13_in x0p 0 10 τ1) fun r2 σ2 =>
jd_if (¬ r2 = 0) (
jd_if (¬ (σ2.2.2.2 t 3) = none) (
jd_sw x0p 0 [
jd_o σ2 (12, 20) (σ2.2.2.2 t 3) fun a3 =>
some ((σ2.2.1 a3 0), σ2),
jd_o σ2 (12, 20) (σ2.2.2.2 t 3) fun a4 =>
some ((σ2.2.1 a4 1), σ2),
jd_o σ2 (12, 20) (σ2.2.2.2 t 3) fun a5 =>
some ((σ2.2.1 a5 2), σ2),
jd_o σ2 (12, 20) (σ2.2.2.2 t 3) fun a6 =>
some ((σ2.2.1 a6 3), σ2),
jd_o σ2 (12, 20) (σ2.2.2.2 t 3) fun a7 =>
some ((σ2.2.1 a7 4), σ2),
jd_o σ2 (12, 20) (σ2.2.2.2 t 3) fun a8 =>
jd_b (m_X13_bits (σ2.2.1 a8 5) σ2) fun r9 σ9 =>
some (r9, σ9),
jd_o σ2 (12, 20) (σ2.2.2.2 t 3) fun a10 =>
some ((σ2.2.1 a10 6), σ2),
jd_o σ2 (12, 20) (σ2.2.2.2 t 3) fun a11 =>
some ((σ2.2.1 a11 7), σ2),
jd_ia σ2 20 (σ2.2.2.2 t 15) 8 fun a12 j12 =>
some ((σ2.2.1 a12 j12), σ2),
some ((σ2.2.1 t 19), σ2)] (
some ((σ2.2.1 t 20), σ2))) (
some (0, σ2))) (
some ((-1), σ2))) (
some ((τ1.2.1 t 6), τ1))
set_option maxHeartbeats 4000000 in
set_option maxRecDepth 20000 in
theorem c_X13_size {l : Launch} {s0 : State} {G : jd_G} (hF : jd_F s0 G) (σ : jd_Hp) (t : Nat) (ht : σ.1[t]? = some (13, 29)) (x0p : Int32) : jd_M l s0 G yX13_size cX13_size 2 (some .int) 1 je_i [jd_v G (some t), .int x0p] σ (m_X13_size t x0p σ) := by
  refine jd_enter hF (by decide) (fun G => [some (jd_v G (some t)), some (.int x0p)]) rfl (by simp [lv_args, jd_al, jd_v_cat, jd_cti, jd_ctl]) (by simp [lg_sl, jd_v_cat, jd_cti, jd_ctl]) (fun X hD hX => ?_)
  have hX : jd_C X RX13 "size" cX13_size 2 (some .int) := hX
  unfold m_X13_size
  refine jr_ald0 (pc := 0) hX dX13_size_0 ?_
  refine jr_iconst (pc := 1) hX 0 rfl dX13_size_1 ?_
  refine jr_puti (pc := 2) hX fX13_48 rfl dX13_size_2 ht ?_
  refine jr_li ?_
  refine jr_ild1 (pc := 5) hX dX13_size_5 ?_
  refine jr_bipush (pc := 6) hX 11 rfl dX13_size_6 ?_
  refine jr_icne (pc := 8) hX 16 dX13_size_8 (by decide) ?_ ?_
  · refine jr_ild1 (pc := 16) hX dX13_size_16 ?_
    refine jr_iconst (pc := 17) hX 0 rfl dX13_size_17 ?_
    refine jr_bipush (pc := 18) hX 10 rfl dX13_size_18 ?_
    refine jr_cS3i (pc := 20) hX lX13_131 (c_X13_in hX.F (jd_pi σ t 0 0) _ _ _) (jd_dd hD rfl) (Nat.le_of_ble_eq_true rfl) dX13_size_20 (fun r2 σ2 p2 => ?_)
    refine jr_ifne (pc := 23) hX 28 dX13_size_23 (by decide) ?_ ?_
    · refine jr_ald0 (pc := 28) hX dX13_size_28 ?_
      refine jr_getr (pc := 29) hX fX13_289 rfl dX13_size_29 (p2.at ht :) ?_
      refine jr_ifnonnull (pc := 32) hX 37 dX13_size_32 (by decide) ?_ ?_
      · refine jr_ild1 (pc := 37) hX dX13_size_37 ?_
        refine jr_tsw (pc := 38) hX [92, 100, 108, 116, 124, 132, 143, 151, 159, 167] 172 dX13_size_38 (by decide) rfl (by decide) rfl (fun i t A h1 h2 => ?_) ?_
        · match i, h1, h2 with
          | 0, h1, h2 =>
            cases h1
            cases h2
            refine jr_ald0 (pc := 92) hX dX13_size_92 ?_
            refine jr_getr (pc := 93) hX fX13_289 rfl dX13_size_93 (p2.at ht :) ?_
            refine jr_ck0 (fun a3 e3 h3 => ?_)
            refine jr_getiN (pc := 96) hX fX13_153 rfl dX13_size_96 h3 ?_
            exact jr_iret (pc := 99) hX dX13_size_99 rfl
          | 1, h1, h2 =>
            cases h1
            cases h2
            refine jr_ald0 (pc := 100) hX dX13_size_100 ?_
            refine jr_getr (pc := 101) hX fX13_289 rfl dX13_size_101 (p2.at ht :) ?_
            refine jr_ck0 (fun a4 e4 h4 => ?_)
            refine jr_getiN (pc := 104) hX fX13_215 rfl dX13_size_104 h4 ?_
            exact jr_iret (pc := 107) hX dX13_size_107 rfl
          | 2, h1, h2 =>
            cases h1
            cases h2
            refine jr_ald0 (pc := 108) hX dX13_size_108 ?_
            refine jr_getr (pc := 109) hX fX13_289 rfl dX13_size_109 (p2.at ht :) ?_
            refine jr_ck0 (fun a5 e5 h5 => ?_)
            refine jr_getiN (pc := 112) hX fX13_217 rfl dX13_size_112 h5 ?_
            exact jr_iret (pc := 115) hX dX13_size_115 rfl
          | 3, h1, h2 =>
            cases h1
            cases h2
            refine jr_ald0 (pc := 116) hX dX13_size_116 ?_
            refine jr_getr (pc := 117) hX fX13_289 rfl dX13_size_117 (p2.at ht :) ?_
            refine jr_ck0 (fun a6 e6 h6 => ?_)
            refine jr_getiN (pc := 120) hX fX13_185 rfl dX13_size_120 h6 ?_
            exact jr_iret (pc := 123) hX dX13_size_123 rfl
          | 4, h1, h2 =>
            cases h1
            cases h2
            refine jr_ald0 (pc := 124) hX dX13_size_124 ?_
            refine jr_getr (pc := 125) hX fX13_289 rfl dX13_size_125 (p2.at ht :) ?_
            refine jr_ck0 (fun a7 e7 h7 => ?_)
            refine jr_getiN (pc := 128) hX fX13_253 rfl dX13_size_128 h7 ?_
            exact jr_iret (pc := 131) hX dX13_size_131 rfl
          | 5, h1, h2 =>
            cases h1
            cases h2
            refine jr_ald0 (pc := 132) hX dX13_size_132 ?_
            refine jr_getr (pc := 133) hX fX13_289 rfl dX13_size_133 (p2.at ht :) ?_
            refine jr_ck0 (fun a8 e8 h8 => ?_)
            refine jr_getiN (pc := 136) hX fX13_265 rfl dX13_size_136 h8 ?_
            refine jr_cS1i (pc := 139) hX lX13_303 (c_X13_bits hX.F σ2 _) (jd_dd hD rfl) (Nat.le_of_ble_eq_true rfl) dX13_size_139 (fun r9 σ9 p9 => ?_)
            exact jr_iret (pc := 142) hX dX13_size_142 rfl
          | 6, h1, h2 =>
            cases h1
            cases h2
            refine jr_ald0 (pc := 143) hX dX13_size_143 ?_
            refine jr_getr (pc := 144) hX fX13_289 rfl dX13_size_144 (p2.at ht :) ?_
            refine jr_ck0 (fun a10 e10 h10 => ?_)
            refine jr_getiN (pc := 147) hX fX13_271 rfl dX13_size_147 h10 ?_
            exact jr_iret (pc := 150) hX dX13_size_150 rfl
          | 7, h1, h2 =>
            cases h1
            cases h2
            refine jr_ald0 (pc := 151) hX dX13_size_151 ?_
            refine jr_getr (pc := 152) hX fX13_289 rfl dX13_size_152 (p2.at ht :) ?_
            refine jr_ck0 (fun a11 e11 h11 => ?_)
            refine jr_getiN (pc := 155) hX fX13_279 rfl dX13_size_155 h11 ?_
            exact jr_iret (pc := 158) hX dX13_size_158 rfl
          | 8, h1, h2 =>
            cases h1
            cases h2
            refine jr_ald0 (pc := 159) hX dX13_size_159 ?_
            refine jr_getr (pc := 160) hX fX13_17 rfl dX13_size_160 (p2.at ht :) ?_
            refine jr_bipush (pc := 163) hX 8 rfl dX13_size_163 ?_
            refine jr_iaC (pc := 165) hX dX13_size_165 (fun a12 n12 e12 h12 => ?_)
            exact jr_iret (pc := 166) hX dX13_size_166 rfl
          | 9, h1, h2 =>
            cases h1
            cases h2
            refine jr_ald0 (pc := 167) hX dX13_size_167 ?_
            refine jr_geti (pc := 168) hX fX13_291 rfl dX13_size_168 (p2.at ht :) ?_
            exact jr_iret (pc := 171) hX dX13_size_171 rfl
          | i + 10, h1, h2 => simp at h1
        · refine jr_ald0 (pc := 172) hX dX13_size_172 ?_
          refine jr_geti (pc := 173) hX fX13_294 rfl dX13_size_173 (p2.at ht :) ?_
          exact jr_iret (pc := 176) hX dX13_size_176 rfl
      · refine jr_iconst (pc := 35) hX 0 rfl dX13_size_35 ?_
        exact jr_iret (pc := 36) hX dX13_size_36 rfl
    · refine jr_iconst (pc := 26) hX (-1) rfl dX13_size_26 ?_
      exact jr_iret (pc := 27) hX dX13_size_27 rfl
  · refine jr_ald0 (pc := 11) hX dX13_size_11 ?_
    refine jr_geti (pc := 12) hX fX13_282 rfl dX13_size_12 ht ?_
    exact jr_iret (pc := 15) hX dX13_size_15 rfl
def m_X13_trouble (t : Nat) (σ : jd_Hp) : Option (Int32 × jd_Hp) :=
jd_li (jd_pi σ t 0 0) fun τ1 =>
some ((τ1.2.1 t 1), τ1)
set_option maxHeartbeats 4000000 in
set_option maxRecDepth 20000 in
theorem c_X13_trouble {l : Launch} {s0 : State} {G : jd_G} (hF : jd_F s0 G) (σ : jd_Hp) (t : Nat) (ht : σ.1[t]? = some (13, 29)) : jd_M l s0 G yX13_trouble cX13_trouble 1 (some .int) 0 je_i [jd_v G (some t)] σ (m_X13_trouble t σ) := by
  refine jd_enter hF (by decide) (fun G => [some (jd_v G (some t))]) rfl (by simp [lv_args, jd_al, jd_v_cat, jd_cti, jd_ctl]) (by simp [lg_sl, jd_v_cat, jd_cti, jd_ctl]) (fun X hD hX => ?_)
  have hX : jd_C X RX13 "trouble" cX13_trouble 1 (some .int) := hX
  unfold m_X13_trouble
  refine jr_ald0 (pc := 0) hX dX13_trouble_0 ?_
  refine jr_iconst (pc := 1) hX 0 rfl dX13_trouble_1 ?_
  refine jr_puti (pc := 2) hX fX13_48 rfl dX13_trouble_2 ht ?_
  refine jr_li ?_
  refine jr_ald0 (pc := 5) hX dX13_trouble_5 ?_
  refine jr_geti (pc := 6) hX fX13_51 rfl dX13_trouble_6 ht ?_
  exact jr_iret (pc := 9) hX dX13_trouble_9 rfl
