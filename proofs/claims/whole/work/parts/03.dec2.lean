theorem dX8_load_61 : decode cX8_load 61 = .ok (.iload 5, 2) := by decide +kernel
theorem dX8_load_63 : decode cX8_load 63 = .ok (.iload 4, 2) := by decide +kernel
theorem dX8_load_65 : decode cX8_load 65 = .ok (.if_icmp .ge 44, 3) := by decide +kernel
theorem dX8_load_68 : decode cX8_load 68 = .ok (.aload_n 3, 1) := by decide +kernel
theorem dX8_load_69 : decode cX8_load 69 = .ok (.getfield 273, 3) := by decide +kernel
theorem dX8_load_72 : decode cX8_load 72 = .ok (.iload 5, 2) := by decide +kernel
theorem dX8_load_74 : decode cX8_load 74 = .ok (.iaload, 1) := by decide +kernel
theorem dX8_load_75 : decode cX8_load 75 = .ok (.invokestatic 115, 3) := by decide +kernel
theorem dX8_load_78 : decode cX8_load 78 = .ok (.ifCond .eq 31, 3) := by decide +kernel
theorem dX8_load_81 : decode cX8_load 81 = .ok (.aload_n 0, 1) := by decide +kernel
theorem dX8_load_82 : decode cX8_load 82 = .ok (.getfield 16, 3) := by decide +kernel
theorem dX8_load_85 : decode cX8_load 85 = .ok (.getfield 99, 3) := by decide +kernel
theorem dX8_load_88 : decode cX8_load 88 = .ok (.iload_n 2, 1) := by decide +kernel
theorem dX8_load_89 : decode cX8_load 89 = .ok (.aaload, 1) := by decide +kernel
theorem dX8_load_90 : decode cX8_load 90 = .ok (.getfield 118, 3) := by decide +kernel
theorem dX8_load_93 : decode cX8_load 93 = .ok (.iload 5, 2) := by decide +kernel
theorem dX8_load_95 : decode cX8_load 95 = .ok (.aload_n 3, 1) := by decide +kernel
theorem dX8_load_96 : decode cX8_load 96 = .ok (.getfield 273, 3) := by decide +kernel
theorem dX8_load_99 : decode cX8_load 99 = .ok (.iload 5, 2) := by decide +kernel
theorem dX8_load_101 : decode cX8_load 101 = .ok (.iaload, 1) := by decide +kernel
theorem dX8_load_102 : decode cX8_load 102 = .ok (.iastore, 1) := by decide +kernel
theorem dX8_load_103 : decode cX8_load 103 = .ok (.iinc 5 1, 3) := by decide +kernel
theorem dX8_load_106 : decode cX8_load 106 = .ok (.goto (-45), 3) := by decide +kernel
theorem dX8_load_109 : decode cX8_load 109 = .ok (.iload 5, 2) := by decide +kernel
theorem dX8_load_111 : decode cX8_load 111 = .ok (.ireturn, 1) := by decide +kernel
theorem dX8_judge_0 : decode cX8_judge 0 = .ok (.iload_n 1, 1) := by decide +kernel
theorem dX8_judge_1 : decode cX8_judge 1 = .ok (.invokestatic 255, 3) := by decide +kernel
theorem dX8_judge_4 : decode cX8_judge 4 = .ok (.ifCond .ne 9, 3) := by decide +kernel
theorem dX8_judge_7 : decode cX8_judge 7 = .ok (.aload_n 0, 1) := by decide +kernel
theorem dX8_judge_8 : decode cX8_judge 8 = .ok (.iconst 0, 1) := by decide +kernel
theorem dX8_judge_9 : decode cX8_judge 9 = .ok (.invokevirtual 78, 3) := by decide +kernel
theorem dX8_judge_12 : decode cX8_judge 12 = .ok (.ireturn, 1) := by decide +kernel
theorem dX8_judge_13 : decode cX8_judge 13 = .ok (.aload_n 0, 1) := by decide +kernel
theorem dX8_judge_14 : decode cX8_judge 14 = .ok (.getfield 61, 3) := by decide +kernel
theorem dX8_judge_17 : decode cX8_judge 17 = .ok (.iload_n 1, 1) := by decide +kernel
theorem dX8_judge_18 : decode cX8_judge 18 = .ok (.aaload, 1) := by decide +kernel
theorem dX8_judge_19 : decode cX8_judge 19 = .ok (.astore_n 2, 1) := by decide +kernel
theorem dX8_judge_20 : decode cX8_judge 20 = .ok (.aload_n 2, 1) := by decide +kernel
theorem dX8_judge_21 : decode cX8_judge 21 = .ok (.invokevirtual 262, 3) := by decide +kernel
theorem dX8_judge_24 : decode cX8_judge 24 = .ok (.ifCond .eq 9, 3) := by decide +kernel
theorem dX8_judge_27 : decode cX8_judge 27 = .ok (.aload_n 0, 1) := by decide +kernel
theorem dX8_judge_28 : decode cX8_judge 28 = .ok (.iconst 5, 1) := by decide +kernel
theorem dX8_judge_29 : decode cX8_judge 29 = .ok (.invokevirtual 78, 3) := by decide +kernel
theorem dX8_judge_32 : decode cX8_judge 32 = .ok (.ireturn, 1) := by decide +kernel
theorem dX8_judge_33 : decode cX8_judge 33 = .ok (.aload_n 0, 1) := by decide +kernel
theorem dX8_judge_34 : decode cX8_judge 34 = .ok (.getfield 23, 3) := by decide +kernel
theorem dX8_judge_37 : decode cX8_judge 37 = .ok (.aload_n 0, 1) := by decide +kernel
theorem dX8_judge_38 : decode cX8_judge 38 = .ok (.getfield 16, 3) := by decide +kernel
theorem dX8_judge_41 : decode cX8_judge 41 = .ok (.invokevirtual 151, 3) := by decide +kernel
theorem dX8_judge_44 : decode cX8_judge 44 = .ok (.iconst 0, 1) := by decide +kernel
theorem dX8_judge_45 : decode cX8_judge 45 = .ok (.istore_n 3, 1) := by decide +kernel
theorem dX8_judge_46 : decode cX8_judge 46 = .ok (.iload_n 3, 1) := by decide +kernel
theorem dX8_judge_47 : decode cX8_judge 47 = .ok (.aload_n 2, 1) := by decide +kernel
theorem dX8_judge_48 : decode cX8_judge 48 = .ok (.getfield 261, 3) := by decide +kernel
theorem dX8_judge_51 : decode cX8_judge 51 = .ok (.if_icmp .ge 48, 3) := by decide +kernel
theorem dX8_judge_54 : decode cX8_judge 54 = .ok (.aload_n 0, 1) := by decide +kernel
theorem dX8_judge_55 : decode cX8_judge 55 = .ok (.getfield 23, 3) := by decide +kernel
theorem dX8_judge_58 : decode cX8_judge 58 = .ok (.invokevirtual 141, 3) := by decide +kernel
theorem dX8_judge_61 : decode cX8_judge 61 = .ok (.istore 4, 2) := by decide +kernel
theorem dX8_judge_63 : decode cX8_judge 63 = .ok (.iload 4, 2) := by decide +kernel
theorem dX8_judge_65 : decode cX8_judge 65 = .ok (.ifCond .lt 14, 3) := by decide +kernel
theorem dX8_judge_68 : decode cX8_judge 68 = .ok (.iload 4, 2) := by decide +kernel
theorem dX8_judge_70 : decode cX8_judge 70 = .ok (.aload_n 2, 1) := by decide +kernel
theorem dX8_judge_71 : decode cX8_judge 71 = .ok (.getfield 273, 3) := by decide +kernel
theorem dX8_judge_74 : decode cX8_judge 74 = .ok (.iload_n 3, 1) := by decide +kernel
theorem dX8_judge_75 : decode cX8_judge 75 = .ok (.iaload, 1) := by decide +kernel
theorem dX8_judge_76 : decode cX8_judge 76 = .ok (.if_icmp .eq 7, 3) := by decide +kernel
theorem dX8_judge_79 : decode cX8_judge 79 = .ok (.iconst 1, 1) := by decide +kernel
theorem dX8_judge_80 : decode cX8_judge 80 = .ok (.iload_n 3, 1) := by decide +kernel
theorem dX8_judge_81 : decode cX8_judge 81 = .ok (.iadd, 1) := by decide +kernel
theorem dX8_judge_82 : decode cX8_judge 82 = .ok (.ireturn, 1) := by decide +kernel
theorem dX8_judge_83 : decode cX8_judge 83 = .ok (.aload_n 0, 1) := by decide +kernel
theorem dX8_judge_84 : decode cX8_judge 84 = .ok (.getfield 23, 3) := by decide +kernel
theorem dX8_judge_87 : decode cX8_judge 87 = .ok (.iload 4, 2) := by decide +kernel
theorem dX8_judge_89 : decode cX8_judge 89 = .ok (.invokevirtual 285, 3) := by decide +kernel
theorem dX8_judge_92 : decode cX8_judge 92 = .ok (.pop, 1) := by decide +kernel
theorem dX8_judge_93 : decode cX8_judge 93 = .ok (.iinc 3 1, 3) := by decide +kernel
theorem dX8_judge_96 : decode cX8_judge 96 = .ok (.goto (-50), 3) := by decide +kernel
theorem dX8_judge_99 : decode cX8_judge 99 = .ok (.iconst 0, 1) := by decide +kernel
theorem dX8_judge_100 : decode cX8_judge 100 = .ok (.ireturn, 1) := by decide +kernel
theorem dX8_image_0 : decode cX8_image 0 = .ok (.aload_n 0, 1) := by decide +kernel
theorem dX8_image_1 : decode cX8_image 1 = .ok (.getfield 20, 3) := by decide +kernel
theorem dX8_image_4 : decode cX8_image 4 = .ok (.aload_n 0, 1) := by decide +kernel
theorem dX8_image_5 : decode cX8_image 5 = .ok (.getfield 16, 3) := by decide +kernel
theorem dX8_image_8 : decode cX8_image 8 = .ok (.invokevirtual 151, 3) := by decide +kernel
theorem dX8_image_11 : decode cX8_image 11 = .ok (.aload_n 0, 1) := by decide +kernel
theorem dX8_image_12 : decode cX8_image 12 = .ok (.iconst 1, 1) := by decide +kernel
theorem dX8_image_13 : decode cX8_image 13 = .ok (.putfield 65, 3) := by decide +kernel
theorem dX8_image_16 : decode cX8_image 16 = .ok (.iconst 1, 1) := by decide +kernel
theorem dX8_image_17 : decode cX8_image 17 = .ok (.ireturn, 1) := by decide +kernel
theorem dX8_undo_0 : decode cX8_undo 0 = .ok (.aload_n 0, 1) := by decide +kernel
theorem dX8_undo_1 : decode cX8_undo 1 = .ok (.getfield 65, 3) := by decide +kernel
theorem dX8_undo_4 : decode cX8_undo 4 = .ok (.ifCond .ne 9, 3) := by decide +kernel
theorem dX8_undo_7 : decode cX8_undo 7 = .ok (.aload_n 0, 1) := by decide +kernel
theorem dX8_undo_8 : decode cX8_undo 8 = .ok (.iconst 3, 1) := by decide +kernel
theorem dX8_undo_9 : decode cX8_undo 9 = .ok (.invokevirtual 78, 3) := by decide +kernel
theorem dX8_undo_12 : decode cX8_undo 12 = .ok (.ireturn, 1) := by decide +kernel
theorem dX8_undo_13 : decode cX8_undo 13 = .ok (.aload_n 0, 1) := by decide +kernel
theorem dX8_undo_14 : decode cX8_undo 14 = .ok (.getfield 16, 3) := by decide +kernel
theorem dX8_undo_17 : decode cX8_undo 17 = .ok (.aload_n 0, 1) := by decide +kernel
theorem dX8_undo_18 : decode cX8_undo 18 = .ok (.getfield 20, 3) := by decide +kernel
theorem dX8_undo_21 : decode cX8_undo 21 = .ok (.invokevirtual 151, 3) := by decide +kernel
theorem dX8_undo_24 : decode cX8_undo 24 = .ok (.aload_n 0, 1) := by decide +kernel
theorem dX8_undo_25 : decode cX8_undo 25 = .ok (.getfield 16, 3) := by decide +kernel
theorem dX8_undo_28 : decode cX8_undo 28 = .ok (.getfield 89, 3) := by decide +kernel
theorem dX8_undo_31 : decode cX8_undo 31 = .ok (.ireturn, 1) := by decide +kernel
theorem dX8_tear_0 : decode cX8_tear 0 = .ok (.aload_n 0, 1) := by decide +kernel
theorem dX8_tear_1 : decode cX8_tear 1 = .ok (.getfield 65, 3) := by decide +kernel
theorem dX8_tear_4 : decode cX8_tear 4 = .ok (.ifCond .eq 7, 3) := by decide +kernel
theorem dX8_tear_7 : decode cX8_tear 7 = .ok (.iconst 1, 1) := by decide +kernel
theorem dX8_tear_8 : decode cX8_tear 8 = .ok (.goto 4, 3) := by decide +kernel
theorem dX8_tear_11 : decode cX8_tear 11 = .ok (.iconst 0, 1) := by decide +kernel
theorem dX8_tear_12 : decode cX8_tear 12 = .ok (.istore_n 1, 1) := by decide +kernel
theorem dX8_tear_13 : decode cX8_tear 13 = .ok (.aload_n 0, 1) := by decide +kernel
theorem dX8_tear_14 : decode cX8_tear 14 = .ok (.iconst 0, 1) := by decide +kernel
theorem dX8_tear_15 : decode cX8_tear 15 = .ok (.putfield 65, 3) := by decide +kernel
theorem dX8_tear_18 : decode cX8_tear 18 = .ok (.iload_n 1, 1) := by decide +kernel
theorem dX8_tear_19 : decode cX8_tear 19 = .ok (.ireturn, 1) := by decide +kernel
theorem dX8_count_0 : decode cX8_count 0 = .ok (.iload_n 1, 1) := by decide +kernel
theorem dX8_count_1 : decode cX8_count 1 = .ok (.tableswitch 114 0 7 #[47, 55, 66, 74, 82, 90, 98, 106], 47) := by decide +kernel
theorem dX8_count_48 : decode cX8_count 48 = .ok (.aload_n 0, 1) := by decide +kernel
theorem dX8_count_49 : decode cX8_count 49 = .ok (.getfield 16, 3) := by decide +kernel
theorem dX8_count_52 : decode cX8_count 52 = .ok (.getfield 89, 3) := by decide +kernel
theorem dX8_count_55 : decode cX8_count 55 = .ok (.ireturn, 1) := by decide +kernel
theorem dX8_count_56 : decode cX8_count 56 = .ok (.aload_n 0, 1) := by decide +kernel
theorem dX8_count_57 : decode cX8_count 57 = .ok (.getfield 16, 3) := by decide +kernel
theorem dX8_count_60 : decode cX8_count 60 = .ok (.invokevirtual 155, 3) := by decide +kernel
theorem dX8_count_63 : decode cX8_count 63 = .ok (.invokestatic 288, 3) := by decide +kernel
theorem dX8_count_66 : decode cX8_count 66 = .ok (.ireturn, 1) := by decide +kernel
theorem dX8_count_67 : decode cX8_count 67 = .ok (.aload_n 0, 1) := by decide +kernel
theorem dX8_count_68 : decode cX8_count 68 = .ok (.getfield 16, 3) := by decide +kernel
theorem dX8_count_71 : decode cX8_count 71 = .ok (.invokevirtual 293, 3) := by decide +kernel
theorem dX8_count_74 : decode cX8_count 74 = .ok (.ireturn, 1) := by decide +kernel
theorem dX8_count_75 : decode cX8_count 75 = .ok (.aload_n 0, 1) := by decide +kernel
theorem dX8_count_76 : decode cX8_count 76 = .ok (.getfield 16, 3) := by decide +kernel
theorem dX8_count_79 : decode cX8_count 79 = .ok (.invokevirtual 234, 3) := by decide +kernel
theorem dX8_count_82 : decode cX8_count 82 = .ok (.ireturn, 1) := by decide +kernel
theorem dX8_count_83 : decode cX8_count 83 = .ok (.aload_n 0, 1) := by decide +kernel
theorem dX8_count_84 : decode cX8_count 84 = .ok (.getfield 16, 3) := by decide +kernel
theorem dX8_count_87 : decode cX8_count 87 = .ok (.getfield 85, 3) := by decide +kernel
theorem dX8_count_90 : decode cX8_count 90 = .ok (.ireturn, 1) := by decide +kernel
theorem dX8_count_91 : decode cX8_count 91 = .ok (.aload_n 0, 1) := by decide +kernel
theorem dX8_count_92 : decode cX8_count 92 = .ok (.getfield 58, 3) := by decide +kernel
theorem dX8_count_95 : decode cX8_count 95 = .ok (.getfield 237, 3) := by decide +kernel
theorem dX8_count_98 : decode cX8_count 98 = .ok (.ireturn, 1) := by decide +kernel
theorem dX8_count_99 : decode cX8_count 99 = .ok (.aload_n 0, 1) := by decide +kernel
theorem dX8_count_100 : decode cX8_count 100 = .ok (.getfield 16, 3) := by decide +kernel
theorem dX8_count_103 : decode cX8_count 103 = .ok (.getfield 170, 3) := by decide +kernel
theorem dX8_count_106 : decode cX8_count 106 = .ok (.ireturn, 1) := by decide +kernel
theorem dX8_count_107 : decode cX8_count 107 = .ok (.aload_n 0, 1) := by decide +kernel
theorem dX8_count_108 : decode cX8_count 108 = .ok (.getfield 16, 3) := by decide +kernel
theorem dX8_count_111 : decode cX8_count 111 = .ok (.invokevirtual 296, 3) := by decide +kernel
theorem dX8_count_114 : decode cX8_count 114 = .ok (.ireturn, 1) := by decide +kernel
theorem dX8_count_115 : decode cX8_count 115 = .ok (.aload_n 0, 1) := by decide +kernel
theorem dX8_count_116 : decode cX8_count 116 = .ok (.iconst 0, 1) := by decide +kernel
theorem dX8_count_117 : decode cX8_count 117 = .ok (.invokevirtual 78, 3) := by decide +kernel
theorem dX8_count_120 : decode cX8_count 120 = .ok (.ireturn, 1) := by decide +kernel
theorem dX8_status_0 : decode cX8_status 0 = .ok (.iload_n 1, 1) := by decide +kernel
theorem dX8_status_1 : decode cX8_status 1 = .ok (.iconst (-1), 1) := by decide +kernel
theorem dX8_status_2 : decode cX8_status 2 = .ok (.bipush 6, 2) := by decide +kernel
theorem dX8_status_4 : decode cX8_status 4 = .ok (.invokestatic 74, 3) := by decide +kernel
theorem dX8_status_7 : decode cX8_status 7 = .ok (.ifCond .ne 9, 3) := by decide +kernel
theorem dX8_status_10 : decode cX8_status 10 = .ok (.aload_n 0, 1) := by decide +kernel
theorem dX8_status_11 : decode cX8_status 11 = .ok (.iconst 0, 1) := by decide +kernel
theorem dX8_status_12 : decode cX8_status 12 = .ok (.invokevirtual 78, 3) := by decide +kernel
theorem dX8_status_15 : decode cX8_status 15 = .ok (.ireturn, 1) := by decide +kernel
theorem dX8_status_16 : decode cX8_status 16 = .ok (.iload_n 1, 1) := by decide +kernel
theorem dX8_status_17 : decode cX8_status 17 = .ok (.ifCond .lt 10, 3) := by decide +kernel
theorem dX8_status_20 : decode cX8_status 20 = .ok (.aload_n 0, 1) := by decide +kernel
theorem dX8_status_21 : decode cX8_status 21 = .ok (.getfield 9, 3) := by decide +kernel
theorem dX8_status_24 : decode cX8_status 24 = .ok (.iload_n 1, 1) := by decide +kernel
theorem dX8_status_25 : decode cX8_status 25 = .ok (.iaload, 1) := by decide +kernel
theorem dX8_status_26 : decode cX8_status 26 = .ok (.ireturn, 1) := by decide +kernel
theorem dX8_status_27 : decode cX8_status 27 = .ok (.iconst 0, 1) := by decide +kernel
theorem dX8_status_28 : decode cX8_status 28 = .ok (.istore_n 2, 1) := by decide +kernel
theorem dX8_status_29 : decode cX8_status 29 = .ok (.iconst 0, 1) := by decide +kernel
theorem dX8_status_30 : decode cX8_status 30 = .ok (.istore_n 3, 1) := by decide +kernel
theorem dX8_status_31 : decode cX8_status 31 = .ok (.iload_n 3, 1) := by decide +kernel
theorem dX8_status_32 : decode cX8_status 32 = .ok (.bipush 7, 2) := by decide +kernel
theorem dX8_status_34 : decode cX8_status 34 = .ok (.if_icmp .ge 18, 3) := by decide +kernel
theorem dX8_status_37 : decode cX8_status 37 = .ok (.iload_n 2, 1) := by decide +kernel
theorem dX8_status_38 : decode cX8_status 38 = .ok (.aload_n 0, 1) := by decide +kernel
theorem dX8_status_39 : decode cX8_status 39 = .ok (.getfield 9, 3) := by decide +kernel
theorem dX8_status_42 : decode cX8_status 42 = .ok (.iload_n 3, 1) := by decide +kernel
theorem dX8_status_43 : decode cX8_status 43 = .ok (.iaload, 1) := by decide +kernel
theorem dX8_status_44 : decode cX8_status 44 = .ok (.iadd, 1) := by decide +kernel
theorem dX8_status_45 : decode cX8_status 45 = .ok (.istore_n 2, 1) := by decide +kernel
theorem dX8_status_46 : decode cX8_status 46 = .ok (.iinc 3 1, 3) := by decide +kernel
theorem dX8_status_49 : decode cX8_status 49 = .ok (.goto (-18), 3) := by decide +kernel
theorem dX8_status_52 : decode cX8_status 52 = .ok (.iload_n 2, 1) := by decide +kernel
theorem dX8_status_53 : decode cX8_status 53 = .ok (.ireturn, 1) := by decide +kernel
theorem dX8_found_0 : decode cX8_found 0 = .ok (.aload_n 0, 1) := by decide +kernel
theorem dX8_found_1 : decode cX8_found 1 = .ok (.getfield 9, 3) := by decide +kernel
theorem dX8_found_4 : decode cX8_found 4 = .ok (.iload_n 1, 1) := by decide +kernel
theorem dX8_found_5 : decode cX8_found 5 = .ok (.dup2, 1) := by decide +kernel
theorem dX8_found_6 : decode cX8_found 6 = .ok (.iaload, 1) := by decide +kernel
theorem dX8_found_7 : decode cX8_found 7 = .ok (.iconst 1, 1) := by decide +kernel
theorem dX8_found_8 : decode cX8_found 8 = .ok (.iadd, 1) := by decide +kernel
theorem dX8_found_9 : decode cX8_found 9 = .ok (.iastore, 1) := by decide +kernel
theorem dX8_found_10 : decode cX8_found 10 = .ok (.ldc_w 299, 3) := by decide +kernel
theorem dX8_found_13 : decode cX8_found 13 = .ok (.iload_n 1, 1) := by decide +kernel
theorem dX8_found_14 : decode cX8_found 14 = .ok (.isub, 1) := by decide +kernel
theorem dX8_found_15 : decode cX8_found 15 = .ok (.ireturn, 1) := by decide +kernel
theorem dX8_within_0 : decode cX8_within 0 = .ok (.iload_n 0, 1) := by decide +kernel
theorem dX8_within_1 : decode cX8_within 1 = .ok (.iload_n 1, 1) := by decide +kernel
theorem dX8_within_2 : decode cX8_within 2 = .ok (.if_icmp .lt 12, 3) := by decide +kernel
theorem dX8_within_5 : decode cX8_within 5 = .ok (.iload_n 0, 1) := by decide +kernel
theorem dX8_within_6 : decode cX8_within 6 = .ok (.iload_n 2, 1) := by decide +kernel
theorem dX8_within_7 : decode cX8_within 7 = .ok (.if_icmp .gt 7, 3) := by decide +kernel
theorem dX8_within_10 : decode cX8_within 10 = .ok (.iconst 1, 1) := by decide +kernel
theorem dX8_within_11 : decode cX8_within 11 = .ok (.goto 4, 3) := by decide +kernel
theorem dX8_within_14 : decode cX8_within 14 = .ok (.iconst 0, 1) := by decide +kernel
theorem dX8_within_15 : decode cX8_within 15 = .ok (.ireturn, 1) := by decide +kernel
theorem dX8_isYard_0 : decode cX8_isYard 0 = .ok (.iload_n 0, 1) := by decide +kernel
theorem dX8_isYard_1 : decode cX8_isYard 1 = .ok (.iconst 0, 1) := by decide +kernel
theorem dX8_isYard_2 : decode cX8_isYard 2 = .ok (.bipush 29, 2) := by decide +kernel
theorem dX8_isYard_4 : decode cX8_isYard 4 = .ok (.invokestatic 74, 3) := by decide +kernel
theorem dX8_isYard_7 : decode cX8_isYard 7 = .ok (.ireturn, 1) := by decide +kernel
theorem dX8_isPace_0 : decode cX8_isPace 0 = .ok (.iload_n 0, 1) := by decide +kernel
theorem dX8_isPace_1 : decode cX8_isPace 1 = .ok (.iconst 1, 1) := by decide +kernel
theorem dX8_isPace_2 : decode cX8_isPace 2 = .ok (.bipush 9, 2) := by decide +kernel
theorem dX8_isPace_4 : decode cX8_isPace 4 = .ok (.invokestatic 74, 3) := by decide +kernel
theorem dX8_isPace_7 : decode cX8_isPace 7 = .ok (.ireturn, 1) := by decide +kernel
theorem dX8_isSpot_0 : decode cX8_isSpot 0 = .ok (.iload_n 0, 1) := by decide +kernel
theorem dX8_isSpot_1 : decode cX8_isSpot 1 = .ok (.iconst 0, 1) := by decide +kernel
theorem dX8_isSpot_2 : decode cX8_isSpot 2 = .ok (.bipush 9, 2) := by decide +kernel
theorem dX8_isSpot_4 : decode cX8_isSpot 4 = .ok (.invokestatic 74, 3) := by decide +kernel
theorem dX8_isSpot_7 : decode cX8_isSpot 7 = .ok (.ireturn, 1) := by decide +kernel
theorem dX8_isSheet_0 : decode cX8_isSheet 0 = .ok (.iload_n 0, 1) := by decide +kernel
theorem dX8_isSheet_1 : decode cX8_isSheet 1 = .ok (.iconst 0, 1) := by decide +kernel
theorem dX8_isSheet_2 : decode cX8_isSheet 2 = .ok (.iconst 3, 1) := by decide +kernel
theorem dX8_isSheet_3 : decode cX8_isSheet 3 = .ok (.invokestatic 74, 3) := by decide +kernel
theorem dX8_isSheet_6 : decode cX8_isSheet 6 = .ok (.ireturn, 1) := by decide +kernel
theorem dX8_isRunner_0 : decode cX8_isRunner 0 = .ok (.iload_n 1, 1) := by decide +kernel
theorem dX8_isRunner_1 : decode cX8_isRunner 1 = .ok (.iconst 0, 1) := by decide +kernel
theorem dX8_isRunner_2 : decode cX8_isRunner 2 = .ok (.aload_n 0, 1) := by decide +kernel
theorem dX8_isRunner_3 : decode cX8_isRunner 3 = .ok (.getfield 16, 3) := by decide +kernel
theorem dX8_isRunner_6 : decode cX8_isRunner 6 = .ok (.getfield 89, 3) := by decide +kernel
theorem dX8_isRunner_9 : decode cX8_isRunner 9 = .ok (.iconst 1, 1) := by decide +kernel
theorem dX8_isRunner_10 : decode cX8_isRunner 10 = .ok (.isub, 1) := by decide +kernel
theorem dX8_isRunner_11 : decode cX8_isRunner 11 = .ok (.invokestatic 74, 3) := by decide +kernel
theorem dX8_isRunner_14 : decode cX8_isRunner 14 = .ok (.ireturn, 1) := by decide +kernel
theorem dX8_isStretch_0 : decode cX8_isStretch 0 = .ok (.aload_n 0, 1) := by decide +kernel
theorem dX8_isStretch_1 : decode cX8_isStretch 1 = .ok (.iload_n 1, 1) := by decide +kernel
theorem dX8_isStretch_2 : decode cX8_isStretch 2 = .ok (.invokevirtual 96, 3) := by decide +kernel
theorem dX8_isStretch_5 : decode cX8_isStretch 5 = .ok (.ifCond .eq 26, 3) := by decide +kernel
theorem dX8_isStretch_8 : decode cX8_isStretch 8 = .ok (.iload_n 2, 1) := by decide +kernel
theorem dX8_isStretch_9 : decode cX8_isStretch 9 = .ok (.invokestatic 70, 3) := by decide +kernel
theorem dX8_isStretch_12 : decode cX8_isStretch 12 = .ok (.ifCond .eq 19, 3) := by decide +kernel
theorem dX8_isStretch_15 : decode cX8_isStretch 15 = .ok (.iload_n 3, 1) := by decide +kernel
theorem dX8_isStretch_16 : decode cX8_isStretch 16 = .ok (.iconst 0, 1) := by decide +kernel
theorem dX8_isStretch_17 : decode cX8_isStretch 17 = .ok (.bipush 30, 2) := by decide +kernel
theorem dX8_isStretch_19 : decode cX8_isStretch 19 = .ok (.iload_n 2, 1) := by decide +kernel
theorem dX8_isStretch_20 : decode cX8_isStretch 20 = .ok (.isub, 1) := by decide +kernel
theorem dX8_isStretch_21 : decode cX8_isStretch 21 = .ok (.invokestatic 74, 3) := by decide +kernel
theorem dX8_isStretch_24 : decode cX8_isStretch 24 = .ok (.ifCond .eq 7, 3) := by decide +kernel
theorem dX8_isStretch_27 : decode cX8_isStretch 27 = .ok (.iconst 1, 1) := by decide +kernel
theorem dX8_isStretch_28 : decode cX8_isStretch 28 = .ok (.goto 4, 3) := by decide +kernel
theorem dX8_isStretch_31 : decode cX8_isStretch 31 = .ok (.iconst 0, 1) := by decide +kernel
theorem dX8_isStretch_32 : decode cX8_isStretch 32 = .ok (.ireturn, 1) := by decide +kernel
theorem dX8_isTeamSet_0 : decode cX8_isTeamSet 0 = .ok (.iload_n 1, 1) := by decide +kernel
theorem dX8_isTeamSet_1 : decode cX8_isTeamSet 1 = .ok (.ifCond .lt 27, 3) := by decide +kernel
theorem dX8_isTeamSet_4 : decode cX8_isTeamSet 4 = .ok (.iload_n 1, 1) := by decide +kernel
theorem dX8_isTeamSet_5 : decode cX8_isTeamSet 5 = .ok (.aload_n 0, 1) := by decide +kernel
theorem dX8_isTeamSet_6 : decode cX8_isTeamSet 6 = .ok (.getfield 16, 3) := by decide +kernel
theorem dX8_isTeamSet_9 : decode cX8_isTeamSet 9 = .ok (.getfield 89, 3) := by decide +kernel
theorem dX8_isTeamSet_12 : decode cX8_isTeamSet 12 = .ok (.ishr, 1) := by decide +kernel
theorem dX8_isTeamSet_13 : decode cX8_isTeamSet 13 = .ok (.ifCond .ne 15, 3) := by decide +kernel
theorem dX8_isTeamSet_16 : decode cX8_isTeamSet 16 = .ok (.iload_n 1, 1) := by decide +kernel
theorem dX8_isTeamSet_17 : decode cX8_isTeamSet 17 = .ok (.invokestatic 288, 3) := by decide +kernel
theorem dX8_isTeamSet_20 : decode cX8_isTeamSet 20 = .ok (.iconst 3, 1) := by decide +kernel
theorem dX8_isTeamSet_21 : decode cX8_isTeamSet 21 = .ok (.if_icmp .lt 7, 3) := by decide +kernel
theorem dX8_isTeamSet_24 : decode cX8_isTeamSet 24 = .ok (.iconst 1, 1) := by decide +kernel
theorem dX8_isTeamSet_25 : decode cX8_isTeamSet 25 = .ok (.goto 4, 3) := by decide +kernel
theorem dX8_isTeamSet_28 : decode cX8_isTeamSet 28 = .ok (.iconst 0, 1) := by decide +kernel
theorem dX8_isTeamSet_29 : decode cX8_isTeamSet 29 = .ok (.ireturn, 1) := by decide +kernel
theorem dX8_runAllHome_0 : decode cX8_runAllHome 0 = .ok (.aload_n 0, 1) := by decide +kernel
theorem dX8_runAllHome_1 : decode cX8_runAllHome 1 = .ok (.getfield 23, 3) := by decide +kernel
theorem dX8_runAllHome_4 : decode cX8_runAllHome 4 = .ok (.aload_n 0, 1) := by decide +kernel
theorem dX8_runAllHome_5 : decode cX8_runAllHome 5 = .ok (.getfield 16, 3) := by decide +kernel
theorem dX8_runAllHome_8 : decode cX8_runAllHome 8 = .ok (.invokevirtual 151, 3) := by decide +kernel
theorem dX8_runAllHome_11 : decode cX8_runAllHome 11 = .ok (.aload_n 0, 1) := by decide +kernel
theorem dX8_runAllHome_12 : decode cX8_runAllHome 12 = .ok (.getfield 23, 3) := by decide +kernel
theorem dX8_runAllHome_15 : decode cX8_runAllHome 15 = .ok (.sipush 180, 3) := by decide +kernel
theorem dX8_runAllHome_18 : decode cX8_runAllHome 18 = .ok (.invokevirtual 145, 3) := by decide +kernel
theorem dX8_runAllHome_21 : decode cX8_runAllHome 21 = .ok (.pop, 1) := by decide +kernel
theorem dX8_runAllHome_22 : decode cX8_runAllHome 22 = .ok (.return_, 1) := by decide +kernel
theorem dX8_tryGum_0 : decode cX8_tryGum 0 = .ok (.aload_n 0, 1) := by decide +kernel
theorem dX8_tryGum_1 : decode cX8_tryGum 1 = .ok (.getfield 23, 3) := by decide +kernel
theorem dX8_tryGum_4 : decode cX8_tryGum 4 = .ok (.aload_n 0, 1) := by decide +kernel
theorem dX8_tryGum_5 : decode cX8_tryGum 5 = .ok (.getfield 16, 3) := by decide +kernel
theorem dX8_tryGum_8 : decode cX8_tryGum 8 = .ok (.invokevirtual 151, 3) := by decide +kernel
theorem dX8_tryGum_11 : decode cX8_tryGum 11 = .ok (.aload_n 0, 1) := by decide +kernel
theorem dX8_tryGum_12 : decode cX8_tryGum 12 = .ok (.getfield 23, 3) := by decide +kernel
theorem dX8_tryGum_15 : decode cX8_tryGum 15 = .ok (.getfield 99, 3) := by decide +kernel
theorem dX8_tryGum_18 : decode cX8_tryGum 18 = .ok (.iload_n 1, 1) := by decide +kernel
theorem dX8_tryGum_19 : decode cX8_tryGum 19 = .ok (.aaload, 1) := by decide +kernel
theorem dX8_tryGum_20 : decode cX8_tryGum 20 = .ok (.iconst 5, 1) := by decide +kernel
theorem dX8_tryGum_21 : decode cX8_tryGum 21 = .ok (.putfield 300, 3) := by decide +kernel
theorem dX8_tryGum_24 : decode cX8_tryGum 24 = .ok (.return_, 1) := by decide +kernel
theorem dX8_wholeMean_0 : decode cX8_wholeMean 0 = .ok (.aload_n 0, 1) := by decide +kernel
theorem dX8_wholeMean_1 : decode cX8_wholeMean 1 = .ok (.getfield 29, 3) := by decide +kernel
theorem dX8_wholeMean_4 : decode cX8_wholeMean 4 = .ok (.aload_n 1, 1) := by decide +kernel
theorem dX8_wholeMean_5 : decode cX8_wholeMean 5 = .ok (.iload_n 2, 1) := by decide +kernel
theorem dX8_wholeMean_6 : decode cX8_wholeMean 6 = .ok (.iconst 0, 1) := by decide +kernel
theorem dX8_wholeMean_7 : decode cX8_wholeMean 7 = .ok (.bipush 30, 2) := by decide +kernel
theorem dX8_wholeMean_9 : decode cX8_wholeMean 9 = .ok (.iconst 0, 1) := by decide +kernel
theorem dX8_wholeMean_10 : decode cX8_wholeMean 10 = .ok (.invokevirtual 180, 3) := by decide +kernel
theorem dX8_wholeMean_13 : decode cX8_wholeMean 13 = .ok (.ireturn, 1) := by decide +kernel
theorem dX9_init_0 : decode cX9_init 0 = .ok (.aload_n 0, 1) := by decide +kernel
theorem dX9_init_1 : decode cX9_init 1 = .ok (.invokespecial 3, 3) := by decide +kernel
theorem dX9_init_4 : decode cX9_init 4 = .ok (.aload_n 0, 1) := by decide +kernel
theorem dX9_init_5 : decode cX9_init 5 = .ok (.sipush 265, 3) := by decide +kernel
theorem dX9_init_8 : decode cX9_init 8 = .ok (.newarray .int, 2) := by decide +kernel
theorem dX9_init_10 : decode cX9_init 10 = .ok (.putfield 9, 3) := by decide +kernel
theorem dX9_init_13 : decode cX9_init 13 = .ok (.aload_n 0, 1) := by decide +kernel
theorem dX9_init_14 : decode cX9_init 14 = .ok (.sipush 265, 3) := by decide +kernel
theorem dX9_init_17 : decode cX9_init 17 = .ok (.newarray .int, 2) := by decide +kernel
theorem dX9_init_19 : decode cX9_init 19 = .ok (.putfield 13, 3) := by decide +kernel
theorem dX9_init_22 : decode cX9_init 22 = .ok (.aload_n 0, 1) := by decide +kernel
theorem dX9_init_23 : decode cX9_init 23 = .ok (.sipush 265, 3) := by decide +kernel
theorem dX9_init_26 : decode cX9_init 26 = .ok (.newarray .int, 2) := by decide +kernel
theorem dX9_init_28 : decode cX9_init 28 = .ok (.putfield 16, 3) := by decide +kernel
theorem dX9_init_31 : decode cX9_init 31 = .ok (.aload_n 0, 1) := by decide +kernel
theorem dX9_init_32 : decode cX9_init 32 = .ok (.bipush 7, 2) := by decide +kernel
theorem dX9_init_34 : decode cX9_init 34 = .ok (.newarray .int, 2) := by decide +kernel
theorem dX9_init_36 : decode cX9_init 36 = .ok (.putfield 19, 3) := by decide +kernel
theorem dX9_init_39 : decode cX9_init 39 = .ok (.aload_n 0, 1) := by decide +kernel
theorem dX9_init_40 : decode cX9_init 40 = .ok (.bipush 124, 2) := by decide +kernel
theorem dX9_init_42 : decode cX9_init 42 = .ok (.newarray .int, 2) := by decide +kernel
theorem dX9_init_44 : decode cX9_init 44 = .ok (.putfield 22, 3) := by decide +kernel
theorem dX9_init_47 : decode cX9_init 47 = .ok (.aload_n 0, 1) := by decide +kernel
theorem dX9_init_48 : decode cX9_init 48 = .ok (.bipush 120, 2) := by decide +kernel
theorem dX9_init_50 : decode cX9_init 50 = .ok (.newarray .int, 2) := by decide +kernel
theorem dX9_init_52 : decode cX9_init 52 = .ok (.putfield 25, 3) := by decide +kernel
theorem dX9_init_55 : decode cX9_init 55 = .ok (.aload_n 0, 1) := by decide +kernel
theorem dX9_init_56 : decode cX9_init 56 = .ok (.bipush 18, 2) := by decide +kernel
theorem dX9_init_58 : decode cX9_init 58 = .ok (.newarray .int, 2) := by decide +kernel
theorem dX9_init_60 : decode cX9_init 60 = .ok (.putfield 28, 3) := by decide +kernel
theorem dX9_init_63 : decode cX9_init 63 = .ok (.aload_n 0, 1) := by decide +kernel
theorem dX9_init_64 : decode cX9_init 64 = .ok (.iconst 3, 1) := by decide +kernel
theorem dX9_init_65 : decode cX9_init 65 = .ok (.newarray .int, 2) := by decide +kernel
theorem dX9_init_67 : decode cX9_init 67 = .ok (.putfield 31, 3) := by decide +kernel
theorem dX9_init_70 : decode cX9_init 70 = .ok (.aload_n 0, 1) := by decide +kernel
theorem dX9_init_71 : decode cX9_init 71 = .ok (.bipush 120, 2) := by decide +kernel
theorem dX9_init_73 : decode cX9_init 73 = .ok (.newarray .int, 2) := by decide +kernel
theorem dX9_init_75 : decode cX9_init 75 = .ok (.putfield 34, 3) := by decide +kernel
theorem dX9_init_78 : decode cX9_init 78 = .ok (.aload_n 0, 1) := by decide +kernel
theorem dX9_init_79 : decode cX9_init 79 = .ok (.iconst 4, 1) := by decide +kernel
theorem dX9_init_80 : decode cX9_init 80 = .ok (.newarray .int, 2) := by decide +kernel
theorem dX9_init_82 : decode cX9_init 82 = .ok (.putfield 37, 3) := by decide +kernel
theorem dX9_init_85 : decode cX9_init 85 = .ok (.aload_n 0, 1) := by decide +kernel
theorem dX9_init_86 : decode cX9_init 86 = .ok (.iconst 4, 1) := by decide +kernel
theorem dX9_init_87 : decode cX9_init 87 = .ok (.newarray .int, 2) := by decide +kernel
theorem dX9_init_89 : decode cX9_init 89 = .ok (.putfield 40, 3) := by decide +kernel
theorem dX9_init_92 : decode cX9_init 92 = .ok (.aload_n 0, 1) := by decide +kernel
theorem dX9_init_93 : decode cX9_init 93 = .ok (.sipush 160, 3) := by decide +kernel
theorem dX9_init_96 : decode cX9_init 96 = .ok (.newarray .int, 2) := by decide +kernel
theorem dX9_init_98 : decode cX9_init 98 = .ok (.putfield 43, 3) := by decide +kernel
theorem dX9_init_101 : decode cX9_init 101 = .ok (.aload_n 0, 1) := by decide +kernel
theorem dX9_init_102 : decode cX9_init 102 = .ok (.getfield 9, 3) := by decide +kernel
theorem dX9_init_105 : decode cX9_init 105 = .ok (.iconst 0, 1) := by decide +kernel
theorem dX9_init_106 : decode cX9_init 106 = .ok (.bipush 25, 2) := by decide +kernel
theorem dX9_init_108 : decode cX9_init 108 = .ok (.iastore, 1) := by decide +kernel
theorem dX9_init_109 : decode cX9_init 109 = .ok (.aload_n 0, 1) := by decide +kernel
theorem dX9_init_110 : decode cX9_init 110 = .ok (.getfield 9, 3) := by decide +kernel
theorem dX9_init_113 : decode cX9_init 113 = .ok (.iconst 1, 1) := by decide +kernel
theorem dX9_init_114 : decode cX9_init 114 = .ok (.iconst 1, 1) := by decide +kernel
theorem dX9_init_115 : decode cX9_init 115 = .ok (.iastore, 1) := by decide +kernel
theorem dX9_init_116 : decode cX9_init 116 = .ok (.iconst 0, 1) := by decide +kernel
theorem dX9_init_117 : decode cX9_init 117 = .ok (.istore_n 1, 1) := by decide +kernel
theorem dX9_init_118 : decode cX9_init 118 = .ok (.iload_n 1, 1) := by decide +kernel
theorem dX9_init_119 : decode cX9_init 119 = .ok (.bipush 10, 2) := by decide +kernel
theorem dX9_init_121 : decode cX9_init 121 = .ok (.if_icmp .ge 20, 3) := by decide +kernel
theorem dX9_init_124 : decode cX9_init 124 = .ok (.aload_n 0, 1) := by decide +kernel
theorem dX9_init_125 : decode cX9_init 125 = .ok (.getfield 9, 3) := by decide +kernel
theorem dX9_init_128 : decode cX9_init 128 = .ok (.sipush 255, 3) := by decide +kernel
theorem dX9_init_131 : decode cX9_init 131 = .ok (.iload_n 1, 1) := by decide +kernel
theorem dX9_init_132 : decode cX9_init 132 = .ok (.iadd, 1) := by decide +kernel
theorem dX9_init_133 : decode cX9_init 133 = .ok (.iconst (-1), 1) := by decide +kernel
theorem dX9_init_134 : decode cX9_init 134 = .ok (.iastore, 1) := by decide +kernel
theorem dX9_init_135 : decode cX9_init 135 = .ok (.iinc 1 1, 3) := by decide +kernel
theorem dX9_init_138 : decode cX9_init 138 = .ok (.goto (-20), 3) := by decide +kernel
theorem dX9_init_141 : decode cX9_init 141 = .ok (.return_, 1) := by decide +kernel
theorem dX9_finds_0 : decode cX9_finds 0 = .ok (.aload_n 0, 1) := by decide +kernel
theorem dX9_finds_1 : decode cX9_finds 1 = .ok (.getfield 19, 3) := by decide +kernel
theorem dX9_finds_4 : decode cX9_finds 4 = .ok (.ldc 46, 2) := by decide +kernel
theorem dX9_finds_6 : decode cX9_finds 6 = .ok (.iload_n 1, 1) := by decide +kernel
theorem dX9_finds_7 : decode cX9_finds 7 = .ok (.isub, 1) := by decide +kernel
theorem dX9_finds_8 : decode cX9_finds 8 = .ok (.dup2, 1) := by decide +kernel
theorem dX9_finds_9 : decode cX9_finds 9 = .ok (.iaload, 1) := by decide +kernel
theorem dX9_finds_10 : decode cX9_finds 10 = .ok (.iconst 1, 1) := by decide +kernel
theorem dX9_finds_11 : decode cX9_finds 11 = .ok (.iadd, 1) := by decide +kernel
theorem dX9_finds_12 : decode cX9_finds 12 = .ok (.iastore, 1) := by decide +kernel
theorem dX9_finds_13 : decode cX9_finds 13 = .ok (.iload_n 1, 1) := by decide +kernel
theorem dX9_finds_14 : decode cX9_finds 14 = .ok (.ireturn, 1) := by decide +kernel
theorem dX9_orNone_0 : decode cX9_orNone 0 = .ok (.iload_n 1, 1) := by decide +kernel
theorem dX9_orNone_1 : decode cX9_orNone 1 = .ok (.ifCond .ge 12, 3) := by decide +kernel
theorem dX9_orNone_4 : decode cX9_orNone 4 = .ok (.aload_n 0, 1) := by decide +kernel
theorem dX9_orNone_5 : decode cX9_orNone 5 = .ok (.ldc 47, 2) := by decide +kernel
theorem dX9_orNone_7 : decode cX9_orNone 7 = .ok (.invokevirtual 48, 3) := by decide +kernel
theorem dX9_orNone_10 : decode cX9_orNone 10 = .ok (.goto 4, 3) := by decide +kernel
theorem dX9_orNone_13 : decode cX9_orNone 13 = .ok (.iload_n 1, 1) := by decide +kernel
theorem dX9_orNone_14 : decode cX9_orNone 14 = .ok (.ireturn, 1) := by decide +kernel
theorem dX9_in_0 : decode cX9_in 0 = .ok (.lload_n 0, 1) := by decide +kernel
theorem dX9_in_1 : decode cX9_in 1 = .ok (.lload_n 2, 1) := by decide +kernel
theorem dX9_in_2 : decode cX9_in 2 = .ok (.lcmp, 1) := by decide +kernel
theorem dX9_in_3 : decode cX9_in 3 = .ok (.ifCond .lt 14, 3) := by decide +kernel
theorem dX9_in_6 : decode cX9_in 6 = .ok (.lload_n 0, 1) := by decide +kernel
theorem dX9_in_7 : decode cX9_in 7 = .ok (.lload 4, 2) := by decide +kernel
theorem dX9_in_9 : decode cX9_in 9 = .ok (.lcmp, 1) := by decide +kernel
theorem dX9_in_10 : decode cX9_in 10 = .ok (.ifCond .gt 7, 3) := by decide +kernel
theorem dX9_in_13 : decode cX9_in 13 = .ok (.iconst 1, 1) := by decide +kernel
theorem dX9_in_14 : decode cX9_in 14 = .ok (.goto 4, 3) := by decide +kernel
theorem dX9_in_17 : decode cX9_in 17 = .ok (.iconst 0, 1) := by decide +kernel
theorem dX9_in_18 : decode cX9_in 18 = .ok (.ireturn, 1) := by decide +kernel
theorem dX9_row_0 : decode cX9_row 0 = .ok (.iconst 0, 1) := by decide +kernel
theorem dX9_row_1 : decode cX9_row 1 = .ok (.istore_n 2, 1) := by decide +kernel
theorem dX9_row_2 : decode cX9_row 2 = .ok (.iload_n 2, 1) := by decide +kernel
theorem dX9_row_3 : decode cX9_row 3 = .ok (.sipush 265, 3) := by decide +kernel
theorem dX9_row_6 : decode cX9_row 6 = .ok (.if_icmp .ge 15, 3) := by decide +kernel
theorem dX9_row_9 : decode cX9_row 9 = .ok (.aload_n 1, 1) := by decide +kernel
theorem dX9_row_10 : decode cX9_row 10 = .ok (.iload_n 2, 1) := by decide +kernel
theorem dX9_row_11 : decode cX9_row 11 = .ok (.aload_n 0, 1) := by decide +kernel
theorem dX9_row_12 : decode cX9_row 12 = .ok (.iload_n 2, 1) := by decide +kernel
theorem dX9_row_13 : decode cX9_row 13 = .ok (.iaload, 1) := by decide +kernel
theorem dX9_row_14 : decode cX9_row 14 = .ok (.iastore, 1) := by decide +kernel
theorem dX9_row_15 : decode cX9_row 15 = .ok (.iinc 2 1, 3) := by decide +kernel
theorem dX9_row_18 : decode cX9_row 18 = .ok (.goto (-16), 3) := by decide +kernel
theorem dX9_row_21 : decode cX9_row 21 = .ok (.return_, 1) := by decide +kernel
theorem dX9_becomes_0 : decode cX9_becomes 0 = .ok (.aload_n 0, 1) := by decide +kernel
theorem dX9_becomes_1 : decode cX9_becomes 1 = .ok (.getfield 9, 3) := by decide +kernel
theorem dX9_becomes_4 : decode cX9_becomes 4 = .ok (.iload_n 1, 1) := by decide +kernel
theorem dX9_becomes_5 : decode cX9_becomes 5 = .ok (.iaload, 1) := by decide +kernel
theorem dX9_becomes_6 : decode cX9_becomes 6 = .ok (.istore_n 3, 1) := by decide +kernel
theorem dX9_becomes_7 : decode cX9_becomes 7 = .ok (.aload_n 0, 1) := by decide +kernel
theorem dX9_becomes_8 : decode cX9_becomes 8 = .ok (.getfield 9, 3) := by decide +kernel
theorem dX9_becomes_11 : decode cX9_becomes 11 = .ok (.iload_n 1, 1) := by decide +kernel
theorem dX9_becomes_12 : decode cX9_becomes 12 = .ok (.iload_n 2, 1) := by decide +kernel
theorem dX9_becomes_13 : decode cX9_becomes 13 = .ok (.iastore, 1) := by decide +kernel
theorem dX9_becomes_14 : decode cX9_becomes 14 = .ok (.iload_n 3, 1) := by decide +kernel
theorem dX9_becomes_15 : decode cX9_becomes 15 = .ok (.ireturn, 1) := by decide +kernel
theorem dX9_isYard_0 : decode cX9_isYard 0 = .ok (.iload_n 0, 1) := by decide +kernel
theorem dX9_isYard_1 : decode cX9_isYard 1 = .ok (.i2l, 1) := by decide +kernel
theorem dX9_isYard_2 : decode cX9_isYard 2 = .ok (.lconst 0, 1) := by decide +kernel
theorem dX9_isYard_3 : decode cX9_isYard 3 = .ok (.ldc2_w 52, 3) := by decide +kernel
theorem dX9_isYard_6 : decode cX9_isYard 6 = .ok (.invokestatic 54, 3) := by decide +kernel
theorem dX9_isYard_9 : decode cX9_isYard 9 = .ok (.ireturn, 1) := by decide +kernel
theorem dX9_isPace_0 : decode cX9_isPace 0 = .ok (.iload_n 0, 1) := by decide +kernel
theorem dX9_isPace_1 : decode cX9_isPace 1 = .ok (.i2l, 1) := by decide +kernel
theorem dX9_isPace_2 : decode cX9_isPace 2 = .ok (.lconst 1, 1) := by decide +kernel
theorem dX9_isPace_3 : decode cX9_isPace 3 = .ok (.ldc2_w 58, 3) := by decide +kernel
theorem dX9_isPace_6 : decode cX9_isPace 6 = .ok (.invokestatic 54, 3) := by decide +kernel
theorem dX9_isPace_9 : decode cX9_isPace 9 = .ok (.ireturn, 1) := by decide +kernel
theorem dX9_isKind_0 : decode cX9_isKind 0 = .ok (.iload_n 0, 1) := by decide +kernel
theorem dX9_isKind_1 : decode cX9_isKind 1 = .ok (.i2l, 1) := by decide +kernel
theorem dX9_isKind_2 : decode cX9_isKind 2 = .ok (.lconst 0, 1) := by decide +kernel
theorem dX9_isKind_3 : decode cX9_isKind 3 = .ok (.ldc2_w 60, 3) := by decide +kernel
theorem dX9_isKind_6 : decode cX9_isKind 6 = .ok (.invokestatic 54, 3) := by decide +kernel
theorem dX9_isKind_9 : decode cX9_isKind 9 = .ok (.ireturn, 1) := by decide +kernel
theorem dX9_isRunner_0 : decode cX9_isRunner 0 = .ok (.iload_n 1, 1) := by decide +kernel
theorem dX9_isRunner_1 : decode cX9_isRunner 1 = .ok (.i2l, 1) := by decide +kernel
theorem dX9_isRunner_2 : decode cX9_isRunner 2 = .ok (.lconst 0, 1) := by decide +kernel
theorem dX9_isRunner_3 : decode cX9_isRunner 3 = .ok (.aload_n 0, 1) := by decide +kernel
theorem dX9_isRunner_4 : decode cX9_isRunner 4 = .ok (.getfield 9, 3) := by decide +kernel
theorem dX9_isRunner_7 : decode cX9_isRunner 7 = .ok (.iconst 2, 1) := by decide +kernel
theorem dX9_isRunner_8 : decode cX9_isRunner 8 = .ok (.iaload, 1) := by decide +kernel
theorem dX9_isRunner_9 : decode cX9_isRunner 9 = .ok (.iconst 1, 1) := by decide +kernel
theorem dX9_isRunner_10 : decode cX9_isRunner 10 = .ok (.isub, 1) := by decide +kernel
theorem dX9_isRunner_11 : decode cX9_isRunner 11 = .ok (.i2l, 1) := by decide +kernel
theorem dX9_isRunner_12 : decode cX9_isRunner 12 = .ok (.invokestatic 54, 3) := by decide +kernel
theorem dX9_isRunner_15 : decode cX9_isRunner 15 = .ok (.ireturn, 1) := by decide +kernel
theorem dX9_is_0 : decode cX9_is 0 = .ok (.aload_n 0, 1) := by decide +kernel
theorem dX9_is_1 : decode cX9_is 1 = .ok (.getfield 9, 3) := by decide +kernel
theorem dX9_is_4 : decode cX9_is 4 = .ok (.bipush 33, 2) := by decide +kernel
theorem dX9_is_6 : decode cX9_is 6 = .ok (.bipush 37, 2) := by decide +kernel
theorem dX9_is_8 : decode cX9_is 8 = .ok (.iload_n 1, 1) := by decide +kernel
theorem dX9_is_9 : decode cX9_is 9 = .ok (.imul, 1) := by decide +kernel
theorem dX9_is_10 : decode cX9_is 10 = .ok (.iadd, 1) := by decide +kernel
theorem dX9_is_11 : decode cX9_is 11 = .ok (.iload_n 2, 1) := by decide +kernel
theorem dX9_is_12 : decode cX9_is 12 = .ok (.iadd, 1) := by decide +kernel
theorem dX9_is_13 : decode cX9_is 13 = .ok (.iaload, 1) := by decide +kernel
theorem dX9_is_14 : decode cX9_is 14 = .ok (.ireturn, 1) := by decide +kernel
theorem dX9_makes_0 : decode cX9_makes 0 = .ok (.aload_n 0, 1) := by decide +kernel
theorem dX9_makes_1 : decode cX9_makes 1 = .ok (.getfield 9, 3) := by decide +kernel
theorem dX9_makes_4 : decode cX9_makes 4 = .ok (.bipush 33, 2) := by decide +kernel
theorem dX9_makes_6 : decode cX9_makes 6 = .ok (.bipush 37, 2) := by decide +kernel
theorem dX9_makes_8 : decode cX9_makes 8 = .ok (.iload_n 1, 1) := by decide +kernel
theorem dX9_makes_9 : decode cX9_makes 9 = .ok (.imul, 1) := by decide +kernel
theorem dX9_makes_10 : decode cX9_makes 10 = .ok (.iadd, 1) := by decide +kernel
theorem dX9_makes_11 : decode cX9_makes 11 = .ok (.iload_n 2, 1) := by decide +kernel
theorem dX9_makes_12 : decode cX9_makes 12 = .ok (.iadd, 1) := by decide +kernel
theorem dX9_makes_13 : decode cX9_makes 13 = .ok (.iload_n 3, 1) := by decide +kernel
theorem dX9_makes_14 : decode cX9_makes 14 = .ok (.iastore, 1) := by decide +kernel
theorem dX9_makes_15 : decode cX9_makes 15 = .ok (.return_, 1) := by decide +kernel
theorem dX9_isHome_0 : decode cX9_isHome 0 = .ok (.aload_n 0, 1) := by decide +kernel
theorem dX9_isHome_1 : decode cX9_isHome 1 = .ok (.iload_n 1, 1) := by decide +kernel
theorem dX9_isHome_2 : decode cX9_isHome 2 = .ok (.iconst 3, 1) := by decide +kernel
theorem dX9_isHome_3 : decode cX9_isHome 3 = .ok (.invokevirtual 62, 3) := by decide +kernel
theorem dX9_isHome_6 : decode cX9_isHome 6 = .ok (.bipush 30, 2) := by decide +kernel
theorem dX9_isHome_8 : decode cX9_isHome 8 = .ok (.if_icmp .ne 7, 3) := by decide +kernel
theorem dX9_isHome_11 : decode cX9_isHome 11 = .ok (.iconst 1, 1) := by decide +kernel
theorem dX9_isHome_12 : decode cX9_isHome 12 = .ok (.goto 4, 3) := by decide +kernel
theorem dX9_isHome_15 : decode cX9_isHome 15 = .ok (.iconst 0, 1) := by decide +kernel
theorem dX9_isHome_16 : decode cX9_isHome 16 = .ok (.ireturn, 1) := by decide +kernel
theorem dX9_ground_0 : decode cX9_ground 0 = .ok (.iload_n 1, 1) := by decide +kernel
theorem dX9_ground_1 : decode cX9_ground 1 = .ok (.invokestatic 66, 3) := by decide +kernel
theorem dX9_ground_4 : decode cX9_ground 4 = .ok (.ifCond .eq 26, 3) := by decide +kernel
theorem dX9_ground_7 : decode cX9_ground 7 = .ok (.iload_n 2, 1) := by decide +kernel
theorem dX9_ground_8 : decode cX9_ground 8 = .ok (.i2l, 1) := by decide +kernel
theorem dX9_ground_9 : decode cX9_ground 9 = .ok (.lconst 0, 1) := by decide +kernel
theorem dX9_ground_10 : decode cX9_ground 10 = .ok (.ldc2_w 70, 3) := by decide +kernel
theorem dX9_ground_13 : decode cX9_ground 13 = .ok (.invokestatic 54, 3) := by decide +kernel
theorem dX9_ground_16 : decode cX9_ground 16 = .ok (.ifCond .eq 14, 3) := by decide +kernel
theorem dX9_ground_19 : decode cX9_ground 19 = .ok (.aload_n 0, 1) := by decide +kernel
theorem dX9_ground_20 : decode cX9_ground 20 = .ok (.iconst 3, 1) := by decide +kernel
theorem dX9_ground_21 : decode cX9_ground 21 = .ok (.iload_n 1, 1) := by decide +kernel
theorem dX9_ground_22 : decode cX9_ground 22 = .ok (.iadd, 1) := by decide +kernel
theorem dX9_ground_23 : decode cX9_ground 23 = .ok (.iload_n 2, 1) := by decide +kernel
theorem dX9_ground_24 : decode cX9_ground 24 = .ok (.invokevirtual 72, 3) := by decide +kernel
theorem dX9_ground_27 : decode cX9_ground 27 = .ok (.goto 9, 3) := by decide +kernel
theorem dX9_ground_30 : decode cX9_ground 30 = .ok (.aload_n 0, 1) := by decide +kernel
theorem dX9_ground_31 : decode cX9_ground 31 = .ok (.ldc 46, 2) := by decide +kernel
theorem dX9_ground_33 : decode cX9_ground 33 = .ok (.invokevirtual 48, 3) := by decide +kernel
theorem dX9_ground_36 : decode cX9_ground 36 = .ok (.ireturn, 1) := by decide +kernel
theorem dX9_pick_0 : decode cX9_pick 0 = .ok (.iload_n 1, 1) := by decide +kernel
theorem dX9_pick_1 : decode cX9_pick 1 = .ok (.i2l, 1) := by decide +kernel
theorem dX9_pick_2 : decode cX9_pick 2 = .ok (.lconst 0, 1) := by decide +kernel
theorem dX9_pick_3 : decode cX9_pick 3 = .ok (.ldc2_w 75, 3) := by decide +kernel
theorem dX9_pick_6 : decode cX9_pick 6 = .ok (.invokestatic 54, 3) := by decide +kernel
theorem dX9_pick_9 : decode cX9_pick 9 = .ok (.ifCond .eq 12, 3) := by decide +kernel
theorem dX9_pick_12 : decode cX9_pick 12 = .ok (.aload_n 0, 1) := by decide +kernel
theorem dX9_pick_13 : decode cX9_pick 13 = .ok (.iconst 0, 1) := by decide +kernel
theorem dX9_pick_14 : decode cX9_pick 14 = .ok (.iload_n 1, 1) := by decide +kernel
theorem dX9_pick_15 : decode cX9_pick 15 = .ok (.invokevirtual 72, 3) := by decide +kernel
theorem dX9_pick_18 : decode cX9_pick 18 = .ok (.goto 9, 3) := by decide +kernel
theorem dX9_pick_21 : decode cX9_pick 21 = .ok (.aload_n 0, 1) := by decide +kernel
theorem dX9_pick_22 : decode cX9_pick 22 = .ok (.ldc 46, 2) := by decide +kernel
theorem dX9_pick_24 : decode cX9_pick 24 = .ok (.invokevirtual 48, 3) := by decide +kernel
theorem dX9_pick_27 : decode cX9_pick 27 = .ok (.ireturn, 1) := by decide +kernel
theorem dX9_comes_0 : decode cX9_comes 0 = .ok (.aload_n 0, 1) := by decide +kernel
theorem dX9_comes_1 : decode cX9_comes 1 = .ok (.getfield 9, 3) := by decide +kernel
theorem dX9_comes_4 : decode cX9_comes 4 = .ok (.iconst 2, 1) := by decide +kernel
theorem dX9_comes_5 : decode cX9_comes 5 = .ok (.iaload, 1) := by decide +kernel
theorem dX9_comes_6 : decode cX9_comes 6 = .ok (.istore 5, 2) := by decide +kernel
theorem dX9_comes_8 : decode cX9_comes 8 = .ok (.aload_n 0, 1) := by decide +kernel
theorem dX9_comes_9 : decode cX9_comes 9 = .ok (.getfield 9, 3) := by decide +kernel
theorem dX9_comes_12 : decode cX9_comes 12 = .ok (.iconst 2, 1) := by decide +kernel
theorem dX9_comes_13 : decode cX9_comes 13 = .ok (.dup2, 1) := by decide +kernel
theorem dX9_comes_14 : decode cX9_comes 14 = .ok (.iaload, 1) := by decide +kernel
theorem dX9_comes_15 : decode cX9_comes 15 = .ok (.iconst 1, 1) := by decide +kernel
theorem dX9_comes_16 : decode cX9_comes 16 = .ok (.iadd, 1) := by decide +kernel
theorem dX9_comes_17 : decode cX9_comes 17 = .ok (.iastore, 1) := by decide +kernel
theorem dX9_comes_18 : decode cX9_comes 18 = .ok (.iconst 0, 1) := by decide +kernel
theorem dX9_comes_19 : decode cX9_comes 19 = .ok (.istore 6, 2) := by decide +kernel
theorem dX9_comes_21 : decode cX9_comes 21 = .ok (.iload 6, 2) := by decide +kernel
theorem dX9_comes_23 : decode cX9_comes 23 = .ok (.bipush 37, 2) := by decide +kernel
theorem dX9_comes_25 : decode cX9_comes 25 = .ok (.if_icmp .ge 30, 3) := by decide +kernel
theorem dX9_comes_28 : decode cX9_comes 28 = .ok (.aload_n 0, 1) := by decide +kernel
theorem dX9_comes_29 : decode cX9_comes 29 = .ok (.iload 5, 2) := by decide +kernel
theorem dX9_comes_31 : decode cX9_comes 31 = .ok (.iload 6, 2) := by decide +kernel
theorem dX9_comes_33 : decode cX9_comes 33 = .ok (.iload 6, 2) := by decide +kernel
theorem dX9_comes_35 : decode cX9_comes 35 = .ok (.bipush 7, 2) := by decide +kernel
theorem dX9_comes_37 : decode cX9_comes 37 = .ok (.if_icmp .ge 7, 3) := by decide +kernel
theorem dX9_comes_40 : decode cX9_comes 40 = .ok (.iconst 0, 1) := by decide +kernel
theorem dX9_comes_41 : decode cX9_comes 41 = .ok (.goto 5, 3) := by decide +kernel
theorem dX9_comes_44 : decode cX9_comes 44 = .ok (.iload 4, 2) := by decide +kernel
theorem dX9_comes_46 : decode cX9_comes 46 = .ok (.invokevirtual 77, 3) := by decide +kernel
theorem dX9_comes_49 : decode cX9_comes 49 = .ok (.iinc 6 1, 3) := by decide +kernel
theorem dX9_comes_52 : decode cX9_comes 52 = .ok (.goto (-31), 3) := by decide +kernel
theorem dX9_comes_55 : decode cX9_comes 55 = .ok (.aload_n 0, 1) := by decide +kernel
theorem dX9_comes_56 : decode cX9_comes 56 = .ok (.iload 5, 2) := by decide +kernel
theorem dX9_comes_58 : decode cX9_comes 58 = .ok (.iconst 0, 1) := by decide +kernel
theorem dX9_comes_59 : decode cX9_comes 59 = .ok (.iload_n 1, 1) := by decide +kernel
theorem dX9_comes_60 : decode cX9_comes 60 = .ok (.invokevirtual 77, 3) := by decide +kernel
theorem dX9_comes_63 : decode cX9_comes 63 = .ok (.aload_n 0, 1) := by decide +kernel
theorem dX9_comes_64 : decode cX9_comes 64 = .ok (.iload 5, 2) := by decide +kernel
theorem dX9_comes_66 : decode cX9_comes 66 = .ok (.iconst 1, 1) := by decide +kernel
theorem dX9_comes_67 : decode cX9_comes 67 = .ok (.iload_n 2, 1) := by decide +kernel
theorem dX9_comes_68 : decode cX9_comes 68 = .ok (.invokevirtual 77, 3) := by decide +kernel
theorem dX9_comes_71 : decode cX9_comes 71 = .ok (.aload_n 0, 1) := by decide +kernel
theorem dX9_comes_72 : decode cX9_comes 72 = .ok (.iload 5, 2) := by decide +kernel
theorem dX9_comes_74 : decode cX9_comes 74 = .ok (.iconst 2, 1) := by decide +kernel
theorem dX9_comes_75 : decode cX9_comes 75 = .ok (.iload_n 3, 1) := by decide +kernel
theorem dX9_comes_76 : decode cX9_comes 76 = .ok (.invokevirtual 77, 3) := by decide +kernel
theorem dX9_comes_79 : decode cX9_comes 79 = .ok (.iload 5, 2) := by decide +kernel
theorem dX9_comes_81 : decode cX9_comes 81 = .ok (.ireturn, 1) := by decide +kernel
theorem dX9_runner_0 : decode cX9_runner 0 = .ok (.iload_n 1, 1) := by decide +kernel
theorem dX9_runner_1 : decode cX9_runner 1 = .ok (.invokestatic 81, 3) := by decide +kernel
theorem dX9_runner_4 : decode cX9_runner 4 = .ok (.ifCond .eq 27, 3) := by decide +kernel
theorem dX9_runner_7 : decode cX9_runner 7 = .ok (.iload_n 2, 1) := by decide +kernel
theorem dX9_runner_8 : decode cX9_runner 8 = .ok (.i2l, 1) := by decide +kernel
theorem dX9_runner_9 : decode cX9_runner 9 = .ok (.lconst 0, 1) := by decide +kernel
theorem dX9_runner_10 : decode cX9_runner 10 = .ok (.ldc2_w 58, 3) := by decide +kernel
theorem dX9_runner_13 : decode cX9_runner 13 = .ok (.invokestatic 54, 3) := by decide +kernel
theorem dX9_runner_16 : decode cX9_runner 16 = .ok (.ifCond .eq 15, 3) := by decide +kernel
theorem dX9_runner_19 : decode cX9_runner 19 = .ok (.iload_n 3, 1) := by decide +kernel
theorem dX9_runner_20 : decode cX9_runner 20 = .ok (.i2l, 1) := by decide +kernel
theorem dX9_runner_21 : decode cX9_runner 21 = .ok (.lconst 0, 1) := by decide +kernel
theorem dX9_runner_22 : decode cX9_runner 22 = .ok (.ldc2_w 84, 3) := by decide +kernel
theorem dX9_runner_25 : decode cX9_runner 25 = .ok (.invokestatic 54, 3) := by decide +kernel
theorem dX9_runner_28 : decode cX9_runner 28 = .ok (.ifCond .ne 10, 3) := by decide +kernel
theorem dX9_runner_31 : decode cX9_runner 31 = .ok (.aload_n 0, 1) := by decide +kernel
theorem dX9_runner_32 : decode cX9_runner 32 = .ok (.ldc 46, 2) := by decide +kernel
theorem dX9_runner_34 : decode cX9_runner 34 = .ok (.invokevirtual 48, 3) := by decide +kernel
theorem dX9_runner_37 : decode cX9_runner 37 = .ok (.ireturn, 1) := by decide +kernel
theorem dX9_runner_38 : decode cX9_runner 38 = .ok (.aload_n 0, 1) := by decide +kernel
theorem dX9_runner_39 : decode cX9_runner 39 = .ok (.getfield 9, 3) := by decide +kernel
theorem dX9_runner_42 : decode cX9_runner 42 = .ok (.iconst 2, 1) := by decide +kernel
theorem dX9_runner_43 : decode cX9_runner 43 = .ok (.iaload, 1) := by decide +kernel
theorem dX9_runner_44 : decode cX9_runner 44 = .ok (.bipush 6, 2) := by decide +kernel
theorem dX9_runner_46 : decode cX9_runner 46 = .ok (.if_icmp .ne 12, 3) := by decide +kernel
theorem dX9_runner_49 : decode cX9_runner 49 = .ok (.aload_n 0, 1) := by decide +kernel
theorem dX9_runner_50 : decode cX9_runner 50 = .ok (.ldc 86, 2) := by decide +kernel
theorem dX9_runner_52 : decode cX9_runner 52 = .ok (.invokevirtual 48, 3) := by decide +kernel
theorem dX9_runner_55 : decode cX9_runner 55 = .ok (.goto 11, 3) := by decide +kernel
theorem dX9_runner_58 : decode cX9_runner 58 = .ok (.aload_n 0, 1) := by decide +kernel
theorem dX9_runner_59 : decode cX9_runner 59 = .ok (.iload_n 1, 1) := by decide +kernel
theorem dX9_runner_60 : decode cX9_runner 60 = .ok (.iload_n 2, 1) := by decide +kernel
theorem dX9_runner_61 : decode cX9_runner 61 = .ok (.iload_n 3, 1) := by decide +kernel
theorem dX9_runner_62 : decode cX9_runner 62 = .ok (.iconst 4, 1) := by decide +kernel
theorem dX9_runner_63 : decode cX9_runner 63 = .ok (.invokevirtual 87, 3) := by decide +kernel
theorem dX9_runner_66 : decode cX9_runner 66 = .ok (.ireturn, 1) := by decide +kernel
theorem dX9_holds_0 : decode cX9_holds 0 = .ok (.aload_n 0, 1) := by decide +kernel
theorem dX9_holds_1 : decode cX9_holds 1 = .ok (.iload_n 1, 1) := by decide +kernel
theorem dX9_holds_2 : decode cX9_holds 2 = .ok (.iconst 1, 1) := by decide +kernel
theorem dX9_holds_3 : decode cX9_holds 3 = .ok (.invokevirtual 62, 3) := by decide +kernel
theorem dX9_holds_6 : decode cX9_holds 6 = .ok (.iconst 2, 1) := by decide +kernel
theorem dX9_holds_7 : decode cX9_holds 7 = .ok (.idiv, 1) := by decide +kernel
theorem dX9_holds_8 : decode cX9_holds 8 = .ok (.aload_n 0, 1) := by decide +kernel
theorem dX9_holds_9 : decode cX9_holds 9 = .ok (.iload_n 1, 1) := by decide +kernel
theorem dX9_holds_10 : decode cX9_holds 10 = .ok (.iconst 2, 1) := by decide +kernel
theorem dX9_holds_11 : decode cX9_holds 11 = .ok (.invokevirtual 62, 3) := by decide +kernel
theorem dX9_holds_14 : decode cX9_holds 14 = .ok (.iadd, 1) := by decide +kernel
theorem dX9_holds_15 : decode cX9_holds 15 = .ok (.istore_n 2, 1) := by decide +kernel
theorem dX9_holds_16 : decode cX9_holds 16 = .ok (.aload_n 0, 1) := by decide +kernel
theorem dX9_holds_17 : decode cX9_holds 17 = .ok (.iload_n 1, 1) := by decide +kernel
theorem dX9_holds_18 : decode cX9_holds 18 = .ok (.iconst 0, 1) := by decide +kernel
theorem dX9_holds_19 : decode cX9_holds 19 = .ok (.invokevirtual 62, 3) := by decide +kernel
theorem dX9_holds_22 : decode cX9_holds 22 = .ok (.tableswitch 51 1 6 #[38, 47, 51, 38, 42, 47], 38) := by decide +kernel
theorem dX9_holds_60 : decode cX9_holds 60 = .ok (.iload_n 2, 1) := by decide +kernel
theorem dX9_holds_61 : decode cX9_holds 61 = .ok (.iconst 2, 1) := by decide +kernel
theorem dX9_holds_62 : decode cX9_holds 62 = .ok (.iadd, 1) := by decide +kernel
theorem dX9_holds_63 : decode cX9_holds 63 = .ok (.ireturn, 1) := by decide +kernel
theorem dX9_holds_64 : decode cX9_holds 64 = .ok (.iload_n 2, 1) := by decide +kernel
theorem dX9_holds_65 : decode cX9_holds 65 = .ok (.bipush 11, 2) := by decide +kernel
theorem dX9_holds_67 : decode cX9_holds 67 = .ok (.iadd, 1) := by decide +kernel
theorem dX9_holds_68 : decode cX9_holds 68 = .ok (.ireturn, 1) := by decide +kernel
theorem dX9_holds_69 : decode cX9_holds 69 = .ok (.iload_n 2, 1) := by decide +kernel
theorem dX9_holds_70 : decode cX9_holds 70 = .ok (.iconst 3, 1) := by decide +kernel
theorem dX9_holds_71 : decode cX9_holds 71 = .ok (.iadd, 1) := by decide +kernel
theorem dX9_holds_72 : decode cX9_holds 72 = .ok (.ireturn, 1) := by decide +kernel
theorem dX9_holds_73 : decode cX9_holds 73 = .ok (.iload_n 2, 1) := by decide +kernel
theorem dX9_holds_74 : decode cX9_holds 74 = .ok (.ireturn, 1) := by decide +kernel
theorem dX9_of_0 : decode cX9_of 0 = .ok (.aload_n 0, 1) := by decide +kernel
theorem dX9_of_1 : decode cX9_of 1 = .ok (.iload_n 1, 1) := by decide +kernel
theorem dX9_of_2 : decode cX9_of 2 = .ok (.invokevirtual 91, 3) := by decide +kernel
theorem dX9_of_5 : decode cX9_of 5 = .ok (.ifCond .eq 15, 3) := by decide +kernel
theorem dX9_of_8 : decode cX9_of 8 = .ok (.iload_n 2, 1) := by decide +kernel
theorem dX9_of_9 : decode cX9_of 9 = .ok (.i2l, 1) := by decide +kernel
theorem dX9_of_10 : decode cX9_of 10 = .ok (.lconst 0, 1) := by decide +kernel
theorem dX9_of_11 : decode cX9_of 11 = .ok (.ldc2_w 94, 3) := by decide +kernel
theorem dX9_of_14 : decode cX9_of 14 = .ok (.invokestatic 54, 3) := by decide +kernel
theorem dX9_of_17 : decode cX9_of 17 = .ok (.ifCond .ne 10, 3) := by decide +kernel
theorem dX9_of_20 : decode cX9_of 20 = .ok (.aload_n 0, 1) := by decide +kernel
theorem dX9_of_21 : decode cX9_of 21 = .ok (.ldc 46, 2) := by decide +kernel
theorem dX9_of_23 : decode cX9_of 23 = .ok (.invokevirtual 48, 3) := by decide +kernel
theorem dX9_of_26 : decode cX9_of 26 = .ok (.ireturn, 1) := by decide +kernel
theorem dX9_of_27 : decode cX9_of 27 = .ok (.iload_n 2, 1) := by decide +kernel
theorem dX9_of_28 : decode cX9_of 28 = .ok (.bipush 7, 2) := by decide +kernel
theorem dX9_of_30 : decode cX9_of 30 = .ok (.if_icmp .ge 12, 3) := by decide +kernel
theorem dX9_of_33 : decode cX9_of 33 = .ok (.aload_n 0, 1) := by decide +kernel
theorem dX9_of_34 : decode cX9_of 34 = .ok (.iload_n 1, 1) := by decide +kernel
theorem dX9_of_35 : decode cX9_of 35 = .ok (.iload_n 2, 1) := by decide +kernel
theorem dX9_of_36 : decode cX9_of 36 = .ok (.invokevirtual 62, 3) := by decide +kernel
theorem dX9_of_39 : decode cX9_of 39 = .ok (.goto 8, 3) := by decide +kernel
theorem dX9_of_42 : decode cX9_of 42 = .ok (.aload_n 0, 1) := by decide +kernel
theorem dX9_of_43 : decode cX9_of 43 = .ok (.iload_n 1, 1) := by decide +kernel
theorem dX9_of_44 : decode cX9_of 44 = .ok (.invokevirtual 96, 3) := by decide +kernel
theorem dX9_of_47 : decode cX9_of 47 = .ok (.ireturn, 1) := by decide +kernel
theorem dX9_isPart_0 : decode cX9_isPart 0 = .ok (.iload_n 0, 1) := by decide +kernel
theorem dX9_isPart_1 : decode cX9_isPart 1 = .ok (.tableswitch 66 0 3 #[31, 36, 46, 56], 31) := by decide +kernel
theorem dX9_isPart_32 : decode cX9_isPart 32 = .ok (.iload_n 1, 1) := by decide +kernel
theorem dX9_isPart_33 : decode cX9_isPart 33 = .ok (.invokestatic 81, 3) := by decide +kernel
theorem dX9_isPart_36 : decode cX9_isPart 36 = .ok (.ireturn, 1) := by decide +kernel
theorem dX9_isPart_37 : decode cX9_isPart 37 = .ok (.iload_n 1, 1) := by decide +kernel
theorem dX9_isPart_38 : decode cX9_isPart 38 = .ok (.i2l, 1) := by decide +kernel
theorem dX9_isPart_39 : decode cX9_isPart 39 = .ok (.lconst 0, 1) := by decide +kernel
theorem dX9_isPart_40 : decode cX9_isPart 40 = .ok (.ldc2_w 58, 3) := by decide +kernel
theorem dX9_isPart_43 : decode cX9_isPart 43 = .ok (.invokestatic 54, 3) := by decide +kernel
theorem dX9_isPart_46 : decode cX9_isPart 46 = .ok (.ireturn, 1) := by decide +kernel
theorem dX9_isPart_47 : decode cX9_isPart 47 = .ok (.iload_n 1, 1) := by decide +kernel
theorem dX9_isPart_48 : decode cX9_isPart 48 = .ok (.i2l, 1) := by decide +kernel
theorem dX9_isPart_49 : decode cX9_isPart 49 = .ok (.lconst 0, 1) := by decide +kernel
theorem dX9_isPart_50 : decode cX9_isPart 50 = .ok (.ldc2_w 84, 3) := by decide +kernel
theorem dX9_isPart_53 : decode cX9_isPart 53 = .ok (.invokestatic 54, 3) := by decide +kernel
theorem dX9_isPart_56 : decode cX9_isPart 56 = .ok (.ireturn, 1) := by decide +kernel
theorem dX9_isPart_57 : decode cX9_isPart 57 = .ok (.iload_n 1, 1) := by decide +kernel
theorem dX9_isPart_58 : decode cX9_isPart 58 = .ok (.i2l, 1) := by decide +kernel
theorem dX9_isPart_59 : decode cX9_isPart 59 = .ok (.lconst 0, 1) := by decide +kernel
theorem dX9_isPart_60 : decode cX9_isPart 60 = .ok (.ldc2_w 99, 3) := by decide +kernel
theorem dX9_isPart_63 : decode cX9_isPart 63 = .ok (.invokestatic 54, 3) := by decide +kernel
theorem dX9_isPart_66 : decode cX9_isPart 66 = .ok (.ireturn, 1) := by decide +kernel
theorem dX9_isPart_67 : decode cX9_isPart 67 = .ok (.iload_n 0, 1) := by decide +kernel
theorem dX9_isPart_68 : decode cX9_isPart 68 = .ok (.iconst 5, 1) := by decide +kernel
theorem dX9_isPart_69 : decode cX9_isPart 69 = .ok (.if_icmp .ne 19, 3) := by decide +kernel
theorem dX9_isPart_72 : decode cX9_isPart 72 = .ok (.iload_n 1, 1) := by decide +kernel
theorem dX9_isPart_73 : decode cX9_isPart 73 = .ok (.i2l, 1) := by decide +kernel
theorem dX9_isPart_74 : decode cX9_isPart 74 = .ok (.lconst 0, 1) := by decide +kernel
theorem dX9_isPart_75 : decode cX9_isPart 75 = .ok (.ldc2_w 101, 3) := by decide +kernel
theorem dX9_isPart_78 : decode cX9_isPart 78 = .ok (.invokestatic 54, 3) := by decide +kernel
theorem dX9_isPart_81 : decode cX9_isPart 81 = .ok (.ifCond .eq 7, 3) := by decide +kernel
theorem dX9_isPart_84 : decode cX9_isPart 84 = .ok (.iconst 1, 1) := by decide +kernel
theorem dX9_isPart_85 : decode cX9_isPart 85 = .ok (.goto 4, 3) := by decide +kernel
theorem dX9_isPart_88 : decode cX9_isPart 88 = .ok (.iconst 0, 1) := by decide +kernel
theorem dX9_isPart_89 : decode cX9_isPart 89 = .ok (.ireturn, 1) := by decide +kernel
theorem dX9_change_0 : decode cX9_change 0 = .ok (.aload_n 0, 1) := by decide +kernel
theorem dX9_change_1 : decode cX9_change 1 = .ok (.iload_n 1, 1) := by decide +kernel
theorem dX9_change_2 : decode cX9_change 2 = .ok (.invokevirtual 91, 3) := by decide +kernel
theorem dX9_change_5 : decode cX9_change 5 = .ok (.ifCond .eq 28, 3) := by decide +kernel
theorem dX9_change_8 : decode cX9_change 8 = .ok (.iload_n 2, 1) := by decide +kernel
theorem dX9_change_9 : decode cX9_change 9 = .ok (.iload_n 3, 1) := by decide +kernel
theorem dX9_change_10 : decode cX9_change 10 = .ok (.invokestatic 103, 3) := by decide +kernel
theorem dX9_change_13 : decode cX9_change 13 = .ok (.ifCond .eq 20, 3) := by decide +kernel
theorem dX9_change_16 : decode cX9_change 16 = .ok (.aload_n 0, 1) := by decide +kernel
theorem dX9_change_17 : decode cX9_change 17 = .ok (.bipush 33, 2) := by decide +kernel
theorem dX9_change_19 : decode cX9_change 19 = .ok (.bipush 37, 2) := by decide +kernel
theorem dX9_change_21 : decode cX9_change 21 = .ok (.iload_n 1, 1) := by decide +kernel
theorem dX9_change_22 : decode cX9_change 22 = .ok (.imul, 1) := by decide +kernel
theorem dX9_change_23 : decode cX9_change 23 = .ok (.iadd, 1) := by decide +kernel
theorem dX9_change_24 : decode cX9_change 24 = .ok (.iload_n 2, 1) := by decide +kernel
theorem dX9_change_25 : decode cX9_change 25 = .ok (.iadd, 1) := by decide +kernel
theorem dX9_change_26 : decode cX9_change 26 = .ok (.iload_n 3, 1) := by decide +kernel
theorem dX9_change_27 : decode cX9_change 27 = .ok (.invokevirtual 72, 3) := by decide +kernel
theorem dX9_change_30 : decode cX9_change 30 = .ok (.goto 9, 3) := by decide +kernel
theorem dX9_change_33 : decode cX9_change 33 = .ok (.aload_n 0, 1) := by decide +kernel
theorem dX9_change_34 : decode cX9_change 34 = .ok (.ldc 46, 2) := by decide +kernel
theorem dX9_change_36 : decode cX9_change 36 = .ok (.invokevirtual 48, 3) := by decide +kernel
theorem dX9_change_39 : decode cX9_change 39 = .ok (.ireturn, 1) := by decide +kernel
theorem dX9_pace_0 : decode cX9_pace 0 = .ok (.aload_n 0, 1) := by decide +kernel
theorem dX9_pace_1 : decode cX9_pace 1 = .ok (.iload_n 1, 1) := by decide +kernel
theorem dX9_pace_2 : decode cX9_pace 2 = .ok (.invokevirtual 91, 3) := by decide +kernel
theorem dX9_pace_5 : decode cX9_pace 5 = .ok (.ifCond .eq 30, 3) := by decide +kernel
theorem dX9_pace_8 : decode cX9_pace 8 = .ok (.iload_n 2, 1) := by decide +kernel
theorem dX9_pace_9 : decode cX9_pace 9 = .ok (.invokestatic 66, 3) := by decide +kernel
theorem dX9_pace_12 : decode cX9_pace 12 = .ok (.ifCond .eq 23, 3) := by decide +kernel
theorem dX9_pace_15 : decode cX9_pace 15 = .ok (.iload_n 3, 1) := by decide +kernel
theorem dX9_pace_16 : decode cX9_pace 16 = .ok (.invokestatic 66, 3) := by decide +kernel
theorem dX9_pace_19 : decode cX9_pace 19 = .ok (.ifCond .eq 16, 3) := by decide +kernel
theorem dX9_pace_22 : decode cX9_pace 22 = .ok (.iload_n 2, 1) := by decide +kernel
theorem dX9_pace_23 : decode cX9_pace 23 = .ok (.iload_n 3, 1) := by decide +kernel
theorem dX9_pace_24 : decode cX9_pace 24 = .ok (.if_icmp .gt 11, 3) := by decide +kernel
theorem dX9_pace_27 : decode cX9_pace 27 = .ok (.iload 4, 2) := by decide +kernel
theorem dX9_pace_29 : decode cX9_pace 29 = .ok (.invokestatic 107, 3) := by decide +kernel
theorem dX9_pace_32 : decode cX9_pace 32 = .ok (.ifCond .ne 10, 3) := by decide +kernel
theorem dX9_pace_35 : decode cX9_pace 35 = .ok (.aload_n 0, 1) := by decide +kernel
theorem dX9_pace_36 : decode cX9_pace 36 = .ok (.ldc 46, 2) := by decide +kernel
theorem dX9_pace_38 : decode cX9_pace 38 = .ok (.invokevirtual 48, 3) := by decide +kernel
theorem dX9_pace_41 : decode cX9_pace 41 = .ok (.ireturn, 1) := by decide +kernel
theorem dX9_pace_42 : decode cX9_pace 42 = .ok (.iconst 0, 1) := by decide +kernel
theorem dX9_pace_43 : decode cX9_pace 43 = .ok (.istore 5, 2) := by decide +kernel
theorem dX9_pace_45 : decode cX9_pace 45 = .ok (.iload_n 2, 1) := by decide +kernel
theorem dX9_pace_46 : decode cX9_pace 46 = .ok (.istore 6, 2) := by decide +kernel
theorem dX9_pace_48 : decode cX9_pace 48 = .ok (.iload 6, 2) := by decide +kernel
theorem dX9_pace_50 : decode cX9_pace 50 = .ok (.iload_n 3, 1) := by decide +kernel
theorem dX9_pace_51 : decode cX9_pace 51 = .ok (.if_icmp .gt 43, 3) := by decide +kernel
theorem dX9_pace_54 : decode cX9_pace 54 = .ok (.iload 5, 2) := by decide +kernel
theorem dX9_pace_56 : decode cX9_pace 56 = .ok (.aload_n 0, 1) := by decide +kernel
theorem dX9_pace_57 : decode cX9_pace 57 = .ok (.bipush 33, 2) := by decide +kernel
theorem dX9_pace_59 : decode cX9_pace 59 = .ok (.bipush 37, 2) := by decide +kernel
theorem dX9_pace_61 : decode cX9_pace 61 = .ok (.iload_n 1, 1) := by decide +kernel
theorem dX9_pace_62 : decode cX9_pace 62 = .ok (.imul, 1) := by decide +kernel
theorem dX9_pace_63 : decode cX9_pace 63 = .ok (.iadd, 1) := by decide +kernel
theorem dX9_pace_64 : decode cX9_pace 64 = .ok (.bipush 7, 2) := by decide +kernel
theorem dX9_pace_66 : decode cX9_pace 66 = .ok (.iadd, 1) := by decide +kernel
theorem dX9_pace_67 : decode cX9_pace 67 = .ok (.iload 6, 2) := by decide +kernel
theorem dX9_pace_69 : decode cX9_pace 69 = .ok (.iadd, 1) := by decide +kernel
theorem dX9_pace_70 : decode cX9_pace 70 = .ok (.iload 4, 2) := by decide +kernel
theorem dX9_pace_72 : decode cX9_pace 72 = .ok (.invokevirtual 72, 3) := by decide +kernel
theorem dX9_pace_75 : decode cX9_pace 75 = .ok (.iload 4, 2) := by decide +kernel
theorem dX9_pace_77 : decode cX9_pace 77 = .ok (.if_icmp .ne 7, 3) := by decide +kernel
theorem dX9_pace_80 : decode cX9_pace 80 = .ok (.iconst 0, 1) := by decide +kernel
theorem dX9_pace_81 : decode cX9_pace 81 = .ok (.goto 4, 3) := by decide +kernel
theorem dX9_pace_84 : decode cX9_pace 84 = .ok (.iconst 1, 1) := by decide +kernel
theorem dX9_pace_85 : decode cX9_pace 85 = .ok (.iadd, 1) := by decide +kernel
theorem dX9_pace_86 : decode cX9_pace 86 = .ok (.istore 5, 2) := by decide +kernel
theorem dX9_pace_88 : decode cX9_pace 88 = .ok (.iinc 6 1, 3) := by decide +kernel
theorem dX9_pace_91 : decode cX9_pace 91 = .ok (.goto (-43), 3) := by decide +kernel
theorem dX9_pace_94 : decode cX9_pace 94 = .ok (.iload 5, 2) := by decide +kernel
theorem dX9_pace_96 : decode cX9_pace 96 = .ok (.ireturn, 1) := by decide +kernel
theorem dX9_paceAt_0 : decode cX9_paceAt 0 = .ok (.aload_n 0, 1) := by decide +kernel
theorem dX9_paceAt_1 : decode cX9_paceAt 1 = .ok (.iload_n 1, 1) := by decide +kernel
theorem dX9_paceAt_2 : decode cX9_paceAt 2 = .ok (.bipush 7, 2) := by decide +kernel
theorem dX9_paceAt_4 : decode cX9_paceAt 4 = .ok (.iload_n 2, 1) := by decide +kernel
theorem dX9_paceAt_5 : decode cX9_paceAt 5 = .ok (.iadd, 1) := by decide +kernel
theorem dX9_paceAt_6 : decode cX9_paceAt 6 = .ok (.invokevirtual 62, 3) := by decide +kernel
theorem dX9_paceAt_9 : decode cX9_paceAt 9 = .ok (.ireturn, 1) := by decide +kernel
theorem dX9_paceOf_0 : decode cX9_paceOf 0 = .ok (.aload_n 0, 1) := by decide +kernel
theorem dX9_paceOf_1 : decode cX9_paceOf 1 = .ok (.iload_n 1, 1) := by decide +kernel
theorem dX9_paceOf_2 : decode cX9_paceOf 2 = .ok (.invokevirtual 91, 3) := by decide +kernel
theorem dX9_paceOf_5 : decode cX9_paceOf 5 = .ok (.ifCond .eq 19, 3) := by decide +kernel
theorem dX9_paceOf_8 : decode cX9_paceOf 8 = .ok (.iload_n 2, 1) := by decide +kernel
theorem dX9_paceOf_9 : decode cX9_paceOf 9 = .ok (.invokestatic 66, 3) := by decide +kernel
theorem dX9_paceOf_12 : decode cX9_paceOf 12 = .ok (.ifCond .eq 12, 3) := by decide +kernel
theorem dX9_paceOf_15 : decode cX9_paceOf 15 = .ok (.aload_n 0, 1) := by decide +kernel
theorem dX9_paceOf_16 : decode cX9_paceOf 16 = .ok (.iload_n 1, 1) := by decide +kernel
theorem dX9_paceOf_17 : decode cX9_paceOf 17 = .ok (.iload_n 2, 1) := by decide +kernel
theorem dX9_paceOf_18 : decode cX9_paceOf 18 = .ok (.invokevirtual 110, 3) := by decide +kernel
theorem dX9_paceOf_21 : decode cX9_paceOf 21 = .ok (.goto 9, 3) := by decide +kernel
theorem dX9_paceOf_24 : decode cX9_paceOf 24 = .ok (.aload_n 0, 1) := by decide +kernel
theorem dX9_paceOf_25 : decode cX9_paceOf 25 = .ok (.ldc 46, 2) := by decide +kernel
theorem dX9_paceOf_27 : decode cX9_paceOf 27 = .ok (.invokevirtual 48, 3) := by decide +kernel
theorem dX9_paceOf_30 : decode cX9_paceOf 30 = .ok (.ireturn, 1) := by decide +kernel
theorem dX9_takes_0 : decode cX9_takes 0 = .ok (.aload_n 0, 1) := by decide +kernel
theorem dX9_takes_1 : decode cX9_takes 1 = .ok (.iload_n 1, 1) := by decide +kernel
theorem dX9_takes_2 : decode cX9_takes 2 = .ok (.iconst 0, 1) := by decide +kernel
theorem dX9_takes_3 : decode cX9_takes 3 = .ok (.invokevirtual 62, 3) := by decide +kernel
theorem dX9_takes_6 : decode cX9_takes 6 = .ok (.istore_n 3, 1) := by decide +kernel
theorem dX9_takes_7 : decode cX9_takes 7 = .ok (.iload_n 3, 1) := by decide +kernel
theorem dX9_takes_8 : decode cX9_takes 8 = .ok (.iconst 3, 1) := by decide +kernel
theorem dX9_takes_9 : decode cX9_takes 9 = .ok (.if_icmp .ne 8, 3) := by decide +kernel
theorem dX9_takes_12 : decode cX9_takes 12 = .ok (.bipush 11, 2) := by decide +kernel
theorem dX9_takes_14 : decode cX9_takes 14 = .ok (.goto 16, 3) := by decide +kernel
theorem dX9_takes_17 : decode cX9_takes 17 = .ok (.iload_n 3, 1) := by decide +kernel
theorem dX9_takes_18 : decode cX9_takes 18 = .ok (.bipush 6, 2) := by decide +kernel
theorem dX9_takes_20 : decode cX9_takes 20 = .ok (.if_icmp .ne 8, 3) := by decide +kernel
theorem dX9_takes_23 : decode cX9_takes 23 = .ok (.bipush 15, 2) := by decide +kernel
theorem dX9_takes_25 : decode cX9_takes 25 = .ok (.goto 5, 3) := by decide +kernel
theorem dX9_takes_28 : decode cX9_takes 28 = .ok (.bipush 12, 2) := by decide +kernel
theorem dX9_takes_30 : decode cX9_takes 30 = .ok (.iload_n 2, 1) := by decide +kernel
theorem dX9_takes_31 : decode cX9_takes 31 = .ok (.isub, 1) := by decide +kernel
theorem dX9_takes_32 : decode cX9_takes 32 = .ok (.ireturn, 1) := by decide +kernel
theorem dX9_rocks_0 : decode cX9_rocks 0 = .ok (.aload_n 0, 1) := by decide +kernel
theorem dX9_rocks_1 : decode cX9_rocks 1 = .ok (.iload_n 1, 1) := by decide +kernel
theorem dX9_rocks_2 : decode cX9_rocks 2 = .ok (.iconst 0, 1) := by decide +kernel
theorem dX9_rocks_3 : decode cX9_rocks 3 = .ok (.invokevirtual 62, 3) := by decide +kernel
theorem dX9_rocks_6 : decode cX9_rocks 6 = .ok (.istore_n 3, 1) := by decide +kernel
theorem dX9_rocks_7 : decode cX9_rocks 7 = .ok (.iload_n 2, 1) := by decide +kernel
theorem dX9_rocks_8 : decode cX9_rocks 8 = .ok (.tableswitch 78 1 7 #[44, 44, 50, 50, 78, 56, 72], 44) := by decide +kernel
theorem dX9_rocks_52 : decode cX9_rocks 52 = .ok (.iconst 1, 1) := by decide +kernel
theorem dX9_rocks_53 : decode cX9_rocks 53 = .ok (.istore 4, 2) := by decide +kernel
theorem dX9_rocks_55 : decode cX9_rocks 55 = .ok (.goto 34, 3) := by decide +kernel
theorem dX9_rocks_58 : decode cX9_rocks 58 = .ok (.iconst 2, 1) := by decide +kernel
theorem dX9_rocks_59 : decode cX9_rocks 59 = .ok (.istore 4, 2) := by decide +kernel
theorem dX9_rocks_61 : decode cX9_rocks 61 = .ok (.goto 28, 3) := by decide +kernel
theorem dX9_rocks_64 : decode cX9_rocks 64 = .ok (.iload_n 3, 1) := by decide +kernel
theorem dX9_rocks_65 : decode cX9_rocks 65 = .ok (.iconst 4, 1) := by decide +kernel
theorem dX9_rocks_66 : decode cX9_rocks 66 = .ok (.if_icmp .ne 7, 3) := by decide +kernel
theorem dX9_rocks_69 : decode cX9_rocks 69 = .ok (.iconst 2, 1) := by decide +kernel
theorem dX9_rocks_70 : decode cX9_rocks 70 = .ok (.goto 5, 3) := by decide +kernel
theorem dX9_rocks_73 : decode cX9_rocks 73 = .ok (.bipush 6, 2) := by decide +kernel
theorem dX9_rocks_75 : decode cX9_rocks 75 = .ok (.istore 4, 2) := by decide +kernel
theorem dX9_rocks_77 : decode cX9_rocks 77 = .ok (.goto 12, 3) := by decide +kernel
theorem dX9_rocks_80 : decode cX9_rocks 80 = .ok (.iconst 5, 1) := by decide +kernel
theorem dX9_rocks_81 : decode cX9_rocks 81 = .ok (.istore 4, 2) := by decide +kernel
theorem dX9_rocks_83 : decode cX9_rocks 83 = .ok (.goto 6, 3) := by decide +kernel
theorem dX9_rocks_86 : decode cX9_rocks 86 = .ok (.iconst 3, 1) := by decide +kernel
theorem dX9_rocks_87 : decode cX9_rocks 87 = .ok (.istore 4, 2) := by decide +kernel
theorem dX9_rocks_89 : decode cX9_rocks 89 = .ok (.iload_n 3, 1) := by decide +kernel
theorem dX9_rocks_90 : decode cX9_rocks 90 = .ok (.iconst 3, 1) := by decide +kernel
theorem dX9_rocks_91 : decode cX9_rocks 91 = .ok (.if_icmp .ne 10, 3) := by decide +kernel
theorem dX9_rocks_94 : decode cX9_rocks 94 = .ok (.iload 4, 2) := by decide +kernel
theorem dX9_rocks_96 : decode cX9_rocks 96 = .ok (.iconst 1, 1) := by decide +kernel
theorem dX9_rocks_97 : decode cX9_rocks 97 = .ok (.iadd, 1) := by decide +kernel
theorem dX9_rocks_98 : decode cX9_rocks 98 = .ok (.goto 5, 3) := by decide +kernel
theorem dX9_rocks_101 : decode cX9_rocks 101 = .ok (.iload 4, 2) := by decide +kernel
theorem dX9_rocks_103 : decode cX9_rocks 103 = .ok (.ireturn, 1) := by decide +kernel
theorem dX9_hurts_0 : decode cX9_hurts 0 = .ok (.aload_n 0, 1) := by decide +kernel
theorem dX9_hurts_1 : decode cX9_hurts 1 = .ok (.getfield 9, 3) := by decide +kernel
theorem dX9_hurts_4 : decode cX9_hurts 4 = .ok (.iconst 3, 1) := by decide +kernel
theorem dX9_hurts_5 : decode cX9_hurts 5 = .ok (.iload_n 2, 1) := by decide +kernel
theorem dX9_hurts_6 : decode cX9_hurts 6 = .ok (.iadd, 1) := by decide +kernel
theorem dX9_hurts_7 : decode cX9_hurts 7 = .ok (.iaload, 1) := by decide +kernel
theorem dX9_hurts_8 : decode cX9_hurts 8 = .ok (.istore_n 3, 1) := by decide +kernel
theorem dX9_hurts_9 : decode cX9_hurts 9 = .ok (.iload_n 3, 1) := by decide +kernel
theorem dX9_hurts_10 : decode cX9_hurts 10 = .ok (.ifCond .ne 7, 3) := by decide +kernel
theorem dX9_hurts_13 : decode cX9_hurts 13 = .ok (.iconst 0, 1) := by decide +kernel
theorem dX9_hurts_14 : decode cX9_hurts 14 = .ok (.goto 22, 3) := by decide +kernel
theorem dX9_hurts_17 : decode cX9_hurts 17 = .ok (.iload_n 3, 1) := by decide +kernel
theorem dX9_hurts_18 : decode cX9_hurts 18 = .ok (.iconst 2, 1) := by decide +kernel
theorem dX9_hurts_19 : decode cX9_hurts 19 = .ok (.if_icmp .ne 7, 3) := by decide +kernel
theorem dX9_hurts_22 : decode cX9_hurts 22 = .ok (.iconst 4, 1) := by decide +kernel
theorem dX9_hurts_23 : decode cX9_hurts 23 = .ok (.goto 13, 3) := by decide +kernel
theorem dX9_hurts_26 : decode cX9_hurts 26 = .ok (.iload_n 3, 1) := by decide +kernel
theorem dX9_hurts_27 : decode cX9_hurts 27 = .ok (.iconst 3, 1) := by decide +kernel
theorem dX9_hurts_28 : decode cX9_hurts 28 = .ok (.if_icmp .ne 7, 3) := by decide +kernel
theorem dX9_hurts_31 : decode cX9_hurts 31 = .ok (.iconst 2, 1) := by decide +kernel
theorem dX9_hurts_32 : decode cX9_hurts 32 = .ok (.goto 4, 3) := by decide +kernel
theorem dX9_hurts_35 : decode cX9_hurts 35 = .ok (.iconst 3, 1) := by decide +kernel
theorem dX9_hurts_36 : decode cX9_hurts 36 = .ok (.istore 4, 2) := by decide +kernel
theorem dX9_hurts_38 : decode cX9_hurts 38 = .ok (.aload_n 0, 1) := by decide +kernel
theorem dX9_hurts_39 : decode cX9_hurts 39 = .ok (.iload_n 1, 1) := by decide +kernel
theorem dX9_hurts_40 : decode cX9_hurts 40 = .ok (.iconst 0, 1) := by decide +kernel
theorem dX9_hurts_41 : decode cX9_hurts 41 = .ok (.invokevirtual 62, 3) := by decide +kernel
theorem dX9_hurts_44 : decode cX9_hurts 44 = .ok (.iconst 2, 1) := by decide +kernel
theorem dX9_hurts_45 : decode cX9_hurts 45 = .ok (.if_icmp .eq 14, 3) := by decide +kernel
theorem dX9_hurts_48 : decode cX9_hurts 48 = .ok (.aload_n 0, 1) := by decide +kernel
theorem dX9_hurts_49 : decode cX9_hurts 49 = .ok (.iload_n 1, 1) := by decide +kernel
theorem dX9_hurts_50 : decode cX9_hurts 50 = .ok (.iconst 0, 1) := by decide +kernel
theorem dX9_hurts_51 : decode cX9_hurts 51 = .ok (.invokevirtual 62, 3) := by decide +kernel
theorem dX9_hurts_54 : decode cX9_hurts 54 = .ok (.bipush 6, 2) := by decide +kernel
theorem dX9_hurts_56 : decode cX9_hurts 56 = .ok (.if_icmp .ne 10, 3) := by decide +kernel
theorem dX9_hurts_59 : decode cX9_hurts 59 = .ok (.iconst 2, 1) := by decide +kernel
theorem dX9_hurts_60 : decode cX9_hurts 60 = .ok (.iload 4, 2) := by decide +kernel
theorem dX9_hurts_62 : decode cX9_hurts 62 = .ok (.imul, 1) := by decide +kernel
theorem dX9_hurts_63 : decode cX9_hurts 63 = .ok (.goto 5, 3) := by decide +kernel
theorem dX9_hurts_66 : decode cX9_hurts 66 = .ok (.iload 4, 2) := by decide +kernel
theorem dX9_hurts_68 : decode cX9_hurts 68 = .ok (.ireturn, 1) := by decide +kernel
theorem dX9_oddsBy_0 : decode cX9_oddsBy 0 = .ok (.aload_n 0, 1) := by decide +kernel
theorem dX9_oddsBy_1 : decode cX9_oddsBy 1 = .ok (.iload_n 1, 1) := by decide +kernel
theorem dX9_oddsBy_2 : decode cX9_oddsBy 2 = .ok (.iload_n 3, 1) := by decide +kernel
theorem dX9_oddsBy_3 : decode cX9_oddsBy 3 = .ok (.invokevirtual 113, 3) := by decide +kernel
theorem dX9_oddsBy_6 : decode cX9_oddsBy 6 = .ok (.aload_n 0, 1) := by decide +kernel
theorem dX9_oddsBy_7 : decode cX9_oddsBy 7 = .ok (.iload_n 1, 1) := by decide +kernel
theorem dX9_oddsBy_8 : decode cX9_oddsBy 8 = .ok (.iload_n 2, 1) := by decide +kernel
theorem dX9_oddsBy_9 : decode cX9_oddsBy 9 = .ok (.invokevirtual 116, 3) := by decide +kernel
theorem dX9_oddsBy_12 : decode cX9_oddsBy 12 = .ok (.iadd, 1) := by decide +kernel
theorem dX9_oddsBy_13 : decode cX9_oddsBy 13 = .ok (.iload 4, 2) := by decide +kernel
theorem dX9_oddsBy_15 : decode cX9_oddsBy 15 = .ok (.ifCond .eq 7, 3) := by decide +kernel
theorem dX9_oddsBy_18 : decode cX9_oddsBy 18 = .ok (.iconst 3, 1) := by decide +kernel
theorem dX9_oddsBy_19 : decode cX9_oddsBy 19 = .ok (.goto 4, 3) := by decide +kernel
theorem dX9_oddsBy_22 : decode cX9_oddsBy 22 = .ok (.iconst 0, 1) := by decide +kernel
theorem dX9_oddsBy_23 : decode cX9_oddsBy 23 = .ok (.iadd, 1) := by decide +kernel
theorem dX9_oddsBy_24 : decode cX9_oddsBy 24 = .ok (.iload 5, 2) := by decide +kernel
theorem dX9_oddsBy_26 : decode cX9_oddsBy 26 = .ok (.iadd, 1) := by decide +kernel
theorem dX9_oddsBy_27 : decode cX9_oddsBy 27 = .ok (.aload_n 0, 1) := by decide +kernel
theorem dX9_oddsBy_28 : decode cX9_oddsBy 28 = .ok (.iload_n 1, 1) := by decide +kernel
theorem dX9_oddsBy_29 : decode cX9_oddsBy 29 = .ok (.invokevirtual 96, 3) := by decide +kernel
theorem dX9_oddsBy_32 : decode cX9_oddsBy 32 = .ok (.isub, 1) := by decide +kernel
theorem dX9_oddsBy_33 : decode cX9_oddsBy 33 = .ok (.istore 6, 2) := by decide +kernel
theorem dX9_oddsBy_35 : decode cX9_oddsBy 35 = .ok (.iload 6, 2) := by decide +kernel
theorem dX9_oddsBy_37 : decode cX9_oddsBy 37 = .ok (.ifCond .ge 7, 3) := by decide +kernel
theorem dX9_oddsBy_40 : decode cX9_oddsBy 40 = .ok (.iconst 0, 1) := by decide +kernel
theorem dX9_oddsBy_41 : decode cX9_oddsBy 41 = .ok (.goto 17, 3) := by decide +kernel
theorem dX9_oddsBy_44 : decode cX9_oddsBy 44 = .ok (.iload 6, 2) := by decide +kernel
theorem dX9_oddsBy_46 : decode cX9_oddsBy 46 = .ok (.bipush 23, 2) := by decide +kernel
theorem dX9_oddsBy_48 : decode cX9_oddsBy 48 = .ok (.if_icmp .le 8, 3) := by decide +kernel
theorem dX9_oddsBy_51 : decode cX9_oddsBy 51 = .ok (.bipush 23, 2) := by decide +kernel
theorem dX9_oddsBy_53 : decode cX9_oddsBy 53 = .ok (.goto 5, 3) := by decide +kernel
theorem dX9_oddsBy_56 : decode cX9_oddsBy 56 = .ok (.iload 6, 2) := by decide +kernel
theorem dX9_oddsBy_58 : decode cX9_oddsBy 58 = .ok (.ireturn, 1) := by decide +kernel
theorem dX9_told_0 : decode cX9_told 0 = .ok (.aload_n 0, 1) := by decide +kernel
theorem dX9_told_1 : decode cX9_told 1 = .ok (.iload_n 1, 1) := by decide +kernel
theorem dX9_told_2 : decode cX9_told 2 = .ok (.invokevirtual 91, 3) := by decide +kernel
theorem dX9_told_5 : decode cX9_told 5 = .ok (.ifCond .eq 20, 3) := by decide +kernel
theorem dX9_told_8 : decode cX9_told 8 = .ok (.iload_n 2, 1) := by decide +kernel
theorem dX9_told_9 : decode cX9_told 9 = .ok (.i2l, 1) := by decide +kernel
theorem dX9_told_10 : decode cX9_told 10 = .ok (.lconst 0, 1) := by decide +kernel
theorem dX9_told_11 : decode cX9_told 11 = .ok (.lconst 1, 1) := by decide +kernel
theorem dX9_told_12 : decode cX9_told 12 = .ok (.invokestatic 54, 3) := by decide +kernel
theorem dX9_told_15 : decode cX9_told 15 = .ok (.ifCond .eq 10, 3) := by decide +kernel
theorem dX9_told_18 : decode cX9_told 18 = .ok (.iload_n 3, 1) := by decide +kernel
theorem dX9_told_19 : decode cX9_told 19 = .ok (.invokestatic 107, 3) := by decide +kernel
theorem dX9_told_22 : decode cX9_told 22 = .ok (.ifCond .ne 10, 3) := by decide +kernel
theorem dX9_told_25 : decode cX9_told 25 = .ok (.aload_n 0, 1) := by decide +kernel
theorem dX9_told_26 : decode cX9_told 26 = .ok (.ldc 46, 2) := by decide +kernel
theorem dX9_told_28 : decode cX9_told 28 = .ok (.invokevirtual 48, 3) := by decide +kernel
theorem dX9_told_31 : decode cX9_told 31 = .ok (.ireturn, 1) := by decide +kernel
theorem dX9_told_32 : decode cX9_told 32 = .ok (.iload_n 2, 1) := by decide +kernel
theorem dX9_told_33 : decode cX9_told 33 = .ok (.ifCond .ne 12, 3) := by decide +kernel
theorem dX9_told_36 : decode cX9_told 36 = .ok (.aload_n 0, 1) := by decide +kernel
theorem dX9_told_37 : decode cX9_told 37 = .ok (.iload_n 1, 1) := by decide +kernel
theorem dX9_told_38 : decode cX9_told 38 = .ok (.iload_n 3, 1) := by decide +kernel
theorem dX9_told_39 : decode cX9_told 39 = .ok (.invokevirtual 119, 3) := by decide +kernel
theorem dX9_told_42 : decode cX9_told 42 = .ok (.goto 9, 3) := by decide +kernel
theorem dX9_told_45 : decode cX9_told 45 = .ok (.aload_n 0, 1) := by decide +kernel
theorem dX9_told_46 : decode cX9_told 46 = .ok (.iload_n 1, 1) := by decide +kernel
theorem dX9_told_47 : decode cX9_told 47 = .ok (.iload_n 3, 1) := by decide +kernel
theorem dX9_told_48 : decode cX9_told 48 = .ok (.invokevirtual 113, 3) := by decide +kernel
theorem dX9_told_51 : decode cX9_told 51 = .ok (.ireturn, 1) := by decide +kernel
theorem dX9_odds_0 : decode cX9_odds 0 = .ok (.aload_n 0, 1) := by decide +kernel
theorem dX9_odds_1 : decode cX9_odds 1 = .ok (.iload_n 1, 1) := by decide +kernel
theorem dX9_odds_2 : decode cX9_odds 2 = .ok (.invokevirtual 91, 3) := by decide +kernel
theorem dX9_odds_5 : decode cX9_odds 5 = .ok (.ifCond .eq 28, 3) := by decide +kernel
theorem dX9_odds_8 : decode cX9_odds 8 = .ok (.iload_n 2, 1) := by decide +kernel
theorem dX9_odds_9 : decode cX9_odds 9 = .ok (.invokestatic 66, 3) := by decide +kernel
theorem dX9_odds_12 : decode cX9_odds 12 = .ok (.ifCond .eq 21, 3) := by decide +kernel
theorem dX9_odds_15 : decode cX9_odds 15 = .ok (.iload_n 3, 1) := by decide +kernel
theorem dX9_odds_16 : decode cX9_odds 16 = .ok (.invokestatic 107, 3) := by decide +kernel
theorem dX9_odds_19 : decode cX9_odds 19 = .ok (.ifCond .eq 14, 3) := by decide +kernel
theorem dX9_odds_22 : decode cX9_odds 22 = .ok (.iload 4, 2) := by decide +kernel
theorem dX9_odds_24 : decode cX9_odds 24 = .ok (.i2l, 1) := by decide +kernel
theorem dX9_odds_25 : decode cX9_odds 25 = .ok (.lconst 0, 1) := by decide +kernel
theorem dX9_odds_26 : decode cX9_odds 26 = .ok (.lconst 1, 1) := by decide +kernel
theorem dX9_odds_27 : decode cX9_odds 27 = .ok (.invokestatic 54, 3) := by decide +kernel
theorem dX9_odds_30 : decode cX9_odds 30 = .ok (.ifCond .ne 10, 3) := by decide +kernel
theorem dX9_odds_33 : decode cX9_odds 33 = .ok (.aload_n 0, 1) := by decide +kernel
theorem dX9_odds_34 : decode cX9_odds 34 = .ok (.ldc 46, 2) := by decide +kernel
theorem dX9_odds_36 : decode cX9_odds 36 = .ok (.invokevirtual 48, 3) := by decide +kernel
theorem dX9_odds_39 : decode cX9_odds 39 = .ok (.ireturn, 1) := by decide +kernel
theorem dX9_odds_40 : decode cX9_odds 40 = .ok (.aload_n 0, 1) := by decide +kernel
theorem dX9_odds_41 : decode cX9_odds 41 = .ok (.iload_n 1, 1) := by decide +kernel
theorem dX9_odds_42 : decode cX9_odds 42 = .ok (.iload_n 2, 1) := by decide +kernel
theorem dX9_odds_43 : decode cX9_odds 43 = .ok (.iload_n 3, 1) := by decide +kernel
theorem dX9_odds_44 : decode cX9_odds 44 = .ok (.iload 4, 2) := by decide +kernel
theorem dX9_odds_46 : decode cX9_odds 46 = .ok (.iconst 1, 1) := by decide +kernel
theorem dX9_odds_47 : decode cX9_odds 47 = .ok (.if_icmp .ne 7, 3) := by decide +kernel
theorem dX9_odds_50 : decode cX9_odds 50 = .ok (.iconst 1, 1) := by decide +kernel
theorem dX9_odds_51 : decode cX9_odds 51 = .ok (.goto 4, 3) := by decide +kernel
theorem dX9_odds_54 : decode cX9_odds 54 = .ok (.iconst 0, 1) := by decide +kernel
theorem dX9_odds_55 : decode cX9_odds 55 = .ok (.iconst 0, 1) := by decide +kernel
theorem dX9_odds_56 : decode cX9_odds 56 = .ok (.invokevirtual 122, 3) := by decide +kernel
theorem dX9_odds_59 : decode cX9_odds 59 = .ok (.ireturn, 1) := by decide +kernel
theorem dX9_nervesOf_0 : decode cX9_nervesOf 0 = .ok (.iconst 0, 1) := by decide +kernel
theorem dX9_nervesOf_1 : decode cX9_nervesOf 1 = .ok (.istore_n 2, 1) := by decide +kernel
theorem dX9_nervesOf_2 : decode cX9_nervesOf 2 = .ok (.iconst 0, 1) := by decide +kernel
theorem dX9_nervesOf_3 : decode cX9_nervesOf 3 = .ok (.istore_n 3, 1) := by decide +kernel
theorem dX9_nervesOf_4 : decode cX9_nervesOf 4 = .ok (.iload_n 3, 1) := by decide +kernel
theorem dX9_nervesOf_5 : decode cX9_nervesOf 5 = .ok (.aload_n 0, 1) := by decide +kernel
theorem dX9_nervesOf_6 : decode cX9_nervesOf 6 = .ok (.getfield 9, 3) := by decide +kernel
theorem dX9_nervesOf_9 : decode cX9_nervesOf 9 = .ok (.iconst 2, 1) := by decide +kernel
theorem dX9_nervesOf_10 : decode cX9_nervesOf 10 = .ok (.iaload, 1) := by decide +kernel
theorem dX9_nervesOf_11 : decode cX9_nervesOf 11 = .ok (.if_icmp .ge 54, 3) := by decide +kernel
theorem dX9_nervesOf_14 : decode cX9_nervesOf 14 = .ok (.iload_n 2, 1) := by decide +kernel
theorem dX9_nervesOf_15 : decode cX9_nervesOf 15 = .ok (.iload_n 3, 1) := by decide +kernel
theorem dX9_nervesOf_16 : decode cX9_nervesOf 16 = .ok (.iload_n 1, 1) := by decide +kernel
theorem dX9_nervesOf_17 : decode cX9_nervesOf 17 = .ok (.if_icmp .eq 39, 3) := by decide +kernel
theorem dX9_nervesOf_20 : decode cX9_nervesOf 20 = .ok (.aload_n 0, 1) := by decide +kernel
theorem dX9_nervesOf_21 : decode cX9_nervesOf 21 = .ok (.iload_n 3, 1) := by decide +kernel
theorem dX9_nervesOf_22 : decode cX9_nervesOf 22 = .ok (.invokevirtual 126, 3) := by decide +kernel
theorem dX9_nervesOf_25 : decode cX9_nervesOf 25 = .ok (.ifCond .ne 31, 3) := by decide +kernel
theorem dX9_nervesOf_28 : decode cX9_nervesOf 28 = .ok (.aload_n 0, 1) := by decide +kernel
theorem dX9_nervesOf_29 : decode cX9_nervesOf 29 = .ok (.iload_n 3, 1) := by decide +kernel
theorem dX9_nervesOf_30 : decode cX9_nervesOf 30 = .ok (.iconst 3, 1) := by decide +kernel
theorem dX9_nervesOf_31 : decode cX9_nervesOf 31 = .ok (.invokevirtual 62, 3) := by decide +kernel
theorem dX9_nervesOf_34 : decode cX9_nervesOf 34 = .ok (.aload_n 0, 1) := by decide +kernel
theorem dX9_nervesOf_35 : decode cX9_nervesOf 35 = .ok (.iload_n 1, 1) := by decide +kernel
theorem dX9_nervesOf_36 : decode cX9_nervesOf 36 = .ok (.iconst 3, 1) := by decide +kernel
theorem dX9_nervesOf_37 : decode cX9_nervesOf 37 = .ok (.invokevirtual 62, 3) := by decide +kernel
theorem dX9_nervesOf_40 : decode cX9_nervesOf 40 = .ok (.isub, 1) := by decide +kernel
theorem dX9_nervesOf_41 : decode cX9_nervesOf 41 = .ok (.i2l, 1) := by decide +kernel
theorem dX9_nervesOf_42 : decode cX9_nervesOf 42 = .ok (.ldc2_w 129, 3) := by decide +kernel
theorem dX9_nervesOf_45 : decode cX9_nervesOf 45 = .ok (.lconst 1, 1) := by decide +kernel
theorem dX9_nervesOf_46 : decode cX9_nervesOf 46 = .ok (.invokestatic 54, 3) := by decide +kernel
theorem dX9_nervesOf_49 : decode cX9_nervesOf 49 = .ok (.ifCond .eq 7, 3) := by decide +kernel
theorem dX9_nervesOf_52 : decode cX9_nervesOf 52 = .ok (.iconst 1, 1) := by decide +kernel
theorem dX9_nervesOf_53 : decode cX9_nervesOf 53 = .ok (.goto 4, 3) := by decide +kernel
theorem dX9_nervesOf_56 : decode cX9_nervesOf 56 = .ok (.iconst 0, 1) := by decide +kernel
theorem dX9_nervesOf_57 : decode cX9_nervesOf 57 = .ok (.iadd, 1) := by decide +kernel
theorem dX9_nervesOf_58 : decode cX9_nervesOf 58 = .ok (.istore_n 2, 1) := by decide +kernel
theorem dX9_nervesOf_59 : decode cX9_nervesOf 59 = .ok (.iinc 3 1, 3) := by decide +kernel
theorem dX9_nervesOf_62 : decode cX9_nervesOf 62 = .ok (.goto (-58), 3) := by decide +kernel
theorem dX9_nervesOf_65 : decode cX9_nervesOf 65 = .ok (.iload_n 2, 1) := by decide +kernel
theorem dX9_nervesOf_66 : decode cX9_nervesOf 66 = .ok (.ireturn, 1) := by decide +kernel
theorem dX9_oddsNow_0 : decode cX9_oddsNow 0 = .ok (.aload_n 0, 1) := by decide +kernel
theorem dX9_oddsNow_1 : decode cX9_oddsNow 1 = .ok (.iload_n 1, 1) := by decide +kernel
theorem dX9_oddsNow_2 : decode cX9_oddsNow 2 = .ok (.aload_n 0, 1) := by decide +kernel
theorem dX9_oddsNow_3 : decode cX9_oddsNow 3 = .ok (.iload_n 1, 1) := by decide +kernel
theorem dX9_oddsNow_4 : decode cX9_oddsNow 4 = .ok (.iconst 3, 1) := by decide +kernel
theorem dX9_oddsNow_5 : decode cX9_oddsNow 5 = .ok (.invokevirtual 62, 3) := by decide +kernel
theorem dX9_oddsNow_8 : decode cX9_oddsNow 8 = .ok (.aload_n 0, 1) := by decide +kernel
theorem dX9_oddsNow_9 : decode cX9_oddsNow 9 = .ok (.iload_n 1, 1) := by decide +kernel
theorem dX9_oddsNow_10 : decode cX9_oddsNow 10 = .ok (.aload_n 0, 1) := by decide +kernel
theorem dX9_oddsNow_11 : decode cX9_oddsNow 11 = .ok (.iload_n 1, 1) := by decide +kernel
theorem dX9_oddsNow_12 : decode cX9_oddsNow 12 = .ok (.iconst 3, 1) := by decide +kernel
theorem dX9_oddsNow_13 : decode cX9_oddsNow 13 = .ok (.invokevirtual 62, 3) := by decide +kernel
theorem dX9_oddsNow_16 : decode cX9_oddsNow 16 = .ok (.invokevirtual 110, 3) := by decide +kernel
theorem dX9_oddsNow_19 : decode cX9_oddsNow 19 = .ok (.aload_n 0, 1) := by decide +kernel
theorem dX9_oddsNow_20 : decode cX9_oddsNow 20 = .ok (.iload_n 1, 1) := by decide +kernel
theorem dX9_oddsNow_21 : decode cX9_oddsNow 21 = .ok (.iconst 5, 1) := by decide +kernel
theorem dX9_oddsNow_22 : decode cX9_oddsNow 22 = .ok (.invokevirtual 62, 3) := by decide +kernel
theorem dX9_oddsNow_25 : decode cX9_oddsNow 25 = .ok (.ifCond .le 7, 3) := by decide +kernel
theorem dX9_oddsNow_28 : decode cX9_oddsNow 28 = .ok (.iconst 1, 1) := by decide +kernel
theorem dX9_oddsNow_29 : decode cX9_oddsNow 29 = .ok (.goto 4, 3) := by decide +kernel
theorem dX9_oddsNow_32 : decode cX9_oddsNow 32 = .ok (.iconst 0, 1) := by decide +kernel
theorem dX9_oddsNow_33 : decode cX9_oddsNow 33 = .ok (.aload_n 0, 1) := by decide +kernel
theorem dX9_oddsNow_34 : decode cX9_oddsNow 34 = .ok (.iload_n 1, 1) := by decide +kernel
theorem dX9_oddsNow_35 : decode cX9_oddsNow 35 = .ok (.invokevirtual 131, 3) := by decide +kernel
theorem dX9_oddsNow_38 : decode cX9_oddsNow 38 = .ok (.invokevirtual 122, 3) := by decide +kernel
theorem dX9_oddsNow_41 : decode cX9_oddsNow 41 = .ok (.ireturn, 1) := by decide +kernel
theorem dX9_now_0 : decode cX9_now 0 = .ok (.aload_n 0, 1) := by decide +kernel
theorem dX9_now_1 : decode cX9_now 1 = .ok (.iload_n 1, 1) := by decide +kernel
theorem dX9_now_2 : decode cX9_now 2 = .ok (.invokevirtual 91, 3) := by decide +kernel
theorem dX9_now_5 : decode cX9_now 5 = .ok (.ifCond .ne 10, 3) := by decide +kernel
theorem dX9_now_8 : decode cX9_now 8 = .ok (.aload_n 0, 1) := by decide +kernel
theorem dX9_now_9 : decode cX9_now 9 = .ok (.ldc 46, 2) := by decide +kernel
theorem dX9_now_11 : decode cX9_now 11 = .ok (.invokevirtual 48, 3) := by decide +kernel
theorem dX9_now_14 : decode cX9_now 14 = .ok (.ireturn, 1) := by decide +kernel
theorem dX9_now_15 : decode cX9_now 15 = .ok (.aload_n 0, 1) := by decide +kernel
theorem dX9_now_16 : decode cX9_now 16 = .ok (.iload_n 1, 1) := by decide +kernel
theorem dX9_now_17 : decode cX9_now 17 = .ok (.invokevirtual 126, 3) := by decide +kernel
theorem dX9_now_20 : decode cX9_now 20 = .ok (.ifCond .eq 12, 3) := by decide +kernel
theorem dX9_now_23 : decode cX9_now 23 = .ok (.aload_n 0, 1) := by decide +kernel
theorem dX9_now_24 : decode cX9_now 24 = .ok (.ldc 134, 2) := by decide +kernel
theorem dX9_now_26 : decode cX9_now 26 = .ok (.invokevirtual 48, 3) := by decide +kernel
theorem dX9_now_29 : decode cX9_now 29 = .ok (.goto 8, 3) := by decide +kernel
theorem dX9_now_32 : decode cX9_now 32 = .ok (.aload_n 0, 1) := by decide +kernel
theorem dX9_now_33 : decode cX9_now 33 = .ok (.iload_n 1, 1) := by decide +kernel
theorem dX9_now_34 : decode cX9_now 34 = .ok (.invokevirtual 135, 3) := by decide +kernel
theorem dX9_now_37 : decode cX9_now 37 = .ok (.ireturn, 1) := by decide +kernel
theorem dX9_nerves_0 : decode cX9_nerves 0 = .ok (.aload_n 0, 1) := by decide +kernel
theorem dX9_nerves_1 : decode cX9_nerves 1 = .ok (.iload_n 1, 1) := by decide +kernel
theorem dX9_nerves_2 : decode cX9_nerves 2 = .ok (.invokevirtual 91, 3) := by decide +kernel
theorem dX9_nerves_5 : decode cX9_nerves 5 = .ok (.ifCond .eq 11, 3) := by decide +kernel
theorem dX9_nerves_8 : decode cX9_nerves 8 = .ok (.aload_n 0, 1) := by decide +kernel
theorem dX9_nerves_9 : decode cX9_nerves 9 = .ok (.iload_n 1, 1) := by decide +kernel
theorem dX9_nerves_10 : decode cX9_nerves 10 = .ok (.invokevirtual 131, 3) := by decide +kernel
theorem dX9_nerves_13 : decode cX9_nerves 13 = .ok (.goto 9, 3) := by decide +kernel
theorem dX9_nerves_16 : decode cX9_nerves 16 = .ok (.aload_n 0, 1) := by decide +kernel
theorem dX9_nerves_17 : decode cX9_nerves 17 = .ok (.ldc 46, 2) := by decide +kernel
theorem dX9_nerves_19 : decode cX9_nerves 19 = .ok (.invokevirtual 48, 3) := by decide +kernel
theorem dX9_nerves_22 : decode cX9_nerves 22 = .ok (.ireturn, 1) := by decide +kernel
theorem dX9_draw_0 : decode cX9_draw 0 = .ok (.aload_n 0, 1) := by decide +kernel
theorem dX9_draw_1 : decode cX9_draw 1 = .ok (.getfield 9, 3) := by decide +kernel
theorem dX9_draw_4 : decode cX9_draw 4 = .ok (.iconst 1, 1) := by decide +kernel
theorem dX9_draw_5 : decode cX9_draw 5 = .ok (.aload_n 0, 1) := by decide +kernel
theorem dX9_draw_6 : decode cX9_draw 6 = .ok (.getfield 9, 3) := by decide +kernel
theorem dX9_draw_9 : decode cX9_draw 9 = .ok (.iconst 1, 1) := by decide +kernel
theorem dX9_draw_10 : decode cX9_draw 10 = .ok (.iaload, 1) := by decide +kernel
theorem dX9_draw_11 : decode cX9_draw 11 = .ok (.ldc 138, 2) := by decide +kernel
theorem dX9_draw_13 : decode cX9_draw 13 = .ok (.imul, 1) := by decide +kernel
theorem dX9_draw_14 : decode cX9_draw 14 = .ok (.sipush 12345, 3) := by decide +kernel
theorem dX9_draw_17 : decode cX9_draw 17 = .ok (.iadd, 1) := by decide +kernel
theorem dX9_draw_18 : decode cX9_draw 18 = .ok (.iastore, 1) := by decide +kernel
theorem dX9_draw_19 : decode cX9_draw 19 = .ok (.aload_n 0, 1) := by decide +kernel
theorem dX9_draw_20 : decode cX9_draw 20 = .ok (.getfield 9, 3) := by decide +kernel
theorem dX9_draw_23 : decode cX9_draw 23 = .ok (.iconst 1, 1) := by decide +kernel
theorem dX9_draw_24 : decode cX9_draw 24 = .ok (.iaload, 1) := by decide +kernel
theorem dX9_draw_25 : decode cX9_draw 25 = .ok (.bipush 8, 2) := by decide +kernel
theorem dX9_draw_27 : decode cX9_draw 27 = .ok (.iushr, 1) := by decide +kernel
theorem dX9_draw_28 : decode cX9_draw 28 = .ok (.ireturn, 1) := by decide +kernel
theorem dX9_runsNext_0 : decode cX9_runsNext 0 = .ok (.iconst (-1), 1) := by decide +kernel
theorem dX9_runsNext_1 : decode cX9_runsNext 1 = .ok (.istore_n 1, 1) := by decide +kernel
theorem dX9_runsNext_2 : decode cX9_runsNext 2 = .ok (.iconst 0, 1) := by decide +kernel
theorem dX9_runsNext_3 : decode cX9_runsNext 3 = .ok (.istore_n 2, 1) := by decide +kernel
theorem dX9_runsNext_4 : decode cX9_runsNext 4 = .ok (.iload_n 2, 1) := by decide +kernel
theorem dX9_runsNext_5 : decode cX9_runsNext 5 = .ok (.aload_n 0, 1) := by decide +kernel
theorem dX9_runsNext_6 : decode cX9_runsNext 6 = .ok (.getfield 9, 3) := by decide +kernel
theorem dX9_runsNext_9 : decode cX9_runsNext 9 = .ok (.iconst 2, 1) := by decide +kernel
theorem dX9_runsNext_10 : decode cX9_runsNext 10 = .ok (.iaload, 1) := by decide +kernel
theorem dX9_runsNext_11 : decode cX9_runsNext 11 = .ok (.if_icmp .ge 38, 3) := by decide +kernel
theorem dX9_runsNext_14 : decode cX9_runsNext 14 = .ok (.aload_n 0, 1) := by decide +kernel
theorem dX9_runsNext_15 : decode cX9_runsNext 15 = .ok (.iload_n 2, 1) := by decide +kernel
theorem dX9_runsNext_16 : decode cX9_runsNext 16 = .ok (.invokevirtual 126, 3) := by decide +kernel
theorem dX9_runsNext_19 : decode cX9_runsNext 19 = .ok (.ifCond .ne 24, 3) := by decide +kernel
theorem dX9_runsNext_22 : decode cX9_runsNext 22 = .ok (.iload_n 1, 1) := by decide +kernel
theorem dX9_runsNext_23 : decode cX9_runsNext 23 = .ok (.ifCond .lt 18, 3) := by decide +kernel
theorem dX9_runsNext_26 : decode cX9_runsNext 26 = .ok (.aload_n 0, 1) := by decide +kernel
theorem dX9_runsNext_27 : decode cX9_runsNext 27 = .ok (.iload_n 2, 1) := by decide +kernel
theorem dX9_runsNext_28 : decode cX9_runsNext 28 = .ok (.iconst 4, 1) := by decide +kernel
theorem dX9_runsNext_29 : decode cX9_runsNext 29 = .ok (.invokevirtual 62, 3) := by decide +kernel
theorem dX9_runsNext_32 : decode cX9_runsNext 32 = .ok (.aload_n 0, 1) := by decide +kernel
theorem dX9_runsNext_33 : decode cX9_runsNext 33 = .ok (.iload_n 1, 1) := by decide +kernel
theorem dX9_runsNext_34 : decode cX9_runsNext 34 = .ok (.iconst 4, 1) := by decide +kernel
theorem dX9_runsNext_35 : decode cX9_runsNext 35 = .ok (.invokevirtual 62, 3) := by decide +kernel
theorem dX9_runsNext_38 : decode cX9_runsNext 38 = .ok (.if_icmp .ge 5, 3) := by decide +kernel
theorem dX9_runsNext_41 : decode cX9_runsNext 41 = .ok (.iload_n 2, 1) := by decide +kernel
theorem dX9_runsNext_42 : decode cX9_runsNext 42 = .ok (.istore_n 1, 1) := by decide +kernel
theorem dX9_runsNext_43 : decode cX9_runsNext 43 = .ok (.iinc 2 1, 3) := by decide +kernel
theorem dX9_runsNext_46 : decode cX9_runsNext 46 = .ok (.goto (-42), 3) := by decide +kernel
theorem dX9_runsNext_49 : decode cX9_runsNext 49 = .ok (.iload_n 1, 1) := by decide +kernel
theorem dX9_runsNext_50 : decode cX9_runsNext 50 = .ok (.ireturn, 1) := by decide +kernel
theorem dX9_next_0 : decode cX9_next 0 = .ok (.aload_n 0, 1) := by decide +kernel
theorem dX9_next_1 : decode cX9_next 1 = .ok (.aload_n 0, 1) := by decide +kernel
theorem dX9_next_2 : decode cX9_next 2 = .ok (.invokevirtual 139, 3) := by decide +kernel
theorem dX9_next_5 : decode cX9_next 5 = .ok (.invokevirtual 143, 3) := by decide +kernel
theorem dX9_next_8 : decode cX9_next 8 = .ok (.ireturn, 1) := by decide +kernel
theorem dX9_step_0 : decode cX9_step 0 = .ok (.aload_n 0, 1) := by decide +kernel
theorem dX9_step_1 : decode cX9_step 1 = .ok (.iload_n 1, 1) := by decide +kernel
theorem dX9_step_2 : decode cX9_step 2 = .ok (.iconst 3, 1) := by decide +kernel
theorem dX9_step_3 : decode cX9_step 3 = .ok (.invokevirtual 62, 3) := by decide +kernel
theorem dX9_step_6 : decode cX9_step 6 = .ok (.istore_n 2, 1) := by decide +kernel
theorem dX9_step_7 : decode cX9_step 7 = .ok (.aload_n 0, 1) := by decide +kernel
theorem dX9_step_8 : decode cX9_step 8 = .ok (.iload_n 1, 1) := by decide +kernel
theorem dX9_step_9 : decode cX9_step 9 = .ok (.invokevirtual 135, 3) := by decide +kernel
theorem dX9_step_12 : decode cX9_step 12 = .ok (.istore_n 3, 1) := by decide +kernel
theorem dX9_step_13 : decode cX9_step 13 = .ok (.iload_n 3, 1) := by decide +kernel
theorem dX9_step_14 : decode cX9_step 14 = .ok (.ifCond .le 18, 3) := by decide +kernel
theorem dX9_step_17 : decode cX9_step 17 = .ok (.aload_n 0, 1) := by decide +kernel
theorem dX9_step_18 : decode cX9_step 18 = .ok (.invokevirtual 146, 3) := by decide +kernel
theorem dX9_step_21 : decode cX9_step 21 = .ok (.bipush 24, 2) := by decide +kernel
theorem dX9_step_23 : decode cX9_step 23 = .ok (.irem, 1) := by decide +kernel
theorem dX9_step_24 : decode cX9_step 24 = .ok (.iload_n 3, 1) := by decide +kernel
theorem dX9_step_25 : decode cX9_step 25 = .ok (.if_icmp .ge 7, 3) := by decide +kernel
theorem dX9_step_28 : decode cX9_step 28 = .ok (.iconst 1, 1) := by decide +kernel
theorem dX9_step_29 : decode cX9_step 29 = .ok (.goto 4, 3) := by decide +kernel
theorem dX9_step_32 : decode cX9_step 32 = .ok (.iconst 0, 1) := by decide +kernel
theorem dX9_step_33 : decode cX9_step 33 = .ok (.istore 4, 2) := by decide +kernel
theorem dX9_step_35 : decode cX9_step 35 = .ok (.aload_n 0, 1) := by decide +kernel
theorem dX9_step_36 : decode cX9_step 36 = .ok (.iload_n 1, 1) := by decide +kernel
theorem dX9_step_37 : decode cX9_step 37 = .ok (.iconst 5, 1) := by decide +kernel
theorem dX9_step_38 : decode cX9_step 38 = .ok (.invokevirtual 62, 3) := by decide +kernel
theorem dX9_step_41 : decode cX9_step 41 = .ok (.istore 5, 2) := by decide +kernel
theorem dX9_step_43 : decode cX9_step 43 = .ok (.aload_n 0, 1) := by decide +kernel
theorem dX9_step_44 : decode cX9_step 44 = .ok (.iload_n 1, 1) := by decide +kernel
theorem dX9_step_45 : decode cX9_step 45 = .ok (.iconst 4, 1) := by decide +kernel
theorem dX9_step_46 : decode cX9_step 46 = .ok (.aload_n 0, 1) := by decide +kernel
theorem dX9_step_47 : decode cX9_step 47 = .ok (.iload_n 1, 1) := by decide +kernel
theorem dX9_step_48 : decode cX9_step 48 = .ok (.iconst 4, 1) := by decide +kernel
theorem dX9_step_49 : decode cX9_step 49 = .ok (.invokevirtual 62, 3) := by decide +kernel
theorem dX9_step_52 : decode cX9_step 52 = .ok (.aload_n 0, 1) := by decide +kernel
theorem dX9_step_53 : decode cX9_step 53 = .ok (.iload_n 1, 1) := by decide +kernel
theorem dX9_step_54 : decode cX9_step 54 = .ok (.aload_n 0, 1) := by decide +kernel
theorem dX9_step_55 : decode cX9_step 55 = .ok (.iload_n 1, 1) := by decide +kernel
theorem dX9_step_56 : decode cX9_step 56 = .ok (.iload_n 2, 1) := by decide +kernel
theorem dX9_step_57 : decode cX9_step 57 = .ok (.invokevirtual 110, 3) := by decide +kernel
theorem dX9_step_60 : decode cX9_step 60 = .ok (.invokevirtual 119, 3) := by decide +kernel
theorem dX9_step_63 : decode cX9_step 63 = .ok (.iadd, 1) := by decide +kernel
theorem dX9_step_64 : decode cX9_step 64 = .ok (.iload 4, 2) := by decide +kernel
theorem dX9_step_66 : decode cX9_step 66 = .ok (.ifCond .eq 12, 3) := by decide +kernel
theorem dX9_step_69 : decode cX9_step 69 = .ok (.aload_n 0, 1) := by decide +kernel
theorem dX9_step_70 : decode cX9_step 70 = .ok (.getfield 9, 3) := by decide +kernel
theorem dX9_step_73 : decode cX9_step 73 = .ok (.iconst 0, 1) := by decide +kernel
theorem dX9_step_74 : decode cX9_step 74 = .ok (.iaload, 1) := by decide +kernel
theorem dX9_step_75 : decode cX9_step 75 = .ok (.goto 4, 3) := by decide +kernel
theorem dX9_step_78 : decode cX9_step 78 = .ok (.iconst 0, 1) := by decide +kernel
theorem dX9_step_79 : decode cX9_step 79 = .ok (.iadd, 1) := by decide +kernel
theorem dX9_step_80 : decode cX9_step 80 = .ok (.invokevirtual 77, 3) := by decide +kernel
theorem dX9_step_83 : decode cX9_step 83 = .ok (.aload_n 0, 1) := by decide +kernel
theorem dX9_step_84 : decode cX9_step 84 = .ok (.iload_n 1, 1) := by decide +kernel
theorem dX9_step_85 : decode cX9_step 85 = .ok (.iconst 5, 1) := by decide +kernel
theorem dX9_step_86 : decode cX9_step 86 = .ok (.iload 4, 2) := by decide +kernel
theorem dX9_step_88 : decode cX9_step 88 = .ok (.ifCond .eq 7, 3) := by decide +kernel
theorem dX9_step_91 : decode cX9_step 91 = .ok (.iconst 3, 1) := by decide +kernel
theorem dX9_step_92 : decode cX9_step 92 = .ok (.goto 16, 3) := by decide +kernel
theorem dX9_step_95 : decode cX9_step 95 = .ok (.iload 5, 2) := by decide +kernel
theorem dX9_step_97 : decode cX9_step 97 = .ok (.ifCond .le 10, 3) := by decide +kernel
theorem dX9_step_100 : decode cX9_step 100 = .ok (.iload 5, 2) := by decide +kernel
theorem dX9_step_102 : decode cX9_step 102 = .ok (.iconst 1, 1) := by decide +kernel
theorem dX9_step_103 : decode cX9_step 103 = .ok (.isub, 1) := by decide +kernel
theorem dX9_step_104 : decode cX9_step 104 = .ok (.goto 4, 3) := by decide +kernel
theorem dX9_step_107 : decode cX9_step 107 = .ok (.iconst 0, 1) := by decide +kernel
theorem dX9_step_108 : decode cX9_step 108 = .ok (.invokevirtual 77, 3) := by decide +kernel
theorem dX9_step_111 : decode cX9_step 111 = .ok (.aload_n 0, 1) := by decide +kernel
theorem dX9_step_112 : decode cX9_step 112 = .ok (.iload_n 1, 1) := by decide +kernel
theorem dX9_step_113 : decode cX9_step 113 = .ok (.bipush 6, 2) := by decide +kernel
theorem dX9_step_115 : decode cX9_step 115 = .ok (.aload_n 0, 1) := by decide +kernel
theorem dX9_step_116 : decode cX9_step 116 = .ok (.iload_n 1, 1) := by decide +kernel
theorem dX9_step_117 : decode cX9_step 117 = .ok (.bipush 6, 2) := by decide +kernel
theorem dX9_step_119 : decode cX9_step 119 = .ok (.invokevirtual 62, 3) := by decide +kernel
theorem dX9_step_122 : decode cX9_step 122 = .ok (.iload 4, 2) := by decide +kernel
theorem dX9_step_124 : decode cX9_step 124 = .ok (.ifCond .eq 7, 3) := by decide +kernel
theorem dX9_step_127 : decode cX9_step 127 = .ok (.iconst 1, 1) := by decide +kernel
theorem dX9_step_128 : decode cX9_step 128 = .ok (.goto 4, 3) := by decide +kernel
theorem dX9_step_131 : decode cX9_step 131 = .ok (.iconst 0, 1) := by decide +kernel
theorem dX9_step_132 : decode cX9_step 132 = .ok (.iadd, 1) := by decide +kernel
theorem dX9_step_133 : decode cX9_step 133 = .ok (.invokevirtual 77, 3) := by decide +kernel
theorem dX9_step_136 : decode cX9_step 136 = .ok (.aload_n 0, 1) := by decide +kernel
theorem dX9_step_137 : decode cX9_step 137 = .ok (.iload_n 1, 1) := by decide +kernel
theorem dX9_step_138 : decode cX9_step 138 = .ok (.iconst 3, 1) := by decide +kernel
theorem dX9_step_139 : decode cX9_step 139 = .ok (.iload_n 2, 1) := by decide +kernel
theorem dX9_step_140 : decode cX9_step 140 = .ok (.iconst 1, 1) := by decide +kernel
theorem dX9_step_141 : decode cX9_step 141 = .ok (.iadd, 1) := by decide +kernel
theorem dX9_step_142 : decode cX9_step 142 = .ok (.invokevirtual 77, 3) := by decide +kernel
theorem dX9_step_145 : decode cX9_step 145 = .ok (.iload 4, 2) := by decide +kernel
theorem dX9_step_147 : decode cX9_step 147 = .ok (.ifCond .eq 7, 3) := by decide +kernel
theorem dX9_step_150 : decode cX9_step 150 = .ok (.iconst 1, 1) := by decide +kernel
theorem dX9_step_151 : decode cX9_step 151 = .ok (.goto 4, 3) := by decide +kernel
theorem dX9_step_154 : decode cX9_step 154 = .ok (.iconst 0, 1) := by decide +kernel
theorem dX9_step_155 : decode cX9_step 155 = .ok (.ireturn, 1) := by decide +kernel
theorem dX9_stepsGo_0 : decode cX9_stepsGo 0 = .ok (.iconst 0, 1) := by decide +kernel
theorem dX9_stepsGo_1 : decode cX9_stepsGo 1 = .ok (.istore_n 2, 1) := by decide +kernel
theorem dX9_stepsGo_2 : decode cX9_stepsGo 2 = .ok (.iconst 0, 1) := by decide +kernel
theorem dX9_stepsGo_3 : decode cX9_stepsGo 3 = .ok (.istore_n 3, 1) := by decide +kernel
theorem dX9_stepsGo_4 : decode cX9_stepsGo 4 = .ok (.iload_n 3, 1) := by decide +kernel
theorem dX9_stepsGo_5 : decode cX9_stepsGo 5 = .ok (.iload_n 1, 1) := by decide +kernel
theorem dX9_stepsGo_6 : decode cX9_stepsGo 6 = .ok (.if_icmp .ge 27, 3) := by decide +kernel
theorem dX9_stepsGo_9 : decode cX9_stepsGo 9 = .ok (.aload_n 0, 1) := by decide +kernel
theorem dX9_stepsGo_10 : decode cX9_stepsGo 10 = .ok (.invokevirtual 139, 3) := by decide +kernel
theorem dX9_stepsGo_13 : decode cX9_stepsGo 13 = .ok (.ifCond .lt 20, 3) := by decide +kernel
theorem dX9_stepsGo_16 : decode cX9_stepsGo 16 = .ok (.iload_n 2, 1) := by decide +kernel
theorem dX9_stepsGo_17 : decode cX9_stepsGo 17 = .ok (.aload_n 0, 1) := by decide +kernel
theorem dX9_stepsGo_18 : decode cX9_stepsGo 18 = .ok (.aload_n 0, 1) := by decide +kernel
theorem dX9_stepsGo_19 : decode cX9_stepsGo 19 = .ok (.invokevirtual 139, 3) := by decide +kernel
theorem dX9_stepsGo_22 : decode cX9_stepsGo 22 = .ok (.invokevirtual 149, 3) := by decide +kernel
theorem dX9_stepsGo_25 : decode cX9_stepsGo 25 = .ok (.iadd, 1) := by decide +kernel
theorem dX9_stepsGo_26 : decode cX9_stepsGo 26 = .ok (.istore_n 2, 1) := by decide +kernel
theorem dX9_stepsGo_27 : decode cX9_stepsGo 27 = .ok (.iinc 3 1, 3) := by decide +kernel
theorem dX9_stepsGo_30 : decode cX9_stepsGo 30 = .ok (.goto (-26), 3) := by decide +kernel
theorem dX9_stepsGo_33 : decode cX9_stepsGo 33 = .ok (.iload_n 2, 1) := by decide +kernel
theorem dX9_stepsGo_34 : decode cX9_stepsGo 34 = .ok (.ireturn, 1) := by decide +kernel
theorem dX9_steps_0 : decode cX9_steps 0 = .ok (.iload_n 1, 1) := by decide +kernel
theorem dX9_steps_1 : decode cX9_steps 1 = .ok (.i2l, 1) := by decide +kernel
theorem dX9_steps_2 : decode cX9_steps 2 = .ok (.lconst 1, 1) := by decide +kernel
theorem dX9_steps_3 : decode cX9_steps 3 = .ok (.ldc2_w 152, 3) := by decide +kernel
theorem dX9_steps_6 : decode cX9_steps 6 = .ok (.invokestatic 54, 3) := by decide +kernel
theorem dX9_steps_9 : decode cX9_steps 9 = .ok (.ifCond .eq 11, 3) := by decide +kernel
theorem dX9_steps_12 : decode cX9_steps 12 = .ok (.aload_n 0, 1) := by decide +kernel
theorem dX9_steps_13 : decode cX9_steps 13 = .ok (.iload_n 1, 1) := by decide +kernel
theorem dX9_steps_14 : decode cX9_steps 14 = .ok (.invokevirtual 154, 3) := by decide +kernel
theorem dX9_steps_17 : decode cX9_steps 17 = .ok (.goto 9, 3) := by decide +kernel
theorem dX9_steps_20 : decode cX9_steps 20 = .ok (.aload_n 0, 1) := by decide +kernel
theorem dX9_steps_21 : decode cX9_steps 21 = .ok (.ldc 46, 2) := by decide +kernel
theorem dX9_steps_23 : decode cX9_steps 23 = .ok (.invokevirtual 48, 3) := by decide +kernel
theorem dX9_steps_26 : decode cX9_steps 26 = .ok (.ireturn, 1) := by decide +kernel
theorem dX9_home_0 : decode cX9_home 0 = .ok (.iconst 0, 1) := by decide +kernel
theorem dX9_home_1 : decode cX9_home 1 = .ok (.istore_n 1, 1) := by decide +kernel
theorem dX9_home_2 : decode cX9_home 2 = .ok (.iconst 0, 1) := by decide +kernel
theorem dX9_home_3 : decode cX9_home 3 = .ok (.istore_n 2, 1) := by decide +kernel
theorem dX9_home_4 : decode cX9_home 4 = .ok (.iload_n 2, 1) := by decide +kernel
theorem dX9_home_5 : decode cX9_home 5 = .ok (.aload_n 0, 1) := by decide +kernel
theorem dX9_home_6 : decode cX9_home 6 = .ok (.getfield 9, 3) := by decide +kernel
theorem dX9_home_9 : decode cX9_home 9 = .ok (.iconst 2, 1) := by decide +kernel
theorem dX9_home_10 : decode cX9_home 10 = .ok (.iaload, 1) := by decide +kernel
theorem dX9_home_11 : decode cX9_home 11 = .ok (.if_icmp .ge 27, 3) := by decide +kernel
theorem dX9_home_14 : decode cX9_home 14 = .ok (.iload_n 1, 1) := by decide +kernel
theorem dX9_home_15 : decode cX9_home 15 = .ok (.aload_n 0, 1) := by decide +kernel
theorem dX9_home_16 : decode cX9_home 16 = .ok (.iload_n 2, 1) := by decide +kernel
theorem dX9_home_17 : decode cX9_home 17 = .ok (.invokevirtual 126, 3) := by decide +kernel
theorem dX9_home_20 : decode cX9_home 20 = .ok (.ifCond .eq 9, 3) := by decide +kernel
theorem dX9_home_23 : decode cX9_home 23 = .ok (.iconst 1, 1) := by decide +kernel
theorem dX9_home_24 : decode cX9_home 24 = .ok (.iload_n 2, 1) := by decide +kernel
theorem dX9_home_25 : decode cX9_home 25 = .ok (.ishl, 1) := by decide +kernel
theorem dX9_home_26 : decode cX9_home 26 = .ok (.goto 4, 3) := by decide +kernel
theorem dX9_home_29 : decode cX9_home 29 = .ok (.iconst 0, 1) := by decide +kernel
theorem dX9_home_30 : decode cX9_home 30 = .ok (.ior, 1) := by decide +kernel
theorem dX9_home_31 : decode cX9_home 31 = .ok (.istore_n 1, 1) := by decide +kernel
theorem dX9_home_32 : decode cX9_home 32 = .ok (.iinc 2 1, 3) := by decide +kernel
theorem dX9_home_35 : decode cX9_home 35 = .ok (.goto (-31), 3) := by decide +kernel
theorem dX9_home_38 : decode cX9_home 38 = .ok (.iload_n 1, 1) := by decide +kernel
theorem dX9_home_39 : decode cX9_home 39 = .ok (.ireturn, 1) := by decide +kernel
theorem dX9_many_0 : decode cX9_many 0 = .ok (.iconst 0, 1) := by decide +kernel
theorem dX9_many_1 : decode cX9_many 1 = .ok (.istore_n 1, 1) := by decide +kernel
theorem dX9_many_2 : decode cX9_many 2 = .ok (.iconst 0, 1) := by decide +kernel
theorem dX9_many_3 : decode cX9_many 3 = .ok (.istore_n 2, 1) := by decide +kernel
theorem dX9_many_4 : decode cX9_many 4 = .ok (.iload_n 2, 1) := by decide +kernel
theorem dX9_many_5 : decode cX9_many 5 = .ok (.bipush 6, 2) := by decide +kernel
theorem dX9_many_7 : decode cX9_many 7 = .ok (.if_icmp .ge 17, 3) := by decide +kernel
theorem dX9_many_10 : decode cX9_many 10 = .ok (.iload_n 1, 1) := by decide +kernel
theorem dX9_many_11 : decode cX9_many 11 = .ok (.iload_n 0, 1) := by decide +kernel
theorem dX9_many_12 : decode cX9_many 12 = .ok (.iload_n 2, 1) := by decide +kernel
theorem dX9_many_13 : decode cX9_many 13 = .ok (.ishr, 1) := by decide +kernel
theorem dX9_many_14 : decode cX9_many 14 = .ok (.iconst 1, 1) := by decide +kernel
theorem dX9_many_15 : decode cX9_many 15 = .ok (.iand, 1) := by decide +kernel
theorem dX9_many_16 : decode cX9_many 16 = .ok (.iadd, 1) := by decide +kernel
theorem dX9_many_17 : decode cX9_many 17 = .ok (.istore_n 1, 1) := by decide +kernel
theorem dX9_many_18 : decode cX9_many 18 = .ok (.iinc 2 1, 3) := by decide +kernel
theorem dX9_many_21 : decode cX9_many 21 = .ok (.goto (-17), 3) := by decide +kernel
theorem dX9_many_24 : decode cX9_many 24 = .ok (.iload_n 1, 1) := by decide +kernel
theorem dX9_many_25 : decode cX9_many 25 = .ok (.ireturn, 1) := by decide +kernel
theorem dX9_starts_0 : decode cX9_starts 0 = .ok (.iconst 0, 1) := by decide +kernel
theorem dX9_starts_1 : decode cX9_starts 1 = .ok (.istore_n 1, 1) := by decide +kernel
theorem dX9_starts_2 : decode cX9_starts 2 = .ok (.iload_n 1, 1) := by decide +kernel
theorem dX9_starts_3 : decode cX9_starts 3 = .ok (.aload_n 0, 1) := by decide +kernel
theorem dX9_starts_4 : decode cX9_starts 4 = .ok (.getfield 9, 3) := by decide +kernel
theorem dX9_starts_7 : decode cX9_starts 7 = .ok (.iconst 2, 1) := by decide +kernel
theorem dX9_starts_8 : decode cX9_starts 8 = .ok (.iaload, 1) := by decide +kernel
theorem dX9_starts_9 : decode cX9_starts 9 = .ok (.if_icmp .ge 30, 3) := by decide +kernel
theorem dX9_starts_12 : decode cX9_starts 12 = .ok (.iconst 3, 1) := by decide +kernel
theorem dX9_starts_13 : decode cX9_starts 13 = .ok (.istore_n 2, 1) := by decide +kernel
theorem dX9_starts_14 : decode cX9_starts 14 = .ok (.iload_n 2, 1) := by decide +kernel
theorem dX9_starts_15 : decode cX9_starts 15 = .ok (.bipush 6, 2) := by decide +kernel
theorem dX9_starts_17 : decode cX9_starts 17 = .ok (.if_icmp .gt 16, 3) := by decide +kernel
theorem dX9_starts_20 : decode cX9_starts 20 = .ok (.aload_n 0, 1) := by decide +kernel
theorem dX9_starts_21 : decode cX9_starts 21 = .ok (.iload_n 1, 1) := by decide +kernel
theorem dX9_starts_22 : decode cX9_starts 22 = .ok (.iload_n 2, 1) := by decide +kernel
theorem dX9_starts_23 : decode cX9_starts 23 = .ok (.iconst 0, 1) := by decide +kernel
theorem dX9_starts_24 : decode cX9_starts 24 = .ok (.invokevirtual 77, 3) := by decide +kernel
theorem dX9_starts_27 : decode cX9_starts 27 = .ok (.iinc 2 1, 3) := by decide +kernel
theorem dX9_starts_30 : decode cX9_starts 30 = .ok (.goto (-16), 3) := by decide +kernel
theorem dX9_starts_33 : decode cX9_starts 33 = .ok (.iinc 1 1, 3) := by decide +kernel
theorem dX9_starts_36 : decode cX9_starts 36 = .ok (.goto (-34), 3) := by decide +kernel
theorem dX9_starts_39 : decode cX9_starts 39 = .ok (.return_, 1) := by decide +kernel
theorem dX9_start_0 : decode cX9_start 0 = .ok (.aload_n 0, 1) := by decide +kernel
theorem dX9_start_1 : decode cX9_start 1 = .ok (.invokevirtual 157, 3) := by decide +kernel
theorem dX9_start_4 : decode cX9_start 4 = .ok (.invokestatic 160, 3) := by decide +kernel
theorem dX9_start_7 : decode cX9_start 7 = .ok (.istore_n 1, 1) := by decide +kernel
theorem dX9_start_8 : decode cX9_start 8 = .ok (.aload_n 0, 1) := by decide +kernel
theorem dX9_start_9 : decode cX9_start 9 = .ok (.invokevirtual 163, 3) := by decide +kernel
theorem dX9_start_12 : decode cX9_start 12 = .ok (.iload_n 1, 1) := by decide +kernel
theorem dX9_start_13 : decode cX9_start 13 = .ok (.ireturn, 1) := by decide +kernel
theorem dX9_ahead_0 : decode cX9_ahead 0 = .ok (.iload_n 1, 1) := by decide +kernel
theorem dX9_ahead_1 : decode cX9_ahead 1 = .ok (.i2l, 1) := by decide +kernel
theorem dX9_ahead_2 : decode cX9_ahead 2 = .ok (.lconst 0, 1) := by decide +kernel
theorem dX9_ahead_3 : decode cX9_ahead 3 = .ok (.ldc2_w 152, 3) := by decide +kernel
theorem dX9_ahead_6 : decode cX9_ahead 6 = .ok (.invokestatic 54, 3) := by decide +kernel
theorem dX9_ahead_9 : decode cX9_ahead 9 = .ok (.ifCond .eq 21, 3) := by decide +kernel
theorem dX9_ahead_12 : decode cX9_ahead 12 = .ok (.iload_n 2, 1) := by decide +kernel
theorem dX9_ahead_13 : decode cX9_ahead 13 = .ok (.i2l, 1) := by decide +kernel
theorem dX9_ahead_14 : decode cX9_ahead 14 = .ok (.lconst 0, 1) := by decide +kernel
theorem dX9_ahead_15 : decode cX9_ahead 15 = .ok (.iconst 2, 1) := by decide +kernel
theorem dX9_ahead_16 : decode cX9_ahead 16 = .ok (.aload_n 0, 1) := by decide +kernel
theorem dX9_ahead_17 : decode cX9_ahead 17 = .ok (.getfield 9, 3) := by decide +kernel
theorem dX9_ahead_20 : decode cX9_ahead 20 = .ok (.iconst 2, 1) := by decide +kernel
theorem dX9_ahead_21 : decode cX9_ahead 21 = .ok (.iaload, 1) := by decide +kernel
theorem dX9_ahead_22 : decode cX9_ahead 22 = .ok (.iadd, 1) := by decide +kernel
theorem dX9_ahead_23 : decode cX9_ahead 23 = .ok (.i2l, 1) := by decide +kernel
theorem dX9_ahead_24 : decode cX9_ahead 24 = .ok (.invokestatic 54, 3) := by decide +kernel
theorem dX9_ahead_27 : decode cX9_ahead 27 = .ok (.ifCond .ne 10, 3) := by decide +kernel
theorem dX9_ahead_30 : decode cX9_ahead 30 = .ok (.aload_n 0, 1) := by decide +kernel
theorem dX9_ahead_31 : decode cX9_ahead 31 = .ok (.ldc 46, 2) := by decide +kernel
theorem dX9_ahead_33 : decode cX9_ahead 33 = .ok (.invokevirtual 48, 3) := by decide +kernel
theorem dX9_ahead_36 : decode cX9_ahead 36 = .ok (.ireturn, 1) := by decide +kernel
theorem dX9_ahead_37 : decode cX9_ahead 37 = .ok (.aload_n 0, 1) := by decide +kernel
theorem dX9_ahead_38 : decode cX9_ahead 38 = .ok (.getfield 9, 3) := by decide +kernel
theorem dX9_ahead_41 : decode cX9_ahead 41 = .ok (.aload_n 0, 1) := by decide +kernel
theorem dX9_ahead_42 : decode cX9_ahead 42 = .ok (.getfield 16, 3) := by decide +kernel
theorem dX9_ahead_45 : decode cX9_ahead 45 = .ok (.invokestatic 166, 3) := by decide +kernel
theorem dX9_ahead_48 : decode cX9_ahead 48 = .ok (.aload_n 0, 1) := by decide +kernel
theorem dX9_ahead_49 : decode cX9_ahead 49 = .ok (.iload_n 1, 1) := by decide +kernel
theorem dX9_ahead_50 : decode cX9_ahead 50 = .ok (.invokevirtual 154, 3) := by decide +kernel
theorem dX9_ahead_53 : decode cX9_ahead 53 = .ok (.istore_n 3, 1) := by decide +kernel
theorem dX9_ahead_54 : decode cX9_ahead 54 = .ok (.iload_n 2, 1) := by decide +kernel
theorem dX9_ahead_55 : decode cX9_ahead 55 = .ok (.ifCond .ne 10, 3) := by decide +kernel
theorem dX9_ahead_58 : decode cX9_ahead 58 = .ok (.aload_n 0, 1) := by decide +kernel
theorem dX9_ahead_59 : decode cX9_ahead 59 = .ok (.invokevirtual 157, 3) := by decide +kernel
theorem dX9_ahead_62 : decode cX9_ahead 62 = .ok (.goto 32, 3) := by decide +kernel
theorem dX9_ahead_65 : decode cX9_ahead 65 = .ok (.iload_n 2, 1) := by decide +kernel
theorem dX9_ahead_66 : decode cX9_ahead 66 = .ok (.iconst 1, 1) := by decide +kernel
theorem dX9_ahead_67 : decode cX9_ahead 67 = .ok (.if_icmp .ne 7, 3) := by decide +kernel
theorem dX9_ahead_70 : decode cX9_ahead 70 = .ok (.iload_n 3, 1) := by decide +kernel
theorem dX9_ahead_71 : decode cX9_ahead 71 = .ok (.goto 23, 3) := by decide +kernel
theorem dX9_ahead_74 : decode cX9_ahead 74 = .ok (.iload_n 2, 1) := by decide +kernel
theorem dX9_ahead_75 : decode cX9_ahead 75 = .ok (.iconst 2, 1) := by decide +kernel
theorem dX9_ahead_76 : decode cX9_ahead 76 = .ok (.if_icmp .ne 10, 3) := by decide +kernel
theorem dX9_ahead_79 : decode cX9_ahead 79 = .ok (.aload_n 0, 1) := by decide +kernel
theorem dX9_ahead_80 : decode cX9_ahead 80 = .ok (.invokevirtual 139, 3) := by decide +kernel
theorem dX9_ahead_83 : decode cX9_ahead 83 = .ok (.goto 11, 3) := by decide +kernel
theorem dX9_ahead_86 : decode cX9_ahead 86 = .ok (.aload_n 0, 1) := by decide +kernel
theorem dX9_ahead_87 : decode cX9_ahead 87 = .ok (.iload_n 2, 1) := by decide +kernel
theorem dX9_ahead_88 : decode cX9_ahead 88 = .ok (.iconst 3, 1) := by decide +kernel
theorem dX9_ahead_89 : decode cX9_ahead 89 = .ok (.isub, 1) := by decide +kernel
theorem dX9_ahead_90 : decode cX9_ahead 90 = .ok (.iconst 4, 1) := by decide +kernel
theorem dX9_ahead_91 : decode cX9_ahead 91 = .ok (.invokevirtual 62, 3) := by decide +kernel
theorem dX9_ahead_94 : decode cX9_ahead 94 = .ok (.istore 4, 2) := by decide +kernel
theorem dX9_ahead_96 : decode cX9_ahead 96 = .ok (.aload_n 0, 1) := by decide +kernel
theorem dX9_ahead_97 : decode cX9_ahead 97 = .ok (.getfield 16, 3) := by decide +kernel
theorem dX9_ahead_100 : decode cX9_ahead 100 = .ok (.aload_n 0, 1) := by decide +kernel
theorem dX9_ahead_101 : decode cX9_ahead 101 = .ok (.getfield 9, 3) := by decide +kernel
theorem dX9_ahead_104 : decode cX9_ahead 104 = .ok (.invokestatic 166, 3) := by decide +kernel
theorem dX9_ahead_107 : decode cX9_ahead 107 = .ok (.iload 4, 2) := by decide +kernel
theorem dX9_ahead_109 : decode cX9_ahead 109 = .ok (.ireturn, 1) := by decide +kernel
theorem dX9_isAhead_0 : decode cX9_isAhead 0 = .ok (.aload_n 0, 1) := by decide +kernel
theorem dX9_isAhead_1 : decode cX9_isAhead 1 = .ok (.iload_n 1, 1) := by decide +kernel
theorem dX9_isAhead_2 : decode cX9_isAhead 2 = .ok (.iconst 4, 1) := by decide +kernel
theorem dX9_isAhead_3 : decode cX9_isAhead 3 = .ok (.invokevirtual 62, 3) := by decide +kernel
theorem dX9_isAhead_6 : decode cX9_isAhead 6 = .ok (.aload_n 0, 1) := by decide +kernel
theorem dX9_isAhead_7 : decode cX9_isAhead 7 = .ok (.iload_n 2, 1) := by decide +kernel
theorem dX9_isAhead_8 : decode cX9_isAhead 8 = .ok (.iconst 4, 1) := by decide +kernel
theorem dX9_isAhead_9 : decode cX9_isAhead 9 = .ok (.invokevirtual 62, 3) := by decide +kernel
theorem dX9_isAhead_12 : decode cX9_isAhead 12 = .ok (.if_icmp .lt 23, 3) := by decide +kernel
theorem dX9_isAhead_15 : decode cX9_isAhead 15 = .ok (.aload_n 0, 1) := by decide +kernel
theorem dX9_isAhead_16 : decode cX9_isAhead 16 = .ok (.iload_n 1, 1) := by decide +kernel
theorem dX9_isAhead_17 : decode cX9_isAhead 17 = .ok (.iconst 4, 1) := by decide +kernel
theorem dX9_isAhead_18 : decode cX9_isAhead 18 = .ok (.invokevirtual 62, 3) := by decide +kernel
theorem dX9_isAhead_21 : decode cX9_isAhead 21 = .ok (.aload_n 0, 1) := by decide +kernel
theorem dX9_isAhead_22 : decode cX9_isAhead 22 = .ok (.iload_n 2, 1) := by decide +kernel
theorem dX9_isAhead_23 : decode cX9_isAhead 23 = .ok (.iconst 4, 1) := by decide +kernel
theorem dX9_isAhead_24 : decode cX9_isAhead 24 = .ok (.invokevirtual 62, 3) := by decide +kernel
theorem dX9_isAhead_27 : decode cX9_isAhead 27 = .ok (.if_icmp .ne 12, 3) := by decide +kernel
theorem dX9_isAhead_30 : decode cX9_isAhead 30 = .ok (.iload_n 1, 1) := by decide +kernel
theorem dX9_isAhead_31 : decode cX9_isAhead 31 = .ok (.iload_n 2, 1) := by decide +kernel
theorem dX9_isAhead_32 : decode cX9_isAhead 32 = .ok (.if_icmp .ge 7, 3) := by decide +kernel
theorem dX9_isAhead_35 : decode cX9_isAhead 35 = .ok (.iconst 1, 1) := by decide +kernel
theorem dX9_isAhead_36 : decode cX9_isAhead 36 = .ok (.goto 4, 3) := by decide +kernel
theorem dX9_isAhead_39 : decode cX9_isAhead 39 = .ok (.iconst 0, 1) := by decide +kernel
theorem dX9_isAhead_40 : decode cX9_isAhead 40 = .ok (.ireturn, 1) := by decide +kernel
theorem dX9_firstHome_0 : decode cX9_firstHome 0 = .ok (.iconst (-1), 1) := by decide +kernel
theorem dX9_firstHome_1 : decode cX9_firstHome 1 = .ok (.istore_n 1, 1) := by decide +kernel
theorem dX9_firstHome_2 : decode cX9_firstHome 2 = .ok (.iconst 0, 1) := by decide +kernel
theorem dX9_firstHome_3 : decode cX9_firstHome 3 = .ok (.istore_n 2, 1) := by decide +kernel
theorem dX9_firstHome_4 : decode cX9_firstHome 4 = .ok (.iload_n 2, 1) := by decide +kernel
theorem dX9_firstHome_5 : decode cX9_firstHome 5 = .ok (.aload_n 0, 1) := by decide +kernel
theorem dX9_firstHome_6 : decode cX9_firstHome 6 = .ok (.getfield 9, 3) := by decide +kernel
theorem dX9_firstHome_9 : decode cX9_firstHome 9 = .ok (.iconst 2, 1) := by decide +kernel
theorem dX9_firstHome_10 : decode cX9_firstHome 10 = .ok (.iaload, 1) := by decide +kernel
theorem dX9_firstHome_11 : decode cX9_firstHome 11 = .ok (.if_icmp .ge 24, 3) := by decide +kernel
theorem dX9_firstHome_14 : decode cX9_firstHome 14 = .ok (.iload_n 1, 1) := by decide +kernel
theorem dX9_firstHome_15 : decode cX9_firstHome 15 = .ok (.ifCond .lt 12, 3) := by decide +kernel
theorem dX9_firstHome_18 : decode cX9_firstHome 18 = .ok (.aload_n 0, 1) := by decide +kernel
theorem dX9_firstHome_19 : decode cX9_firstHome 19 = .ok (.iload_n 2, 1) := by decide +kernel
theorem dX9_firstHome_20 : decode cX9_firstHome 20 = .ok (.iload_n 1, 1) := by decide +kernel
theorem dX9_firstHome_21 : decode cX9_firstHome 21 = .ok (.invokevirtual 170, 3) := by decide +kernel
theorem dX9_firstHome_24 : decode cX9_firstHome 24 = .ok (.ifCond .eq 5, 3) := by decide +kernel
theorem dX9_firstHome_27 : decode cX9_firstHome 27 = .ok (.iload_n 2, 1) := by decide +kernel
theorem dX9_firstHome_28 : decode cX9_firstHome 28 = .ok (.istore_n 1, 1) := by decide +kernel
theorem dX9_firstHome_29 : decode cX9_firstHome 29 = .ok (.iinc 2 1, 3) := by decide +kernel
theorem dX9_firstHome_32 : decode cX9_firstHome 32 = .ok (.goto (-28), 3) := by decide +kernel
theorem dX9_firstHome_35 : decode cX9_firstHome 35 = .ok (.iload_n 1, 1) := by decide +kernel
theorem dX9_firstHome_36 : decode cX9_firstHome 36 = .ok (.ireturn, 1) := by decide +kernel
theorem dX9_allGoHome_0 : decode cX9_allGoHome 0 = .ok (.aload_n 0, 1) := by decide +kernel
theorem dX9_allGoHome_1 : decode cX9_allGoHome 1 = .ok (.sipush 180, 3) := by decide +kernel
theorem dX9_allGoHome_4 : decode cX9_allGoHome 4 = .ok (.invokevirtual 154, 3) := by decide +kernel
theorem dX9_allGoHome_7 : decode cX9_allGoHome 7 = .ok (.pop, 1) := by decide +kernel
theorem dX9_allGoHome_8 : decode cX9_allGoHome 8 = .ok (.return_, 1) := by decide +kernel
theorem dX9_winner_0 : decode cX9_winner 0 = .ok (.aload_n 0, 1) := by decide +kernel
theorem dX9_winner_1 : decode cX9_winner 1 = .ok (.getfield 9, 3) := by decide +kernel
theorem dX9_winner_4 : decode cX9_winner 4 = .ok (.aload_n 0, 1) := by decide +kernel
theorem dX9_winner_5 : decode cX9_winner 5 = .ok (.getfield 16, 3) := by decide +kernel
theorem dX9_winner_8 : decode cX9_winner 8 = .ok (.invokestatic 166, 3) := by decide +kernel
theorem dX9_winner_11 : decode cX9_winner 11 = .ok (.aload_n 0, 1) := by decide +kernel
theorem dX9_winner_12 : decode cX9_winner 12 = .ok (.invokevirtual 173, 3) := by decide +kernel
theorem dX9_winner_15 : decode cX9_winner 15 = .ok (.aload_n 0, 1) := by decide +kernel
theorem dX9_winner_16 : decode cX9_winner 16 = .ok (.invokevirtual 176, 3) := by decide +kernel
theorem dX9_winner_19 : decode cX9_winner 19 = .ok (.istore_n 1, 1) := by decide +kernel
theorem dX9_winner_20 : decode cX9_winner 20 = .ok (.aload_n 0, 1) := by decide +kernel
theorem dX9_winner_21 : decode cX9_winner 21 = .ok (.getfield 16, 3) := by decide +kernel
theorem dX9_winner_24 : decode cX9_winner 24 = .ok (.aload_n 0, 1) := by decide +kernel
theorem dX9_winner_25 : decode cX9_winner 25 = .ok (.getfield 9, 3) := by decide +kernel
theorem dX9_winner_28 : decode cX9_winner 28 = .ok (.invokestatic 166, 3) := by decide +kernel
theorem dX9_winner_31 : decode cX9_winner 31 = .ok (.aload_n 0, 1) := by decide +kernel
theorem dX9_winner_32 : decode cX9_winner 32 = .ok (.iload_n 1, 1) := by decide +kernel
theorem dX9_winner_33 : decode cX9_winner 33 = .ok (.invokevirtual 143, 3) := by decide +kernel
theorem dX9_winner_36 : decode cX9_winner 36 = .ok (.ireturn, 1) := by decide +kernel
theorem dX9_place_0 : decode cX9_place 0 = .ok (.aload_n 0, 1) := by decide +kernel
theorem dX9_place_1 : decode cX9_place 1 = .ok (.iload_n 1, 1) := by decide +kernel
theorem dX9_place_2 : decode cX9_place 2 = .ok (.invokevirtual 91, 3) := by decide +kernel
theorem dX9_place_5 : decode cX9_place 5 = .ok (.ifCond .ne 10, 3) := by decide +kernel
theorem dX9_place_8 : decode cX9_place 8 = .ok (.aload_n 0, 1) := by decide +kernel
theorem dX9_place_9 : decode cX9_place 9 = .ok (.ldc 46, 2) := by decide +kernel
theorem dX9_place_11 : decode cX9_place 11 = .ok (.invokevirtual 48, 3) := by decide +kernel
theorem dX9_place_14 : decode cX9_place 14 = .ok (.ireturn, 1) := by decide +kernel
theorem dX9_place_15 : decode cX9_place 15 = .ok (.aload_n 0, 1) := by decide +kernel
theorem dX9_place_16 : decode cX9_place 16 = .ok (.getfield 9, 3) := by decide +kernel
theorem dX9_place_19 : decode cX9_place 19 = .ok (.aload_n 0, 1) := by decide +kernel
theorem dX9_place_20 : decode cX9_place 20 = .ok (.getfield 16, 3) := by decide +kernel
theorem dX9_place_23 : decode cX9_place 23 = .ok (.invokestatic 166, 3) := by decide +kernel
theorem dX9_place_26 : decode cX9_place 26 = .ok (.aload_n 0, 1) := by decide +kernel
theorem dX9_place_27 : decode cX9_place 27 = .ok (.invokevirtual 173, 3) := by decide +kernel
theorem dX9_place_30 : decode cX9_place 30 = .ok (.iconst 1, 1) := by decide +kernel
theorem dX9_place_31 : decode cX9_place 31 = .ok (.istore_n 2, 1) := by decide +kernel
theorem dX9_place_32 : decode cX9_place 32 = .ok (.iconst 0, 1) := by decide +kernel
theorem dX9_place_33 : decode cX9_place 33 = .ok (.istore_n 3, 1) := by decide +kernel
theorem dX9_place_34 : decode cX9_place 34 = .ok (.iload_n 3, 1) := by decide +kernel
theorem dX9_place_35 : decode cX9_place 35 = .ok (.aload_n 0, 1) := by decide +kernel
theorem dX9_place_36 : decode cX9_place 36 = .ok (.getfield 9, 3) := by decide +kernel
theorem dX9_place_39 : decode cX9_place 39 = .ok (.iconst 2, 1) := by decide +kernel
theorem dX9_place_40 : decode cX9_place 40 = .ok (.iaload, 1) := by decide +kernel
theorem dX9_place_41 : decode cX9_place 41 = .ok (.if_icmp .ge 31, 3) := by decide +kernel
theorem dX9_place_44 : decode cX9_place 44 = .ok (.iload_n 2, 1) := by decide +kernel
theorem dX9_place_45 : decode cX9_place 45 = .ok (.iload_n 3, 1) := by decide +kernel
theorem dX9_place_46 : decode cX9_place 46 = .ok (.iload_n 1, 1) := by decide +kernel
theorem dX9_place_47 : decode cX9_place 47 = .ok (.if_icmp .eq 16, 3) := by decide +kernel
theorem dX9_place_50 : decode cX9_place 50 = .ok (.aload_n 0, 1) := by decide +kernel
theorem dX9_place_51 : decode cX9_place 51 = .ok (.iload_n 3, 1) := by decide +kernel
theorem dX9_place_52 : decode cX9_place 52 = .ok (.iload_n 1, 1) := by decide +kernel
theorem dX9_place_53 : decode cX9_place 53 = .ok (.invokevirtual 170, 3) := by decide +kernel
theorem dX9_place_56 : decode cX9_place 56 = .ok (.ifCond .eq 7, 3) := by decide +kernel
theorem dX9_place_59 : decode cX9_place 59 = .ok (.iconst 1, 1) := by decide +kernel
theorem dX9_place_60 : decode cX9_place 60 = .ok (.goto 4, 3) := by decide +kernel
theorem dX9_place_63 : decode cX9_place 63 = .ok (.iconst 0, 1) := by decide +kernel
theorem dX9_place_64 : decode cX9_place 64 = .ok (.iadd, 1) := by decide +kernel
theorem dX9_place_65 : decode cX9_place 65 = .ok (.istore_n 2, 1) := by decide +kernel
theorem dX9_place_66 : decode cX9_place 66 = .ok (.iinc 3 1, 3) := by decide +kernel
theorem dX9_place_69 : decode cX9_place 69 = .ok (.goto (-35), 3) := by decide +kernel
theorem dX9_place_72 : decode cX9_place 72 = .ok (.aload_n 0, 1) := by decide +kernel
theorem dX9_place_73 : decode cX9_place 73 = .ok (.getfield 16, 3) := by decide +kernel
theorem dX9_place_76 : decode cX9_place 76 = .ok (.aload_n 0, 1) := by decide +kernel
theorem dX9_place_77 : decode cX9_place 77 = .ok (.getfield 9, 3) := by decide +kernel
theorem dX9_place_80 : decode cX9_place 80 = .ok (.invokestatic 166, 3) := by decide +kernel
theorem dX9_place_83 : decode cX9_place 83 = .ok (.iload_n 2, 1) := by decide +kernel
theorem dX9_place_84 : decode cX9_place 84 = .ok (.ireturn, 1) := by decide +kernel
theorem dX9_wins_0 : decode cX9_wins 0 = .ok (.aload_n 0, 1) := by decide +kernel
theorem dX9_wins_1 : decode cX9_wins 1 = .ok (.iload_n 1, 1) := by decide +kernel
theorem dX9_wins_2 : decode cX9_wins 2 = .ok (.invokevirtual 91, 3) := by decide +kernel
theorem dX9_wins_5 : decode cX9_wins 5 = .ok (.ifCond .eq 15, 3) := by decide +kernel
theorem dX9_wins_8 : decode cX9_wins 8 = .ok (.iload_n 2, 1) := by decide +kernel
theorem dX9_wins_9 : decode cX9_wins 9 = .ok (.i2l, 1) := by decide +kernel
theorem dX9_wins_10 : decode cX9_wins 10 = .ok (.lconst 1, 1) := by decide +kernel
theorem dX9_wins_11 : decode cX9_wins 11 = .ok (.ldc2_w 179, 3) := by decide +kernel
theorem dX9_wins_14 : decode cX9_wins 14 = .ok (.invokestatic 54, 3) := by decide +kernel
theorem dX9_wins_17 : decode cX9_wins 17 = .ok (.ifCond .ne 10, 3) := by decide +kernel
theorem dX9_wins_20 : decode cX9_wins 20 = .ok (.aload_n 0, 1) := by decide +kernel
theorem dX9_wins_21 : decode cX9_wins 21 = .ok (.ldc 46, 2) := by decide +kernel
theorem dX9_wins_23 : decode cX9_wins 23 = .ok (.invokevirtual 48, 3) := by decide +kernel
theorem dX9_wins_26 : decode cX9_wins 26 = .ok (.ireturn, 1) := by decide +kernel
theorem dX9_wins_27 : decode cX9_wins 27 = .ok (.aload_n 0, 1) := by decide +kernel
theorem dX9_wins_28 : decode cX9_wins 28 = .ok (.getfield 9, 3) := by decide +kernel
theorem dX9_wins_31 : decode cX9_wins 31 = .ok (.aload_n 0, 1) := by decide +kernel
theorem dX9_wins_32 : decode cX9_wins 32 = .ok (.getfield 16, 3) := by decide +kernel
theorem dX9_wins_35 : decode cX9_wins 35 = .ok (.invokestatic 166, 3) := by decide +kernel
theorem dX9_wins_38 : decode cX9_wins 38 = .ok (.iconst 0, 1) := by decide +kernel
theorem dX9_wins_39 : decode cX9_wins 39 = .ok (.istore_n 3, 1) := by decide +kernel
theorem dX9_wins_40 : decode cX9_wins 40 = .ok (.iconst 0, 1) := by decide +kernel
theorem dX9_wins_41 : decode cX9_wins 41 = .ok (.istore 4, 2) := by decide +kernel
theorem dX9_wins_43 : decode cX9_wins 43 = .ok (.iload 4, 2) := by decide +kernel
theorem dX9_wins_45 : decode cX9_wins 45 = .ok (.iload_n 2, 1) := by decide +kernel
theorem dX9_wins_46 : decode cX9_wins 46 = .ok (.if_icmp .ge 33, 3) := by decide +kernel
theorem dX9_wins_49 : decode cX9_wins 49 = .ok (.aload_n 0, 1) := by decide +kernel
theorem dX9_wins_50 : decode cX9_wins 50 = .ok (.invokevirtual 163, 3) := by decide +kernel
theorem dX9_wins_53 : decode cX9_wins 53 = .ok (.aload_n 0, 1) := by decide +kernel
theorem dX9_wins_54 : decode cX9_wins 54 = .ok (.invokevirtual 173, 3) := by decide +kernel
theorem dX9_wins_57 : decode cX9_wins 57 = .ok (.iload_n 3, 1) := by decide +kernel
theorem dX9_wins_58 : decode cX9_wins 58 = .ok (.aload_n 0, 1) := by decide +kernel
theorem dX9_wins_59 : decode cX9_wins 59 = .ok (.invokevirtual 176, 3) := by decide +kernel
theorem dX9_wins_62 : decode cX9_wins 62 = .ok (.iload_n 1, 1) := by decide +kernel
theorem dX9_wins_63 : decode cX9_wins 63 = .ok (.if_icmp .ne 7, 3) := by decide +kernel
theorem dX9_wins_66 : decode cX9_wins 66 = .ok (.iconst 1, 1) := by decide +kernel
theorem dX9_wins_67 : decode cX9_wins 67 = .ok (.goto 4, 3) := by decide +kernel
theorem dX9_wins_70 : decode cX9_wins 70 = .ok (.iconst 0, 1) := by decide +kernel
theorem dX9_wins_71 : decode cX9_wins 71 = .ok (.iadd, 1) := by decide +kernel
theorem dX9_wins_72 : decode cX9_wins 72 = .ok (.istore_n 3, 1) := by decide +kernel
theorem dX9_wins_73 : decode cX9_wins 73 = .ok (.iinc 4 1, 3) := by decide +kernel
theorem dX9_wins_76 : decode cX9_wins 76 = .ok (.goto (-33), 3) := by decide +kernel
theorem dX9_wins_79 : decode cX9_wins 79 = .ok (.aload_n 0, 1) := by decide +kernel
theorem dX9_wins_80 : decode cX9_wins 80 = .ok (.getfield 9, 3) := by decide +kernel
theorem dX9_wins_83 : decode cX9_wins 83 = .ok (.iconst 1, 1) := by decide +kernel
theorem dX9_wins_84 : decode cX9_wins 84 = .ok (.iaload, 1) := by decide +kernel
theorem dX9_wins_85 : decode cX9_wins 85 = .ok (.istore 4, 2) := by decide +kernel
theorem dX9_wins_87 : decode cX9_wins 87 = .ok (.aload_n 0, 1) := by decide +kernel
theorem dX9_wins_88 : decode cX9_wins 88 = .ok (.getfield 16, 3) := by decide +kernel
theorem dX9_wins_91 : decode cX9_wins 91 = .ok (.aload_n 0, 1) := by decide +kernel
theorem dX9_wins_92 : decode cX9_wins 92 = .ok (.getfield 9, 3) := by decide +kernel
theorem dX9_wins_95 : decode cX9_wins 95 = .ok (.invokestatic 166, 3) := by decide +kernel
theorem dX9_wins_98 : decode cX9_wins 98 = .ok (.aload_n 0, 1) := by decide +kernel
theorem dX9_wins_99 : decode cX9_wins 99 = .ok (.getfield 9, 3) := by decide +kernel
theorem dX9_wins_102 : decode cX9_wins 102 = .ok (.iconst 1, 1) := by decide +kernel
theorem dX9_wins_103 : decode cX9_wins 103 = .ok (.iload 4, 2) := by decide +kernel
theorem dX9_wins_105 : decode cX9_wins 105 = .ok (.iastore, 1) := by decide +kernel
theorem dX9_wins_106 : decode cX9_wins 106 = .ok (.iload_n 3, 1) := by decide +kernel
theorem dX9_wins_107 : decode cX9_wins 107 = .ok (.ireturn, 1) := by decide +kernel
theorem dX9_isStretch_0 : decode cX9_isStretch 0 = .ok (.aload_n 0, 1) := by decide +kernel
theorem dX9_isStretch_1 : decode cX9_isStretch 1 = .ok (.iload_n 1, 1) := by decide +kernel
theorem dX9_isStretch_2 : decode cX9_isStretch 2 = .ok (.invokevirtual 91, 3) := by decide +kernel
theorem dX9_isStretch_5 : decode cX9_isStretch 5 = .ok (.ifCond .eq 34, 3) := by decide +kernel
theorem dX9_isStretch_8 : decode cX9_isStretch 8 = .ok (.iload_n 2, 1) := by decide +kernel
theorem dX9_isStretch_9 : decode cX9_isStretch 9 = .ok (.invokestatic 66, 3) := by decide +kernel
theorem dX9_isStretch_12 : decode cX9_isStretch 12 = .ok (.ifCond .eq 27, 3) := by decide +kernel
theorem dX9_isStretch_15 : decode cX9_isStretch 15 = .ok (.iload_n 3, 1) := by decide +kernel
theorem dX9_isStretch_16 : decode cX9_isStretch 16 = .ok (.i2l, 1) := by decide +kernel
theorem dX9_isStretch_17 : decode cX9_isStretch 17 = .ok (.lconst 0, 1) := by decide +kernel
theorem dX9_isStretch_18 : decode cX9_isStretch 18 = .ok (.iload 4, 2) := by decide +kernel
theorem dX9_isStretch_20 : decode cX9_isStretch 20 = .ok (.i2l, 1) := by decide +kernel
theorem dX9_isStretch_21 : decode cX9_isStretch 21 = .ok (.invokestatic 54, 3) := by decide +kernel
theorem dX9_isStretch_24 : decode cX9_isStretch 24 = .ok (.ifCond .eq 15, 3) := by decide +kernel
theorem dX9_isStretch_27 : decode cX9_isStretch 27 = .ok (.iload_n 2, 1) := by decide +kernel
theorem dX9_isStretch_28 : decode cX9_isStretch 28 = .ok (.iload_n 3, 1) := by decide +kernel
theorem dX9_isStretch_29 : decode cX9_isStretch 29 = .ok (.iadd, 1) := by decide +kernel
theorem dX9_isStretch_30 : decode cX9_isStretch 30 = .ok (.bipush 30, 2) := by decide +kernel
theorem dX9_isStretch_32 : decode cX9_isStretch 32 = .ok (.if_icmp .gt 7, 3) := by decide +kernel
theorem dX9_isStretch_35 : decode cX9_isStretch 35 = .ok (.iconst 1, 1) := by decide +kernel
theorem dX9_isStretch_36 : decode cX9_isStretch 36 = .ok (.goto 4, 3) := by decide +kernel
theorem dX9_isStretch_39 : decode cX9_isStretch 39 = .ok (.iconst 0, 1) := by decide +kernel
theorem dX9_isStretch_40 : decode cX9_isStretch 40 = .ok (.ireturn, 1) := by decide +kernel
theorem dX9_oddsAt_0 : decode cX9_oddsAt 0 = .ok (.aload_n 0, 1) := by decide +kernel
theorem dX9_oddsAt_1 : decode cX9_oddsAt 1 = .ok (.iload_n 1, 1) := by decide +kernel
theorem dX9_oddsAt_2 : decode cX9_oddsAt 2 = .ok (.iload_n 2, 1) := by decide +kernel
theorem dX9_oddsAt_3 : decode cX9_oddsAt 3 = .ok (.aload_n 0, 1) := by decide +kernel
theorem dX9_oddsAt_4 : decode cX9_oddsAt 4 = .ok (.iload_n 1, 1) := by decide +kernel
theorem dX9_oddsAt_5 : decode cX9_oddsAt 5 = .ok (.iload_n 2, 1) := by decide +kernel
theorem dX9_oddsAt_6 : decode cX9_oddsAt 6 = .ok (.invokevirtual 110, 3) := by decide +kernel
theorem dX9_oddsAt_9 : decode cX9_oddsAt 9 = .ok (.iload_n 3, 1) := by decide +kernel
theorem dX9_oddsAt_10 : decode cX9_oddsAt 10 = .ok (.iconst 0, 1) := by decide +kernel
theorem dX9_oddsAt_11 : decode cX9_oddsAt 11 = .ok (.invokevirtual 122, 3) := by decide +kernel
theorem dX9_oddsAt_14 : decode cX9_oddsAt 14 = .ok (.ireturn, 1) := by decide +kernel
theorem dX9_clean_0 : decode cX9_clean 0 = .ok (.aload_n 0, 1) := by decide +kernel
theorem dX9_clean_1 : decode cX9_clean 1 = .ok (.iload_n 1, 1) := by decide +kernel
theorem dX9_clean_2 : decode cX9_clean 2 = .ok (.iload_n 2, 1) := by decide +kernel
theorem dX9_clean_3 : decode cX9_clean 3 = .ok (.iload_n 3, 1) := by decide +kernel
theorem dX9_clean_4 : decode cX9_clean 4 = .ok (.bipush 12, 2) := by decide +kernel
theorem dX9_clean_6 : decode cX9_clean 6 = .ok (.invokevirtual 181, 3) := by decide +kernel
theorem dX9_clean_9 : decode cX9_clean 9 = .ok (.ifCond .ne 11, 3) := by decide +kernel
theorem dX9_clean_12 : decode cX9_clean 12 = .ok (.aload_n 0, 1) := by decide +kernel
theorem dX9_clean_13 : decode cX9_clean 13 = .ok (.ldc 46, 2) := by decide +kernel
theorem dX9_clean_15 : decode cX9_clean 15 = .ok (.invokevirtual 48, 3) := by decide +kernel
theorem dX9_clean_18 : decode cX9_clean 18 = .ok (.i2l, 1) := by decide +kernel
theorem dX9_clean_19 : decode cX9_clean 19 = .ok (.lreturn, 1) := by decide +kernel
theorem dX9_clean_20 : decode cX9_clean 20 = .ok (.lconst 1, 1) := by decide +kernel
theorem dX9_clean_21 : decode cX9_clean 21 = .ok (.lstore 4, 2) := by decide +kernel
theorem dX9_clean_23 : decode cX9_clean 23 = .ok (.iconst 0, 1) := by decide +kernel
theorem dX9_clean_24 : decode cX9_clean 24 = .ok (.istore 6, 2) := by decide +kernel
theorem dX9_clean_26 : decode cX9_clean 26 = .ok (.iload 6, 2) := by decide +kernel
theorem dX9_clean_28 : decode cX9_clean 28 = .ok (.iload_n 3, 1) := by decide +kernel
theorem dX9_clean_29 : decode cX9_clean 29 = .ok (.if_icmp .ge 28, 3) := by decide +kernel
theorem dX9_clean_32 : decode cX9_clean 32 = .ok (.lload 4, 2) := by decide +kernel
theorem dX9_clean_34 : decode cX9_clean 34 = .ok (.bipush 24, 2) := by decide +kernel
theorem dX9_clean_36 : decode cX9_clean 36 = .ok (.aload_n 0, 1) := by decide +kernel
theorem dX9_clean_37 : decode cX9_clean 37 = .ok (.iload_n 1, 1) := by decide +kernel
theorem dX9_clean_38 : decode cX9_clean 38 = .ok (.iload_n 2, 1) := by decide +kernel
theorem dX9_clean_39 : decode cX9_clean 39 = .ok (.iload 6, 2) := by decide +kernel
theorem dX9_clean_41 : decode cX9_clean 41 = .ok (.iadd, 1) := by decide +kernel
theorem dX9_clean_42 : decode cX9_clean 42 = .ok (.iconst 0, 1) := by decide +kernel
theorem dX9_clean_43 : decode cX9_clean 43 = .ok (.invokevirtual 185, 3) := by decide +kernel
theorem dX9_clean_46 : decode cX9_clean 46 = .ok (.isub, 1) := by decide +kernel
theorem dX9_clean_47 : decode cX9_clean 47 = .ok (.i2l, 1) := by decide +kernel
theorem dX9_clean_48 : decode cX9_clean 48 = .ok (.lmul, 1) := by decide +kernel
theorem dX9_clean_49 : decode cX9_clean 49 = .ok (.lstore 4, 2) := by decide +kernel
theorem dX9_clean_51 : decode cX9_clean 51 = .ok (.iinc 6 1, 3) := by decide +kernel
theorem dX9_clean_54 : decode cX9_clean 54 = .ok (.goto (-28), 3) := by decide +kernel
theorem dX9_clean_57 : decode cX9_clean 57 = .ok (.lload 4, 2) := by decide +kernel
theorem dX9_clean_59 : decode cX9_clean 59 = .ok (.lreturn, 1) := by decide +kernel
theorem dX9_dropping_0 : decode cX9_dropping 0 = .ok (.iload 4, 2) := by decide +kernel
theorem dX9_dropping_2 : decode cX9_dropping 2 = .ok (.ifCond .lt 9, 3) := by decide +kernel
theorem dX9_dropping_5 : decode cX9_dropping 5 = .ok (.iload 4, 2) := by decide +kernel
theorem dX9_dropping_7 : decode cX9_dropping 7 = .ok (.iload_n 3, 1) := by decide +kernel
theorem dX9_dropping_8 : decode cX9_dropping 8 = .ok (.if_icmp .le 5, 3) := by decide +kernel
theorem dX9_dropping_11 : decode cX9_dropping 11 = .ok (.lconst 0, 1) := by decide +kernel
theorem dX9_dropping_12 : decode cX9_dropping 12 = .ok (.lreturn, 1) := by decide +kernel
theorem dX9_dropping_13 : decode cX9_dropping 13 = .ok (.iload_n 3, 1) := by decide +kernel
theorem dX9_dropping_14 : decode cX9_dropping 14 = .ok (.ifCond .ne 5, 3) := by decide +kernel
theorem dX9_dropping_17 : decode cX9_dropping 17 = .ok (.lconst 1, 1) := by decide +kernel
theorem dX9_dropping_18 : decode cX9_dropping 18 = .ok (.lreturn, 1) := by decide +kernel
theorem dX9_dropping_19 : decode cX9_dropping 19 = .ok (.aload_n 0, 1) := by decide +kernel
theorem dX9_dropping_20 : decode cX9_dropping 20 = .ok (.iload_n 1, 1) := by decide +kernel
theorem dX9_dropping_21 : decode cX9_dropping 21 = .ok (.iload_n 2, 1) := by decide +kernel
theorem dX9_dropping_22 : decode cX9_dropping 22 = .ok (.iload 5, 2) := by decide +kernel
theorem dX9_dropping_24 : decode cX9_dropping 24 = .ok (.ifCond .le 7, 3) := by decide +kernel
theorem dX9_dropping_27 : decode cX9_dropping 27 = .ok (.iconst 1, 1) := by decide +kernel
theorem dX9_dropping_28 : decode cX9_dropping 28 = .ok (.goto 4, 3) := by decide +kernel
theorem dX9_dropping_31 : decode cX9_dropping 31 = .ok (.iconst 0, 1) := by decide +kernel
theorem dX9_dropping_32 : decode cX9_dropping 32 = .ok (.invokevirtual 185, 3) := by decide +kernel
theorem dX9_dropping_35 : decode cX9_dropping 35 = .ok (.istore 6, 2) := by decide +kernel
theorem dX9_dropping_37 : decode cX9_dropping 37 = .ok (.bipush 24, 2) := by decide +kernel
theorem dX9_dropping_39 : decode cX9_dropping 39 = .ok (.iload 6, 2) := by decide +kernel
theorem dX9_dropping_41 : decode cX9_dropping 41 = .ok (.isub, 1) := by decide +kernel
theorem dX9_dropping_42 : decode cX9_dropping 42 = .ok (.i2l, 1) := by decide +kernel
theorem dX9_dropping_43 : decode cX9_dropping 43 = .ok (.aload_n 0, 1) := by decide +kernel
theorem dX9_dropping_44 : decode cX9_dropping 44 = .ok (.iload_n 1, 1) := by decide +kernel
theorem dX9_dropping_45 : decode cX9_dropping 45 = .ok (.iload_n 2, 1) := by decide +kernel
theorem dX9_dropping_46 : decode cX9_dropping 46 = .ok (.iconst 1, 1) := by decide +kernel
