theorem dX7_choose_17 : decode cX7_choose 17 = .ok (.iconst 3, 1) := by decide +kernel
theorem dX7_choose_18 : decode cX7_choose 18 = .ok (.if_icmp .ge 42, 3) := by decide +kernel
theorem dX7_choose_21 : decode cX7_choose 21 = .ok (.aload_n 0, 1) := by decide +kernel
theorem dX7_choose_22 : decode cX7_choose 22 = .ok (.getfield 15, 3) := by decide +kernel
theorem dX7_choose_25 : decode cX7_choose 25 = .ok (.iload 5, 2) := by decide +kernel
theorem dX7_choose_27 : decode cX7_choose 27 = .ok (.bipush 6, 2) := by decide +kernel
theorem dX7_choose_29 : decode cX7_choose 29 = .ok (.imul, 1) := by decide +kernel
theorem dX7_choose_30 : decode cX7_choose 30 = .ok (.iload 4, 2) := by decide +kernel
theorem dX7_choose_32 : decode cX7_choose 32 = .ok (.iadd, 1) := by decide +kernel
theorem dX7_choose_33 : decode cX7_choose 33 = .ok (.aload_n 2, 1) := by decide +kernel
theorem dX7_choose_34 : decode cX7_choose 34 = .ok (.aload_n 1, 1) := by decide +kernel
theorem dX7_choose_35 : decode cX7_choose 35 = .ok (.iload 4, 2) := by decide +kernel
theorem dX7_choose_37 : decode cX7_choose 37 = .ok (.iload 5, 2) := by decide +kernel
theorem dX7_choose_39 : decode cX7_choose 39 = .ok (.bipush 10, 2) := by decide +kernel
theorem dX7_choose_41 : decode cX7_choose 41 = .ok (.imul, 1) := by decide +kernel
theorem dX7_choose_42 : decode cX7_choose 42 = .ok (.iload 5, 2) := by decide +kernel
theorem dX7_choose_44 : decode cX7_choose 44 = .ok (.iconst 1, 1) := by decide +kernel
theorem dX7_choose_45 : decode cX7_choose 45 = .ok (.iadd, 1) := by decide +kernel
theorem dX7_choose_46 : decode cX7_choose 46 = .ok (.bipush 10, 2) := by decide +kernel
theorem dX7_choose_48 : decode cX7_choose 48 = .ok (.imul, 1) := by decide +kernel
theorem dX7_choose_49 : decode cX7_choose 49 = .ok (.iconst 0, 1) := by decide +kernel
theorem dX7_choose_50 : decode cX7_choose 50 = .ok (.invokevirtual 24, 3) := by decide +kernel
theorem dX7_choose_53 : decode cX7_choose 53 = .ok (.iastore, 1) := by decide +kernel
theorem dX7_choose_54 : decode cX7_choose 54 = .ok (.iinc 5 1, 3) := by decide +kernel
theorem dX7_choose_57 : decode cX7_choose 57 = .ok (.goto (-42), 3) := by decide +kernel
theorem dX7_choose_60 : decode cX7_choose 60 = .ok (.iinc 4 1, 3) := by decide +kernel
theorem dX7_choose_63 : decode cX7_choose 63 = .ok (.goto (-60), 3) := by decide +kernel
theorem dX7_choose_66 : decode cX7_choose 66 = .ok (.aload_n 0, 1) := by decide +kernel
theorem dX7_choose_67 : decode cX7_choose 67 = .ok (.ldc 30, 2) := by decide +kernel
theorem dX7_choose_69 : decode cX7_choose 69 = .ok (.putfield 31, 3) := by decide +kernel
theorem dX7_choose_72 : decode cX7_choose 72 = .ok (.iconst 0, 1) := by decide +kernel
theorem dX7_choose_73 : decode cX7_choose 73 = .ok (.istore 4, 2) := by decide +kernel
theorem dX7_choose_75 : decode cX7_choose 75 = .ok (.iload 4, 2) := by decide +kernel
theorem dX7_choose_77 : decode cX7_choose 77 = .ok (.aload_n 1, 1) := by decide +kernel
theorem dX7_choose_78 : decode cX7_choose 78 = .ok (.getfield 18, 3) := by decide +kernel
theorem dX7_choose_81 : decode cX7_choose 81 = .ok (.if_icmp .ge 68, 3) := by decide +kernel
theorem dX7_choose_84 : decode cX7_choose 84 = .ok (.iconst 0, 1) := by decide +kernel
theorem dX7_choose_85 : decode cX7_choose 85 = .ok (.istore 5, 2) := by decide +kernel
theorem dX7_choose_87 : decode cX7_choose 87 = .ok (.iload 5, 2) := by decide +kernel
theorem dX7_choose_89 : decode cX7_choose 89 = .ok (.aload_n 1, 1) := by decide +kernel
theorem dX7_choose_90 : decode cX7_choose 90 = .ok (.getfield 18, 3) := by decide +kernel
theorem dX7_choose_93 : decode cX7_choose 93 = .ok (.if_icmp .ge 50, 3) := by decide +kernel
theorem dX7_choose_96 : decode cX7_choose 96 = .ok (.iconst 0, 1) := by decide +kernel
theorem dX7_choose_97 : decode cX7_choose 97 = .ok (.istore 6, 2) := by decide +kernel
theorem dX7_choose_99 : decode cX7_choose 99 = .ok (.iload 6, 2) := by decide +kernel
theorem dX7_choose_101 : decode cX7_choose 101 = .ok (.aload_n 1, 1) := by decide +kernel
theorem dX7_choose_102 : decode cX7_choose 102 = .ok (.getfield 18, 3) := by decide +kernel
theorem dX7_choose_105 : decode cX7_choose 105 = .ok (.if_icmp .ge 32, 3) := by decide +kernel
theorem dX7_choose_108 : decode cX7_choose 108 = .ok (.iload_n 3, 1) := by decide +kernel
theorem dX7_choose_109 : decode cX7_choose 109 = .ok (.iload 4, 2) := by decide +kernel
theorem dX7_choose_111 : decode cX7_choose 111 = .ok (.iload 5, 2) := by decide +kernel
theorem dX7_choose_113 : decode cX7_choose 113 = .ok (.iload 6, 2) := by decide +kernel
theorem dX7_choose_115 : decode cX7_choose 115 = .ok (.invokestatic 34, 3) := by decide +kernel
theorem dX7_choose_118 : decode cX7_choose 118 = .ok (.ifCond .eq 13, 3) := by decide +kernel
theorem dX7_choose_121 : decode cX7_choose 121 = .ok (.aload_n 0, 1) := by decide +kernel
theorem dX7_choose_122 : decode cX7_choose 122 = .ok (.iload 4, 2) := by decide +kernel
theorem dX7_choose_124 : decode cX7_choose 124 = .ok (.iload 5, 2) := by decide +kernel
theorem dX7_choose_126 : decode cX7_choose 126 = .ok (.iload 6, 2) := by decide +kernel
theorem dX7_choose_128 : decode cX7_choose 128 = .ok (.invokevirtual 38, 3) := by decide +kernel
theorem dX7_choose_131 : decode cX7_choose 131 = .ok (.iinc 6 1, 3) := by decide +kernel
theorem dX7_choose_134 : decode cX7_choose 134 = .ok (.goto (-35), 3) := by decide +kernel
theorem dX7_choose_137 : decode cX7_choose 137 = .ok (.iinc 5 1, 3) := by decide +kernel
theorem dX7_choose_140 : decode cX7_choose 140 = .ok (.goto (-53), 3) := by decide +kernel
theorem dX7_choose_143 : decode cX7_choose 143 = .ok (.iinc 4 1, 3) := by decide +kernel
theorem dX7_choose_146 : decode cX7_choose 146 = .ok (.goto (-71), 3) := by decide +kernel
theorem dX7_choose_149 : decode cX7_choose 149 = .ok (.aload_n 0, 1) := by decide +kernel
theorem dX7_choose_150 : decode cX7_choose 150 = .ok (.getfield 31, 3) := by decide +kernel
theorem dX7_choose_153 : decode cX7_choose 153 = .ok (.ireturn, 1) := by decide +kernel
theorem dX7_areUnlikeOf_0 : decode cX7_areUnlikeOf 0 = .ok (.iconst 1, 1) := by decide +kernel
theorem dX7_areUnlikeOf_1 : decode cX7_areUnlikeOf 1 = .ok (.iload_n 1, 1) := by decide +kernel
theorem dX7_areUnlikeOf_2 : decode cX7_areUnlikeOf 2 = .ok (.ishl, 1) := by decide +kernel
theorem dX7_areUnlikeOf_3 : decode cX7_areUnlikeOf 3 = .ok (.iconst 1, 1) := by decide +kernel
theorem dX7_areUnlikeOf_4 : decode cX7_areUnlikeOf 4 = .ok (.iload_n 2, 1) := by decide +kernel
theorem dX7_areUnlikeOf_5 : decode cX7_areUnlikeOf 5 = .ok (.ishl, 1) := by decide +kernel
theorem dX7_areUnlikeOf_6 : decode cX7_areUnlikeOf 6 = .ok (.ior, 1) := by decide +kernel
theorem dX7_areUnlikeOf_7 : decode cX7_areUnlikeOf 7 = .ok (.iconst 1, 1) := by decide +kernel
theorem dX7_areUnlikeOf_8 : decode cX7_areUnlikeOf 8 = .ok (.iload_n 3, 1) := by decide +kernel
theorem dX7_areUnlikeOf_9 : decode cX7_areUnlikeOf 9 = .ok (.ishl, 1) := by decide +kernel
theorem dX7_areUnlikeOf_10 : decode cX7_areUnlikeOf 10 = .ok (.ior, 1) := by decide +kernel
theorem dX7_areUnlikeOf_11 : decode cX7_areUnlikeOf 11 = .ok (.istore 4, 2) := by decide +kernel
theorem dX7_areUnlikeOf_13 : decode cX7_areUnlikeOf 13 = .ok (.iload 4, 2) := by decide +kernel
theorem dX7_areUnlikeOf_15 : decode cX7_areUnlikeOf 15 = .ok (.invokestatic 42, 3) := by decide +kernel
theorem dX7_areUnlikeOf_18 : decode cX7_areUnlikeOf 18 = .ok (.iconst 3, 1) := by decide +kernel
theorem dX7_areUnlikeOf_19 : decode cX7_areUnlikeOf 19 = .ok (.if_icmp .ne 16, 3) := by decide +kernel
theorem dX7_areUnlikeOf_22 : decode cX7_areUnlikeOf 22 = .ok (.iload_n 0, 1) := by decide +kernel
theorem dX7_areUnlikeOf_23 : decode cX7_areUnlikeOf 23 = .ok (.iload 4, 2) := by decide +kernel
theorem dX7_areUnlikeOf_25 : decode cX7_areUnlikeOf 25 = .ok (.iand, 1) := by decide +kernel
theorem dX7_areUnlikeOf_26 : decode cX7_areUnlikeOf 26 = .ok (.iload 4, 2) := by decide +kernel
theorem dX7_areUnlikeOf_28 : decode cX7_areUnlikeOf 28 = .ok (.if_icmp .ne 7, 3) := by decide +kernel
theorem dX7_areUnlikeOf_31 : decode cX7_areUnlikeOf 31 = .ok (.iconst 1, 1) := by decide +kernel
theorem dX7_areUnlikeOf_32 : decode cX7_areUnlikeOf 32 = .ok (.goto 4, 3) := by decide +kernel
theorem dX7_areUnlikeOf_35 : decode cX7_areUnlikeOf 35 = .ok (.iconst 0, 1) := by decide +kernel
theorem dX7_areUnlikeOf_36 : decode cX7_areUnlikeOf 36 = .ok (.ireturn, 1) := by decide +kernel
theorem dX7_weigh_0 : decode cX7_weigh 0 = .ok (.aload_n 0, 1) := by decide +kernel
theorem dX7_weigh_1 : decode cX7_weigh 1 = .ok (.getfield 15, 3) := by decide +kernel
theorem dX7_weigh_4 : decode cX7_weigh 4 = .ok (.iload_n 1, 1) := by decide +kernel
theorem dX7_weigh_5 : decode cX7_weigh 5 = .ok (.iaload, 1) := by decide +kernel
theorem dX7_weigh_6 : decode cX7_weigh 6 = .ok (.aload_n 0, 1) := by decide +kernel
theorem dX7_weigh_7 : decode cX7_weigh 7 = .ok (.getfield 15, 3) := by decide +kernel
theorem dX7_weigh_10 : decode cX7_weigh 10 = .ok (.bipush 6, 2) := by decide +kernel
theorem dX7_weigh_12 : decode cX7_weigh 12 = .ok (.iload_n 2, 1) := by decide +kernel
theorem dX7_weigh_13 : decode cX7_weigh 13 = .ok (.iadd, 1) := by decide +kernel
theorem dX7_weigh_14 : decode cX7_weigh 14 = .ok (.iaload, 1) := by decide +kernel
theorem dX7_weigh_15 : decode cX7_weigh 15 = .ok (.iadd, 1) := by decide +kernel
theorem dX7_weigh_16 : decode cX7_weigh 16 = .ok (.aload_n 0, 1) := by decide +kernel
theorem dX7_weigh_17 : decode cX7_weigh 17 = .ok (.getfield 15, 3) := by decide +kernel
theorem dX7_weigh_20 : decode cX7_weigh 20 = .ok (.bipush 12, 2) := by decide +kernel
theorem dX7_weigh_22 : decode cX7_weigh 22 = .ok (.iload_n 3, 1) := by decide +kernel
theorem dX7_weigh_23 : decode cX7_weigh 23 = .ok (.iadd, 1) := by decide +kernel
theorem dX7_weigh_24 : decode cX7_weigh 24 = .ok (.iaload, 1) := by decide +kernel
theorem dX7_weigh_25 : decode cX7_weigh 25 = .ok (.iadd, 1) := by decide +kernel
theorem dX7_weigh_26 : decode cX7_weigh 26 = .ok (.istore 4, 2) := by decide +kernel
theorem dX7_weigh_28 : decode cX7_weigh 28 = .ok (.iload 4, 2) := by decide +kernel
theorem dX7_weigh_30 : decode cX7_weigh 30 = .ok (.aload_n 0, 1) := by decide +kernel
theorem dX7_weigh_31 : decode cX7_weigh 31 = .ok (.getfield 31, 3) := by decide +kernel
theorem dX7_weigh_34 : decode cX7_weigh 34 = .ok (.if_icmp .ge 30, 3) := by decide +kernel
theorem dX7_weigh_37 : decode cX7_weigh 37 = .ok (.aload_n 0, 1) := by decide +kernel
theorem dX7_weigh_38 : decode cX7_weigh 38 = .ok (.iload 4, 2) := by decide +kernel
theorem dX7_weigh_40 : decode cX7_weigh 40 = .ok (.putfield 31, 3) := by decide +kernel
theorem dX7_weigh_43 : decode cX7_weigh 43 = .ok (.aload_n 0, 1) := by decide +kernel
theorem dX7_weigh_44 : decode cX7_weigh 44 = .ok (.getfield 9, 3) := by decide +kernel
theorem dX7_weigh_47 : decode cX7_weigh 47 = .ok (.iconst 0, 1) := by decide +kernel
theorem dX7_weigh_48 : decode cX7_weigh 48 = .ok (.iload_n 1, 1) := by decide +kernel
theorem dX7_weigh_49 : decode cX7_weigh 49 = .ok (.iastore, 1) := by decide +kernel
theorem dX7_weigh_50 : decode cX7_weigh 50 = .ok (.aload_n 0, 1) := by decide +kernel
theorem dX7_weigh_51 : decode cX7_weigh 51 = .ok (.getfield 9, 3) := by decide +kernel
theorem dX7_weigh_54 : decode cX7_weigh 54 = .ok (.iconst 1, 1) := by decide +kernel
theorem dX7_weigh_55 : decode cX7_weigh 55 = .ok (.iload_n 2, 1) := by decide +kernel
theorem dX7_weigh_56 : decode cX7_weigh 56 = .ok (.iastore, 1) := by decide +kernel
theorem dX7_weigh_57 : decode cX7_weigh 57 = .ok (.aload_n 0, 1) := by decide +kernel
theorem dX7_weigh_58 : decode cX7_weigh 58 = .ok (.getfield 9, 3) := by decide +kernel
theorem dX7_weigh_61 : decode cX7_weigh 61 = .ok (.iconst 2, 1) := by decide +kernel
theorem dX7_weigh_62 : decode cX7_weigh 62 = .ok (.iload_n 3, 1) := by decide +kernel
theorem dX7_weigh_63 : decode cX7_weigh 63 = .ok (.iastore, 1) := by decide +kernel
theorem dX7_weigh_64 : decode cX7_weigh 64 = .ok (.return_, 1) := by decide +kernel
theorem dX8_init_0 : decode cX8_init 0 = .ok (.aload_n 0, 1) := by decide +kernel
theorem dX8_init_1 : decode cX8_init 1 = .ok (.invokespecial 3, 3) := by decide +kernel
theorem dX8_init_4 : decode cX8_init 4 = .ok (.aload_n 0, 1) := by decide +kernel
theorem dX8_init_5 : decode cX8_init 5 = .ok (.bipush 7, 2) := by decide +kernel
theorem dX8_init_7 : decode cX8_init 7 = .ok (.newarray .int, 2) := by decide +kernel
theorem dX8_init_9 : decode cX8_init 9 = .ok (.putfield 9, 3) := by decide +kernel
theorem dX8_init_12 : decode cX8_init 12 = .ok (.aload_n 0, 1) := by decide +kernel
theorem dX8_init_13 : decode cX8_init 13 = .ok (.new 13, 3) := by decide +kernel
theorem dX8_init_16 : decode cX8_init 16 = .ok (.dup, 1) := by decide +kernel
theorem dX8_init_17 : decode cX8_init 17 = .ok (.invokespecial 15, 3) := by decide +kernel
theorem dX8_init_20 : decode cX8_init 20 = .ok (.putfield 16, 3) := by decide +kernel
theorem dX8_init_23 : decode cX8_init 23 = .ok (.aload_n 0, 1) := by decide +kernel
theorem dX8_init_24 : decode cX8_init 24 = .ok (.new 13, 3) := by decide +kernel
theorem dX8_init_27 : decode cX8_init 27 = .ok (.dup, 1) := by decide +kernel
theorem dX8_init_28 : decode cX8_init 28 = .ok (.invokespecial 15, 3) := by decide +kernel
theorem dX8_init_31 : decode cX8_init 31 = .ok (.putfield 20, 3) := by decide +kernel
theorem dX8_init_34 : decode cX8_init 34 = .ok (.aload_n 0, 1) := by decide +kernel
theorem dX8_init_35 : decode cX8_init 35 = .ok (.new 13, 3) := by decide +kernel
theorem dX8_init_38 : decode cX8_init 38 = .ok (.dup, 1) := by decide +kernel
theorem dX8_init_39 : decode cX8_init 39 = .ok (.invokespecial 15, 3) := by decide +kernel
theorem dX8_init_42 : decode cX8_init 42 = .ok (.putfield 23, 3) := by decide +kernel
theorem dX8_init_45 : decode cX8_init 45 = .ok (.aload_n 0, 1) := by decide +kernel
theorem dX8_init_46 : decode cX8_init 46 = .ok (.new 26, 3) := by decide +kernel
theorem dX8_init_49 : decode cX8_init 49 = .ok (.dup, 1) := by decide +kernel
theorem dX8_init_50 : decode cX8_init 50 = .ok (.invokespecial 28, 3) := by decide +kernel
theorem dX8_init_53 : decode cX8_init 53 = .ok (.putfield 29, 3) := by decide +kernel
theorem dX8_init_56 : decode cX8_init 56 = .ok (.aload_n 0, 1) := by decide +kernel
theorem dX8_init_57 : decode cX8_init 57 = .ok (.new 33, 3) := by decide +kernel
theorem dX8_init_60 : decode cX8_init 60 = .ok (.dup, 1) := by decide +kernel
theorem dX8_init_61 : decode cX8_init 61 = .ok (.invokespecial 35, 3) := by decide +kernel
theorem dX8_init_64 : decode cX8_init 64 = .ok (.putfield 36, 3) := by decide +kernel
theorem dX8_init_67 : decode cX8_init 67 = .ok (.aload_n 0, 1) := by decide +kernel
theorem dX8_init_68 : decode cX8_init 68 = .ok (.new 40, 3) := by decide +kernel
theorem dX8_init_71 : decode cX8_init 71 = .ok (.dup, 1) := by decide +kernel
theorem dX8_init_72 : decode cX8_init 72 = .ok (.invokespecial 42, 3) := by decide +kernel
theorem dX8_init_75 : decode cX8_init 75 = .ok (.putfield 43, 3) := by decide +kernel
theorem dX8_init_78 : decode cX8_init 78 = .ok (.aload_n 0, 1) := by decide +kernel
theorem dX8_init_79 : decode cX8_init 79 = .ok (.new 47, 3) := by decide +kernel
theorem dX8_init_82 : decode cX8_init 82 = .ok (.dup, 1) := by decide +kernel
theorem dX8_init_83 : decode cX8_init 83 = .ok (.invokespecial 49, 3) := by decide +kernel
theorem dX8_init_86 : decode cX8_init 86 = .ok (.putfield 50, 3) := by decide +kernel
theorem dX8_init_89 : decode cX8_init 89 = .ok (.aload_n 0, 1) := by decide +kernel
theorem dX8_init_90 : decode cX8_init 90 = .ok (.aload_n 0, 1) := by decide +kernel
theorem dX8_init_91 : decode cX8_init 91 = .ok (.getfield 50, 3) := by decide +kernel
theorem dX8_init_94 : decode cX8_init 94 = .ok (.getfield 54, 3) := by decide +kernel
theorem dX8_init_97 : decode cX8_init 97 = .ok (.putfield 58, 3) := by decide +kernel
theorem dX8_init_100 : decode cX8_init 100 = .ok (.aload_n 0, 1) := by decide +kernel
theorem dX8_init_101 : decode cX8_init 101 = .ok (.iconst 4, 1) := by decide +kernel
theorem dX8_init_102 : decode cX8_init 102 = .ok (.anewarray 59, 3) := by decide +kernel
theorem dX8_init_105 : decode cX8_init 105 = .ok (.putfield 61, 3) := by decide +kernel
theorem dX8_init_108 : decode cX8_init 108 = .ok (.aload_n 0, 1) := by decide +kernel
theorem dX8_init_109 : decode cX8_init 109 = .ok (.iconst 0, 1) := by decide +kernel
theorem dX8_init_110 : decode cX8_init 110 = .ok (.putfield 65, 3) := by decide +kernel
theorem dX8_init_113 : decode cX8_init 113 = .ok (.iconst 0, 1) := by decide +kernel
theorem dX8_init_114 : decode cX8_init 114 = .ok (.istore_n 1, 1) := by decide +kernel
theorem dX8_init_115 : decode cX8_init 115 = .ok (.iload_n 1, 1) := by decide +kernel
theorem dX8_init_116 : decode cX8_init 116 = .ok (.iconst 4, 1) := by decide +kernel
theorem dX8_init_117 : decode cX8_init 117 = .ok (.if_icmp .ge 22, 3) := by decide +kernel
theorem dX8_init_120 : decode cX8_init 120 = .ok (.aload_n 0, 1) := by decide +kernel
theorem dX8_init_121 : decode cX8_init 121 = .ok (.getfield 61, 3) := by decide +kernel
theorem dX8_init_124 : decode cX8_init 124 = .ok (.iload_n 1, 1) := by decide +kernel
theorem dX8_init_125 : decode cX8_init 125 = .ok (.new 59, 3) := by decide +kernel
theorem dX8_init_128 : decode cX8_init 128 = .ok (.dup, 1) := by decide +kernel
theorem dX8_init_129 : decode cX8_init 129 = .ok (.invokespecial 69, 3) := by decide +kernel
theorem dX8_init_132 : decode cX8_init 132 = .ok (.aastore, 1) := by decide +kernel
theorem dX8_init_133 : decode cX8_init 133 = .ok (.iinc 1 1, 3) := by decide +kernel
theorem dX8_init_136 : decode cX8_init 136 = .ok (.goto (-21), 3) := by decide +kernel
theorem dX8_init_139 : decode cX8_init 139 = .ok (.return_, 1) := by decide +kernel
theorem dX8_ground_0 : decode cX8_ground 0 = .ok (.iload_n 1, 1) := by decide +kernel
theorem dX8_ground_1 : decode cX8_ground 1 = .ok (.invokestatic 70, 3) := by decide +kernel
theorem dX8_ground_4 : decode cX8_ground 4 = .ok (.ifCond .eq 12, 3) := by decide +kernel
theorem dX8_ground_7 : decode cX8_ground 7 = .ok (.iload_n 2, 1) := by decide +kernel
theorem dX8_ground_8 : decode cX8_ground 8 = .ok (.iconst 0, 1) := by decide +kernel
theorem dX8_ground_9 : decode cX8_ground 9 = .ok (.iconst 4, 1) := by decide +kernel
theorem dX8_ground_10 : decode cX8_ground 10 = .ok (.invokestatic 74, 3) := by decide +kernel
theorem dX8_ground_13 : decode cX8_ground 13 = .ok (.ifCond .ne 9, 3) := by decide +kernel
theorem dX8_ground_16 : decode cX8_ground 16 = .ok (.aload_n 0, 1) := by decide +kernel
theorem dX8_ground_17 : decode cX8_ground 17 = .ok (.iconst 0, 1) := by decide +kernel
theorem dX8_ground_18 : decode cX8_ground 18 = .ok (.invokevirtual 78, 3) := by decide +kernel
theorem dX8_ground_21 : decode cX8_ground 21 = .ok (.ireturn, 1) := by decide +kernel
theorem dX8_ground_22 : decode cX8_ground 22 = .ok (.aload_n 0, 1) := by decide +kernel
theorem dX8_ground_23 : decode cX8_ground 23 = .ok (.getfield 16, 3) := by decide +kernel
theorem dX8_ground_26 : decode cX8_ground 26 = .ok (.getfield 82, 3) := by decide +kernel
theorem dX8_ground_29 : decode cX8_ground 29 = .ok (.iload_n 1, 1) := by decide +kernel
theorem dX8_ground_30 : decode cX8_ground 30 = .ok (.iaload, 1) := by decide +kernel
theorem dX8_ground_31 : decode cX8_ground 31 = .ok (.istore_n 3, 1) := by decide +kernel
theorem dX8_ground_32 : decode cX8_ground 32 = .ok (.aload_n 0, 1) := by decide +kernel
theorem dX8_ground_33 : decode cX8_ground 33 = .ok (.getfield 16, 3) := by decide +kernel
theorem dX8_ground_36 : decode cX8_ground 36 = .ok (.getfield 82, 3) := by decide +kernel
theorem dX8_ground_39 : decode cX8_ground 39 = .ok (.iload_n 1, 1) := by decide +kernel
theorem dX8_ground_40 : decode cX8_ground 40 = .ok (.iload_n 2, 1) := by decide +kernel
theorem dX8_ground_41 : decode cX8_ground 41 = .ok (.iastore, 1) := by decide +kernel
theorem dX8_ground_42 : decode cX8_ground 42 = .ok (.iload_n 3, 1) := by decide +kernel
theorem dX8_ground_43 : decode cX8_ground 43 = .ok (.ireturn, 1) := by decide +kernel
theorem dX8_pick_0 : decode cX8_pick 0 = .ok (.iload_n 1, 1) := by decide +kernel
theorem dX8_pick_1 : decode cX8_pick 1 = .ok (.iconst 0, 1) := by decide +kernel
theorem dX8_pick_2 : decode cX8_pick 2 = .ok (.bipush 99, 2) := by decide +kernel
theorem dX8_pick_4 : decode cX8_pick 4 = .ok (.invokestatic 74, 3) := by decide +kernel
theorem dX8_pick_7 : decode cX8_pick 7 = .ok (.ifCond .ne 9, 3) := by decide +kernel
theorem dX8_pick_10 : decode cX8_pick 10 = .ok (.aload_n 0, 1) := by decide +kernel
theorem dX8_pick_11 : decode cX8_pick 11 = .ok (.iconst 0, 1) := by decide +kernel
theorem dX8_pick_12 : decode cX8_pick 12 = .ok (.invokevirtual 78, 3) := by decide +kernel
theorem dX8_pick_15 : decode cX8_pick 15 = .ok (.ireturn, 1) := by decide +kernel
theorem dX8_pick_16 : decode cX8_pick 16 = .ok (.aload_n 0, 1) := by decide +kernel
theorem dX8_pick_17 : decode cX8_pick 17 = .ok (.getfield 16, 3) := by decide +kernel
theorem dX8_pick_20 : decode cX8_pick 20 = .ok (.getfield 85, 3) := by decide +kernel
theorem dX8_pick_23 : decode cX8_pick 23 = .ok (.istore_n 2, 1) := by decide +kernel
theorem dX8_pick_24 : decode cX8_pick 24 = .ok (.aload_n 0, 1) := by decide +kernel
theorem dX8_pick_25 : decode cX8_pick 25 = .ok (.getfield 16, 3) := by decide +kernel
theorem dX8_pick_28 : decode cX8_pick 28 = .ok (.iload_n 1, 1) := by decide +kernel
theorem dX8_pick_29 : decode cX8_pick 29 = .ok (.putfield 85, 3) := by decide +kernel
theorem dX8_pick_32 : decode cX8_pick 32 = .ok (.iload_n 2, 1) := by decide +kernel
theorem dX8_pick_33 : decode cX8_pick 33 = .ok (.ireturn, 1) := by decide +kernel
theorem dX8_runner_0 : decode cX8_runner 0 = .ok (.iload_n 1, 1) := by decide +kernel
theorem dX8_runner_1 : decode cX8_runner 1 = .ok (.iconst 0, 1) := by decide +kernel
theorem dX8_runner_2 : decode cX8_runner 2 = .ok (.bipush 6, 2) := by decide +kernel
theorem dX8_runner_4 : decode cX8_runner 4 = .ok (.invokestatic 74, 3) := by decide +kernel
theorem dX8_runner_7 : decode cX8_runner 7 = .ok (.ifCond .eq 22, 3) := by decide +kernel
theorem dX8_runner_10 : decode cX8_runner 10 = .ok (.iload_n 2, 1) := by decide +kernel
theorem dX8_runner_11 : decode cX8_runner 11 = .ok (.iconst 0, 1) := by decide +kernel
theorem dX8_runner_12 : decode cX8_runner 12 = .ok (.bipush 9, 2) := by decide +kernel
theorem dX8_runner_14 : decode cX8_runner 14 = .ok (.invokestatic 74, 3) := by decide +kernel
theorem dX8_runner_17 : decode cX8_runner 17 = .ok (.ifCond .eq 12, 3) := by decide +kernel
theorem dX8_runner_20 : decode cX8_runner 20 = .ok (.iload_n 3, 1) := by decide +kernel
theorem dX8_runner_21 : decode cX8_runner 21 = .ok (.iconst 0, 1) := by decide +kernel
theorem dX8_runner_22 : decode cX8_runner 22 = .ok (.iconst 5, 1) := by decide +kernel
theorem dX8_runner_23 : decode cX8_runner 23 = .ok (.invokestatic 74, 3) := by decide +kernel
theorem dX8_runner_26 : decode cX8_runner 26 = .ok (.ifCond .ne 9, 3) := by decide +kernel
theorem dX8_runner_29 : decode cX8_runner 29 = .ok (.aload_n 0, 1) := by decide +kernel
theorem dX8_runner_30 : decode cX8_runner 30 = .ok (.iconst 0, 1) := by decide +kernel
theorem dX8_runner_31 : decode cX8_runner 31 = .ok (.invokevirtual 78, 3) := by decide +kernel
theorem dX8_runner_34 : decode cX8_runner 34 = .ok (.ireturn, 1) := by decide +kernel
theorem dX8_runner_35 : decode cX8_runner 35 = .ok (.aload_n 0, 1) := by decide +kernel
theorem dX8_runner_36 : decode cX8_runner 36 = .ok (.getfield 16, 3) := by decide +kernel
theorem dX8_runner_39 : decode cX8_runner 39 = .ok (.getfield 89, 3) := by decide +kernel
theorem dX8_runner_42 : decode cX8_runner 42 = .ok (.bipush 6, 2) := by decide +kernel
theorem dX8_runner_44 : decode cX8_runner 44 = .ok (.if_icmp .lt 9, 3) := by decide +kernel
theorem dX8_runner_47 : decode cX8_runner 47 = .ok (.aload_n 0, 1) := by decide +kernel
theorem dX8_runner_48 : decode cX8_runner 48 = .ok (.iconst 1, 1) := by decide +kernel
theorem dX8_runner_49 : decode cX8_runner 49 = .ok (.invokevirtual 78, 3) := by decide +kernel
theorem dX8_runner_52 : decode cX8_runner 52 = .ok (.ireturn, 1) := by decide +kernel
theorem dX8_runner_53 : decode cX8_runner 53 = .ok (.aload_n 0, 1) := by decide +kernel
theorem dX8_runner_54 : decode cX8_runner 54 = .ok (.getfield 16, 3) := by decide +kernel
theorem dX8_runner_57 : decode cX8_runner 57 = .ok (.iload_n 1, 1) := by decide +kernel
theorem dX8_runner_58 : decode cX8_runner 58 = .ok (.iload_n 2, 1) := by decide +kernel
theorem dX8_runner_59 : decode cX8_runner 59 = .ok (.iload_n 3, 1) := by decide +kernel
theorem dX8_runner_60 : decode cX8_runner 60 = .ok (.invokevirtual 92, 3) := by decide +kernel
theorem dX8_runner_63 : decode cX8_runner 63 = .ok (.ireturn, 1) := by decide +kernel
theorem dX8_of_0 : decode cX8_of 0 = .ok (.aload_n 0, 1) := by decide +kernel
theorem dX8_of_1 : decode cX8_of 1 = .ok (.iload_n 1, 1) := by decide +kernel
theorem dX8_of_2 : decode cX8_of 2 = .ok (.invokevirtual 96, 3) := by decide +kernel
theorem dX8_of_5 : decode cX8_of 5 = .ok (.ifCond .eq 13, 3) := by decide +kernel
theorem dX8_of_8 : decode cX8_of 8 = .ok (.iload_n 2, 1) := by decide +kernel
theorem dX8_of_9 : decode cX8_of 9 = .ok (.iconst 0, 1) := by decide +kernel
theorem dX8_of_10 : decode cX8_of 10 = .ok (.bipush 7, 2) := by decide +kernel
theorem dX8_of_12 : decode cX8_of 12 = .ok (.invokestatic 74, 3) := by decide +kernel
theorem dX8_of_15 : decode cX8_of 15 = .ok (.ifCond .ne 9, 3) := by decide +kernel
theorem dX8_of_18 : decode cX8_of 18 = .ok (.aload_n 0, 1) := by decide +kernel
theorem dX8_of_19 : decode cX8_of 19 = .ok (.iconst 0, 1) := by decide +kernel
theorem dX8_of_20 : decode cX8_of 20 = .ok (.invokevirtual 78, 3) := by decide +kernel
theorem dX8_of_23 : decode cX8_of 23 = .ok (.ireturn, 1) := by decide +kernel
theorem dX8_of_24 : decode cX8_of 24 = .ok (.aload_n 0, 1) := by decide +kernel
theorem dX8_of_25 : decode cX8_of 25 = .ok (.getfield 16, 3) := by decide +kernel
theorem dX8_of_28 : decode cX8_of 28 = .ok (.getfield 99, 3) := by decide +kernel
theorem dX8_of_31 : decode cX8_of 31 = .ok (.iload_n 1, 1) := by decide +kernel
theorem dX8_of_32 : decode cX8_of 32 = .ok (.aaload, 1) := by decide +kernel
theorem dX8_of_33 : decode cX8_of 33 = .ok (.iload_n 2, 1) := by decide +kernel
theorem dX8_of_34 : decode cX8_of 34 = .ok (.invokevirtual 103, 3) := by decide +kernel
theorem dX8_of_37 : decode cX8_of 37 = .ok (.ireturn, 1) := by decide +kernel
theorem dX8_change_0 : decode cX8_change 0 = .ok (.aload_n 0, 1) := by decide +kernel
theorem dX8_change_1 : decode cX8_change 1 = .ok (.iload_n 1, 1) := by decide +kernel
theorem dX8_change_2 : decode cX8_change 2 = .ok (.invokevirtual 96, 3) := by decide +kernel
theorem dX8_change_5 : decode cX8_change 5 = .ok (.ifCond .eq 15, 3) := by decide +kernel
theorem dX8_change_8 : decode cX8_change 8 = .ok (.iload_n 3, 1) := by decide +kernel
theorem dX8_change_9 : decode cX8_change 9 = .ok (.iconst 0, 1) := by decide +kernel
theorem dX8_change_10 : decode cX8_change 10 = .ok (.iload_n 2, 1) := by decide +kernel
theorem dX8_change_11 : decode cX8_change 11 = .ok (.invokestatic 108, 3) := by decide +kernel
theorem dX8_change_14 : decode cX8_change 14 = .ok (.invokestatic 74, 3) := by decide +kernel
theorem dX8_change_17 : decode cX8_change 17 = .ok (.ifCond .ne 9, 3) := by decide +kernel
theorem dX8_change_20 : decode cX8_change 20 = .ok (.aload_n 0, 1) := by decide +kernel
theorem dX8_change_21 : decode cX8_change 21 = .ok (.iconst 0, 1) := by decide +kernel
theorem dX8_change_22 : decode cX8_change 22 = .ok (.invokevirtual 78, 3) := by decide +kernel
theorem dX8_change_25 : decode cX8_change 25 = .ok (.ireturn, 1) := by decide +kernel
theorem dX8_change_26 : decode cX8_change 26 = .ok (.aload_n 0, 1) := by decide +kernel
theorem dX8_change_27 : decode cX8_change 27 = .ok (.getfield 16, 3) := by decide +kernel
theorem dX8_change_30 : decode cX8_change 30 = .ok (.getfield 99, 3) := by decide +kernel
theorem dX8_change_33 : decode cX8_change 33 = .ok (.iload_n 1, 1) := by decide +kernel
theorem dX8_change_34 : decode cX8_change 34 = .ok (.aaload, 1) := by decide +kernel
theorem dX8_change_35 : decode cX8_change 35 = .ok (.iload_n 2, 1) := by decide +kernel
theorem dX8_change_36 : decode cX8_change 36 = .ok (.invokevirtual 103, 3) := by decide +kernel
theorem dX8_change_39 : decode cX8_change 39 = .ok (.istore 4, 2) := by decide +kernel
theorem dX8_change_41 : decode cX8_change 41 = .ok (.aload_n 0, 1) := by decide +kernel
theorem dX8_change_42 : decode cX8_change 42 = .ok (.getfield 16, 3) := by decide +kernel
theorem dX8_change_45 : decode cX8_change 45 = .ok (.getfield 99, 3) := by decide +kernel
theorem dX8_change_48 : decode cX8_change 48 = .ok (.iload_n 1, 1) := by decide +kernel
theorem dX8_change_49 : decode cX8_change 49 = .ok (.aaload, 1) := by decide +kernel
theorem dX8_change_50 : decode cX8_change 50 = .ok (.iload_n 2, 1) := by decide +kernel
theorem dX8_change_51 : decode cX8_change 51 = .ok (.iload_n 3, 1) := by decide +kernel
theorem dX8_change_52 : decode cX8_change 52 = .ok (.invokevirtual 111, 3) := by decide +kernel
theorem dX8_change_55 : decode cX8_change 55 = .ok (.iload 4, 2) := by decide +kernel
theorem dX8_change_57 : decode cX8_change 57 = .ok (.ireturn, 1) := by decide +kernel
theorem dX8_pace_0 : decode cX8_pace 0 = .ok (.aload_n 0, 1) := by decide +kernel
theorem dX8_pace_1 : decode cX8_pace 1 = .ok (.iload_n 1, 1) := by decide +kernel
theorem dX8_pace_2 : decode cX8_pace 2 = .ok (.invokevirtual 96, 3) := by decide +kernel
theorem dX8_pace_5 : decode cX8_pace 5 = .ok (.ifCond .eq 30, 3) := by decide +kernel
theorem dX8_pace_8 : decode cX8_pace 8 = .ok (.iload_n 2, 1) := by decide +kernel
theorem dX8_pace_9 : decode cX8_pace 9 = .ok (.invokestatic 70, 3) := by decide +kernel
theorem dX8_pace_12 : decode cX8_pace 12 = .ok (.ifCond .eq 23, 3) := by decide +kernel
theorem dX8_pace_15 : decode cX8_pace 15 = .ok (.iload_n 3, 1) := by decide +kernel
theorem dX8_pace_16 : decode cX8_pace 16 = .ok (.invokestatic 70, 3) := by decide +kernel
theorem dX8_pace_19 : decode cX8_pace 19 = .ok (.ifCond .eq 16, 3) := by decide +kernel
theorem dX8_pace_22 : decode cX8_pace 22 = .ok (.iload_n 3, 1) := by decide +kernel
theorem dX8_pace_23 : decode cX8_pace 23 = .ok (.iload_n 2, 1) := by decide +kernel
theorem dX8_pace_24 : decode cX8_pace 24 = .ok (.if_icmp .lt 11, 3) := by decide +kernel
theorem dX8_pace_27 : decode cX8_pace 27 = .ok (.iload 4, 2) := by decide +kernel
theorem dX8_pace_29 : decode cX8_pace 29 = .ok (.invokestatic 115, 3) := by decide +kernel
theorem dX8_pace_32 : decode cX8_pace 32 = .ok (.ifCond .ne 9, 3) := by decide +kernel
theorem dX8_pace_35 : decode cX8_pace 35 = .ok (.aload_n 0, 1) := by decide +kernel
theorem dX8_pace_36 : decode cX8_pace 36 = .ok (.iconst 0, 1) := by decide +kernel
theorem dX8_pace_37 : decode cX8_pace 37 = .ok (.invokevirtual 78, 3) := by decide +kernel
theorem dX8_pace_40 : decode cX8_pace 40 = .ok (.ireturn, 1) := by decide +kernel
theorem dX8_pace_41 : decode cX8_pace 41 = .ok (.aload_n 0, 1) := by decide +kernel
theorem dX8_pace_42 : decode cX8_pace 42 = .ok (.getfield 16, 3) := by decide +kernel
theorem dX8_pace_45 : decode cX8_pace 45 = .ok (.getfield 99, 3) := by decide +kernel
theorem dX8_pace_48 : decode cX8_pace 48 = .ok (.iload_n 1, 1) := by decide +kernel
theorem dX8_pace_49 : decode cX8_pace 49 = .ok (.aaload, 1) := by decide +kernel
theorem dX8_pace_50 : decode cX8_pace 50 = .ok (.getfield 118, 3) := by decide +kernel
theorem dX8_pace_53 : decode cX8_pace 53 = .ok (.astore 5, 2) := by decide +kernel
theorem dX8_pace_55 : decode cX8_pace 55 = .ok (.iconst 0, 1) := by decide +kernel
theorem dX8_pace_56 : decode cX8_pace 56 = .ok (.istore 6, 2) := by decide +kernel
theorem dX8_pace_58 : decode cX8_pace 58 = .ok (.iload_n 2, 1) := by decide +kernel
theorem dX8_pace_59 : decode cX8_pace 59 = .ok (.istore 7, 2) := by decide +kernel
theorem dX8_pace_61 : decode cX8_pace 61 = .ok (.iload 7, 2) := by decide +kernel
theorem dX8_pace_63 : decode cX8_pace 63 = .ok (.iload_n 3, 1) := by decide +kernel
theorem dX8_pace_64 : decode cX8_pace 64 = .ok (.if_icmp .gt 36, 3) := by decide +kernel
theorem dX8_pace_67 : decode cX8_pace 67 = .ok (.iload 6, 2) := by decide +kernel
theorem dX8_pace_69 : decode cX8_pace 69 = .ok (.aload 5, 2) := by decide +kernel
theorem dX8_pace_71 : decode cX8_pace 71 = .ok (.iload 7, 2) := by decide +kernel
theorem dX8_pace_73 : decode cX8_pace 73 = .ok (.iaload, 1) := by decide +kernel
theorem dX8_pace_74 : decode cX8_pace 74 = .ok (.iload 4, 2) := by decide +kernel
theorem dX8_pace_76 : decode cX8_pace 76 = .ok (.if_icmp .ne 7, 3) := by decide +kernel
theorem dX8_pace_79 : decode cX8_pace 79 = .ok (.iconst 0, 1) := by decide +kernel
theorem dX8_pace_80 : decode cX8_pace 80 = .ok (.goto 4, 3) := by decide +kernel
theorem dX8_pace_83 : decode cX8_pace 83 = .ok (.iconst 1, 1) := by decide +kernel
theorem dX8_pace_84 : decode cX8_pace 84 = .ok (.iadd, 1) := by decide +kernel
theorem dX8_pace_85 : decode cX8_pace 85 = .ok (.istore 6, 2) := by decide +kernel
theorem dX8_pace_87 : decode cX8_pace 87 = .ok (.aload 5, 2) := by decide +kernel
theorem dX8_pace_89 : decode cX8_pace 89 = .ok (.iload 7, 2) := by decide +kernel
theorem dX8_pace_91 : decode cX8_pace 91 = .ok (.iload 4, 2) := by decide +kernel
theorem dX8_pace_93 : decode cX8_pace 93 = .ok (.iastore, 1) := by decide +kernel
theorem dX8_pace_94 : decode cX8_pace 94 = .ok (.iinc 7 1, 3) := by decide +kernel
theorem dX8_pace_97 : decode cX8_pace 97 = .ok (.goto (-36), 3) := by decide +kernel
theorem dX8_pace_100 : decode cX8_pace 100 = .ok (.iload 6, 2) := by decide +kernel
theorem dX8_pace_102 : decode cX8_pace 102 = .ok (.ireturn, 1) := by decide +kernel
theorem dX8_paceOf_0 : decode cX8_paceOf 0 = .ok (.aload_n 0, 1) := by decide +kernel
theorem dX8_paceOf_1 : decode cX8_paceOf 1 = .ok (.iload_n 1, 1) := by decide +kernel
theorem dX8_paceOf_2 : decode cX8_paceOf 2 = .ok (.invokevirtual 96, 3) := by decide +kernel
theorem dX8_paceOf_5 : decode cX8_paceOf 5 = .ok (.ifCond .eq 10, 3) := by decide +kernel
theorem dX8_paceOf_8 : decode cX8_paceOf 8 = .ok (.iload_n 2, 1) := by decide +kernel
theorem dX8_paceOf_9 : decode cX8_paceOf 9 = .ok (.invokestatic 70, 3) := by decide +kernel
theorem dX8_paceOf_12 : decode cX8_paceOf 12 = .ok (.ifCond .ne 9, 3) := by decide +kernel
theorem dX8_paceOf_15 : decode cX8_paceOf 15 = .ok (.aload_n 0, 1) := by decide +kernel
theorem dX8_paceOf_16 : decode cX8_paceOf 16 = .ok (.iconst 0, 1) := by decide +kernel
theorem dX8_paceOf_17 : decode cX8_paceOf 17 = .ok (.invokevirtual 78, 3) := by decide +kernel
theorem dX8_paceOf_20 : decode cX8_paceOf 20 = .ok (.ireturn, 1) := by decide +kernel
theorem dX8_paceOf_21 : decode cX8_paceOf 21 = .ok (.aload_n 0, 1) := by decide +kernel
theorem dX8_paceOf_22 : decode cX8_paceOf 22 = .ok (.getfield 16, 3) := by decide +kernel
theorem dX8_paceOf_25 : decode cX8_paceOf 25 = .ok (.getfield 99, 3) := by decide +kernel
theorem dX8_paceOf_28 : decode cX8_paceOf 28 = .ok (.iload_n 1, 1) := by decide +kernel
theorem dX8_paceOf_29 : decode cX8_paceOf 29 = .ok (.aaload, 1) := by decide +kernel
theorem dX8_paceOf_30 : decode cX8_paceOf 30 = .ok (.getfield 118, 3) := by decide +kernel
theorem dX8_paceOf_33 : decode cX8_paceOf 33 = .ok (.iload_n 2, 1) := by decide +kernel
theorem dX8_paceOf_34 : decode cX8_paceOf 34 = .ok (.iaload, 1) := by decide +kernel
theorem dX8_paceOf_35 : decode cX8_paceOf 35 = .ok (.ireturn, 1) := by decide +kernel
theorem dX8_told_0 : decode cX8_told 0 = .ok (.aload_n 0, 1) := by decide +kernel
theorem dX8_told_1 : decode cX8_told 1 = .ok (.iload_n 1, 1) := by decide +kernel
theorem dX8_told_2 : decode cX8_told 2 = .ok (.invokevirtual 96, 3) := by decide +kernel
theorem dX8_told_5 : decode cX8_told 5 = .ok (.ifCond .eq 19, 3) := by decide +kernel
theorem dX8_told_8 : decode cX8_told 8 = .ok (.iload_n 2, 1) := by decide +kernel
theorem dX8_told_9 : decode cX8_told 9 = .ok (.iconst 0, 1) := by decide +kernel
theorem dX8_told_10 : decode cX8_told 10 = .ok (.iconst 1, 1) := by decide +kernel
theorem dX8_told_11 : decode cX8_told 11 = .ok (.invokestatic 74, 3) := by decide +kernel
theorem dX8_told_14 : decode cX8_told 14 = .ok (.ifCond .eq 10, 3) := by decide +kernel
theorem dX8_told_17 : decode cX8_told 17 = .ok (.iload_n 3, 1) := by decide +kernel
theorem dX8_told_18 : decode cX8_told 18 = .ok (.invokestatic 115, 3) := by decide +kernel
theorem dX8_told_21 : decode cX8_told 21 = .ok (.ifCond .ne 9, 3) := by decide +kernel
theorem dX8_told_24 : decode cX8_told 24 = .ok (.aload_n 0, 1) := by decide +kernel
theorem dX8_told_25 : decode cX8_told 25 = .ok (.iconst 0, 1) := by decide +kernel
theorem dX8_told_26 : decode cX8_told 26 = .ok (.invokevirtual 78, 3) := by decide +kernel
theorem dX8_told_29 : decode cX8_told 29 = .ok (.ireturn, 1) := by decide +kernel
theorem dX8_told_30 : decode cX8_told 30 = .ok (.aload_n 0, 1) := by decide +kernel
theorem dX8_told_31 : decode cX8_told 31 = .ok (.getfield 16, 3) := by decide +kernel
theorem dX8_told_34 : decode cX8_told 34 = .ok (.getfield 99, 3) := by decide +kernel
theorem dX8_told_37 : decode cX8_told 37 = .ok (.iload_n 1, 1) := by decide +kernel
theorem dX8_told_38 : decode cX8_told 38 = .ok (.aaload, 1) := by decide +kernel
theorem dX8_told_39 : decode cX8_told 39 = .ok (.astore 4, 2) := by decide +kernel
theorem dX8_told_41 : decode cX8_told 41 = .ok (.iload_n 2, 1) := by decide +kernel
theorem dX8_told_42 : decode cX8_told 42 = .ok (.ifCond .ne 12, 3) := by decide +kernel
theorem dX8_told_45 : decode cX8_told 45 = .ok (.aload 4, 2) := by decide +kernel
theorem dX8_told_47 : decode cX8_told 47 = .ok (.iload_n 3, 1) := by decide +kernel
theorem dX8_told_48 : decode cX8_told 48 = .ok (.invokevirtual 121, 3) := by decide +kernel
theorem dX8_told_51 : decode cX8_told 51 = .ok (.goto 9, 3) := by decide +kernel
theorem dX8_told_54 : decode cX8_told 54 = .ok (.aload 4, 2) := by decide +kernel
theorem dX8_told_56 : decode cX8_told 56 = .ok (.iload_n 3, 1) := by decide +kernel
theorem dX8_told_57 : decode cX8_told 57 = .ok (.invokevirtual 124, 3) := by decide +kernel
theorem dX8_told_60 : decode cX8_told 60 = .ok (.ireturn, 1) := by decide +kernel
theorem dX8_odds_0 : decode cX8_odds 0 = .ok (.aload_n 0, 1) := by decide +kernel
theorem dX8_odds_1 : decode cX8_odds 1 = .ok (.iload_n 1, 1) := by decide +kernel
theorem dX8_odds_2 : decode cX8_odds 2 = .ok (.invokevirtual 96, 3) := by decide +kernel
theorem dX8_odds_5 : decode cX8_odds 5 = .ok (.ifCond .eq 27, 3) := by decide +kernel
theorem dX8_odds_8 : decode cX8_odds 8 = .ok (.iload_n 2, 1) := by decide +kernel
theorem dX8_odds_9 : decode cX8_odds 9 = .ok (.invokestatic 70, 3) := by decide +kernel
theorem dX8_odds_12 : decode cX8_odds 12 = .ok (.ifCond .eq 20, 3) := by decide +kernel
theorem dX8_odds_15 : decode cX8_odds 15 = .ok (.iload_n 3, 1) := by decide +kernel
theorem dX8_odds_16 : decode cX8_odds 16 = .ok (.invokestatic 115, 3) := by decide +kernel
theorem dX8_odds_19 : decode cX8_odds 19 = .ok (.ifCond .eq 13, 3) := by decide +kernel
theorem dX8_odds_22 : decode cX8_odds 22 = .ok (.iload 4, 2) := by decide +kernel
theorem dX8_odds_24 : decode cX8_odds 24 = .ok (.iconst 0, 1) := by decide +kernel
theorem dX8_odds_25 : decode cX8_odds 25 = .ok (.iconst 1, 1) := by decide +kernel
theorem dX8_odds_26 : decode cX8_odds 26 = .ok (.invokestatic 74, 3) := by decide +kernel
theorem dX8_odds_29 : decode cX8_odds 29 = .ok (.ifCond .ne 9, 3) := by decide +kernel
theorem dX8_odds_32 : decode cX8_odds 32 = .ok (.aload_n 0, 1) := by decide +kernel
theorem dX8_odds_33 : decode cX8_odds 33 = .ok (.iconst 0, 1) := by decide +kernel
theorem dX8_odds_34 : decode cX8_odds 34 = .ok (.invokevirtual 78, 3) := by decide +kernel
theorem dX8_odds_37 : decode cX8_odds 37 = .ok (.ireturn, 1) := by decide +kernel
theorem dX8_odds_38 : decode cX8_odds 38 = .ok (.aload_n 0, 1) := by decide +kernel
theorem dX8_odds_39 : decode cX8_odds 39 = .ok (.getfield 16, 3) := by decide +kernel
theorem dX8_odds_42 : decode cX8_odds 42 = .ok (.aload_n 0, 1) := by decide +kernel
theorem dX8_odds_43 : decode cX8_odds 43 = .ok (.getfield 16, 3) := by decide +kernel
theorem dX8_odds_46 : decode cX8_odds 46 = .ok (.getfield 99, 3) := by decide +kernel
theorem dX8_odds_49 : decode cX8_odds 49 = .ok (.iload_n 1, 1) := by decide +kernel
theorem dX8_odds_50 : decode cX8_odds 50 = .ok (.aaload, 1) := by decide +kernel
theorem dX8_odds_51 : decode cX8_odds 51 = .ok (.iload_n 2, 1) := by decide +kernel
theorem dX8_odds_52 : decode cX8_odds 52 = .ok (.iload_n 3, 1) := by decide +kernel
theorem dX8_odds_53 : decode cX8_odds 53 = .ok (.iload 4, 2) := by decide +kernel
theorem dX8_odds_55 : decode cX8_odds 55 = .ok (.iconst 0, 1) := by decide +kernel
theorem dX8_odds_56 : decode cX8_odds 56 = .ok (.invokevirtual 127, 3) := by decide +kernel
theorem dX8_odds_59 : decode cX8_odds 59 = .ok (.ireturn, 1) := by decide +kernel
theorem dX8_now_0 : decode cX8_now 0 = .ok (.aload_n 0, 1) := by decide +kernel
theorem dX8_now_1 : decode cX8_now 1 = .ok (.iload_n 1, 1) := by decide +kernel
theorem dX8_now_2 : decode cX8_now 2 = .ok (.invokevirtual 96, 3) := by decide +kernel
theorem dX8_now_5 : decode cX8_now 5 = .ok (.ifCond .ne 9, 3) := by decide +kernel
theorem dX8_now_8 : decode cX8_now 8 = .ok (.aload_n 0, 1) := by decide +kernel
theorem dX8_now_9 : decode cX8_now 9 = .ok (.iconst 0, 1) := by decide +kernel
theorem dX8_now_10 : decode cX8_now 10 = .ok (.invokevirtual 78, 3) := by decide +kernel
theorem dX8_now_13 : decode cX8_now 13 = .ok (.ireturn, 1) := by decide +kernel
theorem dX8_now_14 : decode cX8_now 14 = .ok (.aload_n 0, 1) := by decide +kernel
theorem dX8_now_15 : decode cX8_now 15 = .ok (.getfield 16, 3) := by decide +kernel
theorem dX8_now_18 : decode cX8_now 18 = .ok (.getfield 99, 3) := by decide +kernel
theorem dX8_now_21 : decode cX8_now 21 = .ok (.iload_n 1, 1) := by decide +kernel
theorem dX8_now_22 : decode cX8_now 22 = .ok (.aaload, 1) := by decide +kernel
theorem dX8_now_23 : decode cX8_now 23 = .ok (.invokevirtual 131, 3) := by decide +kernel
theorem dX8_now_26 : decode cX8_now 26 = .ok (.ifCond .eq 9, 3) := by decide +kernel
theorem dX8_now_29 : decode cX8_now 29 = .ok (.aload_n 0, 1) := by decide +kernel
theorem dX8_now_30 : decode cX8_now 30 = .ok (.iconst 4, 1) := by decide +kernel
theorem dX8_now_31 : decode cX8_now 31 = .ok (.invokevirtual 78, 3) := by decide +kernel
theorem dX8_now_34 : decode cX8_now 34 = .ok (.ireturn, 1) := by decide +kernel
theorem dX8_now_35 : decode cX8_now 35 = .ok (.aload_n 0, 1) := by decide +kernel
theorem dX8_now_36 : decode cX8_now 36 = .ok (.getfield 16, 3) := by decide +kernel
theorem dX8_now_39 : decode cX8_now 39 = .ok (.iload_n 1, 1) := by decide +kernel
theorem dX8_now_40 : decode cX8_now 40 = .ok (.invokevirtual 135, 3) := by decide +kernel
theorem dX8_now_43 : decode cX8_now 43 = .ok (.ireturn, 1) := by decide +kernel
theorem dX8_nerves_0 : decode cX8_nerves 0 = .ok (.aload_n 0, 1) := by decide +kernel
theorem dX8_nerves_1 : decode cX8_nerves 1 = .ok (.iload_n 1, 1) := by decide +kernel
theorem dX8_nerves_2 : decode cX8_nerves 2 = .ok (.invokevirtual 96, 3) := by decide +kernel
theorem dX8_nerves_5 : decode cX8_nerves 5 = .ok (.ifCond .ne 9, 3) := by decide +kernel
theorem dX8_nerves_8 : decode cX8_nerves 8 = .ok (.aload_n 0, 1) := by decide +kernel
theorem dX8_nerves_9 : decode cX8_nerves 9 = .ok (.iconst 0, 1) := by decide +kernel
theorem dX8_nerves_10 : decode cX8_nerves 10 = .ok (.invokevirtual 78, 3) := by decide +kernel
theorem dX8_nerves_13 : decode cX8_nerves 13 = .ok (.ireturn, 1) := by decide +kernel
theorem dX8_nerves_14 : decode cX8_nerves 14 = .ok (.aload_n 0, 1) := by decide +kernel
theorem dX8_nerves_15 : decode cX8_nerves 15 = .ok (.getfield 16, 3) := by decide +kernel
theorem dX8_nerves_18 : decode cX8_nerves 18 = .ok (.iload_n 1, 1) := by decide +kernel
theorem dX8_nerves_19 : decode cX8_nerves 19 = .ok (.invokevirtual 138, 3) := by decide +kernel
theorem dX8_nerves_22 : decode cX8_nerves 22 = .ok (.ireturn, 1) := by decide +kernel
theorem dX8_next_0 : decode cX8_next 0 = .ok (.aload_n 0, 1) := by decide +kernel
theorem dX8_next_1 : decode cX8_next 1 = .ok (.getfield 16, 3) := by decide +kernel
theorem dX8_next_4 : decode cX8_next 4 = .ok (.invokevirtual 141, 3) := by decide +kernel
theorem dX8_next_7 : decode cX8_next 7 = .ok (.istore_n 1, 1) := by decide +kernel
theorem dX8_next_8 : decode cX8_next 8 = .ok (.iload_n 1, 1) := by decide +kernel
theorem dX8_next_9 : decode cX8_next 9 = .ok (.ifCond .ge 11, 3) := by decide +kernel
theorem dX8_next_12 : decode cX8_next 12 = .ok (.aload_n 0, 1) := by decide +kernel
theorem dX8_next_13 : decode cX8_next 13 = .ok (.iconst 3, 1) := by decide +kernel
theorem dX8_next_14 : decode cX8_next 14 = .ok (.invokevirtual 78, 3) := by decide +kernel
theorem dX8_next_17 : decode cX8_next 17 = .ok (.goto 4, 3) := by decide +kernel
theorem dX8_next_20 : decode cX8_next 20 = .ok (.iload_n 1, 1) := by decide +kernel
theorem dX8_next_21 : decode cX8_next 21 = .ok (.ireturn, 1) := by decide +kernel
theorem dX8_steps_0 : decode cX8_steps 0 = .ok (.iload_n 1, 1) := by decide +kernel
theorem dX8_steps_1 : decode cX8_steps 1 = .ok (.iconst 1, 1) := by decide +kernel
theorem dX8_steps_2 : decode cX8_steps 2 = .ok (.sipush 180, 3) := by decide +kernel
theorem dX8_steps_5 : decode cX8_steps 5 = .ok (.invokestatic 74, 3) := by decide +kernel
theorem dX8_steps_8 : decode cX8_steps 8 = .ok (.ifCond .ne 9, 3) := by decide +kernel
theorem dX8_steps_11 : decode cX8_steps 11 = .ok (.aload_n 0, 1) := by decide +kernel
theorem dX8_steps_12 : decode cX8_steps 12 = .ok (.iconst 0, 1) := by decide +kernel
theorem dX8_steps_13 : decode cX8_steps 13 = .ok (.invokevirtual 78, 3) := by decide +kernel
theorem dX8_steps_16 : decode cX8_steps 16 = .ok (.ireturn, 1) := by decide +kernel
theorem dX8_steps_17 : decode cX8_steps 17 = .ok (.aload_n 0, 1) := by decide +kernel
theorem dX8_steps_18 : decode cX8_steps 18 = .ok (.getfield 16, 3) := by decide +kernel
theorem dX8_steps_21 : decode cX8_steps 21 = .ok (.iload_n 1, 1) := by decide +kernel
theorem dX8_steps_22 : decode cX8_steps 22 = .ok (.invokevirtual 145, 3) := by decide +kernel
theorem dX8_steps_25 : decode cX8_steps 25 = .ok (.ireturn, 1) := by decide +kernel
theorem dX8_start_0 : decode cX8_start 0 = .ok (.aload_n 0, 1) := by decide +kernel
theorem dX8_start_1 : decode cX8_start 1 = .ok (.getfield 16, 3) := by decide +kernel
theorem dX8_start_4 : decode cX8_start 4 = .ok (.invokevirtual 148, 3) := by decide +kernel
theorem dX8_start_7 : decode cX8_start 7 = .ok (.ireturn, 1) := by decide +kernel
theorem dX8_ahead_0 : decode cX8_ahead 0 = .ok (.iload_n 1, 1) := by decide +kernel
theorem dX8_ahead_1 : decode cX8_ahead 1 = .ok (.iconst 0, 1) := by decide +kernel
theorem dX8_ahead_2 : decode cX8_ahead 2 = .ok (.sipush 180, 3) := by decide +kernel
theorem dX8_ahead_5 : decode cX8_ahead 5 = .ok (.invokestatic 74, 3) := by decide +kernel
theorem dX8_ahead_8 : decode cX8_ahead 8 = .ok (.ifCond .eq 20, 3) := by decide +kernel
theorem dX8_ahead_11 : decode cX8_ahead 11 = .ok (.iload_n 2, 1) := by decide +kernel
theorem dX8_ahead_12 : decode cX8_ahead 12 = .ok (.iconst 0, 1) := by decide +kernel
theorem dX8_ahead_13 : decode cX8_ahead 13 = .ok (.iconst 2, 1) := by decide +kernel
theorem dX8_ahead_14 : decode cX8_ahead 14 = .ok (.aload_n 0, 1) := by decide +kernel
theorem dX8_ahead_15 : decode cX8_ahead 15 = .ok (.getfield 16, 3) := by decide +kernel
theorem dX8_ahead_18 : decode cX8_ahead 18 = .ok (.getfield 89, 3) := by decide +kernel
theorem dX8_ahead_21 : decode cX8_ahead 21 = .ok (.iadd, 1) := by decide +kernel
theorem dX8_ahead_22 : decode cX8_ahead 22 = .ok (.invokestatic 74, 3) := by decide +kernel
theorem dX8_ahead_25 : decode cX8_ahead 25 = .ok (.ifCond .ne 9, 3) := by decide +kernel
theorem dX8_ahead_28 : decode cX8_ahead 28 = .ok (.aload_n 0, 1) := by decide +kernel
theorem dX8_ahead_29 : decode cX8_ahead 29 = .ok (.iconst 0, 1) := by decide +kernel
theorem dX8_ahead_30 : decode cX8_ahead 30 = .ok (.invokevirtual 78, 3) := by decide +kernel
theorem dX8_ahead_33 : decode cX8_ahead 33 = .ok (.ireturn, 1) := by decide +kernel
theorem dX8_ahead_34 : decode cX8_ahead 34 = .ok (.aload_n 0, 1) := by decide +kernel
theorem dX8_ahead_35 : decode cX8_ahead 35 = .ok (.getfield 23, 3) := by decide +kernel
theorem dX8_ahead_38 : decode cX8_ahead 38 = .ok (.aload_n 0, 1) := by decide +kernel
theorem dX8_ahead_39 : decode cX8_ahead 39 = .ok (.getfield 16, 3) := by decide +kernel
theorem dX8_ahead_42 : decode cX8_ahead 42 = .ok (.invokevirtual 151, 3) := by decide +kernel
theorem dX8_ahead_45 : decode cX8_ahead 45 = .ok (.aload_n 0, 1) := by decide +kernel
theorem dX8_ahead_46 : decode cX8_ahead 46 = .ok (.getfield 23, 3) := by decide +kernel
theorem dX8_ahead_49 : decode cX8_ahead 49 = .ok (.iload_n 1, 1) := by decide +kernel
theorem dX8_ahead_50 : decode cX8_ahead 50 = .ok (.invokevirtual 145, 3) := by decide +kernel
theorem dX8_ahead_53 : decode cX8_ahead 53 = .ok (.istore_n 3, 1) := by decide +kernel
theorem dX8_ahead_54 : decode cX8_ahead 54 = .ok (.iload_n 2, 1) := by decide +kernel
theorem dX8_ahead_55 : decode cX8_ahead 55 = .ok (.tableswitch 43 0 2 #[25, 33, 35], 25) := by decide +kernel
theorem dX8_ahead_80 : decode cX8_ahead 80 = .ok (.aload_n 0, 1) := by decide +kernel
theorem dX8_ahead_81 : decode cX8_ahead 81 = .ok (.getfield 23, 3) := by decide +kernel
theorem dX8_ahead_84 : decode cX8_ahead 84 = .ok (.invokevirtual 155, 3) := by decide +kernel
theorem dX8_ahead_87 : decode cX8_ahead 87 = .ok (.ireturn, 1) := by decide +kernel
theorem dX8_ahead_88 : decode cX8_ahead 88 = .ok (.iload_n 3, 1) := by decide +kernel
theorem dX8_ahead_89 : decode cX8_ahead 89 = .ok (.ireturn, 1) := by decide +kernel
theorem dX8_ahead_90 : decode cX8_ahead 90 = .ok (.aload_n 0, 1) := by decide +kernel
theorem dX8_ahead_91 : decode cX8_ahead 91 = .ok (.getfield 23, 3) := by decide +kernel
theorem dX8_ahead_94 : decode cX8_ahead 94 = .ok (.invokevirtual 141, 3) := by decide +kernel
theorem dX8_ahead_97 : decode cX8_ahead 97 = .ok (.ireturn, 1) := by decide +kernel
theorem dX8_ahead_98 : decode cX8_ahead 98 = .ok (.aload_n 0, 1) := by decide +kernel
theorem dX8_ahead_99 : decode cX8_ahead 99 = .ok (.getfield 23, 3) := by decide +kernel
theorem dX8_ahead_102 : decode cX8_ahead 102 = .ok (.getfield 99, 3) := by decide +kernel
theorem dX8_ahead_105 : decode cX8_ahead 105 = .ok (.iload_n 2, 1) := by decide +kernel
theorem dX8_ahead_106 : decode cX8_ahead 106 = .ok (.iconst 3, 1) := by decide +kernel
theorem dX8_ahead_107 : decode cX8_ahead 107 = .ok (.isub, 1) := by decide +kernel
theorem dX8_ahead_108 : decode cX8_ahead 108 = .ok (.aaload, 1) := by decide +kernel
theorem dX8_ahead_109 : decode cX8_ahead 109 = .ok (.getfield 158, 3) := by decide +kernel
theorem dX8_ahead_112 : decode cX8_ahead 112 = .ok (.ireturn, 1) := by decide +kernel
theorem dX8_winner_0 : decode cX8_winner 0 = .ok (.aload_n 0, 1) := by decide +kernel
theorem dX8_winner_1 : decode cX8_winner 1 = .ok (.getfield 16, 3) := by decide +kernel
theorem dX8_winner_4 : decode cX8_winner 4 = .ok (.getfield 89, 3) := by decide +kernel
theorem dX8_winner_7 : decode cX8_winner 7 = .ok (.ifCond .ne 9, 3) := by decide +kernel
theorem dX8_winner_10 : decode cX8_winner 10 = .ok (.aload_n 0, 1) := by decide +kernel
theorem dX8_winner_11 : decode cX8_winner 11 = .ok (.iconst 3, 1) := by decide +kernel
theorem dX8_winner_12 : decode cX8_winner 12 = .ok (.invokevirtual 78, 3) := by decide +kernel
theorem dX8_winner_15 : decode cX8_winner 15 = .ok (.ireturn, 1) := by decide +kernel
theorem dX8_winner_16 : decode cX8_winner 16 = .ok (.aload_n 0, 1) := by decide +kernel
theorem dX8_winner_17 : decode cX8_winner 17 = .ok (.invokevirtual 161, 3) := by decide +kernel
theorem dX8_winner_20 : decode cX8_winner 20 = .ok (.aload_n 0, 1) := by decide +kernel
theorem dX8_winner_21 : decode cX8_winner 21 = .ok (.getfield 23, 3) := by decide +kernel
theorem dX8_winner_24 : decode cX8_winner 24 = .ok (.invokevirtual 164, 3) := by decide +kernel
theorem dX8_winner_27 : decode cX8_winner 27 = .ok (.ireturn, 1) := by decide +kernel
theorem dX8_place_0 : decode cX8_place 0 = .ok (.aload_n 0, 1) := by decide +kernel
theorem dX8_place_1 : decode cX8_place 1 = .ok (.iload_n 1, 1) := by decide +kernel
theorem dX8_place_2 : decode cX8_place 2 = .ok (.invokevirtual 96, 3) := by decide +kernel
theorem dX8_place_5 : decode cX8_place 5 = .ok (.ifCond .ne 9, 3) := by decide +kernel
theorem dX8_place_8 : decode cX8_place 8 = .ok (.aload_n 0, 1) := by decide +kernel
theorem dX8_place_9 : decode cX8_place 9 = .ok (.iconst 0, 1) := by decide +kernel
theorem dX8_place_10 : decode cX8_place 10 = .ok (.invokevirtual 78, 3) := by decide +kernel
theorem dX8_place_13 : decode cX8_place 13 = .ok (.ireturn, 1) := by decide +kernel
theorem dX8_place_14 : decode cX8_place 14 = .ok (.aload_n 0, 1) := by decide +kernel
theorem dX8_place_15 : decode cX8_place 15 = .ok (.invokevirtual 161, 3) := by decide +kernel
theorem dX8_place_18 : decode cX8_place 18 = .ok (.aload_n 0, 1) := by decide +kernel
theorem dX8_place_19 : decode cX8_place 19 = .ok (.getfield 23, 3) := by decide +kernel
theorem dX8_place_22 : decode cX8_place 22 = .ok (.iload_n 1, 1) := by decide +kernel
theorem dX8_place_23 : decode cX8_place 23 = .ok (.invokevirtual 167, 3) := by decide +kernel
theorem dX8_place_26 : decode cX8_place 26 = .ok (.ireturn, 1) := by decide +kernel
theorem dX8_wins_0 : decode cX8_wins 0 = .ok (.aload_n 0, 1) := by decide +kernel
theorem dX8_wins_1 : decode cX8_wins 1 = .ok (.iload_n 1, 1) := by decide +kernel
theorem dX8_wins_2 : decode cX8_wins 2 = .ok (.invokevirtual 96, 3) := by decide +kernel
theorem dX8_wins_5 : decode cX8_wins 5 = .ok (.ifCond .eq 13, 3) := by decide +kernel
theorem dX8_wins_8 : decode cX8_wins 8 = .ok (.iload_n 2, 1) := by decide +kernel
theorem dX8_wins_9 : decode cX8_wins 9 = .ok (.iconst 1, 1) := by decide +kernel
theorem dX8_wins_10 : decode cX8_wins 10 = .ok (.bipush 10, 2) := by decide +kernel
theorem dX8_wins_12 : decode cX8_wins 12 = .ok (.invokestatic 74, 3) := by decide +kernel
theorem dX8_wins_15 : decode cX8_wins 15 = .ok (.ifCond .ne 9, 3) := by decide +kernel
theorem dX8_wins_18 : decode cX8_wins 18 = .ok (.aload_n 0, 1) := by decide +kernel
theorem dX8_wins_19 : decode cX8_wins 19 = .ok (.iconst 0, 1) := by decide +kernel
theorem dX8_wins_20 : decode cX8_wins 20 = .ok (.invokevirtual 78, 3) := by decide +kernel
theorem dX8_wins_23 : decode cX8_wins 23 = .ok (.ireturn, 1) := by decide +kernel
theorem dX8_wins_24 : decode cX8_wins 24 = .ok (.aload_n 0, 1) := by decide +kernel
theorem dX8_wins_25 : decode cX8_wins 25 = .ok (.getfield 23, 3) := by decide +kernel
theorem dX8_wins_28 : decode cX8_wins 28 = .ok (.aload_n 0, 1) := by decide +kernel
theorem dX8_wins_29 : decode cX8_wins 29 = .ok (.getfield 16, 3) := by decide +kernel
theorem dX8_wins_32 : decode cX8_wins 32 = .ok (.invokevirtual 151, 3) := by decide +kernel
theorem dX8_wins_35 : decode cX8_wins 35 = .ok (.iconst 0, 1) := by decide +kernel
theorem dX8_wins_36 : decode cX8_wins 36 = .ok (.istore_n 3, 1) := by decide +kernel
theorem dX8_wins_37 : decode cX8_wins 37 = .ok (.iconst 0, 1) := by decide +kernel
theorem dX8_wins_38 : decode cX8_wins 38 = .ok (.istore 4, 2) := by decide +kernel
theorem dX8_wins_40 : decode cX8_wins 40 = .ok (.iload 4, 2) := by decide +kernel
theorem dX8_wins_42 : decode cX8_wins 42 = .ok (.iload_n 2, 1) := by decide +kernel
theorem dX8_wins_43 : decode cX8_wins 43 = .ok (.if_icmp .ge 47, 3) := by decide +kernel
theorem dX8_wins_46 : decode cX8_wins 46 = .ok (.aload_n 0, 1) := by decide +kernel
theorem dX8_wins_47 : decode cX8_wins 47 = .ok (.getfield 23, 3) := by decide +kernel
theorem dX8_wins_50 : decode cX8_wins 50 = .ok (.invokevirtual 148, 3) := by decide +kernel
theorem dX8_wins_53 : decode cX8_wins 53 = .ok (.pop, 1) := by decide +kernel
theorem dX8_wins_54 : decode cX8_wins 54 = .ok (.aload_n 0, 1) := by decide +kernel
theorem dX8_wins_55 : decode cX8_wins 55 = .ok (.getfield 23, 3) := by decide +kernel
theorem dX8_wins_58 : decode cX8_wins 58 = .ok (.sipush 180, 3) := by decide +kernel
theorem dX8_wins_61 : decode cX8_wins 61 = .ok (.invokevirtual 145, 3) := by decide +kernel
theorem dX8_wins_64 : decode cX8_wins 64 = .ok (.pop, 1) := by decide +kernel
theorem dX8_wins_65 : decode cX8_wins 65 = .ok (.iload_n 3, 1) := by decide +kernel
theorem dX8_wins_66 : decode cX8_wins 66 = .ok (.aload_n 0, 1) := by decide +kernel
theorem dX8_wins_67 : decode cX8_wins 67 = .ok (.getfield 23, 3) := by decide +kernel
theorem dX8_wins_70 : decode cX8_wins 70 = .ok (.invokevirtual 164, 3) := by decide +kernel
theorem dX8_wins_73 : decode cX8_wins 73 = .ok (.iload_n 1, 1) := by decide +kernel
theorem dX8_wins_74 : decode cX8_wins 74 = .ok (.if_icmp .ne 7, 3) := by decide +kernel
theorem dX8_wins_77 : decode cX8_wins 77 = .ok (.iconst 1, 1) := by decide +kernel
theorem dX8_wins_78 : decode cX8_wins 78 = .ok (.goto 4, 3) := by decide +kernel
theorem dX8_wins_81 : decode cX8_wins 81 = .ok (.iconst 0, 1) := by decide +kernel
theorem dX8_wins_82 : decode cX8_wins 82 = .ok (.iadd, 1) := by decide +kernel
theorem dX8_wins_83 : decode cX8_wins 83 = .ok (.istore_n 3, 1) := by decide +kernel
theorem dX8_wins_84 : decode cX8_wins 84 = .ok (.iinc 4 1, 3) := by decide +kernel
theorem dX8_wins_87 : decode cX8_wins 87 = .ok (.goto (-47), 3) := by decide +kernel
theorem dX8_wins_90 : decode cX8_wins 90 = .ok (.aload_n 0, 1) := by decide +kernel
theorem dX8_wins_91 : decode cX8_wins 91 = .ok (.getfield 16, 3) := by decide +kernel
theorem dX8_wins_94 : decode cX8_wins 94 = .ok (.aload_n 0, 1) := by decide +kernel
theorem dX8_wins_95 : decode cX8_wins 95 = .ok (.getfield 23, 3) := by decide +kernel
theorem dX8_wins_98 : decode cX8_wins 98 = .ok (.getfield 170, 3) := by decide +kernel
theorem dX8_wins_101 : decode cX8_wins 101 = .ok (.putfield 170, 3) := by decide +kernel
theorem dX8_wins_104 : decode cX8_wins 104 = .ok (.iload_n 3, 1) := by decide +kernel
theorem dX8_wins_105 : decode cX8_wins 105 = .ok (.ireturn, 1) := by decide +kernel
theorem dX8_clean_0 : decode cX8_clean 0 = .ok (.aload_n 0, 1) := by decide +kernel
theorem dX8_clean_1 : decode cX8_clean 1 = .ok (.iload_n 1, 1) := by decide +kernel
theorem dX8_clean_2 : decode cX8_clean 2 = .ok (.iload_n 2, 1) := by decide +kernel
theorem dX8_clean_3 : decode cX8_clean 3 = .ok (.iload_n 3, 1) := by decide +kernel
theorem dX8_clean_4 : decode cX8_clean 4 = .ok (.invokevirtual 173, 3) := by decide +kernel
theorem dX8_clean_7 : decode cX8_clean 7 = .ok (.ifCond .eq 13, 3) := by decide +kernel
theorem dX8_clean_10 : decode cX8_clean 10 = .ok (.iload_n 3, 1) := by decide +kernel
theorem dX8_clean_11 : decode cX8_clean 11 = .ok (.iconst 0, 1) := by decide +kernel
theorem dX8_clean_12 : decode cX8_clean 12 = .ok (.bipush 12, 2) := by decide +kernel
theorem dX8_clean_14 : decode cX8_clean 14 = .ok (.invokestatic 74, 3) := by decide +kernel
theorem dX8_clean_17 : decode cX8_clean 17 = .ok (.ifCond .ne 10, 3) := by decide +kernel
theorem dX8_clean_20 : decode cX8_clean 20 = .ok (.aload_n 0, 1) := by decide +kernel
theorem dX8_clean_21 : decode cX8_clean 21 = .ok (.iconst 0, 1) := by decide +kernel
theorem dX8_clean_22 : decode cX8_clean 22 = .ok (.invokevirtual 78, 3) := by decide +kernel
theorem dX8_clean_25 : decode cX8_clean 25 = .ok (.i2l, 1) := by decide +kernel
theorem dX8_clean_26 : decode cX8_clean 26 = .ok (.lreturn, 1) := by decide +kernel
theorem dX8_clean_27 : decode cX8_clean 27 = .ok (.aload_n 0, 1) := by decide +kernel
theorem dX8_clean_28 : decode cX8_clean 28 = .ok (.getfield 16, 3) := by decide +kernel
theorem dX8_clean_31 : decode cX8_clean 31 = .ok (.getfield 99, 3) := by decide +kernel
theorem dX8_clean_34 : decode cX8_clean 34 = .ok (.iload_n 1, 1) := by decide +kernel
theorem dX8_clean_35 : decode cX8_clean 35 = .ok (.aaload, 1) := by decide +kernel
theorem dX8_clean_36 : decode cX8_clean 36 = .ok (.astore 4, 2) := by decide +kernel
theorem dX8_clean_38 : decode cX8_clean 38 = .ok (.lconst 1, 1) := by decide +kernel
theorem dX8_clean_39 : decode cX8_clean 39 = .ok (.lstore 5, 2) := by decide +kernel
theorem dX8_clean_41 : decode cX8_clean 41 = .ok (.iload_n 2, 1) := by decide +kernel
theorem dX8_clean_42 : decode cX8_clean 42 = .ok (.istore 7, 2) := by decide +kernel
theorem dX8_clean_44 : decode cX8_clean 44 = .ok (.iload 7, 2) := by decide +kernel
theorem dX8_clean_46 : decode cX8_clean 46 = .ok (.iload_n 2, 1) := by decide +kernel
theorem dX8_clean_47 : decode cX8_clean 47 = .ok (.iload_n 3, 1) := by decide +kernel
theorem dX8_clean_48 : decode cX8_clean 48 = .ok (.iadd, 1) := by decide +kernel
theorem dX8_clean_49 : decode cX8_clean 49 = .ok (.if_icmp .ge 39, 3) := by decide +kernel
theorem dX8_clean_52 : decode cX8_clean 52 = .ok (.lload 5, 2) := by decide +kernel
theorem dX8_clean_54 : decode cX8_clean 54 = .ok (.bipush 24, 2) := by decide +kernel
theorem dX8_clean_56 : decode cX8_clean 56 = .ok (.aload_n 0, 1) := by decide +kernel
theorem dX8_clean_57 : decode cX8_clean 57 = .ok (.getfield 16, 3) := by decide +kernel
theorem dX8_clean_60 : decode cX8_clean 60 = .ok (.aload 4, 2) := by decide +kernel
theorem dX8_clean_62 : decode cX8_clean 62 = .ok (.iload 7, 2) := by decide +kernel
theorem dX8_clean_64 : decode cX8_clean 64 = .ok (.aload 4, 2) := by decide +kernel
theorem dX8_clean_66 : decode cX8_clean 66 = .ok (.getfield 118, 3) := by decide +kernel
theorem dX8_clean_69 : decode cX8_clean 69 = .ok (.iload 7, 2) := by decide +kernel
theorem dX8_clean_71 : decode cX8_clean 71 = .ok (.iaload, 1) := by decide +kernel
theorem dX8_clean_72 : decode cX8_clean 72 = .ok (.iconst 0, 1) := by decide +kernel
theorem dX8_clean_73 : decode cX8_clean 73 = .ok (.iconst 0, 1) := by decide +kernel
theorem dX8_clean_74 : decode cX8_clean 74 = .ok (.invokevirtual 127, 3) := by decide +kernel
theorem dX8_clean_77 : decode cX8_clean 77 = .ok (.isub, 1) := by decide +kernel
theorem dX8_clean_78 : decode cX8_clean 78 = .ok (.i2l, 1) := by decide +kernel
theorem dX8_clean_79 : decode cX8_clean 79 = .ok (.lmul, 1) := by decide +kernel
theorem dX8_clean_80 : decode cX8_clean 80 = .ok (.lstore 5, 2) := by decide +kernel
theorem dX8_clean_82 : decode cX8_clean 82 = .ok (.iinc 7 1, 3) := by decide +kernel
theorem dX8_clean_85 : decode cX8_clean 85 = .ok (.goto (-41), 3) := by decide +kernel
theorem dX8_clean_88 : decode cX8_clean 88 = .ok (.lload 5, 2) := by decide +kernel
theorem dX8_clean_90 : decode cX8_clean 90 = .ok (.lreturn, 1) := by decide +kernel
theorem dX8_drops_0 : decode cX8_drops 0 = .ok (.aload_n 0, 1) := by decide +kernel
theorem dX8_drops_1 : decode cX8_drops 1 = .ok (.iload_n 1, 1) := by decide +kernel
theorem dX8_drops_2 : decode cX8_drops 2 = .ok (.iload_n 2, 1) := by decide +kernel
theorem dX8_drops_3 : decode cX8_drops 3 = .ok (.iload_n 3, 1) := by decide +kernel
theorem dX8_drops_4 : decode cX8_drops 4 = .ok (.invokevirtual 173, 3) := by decide +kernel
theorem dX8_drops_7 : decode cX8_drops 7 = .ok (.ifCond .eq 23, 3) := by decide +kernel
theorem dX8_drops_10 : decode cX8_drops 10 = .ok (.iload_n 3, 1) := by decide +kernel
theorem dX8_drops_11 : decode cX8_drops 11 = .ok (.iconst 0, 1) := by decide +kernel
theorem dX8_drops_12 : decode cX8_drops 12 = .ok (.bipush 10, 2) := by decide +kernel
theorem dX8_drops_14 : decode cX8_drops 14 = .ok (.invokestatic 74, 3) := by decide +kernel
theorem dX8_drops_17 : decode cX8_drops 17 = .ok (.ifCond .eq 13, 3) := by decide +kernel
theorem dX8_drops_20 : decode cX8_drops 20 = .ok (.iload 4, 2) := by decide +kernel
theorem dX8_drops_22 : decode cX8_drops 22 = .ok (.iconst 0, 1) := by decide +kernel
theorem dX8_drops_23 : decode cX8_drops 23 = .ok (.iload_n 3, 1) := by decide +kernel
theorem dX8_drops_24 : decode cX8_drops 24 = .ok (.invokestatic 74, 3) := by decide +kernel
theorem dX8_drops_27 : decode cX8_drops 27 = .ok (.ifCond .ne 10, 3) := by decide +kernel
theorem dX8_drops_30 : decode cX8_drops 30 = .ok (.aload_n 0, 1) := by decide +kernel
theorem dX8_drops_31 : decode cX8_drops 31 = .ok (.iconst 0, 1) := by decide +kernel
theorem dX8_drops_32 : decode cX8_drops 32 = .ok (.invokevirtual 78, 3) := by decide +kernel
theorem dX8_drops_35 : decode cX8_drops 35 = .ok (.i2l, 1) := by decide +kernel
theorem dX8_drops_36 : decode cX8_drops 36 = .ok (.lreturn, 1) := by decide +kernel
theorem dX8_drops_37 : decode cX8_drops 37 = .ok (.aload_n 0, 1) := by decide +kernel
theorem dX8_drops_38 : decode cX8_drops 38 = .ok (.getfield 36, 3) := by decide +kernel
theorem dX8_drops_41 : decode cX8_drops 41 = .ok (.aload_n 0, 1) := by decide +kernel
theorem dX8_drops_42 : decode cX8_drops 42 = .ok (.getfield 16, 3) := by decide +kernel
theorem dX8_drops_45 : decode cX8_drops 45 = .ok (.iload_n 1, 1) := by decide +kernel
theorem dX8_drops_46 : decode cX8_drops 46 = .ok (.iload_n 2, 1) := by decide +kernel
theorem dX8_drops_47 : decode cX8_drops 47 = .ok (.iload_n 3, 1) := by decide +kernel
theorem dX8_drops_48 : decode cX8_drops 48 = .ok (.iload 4, 2) := by decide +kernel
theorem dX8_drops_50 : decode cX8_drops 50 = .ok (.invokevirtual 176, 3) := by decide +kernel
theorem dX8_drops_53 : decode cX8_drops 53 = .ok (.lreturn, 1) := by decide +kernel
theorem dX8_mean_0 : decode cX8_mean 0 = .ok (.aload_n 0, 1) := by decide +kernel
theorem dX8_mean_1 : decode cX8_mean 1 = .ok (.iload_n 1, 1) := by decide +kernel
theorem dX8_mean_2 : decode cX8_mean 2 = .ok (.invokevirtual 96, 3) := by decide +kernel
theorem dX8_mean_5 : decode cX8_mean 5 = .ok (.ifCond .eq 22, 3) := by decide +kernel
theorem dX8_mean_8 : decode cX8_mean 8 = .ok (.iload_n 2, 1) := by decide +kernel
theorem dX8_mean_9 : decode cX8_mean 9 = .ok (.iconst 0, 1) := by decide +kernel
theorem dX8_mean_10 : decode cX8_mean 10 = .ok (.bipush 30, 2) := by decide +kernel
theorem dX8_mean_12 : decode cX8_mean 12 = .ok (.invokestatic 74, 3) := by decide +kernel
theorem dX8_mean_15 : decode cX8_mean 15 = .ok (.ifCond .eq 12, 3) := by decide +kernel
theorem dX8_mean_18 : decode cX8_mean 18 = .ok (.iload_n 3, 1) := by decide +kernel
theorem dX8_mean_19 : decode cX8_mean 19 = .ok (.iconst 0, 1) := by decide +kernel
theorem dX8_mean_20 : decode cX8_mean 20 = .ok (.iconst 3, 1) := by decide +kernel
theorem dX8_mean_21 : decode cX8_mean 21 = .ok (.invokestatic 74, 3) := by decide +kernel
theorem dX8_mean_24 : decode cX8_mean 24 = .ok (.ifCond .ne 9, 3) := by decide +kernel
theorem dX8_mean_27 : decode cX8_mean 27 = .ok (.aload_n 0, 1) := by decide +kernel
theorem dX8_mean_28 : decode cX8_mean 28 = .ok (.iconst 0, 1) := by decide +kernel
theorem dX8_mean_29 : decode cX8_mean 29 = .ok (.invokevirtual 78, 3) := by decide +kernel
theorem dX8_mean_32 : decode cX8_mean 32 = .ok (.ireturn, 1) := by decide +kernel
theorem dX8_mean_33 : decode cX8_mean 33 = .ok (.aload_n 0, 1) := by decide +kernel
theorem dX8_mean_34 : decode cX8_mean 34 = .ok (.getfield 29, 3) := by decide +kernel
theorem dX8_mean_37 : decode cX8_mean 37 = .ok (.aload_n 0, 1) := by decide +kernel
theorem dX8_mean_38 : decode cX8_mean 38 = .ok (.getfield 16, 3) := by decide +kernel
theorem dX8_mean_41 : decode cX8_mean 41 = .ok (.iload_n 1, 1) := by decide +kernel
theorem dX8_mean_42 : decode cX8_mean 42 = .ok (.iload_n 2, 1) := by decide +kernel
theorem dX8_mean_43 : decode cX8_mean 43 = .ok (.bipush 30, 2) := by decide +kernel
theorem dX8_mean_45 : decode cX8_mean 45 = .ok (.iload_n 3, 1) := by decide +kernel
theorem dX8_mean_46 : decode cX8_mean 46 = .ok (.invokevirtual 180, 3) := by decide +kernel
theorem dX8_mean_49 : decode cX8_mean 49 = .ok (.ireturn, 1) := by decide +kernel
theorem dX8_least_0 : decode cX8_least 0 = .ok (.aload_n 0, 1) := by decide +kernel
theorem dX8_least_1 : decode cX8_least 1 = .ok (.iload_n 1, 1) := by decide +kernel
theorem dX8_least_2 : decode cX8_least 2 = .ok (.invokevirtual 96, 3) := by decide +kernel
theorem dX8_least_5 : decode cX8_least 5 = .ok (.ifCond .eq 22, 3) := by decide +kernel
theorem dX8_least_8 : decode cX8_least 8 = .ok (.iload_n 2, 1) := by decide +kernel
theorem dX8_least_9 : decode cX8_least 9 = .ok (.iconst 0, 1) := by decide +kernel
theorem dX8_least_10 : decode cX8_least 10 = .ok (.bipush 30, 2) := by decide +kernel
theorem dX8_least_12 : decode cX8_least 12 = .ok (.invokestatic 74, 3) := by decide +kernel
theorem dX8_least_15 : decode cX8_least 15 = .ok (.ifCond .eq 12, 3) := by decide +kernel
theorem dX8_least_18 : decode cX8_least 18 = .ok (.iload_n 3, 1) := by decide +kernel
theorem dX8_least_19 : decode cX8_least 19 = .ok (.iconst 0, 1) := by decide +kernel
theorem dX8_least_20 : decode cX8_least 20 = .ok (.iconst 3, 1) := by decide +kernel
theorem dX8_least_21 : decode cX8_least 21 = .ok (.invokestatic 74, 3) := by decide +kernel
theorem dX8_least_24 : decode cX8_least 24 = .ok (.ifCond .ne 9, 3) := by decide +kernel
theorem dX8_least_27 : decode cX8_least 27 = .ok (.aload_n 0, 1) := by decide +kernel
theorem dX8_least_28 : decode cX8_least 28 = .ok (.iconst 0, 1) := by decide +kernel
theorem dX8_least_29 : decode cX8_least 29 = .ok (.invokevirtual 78, 3) := by decide +kernel
theorem dX8_least_32 : decode cX8_least 32 = .ok (.ireturn, 1) := by decide +kernel
theorem dX8_least_33 : decode cX8_least 33 = .ok (.aload_n 0, 1) := by decide +kernel
theorem dX8_least_34 : decode cX8_least 34 = .ok (.getfield 29, 3) := by decide +kernel
theorem dX8_least_37 : decode cX8_least 37 = .ok (.aload_n 0, 1) := by decide +kernel
theorem dX8_least_38 : decode cX8_least 38 = .ok (.getfield 16, 3) := by decide +kernel
theorem dX8_least_41 : decode cX8_least 41 = .ok (.iload_n 1, 1) := by decide +kernel
theorem dX8_least_42 : decode cX8_least 42 = .ok (.iload_n 2, 1) := by decide +kernel
theorem dX8_least_43 : decode cX8_least 43 = .ok (.iload_n 3, 1) := by decide +kernel
theorem dX8_least_44 : decode cX8_least 44 = .ok (.invokevirtual 184, 3) := by decide +kernel
theorem dX8_least_47 : decode cX8_least 47 = .ok (.ireturn, 1) := by decide +kernel
theorem dX8_best_0 : decode cX8_best 0 = .ok (.aload_n 0, 1) := by decide +kernel
theorem dX8_best_1 : decode cX8_best 1 = .ok (.iload_n 1, 1) := by decide +kernel
theorem dX8_best_2 : decode cX8_best 2 = .ok (.invokevirtual 96, 3) := by decide +kernel
theorem dX8_best_5 : decode cX8_best 5 = .ok (.ifCond .eq 19, 3) := by decide +kernel
theorem dX8_best_8 : decode cX8_best 8 = .ok (.iload_n 2, 1) := by decide +kernel
theorem dX8_best_9 : decode cX8_best 9 = .ok (.invokestatic 70, 3) := by decide +kernel
theorem dX8_best_12 : decode cX8_best 12 = .ok (.ifCond .eq 12, 3) := by decide +kernel
theorem dX8_best_15 : decode cX8_best 15 = .ok (.iload_n 3, 1) := by decide +kernel
theorem dX8_best_16 : decode cX8_best 16 = .ok (.iconst 0, 1) := by decide +kernel
theorem dX8_best_17 : decode cX8_best 17 = .ok (.iconst 3, 1) := by decide +kernel
theorem dX8_best_18 : decode cX8_best 18 = .ok (.invokestatic 74, 3) := by decide +kernel
theorem dX8_best_21 : decode cX8_best 21 = .ok (.ifCond .ne 9, 3) := by decide +kernel
theorem dX8_best_24 : decode cX8_best 24 = .ok (.aload_n 0, 1) := by decide +kernel
theorem dX8_best_25 : decode cX8_best 25 = .ok (.iconst 0, 1) := by decide +kernel
theorem dX8_best_26 : decode cX8_best 26 = .ok (.invokevirtual 78, 3) := by decide +kernel
theorem dX8_best_29 : decode cX8_best 29 = .ok (.ireturn, 1) := by decide +kernel
theorem dX8_best_30 : decode cX8_best 30 = .ok (.aload_n 0, 1) := by decide +kernel
theorem dX8_best_31 : decode cX8_best 31 = .ok (.getfield 29, 3) := by decide +kernel
theorem dX8_best_34 : decode cX8_best 34 = .ok (.aload_n 0, 1) := by decide +kernel
theorem dX8_best_35 : decode cX8_best 35 = .ok (.getfield 16, 3) := by decide +kernel
theorem dX8_best_38 : decode cX8_best 38 = .ok (.iload_n 1, 1) := by decide +kernel
theorem dX8_best_39 : decode cX8_best 39 = .ok (.iload_n 2, 1) := by decide +kernel
theorem dX8_best_40 : decode cX8_best 40 = .ok (.iload_n 3, 1) := by decide +kernel
theorem dX8_best_41 : decode cX8_best 41 = .ok (.invokevirtual 184, 3) := by decide +kernel
theorem dX8_best_44 : decode cX8_best 44 = .ok (.pop, 1) := by decide +kernel
theorem dX8_best_45 : decode cX8_best 45 = .ok (.aload_n 0, 1) := by decide +kernel
theorem dX8_best_46 : decode cX8_best 46 = .ok (.getfield 29, 3) := by decide +kernel
theorem dX8_best_49 : decode cX8_best 49 = .ok (.iload_n 2, 1) := by decide +kernel
theorem dX8_best_50 : decode cX8_best 50 = .ok (.iload_n 3, 1) := by decide +kernel
theorem dX8_best_51 : decode cX8_best 51 = .ok (.invokevirtual 188, 3) := by decide +kernel
theorem dX8_best_54 : decode cX8_best 54 = .ok (.ireturn, 1) := by decide +kernel
theorem dX8_train_0 : decode cX8_train 0 = .ok (.aload_n 0, 1) := by decide +kernel
theorem dX8_train_1 : decode cX8_train 1 = .ok (.iload_n 1, 1) := by decide +kernel
theorem dX8_train_2 : decode cX8_train 2 = .ok (.invokevirtual 96, 3) := by decide +kernel
theorem dX8_train_5 : decode cX8_train 5 = .ok (.ifCond .ne 9, 3) := by decide +kernel
theorem dX8_train_8 : decode cX8_train 8 = .ok (.aload_n 0, 1) := by decide +kernel
theorem dX8_train_9 : decode cX8_train 9 = .ok (.iconst 0, 1) := by decide +kernel
theorem dX8_train_10 : decode cX8_train 10 = .ok (.invokevirtual 78, 3) := by decide +kernel
theorem dX8_train_13 : decode cX8_train 13 = .ok (.ireturn, 1) := by decide +kernel
theorem dX8_train_14 : decode cX8_train 14 = .ok (.aload_n 0, 1) := by decide +kernel
theorem dX8_train_15 : decode cX8_train 15 = .ok (.getfield 29, 3) := by decide +kernel
theorem dX8_train_18 : decode cX8_train 18 = .ok (.aload_n 0, 1) := by decide +kernel
theorem dX8_train_19 : decode cX8_train 19 = .ok (.getfield 16, 3) := by decide +kernel
theorem dX8_train_22 : decode cX8_train 22 = .ok (.iload_n 1, 1) := by decide +kernel
theorem dX8_train_23 : decode cX8_train 23 = .ok (.iconst 0, 1) := by decide +kernel
theorem dX8_train_24 : decode cX8_train 24 = .ok (.iconst 0, 1) := by decide +kernel
theorem dX8_train_25 : decode cX8_train 25 = .ok (.invokevirtual 184, 3) := by decide +kernel
theorem dX8_train_28 : decode cX8_train 28 = .ok (.pop, 1) := by decide +kernel
theorem dX8_train_29 : decode cX8_train 29 = .ok (.aload_n 0, 1) := by decide +kernel
theorem dX8_train_30 : decode cX8_train 30 = .ok (.getfield 16, 3) := by decide +kernel
theorem dX8_train_33 : decode cX8_train 33 = .ok (.getfield 99, 3) := by decide +kernel
theorem dX8_train_36 : decode cX8_train 36 = .ok (.iload_n 1, 1) := by decide +kernel
theorem dX8_train_37 : decode cX8_train 37 = .ok (.aaload, 1) := by decide +kernel
theorem dX8_train_38 : decode cX8_train 38 = .ok (.getfield 118, 3) := by decide +kernel
theorem dX8_train_41 : decode cX8_train 41 = .ok (.astore_n 2, 1) := by decide +kernel
theorem dX8_train_42 : decode cX8_train 42 = .ok (.iconst 0, 1) := by decide +kernel
theorem dX8_train_43 : decode cX8_train 43 = .ok (.istore_n 3, 1) := by decide +kernel
theorem dX8_train_44 : decode cX8_train 44 = .ok (.iconst 0, 1) := by decide +kernel
theorem dX8_train_45 : decode cX8_train 45 = .ok (.istore 4, 2) := by decide +kernel
theorem dX8_train_47 : decode cX8_train 47 = .ok (.iload 4, 2) := by decide +kernel
theorem dX8_train_49 : decode cX8_train 49 = .ok (.bipush 30, 2) := by decide +kernel
theorem dX8_train_51 : decode cX8_train 51 = .ok (.if_icmp .ge 44, 3) := by decide +kernel
theorem dX8_train_54 : decode cX8_train 54 = .ok (.aload_n 0, 1) := by decide +kernel
theorem dX8_train_55 : decode cX8_train 55 = .ok (.getfield 29, 3) := by decide +kernel
theorem dX8_train_58 : decode cX8_train 58 = .ok (.iload 4, 2) := by decide +kernel
theorem dX8_train_60 : decode cX8_train 60 = .ok (.iconst 0, 1) := by decide +kernel
theorem dX8_train_61 : decode cX8_train 61 = .ok (.invokevirtual 188, 3) := by decide +kernel
theorem dX8_train_64 : decode cX8_train 64 = .ok (.istore 5, 2) := by decide +kernel
theorem dX8_train_66 : decode cX8_train 66 = .ok (.iload_n 3, 1) := by decide +kernel
theorem dX8_train_67 : decode cX8_train 67 = .ok (.aload_n 2, 1) := by decide +kernel
theorem dX8_train_68 : decode cX8_train 68 = .ok (.iload 4, 2) := by decide +kernel
theorem dX8_train_70 : decode cX8_train 70 = .ok (.iaload, 1) := by decide +kernel
theorem dX8_train_71 : decode cX8_train 71 = .ok (.iload 5, 2) := by decide +kernel
theorem dX8_train_73 : decode cX8_train 73 = .ok (.if_icmp .ne 7, 3) := by decide +kernel
theorem dX8_train_76 : decode cX8_train 76 = .ok (.iconst 0, 1) := by decide +kernel
theorem dX8_train_77 : decode cX8_train 77 = .ok (.goto 4, 3) := by decide +kernel
theorem dX8_train_80 : decode cX8_train 80 = .ok (.iconst 1, 1) := by decide +kernel
theorem dX8_train_81 : decode cX8_train 81 = .ok (.iadd, 1) := by decide +kernel
theorem dX8_train_82 : decode cX8_train 82 = .ok (.istore_n 3, 1) := by decide +kernel
theorem dX8_train_83 : decode cX8_train 83 = .ok (.aload_n 2, 1) := by decide +kernel
theorem dX8_train_84 : decode cX8_train 84 = .ok (.iload 4, 2) := by decide +kernel
theorem dX8_train_86 : decode cX8_train 86 = .ok (.iload 5, 2) := by decide +kernel
theorem dX8_train_88 : decode cX8_train 88 = .ok (.iastore, 1) := by decide +kernel
theorem dX8_train_89 : decode cX8_train 89 = .ok (.iinc 4 1, 3) := by decide +kernel
theorem dX8_train_92 : decode cX8_train 92 = .ok (.goto (-45), 3) := by decide +kernel
theorem dX8_train_95 : decode cX8_train 95 = .ok (.iload_n 3, 1) := by decide +kernel
theorem dX8_train_96 : decode cX8_train 96 = .ok (.ireturn, 1) := by decide +kernel
theorem dX8_even_0 : decode cX8_even 0 = .ok (.aload_n 0, 1) := by decide +kernel
theorem dX8_even_1 : decode cX8_even 1 = .ok (.iload_n 1, 1) := by decide +kernel
theorem dX8_even_2 : decode cX8_even 2 = .ok (.invokevirtual 96, 3) := by decide +kernel
theorem dX8_even_5 : decode cX8_even 5 = .ok (.ifCond .ne 9, 3) := by decide +kernel
theorem dX8_even_8 : decode cX8_even 8 = .ok (.aload_n 0, 1) := by decide +kernel
theorem dX8_even_9 : decode cX8_even 9 = .ok (.iconst 0, 1) := by decide +kernel
theorem dX8_even_10 : decode cX8_even 10 = .ok (.invokevirtual 78, 3) := by decide +kernel
theorem dX8_even_13 : decode cX8_even 13 = .ok (.ireturn, 1) := by decide +kernel
theorem dX8_even_14 : decode cX8_even 14 = .ok (.aload_n 0, 1) := by decide +kernel
theorem dX8_even_15 : decode cX8_even 15 = .ok (.getfield 23, 3) := by decide +kernel
theorem dX8_even_18 : decode cX8_even 18 = .ok (.aload_n 0, 1) := by decide +kernel
theorem dX8_even_19 : decode cX8_even 19 = .ok (.getfield 16, 3) := by decide +kernel
theorem dX8_even_22 : decode cX8_even 22 = .ok (.invokevirtual 151, 3) := by decide +kernel
theorem dX8_even_25 : decode cX8_even 25 = .ok (.ldc 192, 2) := by decide +kernel
theorem dX8_even_27 : decode cX8_even 27 = .ok (.istore_n 2, 1) := by decide +kernel
theorem dX8_even_28 : decode cX8_even 28 = .ok (.iconst 1, 1) := by decide +kernel
theorem dX8_even_29 : decode cX8_even 29 = .ok (.istore_n 3, 1) := by decide +kernel
theorem dX8_even_30 : decode cX8_even 30 = .ok (.iconst 1, 1) := by decide +kernel
theorem dX8_even_31 : decode cX8_even 31 = .ok (.istore 4, 2) := by decide +kernel
theorem dX8_even_33 : decode cX8_even 33 = .ok (.iload 4, 2) := by decide +kernel
theorem dX8_even_35 : decode cX8_even 35 = .ok (.bipush 9, 2) := by decide +kernel
theorem dX8_even_37 : decode cX8_even 37 = .ok (.if_icmp .gt 49, 3) := by decide +kernel
theorem dX8_even_40 : decode cX8_even 40 = .ok (.aload_n 0, 1) := by decide +kernel
theorem dX8_even_41 : decode cX8_even 41 = .ok (.getfield 23, 3) := by decide +kernel
theorem dX8_even_44 : decode cX8_even 44 = .ok (.getfield 99, 3) := by decide +kernel
theorem dX8_even_47 : decode cX8_even 47 = .ok (.iload_n 1, 1) := by decide +kernel
theorem dX8_even_48 : decode cX8_even 48 = .ok (.aaload, 1) := by decide +kernel
theorem dX8_even_49 : decode cX8_even 49 = .ok (.getfield 118, 3) := by decide +kernel
theorem dX8_even_52 : decode cX8_even 52 = .ok (.iload 4, 2) := by decide +kernel
theorem dX8_even_54 : decode cX8_even 54 = .ok (.invokestatic 193, 3) := by decide +kernel
theorem dX8_even_57 : decode cX8_even 57 = .ok (.aload_n 0, 1) := by decide +kernel
theorem dX8_even_58 : decode cX8_even 58 = .ok (.aload_n 0, 1) := by decide +kernel
theorem dX8_even_59 : decode cX8_even 59 = .ok (.getfield 23, 3) := by decide +kernel
theorem dX8_even_62 : decode cX8_even 62 = .ok (.iload_n 1, 1) := by decide +kernel
theorem dX8_even_63 : decode cX8_even 63 = .ok (.invokevirtual 199, 3) := by decide +kernel
theorem dX8_even_66 : decode cX8_even 66 = .ok (.istore 5, 2) := by decide +kernel
theorem dX8_even_68 : decode cX8_even 68 = .ok (.iload 5, 2) := by decide +kernel
theorem dX8_even_70 : decode cX8_even 70 = .ok (.iload_n 2, 1) := by decide +kernel
theorem dX8_even_71 : decode cX8_even 71 = .ok (.if_icmp .ge 9, 3) := by decide +kernel
theorem dX8_even_74 : decode cX8_even 74 = .ok (.iload 5, 2) := by decide +kernel
theorem dX8_even_76 : decode cX8_even 76 = .ok (.istore_n 2, 1) := by decide +kernel
theorem dX8_even_77 : decode cX8_even 77 = .ok (.iload 4, 2) := by decide +kernel
theorem dX8_even_79 : decode cX8_even 79 = .ok (.istore_n 3, 1) := by decide +kernel
theorem dX8_even_80 : decode cX8_even 80 = .ok (.iinc 4 1, 3) := by decide +kernel
theorem dX8_even_83 : decode cX8_even 83 = .ok (.goto (-50), 3) := by decide +kernel
theorem dX8_even_86 : decode cX8_even 86 = .ok (.iload_n 3, 1) := by decide +kernel
theorem dX8_even_87 : decode cX8_even 87 = .ok (.ireturn, 1) := by decide +kernel
theorem dX8_costs_0 : decode cX8_costs 0 = .ok (.aload_n 0, 1) := by decide +kernel
theorem dX8_costs_1 : decode cX8_costs 1 = .ok (.iload_n 1, 1) := by decide +kernel
theorem dX8_costs_2 : decode cX8_costs 2 = .ok (.invokevirtual 96, 3) := by decide +kernel
theorem dX8_costs_5 : decode cX8_costs 5 = .ok (.ifCond .eq 10, 3) := by decide +kernel
theorem dX8_costs_8 : decode cX8_costs 8 = .ok (.iload_n 2, 1) := by decide +kernel
theorem dX8_costs_9 : decode cX8_costs 9 = .ok (.invokestatic 70, 3) := by decide +kernel
theorem dX8_costs_12 : decode cX8_costs 12 = .ok (.ifCond .ne 9, 3) := by decide +kernel
theorem dX8_costs_15 : decode cX8_costs 15 = .ok (.aload_n 0, 1) := by decide +kernel
theorem dX8_costs_16 : decode cX8_costs 16 = .ok (.iconst 0, 1) := by decide +kernel
theorem dX8_costs_17 : decode cX8_costs 17 = .ok (.invokevirtual 78, 3) := by decide +kernel
theorem dX8_costs_20 : decode cX8_costs 20 = .ok (.ireturn, 1) := by decide +kernel
theorem dX8_costs_21 : decode cX8_costs 21 = .ok (.aload_n 0, 1) := by decide +kernel
theorem dX8_costs_22 : decode cX8_costs 22 = .ok (.getfield 29, 3) := by decide +kernel
theorem dX8_costs_25 : decode cX8_costs 25 = .ok (.aload_n 0, 1) := by decide +kernel
theorem dX8_costs_26 : decode cX8_costs 26 = .ok (.getfield 16, 3) := by decide +kernel
theorem dX8_costs_29 : decode cX8_costs 29 = .ok (.iload_n 1, 1) := by decide +kernel
theorem dX8_costs_30 : decode cX8_costs 30 = .ok (.iload_n 2, 1) := by decide +kernel
theorem dX8_costs_31 : decode cX8_costs 31 = .ok (.iconst 1, 1) := by decide +kernel
theorem dX8_costs_32 : decode cX8_costs 32 = .ok (.iadd, 1) := by decide +kernel
theorem dX8_costs_33 : decode cX8_costs 33 = .ok (.bipush 30, 2) := by decide +kernel
theorem dX8_costs_35 : decode cX8_costs 35 = .ok (.iconst 3, 1) := by decide +kernel
theorem dX8_costs_36 : decode cX8_costs 36 = .ok (.invokevirtual 180, 3) := by decide +kernel
theorem dX8_costs_39 : decode cX8_costs 39 = .ok (.istore_n 3, 1) := by decide +kernel
theorem dX8_costs_40 : decode cX8_costs 40 = .ok (.aload_n 0, 1) := by decide +kernel
theorem dX8_costs_41 : decode cX8_costs 41 = .ok (.getfield 29, 3) := by decide +kernel
theorem dX8_costs_44 : decode cX8_costs 44 = .ok (.aload_n 0, 1) := by decide +kernel
theorem dX8_costs_45 : decode cX8_costs 45 = .ok (.getfield 16, 3) := by decide +kernel
theorem dX8_costs_48 : decode cX8_costs 48 = .ok (.iload_n 1, 1) := by decide +kernel
theorem dX8_costs_49 : decode cX8_costs 49 = .ok (.iload_n 2, 1) := by decide +kernel
theorem dX8_costs_50 : decode cX8_costs 50 = .ok (.iconst 1, 1) := by decide +kernel
theorem dX8_costs_51 : decode cX8_costs 51 = .ok (.iadd, 1) := by decide +kernel
theorem dX8_costs_52 : decode cX8_costs 52 = .ok (.bipush 30, 2) := by decide +kernel
theorem dX8_costs_54 : decode cX8_costs 54 = .ok (.iconst 0, 1) := by decide +kernel
theorem dX8_costs_55 : decode cX8_costs 55 = .ok (.invokevirtual 180, 3) := by decide +kernel
theorem dX8_costs_58 : decode cX8_costs 58 = .ok (.istore 4, 2) := by decide +kernel
theorem dX8_costs_60 : decode cX8_costs 60 = .ok (.sipush 1000, 3) := by decide +kernel
theorem dX8_costs_63 : decode cX8_costs 63 = .ok (.aload_n 0, 1) := by decide +kernel
theorem dX8_costs_64 : decode cX8_costs 64 = .ok (.getfield 16, 3) := by decide +kernel
theorem dX8_costs_67 : decode cX8_costs 67 = .ok (.getfield 85, 3) := by decide +kernel
theorem dX8_costs_70 : decode cX8_costs 70 = .ok (.imul, 1) := by decide +kernel
theorem dX8_costs_71 : decode cX8_costs 71 = .ok (.iload_n 3, 1) := by decide +kernel
theorem dX8_costs_72 : decode cX8_costs 72 = .ok (.iadd, 1) := by decide +kernel
theorem dX8_costs_73 : decode cX8_costs 73 = .ok (.iload 4, 2) := by decide +kernel
theorem dX8_costs_75 : decode cX8_costs 75 = .ok (.isub, 1) := by decide +kernel
theorem dX8_costs_76 : decode cX8_costs 76 = .ok (.ireturn, 1) := by decide +kernel
theorem dX8_worst_0 : decode cX8_worst 0 = .ok (.aload_n 0, 1) := by decide +kernel
theorem dX8_worst_1 : decode cX8_worst 1 = .ok (.iload_n 1, 1) := by decide +kernel
theorem dX8_worst_2 : decode cX8_worst 2 = .ok (.invokevirtual 96, 3) := by decide +kernel
theorem dX8_worst_5 : decode cX8_worst 5 = .ok (.ifCond .ne 9, 3) := by decide +kernel
theorem dX8_worst_8 : decode cX8_worst 8 = .ok (.aload_n 0, 1) := by decide +kernel
theorem dX8_worst_9 : decode cX8_worst 9 = .ok (.iconst 0, 1) := by decide +kernel
theorem dX8_worst_10 : decode cX8_worst 10 = .ok (.invokevirtual 78, 3) := by decide +kernel
theorem dX8_worst_13 : decode cX8_worst 13 = .ok (.ireturn, 1) := by decide +kernel
theorem dX8_worst_14 : decode cX8_worst 14 = .ok (.aload_n 0, 1) := by decide +kernel
theorem dX8_worst_15 : decode cX8_worst 15 = .ok (.getfield 23, 3) := by decide +kernel
theorem dX8_worst_18 : decode cX8_worst 18 = .ok (.aload_n 0, 1) := by decide +kernel
theorem dX8_worst_19 : decode cX8_worst 19 = .ok (.getfield 16, 3) := by decide +kernel
theorem dX8_worst_22 : decode cX8_worst 22 = .ok (.invokevirtual 151, 3) := by decide +kernel
theorem dX8_worst_25 : decode cX8_worst 25 = .ok (.ldc 192, 2) := by decide +kernel
theorem dX8_worst_27 : decode cX8_worst 27 = .ok (.istore_n 2, 1) := by decide +kernel
theorem dX8_worst_28 : decode cX8_worst 28 = .ok (.iconst 0, 1) := by decide +kernel
theorem dX8_worst_29 : decode cX8_worst 29 = .ok (.istore_n 3, 1) := by decide +kernel
theorem dX8_worst_30 : decode cX8_worst 30 = .ok (.iconst 0, 1) := by decide +kernel
theorem dX8_worst_31 : decode cX8_worst 31 = .ok (.istore 4, 2) := by decide +kernel
theorem dX8_worst_33 : decode cX8_worst 33 = .ok (.iload 4, 2) := by decide +kernel
theorem dX8_worst_35 : decode cX8_worst 35 = .ok (.bipush 30, 2) := by decide +kernel
theorem dX8_worst_37 : decode cX8_worst 37 = .ok (.if_icmp .ge 63, 3) := by decide +kernel
theorem dX8_worst_40 : decode cX8_worst 40 = .ok (.aload_n 0, 1) := by decide +kernel
theorem dX8_worst_41 : decode cX8_worst 41 = .ok (.getfield 23, 3) := by decide +kernel
theorem dX8_worst_44 : decode cX8_worst 44 = .ok (.getfield 82, 3) := by decide +kernel
theorem dX8_worst_47 : decode cX8_worst 47 = .ok (.iload 4, 2) := by decide +kernel
theorem dX8_worst_49 : decode cX8_worst 49 = .ok (.iconst 0, 1) := by decide +kernel
theorem dX8_worst_50 : decode cX8_worst 50 = .ok (.iastore, 1) := by decide +kernel
theorem dX8_worst_51 : decode cX8_worst 51 = .ok (.aload_n 0, 1) := by decide +kernel
theorem dX8_worst_52 : decode cX8_worst 52 = .ok (.aload_n 0, 1) := by decide +kernel
theorem dX8_worst_53 : decode cX8_worst 53 = .ok (.getfield 23, 3) := by decide +kernel
theorem dX8_worst_56 : decode cX8_worst 56 = .ok (.iload_n 1, 1) := by decide +kernel
theorem dX8_worst_57 : decode cX8_worst 57 = .ok (.invokevirtual 199, 3) := by decide +kernel
theorem dX8_worst_60 : decode cX8_worst 60 = .ok (.istore 5, 2) := by decide +kernel
theorem dX8_worst_62 : decode cX8_worst 62 = .ok (.aload_n 0, 1) := by decide +kernel
theorem dX8_worst_63 : decode cX8_worst 63 = .ok (.getfield 23, 3) := by decide +kernel
theorem dX8_worst_66 : decode cX8_worst 66 = .ok (.getfield 82, 3) := by decide +kernel
theorem dX8_worst_69 : decode cX8_worst 69 = .ok (.iload 4, 2) := by decide +kernel
theorem dX8_worst_71 : decode cX8_worst 71 = .ok (.aload_n 0, 1) := by decide +kernel
theorem dX8_worst_72 : decode cX8_worst 72 = .ok (.getfield 16, 3) := by decide +kernel
theorem dX8_worst_75 : decode cX8_worst 75 = .ok (.getfield 82, 3) := by decide +kernel
theorem dX8_worst_78 : decode cX8_worst 78 = .ok (.iload 4, 2) := by decide +kernel
theorem dX8_worst_80 : decode cX8_worst 80 = .ok (.iaload, 1) := by decide +kernel
theorem dX8_worst_81 : decode cX8_worst 81 = .ok (.iastore, 1) := by decide +kernel
theorem dX8_worst_82 : decode cX8_worst 82 = .ok (.iload 5, 2) := by decide +kernel
theorem dX8_worst_84 : decode cX8_worst 84 = .ok (.iload_n 2, 1) := by decide +kernel
theorem dX8_worst_85 : decode cX8_worst 85 = .ok (.if_icmp .ge 9, 3) := by decide +kernel
theorem dX8_worst_88 : decode cX8_worst 88 = .ok (.iload 5, 2) := by decide +kernel
theorem dX8_worst_90 : decode cX8_worst 90 = .ok (.istore_n 2, 1) := by decide +kernel
theorem dX8_worst_91 : decode cX8_worst 91 = .ok (.iload 4, 2) := by decide +kernel
theorem dX8_worst_93 : decode cX8_worst 93 = .ok (.istore_n 3, 1) := by decide +kernel
theorem dX8_worst_94 : decode cX8_worst 94 = .ok (.iinc 4 1, 3) := by decide +kernel
theorem dX8_worst_97 : decode cX8_worst 97 = .ok (.goto (-64), 3) := by decide +kernel
theorem dX8_worst_100 : decode cX8_worst 100 = .ok (.iload_n 3, 1) := by decide +kernel
theorem dX8_worst_101 : decode cX8_worst 101 = .ok (.ireturn, 1) := by decide +kernel
theorem dX8_spoon_0 : decode cX8_spoon 0 = .ok (.aload_n 0, 1) := by decide +kernel
theorem dX8_spoon_1 : decode cX8_spoon 1 = .ok (.iload_n 1, 1) := by decide +kernel
theorem dX8_spoon_2 : decode cX8_spoon 2 = .ok (.invokevirtual 96, 3) := by decide +kernel
theorem dX8_spoon_5 : decode cX8_spoon 5 = .ok (.ifCond .ne 9, 3) := by decide +kernel
theorem dX8_spoon_8 : decode cX8_spoon 8 = .ok (.aload_n 0, 1) := by decide +kernel
theorem dX8_spoon_9 : decode cX8_spoon 9 = .ok (.iconst 0, 1) := by decide +kernel
theorem dX8_spoon_10 : decode cX8_spoon 10 = .ok (.invokevirtual 78, 3) := by decide +kernel
theorem dX8_spoon_13 : decode cX8_spoon 13 = .ok (.ireturn, 1) := by decide +kernel
theorem dX8_spoon_14 : decode cX8_spoon 14 = .ok (.aload_n 0, 1) := by decide +kernel
theorem dX8_spoon_15 : decode cX8_spoon 15 = .ok (.getfield 23, 3) := by decide +kernel
theorem dX8_spoon_18 : decode cX8_spoon 18 = .ok (.aload_n 0, 1) := by decide +kernel
theorem dX8_spoon_19 : decode cX8_spoon 19 = .ok (.getfield 16, 3) := by decide +kernel
theorem dX8_spoon_22 : decode cX8_spoon 22 = .ok (.invokevirtual 151, 3) := by decide +kernel
theorem dX8_spoon_25 : decode cX8_spoon 25 = .ok (.ldc 192, 2) := by decide +kernel
theorem dX8_spoon_27 : decode cX8_spoon 27 = .ok (.istore_n 2, 1) := by decide +kernel
theorem dX8_spoon_28 : decode cX8_spoon 28 = .ok (.iconst 0, 1) := by decide +kernel
theorem dX8_spoon_29 : decode cX8_spoon 29 = .ok (.istore_n 3, 1) := by decide +kernel
theorem dX8_spoon_30 : decode cX8_spoon 30 = .ok (.iconst 0, 1) := by decide +kernel
theorem dX8_spoon_31 : decode cX8_spoon 31 = .ok (.istore 4, 2) := by decide +kernel
theorem dX8_spoon_33 : decode cX8_spoon 33 = .ok (.iload 4, 2) := by decide +kernel
theorem dX8_spoon_35 : decode cX8_spoon 35 = .ok (.iconst 5, 1) := by decide +kernel
theorem dX8_spoon_36 : decode cX8_spoon 36 = .ok (.if_icmp .gt 53, 3) := by decide +kernel
theorem dX8_spoon_39 : decode cX8_spoon 39 = .ok (.aload_n 0, 1) := by decide +kernel
theorem dX8_spoon_40 : decode cX8_spoon 40 = .ok (.getfield 23, 3) := by decide +kernel
theorem dX8_spoon_43 : decode cX8_spoon 43 = .ok (.getfield 99, 3) := by decide +kernel
theorem dX8_spoon_46 : decode cX8_spoon 46 = .ok (.iload_n 1, 1) := by decide +kernel
theorem dX8_spoon_47 : decode cX8_spoon 47 = .ok (.aaload, 1) := by decide +kernel
theorem dX8_spoon_48 : decode cX8_spoon 48 = .ok (.iload 4, 2) := by decide +kernel
theorem dX8_spoon_50 : decode cX8_spoon 50 = .ok (.putfield 203, 3) := by decide +kernel
theorem dX8_spoon_53 : decode cX8_spoon 53 = .ok (.aload_n 0, 1) := by decide +kernel
theorem dX8_spoon_54 : decode cX8_spoon 54 = .ok (.aload_n 0, 1) := by decide +kernel
theorem dX8_spoon_55 : decode cX8_spoon 55 = .ok (.getfield 23, 3) := by decide +kernel
theorem dX8_spoon_58 : decode cX8_spoon 58 = .ok (.iload_n 1, 1) := by decide +kernel
theorem dX8_spoon_59 : decode cX8_spoon 59 = .ok (.invokevirtual 199, 3) := by decide +kernel
theorem dX8_spoon_62 : decode cX8_spoon 62 = .ok (.sipush 15000, 3) := by decide +kernel
theorem dX8_spoon_65 : decode cX8_spoon 65 = .ok (.iload 4, 2) := by decide +kernel
theorem dX8_spoon_67 : decode cX8_spoon 67 = .ok (.imul, 1) := by decide +kernel
theorem dX8_spoon_68 : decode cX8_spoon 68 = .ok (.iadd, 1) := by decide +kernel
theorem dX8_spoon_69 : decode cX8_spoon 69 = .ok (.istore 5, 2) := by decide +kernel
theorem dX8_spoon_71 : decode cX8_spoon 71 = .ok (.iload 5, 2) := by decide +kernel
theorem dX8_spoon_73 : decode cX8_spoon 73 = .ok (.iload_n 2, 1) := by decide +kernel
theorem dX8_spoon_74 : decode cX8_spoon 74 = .ok (.if_icmp .ge 9, 3) := by decide +kernel
theorem dX8_spoon_77 : decode cX8_spoon 77 = .ok (.iload 5, 2) := by decide +kernel
theorem dX8_spoon_79 : decode cX8_spoon 79 = .ok (.istore_n 2, 1) := by decide +kernel
theorem dX8_spoon_80 : decode cX8_spoon 80 = .ok (.iload 4, 2) := by decide +kernel
theorem dX8_spoon_82 : decode cX8_spoon 82 = .ok (.istore_n 3, 1) := by decide +kernel
theorem dX8_spoon_83 : decode cX8_spoon 83 = .ok (.iinc 4 1, 3) := by decide +kernel
theorem dX8_spoon_86 : decode cX8_spoon 86 = .ok (.goto (-53), 3) := by decide +kernel
theorem dX8_spoon_89 : decode cX8_spoon 89 = .ok (.iload_n 3, 1) := by decide +kernel
theorem dX8_spoon_90 : decode cX8_spoon 90 = .ok (.ireturn, 1) := by decide +kernel
theorem dX8_armFor_0 : decode cX8_armFor 0 = .ok (.aload_n 0, 1) := by decide +kernel
theorem dX8_armFor_1 : decode cX8_armFor 1 = .ok (.iload_n 1, 1) := by decide +kernel
theorem dX8_armFor_2 : decode cX8_armFor 2 = .ok (.invokevirtual 96, 3) := by decide +kernel
theorem dX8_armFor_5 : decode cX8_armFor 5 = .ok (.ifCond .eq 13, 3) := by decide +kernel
theorem dX8_armFor_8 : decode cX8_armFor 8 = .ok (.iload_n 2, 1) := by decide +kernel
theorem dX8_armFor_9 : decode cX8_armFor 9 = .ok (.iconst 0, 1) := by decide +kernel
theorem dX8_armFor_10 : decode cX8_armFor 10 = .ok (.ldc 206, 2) := by decide +kernel
theorem dX8_armFor_12 : decode cX8_armFor 12 = .ok (.invokestatic 74, 3) := by decide +kernel
theorem dX8_armFor_15 : decode cX8_armFor 15 = .ok (.ifCond .ne 9, 3) := by decide +kernel
theorem dX8_armFor_18 : decode cX8_armFor 18 = .ok (.aload_n 0, 1) := by decide +kernel
theorem dX8_armFor_19 : decode cX8_armFor 19 = .ok (.iconst 0, 1) := by decide +kernel
theorem dX8_armFor_20 : decode cX8_armFor 20 = .ok (.invokevirtual 78, 3) := by decide +kernel
theorem dX8_armFor_23 : decode cX8_armFor 23 = .ok (.ireturn, 1) := by decide +kernel
theorem dX8_armFor_24 : decode cX8_armFor 24 = .ok (.aload_n 0, 1) := by decide +kernel
theorem dX8_armFor_25 : decode cX8_armFor 25 = .ok (.getfield 23, 3) := by decide +kernel
theorem dX8_armFor_28 : decode cX8_armFor 28 = .ok (.aload_n 0, 1) := by decide +kernel
theorem dX8_armFor_29 : decode cX8_armFor 29 = .ok (.getfield 16, 3) := by decide +kernel
theorem dX8_armFor_32 : decode cX8_armFor 32 = .ok (.invokevirtual 151, 3) := by decide +kernel
theorem dX8_armFor_35 : decode cX8_armFor 35 = .ok (.iconst 0, 1) := by decide +kernel
theorem dX8_armFor_36 : decode cX8_armFor 36 = .ok (.istore_n 3, 1) := by decide +kernel
theorem dX8_armFor_37 : decode cX8_armFor 37 = .ok (.iload_n 3, 1) := by decide +kernel
theorem dX8_armFor_38 : decode cX8_armFor 38 = .ok (.bipush 9, 2) := by decide +kernel
theorem dX8_armFor_40 : decode cX8_armFor 40 = .ok (.if_icmp .gt 37, 3) := by decide +kernel
theorem dX8_armFor_43 : decode cX8_armFor 43 = .ok (.aload_n 0, 1) := by decide +kernel
theorem dX8_armFor_44 : decode cX8_armFor 44 = .ok (.getfield 23, 3) := by decide +kernel
theorem dX8_armFor_47 : decode cX8_armFor 47 = .ok (.getfield 99, 3) := by decide +kernel
theorem dX8_armFor_50 : decode cX8_armFor 50 = .ok (.iload_n 1, 1) := by decide +kernel
theorem dX8_armFor_51 : decode cX8_armFor 51 = .ok (.aaload, 1) := by decide +kernel
theorem dX8_armFor_52 : decode cX8_armFor 52 = .ok (.iload_n 3, 1) := by decide +kernel
theorem dX8_armFor_53 : decode cX8_armFor 53 = .ok (.putfield 207, 3) := by decide +kernel
theorem dX8_armFor_56 : decode cX8_armFor 56 = .ok (.aload_n 0, 1) := by decide +kernel
theorem dX8_armFor_57 : decode cX8_armFor 57 = .ok (.aload_n 0, 1) := by decide +kernel
theorem dX8_armFor_58 : decode cX8_armFor 58 = .ok (.getfield 23, 3) := by decide +kernel
theorem dX8_armFor_61 : decode cX8_armFor 61 = .ok (.iload_n 1, 1) := by decide +kernel
theorem dX8_armFor_62 : decode cX8_armFor 62 = .ok (.invokevirtual 199, 3) := by decide +kernel
theorem dX8_armFor_65 : decode cX8_armFor 65 = .ok (.iload_n 2, 1) := by decide +kernel
theorem dX8_armFor_66 : decode cX8_armFor 66 = .ok (.if_icmp .gt 5, 3) := by decide +kernel
theorem dX8_armFor_69 : decode cX8_armFor 69 = .ok (.iload_n 3, 1) := by decide +kernel
theorem dX8_armFor_70 : decode cX8_armFor 70 = .ok (.ireturn, 1) := by decide +kernel
theorem dX8_armFor_71 : decode cX8_armFor 71 = .ok (.iinc 3 1, 3) := by decide +kernel
theorem dX8_armFor_74 : decode cX8_armFor 74 = .ok (.goto (-37), 3) := by decide +kernel
theorem dX8_armFor_77 : decode cX8_armFor 77 = .ok (.aload_n 0, 1) := by decide +kernel
theorem dX8_armFor_78 : decode cX8_armFor 78 = .ok (.iconst 3, 1) := by decide +kernel
theorem dX8_armFor_79 : decode cX8_armFor 79 = .ok (.invokevirtual 78, 3) := by decide +kernel
theorem dX8_armFor_82 : decode cX8_armFor 82 = .ok (.ireturn, 1) := by decide +kernel
theorem dX8_later_0 : decode cX8_later 0 = .ok (.aload_n 0, 1) := by decide +kernel
theorem dX8_later_1 : decode cX8_later 1 = .ok (.iload_n 1, 1) := by decide +kernel
theorem dX8_later_2 : decode cX8_later 2 = .ok (.invokevirtual 96, 3) := by decide +kernel
theorem dX8_later_5 : decode cX8_later 5 = .ok (.ifCond .ne 9, 3) := by decide +kernel
theorem dX8_later_8 : decode cX8_later 8 = .ok (.aload_n 0, 1) := by decide +kernel
theorem dX8_later_9 : decode cX8_later 9 = .ok (.iconst 0, 1) := by decide +kernel
theorem dX8_later_10 : decode cX8_later 10 = .ok (.invokevirtual 78, 3) := by decide +kernel
theorem dX8_later_13 : decode cX8_later 13 = .ok (.ireturn, 1) := by decide +kernel
theorem dX8_later_14 : decode cX8_later 14 = .ok (.iconst 0, 1) := by decide +kernel
theorem dX8_later_15 : decode cX8_later 15 = .ok (.istore_n 2, 1) := by decide +kernel
theorem dX8_later_16 : decode cX8_later 16 = .ok (.iconst 0, 1) := by decide +kernel
theorem dX8_later_17 : decode cX8_later 17 = .ok (.istore_n 3, 1) := by decide +kernel
theorem dX8_later_18 : decode cX8_later 18 = .ok (.iload_n 3, 1) := by decide +kernel
theorem dX8_later_19 : decode cX8_later 19 = .ok (.aload_n 0, 1) := by decide +kernel
theorem dX8_later_20 : decode cX8_later 20 = .ok (.getfield 16, 3) := by decide +kernel
theorem dX8_later_23 : decode cX8_later 23 = .ok (.getfield 89, 3) := by decide +kernel
theorem dX8_later_26 : decode cX8_later 26 = .ok (.if_icmp .ge 23, 3) := by decide +kernel
theorem dX8_later_29 : decode cX8_later 29 = .ok (.iload_n 2, 1) := by decide +kernel
theorem dX8_later_30 : decode cX8_later 30 = .ok (.aload_n 0, 1) := by decide +kernel
theorem dX8_later_31 : decode cX8_later 31 = .ok (.aload_n 0, 1) := by decide +kernel
theorem dX8_later_32 : decode cX8_later 32 = .ok (.getfield 16, 3) := by decide +kernel
theorem dX8_later_35 : decode cX8_later 35 = .ok (.iload_n 3, 1) := by decide +kernel
theorem dX8_later_36 : decode cX8_later 36 = .ok (.invokevirtual 199, 3) := by decide +kernel
theorem dX8_later_39 : decode cX8_later 39 = .ok (.invokestatic 210, 3) := by decide +kernel
theorem dX8_later_42 : decode cX8_later 42 = .ok (.istore_n 2, 1) := by decide +kernel
theorem dX8_later_43 : decode cX8_later 43 = .ok (.iinc 3 1, 3) := by decide +kernel
theorem dX8_later_46 : decode cX8_later 46 = .ok (.goto (-28), 3) := by decide +kernel
theorem dX8_later_49 : decode cX8_later 49 = .ok (.iload_n 2, 1) := by decide +kernel
theorem dX8_later_50 : decode cX8_later 50 = .ok (.aload_n 0, 1) := by decide +kernel
theorem dX8_later_51 : decode cX8_later 51 = .ok (.aload_n 0, 1) := by decide +kernel
theorem dX8_later_52 : decode cX8_later 52 = .ok (.getfield 16, 3) := by decide +kernel
theorem dX8_later_55 : decode cX8_later 55 = .ok (.iload_n 1, 1) := by decide +kernel
theorem dX8_later_56 : decode cX8_later 56 = .ok (.invokevirtual 199, 3) := by decide +kernel
theorem dX8_later_59 : decode cX8_later 59 = .ok (.isub, 1) := by decide +kernel
theorem dX8_later_60 : decode cX8_later 60 = .ok (.sipush 1000, 3) := by decide +kernel
theorem dX8_later_63 : decode cX8_later 63 = .ok (.idiv, 1) := by decide +kernel
theorem dX8_later_64 : decode cX8_later 64 = .ok (.ireturn, 1) := by decide +kernel
theorem dX8_team_0 : decode cX8_team 0 = .ok (.aload_n 0, 1) := by decide +kernel
theorem dX8_team_1 : decode cX8_team 1 = .ok (.iload_n 1, 1) := by decide +kernel
theorem dX8_team_2 : decode cX8_team 2 = .ok (.invokevirtual 215, 3) := by decide +kernel
theorem dX8_team_5 : decode cX8_team 5 = .ok (.ifCond .ne 9, 3) := by decide +kernel
theorem dX8_team_8 : decode cX8_team 8 = .ok (.aload_n 0, 1) := by decide +kernel
theorem dX8_team_9 : decode cX8_team 9 = .ok (.iconst 0, 1) := by decide +kernel
theorem dX8_team_10 : decode cX8_team 10 = .ok (.invokevirtual 78, 3) := by decide +kernel
theorem dX8_team_13 : decode cX8_team 13 = .ok (.ireturn, 1) := by decide +kernel
theorem dX8_team_14 : decode cX8_team 14 = .ok (.aload_n 0, 1) := by decide +kernel
theorem dX8_team_15 : decode cX8_team 15 = .ok (.getfield 43, 3) := by decide +kernel
theorem dX8_team_18 : decode cX8_team 18 = .ok (.aload_n 0, 1) := by decide +kernel
theorem dX8_team_19 : decode cX8_team 19 = .ok (.getfield 16, 3) := by decide +kernel
theorem dX8_team_22 : decode cX8_team 22 = .ok (.aload_n 0, 1) := by decide +kernel
theorem dX8_team_23 : decode cX8_team 23 = .ok (.getfield 29, 3) := by decide +kernel
theorem dX8_team_26 : decode cX8_team 26 = .ok (.iload_n 1, 1) := by decide +kernel
theorem dX8_team_27 : decode cX8_team 27 = .ok (.invokevirtual 218, 3) := by decide +kernel
theorem dX8_team_30 : decode cX8_team 30 = .ok (.ireturn, 1) := by decide +kernel
theorem dX8_leg_0 : decode cX8_leg 0 = .ok (.aload_n 0, 1) := by decide +kernel
theorem dX8_leg_1 : decode cX8_leg 1 = .ok (.iload_n 1, 1) := by decide +kernel
theorem dX8_leg_2 : decode cX8_leg 2 = .ok (.invokevirtual 215, 3) := by decide +kernel
theorem dX8_leg_5 : decode cX8_leg 5 = .ok (.ifCond .eq 12, 3) := by decide +kernel
theorem dX8_leg_8 : decode cX8_leg 8 = .ok (.iload_n 2, 1) := by decide +kernel
theorem dX8_leg_9 : decode cX8_leg 9 = .ok (.iconst 0, 1) := by decide +kernel
theorem dX8_leg_10 : decode cX8_leg 10 = .ok (.iconst 2, 1) := by decide +kernel
theorem dX8_leg_11 : decode cX8_leg 11 = .ok (.invokestatic 74, 3) := by decide +kernel
theorem dX8_leg_14 : decode cX8_leg 14 = .ok (.ifCond .ne 9, 3) := by decide +kernel
theorem dX8_leg_17 : decode cX8_leg 17 = .ok (.aload_n 0, 1) := by decide +kernel
theorem dX8_leg_18 : decode cX8_leg 18 = .ok (.iconst 0, 1) := by decide +kernel
theorem dX8_leg_19 : decode cX8_leg 19 = .ok (.invokevirtual 78, 3) := by decide +kernel
theorem dX8_leg_22 : decode cX8_leg 22 = .ok (.ireturn, 1) := by decide +kernel
theorem dX8_leg_23 : decode cX8_leg 23 = .ok (.aload_n 0, 1) := by decide +kernel
theorem dX8_leg_24 : decode cX8_leg 24 = .ok (.getfield 43, 3) := by decide +kernel
theorem dX8_leg_27 : decode cX8_leg 27 = .ok (.aload_n 0, 1) := by decide +kernel
theorem dX8_leg_28 : decode cX8_leg 28 = .ok (.getfield 16, 3) := by decide +kernel
theorem dX8_leg_31 : decode cX8_leg 31 = .ok (.aload_n 0, 1) := by decide +kernel
theorem dX8_leg_32 : decode cX8_leg 32 = .ok (.getfield 29, 3) := by decide +kernel
theorem dX8_leg_35 : decode cX8_leg 35 = .ok (.iload_n 1, 1) := by decide +kernel
theorem dX8_leg_36 : decode cX8_leg 36 = .ok (.invokevirtual 218, 3) := by decide +kernel
theorem dX8_leg_39 : decode cX8_leg 39 = .ok (.pop, 1) := by decide +kernel
theorem dX8_leg_40 : decode cX8_leg 40 = .ok (.aload_n 0, 1) := by decide +kernel
theorem dX8_leg_41 : decode cX8_leg 41 = .ok (.getfield 43, 3) := by decide +kernel
theorem dX8_leg_44 : decode cX8_leg 44 = .ok (.getfield 222, 3) := by decide +kernel
theorem dX8_leg_47 : decode cX8_leg 47 = .ok (.iload_n 2, 1) := by decide +kernel
theorem dX8_leg_48 : decode cX8_leg 48 = .ok (.iaload, 1) := by decide +kernel
theorem dX8_leg_49 : decode cX8_leg 49 = .ok (.ireturn, 1) := by decide +kernel
theorem dX8_gum_0 : decode cX8_gum 0 = .ok (.aload_n 0, 1) := by decide +kernel
theorem dX8_gum_1 : decode cX8_gum 1 = .ok (.iload_n 1, 1) := by decide +kernel
theorem dX8_gum_2 : decode cX8_gum 2 = .ok (.iload_n 2, 1) := by decide +kernel
theorem dX8_gum_3 : decode cX8_gum 3 = .ok (.iload_n 3, 1) := by decide +kernel
theorem dX8_gum_4 : decode cX8_gum 4 = .ok (.invokevirtual 173, 3) := by decide +kernel
theorem dX8_gum_7 : decode cX8_gum 7 = .ok (.ifCond .eq 33, 3) := by decide +kernel
theorem dX8_gum_10 : decode cX8_gum 10 = .ok (.iload_n 3, 1) := by decide +kernel
theorem dX8_gum_11 : decode cX8_gum 11 = .ok (.iconst 1, 1) := by decide +kernel
theorem dX8_gum_12 : decode cX8_gum 12 = .ok (.bipush 8, 2) := by decide +kernel
theorem dX8_gum_14 : decode cX8_gum 14 = .ok (.invokestatic 74, 3) := by decide +kernel
theorem dX8_gum_17 : decode cX8_gum 17 = .ok (.ifCond .eq 23, 3) := by decide +kernel
theorem dX8_gum_20 : decode cX8_gum 20 = .ok (.iload 4, 2) := by decide +kernel
theorem dX8_gum_22 : decode cX8_gum 22 = .ok (.iconst 0, 1) := by decide +kernel
theorem dX8_gum_23 : decode cX8_gum 23 = .ok (.iload_n 3, 1) := by decide +kernel
theorem dX8_gum_24 : decode cX8_gum 24 = .ok (.invokestatic 74, 3) := by decide +kernel
theorem dX8_gum_27 : decode cX8_gum 27 = .ok (.ifCond .eq 13, 3) := by decide +kernel
theorem dX8_gum_30 : decode cX8_gum 30 = .ok (.iload 5, 2) := by decide +kernel
theorem dX8_gum_32 : decode cX8_gum 32 = .ok (.iconst 0, 1) := by decide +kernel
theorem dX8_gum_33 : decode cX8_gum 33 = .ok (.iconst 1, 1) := by decide +kernel
theorem dX8_gum_34 : decode cX8_gum 34 = .ok (.invokestatic 74, 3) := by decide +kernel
theorem dX8_gum_37 : decode cX8_gum 37 = .ok (.ifCond .ne 10, 3) := by decide +kernel
theorem dX8_gum_40 : decode cX8_gum 40 = .ok (.aload_n 0, 1) := by decide +kernel
theorem dX8_gum_41 : decode cX8_gum 41 = .ok (.iconst 0, 1) := by decide +kernel
theorem dX8_gum_42 : decode cX8_gum 42 = .ok (.invokevirtual 78, 3) := by decide +kernel
theorem dX8_gum_45 : decode cX8_gum 45 = .ok (.i2l, 1) := by decide +kernel
theorem dX8_gum_46 : decode cX8_gum 46 = .ok (.lreturn, 1) := by decide +kernel
theorem dX8_gum_47 : decode cX8_gum 47 = .ok (.iload 5, 2) := by decide +kernel
theorem dX8_gum_49 : decode cX8_gum 49 = .ok (.iconst 1, 1) := by decide +kernel
theorem dX8_gum_50 : decode cX8_gum 50 = .ok (.if_icmp .ne 20, 3) := by decide +kernel
theorem dX8_gum_53 : decode cX8_gum 53 = .ok (.aload_n 0, 1) := by decide +kernel
theorem dX8_gum_54 : decode cX8_gum 54 = .ok (.getfield 36, 3) := by decide +kernel
theorem dX8_gum_57 : decode cX8_gum 57 = .ok (.aload_n 0, 1) := by decide +kernel
theorem dX8_gum_58 : decode cX8_gum 58 = .ok (.getfield 16, 3) := by decide +kernel
theorem dX8_gum_61 : decode cX8_gum 61 = .ok (.iload_n 1, 1) := by decide +kernel
theorem dX8_gum_62 : decode cX8_gum 62 = .ok (.iload_n 2, 1) := by decide +kernel
theorem dX8_gum_63 : decode cX8_gum 63 = .ok (.iload_n 3, 1) := by decide +kernel
theorem dX8_gum_64 : decode cX8_gum 64 = .ok (.iload 4, 2) := by decide +kernel
theorem dX8_gum_66 : decode cX8_gum 66 = .ok (.invokevirtual 176, 3) := by decide +kernel
theorem dX8_gum_69 : decode cX8_gum 69 = .ok (.lreturn, 1) := by decide +kernel
theorem dX8_gum_70 : decode cX8_gum 70 = .ok (.aload_n 0, 1) := by decide +kernel
theorem dX8_gum_71 : decode cX8_gum 71 = .ok (.iload_n 1, 1) := by decide +kernel
theorem dX8_gum_72 : decode cX8_gum 72 = .ok (.invokevirtual 225, 3) := by decide +kernel
theorem dX8_gum_75 : decode cX8_gum 75 = .ok (.aload_n 0, 1) := by decide +kernel
theorem dX8_gum_76 : decode cX8_gum 76 = .ok (.getfield 36, 3) := by decide +kernel
theorem dX8_gum_79 : decode cX8_gum 79 = .ok (.aload_n 0, 1) := by decide +kernel
theorem dX8_gum_80 : decode cX8_gum 80 = .ok (.getfield 23, 3) := by decide +kernel
theorem dX8_gum_83 : decode cX8_gum 83 = .ok (.iload_n 1, 1) := by decide +kernel
theorem dX8_gum_84 : decode cX8_gum 84 = .ok (.iload_n 2, 1) := by decide +kernel
theorem dX8_gum_85 : decode cX8_gum 85 = .ok (.iload_n 3, 1) := by decide +kernel
theorem dX8_gum_86 : decode cX8_gum 86 = .ok (.iload 4, 2) := by decide +kernel
theorem dX8_gum_88 : decode cX8_gum 88 = .ok (.invokevirtual 176, 3) := by decide +kernel
theorem dX8_gum_91 : decode cX8_gum 91 = .ok (.lreturn, 1) := by decide +kernel
theorem dX8_suspect_0 : decode cX8_suspect 0 = .ok (.aload_n 0, 1) := by decide +kernel
theorem dX8_suspect_1 : decode cX8_suspect 1 = .ok (.iload_n 1, 1) := by decide +kernel
theorem dX8_suspect_2 : decode cX8_suspect 2 = .ok (.iload_n 2, 1) := by decide +kernel
theorem dX8_suspect_3 : decode cX8_suspect 3 = .ok (.iload_n 3, 1) := by decide +kernel
theorem dX8_suspect_4 : decode cX8_suspect 4 = .ok (.invokevirtual 173, 3) := by decide +kernel
theorem dX8_suspect_7 : decode cX8_suspect 7 = .ok (.ifCond .eq 13, 3) := by decide +kernel
theorem dX8_suspect_10 : decode cX8_suspect 10 = .ok (.iload_n 3, 1) := by decide +kernel
theorem dX8_suspect_11 : decode cX8_suspect 11 = .ok (.iconst 1, 1) := by decide +kernel
theorem dX8_suspect_12 : decode cX8_suspect 12 = .ok (.bipush 8, 2) := by decide +kernel
theorem dX8_suspect_14 : decode cX8_suspect 14 = .ok (.invokestatic 74, 3) := by decide +kernel
theorem dX8_suspect_17 : decode cX8_suspect 17 = .ok (.ifCond .ne 9, 3) := by decide +kernel
theorem dX8_suspect_20 : decode cX8_suspect 20 = .ok (.aload_n 0, 1) := by decide +kernel
theorem dX8_suspect_21 : decode cX8_suspect 21 = .ok (.iconst 0, 1) := by decide +kernel
theorem dX8_suspect_22 : decode cX8_suspect 22 = .ok (.invokevirtual 78, 3) := by decide +kernel
theorem dX8_suspect_25 : decode cX8_suspect 25 = .ok (.ireturn, 1) := by decide +kernel
theorem dX8_suspect_26 : decode cX8_suspect 26 = .ok (.aload_n 0, 1) := by decide +kernel
theorem dX8_suspect_27 : decode cX8_suspect 27 = .ok (.iload_n 1, 1) := by decide +kernel
theorem dX8_suspect_28 : decode cX8_suspect 28 = .ok (.invokevirtual 225, 3) := by decide +kernel
theorem dX8_suspect_31 : decode cX8_suspect 31 = .ok (.iload_n 3, 1) := by decide +kernel
theorem dX8_suspect_32 : decode cX8_suspect 32 = .ok (.istore 4, 2) := by decide +kernel
theorem dX8_suspect_34 : decode cX8_suspect 34 = .ok (.iload 4, 2) := by decide +kernel
theorem dX8_suspect_36 : decode cX8_suspect 36 = .ok (.ifCond .lt 67, 3) := by decide +kernel
theorem dX8_suspect_39 : decode cX8_suspect 39 = .ok (.aload_n 0, 1) := by decide +kernel
theorem dX8_suspect_40 : decode cX8_suspect 40 = .ok (.getfield 36, 3) := by decide +kernel
theorem dX8_suspect_43 : decode cX8_suspect 43 = .ok (.aload_n 0, 1) := by decide +kernel
theorem dX8_suspect_44 : decode cX8_suspect 44 = .ok (.getfield 23, 3) := by decide +kernel
theorem dX8_suspect_47 : decode cX8_suspect 47 = .ok (.iload_n 1, 1) := by decide +kernel
theorem dX8_suspect_48 : decode cX8_suspect 48 = .ok (.iload_n 2, 1) := by decide +kernel
theorem dX8_suspect_49 : decode cX8_suspect 49 = .ok (.iload_n 3, 1) := by decide +kernel
theorem dX8_suspect_50 : decode cX8_suspect 50 = .ok (.iload 4, 2) := by decide +kernel
theorem dX8_suspect_52 : decode cX8_suspect 52 = .ok (.invokevirtual 176, 3) := by decide +kernel
theorem dX8_suspect_55 : decode cX8_suspect 55 = .ok (.lstore 5, 2) := by decide +kernel
theorem dX8_suspect_57 : decode cX8_suspect 57 = .ok (.aload_n 0, 1) := by decide +kernel
theorem dX8_suspect_58 : decode cX8_suspect 58 = .ok (.getfield 36, 3) := by decide +kernel
theorem dX8_suspect_61 : decode cX8_suspect 61 = .ok (.aload_n 0, 1) := by decide +kernel
theorem dX8_suspect_62 : decode cX8_suspect 62 = .ok (.getfield 16, 3) := by decide +kernel
theorem dX8_suspect_65 : decode cX8_suspect 65 = .ok (.iload_n 1, 1) := by decide +kernel
theorem dX8_suspect_66 : decode cX8_suspect 66 = .ok (.iload_n 2, 1) := by decide +kernel
theorem dX8_suspect_67 : decode cX8_suspect 67 = .ok (.iload_n 3, 1) := by decide +kernel
theorem dX8_suspect_68 : decode cX8_suspect 68 = .ok (.iload 4, 2) := by decide +kernel
theorem dX8_suspect_70 : decode cX8_suspect 70 = .ok (.invokevirtual 176, 3) := by decide +kernel
theorem dX8_suspect_73 : decode cX8_suspect 73 = .ok (.lstore 7, 2) := by decide +kernel
theorem dX8_suspect_75 : decode cX8_suspect 75 = .ok (.lload 5, 2) := by decide +kernel
theorem dX8_suspect_77 : decode cX8_suspect 77 = .ok (.lconst 0, 1) := by decide +kernel
theorem dX8_suspect_78 : decode cX8_suspect 78 = .ok (.lcmp, 1) := by decide +kernel
theorem dX8_suspect_79 : decode cX8_suspect 79 = .ok (.ifCond .le 18, 3) := by decide +kernel
theorem dX8_suspect_82 : decode cX8_suspect 82 = .ok (.lload 5, 2) := by decide +kernel
theorem dX8_suspect_84 : decode cX8_suspect 84 = .ok (.ldc2_w 229, 3) := by decide +kernel
theorem dX8_suspect_87 : decode cX8_suspect 87 = .ok (.lload 7, 2) := by decide +kernel
theorem dX8_suspect_89 : decode cX8_suspect 89 = .ok (.lmul, 1) := by decide +kernel
theorem dX8_suspect_90 : decode cX8_suspect 90 = .ok (.lcmp, 1) := by decide +kernel
theorem dX8_suspect_91 : decode cX8_suspect 91 = .ok (.ifCond .lt 6, 3) := by decide +kernel
theorem dX8_suspect_94 : decode cX8_suspect 94 = .ok (.iload 4, 2) := by decide +kernel
theorem dX8_suspect_96 : decode cX8_suspect 96 = .ok (.ireturn, 1) := by decide +kernel
theorem dX8_suspect_97 : decode cX8_suspect 97 = .ok (.iinc 4 (-1), 3) := by decide +kernel
theorem dX8_suspect_100 : decode cX8_suspect 100 = .ok (.goto (-66), 3) := by decide +kernel
theorem dX8_suspect_103 : decode cX8_suspect 103 = .ok (.aload_n 0, 1) := by decide +kernel
theorem dX8_suspect_104 : decode cX8_suspect 104 = .ok (.iconst 3, 1) := by decide +kernel
theorem dX8_suspect_105 : decode cX8_suspect 105 = .ok (.invokevirtual 78, 3) := by decide +kernel
theorem dX8_suspect_108 : decode cX8_suspect 108 = .ok (.ireturn, 1) := by decide +kernel
theorem dX8_rain_0 : decode cX8_rain 0 = .ok (.iload_n 1, 1) := by decide +kernel
theorem dX8_rain_1 : decode cX8_rain 1 = .ok (.iconst 1, 1) := by decide +kernel
theorem dX8_rain_2 : decode cX8_rain 2 = .ok (.bipush 12, 2) := by decide +kernel
theorem dX8_rain_4 : decode cX8_rain 4 = .ok (.invokestatic 74, 3) := by decide +kernel
theorem dX8_rain_7 : decode cX8_rain 7 = .ok (.ifCond .ne 9, 3) := by decide +kernel
theorem dX8_rain_10 : decode cX8_rain 10 = .ok (.aload_n 0, 1) := by decide +kernel
theorem dX8_rain_11 : decode cX8_rain 11 = .ok (.iconst 0, 1) := by decide +kernel
theorem dX8_rain_12 : decode cX8_rain 12 = .ok (.invokevirtual 78, 3) := by decide +kernel
theorem dX8_rain_15 : decode cX8_rain 15 = .ok (.ireturn, 1) := by decide +kernel
theorem dX8_rain_16 : decode cX8_rain 16 = .ok (.iconst 0, 1) := by decide +kernel
theorem dX8_rain_17 : decode cX8_rain 17 = .ok (.istore_n 2, 1) := by decide +kernel
theorem dX8_rain_18 : decode cX8_rain 18 = .ok (.iload_n 2, 1) := by decide +kernel
theorem dX8_rain_19 : decode cX8_rain 19 = .ok (.iload_n 1, 1) := by decide +kernel
theorem dX8_rain_20 : decode cX8_rain 20 = .ok (.if_icmp .ge 38, 3) := by decide +kernel
theorem dX8_rain_23 : decode cX8_rain 23 = .ok (.aload_n 0, 1) := by decide +kernel
theorem dX8_rain_24 : decode cX8_rain 24 = .ok (.getfield 16, 3) := by decide +kernel
theorem dX8_rain_27 : decode cX8_rain 27 = .ok (.invokevirtual 231, 3) := by decide +kernel
theorem dX8_rain_30 : decode cX8_rain 30 = .ok (.bipush 30, 2) := by decide +kernel
theorem dX8_rain_32 : decode cX8_rain 32 = .ok (.irem, 1) := by decide +kernel
theorem dX8_rain_33 : decode cX8_rain 33 = .ok (.istore_n 3, 1) := by decide +kernel
theorem dX8_rain_34 : decode cX8_rain 34 = .ok (.aload_n 0, 1) := by decide +kernel
theorem dX8_rain_35 : decode cX8_rain 35 = .ok (.getfield 16, 3) := by decide +kernel
theorem dX8_rain_38 : decode cX8_rain 38 = .ok (.getfield 82, 3) := by decide +kernel
theorem dX8_rain_41 : decode cX8_rain 41 = .ok (.iload_n 3, 1) := by decide +kernel
theorem dX8_rain_42 : decode cX8_rain 42 = .ok (.aload_n 0, 1) := by decide +kernel
theorem dX8_rain_43 : decode cX8_rain 43 = .ok (.getfield 16, 3) := by decide +kernel
theorem dX8_rain_46 : decode cX8_rain 46 = .ok (.invokevirtual 231, 3) := by decide +kernel
theorem dX8_rain_49 : decode cX8_rain 49 = .ok (.iconst 5, 1) := by decide +kernel
theorem dX8_rain_50 : decode cX8_rain 50 = .ok (.irem, 1) := by decide +kernel
theorem dX8_rain_51 : decode cX8_rain 51 = .ok (.iastore, 1) := by decide +kernel
theorem dX8_rain_52 : decode cX8_rain 52 = .ok (.iinc 2 1, 3) := by decide +kernel
theorem dX8_rain_55 : decode cX8_rain 55 = .ok (.goto (-37), 3) := by decide +kernel
theorem dX8_rain_58 : decode cX8_rain 58 = .ok (.aload_n 0, 1) := by decide +kernel
theorem dX8_rain_59 : decode cX8_rain 59 = .ok (.getfield 16, 3) := by decide +kernel
theorem dX8_rain_62 : decode cX8_rain 62 = .ok (.invokevirtual 234, 3) := by decide +kernel
theorem dX8_rain_65 : decode cX8_rain 65 = .ok (.ireturn, 1) := by decide +kernel
theorem dX8_seed_0 : decode cX8_seed 0 = .ok (.aload_n 0, 1) := by decide +kernel
theorem dX8_seed_1 : decode cX8_seed 1 = .ok (.getfield 16, 3) := by decide +kernel
theorem dX8_seed_4 : decode cX8_seed 4 = .ok (.getfield 170, 3) := by decide +kernel
theorem dX8_seed_7 : decode cX8_seed 7 = .ok (.istore_n 2, 1) := by decide +kernel
theorem dX8_seed_8 : decode cX8_seed 8 = .ok (.aload_n 0, 1) := by decide +kernel
theorem dX8_seed_9 : decode cX8_seed 9 = .ok (.getfield 16, 3) := by decide +kernel
theorem dX8_seed_12 : decode cX8_seed 12 = .ok (.iload_n 1, 1) := by decide +kernel
theorem dX8_seed_13 : decode cX8_seed 13 = .ok (.putfield 170, 3) := by decide +kernel
theorem dX8_seed_16 : decode cX8_seed 16 = .ok (.iload_n 2, 1) := by decide +kernel
theorem dX8_seed_17 : decode cX8_seed 17 = .ok (.ireturn, 1) := by decide +kernel
theorem dX8_feed_0 : decode cX8_feed 0 = .ok (.iload_n 2, 1) := by decide +kernel
theorem dX8_feed_1 : decode cX8_feed 1 = .ok (.iconst 1, 1) := by decide +kernel
theorem dX8_feed_2 : decode cX8_feed 2 = .ok (.iconst 4, 1) := by decide +kernel
theorem dX8_feed_3 : decode cX8_feed 3 = .ok (.invokestatic 74, 3) := by decide +kernel
theorem dX8_feed_6 : decode cX8_feed 6 = .ok (.ifCond .ne 9, 3) := by decide +kernel
theorem dX8_feed_9 : decode cX8_feed 9 = .ok (.aload_n 0, 1) := by decide +kernel
theorem dX8_feed_10 : decode cX8_feed 10 = .ok (.iconst 0, 1) := by decide +kernel
theorem dX8_feed_11 : decode cX8_feed 11 = .ok (.invokevirtual 78, 3) := by decide +kernel
theorem dX8_feed_14 : decode cX8_feed 14 = .ok (.ireturn, 1) := by decide +kernel
theorem dX8_feed_15 : decode cX8_feed 15 = .ok (.aload_n 0, 1) := by decide +kernel
theorem dX8_feed_16 : decode cX8_feed 16 = .ok (.getfield 58, 3) := by decide +kernel
theorem dX8_feed_19 : decode cX8_feed 19 = .ok (.getfield 237, 3) := by decide +kernel
theorem dX8_feed_22 : decode cX8_feed 22 = .ok (.iload_n 2, 1) := by decide +kernel
theorem dX8_feed_23 : decode cX8_feed 23 = .ok (.iadd, 1) := by decide +kernel
theorem dX8_feed_24 : decode cX8_feed 24 = .ok (.bipush 120, 2) := by decide +kernel
theorem dX8_feed_26 : decode cX8_feed 26 = .ok (.if_icmp .le 9, 3) := by decide +kernel
theorem dX8_feed_29 : decode cX8_feed 29 = .ok (.aload_n 0, 1) := by decide +kernel
theorem dX8_feed_30 : decode cX8_feed 30 = .ok (.iconst 1, 1) := by decide +kernel
theorem dX8_feed_31 : decode cX8_feed 31 = .ok (.invokevirtual 78, 3) := by decide +kernel
theorem dX8_feed_34 : decode cX8_feed 34 = .ok (.ireturn, 1) := by decide +kernel
theorem dX8_feed_35 : decode cX8_feed 35 = .ok (.iload_n 2, 1) := by decide +kernel
theorem dX8_feed_36 : decode cX8_feed 36 = .ok (.iconst 1, 1) := by decide +kernel
theorem dX8_feed_37 : decode cX8_feed 37 = .ok (.isub, 1) := by decide +kernel
theorem dX8_feed_38 : decode cX8_feed 38 = .ok (.istore_n 3, 1) := by decide +kernel
theorem dX8_feed_39 : decode cX8_feed 39 = .ok (.iload_n 3, 1) := by decide +kernel
theorem dX8_feed_40 : decode cX8_feed 40 = .ok (.ifCond .lt 26, 3) := by decide +kernel
theorem dX8_feed_43 : decode cX8_feed 43 = .ok (.aload_n 0, 1) := by decide +kernel
theorem dX8_feed_44 : decode cX8_feed 44 = .ok (.getfield 58, 3) := by decide +kernel
theorem dX8_feed_47 : decode cX8_feed 47 = .ok (.iload_n 1, 1) := by decide +kernel
theorem dX8_feed_48 : decode cX8_feed 48 = .ok (.bipush 8, 2) := by decide +kernel
theorem dX8_feed_50 : decode cX8_feed 50 = .ok (.iload_n 3, 1) := by decide +kernel
theorem dX8_feed_51 : decode cX8_feed 51 = .ok (.imul, 1) := by decide +kernel
theorem dX8_feed_52 : decode cX8_feed 52 = .ok (.iushr, 1) := by decide +kernel
theorem dX8_feed_53 : decode cX8_feed 53 = .ok (.sipush 255, 3) := by decide +kernel
theorem dX8_feed_56 : decode cX8_feed 56 = .ok (.iand, 1) := by decide +kernel
theorem dX8_feed_57 : decode cX8_feed 57 = .ok (.invokevirtual 240, 3) := by decide +kernel
theorem dX8_feed_60 : decode cX8_feed 60 = .ok (.iinc 3 (-1), 3) := by decide +kernel
theorem dX8_feed_63 : decode cX8_feed 63 = .ok (.goto (-24), 3) := by decide +kernel
theorem dX8_feed_66 : decode cX8_feed 66 = .ok (.aload_n 0, 1) := by decide +kernel
theorem dX8_feed_67 : decode cX8_feed 67 = .ok (.getfield 58, 3) := by decide +kernel
theorem dX8_feed_70 : decode cX8_feed 70 = .ok (.getfield 237, 3) := by decide +kernel
theorem dX8_feed_73 : decode cX8_feed 73 = .ok (.ireturn, 1) := by decide +kernel
theorem dX8_wipe_0 : decode cX8_wipe 0 = .ok (.aload_n 0, 1) := by decide +kernel
theorem dX8_wipe_1 : decode cX8_wipe 1 = .ok (.getfield 58, 3) := by decide +kernel
theorem dX8_wipe_4 : decode cX8_wipe 4 = .ok (.getfield 237, 3) := by decide +kernel
theorem dX8_wipe_7 : decode cX8_wipe 7 = .ok (.istore_n 1, 1) := by decide +kernel
theorem dX8_wipe_8 : decode cX8_wipe 8 = .ok (.aload_n 0, 1) := by decide +kernel
theorem dX8_wipe_9 : decode cX8_wipe 9 = .ok (.getfield 58, 3) := by decide +kernel
theorem dX8_wipe_12 : decode cX8_wipe 12 = .ok (.iconst 0, 1) := by decide +kernel
theorem dX8_wipe_13 : decode cX8_wipe 13 = .ok (.putfield 237, 3) := by decide +kernel
theorem dX8_wipe_16 : decode cX8_wipe 16 = .ok (.iload_n 1, 1) := by decide +kernel
theorem dX8_wipe_17 : decode cX8_wipe 17 = .ok (.ireturn, 1) := by decide +kernel
theorem dX8_text_0 : decode cX8_text 0 = .ok (.aload_n 0, 1) := by decide +kernel
theorem dX8_text_1 : decode cX8_text 1 = .ok (.getfield 23, 3) := by decide +kernel
theorem dX8_text_4 : decode cX8_text 4 = .ok (.aload_n 0, 1) := by decide +kernel
theorem dX8_text_5 : decode cX8_text 5 = .ok (.getfield 16, 3) := by decide +kernel
theorem dX8_text_8 : decode cX8_text 8 = .ok (.invokevirtual 151, 3) := by decide +kernel
theorem dX8_text_11 : decode cX8_text 11 = .ok (.aload_n 0, 1) := by decide +kernel
theorem dX8_text_12 : decode cX8_text 12 = .ok (.getfield 50, 3) := by decide +kernel
theorem dX8_text_15 : decode cX8_text 15 = .ok (.aload_n 0, 1) := by decide +kernel
theorem dX8_text_16 : decode cX8_text 16 = .ok (.getfield 23, 3) := by decide +kernel
theorem dX8_text_19 : decode cX8_text 19 = .ok (.invokevirtual 242, 3) := by decide +kernel
theorem dX8_text_22 : decode cX8_text 22 = .ok (.istore_n 1, 1) := by decide +kernel
theorem dX8_text_23 : decode cX8_text 23 = .ok (.iload_n 1, 1) := by decide +kernel
theorem dX8_text_24 : decode cX8_text 24 = .ok (.ifCond .lt 14, 3) := by decide +kernel
theorem dX8_text_27 : decode cX8_text 27 = .ok (.aload_n 0, 1) := by decide +kernel
theorem dX8_text_28 : decode cX8_text 28 = .ok (.getfield 16, 3) := by decide +kernel
theorem dX8_text_31 : decode cX8_text 31 = .ok (.aload_n 0, 1) := by decide +kernel
theorem dX8_text_32 : decode cX8_text 32 = .ok (.getfield 23, 3) := by decide +kernel
theorem dX8_text_35 : decode cX8_text 35 = .ok (.invokevirtual 151, 3) := by decide +kernel
theorem dX8_text_38 : decode cX8_text 38 = .ok (.aload_n 0, 1) := by decide +kernel
theorem dX8_text_39 : decode cX8_text 39 = .ok (.getfield 58, 3) := by decide +kernel
theorem dX8_text_42 : decode cX8_text 42 = .ok (.iconst 0, 1) := by decide +kernel
theorem dX8_text_43 : decode cX8_text 43 = .ok (.putfield 237, 3) := by decide +kernel
theorem dX8_text_46 : decode cX8_text 46 = .ok (.iload_n 1, 1) := by decide +kernel
theorem dX8_text_47 : decode cX8_text 47 = .ok (.ireturn, 1) := by decide +kernel
theorem dX8_hold_0 : decode cX8_hold 0 = .ok (.iload_n 1, 1) := by decide +kernel
theorem dX8_hold_1 : decode cX8_hold 1 = .ok (.invokestatic 246, 3) := by decide +kernel
theorem dX8_hold_4 : decode cX8_hold 4 = .ok (.ifCond .eq 16, 3) := by decide +kernel
theorem dX8_hold_7 : decode cX8_hold 7 = .ok (.iload_n 2, 1) := by decide +kernel
theorem dX8_hold_8 : decode cX8_hold 8 = .ok (.iconst (-1), 1) := by decide +kernel
theorem dX8_hold_9 : decode cX8_hold 9 = .ok (.if_icmp .eq 17, 3) := by decide +kernel
theorem dX8_hold_12 : decode cX8_hold 12 = .ok (.aload_n 0, 1) := by decide +kernel
theorem dX8_hold_13 : decode cX8_hold 13 = .ok (.iload_n 2, 1) := by decide +kernel
theorem dX8_hold_14 : decode cX8_hold 14 = .ok (.invokevirtual 96, 3) := by decide +kernel
theorem dX8_hold_17 : decode cX8_hold 17 = .ok (.ifCond .ne 9, 3) := by decide +kernel
theorem dX8_hold_20 : decode cX8_hold 20 = .ok (.aload_n 0, 1) := by decide +kernel
theorem dX8_hold_21 : decode cX8_hold 21 = .ok (.iconst 0, 1) := by decide +kernel
theorem dX8_hold_22 : decode cX8_hold 22 = .ok (.invokevirtual 78, 3) := by decide +kernel
theorem dX8_hold_25 : decode cX8_hold 25 = .ok (.ireturn, 1) := by decide +kernel
theorem dX8_hold_26 : decode cX8_hold 26 = .ok (.aload_n 0, 1) := by decide +kernel
theorem dX8_hold_27 : decode cX8_hold 27 = .ok (.getfield 16, 3) := by decide +kernel
theorem dX8_hold_30 : decode cX8_hold 30 = .ok (.getfield 249, 3) := by decide +kernel
theorem dX8_hold_33 : decode cX8_hold 33 = .ok (.iload_n 1, 1) := by decide +kernel
theorem dX8_hold_34 : decode cX8_hold 34 = .ok (.iload_n 2, 1) := by decide +kernel
theorem dX8_hold_35 : decode cX8_hold 35 = .ok (.iastore, 1) := by decide +kernel
theorem dX8_hold_36 : decode cX8_hold 36 = .ok (.iconst 1, 1) := by decide +kernel
theorem dX8_hold_37 : decode cX8_hold 37 = .ok (.ireturn, 1) := by decide +kernel
theorem dX8_as_0 : decode cX8_as 0 = .ok (.iload_n 1, 1) := by decide +kernel
theorem dX8_as_1 : decode cX8_as 1 = .ok (.invokestatic 246, 3) := by decide +kernel
theorem dX8_as_4 : decode cX8_as 4 = .ok (.ifCond .eq 13, 3) := by decide +kernel
theorem dX8_as_7 : decode cX8_as 7 = .ok (.iload_n 2, 1) := by decide +kernel
theorem dX8_as_8 : decode cX8_as 8 = .ok (.iconst 0, 1) := by decide +kernel
theorem dX8_as_9 : decode cX8_as 9 = .ok (.bipush 6, 2) := by decide +kernel
theorem dX8_as_11 : decode cX8_as 11 = .ok (.invokestatic 74, 3) := by decide +kernel
theorem dX8_as_14 : decode cX8_as 14 = .ok (.ifCond .ne 9, 3) := by decide +kernel
theorem dX8_as_17 : decode cX8_as 17 = .ok (.aload_n 0, 1) := by decide +kernel
theorem dX8_as_18 : decode cX8_as 18 = .ok (.iconst 0, 1) := by decide +kernel
theorem dX8_as_19 : decode cX8_as 19 = .ok (.invokevirtual 78, 3) := by decide +kernel
theorem dX8_as_22 : decode cX8_as 22 = .ok (.ireturn, 1) := by decide +kernel
theorem dX8_as_23 : decode cX8_as 23 = .ok (.aload_n 0, 1) := by decide +kernel
theorem dX8_as_24 : decode cX8_as 24 = .ok (.getfield 16, 3) := by decide +kernel
theorem dX8_as_27 : decode cX8_as 27 = .ok (.getfield 249, 3) := by decide +kernel
theorem dX8_as_30 : decode cX8_as 30 = .ok (.iload_n 1, 1) := by decide +kernel
theorem dX8_as_31 : decode cX8_as 31 = .ok (.iaload, 1) := by decide +kernel
theorem dX8_as_32 : decode cX8_as 32 = .ok (.istore_n 3, 1) := by decide +kernel
theorem dX8_as_33 : decode cX8_as 33 = .ok (.aload_n 0, 1) := by decide +kernel
theorem dX8_as_34 : decode cX8_as 34 = .ok (.iload_n 3, 1) := by decide +kernel
theorem dX8_as_35 : decode cX8_as 35 = .ok (.invokevirtual 96, 3) := by decide +kernel
theorem dX8_as_38 : decode cX8_as 38 = .ok (.ifCond .ne 9, 3) := by decide +kernel
theorem dX8_as_41 : decode cX8_as 41 = .ok (.aload_n 0, 1) := by decide +kernel
theorem dX8_as_42 : decode cX8_as 42 = .ok (.iconst 5, 1) := by decide +kernel
theorem dX8_as_43 : decode cX8_as 43 = .ok (.invokevirtual 78, 3) := by decide +kernel
theorem dX8_as_46 : decode cX8_as 46 = .ok (.ireturn, 1) := by decide +kernel
theorem dX8_as_47 : decode cX8_as 47 = .ok (.aload_n 0, 1) := by decide +kernel
theorem dX8_as_48 : decode cX8_as 48 = .ok (.getfield 16, 3) := by decide +kernel
theorem dX8_as_51 : decode cX8_as 51 = .ok (.getfield 99, 3) := by decide +kernel
theorem dX8_as_54 : decode cX8_as 54 = .ok (.iload_n 3, 1) := by decide +kernel
theorem dX8_as_55 : decode cX8_as 55 = .ok (.aaload, 1) := by decide +kernel
theorem dX8_as_56 : decode cX8_as 56 = .ok (.iload_n 2, 1) := by decide +kernel
theorem dX8_as_57 : decode cX8_as 57 = .ok (.invokevirtual 252, 3) := by decide +kernel
theorem dX8_as_60 : decode cX8_as 60 = .ok (.ifCond .eq 7, 3) := by decide +kernel
theorem dX8_as_63 : decode cX8_as 63 = .ok (.iload_n 3, 1) := by decide +kernel
theorem dX8_as_64 : decode cX8_as 64 = .ok (.goto 8, 3) := by decide +kernel
theorem dX8_as_67 : decode cX8_as 67 = .ok (.aload_n 0, 1) := by decide +kernel
theorem dX8_as_68 : decode cX8_as 68 = .ok (.iconst 2, 1) := by decide +kernel
theorem dX8_as_69 : decode cX8_as 69 = .ok (.invokevirtual 78, 3) := by decide +kernel
theorem dX8_as_72 : decode cX8_as 72 = .ok (.ireturn, 1) := by decide +kernel
theorem dX8_sheet_0 : decode cX8_sheet 0 = .ok (.iload_n 1, 1) := by decide +kernel
theorem dX8_sheet_1 : decode cX8_sheet 1 = .ok (.invokestatic 255, 3) := by decide +kernel
theorem dX8_sheet_4 : decode cX8_sheet 4 = .ok (.ifCond .eq 25, 3) := by decide +kernel
theorem dX8_sheet_7 : decode cX8_sheet 7 = .ok (.iload_n 2, 1) := by decide +kernel
theorem dX8_sheet_8 : decode cX8_sheet 8 = .ok (.ifCond .eq 27, 3) := by decide +kernel
theorem dX8_sheet_11 : decode cX8_sheet 11 = .ok (.iload_n 2, 1) := by decide +kernel
theorem dX8_sheet_12 : decode cX8_sheet 12 = .ok (.bipush 8, 2) := by decide +kernel
theorem dX8_sheet_14 : decode cX8_sheet 14 = .ok (.if_icmp .eq 21, 3) := by decide +kernel
theorem dX8_sheet_17 : decode cX8_sheet 17 = .ok (.iload_n 2, 1) := by decide +kernel
theorem dX8_sheet_18 : decode cX8_sheet 18 = .ok (.bipush 16, 2) := by decide +kernel
theorem dX8_sheet_20 : decode cX8_sheet 20 = .ok (.if_icmp .eq 15, 3) := by decide +kernel
theorem dX8_sheet_23 : decode cX8_sheet 23 = .ok (.iload_n 2, 1) := by decide +kernel
theorem dX8_sheet_24 : decode cX8_sheet 24 = .ok (.bipush 32, 2) := by decide +kernel
theorem dX8_sheet_26 : decode cX8_sheet 26 = .ok (.if_icmp .eq 9, 3) := by decide +kernel
theorem dX8_sheet_29 : decode cX8_sheet 29 = .ok (.aload_n 0, 1) := by decide +kernel
theorem dX8_sheet_30 : decode cX8_sheet 30 = .ok (.iconst 0, 1) := by decide +kernel
theorem dX8_sheet_31 : decode cX8_sheet 31 = .ok (.invokevirtual 78, 3) := by decide +kernel
theorem dX8_sheet_34 : decode cX8_sheet 34 = .ok (.ireturn, 1) := by decide +kernel
theorem dX8_sheet_35 : decode cX8_sheet 35 = .ok (.iload_n 3, 1) := by decide +kernel
theorem dX8_sheet_36 : decode cX8_sheet 36 = .ok (.ifCond .ge 10, 3) := by decide +kernel
theorem dX8_sheet_39 : decode cX8_sheet 39 = .ok (.aload_n 0, 1) := by decide +kernel
theorem dX8_sheet_40 : decode cX8_sheet 40 = .ok (.bipush 6, 2) := by decide +kernel
theorem dX8_sheet_42 : decode cX8_sheet 42 = .ok (.invokevirtual 78, 3) := by decide +kernel
theorem dX8_sheet_45 : decode cX8_sheet 45 = .ok (.ireturn, 1) := by decide +kernel
theorem dX8_sheet_46 : decode cX8_sheet 46 = .ok (.iload_n 3, 1) := by decide +kernel
theorem dX8_sheet_47 : decode cX8_sheet 47 = .ok (.bipush 40, 2) := by decide +kernel
theorem dX8_sheet_49 : decode cX8_sheet 49 = .ok (.if_icmp .le 9, 3) := by decide +kernel
theorem dX8_sheet_52 : decode cX8_sheet 52 = .ok (.aload_n 0, 1) := by decide +kernel
theorem dX8_sheet_53 : decode cX8_sheet 53 = .ok (.iconst 0, 1) := by decide +kernel
theorem dX8_sheet_54 : decode cX8_sheet 54 = .ok (.invokevirtual 78, 3) := by decide +kernel
theorem dX8_sheet_57 : decode cX8_sheet 57 = .ok (.ireturn, 1) := by decide +kernel
theorem dX8_sheet_58 : decode cX8_sheet 58 = .ok (.aload_n 0, 1) := by decide +kernel
theorem dX8_sheet_59 : decode cX8_sheet 59 = .ok (.getfield 61, 3) := by decide +kernel
theorem dX8_sheet_62 : decode cX8_sheet 62 = .ok (.iload_n 1, 1) := by decide +kernel
theorem dX8_sheet_63 : decode cX8_sheet 63 = .ok (.aaload, 1) := by decide +kernel
theorem dX8_sheet_64 : decode cX8_sheet 64 = .ok (.iload_n 2, 1) := by decide +kernel
theorem dX8_sheet_65 : decode cX8_sheet 65 = .ok (.iload_n 3, 1) := by decide +kernel
theorem dX8_sheet_66 : decode cX8_sheet 66 = .ok (.invokevirtual 258, 3) := by decide +kernel
theorem dX8_sheet_69 : decode cX8_sheet 69 = .ok (.aload_n 0, 1) := by decide +kernel
theorem dX8_sheet_70 : decode cX8_sheet 70 = .ok (.getfield 61, 3) := by decide +kernel
theorem dX8_sheet_73 : decode cX8_sheet 73 = .ok (.iload_n 1, 1) := by decide +kernel
theorem dX8_sheet_74 : decode cX8_sheet 74 = .ok (.aaload, 1) := by decide +kernel
theorem dX8_sheet_75 : decode cX8_sheet 75 = .ok (.getfield 261, 3) := by decide +kernel
theorem dX8_sheet_78 : decode cX8_sheet 78 = .ok (.ireturn, 1) := by decide +kernel
theorem dX8_write_0 : decode cX8_write 0 = .ok (.iload_n 1, 1) := by decide +kernel
theorem dX8_write_1 : decode cX8_write 1 = .ok (.invokestatic 255, 3) := by decide +kernel
theorem dX8_write_4 : decode cX8_write 4 = .ok (.ifCond .ne 9, 3) := by decide +kernel
theorem dX8_write_7 : decode cX8_write 7 = .ok (.aload_n 0, 1) := by decide +kernel
theorem dX8_write_8 : decode cX8_write 8 = .ok (.iconst 0, 1) := by decide +kernel
theorem dX8_write_9 : decode cX8_write 9 = .ok (.invokevirtual 78, 3) := by decide +kernel
theorem dX8_write_12 : decode cX8_write 12 = .ok (.ireturn, 1) := by decide +kernel
theorem dX8_write_13 : decode cX8_write 13 = .ok (.aload_n 0, 1) := by decide +kernel
theorem dX8_write_14 : decode cX8_write 14 = .ok (.getfield 61, 3) := by decide +kernel
theorem dX8_write_17 : decode cX8_write 17 = .ok (.iload_n 1, 1) := by decide +kernel
theorem dX8_write_18 : decode cX8_write 18 = .ok (.aaload, 1) := by decide +kernel
theorem dX8_write_19 : decode cX8_write 19 = .ok (.invokevirtual 262, 3) := by decide +kernel
theorem dX8_write_22 : decode cX8_write 22 = .ok (.ifCond .eq 9, 3) := by decide +kernel
theorem dX8_write_25 : decode cX8_write 25 = .ok (.aload_n 0, 1) := by decide +kernel
theorem dX8_write_26 : decode cX8_write 26 = .ok (.iconst 5, 1) := by decide +kernel
theorem dX8_write_27 : decode cX8_write 27 = .ok (.invokevirtual 78, 3) := by decide +kernel
theorem dX8_write_30 : decode cX8_write 30 = .ok (.ireturn, 1) := by decide +kernel
theorem dX8_write_31 : decode cX8_write 31 = .ok (.iload_n 2, 1) := by decide +kernel
theorem dX8_write_32 : decode cX8_write 32 = .ok (.iconst 0, 1) := by decide +kernel
theorem dX8_write_33 : decode cX8_write 33 = .ok (.aload_n 0, 1) := by decide +kernel
theorem dX8_write_34 : decode cX8_write 34 = .ok (.getfield 61, 3) := by decide +kernel
theorem dX8_write_37 : decode cX8_write 37 = .ok (.iload_n 1, 1) := by decide +kernel
theorem dX8_write_38 : decode cX8_write 38 = .ok (.aaload, 1) := by decide +kernel
theorem dX8_write_39 : decode cX8_write 39 = .ok (.getfield 261, 3) := by decide +kernel
theorem dX8_write_42 : decode cX8_write 42 = .ok (.iconst 1, 1) := by decide +kernel
theorem dX8_write_43 : decode cX8_write 43 = .ok (.isub, 1) := by decide +kernel
theorem dX8_write_44 : decode cX8_write 44 = .ok (.invokestatic 74, 3) := by decide +kernel
theorem dX8_write_47 : decode cX8_write 47 = .ok (.ifCond .ne 9, 3) := by decide +kernel
theorem dX8_write_50 : decode cX8_write 50 = .ok (.aload_n 0, 1) := by decide +kernel
theorem dX8_write_51 : decode cX8_write 51 = .ok (.iconst 0, 1) := by decide +kernel
theorem dX8_write_52 : decode cX8_write 52 = .ok (.invokevirtual 78, 3) := by decide +kernel
theorem dX8_write_55 : decode cX8_write 55 = .ok (.ireturn, 1) := by decide +kernel
theorem dX8_write_56 : decode cX8_write 56 = .ok (.aload_n 0, 1) := by decide +kernel
theorem dX8_write_57 : decode cX8_write 57 = .ok (.getfield 61, 3) := by decide +kernel
theorem dX8_write_60 : decode cX8_write 60 = .ok (.iload_n 1, 1) := by decide +kernel
theorem dX8_write_61 : decode cX8_write 61 = .ok (.aaload, 1) := by decide +kernel
theorem dX8_write_62 : decode cX8_write 62 = .ok (.iload_n 2, 1) := by decide +kernel
theorem dX8_write_63 : decode cX8_write 63 = .ok (.iload_n 3, 1) := by decide +kernel
theorem dX8_write_64 : decode cX8_write 64 = .ok (.invokevirtual 265, 3) := by decide +kernel
theorem dX8_write_67 : decode cX8_write 67 = .ok (.iconst 1, 1) := by decide +kernel
theorem dX8_write_68 : decode cX8_write 68 = .ok (.ireturn, 1) := by decide +kernel
theorem dX8_copy_0 : decode cX8_copy 0 = .ok (.iload_n 1, 1) := by decide +kernel
theorem dX8_copy_1 : decode cX8_copy 1 = .ok (.invokestatic 255, 3) := by decide +kernel
theorem dX8_copy_4 : decode cX8_copy 4 = .ok (.ifCond .eq 10, 3) := by decide +kernel
theorem dX8_copy_7 : decode cX8_copy 7 = .ok (.iload_n 3, 1) := by decide +kernel
theorem dX8_copy_8 : decode cX8_copy 8 = .ok (.invokestatic 255, 3) := by decide +kernel
theorem dX8_copy_11 : decode cX8_copy 11 = .ok (.ifCond .ne 9, 3) := by decide +kernel
theorem dX8_copy_14 : decode cX8_copy 14 = .ok (.aload_n 0, 1) := by decide +kernel
theorem dX8_copy_15 : decode cX8_copy 15 = .ok (.iconst 0, 1) := by decide +kernel
theorem dX8_copy_16 : decode cX8_copy 16 = .ok (.invokevirtual 78, 3) := by decide +kernel
theorem dX8_copy_19 : decode cX8_copy 19 = .ok (.ireturn, 1) := by decide +kernel
theorem dX8_copy_20 : decode cX8_copy 20 = .ok (.aload_n 0, 1) := by decide +kernel
theorem dX8_copy_21 : decode cX8_copy 21 = .ok (.getfield 61, 3) := by decide +kernel
theorem dX8_copy_24 : decode cX8_copy 24 = .ok (.iload_n 1, 1) := by decide +kernel
theorem dX8_copy_25 : decode cX8_copy 25 = .ok (.aaload, 1) := by decide +kernel
theorem dX8_copy_26 : decode cX8_copy 26 = .ok (.astore 6, 2) := by decide +kernel
theorem dX8_copy_28 : decode cX8_copy 28 = .ok (.aload_n 0, 1) := by decide +kernel
theorem dX8_copy_29 : decode cX8_copy 29 = .ok (.getfield 61, 3) := by decide +kernel
theorem dX8_copy_32 : decode cX8_copy 32 = .ok (.iload_n 3, 1) := by decide +kernel
theorem dX8_copy_33 : decode cX8_copy 33 = .ok (.aaload, 1) := by decide +kernel
theorem dX8_copy_34 : decode cX8_copy 34 = .ok (.astore 7, 2) := by decide +kernel
theorem dX8_copy_36 : decode cX8_copy 36 = .ok (.aload 6, 2) := by decide +kernel
theorem dX8_copy_38 : decode cX8_copy 38 = .ok (.invokevirtual 262, 3) := by decide +kernel
theorem dX8_copy_41 : decode cX8_copy 41 = .ok (.ifCond .ne 11, 3) := by decide +kernel
theorem dX8_copy_44 : decode cX8_copy 44 = .ok (.aload 7, 2) := by decide +kernel
theorem dX8_copy_46 : decode cX8_copy 46 = .ok (.invokevirtual 262, 3) := by decide +kernel
theorem dX8_copy_49 : decode cX8_copy 49 = .ok (.ifCond .eq 9, 3) := by decide +kernel
theorem dX8_copy_52 : decode cX8_copy 52 = .ok (.aload_n 0, 1) := by decide +kernel
theorem dX8_copy_53 : decode cX8_copy 53 = .ok (.iconst 5, 1) := by decide +kernel
theorem dX8_copy_54 : decode cX8_copy 54 = .ok (.invokevirtual 78, 3) := by decide +kernel
theorem dX8_copy_57 : decode cX8_copy 57 = .ok (.ireturn, 1) := by decide +kernel
theorem dX8_copy_58 : decode cX8_copy 58 = .ok (.aload 6, 2) := by decide +kernel
theorem dX8_copy_60 : decode cX8_copy 60 = .ok (.getfield 266, 3) := by decide +kernel
theorem dX8_copy_63 : decode cX8_copy 63 = .ok (.aload 7, 2) := by decide +kernel
theorem dX8_copy_65 : decode cX8_copy 65 = .ok (.getfield 266, 3) := by decide +kernel
theorem dX8_copy_68 : decode cX8_copy 68 = .ok (.if_icmp .eq 9, 3) := by decide +kernel
theorem dX8_copy_71 : decode cX8_copy 71 = .ok (.aload_n 0, 1) := by decide +kernel
theorem dX8_copy_72 : decode cX8_copy 72 = .ok (.iconst 2, 1) := by decide +kernel
theorem dX8_copy_73 : decode cX8_copy 73 = .ok (.invokevirtual 78, 3) := by decide +kernel
theorem dX8_copy_76 : decode cX8_copy 76 = .ok (.ireturn, 1) := by decide +kernel
theorem dX8_copy_77 : decode cX8_copy 77 = .ok (.aload 6, 2) := by decide +kernel
theorem dX8_copy_79 : decode cX8_copy 79 = .ok (.iload_n 2, 1) := by decide +kernel
theorem dX8_copy_80 : decode cX8_copy 80 = .ok (.iload 5, 2) := by decide +kernel
theorem dX8_copy_82 : decode cX8_copy 82 = .ok (.invokevirtual 269, 3) := by decide +kernel
theorem dX8_copy_85 : decode cX8_copy 85 = .ok (.ifCond .eq 15, 3) := by decide +kernel
theorem dX8_copy_88 : decode cX8_copy 88 = .ok (.aload 7, 2) := by decide +kernel
theorem dX8_copy_90 : decode cX8_copy 90 = .ok (.iload 4, 2) := by decide +kernel
theorem dX8_copy_92 : decode cX8_copy 92 = .ok (.iload 5, 2) := by decide +kernel
theorem dX8_copy_94 : decode cX8_copy 94 = .ok (.invokevirtual 269, 3) := by decide +kernel
theorem dX8_copy_97 : decode cX8_copy 97 = .ok (.ifCond .ne 9, 3) := by decide +kernel
theorem dX8_copy_100 : decode cX8_copy 100 = .ok (.aload_n 0, 1) := by decide +kernel
theorem dX8_copy_101 : decode cX8_copy 101 = .ok (.iconst 0, 1) := by decide +kernel
theorem dX8_copy_102 : decode cX8_copy 102 = .ok (.invokevirtual 78, 3) := by decide +kernel
theorem dX8_copy_105 : decode cX8_copy 105 = .ok (.ireturn, 1) := by decide +kernel
theorem dX8_copy_106 : decode cX8_copy 106 = .ok (.aload 6, 2) := by decide +kernel
theorem dX8_copy_108 : decode cX8_copy 108 = .ok (.getfield 273, 3) := by decide +kernel
theorem dX8_copy_111 : decode cX8_copy 111 = .ok (.iload_n 2, 1) := by decide +kernel
theorem dX8_copy_112 : decode cX8_copy 112 = .ok (.aload 7, 2) := by decide +kernel
theorem dX8_copy_114 : decode cX8_copy 114 = .ok (.getfield 273, 3) := by decide +kernel
theorem dX8_copy_117 : decode cX8_copy 117 = .ok (.iload 4, 2) := by decide +kernel
theorem dX8_copy_119 : decode cX8_copy 119 = .ok (.iload 5, 2) := by decide +kernel
theorem dX8_copy_121 : decode cX8_copy 121 = .ok (.invokestatic 276, 3) := by decide +kernel
theorem dX8_copy_124 : decode cX8_copy 124 = .ok (.iload 5, 2) := by decide +kernel
theorem dX8_copy_126 : decode cX8_copy 126 = .ok (.ireturn, 1) := by decide +kernel
theorem dX8_load_0 : decode cX8_load 0 = .ok (.iload_n 1, 1) := by decide +kernel
theorem dX8_load_1 : decode cX8_load 1 = .ok (.invokestatic 255, 3) := by decide +kernel
theorem dX8_load_4 : decode cX8_load 4 = .ok (.ifCond .ne 9, 3) := by decide +kernel
theorem dX8_load_7 : decode cX8_load 7 = .ok (.aload_n 0, 1) := by decide +kernel
theorem dX8_load_8 : decode cX8_load 8 = .ok (.iconst 0, 1) := by decide +kernel
theorem dX8_load_9 : decode cX8_load 9 = .ok (.invokevirtual 78, 3) := by decide +kernel
theorem dX8_load_12 : decode cX8_load 12 = .ok (.ireturn, 1) := by decide +kernel
theorem dX8_load_13 : decode cX8_load 13 = .ok (.aload_n 0, 1) := by decide +kernel
theorem dX8_load_14 : decode cX8_load 14 = .ok (.getfield 61, 3) := by decide +kernel
theorem dX8_load_17 : decode cX8_load 17 = .ok (.iload_n 1, 1) := by decide +kernel
theorem dX8_load_18 : decode cX8_load 18 = .ok (.aaload, 1) := by decide +kernel
theorem dX8_load_19 : decode cX8_load 19 = .ok (.astore_n 3, 1) := by decide +kernel
theorem dX8_load_20 : decode cX8_load 20 = .ok (.aload_n 3, 1) := by decide +kernel
theorem dX8_load_21 : decode cX8_load 21 = .ok (.invokevirtual 262, 3) := by decide +kernel
theorem dX8_load_24 : decode cX8_load 24 = .ok (.ifCond .eq 9, 3) := by decide +kernel
theorem dX8_load_27 : decode cX8_load 27 = .ok (.aload_n 0, 1) := by decide +kernel
theorem dX8_load_28 : decode cX8_load 28 = .ok (.iconst 5, 1) := by decide +kernel
theorem dX8_load_29 : decode cX8_load 29 = .ok (.invokevirtual 78, 3) := by decide +kernel
theorem dX8_load_32 : decode cX8_load 32 = .ok (.ireturn, 1) := by decide +kernel
theorem dX8_load_33 : decode cX8_load 33 = .ok (.aload_n 0, 1) := by decide +kernel
theorem dX8_load_34 : decode cX8_load 34 = .ok (.iload_n 2, 1) := by decide +kernel
theorem dX8_load_35 : decode cX8_load 35 = .ok (.invokevirtual 96, 3) := by decide +kernel
theorem dX8_load_38 : decode cX8_load 38 = .ok (.ifCond .ne 9, 3) := by decide +kernel
theorem dX8_load_41 : decode cX8_load 41 = .ok (.aload_n 0, 1) := by decide +kernel
theorem dX8_load_42 : decode cX8_load 42 = .ok (.iconst 0, 1) := by decide +kernel
theorem dX8_load_43 : decode cX8_load 43 = .ok (.invokevirtual 78, 3) := by decide +kernel
theorem dX8_load_46 : decode cX8_load 46 = .ok (.ireturn, 1) := by decide +kernel
theorem dX8_load_47 : decode cX8_load 47 = .ok (.aload_n 3, 1) := by decide +kernel
theorem dX8_load_48 : decode cX8_load 48 = .ok (.getfield 261, 3) := by decide +kernel
theorem dX8_load_51 : decode cX8_load 51 = .ok (.bipush 30, 2) := by decide +kernel
theorem dX8_load_53 : decode cX8_load 53 = .ok (.invokestatic 282, 3) := by decide +kernel
theorem dX8_load_56 : decode cX8_load 56 = .ok (.istore 4, 2) := by decide +kernel
theorem dX8_load_58 : decode cX8_load 58 = .ok (.iconst 0, 1) := by decide +kernel
theorem dX8_load_59 : decode cX8_load 59 = .ok (.istore 5, 2) := by decide +kernel
