theorem dX9_dropping_47 : decode cX9_dropping 47 = .ok (.iadd, 1) := by decide +kernel
theorem dX9_dropping_48 : decode cX9_dropping 48 = .ok (.iload_n 3, 1) := by decide +kernel
theorem dX9_dropping_49 : decode cX9_dropping 49 = .ok (.iconst 1, 1) := by decide +kernel
theorem dX9_dropping_50 : decode cX9_dropping 50 = .ok (.isub, 1) := by decide +kernel
theorem dX9_dropping_51 : decode cX9_dropping 51 = .ok (.iload 4, 2) := by decide +kernel
theorem dX9_dropping_53 : decode cX9_dropping 53 = .ok (.iload 5, 2) := by decide +kernel
theorem dX9_dropping_55 : decode cX9_dropping 55 = .ok (.ifCond .le 10, 3) := by decide +kernel
theorem dX9_dropping_58 : decode cX9_dropping 58 = .ok (.iload 5, 2) := by decide +kernel
theorem dX9_dropping_60 : decode cX9_dropping 60 = .ok (.iconst 1, 1) := by decide +kernel
theorem dX9_dropping_61 : decode cX9_dropping 61 = .ok (.isub, 1) := by decide +kernel
theorem dX9_dropping_62 : decode cX9_dropping 62 = .ok (.goto 4, 3) := by decide +kernel
theorem dX9_dropping_65 : decode cX9_dropping 65 = .ok (.iconst 0, 1) := by decide +kernel
theorem dX9_dropping_66 : decode cX9_dropping 66 = .ok (.invokevirtual 189, 3) := by decide +kernel
theorem dX9_dropping_69 : decode cX9_dropping 69 = .ok (.lmul, 1) := by decide +kernel
theorem dX9_dropping_70 : decode cX9_dropping 70 = .ok (.lstore 7, 2) := by decide +kernel
theorem dX9_dropping_72 : decode cX9_dropping 72 = .ok (.iload 6, 2) := by decide +kernel
theorem dX9_dropping_74 : decode cX9_dropping 74 = .ok (.ifCond .ne 8, 3) := by decide +kernel
theorem dX9_dropping_77 : decode cX9_dropping 77 = .ok (.lload 7, 2) := by decide +kernel
theorem dX9_dropping_79 : decode cX9_dropping 79 = .ok (.goto 26, 3) := by decide +kernel
theorem dX9_dropping_82 : decode cX9_dropping 82 = .ok (.lload 7, 2) := by decide +kernel
theorem dX9_dropping_84 : decode cX9_dropping 84 = .ok (.iload 6, 2) := by decide +kernel
theorem dX9_dropping_86 : decode cX9_dropping 86 = .ok (.i2l, 1) := by decide +kernel
theorem dX9_dropping_87 : decode cX9_dropping 87 = .ok (.aload_n 0, 1) := by decide +kernel
theorem dX9_dropping_88 : decode cX9_dropping 88 = .ok (.iload_n 1, 1) := by decide +kernel
theorem dX9_dropping_89 : decode cX9_dropping 89 = .ok (.iload_n 2, 1) := by decide +kernel
theorem dX9_dropping_90 : decode cX9_dropping 90 = .ok (.iconst 1, 1) := by decide +kernel
theorem dX9_dropping_91 : decode cX9_dropping 91 = .ok (.iadd, 1) := by decide +kernel
theorem dX9_dropping_92 : decode cX9_dropping 92 = .ok (.iload_n 3, 1) := by decide +kernel
theorem dX9_dropping_93 : decode cX9_dropping 93 = .ok (.iconst 1, 1) := by decide +kernel
theorem dX9_dropping_94 : decode cX9_dropping 94 = .ok (.isub, 1) := by decide +kernel
theorem dX9_dropping_95 : decode cX9_dropping 95 = .ok (.iload 4, 2) := by decide +kernel
theorem dX9_dropping_97 : decode cX9_dropping 97 = .ok (.iconst 1, 1) := by decide +kernel
theorem dX9_dropping_98 : decode cX9_dropping 98 = .ok (.isub, 1) := by decide +kernel
theorem dX9_dropping_99 : decode cX9_dropping 99 = .ok (.iconst 3, 1) := by decide +kernel
theorem dX9_dropping_100 : decode cX9_dropping 100 = .ok (.invokevirtual 189, 3) := by decide +kernel
theorem dX9_dropping_103 : decode cX9_dropping 103 = .ok (.lmul, 1) := by decide +kernel
theorem dX9_dropping_104 : decode cX9_dropping 104 = .ok (.ladd, 1) := by decide +kernel
theorem dX9_dropping_105 : decode cX9_dropping 105 = .ok (.lreturn, 1) := by decide +kernel
theorem dX9_drops_0 : decode cX9_drops 0 = .ok (.aload_n 0, 1) := by decide +kernel
theorem dX9_drops_1 : decode cX9_drops 1 = .ok (.iload_n 1, 1) := by decide +kernel
theorem dX9_drops_2 : decode cX9_drops 2 = .ok (.iload_n 2, 1) := by decide +kernel
theorem dX9_drops_3 : decode cX9_drops 3 = .ok (.iload_n 3, 1) := by decide +kernel
theorem dX9_drops_4 : decode cX9_drops 4 = .ok (.bipush 10, 2) := by decide +kernel
theorem dX9_drops_6 : decode cX9_drops 6 = .ok (.invokevirtual 181, 3) := by decide +kernel
theorem dX9_drops_9 : decode cX9_drops 9 = .ok (.ifCond .eq 28, 3) := by decide +kernel
theorem dX9_drops_12 : decode cX9_drops 12 = .ok (.iload 4, 2) := by decide +kernel
theorem dX9_drops_14 : decode cX9_drops 14 = .ok (.i2l, 1) := by decide +kernel
theorem dX9_drops_15 : decode cX9_drops 15 = .ok (.lconst 0, 1) := by decide +kernel
theorem dX9_drops_16 : decode cX9_drops 16 = .ok (.iload_n 3, 1) := by decide +kernel
theorem dX9_drops_17 : decode cX9_drops 17 = .ok (.i2l, 1) := by decide +kernel
theorem dX9_drops_18 : decode cX9_drops 18 = .ok (.invokestatic 54, 3) := by decide +kernel
theorem dX9_drops_21 : decode cX9_drops 21 = .ok (.ifCond .eq 16, 3) := by decide +kernel
theorem dX9_drops_24 : decode cX9_drops 24 = .ok (.aload_n 0, 1) := by decide +kernel
theorem dX9_drops_25 : decode cX9_drops 25 = .ok (.iload_n 1, 1) := by decide +kernel
theorem dX9_drops_26 : decode cX9_drops 26 = .ok (.iload_n 2, 1) := by decide +kernel
theorem dX9_drops_27 : decode cX9_drops 27 = .ok (.iload_n 3, 1) := by decide +kernel
theorem dX9_drops_28 : decode cX9_drops 28 = .ok (.iload 4, 2) := by decide +kernel
theorem dX9_drops_30 : decode cX9_drops 30 = .ok (.iconst 0, 1) := by decide +kernel
theorem dX9_drops_31 : decode cX9_drops 31 = .ok (.invokevirtual 189, 3) := by decide +kernel
theorem dX9_drops_34 : decode cX9_drops 34 = .ok (.goto 10, 3) := by decide +kernel
theorem dX9_drops_37 : decode cX9_drops 37 = .ok (.aload_n 0, 1) := by decide +kernel
theorem dX9_drops_38 : decode cX9_drops 38 = .ok (.ldc 46, 2) := by decide +kernel
theorem dX9_drops_40 : decode cX9_drops 40 = .ok (.invokevirtual 48, 3) := by decide +kernel
theorem dX9_drops_43 : decode cX9_drops 43 = .ok (.i2l, 1) := by decide +kernel
theorem dX9_drops_44 : decode cX9_drops 44 = .ok (.lreturn, 1) := by decide +kernel
theorem dX9_behind_0 : decode cX9_behind 0 = .ok (.aload_n 0, 1) := by decide +kernel
theorem dX9_behind_1 : decode cX9_behind 1 = .ok (.iload_n 1, 1) := by decide +kernel
theorem dX9_behind_2 : decode cX9_behind 2 = .ok (.iload_n 2, 1) := by decide +kernel
theorem dX9_behind_3 : decode cX9_behind 3 = .ok (.iload 4, 2) := by decide +kernel
theorem dX9_behind_5 : decode cX9_behind 5 = .ok (.iload_n 3, 1) := by decide +kernel
theorem dX9_behind_6 : decode cX9_behind 6 = .ok (.ifCond .le 7, 3) := by decide +kernel
theorem dX9_behind_9 : decode cX9_behind 9 = .ok (.iconst 1, 1) := by decide +kernel
theorem dX9_behind_10 : decode cX9_behind 10 = .ok (.goto 4, 3) := by decide +kernel
theorem dX9_behind_13 : decode cX9_behind 13 = .ok (.iconst 0, 1) := by decide +kernel
theorem dX9_behind_14 : decode cX9_behind 14 = .ok (.iconst 0, 1) := by decide +kernel
theorem dX9_behind_15 : decode cX9_behind 15 = .ok (.invokevirtual 122, 3) := by decide +kernel
theorem dX9_behind_18 : decode cX9_behind 18 = .ok (.istore 5, 2) := by decide +kernel
theorem dX9_behind_20 : decode cX9_behind 20 = .ok (.iconst 4, 1) := by decide +kernel
theorem dX9_behind_21 : decode cX9_behind 21 = .ok (.iload_n 2, 1) := by decide +kernel
theorem dX9_behind_22 : decode cX9_behind 22 = .ok (.iconst 1, 1) := by decide +kernel
theorem dX9_behind_23 : decode cX9_behind 23 = .ok (.iadd, 1) := by decide +kernel
theorem dX9_behind_24 : decode cX9_behind 24 = .ok (.imul, 1) := by decide +kernel
theorem dX9_behind_25 : decode cX9_behind 25 = .ok (.istore 6, 2) := by decide +kernel
theorem dX9_behind_27 : decode cX9_behind 27 = .ok (.aload_n 0, 1) := by decide +kernel
theorem dX9_behind_28 : decode cX9_behind 28 = .ok (.getfield 22, 3) := by decide +kernel
theorem dX9_behind_31 : decode cX9_behind 31 = .ok (.iload 6, 2) := by decide +kernel
theorem dX9_behind_33 : decode cX9_behind 33 = .ok (.iload_n 3, 1) := by decide +kernel
theorem dX9_behind_34 : decode cX9_behind 34 = .ok (.ifCond .le 9, 3) := by decide +kernel
theorem dX9_behind_37 : decode cX9_behind 37 = .ok (.iload_n 3, 1) := by decide +kernel
theorem dX9_behind_38 : decode cX9_behind 38 = .ok (.iconst 1, 1) := by decide +kernel
theorem dX9_behind_39 : decode cX9_behind 39 = .ok (.isub, 1) := by decide +kernel
theorem dX9_behind_40 : decode cX9_behind 40 = .ok (.goto 4, 3) := by decide +kernel
theorem dX9_behind_43 : decode cX9_behind 43 = .ok (.iconst 0, 1) := by decide +kernel
theorem dX9_behind_44 : decode cX9_behind 44 = .ok (.iadd, 1) := by decide +kernel
theorem dX9_behind_45 : decode cX9_behind 45 = .ok (.iaload, 1) := by decide +kernel
theorem dX9_behind_46 : decode cX9_behind 46 = .ok (.istore 7, 2) := by decide +kernel
theorem dX9_behind_48 : decode cX9_behind 48 = .ok (.sipush 1000, 3) := by decide +kernel
theorem dX9_behind_51 : decode cX9_behind 51 = .ok (.aload_n 0, 1) := by decide +kernel
theorem dX9_behind_52 : decode cX9_behind 52 = .ok (.iload_n 1, 1) := by decide +kernel
theorem dX9_behind_53 : decode cX9_behind 53 = .ok (.iload 4, 2) := by decide +kernel
theorem dX9_behind_55 : decode cX9_behind 55 = .ok (.invokevirtual 119, 3) := by decide +kernel
theorem dX9_behind_58 : decode cX9_behind 58 = .ok (.imul, 1) := by decide +kernel
theorem dX9_behind_59 : decode cX9_behind 59 = .ok (.bipush 24, 2) := by decide +kernel
theorem dX9_behind_61 : decode cX9_behind 61 = .ok (.iload 5, 2) := by decide +kernel
theorem dX9_behind_63 : decode cX9_behind 63 = .ok (.isub, 1) := by decide +kernel
theorem dX9_behind_64 : decode cX9_behind 64 = .ok (.iload 7, 2) := by decide +kernel
theorem dX9_behind_66 : decode cX9_behind 66 = .ok (.imul, 1) := by decide +kernel
theorem dX9_behind_67 : decode cX9_behind 67 = .ok (.iload 5, 2) := by decide +kernel
theorem dX9_behind_69 : decode cX9_behind 69 = .ok (.sipush 1000, 3) := by decide +kernel
theorem dX9_behind_72 : decode cX9_behind 72 = .ok (.aload_n 0, 1) := by decide +kernel
theorem dX9_behind_73 : decode cX9_behind 73 = .ok (.getfield 9, 3) := by decide +kernel
theorem dX9_behind_76 : decode cX9_behind 76 = .ok (.iconst 0, 1) := by decide +kernel
theorem dX9_behind_77 : decode cX9_behind 77 = .ok (.iaload, 1) := by decide +kernel
theorem dX9_behind_78 : decode cX9_behind 78 = .ok (.imul, 1) := by decide +kernel
theorem dX9_behind_79 : decode cX9_behind 79 = .ok (.aload_n 0, 1) := by decide +kernel
theorem dX9_behind_80 : decode cX9_behind 80 = .ok (.getfield 22, 3) := by decide +kernel
theorem dX9_behind_83 : decode cX9_behind 83 = .ok (.iload 6, 2) := by decide +kernel
theorem dX9_behind_85 : decode cX9_behind 85 = .ok (.iconst 3, 1) := by decide +kernel
theorem dX9_behind_86 : decode cX9_behind 86 = .ok (.iadd, 1) := by decide +kernel
theorem dX9_behind_87 : decode cX9_behind 87 = .ok (.iaload, 1) := by decide +kernel
theorem dX9_behind_88 : decode cX9_behind 88 = .ok (.iadd, 1) := by decide +kernel
theorem dX9_behind_89 : decode cX9_behind 89 = .ok (.imul, 1) := by decide +kernel
theorem dX9_behind_90 : decode cX9_behind 90 = .ok (.iadd, 1) := by decide +kernel
theorem dX9_behind_91 : decode cX9_behind 91 = .ok (.bipush 24, 2) := by decide +kernel
theorem dX9_behind_93 : decode cX9_behind 93 = .ok (.idiv, 1) := by decide +kernel
theorem dX9_behind_94 : decode cX9_behind 94 = .ok (.iadd, 1) := by decide +kernel
theorem dX9_behind_95 : decode cX9_behind 95 = .ok (.ireturn, 1) := by decide +kernel
theorem dX9_means_0 : decode cX9_means 0 = .ok (.iconst 0, 1) := by decide +kernel
theorem dX9_means_1 : decode cX9_means 1 = .ok (.istore 4, 2) := by decide +kernel
theorem dX9_means_3 : decode cX9_means 3 = .ok (.iload 4, 2) := by decide +kernel
theorem dX9_means_5 : decode cX9_means 5 = .ok (.iconst 4, 1) := by decide +kernel
theorem dX9_means_6 : decode cX9_means 6 = .ok (.if_icmp .ge 21, 3) := by decide +kernel
theorem dX9_means_9 : decode cX9_means 9 = .ok (.aload_n 0, 1) := by decide +kernel
theorem dX9_means_10 : decode cX9_means 10 = .ok (.getfield 22, 3) := by decide +kernel
theorem dX9_means_13 : decode cX9_means 13 = .ok (.iconst 4, 1) := by decide +kernel
theorem dX9_means_14 : decode cX9_means 14 = .ok (.iload_n 2, 1) := by decide +kernel
theorem dX9_means_15 : decode cX9_means 15 = .ok (.imul, 1) := by decide +kernel
theorem dX9_means_16 : decode cX9_means 16 = .ok (.iload 4, 2) := by decide +kernel
theorem dX9_means_18 : decode cX9_means 18 = .ok (.iadd, 1) := by decide +kernel
theorem dX9_means_19 : decode cX9_means 19 = .ok (.iconst 0, 1) := by decide +kernel
theorem dX9_means_20 : decode cX9_means 20 = .ok (.iastore, 1) := by decide +kernel
theorem dX9_means_21 : decode cX9_means 21 = .ok (.iinc 4 1, 3) := by decide +kernel
theorem dX9_means_24 : decode cX9_means 24 = .ok (.goto (-21), 3) := by decide +kernel
theorem dX9_means_27 : decode cX9_means 27 = .ok (.iload_n 2, 1) := by decide +kernel
theorem dX9_means_28 : decode cX9_means 28 = .ok (.iconst 1, 1) := by decide +kernel
theorem dX9_means_29 : decode cX9_means 29 = .ok (.isub, 1) := by decide +kernel
theorem dX9_means_30 : decode cX9_means 30 = .ok (.istore 4, 2) := by decide +kernel
theorem dX9_means_32 : decode cX9_means 32 = .ok (.iload 4, 2) := by decide +kernel
theorem dX9_means_34 : decode cX9_means 34 = .ok (.ifCond .lt 130, 3) := by decide +kernel
theorem dX9_means_37 : decode cX9_means 37 = .ok (.iconst 0, 1) := by decide +kernel
theorem dX9_means_38 : decode cX9_means 38 = .ok (.istore 5, 2) := by decide +kernel
theorem dX9_means_40 : decode cX9_means 40 = .ok (.iload 5, 2) := by decide +kernel
theorem dX9_means_42 : decode cX9_means 42 = .ok (.iconst 4, 1) := by decide +kernel
theorem dX9_means_43 : decode cX9_means 43 = .ok (.if_icmp .ge 115, 3) := by decide +kernel
theorem dX9_means_46 : decode cX9_means 46 = .ok (.aload_n 0, 1) := by decide +kernel
theorem dX9_means_47 : decode cX9_means 47 = .ok (.iload_n 1, 1) := by decide +kernel
theorem dX9_means_48 : decode cX9_means 48 = .ok (.iload 4, 2) := by decide +kernel
theorem dX9_means_50 : decode cX9_means 50 = .ok (.invokevirtual 110, 3) := by decide +kernel
theorem dX9_means_53 : decode cX9_means 53 = .ok (.istore 6, 2) := by decide +kernel
theorem dX9_means_55 : decode cX9_means 55 = .ok (.iconst 1, 1) := by decide +kernel
theorem dX9_means_56 : decode cX9_means 56 = .ok (.istore 7, 2) := by decide +kernel
theorem dX9_means_58 : decode cX9_means 58 = .ok (.iload 7, 2) := by decide +kernel
theorem dX9_means_60 : decode cX9_means 60 = .ok (.bipush 9, 2) := by decide +kernel
theorem dX9_means_62 : decode cX9_means 62 = .ok (.if_icmp .gt 53, 3) := by decide +kernel
theorem dX9_means_65 : decode cX9_means 65 = .ok (.iload_n 3, 1) := by decide +kernel
theorem dX9_means_66 : decode cX9_means 66 = .ok (.ifCond .eq 49, 3) := by decide +kernel
theorem dX9_means_69 : decode cX9_means 69 = .ok (.iload 7, 2) := by decide +kernel
theorem dX9_means_71 : decode cX9_means 71 = .ok (.iconst 1, 1) := by decide +kernel
theorem dX9_means_72 : decode cX9_means 72 = .ok (.if_icmp .eq 28, 3) := by decide +kernel
theorem dX9_means_75 : decode cX9_means 75 = .ok (.aload_n 0, 1) := by decide +kernel
theorem dX9_means_76 : decode cX9_means 76 = .ok (.iload_n 1, 1) := by decide +kernel
theorem dX9_means_77 : decode cX9_means 77 = .ok (.iload 4, 2) := by decide +kernel
theorem dX9_means_79 : decode cX9_means 79 = .ok (.iload 5, 2) := by decide +kernel
theorem dX9_means_81 : decode cX9_means 81 = .ok (.iload 7, 2) := by decide +kernel
theorem dX9_means_83 : decode cX9_means 83 = .ok (.invokevirtual 193, 3) := by decide +kernel
theorem dX9_means_86 : decode cX9_means 86 = .ok (.aload_n 0, 1) := by decide +kernel
theorem dX9_means_87 : decode cX9_means 87 = .ok (.iload_n 1, 1) := by decide +kernel
theorem dX9_means_88 : decode cX9_means 88 = .ok (.iload 4, 2) := by decide +kernel
theorem dX9_means_90 : decode cX9_means 90 = .ok (.iload 5, 2) := by decide +kernel
theorem dX9_means_92 : decode cX9_means 92 = .ok (.iload 6, 2) := by decide +kernel
theorem dX9_means_94 : decode cX9_means 94 = .ok (.invokevirtual 193, 3) := by decide +kernel
theorem dX9_means_97 : decode cX9_means 97 = .ok (.if_icmp .ge 8, 3) := by decide +kernel
theorem dX9_means_100 : decode cX9_means 100 = .ok (.iload 7, 2) := by decide +kernel
theorem dX9_means_102 : decode cX9_means 102 = .ok (.goto 5, 3) := by decide +kernel
theorem dX9_means_105 : decode cX9_means 105 = .ok (.iload 6, 2) := by decide +kernel
theorem dX9_means_107 : decode cX9_means 107 = .ok (.istore 6, 2) := by decide +kernel
theorem dX9_means_109 : decode cX9_means 109 = .ok (.iinc 7 1, 3) := by decide +kernel
theorem dX9_means_112 : decode cX9_means 112 = .ok (.goto (-54), 3) := by decide +kernel
theorem dX9_means_115 : decode cX9_means 115 = .ok (.aload_n 0, 1) := by decide +kernel
theorem dX9_means_116 : decode cX9_means 116 = .ok (.getfield 22, 3) := by decide +kernel
theorem dX9_means_119 : decode cX9_means 119 = .ok (.iconst 4, 1) := by decide +kernel
theorem dX9_means_120 : decode cX9_means 120 = .ok (.iload 4, 2) := by decide +kernel
theorem dX9_means_122 : decode cX9_means 122 = .ok (.imul, 1) := by decide +kernel
theorem dX9_means_123 : decode cX9_means 123 = .ok (.iload 5, 2) := by decide +kernel
theorem dX9_means_125 : decode cX9_means 125 = .ok (.iadd, 1) := by decide +kernel
theorem dX9_means_126 : decode cX9_means 126 = .ok (.aload_n 0, 1) := by decide +kernel
theorem dX9_means_127 : decode cX9_means 127 = .ok (.iload_n 1, 1) := by decide +kernel
theorem dX9_means_128 : decode cX9_means 128 = .ok (.iload 4, 2) := by decide +kernel
theorem dX9_means_130 : decode cX9_means 130 = .ok (.iload 5, 2) := by decide +kernel
theorem dX9_means_132 : decode cX9_means 132 = .ok (.iload 6, 2) := by decide +kernel
theorem dX9_means_134 : decode cX9_means 134 = .ok (.invokevirtual 193, 3) := by decide +kernel
theorem dX9_means_137 : decode cX9_means 137 = .ok (.iastore, 1) := by decide +kernel
theorem dX9_means_138 : decode cX9_means 138 = .ok (.aload_n 0, 1) := by decide +kernel
theorem dX9_means_139 : decode cX9_means 139 = .ok (.getfield 25, 3) := by decide +kernel
theorem dX9_means_142 : decode cX9_means 142 = .ok (.iconst 4, 1) := by decide +kernel
theorem dX9_means_143 : decode cX9_means 143 = .ok (.iload 4, 2) := by decide +kernel
theorem dX9_means_145 : decode cX9_means 145 = .ok (.imul, 1) := by decide +kernel
theorem dX9_means_146 : decode cX9_means 146 = .ok (.iload 5, 2) := by decide +kernel
theorem dX9_means_148 : decode cX9_means 148 = .ok (.iadd, 1) := by decide +kernel
theorem dX9_means_149 : decode cX9_means 149 = .ok (.iload 6, 2) := by decide +kernel
theorem dX9_means_151 : decode cX9_means 151 = .ok (.iastore, 1) := by decide +kernel
theorem dX9_means_152 : decode cX9_means 152 = .ok (.iinc 5 1, 3) := by decide +kernel
theorem dX9_means_155 : decode cX9_means 155 = .ok (.goto (-115), 3) := by decide +kernel
theorem dX9_means_158 : decode cX9_means 158 = .ok (.iinc 4 (-1), 3) := by decide +kernel
theorem dX9_means_161 : decode cX9_means 161 = .ok (.goto (-129), 3) := by decide +kernel
theorem dX9_means_164 : decode cX9_means 164 = .ok (.return_, 1) := by decide +kernel
theorem dX9_meanOf_0 : decode cX9_meanOf 0 = .ok (.aload_n 0, 1) := by decide +kernel
theorem dX9_meanOf_1 : decode cX9_meanOf 1 = .ok (.iload_n 1, 1) := by decide +kernel
theorem dX9_meanOf_2 : decode cX9_meanOf 2 = .ok (.bipush 30, 2) := by decide +kernel
theorem dX9_meanOf_4 : decode cX9_meanOf 4 = .ok (.iconst 0, 1) := by decide +kernel
theorem dX9_meanOf_5 : decode cX9_meanOf 5 = .ok (.invokevirtual 196, 3) := by decide +kernel
theorem dX9_meanOf_8 : decode cX9_meanOf 8 = .ok (.aload_n 0, 1) := by decide +kernel
theorem dX9_meanOf_9 : decode cX9_meanOf 9 = .ok (.getfield 22, 3) := by decide +kernel
theorem dX9_meanOf_12 : decode cX9_meanOf 12 = .ok (.iconst 0, 1) := by decide +kernel
theorem dX9_meanOf_13 : decode cX9_meanOf 13 = .ok (.iaload, 1) := by decide +kernel
theorem dX9_meanOf_14 : decode cX9_meanOf 14 = .ok (.ireturn, 1) := by decide +kernel
theorem dX9_isMean_0 : decode cX9_isMean 0 = .ok (.aload_n 0, 1) := by decide +kernel
theorem dX9_isMean_1 : decode cX9_isMean 1 = .ok (.iload_n 1, 1) := by decide +kernel
theorem dX9_isMean_2 : decode cX9_isMean 2 = .ok (.invokevirtual 91, 3) := by decide +kernel
theorem dX9_isMean_5 : decode cX9_isMean 5 = .ok (.ifCond .eq 31, 3) := by decide +kernel
theorem dX9_isMean_8 : decode cX9_isMean 8 = .ok (.iload_n 2, 1) := by decide +kernel
theorem dX9_isMean_9 : decode cX9_isMean 9 = .ok (.i2l, 1) := by decide +kernel
theorem dX9_isMean_10 : decode cX9_isMean 10 = .ok (.lconst 0, 1) := by decide +kernel
theorem dX9_isMean_11 : decode cX9_isMean 11 = .ok (.iload 4, 2) := by decide +kernel
theorem dX9_isMean_13 : decode cX9_isMean 13 = .ok (.i2l, 1) := by decide +kernel
theorem dX9_isMean_14 : decode cX9_isMean 14 = .ok (.invokestatic 54, 3) := by decide +kernel
theorem dX9_isMean_17 : decode cX9_isMean 17 = .ok (.ifCond .eq 19, 3) := by decide +kernel
theorem dX9_isMean_20 : decode cX9_isMean 20 = .ok (.iload_n 3, 1) := by decide +kernel
theorem dX9_isMean_21 : decode cX9_isMean 21 = .ok (.i2l, 1) := by decide +kernel
theorem dX9_isMean_22 : decode cX9_isMean 22 = .ok (.lconst 0, 1) := by decide +kernel
theorem dX9_isMean_23 : decode cX9_isMean 23 = .ok (.ldc2_w 101, 3) := by decide +kernel
theorem dX9_isMean_26 : decode cX9_isMean 26 = .ok (.invokestatic 54, 3) := by decide +kernel
theorem dX9_isMean_29 : decode cX9_isMean 29 = .ok (.ifCond .eq 7, 3) := by decide +kernel
theorem dX9_isMean_32 : decode cX9_isMean 32 = .ok (.iconst 1, 1) := by decide +kernel
theorem dX9_isMean_33 : decode cX9_isMean 33 = .ok (.goto 4, 3) := by decide +kernel
theorem dX9_isMean_36 : decode cX9_isMean 36 = .ok (.iconst 0, 1) := by decide +kernel
theorem dX9_isMean_37 : decode cX9_isMean 37 = .ok (.ireturn, 1) := by decide +kernel
theorem dX9_mean_0 : decode cX9_mean 0 = .ok (.aload_n 0, 1) := by decide +kernel
theorem dX9_mean_1 : decode cX9_mean 1 = .ok (.iload_n 1, 1) := by decide +kernel
theorem dX9_mean_2 : decode cX9_mean 2 = .ok (.iload_n 2, 1) := by decide +kernel
theorem dX9_mean_3 : decode cX9_mean 3 = .ok (.iload_n 3, 1) := by decide +kernel
theorem dX9_mean_4 : decode cX9_mean 4 = .ok (.bipush 30, 2) := by decide +kernel
theorem dX9_mean_6 : decode cX9_mean 6 = .ok (.invokevirtual 200, 3) := by decide +kernel
theorem dX9_mean_9 : decode cX9_mean 9 = .ok (.ifCond .ne 10, 3) := by decide +kernel
theorem dX9_mean_12 : decode cX9_mean 12 = .ok (.aload_n 0, 1) := by decide +kernel
theorem dX9_mean_13 : decode cX9_mean 13 = .ok (.ldc 46, 2) := by decide +kernel
theorem dX9_mean_15 : decode cX9_mean 15 = .ok (.invokevirtual 48, 3) := by decide +kernel
theorem dX9_mean_18 : decode cX9_mean 18 = .ok (.ireturn, 1) := by decide +kernel
theorem dX9_mean_19 : decode cX9_mean 19 = .ok (.aload_n 0, 1) := by decide +kernel
theorem dX9_mean_20 : decode cX9_mean 20 = .ok (.iload_n 1, 1) := by decide +kernel
theorem dX9_mean_21 : decode cX9_mean 21 = .ok (.bipush 30, 2) := by decide +kernel
theorem dX9_mean_23 : decode cX9_mean 23 = .ok (.iconst 0, 1) := by decide +kernel
theorem dX9_mean_24 : decode cX9_mean 24 = .ok (.invokevirtual 196, 3) := by decide +kernel
theorem dX9_mean_27 : decode cX9_mean 27 = .ok (.aload_n 0, 1) := by decide +kernel
theorem dX9_mean_28 : decode cX9_mean 28 = .ok (.getfield 22, 3) := by decide +kernel
theorem dX9_mean_31 : decode cX9_mean 31 = .ok (.iconst 4, 1) := by decide +kernel
theorem dX9_mean_32 : decode cX9_mean 32 = .ok (.iload_n 2, 1) := by decide +kernel
theorem dX9_mean_33 : decode cX9_mean 33 = .ok (.imul, 1) := by decide +kernel
theorem dX9_mean_34 : decode cX9_mean 34 = .ok (.iload_n 3, 1) := by decide +kernel
theorem dX9_mean_35 : decode cX9_mean 35 = .ok (.iadd, 1) := by decide +kernel
theorem dX9_mean_36 : decode cX9_mean 36 = .ok (.iaload, 1) := by decide +kernel
theorem dX9_mean_37 : decode cX9_mean 37 = .ok (.ireturn, 1) := by decide +kernel
theorem dX9_least_0 : decode cX9_least 0 = .ok (.aload_n 0, 1) := by decide +kernel
theorem dX9_least_1 : decode cX9_least 1 = .ok (.iload_n 1, 1) := by decide +kernel
theorem dX9_least_2 : decode cX9_least 2 = .ok (.iload_n 2, 1) := by decide +kernel
theorem dX9_least_3 : decode cX9_least 3 = .ok (.iload_n 3, 1) := by decide +kernel
theorem dX9_least_4 : decode cX9_least 4 = .ok (.bipush 30, 2) := by decide +kernel
theorem dX9_least_6 : decode cX9_least 6 = .ok (.invokevirtual 200, 3) := by decide +kernel
theorem dX9_least_9 : decode cX9_least 9 = .ok (.ifCond .ne 10, 3) := by decide +kernel
theorem dX9_least_12 : decode cX9_least 12 = .ok (.aload_n 0, 1) := by decide +kernel
theorem dX9_least_13 : decode cX9_least 13 = .ok (.ldc 46, 2) := by decide +kernel
theorem dX9_least_15 : decode cX9_least 15 = .ok (.invokevirtual 48, 3) := by decide +kernel
theorem dX9_least_18 : decode cX9_least 18 = .ok (.ireturn, 1) := by decide +kernel
theorem dX9_least_19 : decode cX9_least 19 = .ok (.aload_n 0, 1) := by decide +kernel
theorem dX9_least_20 : decode cX9_least 20 = .ok (.iload_n 1, 1) := by decide +kernel
theorem dX9_least_21 : decode cX9_least 21 = .ok (.bipush 30, 2) := by decide +kernel
theorem dX9_least_23 : decode cX9_least 23 = .ok (.iconst 1, 1) := by decide +kernel
theorem dX9_least_24 : decode cX9_least 24 = .ok (.invokevirtual 196, 3) := by decide +kernel
theorem dX9_least_27 : decode cX9_least 27 = .ok (.aload_n 0, 1) := by decide +kernel
theorem dX9_least_28 : decode cX9_least 28 = .ok (.getfield 22, 3) := by decide +kernel
theorem dX9_least_31 : decode cX9_least 31 = .ok (.iconst 4, 1) := by decide +kernel
theorem dX9_least_32 : decode cX9_least 32 = .ok (.iload_n 2, 1) := by decide +kernel
theorem dX9_least_33 : decode cX9_least 33 = .ok (.imul, 1) := by decide +kernel
theorem dX9_least_34 : decode cX9_least 34 = .ok (.iload_n 3, 1) := by decide +kernel
theorem dX9_least_35 : decode cX9_least 35 = .ok (.iadd, 1) := by decide +kernel
theorem dX9_least_36 : decode cX9_least 36 = .ok (.iaload, 1) := by decide +kernel
theorem dX9_least_37 : decode cX9_least 37 = .ok (.ireturn, 1) := by decide +kernel
theorem dX9_best_0 : decode cX9_best 0 = .ok (.aload_n 0, 1) := by decide +kernel
theorem dX9_best_1 : decode cX9_best 1 = .ok (.iload_n 1, 1) := by decide +kernel
theorem dX9_best_2 : decode cX9_best 2 = .ok (.iload_n 2, 1) := by decide +kernel
theorem dX9_best_3 : decode cX9_best 3 = .ok (.iload_n 3, 1) := by decide +kernel
theorem dX9_best_4 : decode cX9_best 4 = .ok (.bipush 29, 2) := by decide +kernel
theorem dX9_best_6 : decode cX9_best 6 = .ok (.invokevirtual 200, 3) := by decide +kernel
theorem dX9_best_9 : decode cX9_best 9 = .ok (.ifCond .ne 10, 3) := by decide +kernel
theorem dX9_best_12 : decode cX9_best 12 = .ok (.aload_n 0, 1) := by decide +kernel
theorem dX9_best_13 : decode cX9_best 13 = .ok (.ldc 46, 2) := by decide +kernel
theorem dX9_best_15 : decode cX9_best 15 = .ok (.invokevirtual 48, 3) := by decide +kernel
theorem dX9_best_18 : decode cX9_best 18 = .ok (.ireturn, 1) := by decide +kernel
theorem dX9_best_19 : decode cX9_best 19 = .ok (.aload_n 0, 1) := by decide +kernel
theorem dX9_best_20 : decode cX9_best 20 = .ok (.iload_n 1, 1) := by decide +kernel
theorem dX9_best_21 : decode cX9_best 21 = .ok (.bipush 30, 2) := by decide +kernel
theorem dX9_best_23 : decode cX9_best 23 = .ok (.iconst 1, 1) := by decide +kernel
theorem dX9_best_24 : decode cX9_best 24 = .ok (.invokevirtual 196, 3) := by decide +kernel
theorem dX9_best_27 : decode cX9_best 27 = .ok (.aload_n 0, 1) := by decide +kernel
theorem dX9_best_28 : decode cX9_best 28 = .ok (.getfield 25, 3) := by decide +kernel
theorem dX9_best_31 : decode cX9_best 31 = .ok (.iconst 4, 1) := by decide +kernel
theorem dX9_best_32 : decode cX9_best 32 = .ok (.iload_n 2, 1) := by decide +kernel
theorem dX9_best_33 : decode cX9_best 33 = .ok (.imul, 1) := by decide +kernel
theorem dX9_best_34 : decode cX9_best 34 = .ok (.iload_n 3, 1) := by decide +kernel
theorem dX9_best_35 : decode cX9_best 35 = .ok (.iadd, 1) := by decide +kernel
theorem dX9_best_36 : decode cX9_best 36 = .ok (.iaload, 1) := by decide +kernel
theorem dX9_best_37 : decode cX9_best 37 = .ok (.ireturn, 1) := by decide +kernel
theorem dX9_train_0 : decode cX9_train 0 = .ok (.aload_n 0, 1) := by decide +kernel
theorem dX9_train_1 : decode cX9_train 1 = .ok (.iload_n 1, 1) := by decide +kernel
theorem dX9_train_2 : decode cX9_train 2 = .ok (.invokevirtual 91, 3) := by decide +kernel
theorem dX9_train_5 : decode cX9_train 5 = .ok (.ifCond .ne 10, 3) := by decide +kernel
theorem dX9_train_8 : decode cX9_train 8 = .ok (.aload_n 0, 1) := by decide +kernel
theorem dX9_train_9 : decode cX9_train 9 = .ok (.ldc 46, 2) := by decide +kernel
theorem dX9_train_11 : decode cX9_train 11 = .ok (.invokevirtual 48, 3) := by decide +kernel
theorem dX9_train_14 : decode cX9_train 14 = .ok (.ireturn, 1) := by decide +kernel
theorem dX9_train_15 : decode cX9_train 15 = .ok (.aload_n 0, 1) := by decide +kernel
theorem dX9_train_16 : decode cX9_train 16 = .ok (.iload_n 1, 1) := by decide +kernel
theorem dX9_train_17 : decode cX9_train 17 = .ok (.bipush 30, 2) := by decide +kernel
theorem dX9_train_19 : decode cX9_train 19 = .ok (.iconst 1, 1) := by decide +kernel
theorem dX9_train_20 : decode cX9_train 20 = .ok (.invokevirtual 196, 3) := by decide +kernel
theorem dX9_train_23 : decode cX9_train 23 = .ok (.iconst 0, 1) := by decide +kernel
theorem dX9_train_24 : decode cX9_train 24 = .ok (.istore_n 2, 1) := by decide +kernel
theorem dX9_train_25 : decode cX9_train 25 = .ok (.iconst 0, 1) := by decide +kernel
theorem dX9_train_26 : decode cX9_train 26 = .ok (.istore_n 3, 1) := by decide +kernel
theorem dX9_train_27 : decode cX9_train 27 = .ok (.iload_n 3, 1) := by decide +kernel
theorem dX9_train_28 : decode cX9_train 28 = .ok (.bipush 30, 2) := by decide +kernel
theorem dX9_train_30 : decode cX9_train 30 = .ok (.if_icmp .ge 52, 3) := by decide +kernel
theorem dX9_train_33 : decode cX9_train 33 = .ok (.iload_n 2, 1) := by decide +kernel
theorem dX9_train_34 : decode cX9_train 34 = .ok (.aload_n 0, 1) := by decide +kernel
theorem dX9_train_35 : decode cX9_train 35 = .ok (.bipush 33, 2) := by decide +kernel
theorem dX9_train_37 : decode cX9_train 37 = .ok (.bipush 37, 2) := by decide +kernel
theorem dX9_train_39 : decode cX9_train 39 = .ok (.iload_n 1, 1) := by decide +kernel
theorem dX9_train_40 : decode cX9_train 40 = .ok (.imul, 1) := by decide +kernel
theorem dX9_train_41 : decode cX9_train 41 = .ok (.iadd, 1) := by decide +kernel
theorem dX9_train_42 : decode cX9_train 42 = .ok (.bipush 7, 2) := by decide +kernel
theorem dX9_train_44 : decode cX9_train 44 = .ok (.iadd, 1) := by decide +kernel
theorem dX9_train_45 : decode cX9_train 45 = .ok (.iload_n 3, 1) := by decide +kernel
theorem dX9_train_46 : decode cX9_train 46 = .ok (.iadd, 1) := by decide +kernel
theorem dX9_train_47 : decode cX9_train 47 = .ok (.aload_n 0, 1) := by decide +kernel
theorem dX9_train_48 : decode cX9_train 48 = .ok (.getfield 25, 3) := by decide +kernel
theorem dX9_train_51 : decode cX9_train 51 = .ok (.iconst 4, 1) := by decide +kernel
theorem dX9_train_52 : decode cX9_train 52 = .ok (.iload_n 3, 1) := by decide +kernel
theorem dX9_train_53 : decode cX9_train 53 = .ok (.imul, 1) := by decide +kernel
theorem dX9_train_54 : decode cX9_train 54 = .ok (.iaload, 1) := by decide +kernel
theorem dX9_train_55 : decode cX9_train 55 = .ok (.invokevirtual 72, 3) := by decide +kernel
theorem dX9_train_58 : decode cX9_train 58 = .ok (.aload_n 0, 1) := by decide +kernel
theorem dX9_train_59 : decode cX9_train 59 = .ok (.getfield 25, 3) := by decide +kernel
theorem dX9_train_62 : decode cX9_train 62 = .ok (.iconst 4, 1) := by decide +kernel
theorem dX9_train_63 : decode cX9_train 63 = .ok (.iload_n 3, 1) := by decide +kernel
theorem dX9_train_64 : decode cX9_train 64 = .ok (.imul, 1) := by decide +kernel
theorem dX9_train_65 : decode cX9_train 65 = .ok (.iaload, 1) := by decide +kernel
theorem dX9_train_66 : decode cX9_train 66 = .ok (.if_icmp .ne 7, 3) := by decide +kernel
theorem dX9_train_69 : decode cX9_train 69 = .ok (.iconst 0, 1) := by decide +kernel
theorem dX9_train_70 : decode cX9_train 70 = .ok (.goto 4, 3) := by decide +kernel
theorem dX9_train_73 : decode cX9_train 73 = .ok (.iconst 1, 1) := by decide +kernel
theorem dX9_train_74 : decode cX9_train 74 = .ok (.iadd, 1) := by decide +kernel
theorem dX9_train_75 : decode cX9_train 75 = .ok (.istore_n 2, 1) := by decide +kernel
theorem dX9_train_76 : decode cX9_train 76 = .ok (.iinc 3 1, 3) := by decide +kernel
theorem dX9_train_79 : decode cX9_train 79 = .ok (.goto (-52), 3) := by decide +kernel
theorem dX9_train_82 : decode cX9_train 82 = .ok (.iload_n 2, 1) := by decide +kernel
theorem dX9_train_83 : decode cX9_train 83 = .ok (.ireturn, 1) := by decide +kernel
theorem dX9_even_0 : decode cX9_even 0 = .ok (.aload_n 0, 1) := by decide +kernel
theorem dX9_even_1 : decode cX9_even 1 = .ok (.iload_n 1, 1) := by decide +kernel
theorem dX9_even_2 : decode cX9_even 2 = .ok (.invokevirtual 91, 3) := by decide +kernel
theorem dX9_even_5 : decode cX9_even 5 = .ok (.ifCond .ne 10, 3) := by decide +kernel
theorem dX9_even_8 : decode cX9_even 8 = .ok (.aload_n 0, 1) := by decide +kernel
theorem dX9_even_9 : decode cX9_even 9 = .ok (.ldc 46, 2) := by decide +kernel
theorem dX9_even_11 : decode cX9_even 11 = .ok (.invokevirtual 48, 3) := by decide +kernel
theorem dX9_even_14 : decode cX9_even 14 = .ok (.ireturn, 1) := by decide +kernel
theorem dX9_even_15 : decode cX9_even 15 = .ok (.aload_n 0, 1) := by decide +kernel
theorem dX9_even_16 : decode cX9_even 16 = .ok (.getfield 9, 3) := by decide +kernel
theorem dX9_even_19 : decode cX9_even 19 = .ok (.aload_n 0, 1) := by decide +kernel
theorem dX9_even_20 : decode cX9_even 20 = .ok (.getfield 16, 3) := by decide +kernel
theorem dX9_even_23 : decode cX9_even 23 = .ok (.invokestatic 166, 3) := by decide +kernel
theorem dX9_even_26 : decode cX9_even 26 = .ok (.iconst 0, 1) := by decide +kernel
theorem dX9_even_27 : decode cX9_even 27 = .ok (.istore_n 2, 1) := by decide +kernel
theorem dX9_even_28 : decode cX9_even 28 = .ok (.iconst 0, 1) := by decide +kernel
theorem dX9_even_29 : decode cX9_even 29 = .ok (.istore_n 3, 1) := by decide +kernel
theorem dX9_even_30 : decode cX9_even 30 = .ok (.iconst 1, 1) := by decide +kernel
theorem dX9_even_31 : decode cX9_even 31 = .ok (.istore 4, 2) := by decide +kernel
theorem dX9_even_33 : decode cX9_even 33 = .ok (.iload 4, 2) := by decide +kernel
theorem dX9_even_35 : decode cX9_even 35 = .ok (.bipush 9, 2) := by decide +kernel
theorem dX9_even_37 : decode cX9_even 37 = .ok (.if_icmp .gt 63, 3) := by decide +kernel
theorem dX9_even_40 : decode cX9_even 40 = .ok (.iconst 0, 1) := by decide +kernel
theorem dX9_even_41 : decode cX9_even 41 = .ok (.istore 5, 2) := by decide +kernel
theorem dX9_even_43 : decode cX9_even 43 = .ok (.iload 5, 2) := by decide +kernel
theorem dX9_even_45 : decode cX9_even 45 = .ok (.bipush 30, 2) := by decide +kernel
theorem dX9_even_47 : decode cX9_even 47 = .ok (.if_icmp .ge 21, 3) := by decide +kernel
theorem dX9_even_50 : decode cX9_even 50 = .ok (.aload_n 0, 1) := by decide +kernel
theorem dX9_even_51 : decode cX9_even 51 = .ok (.iload_n 1, 1) := by decide +kernel
theorem dX9_even_52 : decode cX9_even 52 = .ok (.bipush 7, 2) := by decide +kernel
theorem dX9_even_54 : decode cX9_even 54 = .ok (.iload 5, 2) := by decide +kernel
theorem dX9_even_56 : decode cX9_even 56 = .ok (.iadd, 1) := by decide +kernel
theorem dX9_even_57 : decode cX9_even 57 = .ok (.iload 4, 2) := by decide +kernel
theorem dX9_even_59 : decode cX9_even 59 = .ok (.invokevirtual 77, 3) := by decide +kernel
theorem dX9_even_62 : decode cX9_even 62 = .ok (.iinc 5 1, 3) := by decide +kernel
theorem dX9_even_65 : decode cX9_even 65 = .ok (.goto (-22), 3) := by decide +kernel
theorem dX9_even_68 : decode cX9_even 68 = .ok (.aload_n 0, 1) := by decide +kernel
theorem dX9_even_69 : decode cX9_even 69 = .ok (.iload_n 1, 1) := by decide +kernel
theorem dX9_even_70 : decode cX9_even 70 = .ok (.invokevirtual 203, 3) := by decide +kernel
theorem dX9_even_73 : decode cX9_even 73 = .ok (.istore 5, 2) := by decide +kernel
theorem dX9_even_75 : decode cX9_even 75 = .ok (.iload_n 2, 1) := by decide +kernel
theorem dX9_even_76 : decode cX9_even 76 = .ok (.ifCond .le 12, 3) := by decide +kernel
theorem dX9_even_79 : decode cX9_even 79 = .ok (.iload 5, 2) := by decide +kernel
theorem dX9_even_81 : decode cX9_even 81 = .ok (.iload_n 3, 1) := by decide +kernel
theorem dX9_even_82 : decode cX9_even 82 = .ok (.if_icmp .lt 6, 3) := by decide +kernel
theorem dX9_even_85 : decode cX9_even 85 = .ok (.goto 9, 3) := by decide +kernel
theorem dX9_even_88 : decode cX9_even 88 = .ok (.iload 4, 2) := by decide +kernel
theorem dX9_even_90 : decode cX9_even 90 = .ok (.istore_n 2, 1) := by decide +kernel
theorem dX9_even_91 : decode cX9_even 91 = .ok (.iload 5, 2) := by decide +kernel
theorem dX9_even_93 : decode cX9_even 93 = .ok (.istore_n 3, 1) := by decide +kernel
theorem dX9_even_94 : decode cX9_even 94 = .ok (.iinc 4 1, 3) := by decide +kernel
theorem dX9_even_97 : decode cX9_even 97 = .ok (.goto (-64), 3) := by decide +kernel
theorem dX9_even_100 : decode cX9_even 100 = .ok (.aload_n 0, 1) := by decide +kernel
theorem dX9_even_101 : decode cX9_even 101 = .ok (.getfield 16, 3) := by decide +kernel
theorem dX9_even_104 : decode cX9_even 104 = .ok (.aload_n 0, 1) := by decide +kernel
theorem dX9_even_105 : decode cX9_even 105 = .ok (.getfield 9, 3) := by decide +kernel
theorem dX9_even_108 : decode cX9_even 108 = .ok (.invokestatic 166, 3) := by decide +kernel
theorem dX9_even_111 : decode cX9_even 111 = .ok (.iload_n 2, 1) := by decide +kernel
theorem dX9_even_112 : decode cX9_even 112 = .ok (.ireturn, 1) := by decide +kernel
theorem dX9_costs_0 : decode cX9_costs 0 = .ok (.aload_n 0, 1) := by decide +kernel
theorem dX9_costs_1 : decode cX9_costs 1 = .ok (.iload_n 1, 1) := by decide +kernel
theorem dX9_costs_2 : decode cX9_costs 2 = .ok (.invokevirtual 91, 3) := by decide +kernel
theorem dX9_costs_5 : decode cX9_costs 5 = .ok (.ifCond .eq 10, 3) := by decide +kernel
theorem dX9_costs_8 : decode cX9_costs 8 = .ok (.iload_n 2, 1) := by decide +kernel
theorem dX9_costs_9 : decode cX9_costs 9 = .ok (.invokestatic 66, 3) := by decide +kernel
theorem dX9_costs_12 : decode cX9_costs 12 = .ok (.ifCond .ne 10, 3) := by decide +kernel
theorem dX9_costs_15 : decode cX9_costs 15 = .ok (.aload_n 0, 1) := by decide +kernel
theorem dX9_costs_16 : decode cX9_costs 16 = .ok (.ldc 46, 2) := by decide +kernel
theorem dX9_costs_18 : decode cX9_costs 18 = .ok (.invokevirtual 48, 3) := by decide +kernel
theorem dX9_costs_21 : decode cX9_costs 21 = .ok (.ireturn, 1) := by decide +kernel
theorem dX9_costs_22 : decode cX9_costs 22 = .ok (.aload_n 0, 1) := by decide +kernel
theorem dX9_costs_23 : decode cX9_costs 23 = .ok (.iload_n 1, 1) := by decide +kernel
theorem dX9_costs_24 : decode cX9_costs 24 = .ok (.bipush 30, 2) := by decide +kernel
theorem dX9_costs_26 : decode cX9_costs 26 = .ok (.iconst 0, 1) := by decide +kernel
theorem dX9_costs_27 : decode cX9_costs 27 = .ok (.invokevirtual 196, 3) := by decide +kernel
theorem dX9_costs_30 : decode cX9_costs 30 = .ok (.sipush 1000, 3) := by decide +kernel
theorem dX9_costs_33 : decode cX9_costs 33 = .ok (.aload_n 0, 1) := by decide +kernel
theorem dX9_costs_34 : decode cX9_costs 34 = .ok (.getfield 9, 3) := by decide +kernel
theorem dX9_costs_37 : decode cX9_costs 37 = .ok (.iconst 0, 1) := by decide +kernel
theorem dX9_costs_38 : decode cX9_costs 38 = .ok (.iaload, 1) := by decide +kernel
theorem dX9_costs_39 : decode cX9_costs 39 = .ok (.imul, 1) := by decide +kernel
theorem dX9_costs_40 : decode cX9_costs 40 = .ok (.aload_n 0, 1) := by decide +kernel
theorem dX9_costs_41 : decode cX9_costs 41 = .ok (.getfield 22, 3) := by decide +kernel
theorem dX9_costs_44 : decode cX9_costs 44 = .ok (.iconst 4, 1) := by decide +kernel
theorem dX9_costs_45 : decode cX9_costs 45 = .ok (.iload_n 2, 1) := by decide +kernel
theorem dX9_costs_46 : decode cX9_costs 46 = .ok (.imul, 1) := by decide +kernel
theorem dX9_costs_47 : decode cX9_costs 47 = .ok (.bipush 7, 2) := by decide +kernel
theorem dX9_costs_49 : decode cX9_costs 49 = .ok (.iadd, 1) := by decide +kernel
theorem dX9_costs_50 : decode cX9_costs 50 = .ok (.iaload, 1) := by decide +kernel
theorem dX9_costs_51 : decode cX9_costs 51 = .ok (.iadd, 1) := by decide +kernel
theorem dX9_costs_52 : decode cX9_costs 52 = .ok (.aload_n 0, 1) := by decide +kernel
theorem dX9_costs_53 : decode cX9_costs 53 = .ok (.getfield 22, 3) := by decide +kernel
theorem dX9_costs_56 : decode cX9_costs 56 = .ok (.iconst 4, 1) := by decide +kernel
theorem dX9_costs_57 : decode cX9_costs 57 = .ok (.iload_n 2, 1) := by decide +kernel
theorem dX9_costs_58 : decode cX9_costs 58 = .ok (.imul, 1) := by decide +kernel
theorem dX9_costs_59 : decode cX9_costs 59 = .ok (.iconst 4, 1) := by decide +kernel
theorem dX9_costs_60 : decode cX9_costs 60 = .ok (.iadd, 1) := by decide +kernel
theorem dX9_costs_61 : decode cX9_costs 61 = .ok (.iaload, 1) := by decide +kernel
theorem dX9_costs_62 : decode cX9_costs 62 = .ok (.isub, 1) := by decide +kernel
theorem dX9_costs_63 : decode cX9_costs 63 = .ok (.ireturn, 1) := by decide +kernel
theorem dX9_worst_0 : decode cX9_worst 0 = .ok (.aload_n 0, 1) := by decide +kernel
theorem dX9_worst_1 : decode cX9_worst 1 = .ok (.iload_n 1, 1) := by decide +kernel
theorem dX9_worst_2 : decode cX9_worst 2 = .ok (.invokevirtual 91, 3) := by decide +kernel
theorem dX9_worst_5 : decode cX9_worst 5 = .ok (.ifCond .ne 10, 3) := by decide +kernel
theorem dX9_worst_8 : decode cX9_worst 8 = .ok (.aload_n 0, 1) := by decide +kernel
theorem dX9_worst_9 : decode cX9_worst 9 = .ok (.ldc 46, 2) := by decide +kernel
theorem dX9_worst_11 : decode cX9_worst 11 = .ok (.invokevirtual 48, 3) := by decide +kernel
theorem dX9_worst_14 : decode cX9_worst 14 = .ok (.ireturn, 1) := by decide +kernel
theorem dX9_worst_15 : decode cX9_worst 15 = .ok (.iconst (-1), 1) := by decide +kernel
theorem dX9_worst_16 : decode cX9_worst 16 = .ok (.istore_n 2, 1) := by decide +kernel
theorem dX9_worst_17 : decode cX9_worst 17 = .ok (.iconst 0, 1) := by decide +kernel
theorem dX9_worst_18 : decode cX9_worst 18 = .ok (.istore_n 3, 1) := by decide +kernel
theorem dX9_worst_19 : decode cX9_worst 19 = .ok (.iconst 0, 1) := by decide +kernel
theorem dX9_worst_20 : decode cX9_worst 20 = .ok (.istore 4, 2) := by decide +kernel
theorem dX9_worst_22 : decode cX9_worst 22 = .ok (.iload 4, 2) := by decide +kernel
theorem dX9_worst_24 : decode cX9_worst 24 = .ok (.bipush 30, 2) := by decide +kernel
theorem dX9_worst_26 : decode cX9_worst 26 = .ok (.if_icmp .ge 57, 3) := by decide +kernel
theorem dX9_worst_29 : decode cX9_worst 29 = .ok (.aload_n 0, 1) := by decide +kernel
theorem dX9_worst_30 : decode cX9_worst 30 = .ok (.iconst 3, 1) := by decide +kernel
theorem dX9_worst_31 : decode cX9_worst 31 = .ok (.iload 4, 2) := by decide +kernel
theorem dX9_worst_33 : decode cX9_worst 33 = .ok (.iadd, 1) := by decide +kernel
theorem dX9_worst_34 : decode cX9_worst 34 = .ok (.iconst 0, 1) := by decide +kernel
theorem dX9_worst_35 : decode cX9_worst 35 = .ok (.invokevirtual 72, 3) := by decide +kernel
theorem dX9_worst_38 : decode cX9_worst 38 = .ok (.istore 5, 2) := by decide +kernel
theorem dX9_worst_40 : decode cX9_worst 40 = .ok (.aload_n 0, 1) := by decide +kernel
theorem dX9_worst_41 : decode cX9_worst 41 = .ok (.iload_n 1, 1) := by decide +kernel
theorem dX9_worst_42 : decode cX9_worst 42 = .ok (.invokevirtual 203, 3) := by decide +kernel
theorem dX9_worst_45 : decode cX9_worst 45 = .ok (.istore 6, 2) := by decide +kernel
theorem dX9_worst_47 : decode cX9_worst 47 = .ok (.aload_n 0, 1) := by decide +kernel
theorem dX9_worst_48 : decode cX9_worst 48 = .ok (.getfield 9, 3) := by decide +kernel
theorem dX9_worst_51 : decode cX9_worst 51 = .ok (.iconst 3, 1) := by decide +kernel
theorem dX9_worst_52 : decode cX9_worst 52 = .ok (.iload 4, 2) := by decide +kernel
theorem dX9_worst_54 : decode cX9_worst 54 = .ok (.iadd, 1) := by decide +kernel
theorem dX9_worst_55 : decode cX9_worst 55 = .ok (.iload 5, 2) := by decide +kernel
theorem dX9_worst_57 : decode cX9_worst 57 = .ok (.iastore, 1) := by decide +kernel
theorem dX9_worst_58 : decode cX9_worst 58 = .ok (.iload_n 2, 1) := by decide +kernel
theorem dX9_worst_59 : decode cX9_worst 59 = .ok (.ifCond .lt 12, 3) := by decide +kernel
theorem dX9_worst_62 : decode cX9_worst 62 = .ok (.iload 6, 2) := by decide +kernel
theorem dX9_worst_64 : decode cX9_worst 64 = .ok (.iload_n 3, 1) := by decide +kernel
theorem dX9_worst_65 : decode cX9_worst 65 = .ok (.if_icmp .lt 6, 3) := by decide +kernel
theorem dX9_worst_68 : decode cX9_worst 68 = .ok (.goto 9, 3) := by decide +kernel
theorem dX9_worst_71 : decode cX9_worst 71 = .ok (.iload 4, 2) := by decide +kernel
theorem dX9_worst_73 : decode cX9_worst 73 = .ok (.istore_n 2, 1) := by decide +kernel
theorem dX9_worst_74 : decode cX9_worst 74 = .ok (.iload 6, 2) := by decide +kernel
theorem dX9_worst_76 : decode cX9_worst 76 = .ok (.istore_n 3, 1) := by decide +kernel
theorem dX9_worst_77 : decode cX9_worst 77 = .ok (.iinc 4 1, 3) := by decide +kernel
theorem dX9_worst_80 : decode cX9_worst 80 = .ok (.goto (-58), 3) := by decide +kernel
theorem dX9_worst_83 : decode cX9_worst 83 = .ok (.iload_n 2, 1) := by decide +kernel
theorem dX9_worst_84 : decode cX9_worst 84 = .ok (.ireturn, 1) := by decide +kernel
theorem dX9_spoon_0 : decode cX9_spoon 0 = .ok (.aload_n 0, 1) := by decide +kernel
theorem dX9_spoon_1 : decode cX9_spoon 1 = .ok (.iload_n 1, 1) := by decide +kernel
theorem dX9_spoon_2 : decode cX9_spoon 2 = .ok (.invokevirtual 91, 3) := by decide +kernel
theorem dX9_spoon_5 : decode cX9_spoon 5 = .ok (.ifCond .ne 10, 3) := by decide +kernel
theorem dX9_spoon_8 : decode cX9_spoon 8 = .ok (.aload_n 0, 1) := by decide +kernel
theorem dX9_spoon_9 : decode cX9_spoon 9 = .ok (.ldc 46, 2) := by decide +kernel
theorem dX9_spoon_11 : decode cX9_spoon 11 = .ok (.invokevirtual 48, 3) := by decide +kernel
theorem dX9_spoon_14 : decode cX9_spoon 14 = .ok (.ireturn, 1) := by decide +kernel
theorem dX9_spoon_15 : decode cX9_spoon 15 = .ok (.aload_n 0, 1) := by decide +kernel
theorem dX9_spoon_16 : decode cX9_spoon 16 = .ok (.iload_n 1, 1) := by decide +kernel
theorem dX9_spoon_17 : decode cX9_spoon 17 = .ok (.iconst 2, 1) := by decide +kernel
theorem dX9_spoon_18 : decode cX9_spoon 18 = .ok (.invokevirtual 62, 3) := by decide +kernel
theorem dX9_spoon_21 : decode cX9_spoon 21 = .ok (.istore_n 2, 1) := by decide +kernel
theorem dX9_spoon_22 : decode cX9_spoon 22 = .ok (.iconst (-1), 1) := by decide +kernel
theorem dX9_spoon_23 : decode cX9_spoon 23 = .ok (.istore_n 3, 1) := by decide +kernel
theorem dX9_spoon_24 : decode cX9_spoon 24 = .ok (.iconst 0, 1) := by decide +kernel
theorem dX9_spoon_25 : decode cX9_spoon 25 = .ok (.istore 4, 2) := by decide +kernel
theorem dX9_spoon_27 : decode cX9_spoon 27 = .ok (.iconst 0, 1) := by decide +kernel
theorem dX9_spoon_28 : decode cX9_spoon 28 = .ok (.istore 5, 2) := by decide +kernel
theorem dX9_spoon_30 : decode cX9_spoon 30 = .ok (.iload 5, 2) := by decide +kernel
theorem dX9_spoon_32 : decode cX9_spoon 32 = .ok (.iconst 5, 1) := by decide +kernel
theorem dX9_spoon_33 : decode cX9_spoon 33 = .ok (.if_icmp .gt 52, 3) := by decide +kernel
theorem dX9_spoon_36 : decode cX9_spoon 36 = .ok (.aload_n 0, 1) := by decide +kernel
theorem dX9_spoon_37 : decode cX9_spoon 37 = .ok (.iload_n 1, 1) := by decide +kernel
theorem dX9_spoon_38 : decode cX9_spoon 38 = .ok (.iconst 2, 1) := by decide +kernel
theorem dX9_spoon_39 : decode cX9_spoon 39 = .ok (.iload 5, 2) := by decide +kernel
theorem dX9_spoon_41 : decode cX9_spoon 41 = .ok (.invokevirtual 77, 3) := by decide +kernel
theorem dX9_spoon_44 : decode cX9_spoon 44 = .ok (.aload_n 0, 1) := by decide +kernel
theorem dX9_spoon_45 : decode cX9_spoon 45 = .ok (.iload_n 1, 1) := by decide +kernel
theorem dX9_spoon_46 : decode cX9_spoon 46 = .ok (.invokevirtual 203, 3) := by decide +kernel
theorem dX9_spoon_49 : decode cX9_spoon 49 = .ok (.sipush 15000, 3) := by decide +kernel
theorem dX9_spoon_52 : decode cX9_spoon 52 = .ok (.iload 5, 2) := by decide +kernel
theorem dX9_spoon_54 : decode cX9_spoon 54 = .ok (.imul, 1) := by decide +kernel
theorem dX9_spoon_55 : decode cX9_spoon 55 = .ok (.iadd, 1) := by decide +kernel
theorem dX9_spoon_56 : decode cX9_spoon 56 = .ok (.istore 6, 2) := by decide +kernel
theorem dX9_spoon_58 : decode cX9_spoon 58 = .ok (.iload_n 3, 1) := by decide +kernel
theorem dX9_spoon_59 : decode cX9_spoon 59 = .ok (.ifCond .lt 13, 3) := by decide +kernel
theorem dX9_spoon_62 : decode cX9_spoon 62 = .ok (.iload 6, 2) := by decide +kernel
theorem dX9_spoon_64 : decode cX9_spoon 64 = .ok (.iload 4, 2) := by decide +kernel
theorem dX9_spoon_66 : decode cX9_spoon 66 = .ok (.if_icmp .lt 6, 3) := by decide +kernel
theorem dX9_spoon_69 : decode cX9_spoon 69 = .ok (.goto 10, 3) := by decide +kernel
theorem dX9_spoon_72 : decode cX9_spoon 72 = .ok (.iload 5, 2) := by decide +kernel
theorem dX9_spoon_74 : decode cX9_spoon 74 = .ok (.istore_n 3, 1) := by decide +kernel
theorem dX9_spoon_75 : decode cX9_spoon 75 = .ok (.iload 6, 2) := by decide +kernel
theorem dX9_spoon_77 : decode cX9_spoon 77 = .ok (.istore 4, 2) := by decide +kernel
theorem dX9_spoon_79 : decode cX9_spoon 79 = .ok (.iinc 5 1, 3) := by decide +kernel
theorem dX9_spoon_82 : decode cX9_spoon 82 = .ok (.goto (-52), 3) := by decide +kernel
theorem dX9_spoon_85 : decode cX9_spoon 85 = .ok (.aload_n 0, 1) := by decide +kernel
theorem dX9_spoon_86 : decode cX9_spoon 86 = .ok (.iload_n 1, 1) := by decide +kernel
theorem dX9_spoon_87 : decode cX9_spoon 87 = .ok (.iconst 2, 1) := by decide +kernel
theorem dX9_spoon_88 : decode cX9_spoon 88 = .ok (.iload_n 2, 1) := by decide +kernel
theorem dX9_spoon_89 : decode cX9_spoon 89 = .ok (.invokevirtual 77, 3) := by decide +kernel
theorem dX9_spoon_92 : decode cX9_spoon 92 = .ok (.iload_n 3, 1) := by decide +kernel
theorem dX9_spoon_93 : decode cX9_spoon 93 = .ok (.ireturn, 1) := by decide +kernel
theorem dX9_armFor_0 : decode cX9_armFor 0 = .ok (.aload_n 0, 1) := by decide +kernel
theorem dX9_armFor_1 : decode cX9_armFor 1 = .ok (.iload_n 1, 1) := by decide +kernel
theorem dX9_armFor_2 : decode cX9_armFor 2 = .ok (.invokevirtual 91, 3) := by decide +kernel
theorem dX9_armFor_5 : decode cX9_armFor 5 = .ok (.ifCond .eq 15, 3) := by decide +kernel
theorem dX9_armFor_8 : decode cX9_armFor 8 = .ok (.iload_n 2, 1) := by decide +kernel
theorem dX9_armFor_9 : decode cX9_armFor 9 = .ok (.i2l, 1) := by decide +kernel
theorem dX9_armFor_10 : decode cX9_armFor 10 = .ok (.lconst 0, 1) := by decide +kernel
theorem dX9_armFor_11 : decode cX9_armFor 11 = .ok (.ldc2_w 206, 3) := by decide +kernel
theorem dX9_armFor_14 : decode cX9_armFor 14 = .ok (.invokestatic 54, 3) := by decide +kernel
theorem dX9_armFor_17 : decode cX9_armFor 17 = .ok (.ifCond .ne 10, 3) := by decide +kernel
theorem dX9_armFor_20 : decode cX9_armFor 20 = .ok (.aload_n 0, 1) := by decide +kernel
theorem dX9_armFor_21 : decode cX9_armFor 21 = .ok (.ldc 46, 2) := by decide +kernel
theorem dX9_armFor_23 : decode cX9_armFor 23 = .ok (.invokevirtual 48, 3) := by decide +kernel
theorem dX9_armFor_26 : decode cX9_armFor 26 = .ok (.ireturn, 1) := by decide +kernel
theorem dX9_armFor_27 : decode cX9_armFor 27 = .ok (.aload_n 0, 1) := by decide +kernel
theorem dX9_armFor_28 : decode cX9_armFor 28 = .ok (.iload_n 1, 1) := by decide +kernel
theorem dX9_armFor_29 : decode cX9_armFor 29 = .ok (.iconst 1, 1) := by decide +kernel
theorem dX9_armFor_30 : decode cX9_armFor 30 = .ok (.invokevirtual 62, 3) := by decide +kernel
theorem dX9_armFor_33 : decode cX9_armFor 33 = .ok (.istore_n 3, 1) := by decide +kernel
theorem dX9_armFor_34 : decode cX9_armFor 34 = .ok (.iconst (-1), 1) := by decide +kernel
theorem dX9_armFor_35 : decode cX9_armFor 35 = .ok (.istore 4, 2) := by decide +kernel
theorem dX9_armFor_37 : decode cX9_armFor 37 = .ok (.bipush 9, 2) := by decide +kernel
theorem dX9_armFor_39 : decode cX9_armFor 39 = .ok (.istore 5, 2) := by decide +kernel
theorem dX9_armFor_41 : decode cX9_armFor 41 = .ok (.iload 5, 2) := by decide +kernel
theorem dX9_armFor_43 : decode cX9_armFor 43 = .ok (.ifCond .lt 35, 3) := by decide +kernel
theorem dX9_armFor_46 : decode cX9_armFor 46 = .ok (.aload_n 0, 1) := by decide +kernel
theorem dX9_armFor_47 : decode cX9_armFor 47 = .ok (.iload_n 1, 1) := by decide +kernel
theorem dX9_armFor_48 : decode cX9_armFor 48 = .ok (.iconst 1, 1) := by decide +kernel
theorem dX9_armFor_49 : decode cX9_armFor 49 = .ok (.iload 5, 2) := by decide +kernel
theorem dX9_armFor_51 : decode cX9_armFor 51 = .ok (.invokevirtual 77, 3) := by decide +kernel
theorem dX9_armFor_54 : decode cX9_armFor 54 = .ok (.aload_n 0, 1) := by decide +kernel
theorem dX9_armFor_55 : decode cX9_armFor 55 = .ok (.iload_n 1, 1) := by decide +kernel
theorem dX9_armFor_56 : decode cX9_armFor 56 = .ok (.invokevirtual 203, 3) := by decide +kernel
theorem dX9_armFor_59 : decode cX9_armFor 59 = .ok (.iload_n 2, 1) := by decide +kernel
theorem dX9_armFor_60 : decode cX9_armFor 60 = .ok (.if_icmp .gt 8, 3) := by decide +kernel
theorem dX9_armFor_63 : decode cX9_armFor 63 = .ok (.iload 5, 2) := by decide +kernel
theorem dX9_armFor_65 : decode cX9_armFor 65 = .ok (.goto 5, 3) := by decide +kernel
theorem dX9_armFor_68 : decode cX9_armFor 68 = .ok (.iload 4, 2) := by decide +kernel
theorem dX9_armFor_70 : decode cX9_armFor 70 = .ok (.istore 4, 2) := by decide +kernel
theorem dX9_armFor_72 : decode cX9_armFor 72 = .ok (.iinc 5 (-1), 3) := by decide +kernel
theorem dX9_armFor_75 : decode cX9_armFor 75 = .ok (.goto (-34), 3) := by decide +kernel
theorem dX9_armFor_78 : decode cX9_armFor 78 = .ok (.aload_n 0, 1) := by decide +kernel
theorem dX9_armFor_79 : decode cX9_armFor 79 = .ok (.iload_n 1, 1) := by decide +kernel
theorem dX9_armFor_80 : decode cX9_armFor 80 = .ok (.iconst 1, 1) := by decide +kernel
theorem dX9_armFor_81 : decode cX9_armFor 81 = .ok (.iload_n 3, 1) := by decide +kernel
theorem dX9_armFor_82 : decode cX9_armFor 82 = .ok (.invokevirtual 77, 3) := by decide +kernel
theorem dX9_armFor_85 : decode cX9_armFor 85 = .ok (.aload_n 0, 1) := by decide +kernel
theorem dX9_armFor_86 : decode cX9_armFor 86 = .ok (.iload 4, 2) := by decide +kernel
theorem dX9_armFor_88 : decode cX9_armFor 88 = .ok (.invokevirtual 143, 3) := by decide +kernel
theorem dX9_armFor_91 : decode cX9_armFor 91 = .ok (.ireturn, 1) := by decide +kernel
theorem dX9_later_0 : decode cX9_later 0 = .ok (.aload_n 0, 1) := by decide +kernel
theorem dX9_later_1 : decode cX9_later 1 = .ok (.iload_n 1, 1) := by decide +kernel
theorem dX9_later_2 : decode cX9_later 2 = .ok (.invokevirtual 91, 3) := by decide +kernel
theorem dX9_later_5 : decode cX9_later 5 = .ok (.ifCond .ne 10, 3) := by decide +kernel
theorem dX9_later_8 : decode cX9_later 8 = .ok (.aload_n 0, 1) := by decide +kernel
theorem dX9_later_9 : decode cX9_later 9 = .ok (.ldc 46, 2) := by decide +kernel
theorem dX9_later_11 : decode cX9_later 11 = .ok (.invokevirtual 48, 3) := by decide +kernel
theorem dX9_later_14 : decode cX9_later 14 = .ok (.ireturn, 1) := by decide +kernel
theorem dX9_later_15 : decode cX9_later 15 = .ok (.iconst 0, 1) := by decide +kernel
theorem dX9_later_16 : decode cX9_later 16 = .ok (.istore_n 2, 1) := by decide +kernel
theorem dX9_later_17 : decode cX9_later 17 = .ok (.iconst 0, 1) := by decide +kernel
theorem dX9_later_18 : decode cX9_later 18 = .ok (.istore_n 3, 1) := by decide +kernel
theorem dX9_later_19 : decode cX9_later 19 = .ok (.iload_n 3, 1) := by decide +kernel
theorem dX9_later_20 : decode cX9_later 20 = .ok (.aload_n 0, 1) := by decide +kernel
theorem dX9_later_21 : decode cX9_later 21 = .ok (.getfield 9, 3) := by decide +kernel
theorem dX9_later_24 : decode cX9_later 24 = .ok (.iconst 2, 1) := by decide +kernel
theorem dX9_later_25 : decode cX9_later 25 = .ok (.iaload, 1) := by decide +kernel
theorem dX9_later_26 : decode cX9_later 26 = .ok (.if_icmp .ge 29, 3) := by decide +kernel
theorem dX9_later_29 : decode cX9_later 29 = .ok (.aload_n 0, 1) := by decide +kernel
theorem dX9_later_30 : decode cX9_later 30 = .ok (.iload_n 3, 1) := by decide +kernel
theorem dX9_later_31 : decode cX9_later 31 = .ok (.invokevirtual 203, 3) := by decide +kernel
theorem dX9_later_34 : decode cX9_later 34 = .ok (.istore 4, 2) := by decide +kernel
theorem dX9_later_36 : decode cX9_later 36 = .ok (.iload 4, 2) := by decide +kernel
theorem dX9_later_38 : decode cX9_later 38 = .ok (.iload_n 2, 1) := by decide +kernel
theorem dX9_later_39 : decode cX9_later 39 = .ok (.if_icmp .le 8, 3) := by decide +kernel
theorem dX9_later_42 : decode cX9_later 42 = .ok (.iload 4, 2) := by decide +kernel
theorem dX9_later_44 : decode cX9_later 44 = .ok (.goto 4, 3) := by decide +kernel
theorem dX9_later_47 : decode cX9_later 47 = .ok (.iload_n 2, 1) := by decide +kernel
theorem dX9_later_48 : decode cX9_later 48 = .ok (.istore_n 2, 1) := by decide +kernel
theorem dX9_later_49 : decode cX9_later 49 = .ok (.iinc 3 1, 3) := by decide +kernel
theorem dX9_later_52 : decode cX9_later 52 = .ok (.goto (-33), 3) := by decide +kernel
theorem dX9_later_55 : decode cX9_later 55 = .ok (.iload_n 2, 1) := by decide +kernel
theorem dX9_later_56 : decode cX9_later 56 = .ok (.aload_n 0, 1) := by decide +kernel
theorem dX9_later_57 : decode cX9_later 57 = .ok (.iload_n 1, 1) := by decide +kernel
theorem dX9_later_58 : decode cX9_later 58 = .ok (.invokevirtual 203, 3) := by decide +kernel
theorem dX9_later_61 : decode cX9_later 61 = .ok (.isub, 1) := by decide +kernel
theorem dX9_later_62 : decode cX9_later 62 = .ok (.sipush 1000, 3) := by decide +kernel
theorem dX9_later_65 : decode cX9_later 65 = .ok (.idiv, 1) := by decide +kernel
theorem dX9_later_66 : decode cX9_later 66 = .ok (.ireturn, 1) := by decide +kernel
theorem dX9_isTeam_0 : decode cX9_isTeam 0 = .ok (.iload_n 1, 1) := by decide +kernel
theorem dX9_isTeam_1 : decode cX9_isTeam 1 = .ok (.i2l, 1) := by decide +kernel
theorem dX9_isTeam_2 : decode cX9_isTeam 2 = .ok (.lconst 0, 1) := by decide +kernel
theorem dX9_isTeam_3 : decode cX9_isTeam 3 = .ok (.iconst 1, 1) := by decide +kernel
theorem dX9_isTeam_4 : decode cX9_isTeam 4 = .ok (.aload_n 0, 1) := by decide +kernel
theorem dX9_isTeam_5 : decode cX9_isTeam 5 = .ok (.getfield 9, 3) := by decide +kernel
theorem dX9_isTeam_8 : decode cX9_isTeam 8 = .ok (.iconst 2, 1) := by decide +kernel
theorem dX9_isTeam_9 : decode cX9_isTeam 9 = .ok (.iaload, 1) := by decide +kernel
theorem dX9_isTeam_10 : decode cX9_isTeam 10 = .ok (.ishl, 1) := by decide +kernel
theorem dX9_isTeam_11 : decode cX9_isTeam 11 = .ok (.iconst 1, 1) := by decide +kernel
theorem dX9_isTeam_12 : decode cX9_isTeam 12 = .ok (.isub, 1) := by decide +kernel
theorem dX9_isTeam_13 : decode cX9_isTeam 13 = .ok (.i2l, 1) := by decide +kernel
theorem dX9_isTeam_14 : decode cX9_isTeam 14 = .ok (.invokestatic 54, 3) := by decide +kernel
theorem dX9_isTeam_17 : decode cX9_isTeam 17 = .ok (.ifCond .eq 15, 3) := by decide +kernel
theorem dX9_isTeam_20 : decode cX9_isTeam 20 = .ok (.iload_n 1, 1) := by decide +kernel
theorem dX9_isTeam_21 : decode cX9_isTeam 21 = .ok (.invokestatic 160, 3) := by decide +kernel
theorem dX9_isTeam_24 : decode cX9_isTeam 24 = .ok (.iconst 3, 1) := by decide +kernel
theorem dX9_isTeam_25 : decode cX9_isTeam 25 = .ok (.if_icmp .lt 7, 3) := by decide +kernel
theorem dX9_isTeam_28 : decode cX9_isTeam 28 = .ok (.iconst 1, 1) := by decide +kernel
theorem dX9_isTeam_29 : decode cX9_isTeam 29 = .ok (.goto 4, 3) := by decide +kernel
theorem dX9_isTeam_32 : decode cX9_isTeam 32 = .ok (.iconst 0, 1) := by decide +kernel
theorem dX9_isTeam_33 : decode cX9_isTeam 33 = .ok (.ireturn, 1) := by decide +kernel
theorem dX9_bestTeam_0 : decode cX9_bestTeam 0 = .ok (.iconst 0, 1) := by decide +kernel
theorem dX9_bestTeam_1 : decode cX9_bestTeam 1 = .ok (.istore_n 2, 1) := by decide +kernel
theorem dX9_bestTeam_2 : decode cX9_bestTeam 2 = .ok (.iload_n 2, 1) := by decide +kernel
theorem dX9_bestTeam_3 : decode cX9_bestTeam 3 = .ok (.aload_n 0, 1) := by decide +kernel
theorem dX9_bestTeam_4 : decode cX9_bestTeam 4 = .ok (.getfield 9, 3) := by decide +kernel
theorem dX9_bestTeam_7 : decode cX9_bestTeam 7 = .ok (.iconst 2, 1) := by decide +kernel
theorem dX9_bestTeam_8 : decode cX9_bestTeam 8 = .ok (.iaload, 1) := by decide +kernel
theorem dX9_bestTeam_9 : decode cX9_bestTeam 9 = .ok (.if_icmp .ge 53, 3) := by decide +kernel
theorem dX9_bestTeam_12 : decode cX9_bestTeam 12 = .ok (.iconst 0, 1) := by decide +kernel
theorem dX9_bestTeam_13 : decode cX9_bestTeam 13 = .ok (.istore_n 3, 1) := by decide +kernel
theorem dX9_bestTeam_14 : decode cX9_bestTeam 14 = .ok (.iload_n 3, 1) := by decide +kernel
theorem dX9_bestTeam_15 : decode cX9_bestTeam 15 = .ok (.iconst 3, 1) := by decide +kernel
theorem dX9_bestTeam_16 : decode cX9_bestTeam 16 = .ok (.if_icmp .ge 40, 3) := by decide +kernel
theorem dX9_bestTeam_19 : decode cX9_bestTeam 19 = .ok (.aload_n 0, 1) := by decide +kernel
theorem dX9_bestTeam_20 : decode cX9_bestTeam 20 = .ok (.iload_n 2, 1) := by decide +kernel
theorem dX9_bestTeam_21 : decode cX9_bestTeam 21 = .ok (.bipush 10, 2) := by decide +kernel
theorem dX9_bestTeam_23 : decode cX9_bestTeam 23 = .ok (.iload_n 3, 1) := by decide +kernel
theorem dX9_bestTeam_24 : decode cX9_bestTeam 24 = .ok (.iconst 1, 1) := by decide +kernel
theorem dX9_bestTeam_25 : decode cX9_bestTeam 25 = .ok (.iadd, 1) := by decide +kernel
theorem dX9_bestTeam_26 : decode cX9_bestTeam 26 = .ok (.imul, 1) := by decide +kernel
theorem dX9_bestTeam_27 : decode cX9_bestTeam 27 = .ok (.iconst 0, 1) := by decide +kernel
theorem dX9_bestTeam_28 : decode cX9_bestTeam 28 = .ok (.invokevirtual 196, 3) := by decide +kernel
theorem dX9_bestTeam_31 : decode cX9_bestTeam 31 = .ok (.aload_n 0, 1) := by decide +kernel
theorem dX9_bestTeam_32 : decode cX9_bestTeam 32 = .ok (.getfield 28, 3) := by decide +kernel
theorem dX9_bestTeam_35 : decode cX9_bestTeam 35 = .ok (.iconst 3, 1) := by decide +kernel
theorem dX9_bestTeam_36 : decode cX9_bestTeam 36 = .ok (.iload_n 2, 1) := by decide +kernel
theorem dX9_bestTeam_37 : decode cX9_bestTeam 37 = .ok (.imul, 1) := by decide +kernel
theorem dX9_bestTeam_38 : decode cX9_bestTeam 38 = .ok (.iload_n 3, 1) := by decide +kernel
theorem dX9_bestTeam_39 : decode cX9_bestTeam 39 = .ok (.iadd, 1) := by decide +kernel
theorem dX9_bestTeam_40 : decode cX9_bestTeam 40 = .ok (.aload_n 0, 1) := by decide +kernel
theorem dX9_bestTeam_41 : decode cX9_bestTeam 41 = .ok (.getfield 22, 3) := by decide +kernel
theorem dX9_bestTeam_44 : decode cX9_bestTeam 44 = .ok (.bipush 40, 2) := by decide +kernel
theorem dX9_bestTeam_46 : decode cX9_bestTeam 46 = .ok (.iload_n 3, 1) := by decide +kernel
theorem dX9_bestTeam_47 : decode cX9_bestTeam 47 = .ok (.imul, 1) := by decide +kernel
theorem dX9_bestTeam_48 : decode cX9_bestTeam 48 = .ok (.iaload, 1) := by decide +kernel
theorem dX9_bestTeam_49 : decode cX9_bestTeam 49 = .ok (.iastore, 1) := by decide +kernel
theorem dX9_bestTeam_50 : decode cX9_bestTeam 50 = .ok (.iinc 3 1, 3) := by decide +kernel
theorem dX9_bestTeam_53 : decode cX9_bestTeam 53 = .ok (.goto (-39), 3) := by decide +kernel
theorem dX9_bestTeam_56 : decode cX9_bestTeam 56 = .ok (.iinc 2 1, 3) := by decide +kernel
theorem dX9_bestTeam_59 : decode cX9_bestTeam 59 = .ok (.goto (-57), 3) := by decide +kernel
theorem dX9_bestTeam_62 : decode cX9_bestTeam 62 = .ok (.iconst (-1), 1) := by decide +kernel
theorem dX9_bestTeam_63 : decode cX9_bestTeam 63 = .ok (.istore_n 2, 1) := by decide +kernel
theorem dX9_bestTeam_64 : decode cX9_bestTeam 64 = .ok (.iconst 0, 1) := by decide +kernel
theorem dX9_bestTeam_65 : decode cX9_bestTeam 65 = .ok (.istore_n 3, 1) := by decide +kernel
theorem dX9_bestTeam_66 : decode cX9_bestTeam 66 = .ok (.iload_n 3, 1) := by decide +kernel
theorem dX9_bestTeam_67 : decode cX9_bestTeam 67 = .ok (.sipush 216, 3) := by decide +kernel
theorem dX9_bestTeam_70 : decode cX9_bestTeam 70 = .ok (.if_icmp .ge 151, 3) := by decide +kernel
theorem dX9_bestTeam_73 : decode cX9_bestTeam 73 = .ok (.iload_n 3, 1) := by decide +kernel
theorem dX9_bestTeam_74 : decode cX9_bestTeam 74 = .ok (.bipush 6, 2) := by decide +kernel
theorem dX9_bestTeam_76 : decode cX9_bestTeam 76 = .ok (.idiv, 1) := by decide +kernel
theorem dX9_bestTeam_77 : decode cX9_bestTeam 77 = .ok (.bipush 6, 2) := by decide +kernel
theorem dX9_bestTeam_79 : decode cX9_bestTeam 79 = .ok (.idiv, 1) := by decide +kernel
theorem dX9_bestTeam_80 : decode cX9_bestTeam 80 = .ok (.istore 4, 2) := by decide +kernel
theorem dX9_bestTeam_82 : decode cX9_bestTeam 82 = .ok (.iload_n 3, 1) := by decide +kernel
theorem dX9_bestTeam_83 : decode cX9_bestTeam 83 = .ok (.bipush 6, 2) := by decide +kernel
theorem dX9_bestTeam_85 : decode cX9_bestTeam 85 = .ok (.idiv, 1) := by decide +kernel
theorem dX9_bestTeam_86 : decode cX9_bestTeam 86 = .ok (.bipush 6, 2) := by decide +kernel
theorem dX9_bestTeam_88 : decode cX9_bestTeam 88 = .ok (.irem, 1) := by decide +kernel
theorem dX9_bestTeam_89 : decode cX9_bestTeam 89 = .ok (.istore 5, 2) := by decide +kernel
theorem dX9_bestTeam_91 : decode cX9_bestTeam 91 = .ok (.iload_n 3, 1) := by decide +kernel
theorem dX9_bestTeam_92 : decode cX9_bestTeam 92 = .ok (.bipush 6, 2) := by decide +kernel
theorem dX9_bestTeam_94 : decode cX9_bestTeam 94 = .ok (.irem, 1) := by decide +kernel
theorem dX9_bestTeam_95 : decode cX9_bestTeam 95 = .ok (.istore 6, 2) := by decide +kernel
theorem dX9_bestTeam_97 : decode cX9_bestTeam 97 = .ok (.iload 4, 2) := by decide +kernel
theorem dX9_bestTeam_99 : decode cX9_bestTeam 99 = .ok (.iload 5, 2) := by decide +kernel
theorem dX9_bestTeam_101 : decode cX9_bestTeam 101 = .ok (.if_icmp .eq 114, 3) := by decide +kernel
theorem dX9_bestTeam_104 : decode cX9_bestTeam 104 = .ok (.iload 4, 2) := by decide +kernel
theorem dX9_bestTeam_106 : decode cX9_bestTeam 106 = .ok (.iload 6, 2) := by decide +kernel
theorem dX9_bestTeam_108 : decode cX9_bestTeam 108 = .ok (.if_icmp .eq 107, 3) := by decide +kernel
theorem dX9_bestTeam_111 : decode cX9_bestTeam 111 = .ok (.iload 5, 2) := by decide +kernel
theorem dX9_bestTeam_113 : decode cX9_bestTeam 113 = .ok (.iload 6, 2) := by decide +kernel
theorem dX9_bestTeam_115 : decode cX9_bestTeam 115 = .ok (.if_icmp .eq 100, 3) := by decide +kernel
theorem dX9_bestTeam_118 : decode cX9_bestTeam 118 = .ok (.iload_n 1, 1) := by decide +kernel
theorem dX9_bestTeam_119 : decode cX9_bestTeam 119 = .ok (.iload 4, 2) := by decide +kernel
theorem dX9_bestTeam_121 : decode cX9_bestTeam 121 = .ok (.ishr, 1) := by decide +kernel
theorem dX9_bestTeam_122 : decode cX9_bestTeam 122 = .ok (.iload_n 1, 1) := by decide +kernel
theorem dX9_bestTeam_123 : decode cX9_bestTeam 123 = .ok (.iload 5, 2) := by decide +kernel
theorem dX9_bestTeam_125 : decode cX9_bestTeam 125 = .ok (.ishr, 1) := by decide +kernel
theorem dX9_bestTeam_126 : decode cX9_bestTeam 126 = .ok (.iand, 1) := by decide +kernel
theorem dX9_bestTeam_127 : decode cX9_bestTeam 127 = .ok (.iload_n 1, 1) := by decide +kernel
theorem dX9_bestTeam_128 : decode cX9_bestTeam 128 = .ok (.iload 6, 2) := by decide +kernel
theorem dX9_bestTeam_130 : decode cX9_bestTeam 130 = .ok (.ishr, 1) := by decide +kernel
theorem dX9_bestTeam_131 : decode cX9_bestTeam 131 = .ok (.iand, 1) := by decide +kernel
theorem dX9_bestTeam_132 : decode cX9_bestTeam 132 = .ok (.iconst 1, 1) := by decide +kernel
theorem dX9_bestTeam_133 : decode cX9_bestTeam 133 = .ok (.iand, 1) := by decide +kernel
theorem dX9_bestTeam_134 : decode cX9_bestTeam 134 = .ok (.ifCond .ne 6, 3) := by decide +kernel
theorem dX9_bestTeam_137 : decode cX9_bestTeam 137 = .ok (.goto 78, 3) := by decide +kernel
theorem dX9_bestTeam_140 : decode cX9_bestTeam 140 = .ok (.aload_n 0, 1) := by decide +kernel
theorem dX9_bestTeam_141 : decode cX9_bestTeam 141 = .ok (.getfield 28, 3) := by decide +kernel
theorem dX9_bestTeam_144 : decode cX9_bestTeam 144 = .ok (.iconst 3, 1) := by decide +kernel
theorem dX9_bestTeam_145 : decode cX9_bestTeam 145 = .ok (.iload 4, 2) := by decide +kernel
theorem dX9_bestTeam_147 : decode cX9_bestTeam 147 = .ok (.imul, 1) := by decide +kernel
theorem dX9_bestTeam_148 : decode cX9_bestTeam 148 = .ok (.iaload, 1) := by decide +kernel
theorem dX9_bestTeam_149 : decode cX9_bestTeam 149 = .ok (.aload_n 0, 1) := by decide +kernel
theorem dX9_bestTeam_150 : decode cX9_bestTeam 150 = .ok (.getfield 28, 3) := by decide +kernel
theorem dX9_bestTeam_153 : decode cX9_bestTeam 153 = .ok (.iconst 3, 1) := by decide +kernel
theorem dX9_bestTeam_154 : decode cX9_bestTeam 154 = .ok (.iload 5, 2) := by decide +kernel
theorem dX9_bestTeam_156 : decode cX9_bestTeam 156 = .ok (.imul, 1) := by decide +kernel
theorem dX9_bestTeam_157 : decode cX9_bestTeam 157 = .ok (.iconst 1, 1) := by decide +kernel
theorem dX9_bestTeam_158 : decode cX9_bestTeam 158 = .ok (.iadd, 1) := by decide +kernel
theorem dX9_bestTeam_159 : decode cX9_bestTeam 159 = .ok (.iaload, 1) := by decide +kernel
theorem dX9_bestTeam_160 : decode cX9_bestTeam 160 = .ok (.iadd, 1) := by decide +kernel
theorem dX9_bestTeam_161 : decode cX9_bestTeam 161 = .ok (.aload_n 0, 1) := by decide +kernel
theorem dX9_bestTeam_162 : decode cX9_bestTeam 162 = .ok (.getfield 28, 3) := by decide +kernel
theorem dX9_bestTeam_165 : decode cX9_bestTeam 165 = .ok (.iconst 3, 1) := by decide +kernel
theorem dX9_bestTeam_166 : decode cX9_bestTeam 166 = .ok (.iload 6, 2) := by decide +kernel
theorem dX9_bestTeam_168 : decode cX9_bestTeam 168 = .ok (.imul, 1) := by decide +kernel
theorem dX9_bestTeam_169 : decode cX9_bestTeam 169 = .ok (.iconst 2, 1) := by decide +kernel
theorem dX9_bestTeam_170 : decode cX9_bestTeam 170 = .ok (.iadd, 1) := by decide +kernel
theorem dX9_bestTeam_171 : decode cX9_bestTeam 171 = .ok (.iaload, 1) := by decide +kernel
theorem dX9_bestTeam_172 : decode cX9_bestTeam 172 = .ok (.iadd, 1) := by decide +kernel
theorem dX9_bestTeam_173 : decode cX9_bestTeam 173 = .ok (.istore 7, 2) := by decide +kernel
theorem dX9_bestTeam_175 : decode cX9_bestTeam 175 = .ok (.iload_n 2, 1) := by decide +kernel
theorem dX9_bestTeam_176 : decode cX9_bestTeam 176 = .ok (.ifCond .lt 12, 3) := by decide +kernel
theorem dX9_bestTeam_179 : decode cX9_bestTeam 179 = .ok (.iload 7, 2) := by decide +kernel
theorem dX9_bestTeam_181 : decode cX9_bestTeam 181 = .ok (.iload_n 2, 1) := by decide +kernel
theorem dX9_bestTeam_182 : decode cX9_bestTeam 182 = .ok (.if_icmp .lt 6, 3) := by decide +kernel
theorem dX9_bestTeam_185 : decode cX9_bestTeam 185 = .ok (.goto 30, 3) := by decide +kernel
theorem dX9_bestTeam_188 : decode cX9_bestTeam 188 = .ok (.iload 7, 2) := by decide +kernel
theorem dX9_bestTeam_190 : decode cX9_bestTeam 190 = .ok (.istore_n 2, 1) := by decide +kernel
theorem dX9_bestTeam_191 : decode cX9_bestTeam 191 = .ok (.aload_n 0, 1) := by decide +kernel
theorem dX9_bestTeam_192 : decode cX9_bestTeam 192 = .ok (.getfield 31, 3) := by decide +kernel
theorem dX9_bestTeam_195 : decode cX9_bestTeam 195 = .ok (.iconst 0, 1) := by decide +kernel
theorem dX9_bestTeam_196 : decode cX9_bestTeam 196 = .ok (.iload 4, 2) := by decide +kernel
theorem dX9_bestTeam_198 : decode cX9_bestTeam 198 = .ok (.iastore, 1) := by decide +kernel
theorem dX9_bestTeam_199 : decode cX9_bestTeam 199 = .ok (.aload_n 0, 1) := by decide +kernel
theorem dX9_bestTeam_200 : decode cX9_bestTeam 200 = .ok (.getfield 31, 3) := by decide +kernel
theorem dX9_bestTeam_203 : decode cX9_bestTeam 203 = .ok (.iconst 1, 1) := by decide +kernel
theorem dX9_bestTeam_204 : decode cX9_bestTeam 204 = .ok (.iload 5, 2) := by decide +kernel
theorem dX9_bestTeam_206 : decode cX9_bestTeam 206 = .ok (.iastore, 1) := by decide +kernel
theorem dX9_bestTeam_207 : decode cX9_bestTeam 207 = .ok (.aload_n 0, 1) := by decide +kernel
theorem dX9_bestTeam_208 : decode cX9_bestTeam 208 = .ok (.getfield 31, 3) := by decide +kernel
theorem dX9_bestTeam_211 : decode cX9_bestTeam 211 = .ok (.iconst 2, 1) := by decide +kernel
theorem dX9_bestTeam_212 : decode cX9_bestTeam 212 = .ok (.iload 6, 2) := by decide +kernel
theorem dX9_bestTeam_214 : decode cX9_bestTeam 214 = .ok (.iastore, 1) := by decide +kernel
theorem dX9_bestTeam_215 : decode cX9_bestTeam 215 = .ok (.iinc 3 1, 3) := by decide +kernel
theorem dX9_bestTeam_218 : decode cX9_bestTeam 218 = .ok (.goto (-152), 3) := by decide +kernel
theorem dX9_bestTeam_221 : decode cX9_bestTeam 221 = .ok (.iload_n 2, 1) := by decide +kernel
theorem dX9_bestTeam_222 : decode cX9_bestTeam 222 = .ok (.ireturn, 1) := by decide +kernel
theorem dX9_team_0 : decode cX9_team 0 = .ok (.aload_n 0, 1) := by decide +kernel
theorem dX9_team_1 : decode cX9_team 1 = .ok (.iload_n 1, 1) := by decide +kernel
theorem dX9_team_2 : decode cX9_team 2 = .ok (.invokevirtual 208, 3) := by decide +kernel
theorem dX9_team_5 : decode cX9_team 5 = .ok (.ifCond .eq 11, 3) := by decide +kernel
theorem dX9_team_8 : decode cX9_team 8 = .ok (.aload_n 0, 1) := by decide +kernel
theorem dX9_team_9 : decode cX9_team 9 = .ok (.iload_n 1, 1) := by decide +kernel
theorem dX9_team_10 : decode cX9_team 10 = .ok (.invokevirtual 211, 3) := by decide +kernel
theorem dX9_team_13 : decode cX9_team 13 = .ok (.goto 9, 3) := by decide +kernel
theorem dX9_team_16 : decode cX9_team 16 = .ok (.aload_n 0, 1) := by decide +kernel
theorem dX9_team_17 : decode cX9_team 17 = .ok (.ldc 46, 2) := by decide +kernel
theorem dX9_team_19 : decode cX9_team 19 = .ok (.invokevirtual 48, 3) := by decide +kernel
theorem dX9_team_22 : decode cX9_team 22 = .ok (.ireturn, 1) := by decide +kernel
theorem dX9_leg_0 : decode cX9_leg 0 = .ok (.aload_n 0, 1) := by decide +kernel
theorem dX9_leg_1 : decode cX9_leg 1 = .ok (.iload_n 1, 1) := by decide +kernel
theorem dX9_leg_2 : decode cX9_leg 2 = .ok (.invokevirtual 208, 3) := by decide +kernel
theorem dX9_leg_5 : decode cX9_leg 5 = .ok (.ifCond .eq 15, 3) := by decide +kernel
theorem dX9_leg_8 : decode cX9_leg 8 = .ok (.iload_n 2, 1) := by decide +kernel
theorem dX9_leg_9 : decode cX9_leg 9 = .ok (.i2l, 1) := by decide +kernel
theorem dX9_leg_10 : decode cX9_leg 10 = .ok (.lconst 0, 1) := by decide +kernel
theorem dX9_leg_11 : decode cX9_leg 11 = .ok (.ldc2_w 214, 3) := by decide +kernel
theorem dX9_leg_14 : decode cX9_leg 14 = .ok (.invokestatic 54, 3) := by decide +kernel
theorem dX9_leg_17 : decode cX9_leg 17 = .ok (.ifCond .ne 10, 3) := by decide +kernel
theorem dX9_leg_20 : decode cX9_leg 20 = .ok (.aload_n 0, 1) := by decide +kernel
theorem dX9_leg_21 : decode cX9_leg 21 = .ok (.ldc 46, 2) := by decide +kernel
theorem dX9_leg_23 : decode cX9_leg 23 = .ok (.invokevirtual 48, 3) := by decide +kernel
theorem dX9_leg_26 : decode cX9_leg 26 = .ok (.ireturn, 1) := by decide +kernel
theorem dX9_leg_27 : decode cX9_leg 27 = .ok (.aload_n 0, 1) := by decide +kernel
theorem dX9_leg_28 : decode cX9_leg 28 = .ok (.iload_n 1, 1) := by decide +kernel
theorem dX9_leg_29 : decode cX9_leg 29 = .ok (.invokevirtual 211, 3) := by decide +kernel
theorem dX9_leg_32 : decode cX9_leg 32 = .ok (.pop, 1) := by decide +kernel
theorem dX9_leg_33 : decode cX9_leg 33 = .ok (.aload_n 0, 1) := by decide +kernel
theorem dX9_leg_34 : decode cX9_leg 34 = .ok (.getfield 31, 3) := by decide +kernel
theorem dX9_leg_37 : decode cX9_leg 37 = .ok (.iload_n 2, 1) := by decide +kernel
theorem dX9_leg_38 : decode cX9_leg 38 = .ok (.iaload, 1) := by decide +kernel
theorem dX9_leg_39 : decode cX9_leg 39 = .ok (.ireturn, 1) := by decide +kernel
theorem dX9_droppingAs_0 : decode cX9_droppingAs 0 = .ok (.aload_n 0, 1) := by decide +kernel
theorem dX9_droppingAs_1 : decode cX9_droppingAs 1 = .ok (.iload_n 2, 1) := by decide +kernel
theorem dX9_droppingAs_2 : decode cX9_droppingAs 2 = .ok (.iconst 0, 1) := by decide +kernel
theorem dX9_droppingAs_3 : decode cX9_droppingAs 3 = .ok (.invokevirtual 62, 3) := by decide +kernel
theorem dX9_droppingAs_6 : decode cX9_droppingAs 6 = .ok (.istore 6, 2) := by decide +kernel
theorem dX9_droppingAs_8 : decode cX9_droppingAs 8 = .ok (.aload_n 0, 1) := by decide +kernel
theorem dX9_droppingAs_9 : decode cX9_droppingAs 9 = .ok (.iload_n 2, 1) := by decide +kernel
theorem dX9_droppingAs_10 : decode cX9_droppingAs 10 = .ok (.iconst 0, 1) := by decide +kernel
theorem dX9_droppingAs_11 : decode cX9_droppingAs 11 = .ok (.iload_n 1, 1) := by decide +kernel
theorem dX9_droppingAs_12 : decode cX9_droppingAs 12 = .ok (.invokevirtual 77, 3) := by decide +kernel
theorem dX9_droppingAs_15 : decode cX9_droppingAs 15 = .ok (.aload_n 0, 1) := by decide +kernel
theorem dX9_droppingAs_16 : decode cX9_droppingAs 16 = .ok (.iload_n 2, 1) := by decide +kernel
theorem dX9_droppingAs_17 : decode cX9_droppingAs 17 = .ok (.iload_n 3, 1) := by decide +kernel
theorem dX9_droppingAs_18 : decode cX9_droppingAs 18 = .ok (.iload 4, 2) := by decide +kernel
theorem dX9_droppingAs_20 : decode cX9_droppingAs 20 = .ok (.iload 5, 2) := by decide +kernel
theorem dX9_droppingAs_22 : decode cX9_droppingAs 22 = .ok (.iconst 0, 1) := by decide +kernel
theorem dX9_droppingAs_23 : decode cX9_droppingAs 23 = .ok (.invokevirtual 189, 3) := by decide +kernel
theorem dX9_droppingAs_26 : decode cX9_droppingAs 26 = .ok (.lstore 7, 2) := by decide +kernel
theorem dX9_droppingAs_28 : decode cX9_droppingAs 28 = .ok (.aload_n 0, 1) := by decide +kernel
theorem dX9_droppingAs_29 : decode cX9_droppingAs 29 = .ok (.iload_n 2, 1) := by decide +kernel
theorem dX9_droppingAs_30 : decode cX9_droppingAs 30 = .ok (.iconst 0, 1) := by decide +kernel
theorem dX9_droppingAs_31 : decode cX9_droppingAs 31 = .ok (.iload 6, 2) := by decide +kernel
theorem dX9_droppingAs_33 : decode cX9_droppingAs 33 = .ok (.invokevirtual 77, 3) := by decide +kernel
theorem dX9_droppingAs_36 : decode cX9_droppingAs 36 = .ok (.lload 7, 2) := by decide +kernel
theorem dX9_droppingAs_38 : decode cX9_droppingAs 38 = .ok (.lreturn, 1) := by decide +kernel
theorem dX9_gum_0 : decode cX9_gum 0 = .ok (.aload_n 0, 1) := by decide +kernel
theorem dX9_gum_1 : decode cX9_gum 1 = .ok (.iload_n 1, 1) := by decide +kernel
theorem dX9_gum_2 : decode cX9_gum 2 = .ok (.iload_n 2, 1) := by decide +kernel
theorem dX9_gum_3 : decode cX9_gum 3 = .ok (.iload_n 3, 1) := by decide +kernel
theorem dX9_gum_4 : decode cX9_gum 4 = .ok (.bipush 8, 2) := by decide +kernel
theorem dX9_gum_6 : decode cX9_gum 6 = .ok (.invokevirtual 181, 3) := by decide +kernel
theorem dX9_gum_9 : decode cX9_gum 9 = .ok (.ifCond .eq 30, 3) := by decide +kernel
theorem dX9_gum_12 : decode cX9_gum 12 = .ok (.iload_n 3, 1) := by decide +kernel
theorem dX9_gum_13 : decode cX9_gum 13 = .ok (.ifCond .eq 26, 3) := by decide +kernel
theorem dX9_gum_16 : decode cX9_gum 16 = .ok (.iload 4, 2) := by decide +kernel
theorem dX9_gum_18 : decode cX9_gum 18 = .ok (.i2l, 1) := by decide +kernel
theorem dX9_gum_19 : decode cX9_gum 19 = .ok (.lconst 0, 1) := by decide +kernel
theorem dX9_gum_20 : decode cX9_gum 20 = .ok (.iload_n 3, 1) := by decide +kernel
theorem dX9_gum_21 : decode cX9_gum 21 = .ok (.i2l, 1) := by decide +kernel
theorem dX9_gum_22 : decode cX9_gum 22 = .ok (.invokestatic 54, 3) := by decide +kernel
theorem dX9_gum_25 : decode cX9_gum 25 = .ok (.ifCond .eq 14, 3) := by decide +kernel
theorem dX9_gum_28 : decode cX9_gum 28 = .ok (.iload 5, 2) := by decide +kernel
theorem dX9_gum_30 : decode cX9_gum 30 = .ok (.i2l, 1) := by decide +kernel
theorem dX9_gum_31 : decode cX9_gum 31 = .ok (.lconst 0, 1) := by decide +kernel
theorem dX9_gum_32 : decode cX9_gum 32 = .ok (.lconst 1, 1) := by decide +kernel
theorem dX9_gum_33 : decode cX9_gum 33 = .ok (.invokestatic 54, 3) := by decide +kernel
theorem dX9_gum_36 : decode cX9_gum 36 = .ok (.ifCond .ne 11, 3) := by decide +kernel
theorem dX9_gum_39 : decode cX9_gum 39 = .ok (.aload_n 0, 1) := by decide +kernel
theorem dX9_gum_40 : decode cX9_gum 40 = .ok (.ldc 46, 2) := by decide +kernel
theorem dX9_gum_42 : decode cX9_gum 42 = .ok (.invokevirtual 48, 3) := by decide +kernel
theorem dX9_gum_45 : decode cX9_gum 45 = .ok (.i2l, 1) := by decide +kernel
theorem dX9_gum_46 : decode cX9_gum 46 = .ok (.lreturn, 1) := by decide +kernel
theorem dX9_gum_47 : decode cX9_gum 47 = .ok (.aload_n 0, 1) := by decide +kernel
theorem dX9_gum_48 : decode cX9_gum 48 = .ok (.iload 5, 2) := by decide +kernel
theorem dX9_gum_50 : decode cX9_gum 50 = .ok (.ifCond .ne 7, 3) := by decide +kernel
theorem dX9_gum_53 : decode cX9_gum 53 = .ok (.iconst 5, 1) := by decide +kernel
theorem dX9_gum_54 : decode cX9_gum 54 = .ok (.goto 9, 3) := by decide +kernel
theorem dX9_gum_57 : decode cX9_gum 57 = .ok (.aload_n 0, 1) := by decide +kernel
theorem dX9_gum_58 : decode cX9_gum 58 = .ok (.iload_n 1, 1) := by decide +kernel
theorem dX9_gum_59 : decode cX9_gum 59 = .ok (.iconst 0, 1) := by decide +kernel
theorem dX9_gum_60 : decode cX9_gum 60 = .ok (.invokevirtual 62, 3) := by decide +kernel
theorem dX9_gum_63 : decode cX9_gum 63 = .ok (.iload_n 1, 1) := by decide +kernel
theorem dX9_gum_64 : decode cX9_gum 64 = .ok (.iload_n 2, 1) := by decide +kernel
theorem dX9_gum_65 : decode cX9_gum 65 = .ok (.iload_n 3, 1) := by decide +kernel
theorem dX9_gum_66 : decode cX9_gum 66 = .ok (.iload 4, 2) := by decide +kernel
theorem dX9_gum_68 : decode cX9_gum 68 = .ok (.invokevirtual 216, 3) := by decide +kernel
theorem dX9_gum_71 : decode cX9_gum 71 = .ok (.lreturn, 1) := by decide +kernel
theorem dX9_suspect_0 : decode cX9_suspect 0 = .ok (.aload_n 0, 1) := by decide +kernel
theorem dX9_suspect_1 : decode cX9_suspect 1 = .ok (.iload_n 1, 1) := by decide +kernel
theorem dX9_suspect_2 : decode cX9_suspect 2 = .ok (.iload_n 2, 1) := by decide +kernel
theorem dX9_suspect_3 : decode cX9_suspect 3 = .ok (.iload_n 3, 1) := by decide +kernel
theorem dX9_suspect_4 : decode cX9_suspect 4 = .ok (.bipush 8, 2) := by decide +kernel
theorem dX9_suspect_6 : decode cX9_suspect 6 = .ok (.invokevirtual 181, 3) := by decide +kernel
theorem dX9_suspect_9 : decode cX9_suspect 9 = .ok (.ifCond .eq 7, 3) := by decide +kernel
theorem dX9_suspect_12 : decode cX9_suspect 12 = .ok (.iload_n 3, 1) := by decide +kernel
theorem dX9_suspect_13 : decode cX9_suspect 13 = .ok (.ifCond .ne 10, 3) := by decide +kernel
theorem dX9_suspect_16 : decode cX9_suspect 16 = .ok (.aload_n 0, 1) := by decide +kernel
theorem dX9_suspect_17 : decode cX9_suspect 17 = .ok (.ldc 46, 2) := by decide +kernel
theorem dX9_suspect_19 : decode cX9_suspect 19 = .ok (.invokevirtual 48, 3) := by decide +kernel
theorem dX9_suspect_22 : decode cX9_suspect 22 = .ok (.ireturn, 1) := by decide +kernel
theorem dX9_suspect_23 : decode cX9_suspect 23 = .ok (.iload_n 3, 1) := by decide +kernel
theorem dX9_suspect_24 : decode cX9_suspect 24 = .ok (.istore 4, 2) := by decide +kernel
theorem dX9_suspect_26 : decode cX9_suspect 26 = .ok (.iload 4, 2) := by decide +kernel
theorem dX9_suspect_28 : decode cX9_suspect 28 = .ok (.ifCond .lt 51, 3) := by decide +kernel
theorem dX9_suspect_31 : decode cX9_suspect 31 = .ok (.aload_n 0, 1) := by decide +kernel
theorem dX9_suspect_32 : decode cX9_suspect 32 = .ok (.iconst 5, 1) := by decide +kernel
theorem dX9_suspect_33 : decode cX9_suspect 33 = .ok (.iload_n 1, 1) := by decide +kernel
theorem dX9_suspect_34 : decode cX9_suspect 34 = .ok (.iload_n 2, 1) := by decide +kernel
theorem dX9_suspect_35 : decode cX9_suspect 35 = .ok (.iload_n 3, 1) := by decide +kernel
theorem dX9_suspect_36 : decode cX9_suspect 36 = .ok (.iload 4, 2) := by decide +kernel
theorem dX9_suspect_38 : decode cX9_suspect 38 = .ok (.invokevirtual 216, 3) := by decide +kernel
theorem dX9_suspect_41 : decode cX9_suspect 41 = .ok (.lstore 5, 2) := by decide +kernel
theorem dX9_suspect_43 : decode cX9_suspect 43 = .ok (.lload 5, 2) := by decide +kernel
theorem dX9_suspect_45 : decode cX9_suspect 45 = .ok (.lconst 0, 1) := by decide +kernel
theorem dX9_suspect_46 : decode cX9_suspect 46 = .ok (.lcmp, 1) := by decide +kernel
theorem dX9_suspect_47 : decode cX9_suspect 47 = .ok (.ifCond .le 26, 3) := by decide +kernel
theorem dX9_suspect_50 : decode cX9_suspect 50 = .ok (.lload 5, 2) := by decide +kernel
theorem dX9_suspect_52 : decode cX9_suspect 52 = .ok (.ldc2_w 214, 3) := by decide +kernel
theorem dX9_suspect_55 : decode cX9_suspect 55 = .ok (.aload_n 0, 1) := by decide +kernel
theorem dX9_suspect_56 : decode cX9_suspect 56 = .ok (.iload_n 1, 1) := by decide +kernel
theorem dX9_suspect_57 : decode cX9_suspect 57 = .ok (.iload_n 2, 1) := by decide +kernel
theorem dX9_suspect_58 : decode cX9_suspect 58 = .ok (.iload_n 3, 1) := by decide +kernel
theorem dX9_suspect_59 : decode cX9_suspect 59 = .ok (.iload 4, 2) := by decide +kernel
theorem dX9_suspect_61 : decode cX9_suspect 61 = .ok (.iconst 0, 1) := by decide +kernel
theorem dX9_suspect_62 : decode cX9_suspect 62 = .ok (.invokevirtual 189, 3) := by decide +kernel
theorem dX9_suspect_65 : decode cX9_suspect 65 = .ok (.lmul, 1) := by decide +kernel
theorem dX9_suspect_66 : decode cX9_suspect 66 = .ok (.lcmp, 1) := by decide +kernel
theorem dX9_suspect_67 : decode cX9_suspect 67 = .ok (.ifCond .lt 6, 3) := by decide +kernel
theorem dX9_suspect_70 : decode cX9_suspect 70 = .ok (.iload 4, 2) := by decide +kernel
theorem dX9_suspect_72 : decode cX9_suspect 72 = .ok (.ireturn, 1) := by decide +kernel
theorem dX9_suspect_73 : decode cX9_suspect 73 = .ok (.iinc 4 (-1), 3) := by decide +kernel
theorem dX9_suspect_76 : decode cX9_suspect 76 = .ok (.goto (-50), 3) := by decide +kernel
theorem dX9_suspect_79 : decode cX9_suspect 79 = .ok (.aload_n 0, 1) := by decide +kernel
theorem dX9_suspect_80 : decode cX9_suspect 80 = .ok (.ldc 47, 2) := by decide +kernel
theorem dX9_suspect_82 : decode cX9_suspect 82 = .ok (.invokevirtual 48, 3) := by decide +kernel
theorem dX9_suspect_85 : decode cX9_suspect 85 = .ok (.ireturn, 1) := by decide +kernel
theorem dX9_grass_0 : decode cX9_grass 0 = .ok (.iconst 0, 1) := by decide +kernel
theorem dX9_grass_1 : decode cX9_grass 1 = .ok (.istore_n 1, 1) := by decide +kernel
theorem dX9_grass_2 : decode cX9_grass 2 = .ok (.iconst 0, 1) := by decide +kernel
theorem dX9_grass_3 : decode cX9_grass 3 = .ok (.istore_n 2, 1) := by decide +kernel
theorem dX9_grass_4 : decode cX9_grass 4 = .ok (.iload_n 2, 1) := by decide +kernel
theorem dX9_grass_5 : decode cX9_grass 5 = .ok (.bipush 30, 2) := by decide +kernel
theorem dX9_grass_7 : decode cX9_grass 7 = .ok (.if_icmp .ge 28, 3) := by decide +kernel
theorem dX9_grass_10 : decode cX9_grass 10 = .ok (.iload_n 1, 1) := by decide +kernel
theorem dX9_grass_11 : decode cX9_grass 11 = .ok (.aload_n 0, 1) := by decide +kernel
theorem dX9_grass_12 : decode cX9_grass 12 = .ok (.getfield 9, 3) := by decide +kernel
theorem dX9_grass_15 : decode cX9_grass 15 = .ok (.iconst 3, 1) := by decide +kernel
theorem dX9_grass_16 : decode cX9_grass 16 = .ok (.iload_n 2, 1) := by decide +kernel
theorem dX9_grass_17 : decode cX9_grass 17 = .ok (.iadd, 1) := by decide +kernel
theorem dX9_grass_18 : decode cX9_grass 18 = .ok (.iaload, 1) := by decide +kernel
theorem dX9_grass_19 : decode cX9_grass 19 = .ok (.ifCond .ne 7, 3) := by decide +kernel
theorem dX9_grass_22 : decode cX9_grass 22 = .ok (.iconst 1, 1) := by decide +kernel
theorem dX9_grass_23 : decode cX9_grass 23 = .ok (.goto 4, 3) := by decide +kernel
theorem dX9_grass_26 : decode cX9_grass 26 = .ok (.iconst 0, 1) := by decide +kernel
theorem dX9_grass_27 : decode cX9_grass 27 = .ok (.iadd, 1) := by decide +kernel
theorem dX9_grass_28 : decode cX9_grass 28 = .ok (.istore_n 1, 1) := by decide +kernel
theorem dX9_grass_29 : decode cX9_grass 29 = .ok (.iinc 2 1, 3) := by decide +kernel
theorem dX9_grass_32 : decode cX9_grass 32 = .ok (.goto (-28), 3) := by decide +kernel
theorem dX9_grass_35 : decode cX9_grass 35 = .ok (.iload_n 1, 1) := by decide +kernel
theorem dX9_grass_36 : decode cX9_grass 36 = .ok (.ireturn, 1) := by decide +kernel
theorem dX9_rain_0 : decode cX9_rain 0 = .ok (.iload_n 1, 1) := by decide +kernel
theorem dX9_rain_1 : decode cX9_rain 1 = .ok (.i2l, 1) := by decide +kernel
theorem dX9_rain_2 : decode cX9_rain 2 = .ok (.lconst 1, 1) := by decide +kernel
theorem dX9_rain_3 : decode cX9_rain 3 = .ok (.ldc2_w 219, 3) := by decide +kernel
theorem dX9_rain_6 : decode cX9_rain 6 = .ok (.invokestatic 54, 3) := by decide +kernel
theorem dX9_rain_9 : decode cX9_rain 9 = .ok (.ifCond .ne 10, 3) := by decide +kernel
theorem dX9_rain_12 : decode cX9_rain 12 = .ok (.aload_n 0, 1) := by decide +kernel
theorem dX9_rain_13 : decode cX9_rain 13 = .ok (.ldc 46, 2) := by decide +kernel
theorem dX9_rain_15 : decode cX9_rain 15 = .ok (.invokevirtual 48, 3) := by decide +kernel
theorem dX9_rain_18 : decode cX9_rain 18 = .ok (.ireturn, 1) := by decide +kernel
theorem dX9_rain_19 : decode cX9_rain 19 = .ok (.iconst 0, 1) := by decide +kernel
theorem dX9_rain_20 : decode cX9_rain 20 = .ok (.istore_n 2, 1) := by decide +kernel
theorem dX9_rain_21 : decode cX9_rain 21 = .ok (.iload_n 2, 1) := by decide +kernel
theorem dX9_rain_22 : decode cX9_rain 22 = .ok (.iload_n 1, 1) := by decide +kernel
theorem dX9_rain_23 : decode cX9_rain 23 = .ok (.if_icmp .ge 31, 3) := by decide +kernel
theorem dX9_rain_26 : decode cX9_rain 26 = .ok (.aload_n 0, 1) := by decide +kernel
theorem dX9_rain_27 : decode cX9_rain 27 = .ok (.invokevirtual 146, 3) := by decide +kernel
theorem dX9_rain_30 : decode cX9_rain 30 = .ok (.bipush 30, 2) := by decide +kernel
theorem dX9_rain_32 : decode cX9_rain 32 = .ok (.irem, 1) := by decide +kernel
theorem dX9_rain_33 : decode cX9_rain 33 = .ok (.istore_n 3, 1) := by decide +kernel
theorem dX9_rain_34 : decode cX9_rain 34 = .ok (.aload_n 0, 1) := by decide +kernel
theorem dX9_rain_35 : decode cX9_rain 35 = .ok (.getfield 9, 3) := by decide +kernel
theorem dX9_rain_38 : decode cX9_rain 38 = .ok (.iconst 3, 1) := by decide +kernel
theorem dX9_rain_39 : decode cX9_rain 39 = .ok (.iload_n 3, 1) := by decide +kernel
theorem dX9_rain_40 : decode cX9_rain 40 = .ok (.iadd, 1) := by decide +kernel
theorem dX9_rain_41 : decode cX9_rain 41 = .ok (.aload_n 0, 1) := by decide +kernel
theorem dX9_rain_42 : decode cX9_rain 42 = .ok (.invokevirtual 146, 3) := by decide +kernel
theorem dX9_rain_45 : decode cX9_rain 45 = .ok (.iconst 5, 1) := by decide +kernel
theorem dX9_rain_46 : decode cX9_rain 46 = .ok (.irem, 1) := by decide +kernel
theorem dX9_rain_47 : decode cX9_rain 47 = .ok (.iastore, 1) := by decide +kernel
theorem dX9_rain_48 : decode cX9_rain 48 = .ok (.iinc 2 1, 3) := by decide +kernel
theorem dX9_rain_51 : decode cX9_rain 51 = .ok (.goto (-30), 3) := by decide +kernel
theorem dX9_rain_54 : decode cX9_rain 54 = .ok (.aload_n 0, 1) := by decide +kernel
theorem dX9_rain_55 : decode cX9_rain 55 = .ok (.invokevirtual 221, 3) := by decide +kernel
theorem dX9_rain_58 : decode cX9_rain 58 = .ok (.ireturn, 1) := by decide +kernel
theorem dX9_seed_0 : decode cX9_seed 0 = .ok (.aload_n 0, 1) := by decide +kernel
theorem dX9_seed_1 : decode cX9_seed 1 = .ok (.iconst 1, 1) := by decide +kernel
theorem dX9_seed_2 : decode cX9_seed 2 = .ok (.iload_n 1, 1) := by decide +kernel
theorem dX9_seed_3 : decode cX9_seed 3 = .ok (.invokevirtual 72, 3) := by decide +kernel
theorem dX9_seed_6 : decode cX9_seed 6 = .ok (.ireturn, 1) := by decide +kernel
theorem dX9_feed_0 : decode cX9_feed 0 = .ok (.iload_n 2, 1) := by decide +kernel
theorem dX9_feed_1 : decode cX9_feed 1 = .ok (.i2l, 1) := by decide +kernel
theorem dX9_feed_2 : decode cX9_feed 2 = .ok (.lconst 1, 1) := by decide +kernel
theorem dX9_feed_3 : decode cX9_feed 3 = .ok (.ldc2_w 70, 3) := by decide +kernel
theorem dX9_feed_6 : decode cX9_feed 6 = .ok (.invokestatic 54, 3) := by decide +kernel
theorem dX9_feed_9 : decode cX9_feed 9 = .ok (.ifCond .ne 10, 3) := by decide +kernel
theorem dX9_feed_12 : decode cX9_feed 12 = .ok (.aload_n 0, 1) := by decide +kernel
theorem dX9_feed_13 : decode cX9_feed 13 = .ok (.ldc 46, 2) := by decide +kernel
theorem dX9_feed_15 : decode cX9_feed 15 = .ok (.invokevirtual 48, 3) := by decide +kernel
theorem dX9_feed_18 : decode cX9_feed 18 = .ok (.ireturn, 1) := by decide +kernel
theorem dX9_feed_19 : decode cX9_feed 19 = .ok (.aload_n 0, 1) := by decide +kernel
theorem dX9_feed_20 : decode cX9_feed 20 = .ok (.getfield 224, 3) := by decide +kernel
theorem dX9_feed_23 : decode cX9_feed 23 = .ok (.iload_n 2, 1) := by decide +kernel
theorem dX9_feed_24 : decode cX9_feed 24 = .ok (.iadd, 1) := by decide +kernel
theorem dX9_feed_25 : decode cX9_feed 25 = .ok (.bipush 120, 2) := by decide +kernel
theorem dX9_feed_27 : decode cX9_feed 27 = .ok (.if_icmp .le 10, 3) := by decide +kernel
theorem dX9_feed_30 : decode cX9_feed 30 = .ok (.aload_n 0, 1) := by decide +kernel
theorem dX9_feed_31 : decode cX9_feed 31 = .ok (.ldc 86, 2) := by decide +kernel
theorem dX9_feed_33 : decode cX9_feed 33 = .ok (.invokevirtual 48, 3) := by decide +kernel
theorem dX9_feed_36 : decode cX9_feed 36 = .ok (.ireturn, 1) := by decide +kernel
theorem dX9_feed_37 : decode cX9_feed 37 = .ok (.iload_n 2, 1) := by decide +kernel
theorem dX9_feed_38 : decode cX9_feed 38 = .ok (.iconst 1, 1) := by decide +kernel
theorem dX9_feed_39 : decode cX9_feed 39 = .ok (.isub, 1) := by decide +kernel
theorem dX9_feed_40 : decode cX9_feed 40 = .ok (.istore_n 3, 1) := by decide +kernel
theorem dX9_feed_41 : decode cX9_feed 41 = .ok (.iload_n 3, 1) := by decide +kernel
theorem dX9_feed_42 : decode cX9_feed 42 = .ok (.ifCond .lt 38, 3) := by decide +kernel
theorem dX9_feed_45 : decode cX9_feed 45 = .ok (.aload_n 0, 1) := by decide +kernel
theorem dX9_feed_46 : decode cX9_feed 46 = .ok (.getfield 34, 3) := by decide +kernel
theorem dX9_feed_49 : decode cX9_feed 49 = .ok (.aload_n 0, 1) := by decide +kernel
theorem dX9_feed_50 : decode cX9_feed 50 = .ok (.getfield 224, 3) := by decide +kernel
theorem dX9_feed_53 : decode cX9_feed 53 = .ok (.iload_n 1, 1) := by decide +kernel
theorem dX9_feed_54 : decode cX9_feed 54 = .ok (.bipush 8, 2) := by decide +kernel
theorem dX9_feed_56 : decode cX9_feed 56 = .ok (.iload_n 3, 1) := by decide +kernel
theorem dX9_feed_57 : decode cX9_feed 57 = .ok (.imul, 1) := by decide +kernel
theorem dX9_feed_58 : decode cX9_feed 58 = .ok (.ishr, 1) := by decide +kernel
theorem dX9_feed_59 : decode cX9_feed 59 = .ok (.sipush 255, 3) := by decide +kernel
theorem dX9_feed_62 : decode cX9_feed 62 = .ok (.iand, 1) := by decide +kernel
theorem dX9_feed_63 : decode cX9_feed 63 = .ok (.iastore, 1) := by decide +kernel
theorem dX9_feed_64 : decode cX9_feed 64 = .ok (.aload_n 0, 1) := by decide +kernel
theorem dX9_feed_65 : decode cX9_feed 65 = .ok (.dup, 1) := by decide +kernel
theorem dX9_feed_66 : decode cX9_feed 66 = .ok (.getfield 224, 3) := by decide +kernel
theorem dX9_feed_69 : decode cX9_feed 69 = .ok (.iconst 1, 1) := by decide +kernel
theorem dX9_feed_70 : decode cX9_feed 70 = .ok (.iadd, 1) := by decide +kernel
theorem dX9_feed_71 : decode cX9_feed 71 = .ok (.putfield 224, 3) := by decide +kernel
theorem dX9_feed_74 : decode cX9_feed 74 = .ok (.iinc 3 (-1), 3) := by decide +kernel
theorem dX9_feed_77 : decode cX9_feed 77 = .ok (.goto (-36), 3) := by decide +kernel
theorem dX9_feed_80 : decode cX9_feed 80 = .ok (.aload_n 0, 1) := by decide +kernel
theorem dX9_feed_81 : decode cX9_feed 81 = .ok (.getfield 224, 3) := by decide +kernel
theorem dX9_feed_84 : decode cX9_feed 84 = .ok (.ireturn, 1) := by decide +kernel
theorem dX9_wipe_0 : decode cX9_wipe 0 = .ok (.aload_n 0, 1) := by decide +kernel
theorem dX9_wipe_1 : decode cX9_wipe 1 = .ok (.getfield 224, 3) := by decide +kernel
theorem dX9_wipe_4 : decode cX9_wipe 4 = .ok (.istore_n 1, 1) := by decide +kernel
theorem dX9_wipe_5 : decode cX9_wipe 5 = .ok (.aload_n 0, 1) := by decide +kernel
theorem dX9_wipe_6 : decode cX9_wipe 6 = .ok (.iconst 0, 1) := by decide +kernel
theorem dX9_wipe_7 : decode cX9_wipe 7 = .ok (.putfield 224, 3) := by decide +kernel
theorem dX9_wipe_10 : decode cX9_wipe 10 = .ok (.iload_n 1, 1) := by decide +kernel
theorem dX9_wipe_11 : decode cX9_wipe 11 = .ok (.ireturn, 1) := by decide +kernel
theorem dX9_isByte_0 : decode cX9_isByte 0 = .ok (.iload_n 1, 1) := by decide +kernel
theorem dX9_isByte_1 : decode cX9_isByte 1 = .ok (.aload_n 0, 1) := by decide +kernel
theorem dX9_isByte_2 : decode cX9_isByte 2 = .ok (.getfield 224, 3) := by decide +kernel
theorem dX9_isByte_5 : decode cX9_isByte 5 = .ok (.if_icmp .ge 24, 3) := by decide +kernel
theorem dX9_isByte_8 : decode cX9_isByte 8 = .ok (.aload_n 0, 1) := by decide +kernel
theorem dX9_isByte_9 : decode cX9_isByte 9 = .ok (.getfield 34, 3) := by decide +kernel
theorem dX9_isByte_12 : decode cX9_isByte 12 = .ok (.iload_n 1, 1) := by decide +kernel
theorem dX9_isByte_13 : decode cX9_isByte 13 = .ok (.iaload, 1) := by decide +kernel
theorem dX9_isByte_14 : decode cX9_isByte 14 = .ok (.i2l, 1) := by decide +kernel
theorem dX9_isByte_15 : decode cX9_isByte 15 = .ok (.iload_n 2, 1) := by decide +kernel
theorem dX9_isByte_16 : decode cX9_isByte 16 = .ok (.i2l, 1) := by decide +kernel
theorem dX9_isByte_17 : decode cX9_isByte 17 = .ok (.iload_n 3, 1) := by decide +kernel
theorem dX9_isByte_18 : decode cX9_isByte 18 = .ok (.i2l, 1) := by decide +kernel
theorem dX9_isByte_19 : decode cX9_isByte 19 = .ok (.invokestatic 54, 3) := by decide +kernel
theorem dX9_isByte_22 : decode cX9_isByte 22 = .ok (.ifCond .eq 7, 3) := by decide +kernel
theorem dX9_isByte_25 : decode cX9_isByte 25 = .ok (.iconst 1, 1) := by decide +kernel
theorem dX9_isByte_26 : decode cX9_isByte 26 = .ok (.goto 4, 3) := by decide +kernel
theorem dX9_isByte_29 : decode cX9_isByte 29 = .ok (.iconst 0, 1) := by decide +kernel
theorem dX9_isByte_30 : decode cX9_isByte 30 = .ok (.ireturn, 1) := by decide +kernel
theorem dX9_token_0 : decode cX9_token 0 = .ok (.aload_n 0, 1) := by decide +kernel
theorem dX9_token_1 : decode cX9_token 1 = .ok (.aload_n 0, 1) := by decide +kernel
theorem dX9_token_2 : decode cX9_token 2 = .ok (.getfield 228, 3) := by decide +kernel
theorem dX9_token_5 : decode cX9_token 5 = .ok (.putfield 231, 3) := by decide +kernel
theorem dX9_token_8 : decode cX9_token 8 = .ok (.aload_n 0, 1) := by decide +kernel
theorem dX9_token_9 : decode cX9_token 9 = .ok (.aload_n 0, 1) := by decide +kernel
theorem dX9_token_10 : decode cX9_token 10 = .ok (.getfield 231, 3) := by decide +kernel
theorem dX9_token_13 : decode cX9_token 13 = .ok (.bipush 32, 2) := by decide +kernel
theorem dX9_token_15 : decode cX9_token 15 = .ok (.bipush 32, 2) := by decide +kernel
theorem dX9_token_17 : decode cX9_token 17 = .ok (.invokevirtual 234, 3) := by decide +kernel
theorem dX9_token_20 : decode cX9_token 20 = .ok (.ifCond .eq 16, 3) := by decide +kernel
theorem dX9_token_23 : decode cX9_token 23 = .ok (.aload_n 0, 1) := by decide +kernel
theorem dX9_token_24 : decode cX9_token 24 = .ok (.dup, 1) := by decide +kernel
theorem dX9_token_25 : decode cX9_token 25 = .ok (.getfield 231, 3) := by decide +kernel
theorem dX9_token_28 : decode cX9_token 28 = .ok (.iconst 1, 1) := by decide +kernel
theorem dX9_token_29 : decode cX9_token 29 = .ok (.iadd, 1) := by decide +kernel
theorem dX9_token_30 : decode cX9_token 30 = .ok (.putfield 231, 3) := by decide +kernel
theorem dX9_token_33 : decode cX9_token 33 = .ok (.goto (-25), 3) := by decide +kernel
theorem dX9_token_36 : decode cX9_token 36 = .ok (.aload_n 0, 1) := by decide +kernel
theorem dX9_token_37 : decode cX9_token 37 = .ok (.aload_n 0, 1) := by decide +kernel
theorem dX9_token_38 : decode cX9_token 38 = .ok (.getfield 231, 3) := by decide +kernel
theorem dX9_token_41 : decode cX9_token 41 = .ok (.putfield 228, 3) := by decide +kernel
theorem dX9_token_44 : decode cX9_token 44 = .ok (.aload_n 0, 1) := by decide +kernel
theorem dX9_token_45 : decode cX9_token 45 = .ok (.iconst 0, 1) := by decide +kernel
theorem dX9_token_46 : decode cX9_token 46 = .ok (.putfield 238, 3) := by decide +kernel
theorem dX9_token_49 : decode cX9_token 49 = .ok (.aload_n 0, 1) := by decide +kernel
theorem dX9_token_50 : decode cX9_token 50 = .ok (.aload_n 0, 1) := by decide +kernel
theorem dX9_token_51 : decode cX9_token 51 = .ok (.getfield 231, 3) := by decide +kernel
theorem dX9_token_54 : decode cX9_token 54 = .ok (.aload_n 0, 1) := by decide +kernel
theorem dX9_token_55 : decode cX9_token 55 = .ok (.getfield 224, 3) := by decide +kernel
theorem dX9_token_58 : decode cX9_token 58 = .ok (.if_icmp .ne 7, 3) := by decide +kernel
theorem dX9_token_61 : decode cX9_token 61 = .ok (.iconst 0, 1) := by decide +kernel
theorem dX9_token_62 : decode cX9_token 62 = .ok (.goto 42, 3) := by decide +kernel
theorem dX9_token_65 : decode cX9_token 65 = .ok (.aload_n 0, 1) := by decide +kernel
theorem dX9_token_66 : decode cX9_token 66 = .ok (.aload_n 0, 1) := by decide +kernel
theorem dX9_token_67 : decode cX9_token 67 = .ok (.getfield 231, 3) := by decide +kernel
theorem dX9_token_70 : decode cX9_token 70 = .ok (.bipush 97, 2) := by decide +kernel
theorem dX9_token_72 : decode cX9_token 72 = .ok (.bipush 122, 2) := by decide +kernel
theorem dX9_token_74 : decode cX9_token 74 = .ok (.invokevirtual 234, 3) := by decide +kernel
theorem dX9_token_77 : decode cX9_token 77 = .ok (.ifCond .eq 7, 3) := by decide +kernel
theorem dX9_token_80 : decode cX9_token 80 = .ok (.iconst 1, 1) := by decide +kernel
theorem dX9_token_81 : decode cX9_token 81 = .ok (.goto 23, 3) := by decide +kernel
theorem dX9_token_84 : decode cX9_token 84 = .ok (.aload_n 0, 1) := by decide +kernel
theorem dX9_token_85 : decode cX9_token 85 = .ok (.aload_n 0, 1) := by decide +kernel
theorem dX9_token_86 : decode cX9_token 86 = .ok (.getfield 231, 3) := by decide +kernel
theorem dX9_token_89 : decode cX9_token 89 = .ok (.bipush 48, 2) := by decide +kernel
theorem dX9_token_91 : decode cX9_token 91 = .ok (.bipush 57, 2) := by decide +kernel
theorem dX9_token_93 : decode cX9_token 93 = .ok (.invokevirtual 234, 3) := by decide +kernel
theorem dX9_token_96 : decode cX9_token 96 = .ok (.ifCond .eq 7, 3) := by decide +kernel
theorem dX9_token_99 : decode cX9_token 99 = .ok (.iconst 2, 1) := by decide +kernel
theorem dX9_token_100 : decode cX9_token 100 = .ok (.goto 4, 3) := by decide +kernel
theorem dX9_token_103 : decode cX9_token 103 = .ok (.iconst 3, 1) := by decide +kernel
theorem dX9_token_104 : decode cX9_token 104 = .ok (.putfield 241, 3) := by decide +kernel
theorem dX9_token_107 : decode cX9_token 107 = .ok (.aload_n 0, 1) := by decide +kernel
theorem dX9_token_108 : decode cX9_token 108 = .ok (.getfield 241, 3) := by decide +kernel
theorem dX9_token_111 : decode cX9_token 111 = .ok (.iconst 3, 1) := by decide +kernel
theorem dX9_token_112 : decode cX9_token 112 = .ok (.if_icmp .ne 13, 3) := by decide +kernel
theorem dX9_token_115 : decode cX9_token 115 = .ok (.aload_n 0, 1) := by decide +kernel
theorem dX9_token_116 : decode cX9_token 116 = .ok (.dup, 1) := by decide +kernel
theorem dX9_token_117 : decode cX9_token 117 = .ok (.getfield 228, 3) := by decide +kernel
theorem dX9_token_120 : decode cX9_token 120 = .ok (.iconst 1, 1) := by decide +kernel
theorem dX9_token_121 : decode cX9_token 121 = .ok (.iadd, 1) := by decide +kernel
theorem dX9_token_122 : decode cX9_token 122 = .ok (.putfield 228, 3) := by decide +kernel
theorem dX9_token_125 : decode cX9_token 125 = .ok (.aload_n 0, 1) := by decide +kernel
theorem dX9_token_126 : decode cX9_token 126 = .ok (.getfield 241, 3) := by decide +kernel
theorem dX9_token_129 : decode cX9_token 129 = .ok (.iconst 1, 1) := by decide +kernel
theorem dX9_token_130 : decode cX9_token 130 = .ok (.if_icmp .ne 31, 3) := by decide +kernel
theorem dX9_token_133 : decode cX9_token 133 = .ok (.aload_n 0, 1) := by decide +kernel
theorem dX9_token_134 : decode cX9_token 134 = .ok (.aload_n 0, 1) := by decide +kernel
theorem dX9_token_135 : decode cX9_token 135 = .ok (.getfield 228, 3) := by decide +kernel
theorem dX9_token_138 : decode cX9_token 138 = .ok (.bipush 97, 2) := by decide +kernel
theorem dX9_token_140 : decode cX9_token 140 = .ok (.bipush 122, 2) := by decide +kernel
theorem dX9_token_142 : decode cX9_token 142 = .ok (.invokevirtual 234, 3) := by decide +kernel
theorem dX9_token_145 : decode cX9_token 145 = .ok (.ifCond .eq 16, 3) := by decide +kernel
theorem dX9_token_148 : decode cX9_token 148 = .ok (.aload_n 0, 1) := by decide +kernel
theorem dX9_token_149 : decode cX9_token 149 = .ok (.dup, 1) := by decide +kernel
theorem dX9_token_150 : decode cX9_token 150 = .ok (.getfield 228, 3) := by decide +kernel
theorem dX9_token_153 : decode cX9_token 153 = .ok (.iconst 1, 1) := by decide +kernel
theorem dX9_token_154 : decode cX9_token 154 = .ok (.iadd, 1) := by decide +kernel
theorem dX9_token_155 : decode cX9_token 155 = .ok (.putfield 228, 3) := by decide +kernel
theorem dX9_token_158 : decode cX9_token 158 = .ok (.goto (-33), 3) := by decide +kernel
theorem dX9_token_161 : decode cX9_token 161 = .ok (.aload_n 0, 1) := by decide +kernel
theorem dX9_token_162 : decode cX9_token 162 = .ok (.getfield 241, 3) := by decide +kernel
theorem dX9_token_165 : decode cX9_token 165 = .ok (.iconst 2, 1) := by decide +kernel
theorem dX9_token_166 : decode cX9_token 166 = .ok (.if_icmp .ne 72, 3) := by decide +kernel
theorem dX9_token_169 : decode cX9_token 169 = .ok (.aload_n 0, 1) := by decide +kernel
theorem dX9_token_170 : decode cX9_token 170 = .ok (.aload_n 0, 1) := by decide +kernel
theorem dX9_token_171 : decode cX9_token 171 = .ok (.getfield 228, 3) := by decide +kernel
theorem dX9_token_174 : decode cX9_token 174 = .ok (.bipush 48, 2) := by decide +kernel
theorem dX9_token_176 : decode cX9_token 176 = .ok (.bipush 57, 2) := by decide +kernel
theorem dX9_token_178 : decode cX9_token 178 = .ok (.invokevirtual 234, 3) := by decide +kernel
theorem dX9_token_181 : decode cX9_token 181 = .ok (.ifCond .eq 57, 3) := by decide +kernel
theorem dX9_token_184 : decode cX9_token 184 = .ok (.aload_n 0, 1) := by decide +kernel
theorem dX9_token_185 : decode cX9_token 185 = .ok (.aload_n 0, 1) := by decide +kernel
theorem dX9_token_186 : decode cX9_token 186 = .ok (.getfield 238, 3) := by decide +kernel
theorem dX9_token_189 : decode cX9_token 189 = .ok (.sipush 999, 3) := by decide +kernel
theorem dX9_token_192 : decode cX9_token 192 = .ok (.if_icmp .le 10, 3) := by decide +kernel
theorem dX9_token_195 : decode cX9_token 195 = .ok (.aload_n 0, 1) := by decide +kernel
theorem dX9_token_196 : decode cX9_token 196 = .ok (.getfield 238, 3) := by decide +kernel
theorem dX9_token_199 : decode cX9_token 199 = .ok (.goto 23, 3) := by decide +kernel
theorem dX9_token_202 : decode cX9_token 202 = .ok (.bipush 10, 2) := by decide +kernel
theorem dX9_token_204 : decode cX9_token 204 = .ok (.aload_n 0, 1) := by decide +kernel
theorem dX9_token_205 : decode cX9_token 205 = .ok (.getfield 238, 3) := by decide +kernel
theorem dX9_token_208 : decode cX9_token 208 = .ok (.imul, 1) := by decide +kernel
theorem dX9_token_209 : decode cX9_token 209 = .ok (.aload_n 0, 1) := by decide +kernel
theorem dX9_token_210 : decode cX9_token 210 = .ok (.getfield 34, 3) := by decide +kernel
theorem dX9_token_213 : decode cX9_token 213 = .ok (.aload_n 0, 1) := by decide +kernel
theorem dX9_token_214 : decode cX9_token 214 = .ok (.getfield 228, 3) := by decide +kernel
theorem dX9_token_217 : decode cX9_token 217 = .ok (.iaload, 1) := by decide +kernel
theorem dX9_token_218 : decode cX9_token 218 = .ok (.iadd, 1) := by decide +kernel
theorem dX9_token_219 : decode cX9_token 219 = .ok (.bipush 48, 2) := by decide +kernel
theorem dX9_token_221 : decode cX9_token 221 = .ok (.isub, 1) := by decide +kernel
theorem dX9_token_222 : decode cX9_token 222 = .ok (.putfield 238, 3) := by decide +kernel
theorem dX9_token_225 : decode cX9_token 225 = .ok (.aload_n 0, 1) := by decide +kernel
theorem dX9_token_226 : decode cX9_token 226 = .ok (.dup, 1) := by decide +kernel
theorem dX9_token_227 : decode cX9_token 227 = .ok (.getfield 228, 3) := by decide +kernel
theorem dX9_token_230 : decode cX9_token 230 = .ok (.iconst 1, 1) := by decide +kernel
theorem dX9_token_231 : decode cX9_token 231 = .ok (.iadd, 1) := by decide +kernel
theorem dX9_token_232 : decode cX9_token 232 = .ok (.putfield 228, 3) := by decide +kernel
theorem dX9_token_235 : decode cX9_token 235 = .ok (.goto (-74), 3) := by decide +kernel
theorem dX9_token_238 : decode cX9_token 238 = .ok (.return_, 1) := by decide +kernel
theorem dX9_isWord_0 : decode cX9_isWord 0 = .ok (.aload_n 0, 1) := by decide +kernel
theorem dX9_isWord_1 : decode cX9_isWord 1 = .ok (.getfield 244, 3) := by decide +kernel
theorem dX9_isWord_4 : decode cX9_isWord 4 = .ok (.ifCond .ne 31, 3) := by decide +kernel
theorem dX9_isWord_7 : decode cX9_isWord 7 = .ok (.aload_n 0, 1) := by decide +kernel
theorem dX9_isWord_8 : decode cX9_isWord 8 = .ok (.getfield 241, 3) := by decide +kernel
theorem dX9_isWord_11 : decode cX9_isWord 11 = .ok (.iconst 1, 1) := by decide +kernel
theorem dX9_isWord_12 : decode cX9_isWord 12 = .ok (.if_icmp .ne 23, 3) := by decide +kernel
theorem dX9_isWord_15 : decode cX9_isWord 15 = .ok (.aload_n 0, 1) := by decide +kernel
theorem dX9_isWord_16 : decode cX9_isWord 16 = .ok (.getfield 228, 3) := by decide +kernel
theorem dX9_isWord_19 : decode cX9_isWord 19 = .ok (.aload_n 0, 1) := by decide +kernel
theorem dX9_isWord_20 : decode cX9_isWord 20 = .ok (.getfield 231, 3) := by decide +kernel
theorem dX9_isWord_23 : decode cX9_isWord 23 = .ok (.isub, 1) := by decide +kernel
theorem dX9_isWord_24 : decode cX9_isWord 24 = .ok (.aload_n 1, 1) := by decide +kernel
theorem dX9_isWord_25 : decode cX9_isWord 25 = .ok (.invokevirtual 248, 3) := by decide +kernel
theorem dX9_isWord_28 : decode cX9_isWord 28 = .ok (.if_icmp .ne 7, 3) := by decide +kernel
theorem dX9_isWord_31 : decode cX9_isWord 31 = .ok (.iconst 1, 1) := by decide +kernel
theorem dX9_isWord_32 : decode cX9_isWord 32 = .ok (.goto 4, 3) := by decide +kernel
theorem dX9_isWord_35 : decode cX9_isWord 35 = .ok (.iconst 0, 1) := by decide +kernel
theorem dX9_isWord_36 : decode cX9_isWord 36 = .ok (.istore_n 2, 1) := by decide +kernel
theorem dX9_isWord_37 : decode cX9_isWord 37 = .ok (.iconst 0, 1) := by decide +kernel
theorem dX9_isWord_38 : decode cX9_isWord 38 = .ok (.istore_n 3, 1) := by decide +kernel
theorem dX9_isWord_39 : decode cX9_isWord 39 = .ok (.iload_n 2, 1) := by decide +kernel
theorem dX9_isWord_40 : decode cX9_isWord 40 = .ok (.ifCond .eq 42, 3) := by decide +kernel
theorem dX9_isWord_43 : decode cX9_isWord 43 = .ok (.iload_n 3, 1) := by decide +kernel
theorem dX9_isWord_44 : decode cX9_isWord 44 = .ok (.aload_n 1, 1) := by decide +kernel
theorem dX9_isWord_45 : decode cX9_isWord 45 = .ok (.invokevirtual 248, 3) := by decide +kernel
theorem dX9_isWord_48 : decode cX9_isWord 48 = .ok (.if_icmp .ge 34, 3) := by decide +kernel
theorem dX9_isWord_51 : decode cX9_isWord 51 = .ok (.aload_n 0, 1) := by decide +kernel
theorem dX9_isWord_52 : decode cX9_isWord 52 = .ok (.getfield 34, 3) := by decide +kernel
theorem dX9_isWord_55 : decode cX9_isWord 55 = .ok (.aload_n 0, 1) := by decide +kernel
theorem dX9_isWord_56 : decode cX9_isWord 56 = .ok (.getfield 231, 3) := by decide +kernel
theorem dX9_isWord_59 : decode cX9_isWord 59 = .ok (.iload_n 3, 1) := by decide +kernel
theorem dX9_isWord_60 : decode cX9_isWord 60 = .ok (.iadd, 1) := by decide +kernel
theorem dX9_isWord_61 : decode cX9_isWord 61 = .ok (.iaload, 1) := by decide +kernel
theorem dX9_isWord_62 : decode cX9_isWord 62 = .ok (.aload_n 1, 1) := by decide +kernel
theorem dX9_isWord_63 : decode cX9_isWord 63 = .ok (.iload_n 3, 1) := by decide +kernel
theorem dX9_isWord_64 : decode cX9_isWord 64 = .ok (.invokevirtual 253, 3) := by decide +kernel
theorem dX9_isWord_67 : decode cX9_isWord 67 = .ok (.if_icmp .ne 7, 3) := by decide +kernel
theorem dX9_isWord_70 : decode cX9_isWord 70 = .ok (.iconst 1, 1) := by decide +kernel
theorem dX9_isWord_71 : decode cX9_isWord 71 = .ok (.goto 4, 3) := by decide +kernel
theorem dX9_isWord_74 : decode cX9_isWord 74 = .ok (.iconst 0, 1) := by decide +kernel
theorem dX9_isWord_75 : decode cX9_isWord 75 = .ok (.istore_n 2, 1) := by decide +kernel
theorem dX9_isWord_76 : decode cX9_isWord 76 = .ok (.iinc 3 1, 3) := by decide +kernel
theorem dX9_isWord_79 : decode cX9_isWord 79 = .ok (.goto (-40), 3) := by decide +kernel
theorem dX9_isWord_82 : decode cX9_isWord 82 = .ok (.iload_n 2, 1) := by decide +kernel
theorem dX9_isWord_83 : decode cX9_isWord 83 = .ok (.ireturn, 1) := by decide +kernel
theorem dX9_takes__0 : decode cX9_takes_ 0 = .ok (.aload_n 0, 1) := by decide +kernel
theorem dX9_takes__1 : decode cX9_takes_ 1 = .ok (.aload_n 1, 1) := by decide +kernel
theorem dX9_takes__2 : decode cX9_takes_ 2 = .ok (.invokevirtual 257, 3) := by decide +kernel
theorem dX9_takes__5 : decode cX9_takes_ 5 = .ok (.ifCond .ne 5, 3) := by decide +kernel
theorem dX9_takes__8 : decode cX9_takes_ 8 = .ok (.iconst 0, 1) := by decide +kernel
theorem dX9_takes__9 : decode cX9_takes_ 9 = .ok (.ireturn, 1) := by decide +kernel
theorem dX9_takes__10 : decode cX9_takes_ 10 = .ok (.aload_n 0, 1) := by decide +kernel
theorem dX9_takes__11 : decode cX9_takes_ 11 = .ok (.invokevirtual 261, 3) := by decide +kernel
theorem dX9_takes__14 : decode cX9_takes_ 14 = .ok (.iconst 1, 1) := by decide +kernel
theorem dX9_takes__15 : decode cX9_takes_ 15 = .ok (.ireturn, 1) := by decide +kernel
theorem dX9_isSign_0 : decode cX9_isSign 0 = .ok (.aload_n 0, 1) := by decide +kernel
theorem dX9_isSign_1 : decode cX9_isSign 1 = .ok (.getfield 244, 3) := by decide +kernel
theorem dX9_isSign_4 : decode cX9_isSign 4 = .ok (.ifCond .ne 28, 3) := by decide +kernel
theorem dX9_isSign_7 : decode cX9_isSign 7 = .ok (.aload_n 0, 1) := by decide +kernel
theorem dX9_isSign_8 : decode cX9_isSign 8 = .ok (.getfield 241, 3) := by decide +kernel
theorem dX9_isSign_11 : decode cX9_isSign 11 = .ok (.iconst 3, 1) := by decide +kernel
theorem dX9_isSign_12 : decode cX9_isSign 12 = .ok (.if_icmp .ne 20, 3) := by decide +kernel
theorem dX9_isSign_15 : decode cX9_isSign 15 = .ok (.aload_n 0, 1) := by decide +kernel
theorem dX9_isSign_16 : decode cX9_isSign 16 = .ok (.getfield 34, 3) := by decide +kernel
theorem dX9_isSign_19 : decode cX9_isSign 19 = .ok (.aload_n 0, 1) := by decide +kernel
theorem dX9_isSign_20 : decode cX9_isSign 20 = .ok (.getfield 231, 3) := by decide +kernel
theorem dX9_isSign_23 : decode cX9_isSign 23 = .ok (.iaload, 1) := by decide +kernel
theorem dX9_isSign_24 : decode cX9_isSign 24 = .ok (.iload_n 1, 1) := by decide +kernel
theorem dX9_isSign_25 : decode cX9_isSign 25 = .ok (.if_icmp .ne 7, 3) := by decide +kernel
theorem dX9_isSign_28 : decode cX9_isSign 28 = .ok (.iconst 1, 1) := by decide +kernel
theorem dX9_isSign_29 : decode cX9_isSign 29 = .ok (.goto 4, 3) := by decide +kernel
theorem dX9_isSign_32 : decode cX9_isSign 32 = .ok (.iconst 0, 1) := by decide +kernel
theorem dX9_isSign_33 : decode cX9_isSign 33 = .ok (.ireturn, 1) := by decide +kernel
theorem dX9_number_0 : decode cX9_number 0 = .ok (.aload_n 0, 1) := by decide +kernel
theorem dX9_number_1 : decode cX9_number 1 = .ok (.aload_n 0, 1) := by decide +kernel
theorem dX9_number_2 : decode cX9_number 2 = .ok (.getfield 244, 3) := by decide +kernel
theorem dX9_number_5 : decode cX9_number 5 = .ok (.ifCond .ne 26, 3) := by decide +kernel
theorem dX9_number_8 : decode cX9_number 8 = .ok (.aload_n 0, 1) := by decide +kernel
theorem dX9_number_9 : decode cX9_number 9 = .ok (.getfield 241, 3) := by decide +kernel
theorem dX9_number_12 : decode cX9_number 12 = .ok (.iconst 2, 1) := by decide +kernel
theorem dX9_number_13 : decode cX9_number 13 = .ok (.if_icmp .ne 18, 3) := by decide +kernel
theorem dX9_number_16 : decode cX9_number 16 = .ok (.aload_n 0, 1) := by decide +kernel
theorem dX9_number_17 : decode cX9_number 17 = .ok (.getfield 238, 3) := by decide +kernel
theorem dX9_number_20 : decode cX9_number 20 = .ok (.i2l, 1) := by decide +kernel
theorem dX9_number_21 : decode cX9_number 21 = .ok (.iload_n 1, 1) := by decide +kernel
theorem dX9_number_22 : decode cX9_number 22 = .ok (.i2l, 1) := by decide +kernel
theorem dX9_number_23 : decode cX9_number 23 = .ok (.iload_n 2, 1) := by decide +kernel
theorem dX9_number_24 : decode cX9_number 24 = .ok (.i2l, 1) := by decide +kernel
theorem dX9_number_25 : decode cX9_number 25 = .ok (.invokestatic 54, 3) := by decide +kernel
theorem dX9_number_28 : decode cX9_number 28 = .ok (.ifCond .ne 7, 3) := by decide +kernel
theorem dX9_number_31 : decode cX9_number 31 = .ok (.iconst 1, 1) := by decide +kernel
theorem dX9_number_32 : decode cX9_number 32 = .ok (.goto 4, 3) := by decide +kernel
theorem dX9_number_35 : decode cX9_number 35 = .ok (.iconst 0, 1) := by decide +kernel
theorem dX9_number_36 : decode cX9_number 36 = .ok (.putfield 244, 3) := by decide +kernel
theorem dX9_number_39 : decode cX9_number 39 = .ok (.aload_n 0, 1) := by decide +kernel
theorem dX9_number_40 : decode cX9_number 40 = .ok (.getfield 238, 3) := by decide +kernel
theorem dX9_number_43 : decode cX9_number 43 = .ok (.istore_n 3, 1) := by decide +kernel
theorem dX9_number_44 : decode cX9_number 44 = .ok (.aload_n 0, 1) := by decide +kernel
theorem dX9_number_45 : decode cX9_number 45 = .ok (.getfield 244, 3) := by decide +kernel
theorem dX9_number_48 : decode cX9_number 48 = .ok (.ifCond .ne 7, 3) := by decide +kernel
theorem dX9_number_51 : decode cX9_number 51 = .ok (.aload_n 0, 1) := by decide +kernel
theorem dX9_number_52 : decode cX9_number 52 = .ok (.invokevirtual 261, 3) := by decide +kernel
theorem dX9_number_55 : decode cX9_number 55 = .ok (.iload_n 3, 1) := by decide +kernel
theorem dX9_number_56 : decode cX9_number 56 = .ok (.ireturn, 1) := by decide +kernel
theorem dX9_groundHere_0 : decode cX9_groundHere 0 = .ok (.aload_n 0, 1) := by decide +kernel
theorem dX9_groundHere_1 : decode cX9_groundHere 1 = .ok (.ldc_w 264, 3) := by decide +kernel
theorem dX9_groundHere_4 : decode cX9_groundHere 4 = .ok (.invokevirtual 257, 3) := by decide +kernel
theorem dX9_groundHere_7 : decode cX9_groundHere 7 = .ok (.ifCond .eq 5, 3) := by decide +kernel
theorem dX9_groundHere_10 : decode cX9_groundHere 10 = .ok (.iconst 0, 1) := by decide +kernel
theorem dX9_groundHere_11 : decode cX9_groundHere 11 = .ok (.ireturn, 1) := by decide +kernel
theorem dX9_groundHere_12 : decode cX9_groundHere 12 = .ok (.aload_n 0, 1) := by decide +kernel
theorem dX9_groundHere_13 : decode cX9_groundHere 13 = .ok (.ldc_w 265, 3) := by decide +kernel
theorem dX9_groundHere_16 : decode cX9_groundHere 16 = .ok (.invokevirtual 257, 3) := by decide +kernel
theorem dX9_groundHere_19 : decode cX9_groundHere 19 = .ok (.ifCond .eq 5, 3) := by decide +kernel
theorem dX9_groundHere_22 : decode cX9_groundHere 22 = .ok (.iconst 1, 1) := by decide +kernel
theorem dX9_groundHere_23 : decode cX9_groundHere 23 = .ok (.ireturn, 1) := by decide +kernel
theorem dX9_groundHere_24 : decode cX9_groundHere 24 = .ok (.aload_n 0, 1) := by decide +kernel
theorem dX9_groundHere_25 : decode cX9_groundHere 25 = .ok (.ldc_w 267, 3) := by decide +kernel
theorem dX9_groundHere_28 : decode cX9_groundHere 28 = .ok (.invokevirtual 257, 3) := by decide +kernel
theorem dX9_groundHere_31 : decode cX9_groundHere 31 = .ok (.ifCond .eq 5, 3) := by decide +kernel
theorem dX9_groundHere_34 : decode cX9_groundHere 34 = .ok (.iconst 2, 1) := by decide +kernel
theorem dX9_groundHere_35 : decode cX9_groundHere 35 = .ok (.ireturn, 1) := by decide +kernel
theorem dX9_groundHere_36 : decode cX9_groundHere 36 = .ok (.aload_n 0, 1) := by decide +kernel
theorem dX9_groundHere_37 : decode cX9_groundHere 37 = .ok (.ldc_w 269, 3) := by decide +kernel
theorem dX9_groundHere_40 : decode cX9_groundHere 40 = .ok (.invokevirtual 257, 3) := by decide +kernel
theorem dX9_groundHere_43 : decode cX9_groundHere 43 = .ok (.ifCond .eq 7, 3) := by decide +kernel
theorem dX9_groundHere_46 : decode cX9_groundHere 46 = .ok (.iconst 3, 1) := by decide +kernel
theorem dX9_groundHere_47 : decode cX9_groundHere 47 = .ok (.goto 18, 3) := by decide +kernel
theorem dX9_groundHere_50 : decode cX9_groundHere 50 = .ok (.aload_n 0, 1) := by decide +kernel
theorem dX9_groundHere_51 : decode cX9_groundHere 51 = .ok (.ldc_w 271, 3) := by decide +kernel
theorem dX9_groundHere_54 : decode cX9_groundHere 54 = .ok (.invokevirtual 257, 3) := by decide +kernel
theorem dX9_groundHere_57 : decode cX9_groundHere 57 = .ok (.ifCond .eq 7, 3) := by decide +kernel
theorem dX9_groundHere_60 : decode cX9_groundHere 60 = .ok (.iconst 4, 1) := by decide +kernel
theorem dX9_groundHere_61 : decode cX9_groundHere 61 = .ok (.goto 4, 3) := by decide +kernel
theorem dX9_groundHere_64 : decode cX9_groundHere 64 = .ok (.iconst (-1), 1) := by decide +kernel
theorem dX9_groundHere_65 : decode cX9_groundHere 65 = .ok (.ireturn, 1) := by decide +kernel
theorem dX9_kindHere_0 : decode cX9_kindHere 0 = .ok (.aload_n 0, 1) := by decide +kernel
theorem dX9_kindHere_1 : decode cX9_kindHere 1 = .ok (.ldc_w 273, 3) := by decide +kernel
theorem dX9_kindHere_4 : decode cX9_kindHere 4 = .ok (.invokevirtual 257, 3) := by decide +kernel
theorem dX9_kindHere_7 : decode cX9_kindHere 7 = .ok (.ifCond .eq 5, 3) := by decide +kernel
theorem dX9_kindHere_10 : decode cX9_kindHere 10 = .ok (.iconst 0, 1) := by decide +kernel
theorem dX9_kindHere_11 : decode cX9_kindHere 11 = .ok (.ireturn, 1) := by decide +kernel
theorem dX9_kindHere_12 : decode cX9_kindHere 12 = .ok (.aload_n 0, 1) := by decide +kernel
theorem dX9_kindHere_13 : decode cX9_kindHere 13 = .ok (.ldc_w 275, 3) := by decide +kernel
theorem dX9_kindHere_16 : decode cX9_kindHere 16 = .ok (.invokevirtual 257, 3) := by decide +kernel
theorem dX9_kindHere_19 : decode cX9_kindHere 19 = .ok (.ifCond .eq 5, 3) := by decide +kernel
theorem dX9_kindHere_22 : decode cX9_kindHere 22 = .ok (.iconst 1, 1) := by decide +kernel
theorem dX9_kindHere_23 : decode cX9_kindHere 23 = .ok (.ireturn, 1) := by decide +kernel
theorem dX9_kindHere_24 : decode cX9_kindHere 24 = .ok (.aload_n 0, 1) := by decide +kernel
theorem dX9_kindHere_25 : decode cX9_kindHere 25 = .ok (.ldc_w 277, 3) := by decide +kernel
theorem dX9_kindHere_28 : decode cX9_kindHere 28 = .ok (.invokevirtual 257, 3) := by decide +kernel
theorem dX9_kindHere_31 : decode cX9_kindHere 31 = .ok (.ifCond .eq 5, 3) := by decide +kernel
theorem dX9_kindHere_34 : decode cX9_kindHere 34 = .ok (.iconst 2, 1) := by decide +kernel
theorem dX9_kindHere_35 : decode cX9_kindHere 35 = .ok (.ireturn, 1) := by decide +kernel
theorem dX9_kindHere_36 : decode cX9_kindHere 36 = .ok (.aload_n 0, 1) := by decide +kernel
theorem dX9_kindHere_37 : decode cX9_kindHere 37 = .ok (.ldc_w 279, 3) := by decide +kernel
theorem dX9_kindHere_40 : decode cX9_kindHere 40 = .ok (.invokevirtual 257, 3) := by decide +kernel
theorem dX9_kindHere_43 : decode cX9_kindHere 43 = .ok (.ifCond .eq 5, 3) := by decide +kernel
theorem dX9_kindHere_46 : decode cX9_kindHere 46 = .ok (.iconst 3, 1) := by decide +kernel
theorem dX9_kindHere_47 : decode cX9_kindHere 47 = .ok (.ireturn, 1) := by decide +kernel
theorem dX9_kindHere_48 : decode cX9_kindHere 48 = .ok (.aload_n 0, 1) := by decide +kernel
theorem dX9_kindHere_49 : decode cX9_kindHere 49 = .ok (.ldc_w 281, 3) := by decide +kernel
theorem dX9_kindHere_52 : decode cX9_kindHere 52 = .ok (.invokevirtual 257, 3) := by decide +kernel
theorem dX9_kindHere_55 : decode cX9_kindHere 55 = .ok (.ifCond .eq 5, 3) := by decide +kernel
theorem dX9_kindHere_58 : decode cX9_kindHere 58 = .ok (.iconst 4, 1) := by decide +kernel
theorem dX9_kindHere_59 : decode cX9_kindHere 59 = .ok (.ireturn, 1) := by decide +kernel
theorem dX9_kindHere_60 : decode cX9_kindHere 60 = .ok (.aload_n 0, 1) := by decide +kernel
theorem dX9_kindHere_61 : decode cX9_kindHere 61 = .ok (.ldc_w 283, 3) := by decide +kernel
theorem dX9_kindHere_64 : decode cX9_kindHere 64 = .ok (.invokevirtual 257, 3) := by decide +kernel
theorem dX9_kindHere_67 : decode cX9_kindHere 67 = .ok (.ifCond .eq 7, 3) := by decide +kernel
theorem dX9_kindHere_70 : decode cX9_kindHere 70 = .ok (.iconst 5, 1) := by decide +kernel
theorem dX9_kindHere_71 : decode cX9_kindHere 71 = .ok (.goto 19, 3) := by decide +kernel
theorem dX9_kindHere_74 : decode cX9_kindHere 74 = .ok (.aload_n 0, 1) := by decide +kernel
theorem dX9_kindHere_75 : decode cX9_kindHere 75 = .ok (.ldc_w 285, 3) := by decide +kernel
theorem dX9_kindHere_78 : decode cX9_kindHere 78 = .ok (.invokevirtual 257, 3) := by decide +kernel
theorem dX9_kindHere_81 : decode cX9_kindHere 81 = .ok (.ifCond .eq 8, 3) := by decide +kernel
theorem dX9_kindHere_84 : decode cX9_kindHere 84 = .ok (.bipush 6, 2) := by decide +kernel
theorem dX9_kindHere_86 : decode cX9_kindHere 86 = .ok (.goto 4, 3) := by decide +kernel
theorem dX9_kindHere_89 : decode cX9_kindHere 89 = .ok (.iconst (-1), 1) := by decide +kernel
theorem dX9_kindHere_90 : decode cX9_kindHere 90 = .ok (.ireturn, 1) := by decide +kernel
theorem dX9_groundItem_0 : decode cX9_groundItem 0 = .ok (.aload_n 0, 1) := by decide +kernel
theorem dX9_groundItem_1 : decode cX9_groundItem 1 = .ok (.invokevirtual 261, 3) := by decide +kernel
theorem dX9_groundItem_4 : decode cX9_groundItem 4 = .ok (.aload_n 0, 1) := by decide +kernel
theorem dX9_groundItem_5 : decode cX9_groundItem 5 = .ok (.iconst 0, 1) := by decide +kernel
theorem dX9_groundItem_6 : decode cX9_groundItem 6 = .ok (.bipush 29, 2) := by decide +kernel
theorem dX9_groundItem_8 : decode cX9_groundItem 8 = .ok (.invokevirtual 287, 3) := by decide +kernel
theorem dX9_groundItem_11 : decode cX9_groundItem 11 = .ok (.istore_n 2, 1) := by decide +kernel
theorem dX9_groundItem_12 : decode cX9_groundItem 12 = .ok (.aload_n 0, 1) := by decide +kernel
theorem dX9_groundItem_13 : decode cX9_groundItem 13 = .ok (.ldc_w 289, 3) := by decide +kernel
theorem dX9_groundItem_16 : decode cX9_groundItem 16 = .ok (.invokevirtual 290, 3) := by decide +kernel
theorem dX9_groundItem_19 : decode cX9_groundItem 19 = .ok (.ifCond .eq 13, 3) := by decide +kernel
theorem dX9_groundItem_22 : decode cX9_groundItem 22 = .ok (.aload_n 0, 1) := by decide +kernel
theorem dX9_groundItem_23 : decode cX9_groundItem 23 = .ok (.iload_n 2, 1) := by decide +kernel
theorem dX9_groundItem_24 : decode cX9_groundItem 24 = .ok (.bipush 29, 2) := by decide +kernel
theorem dX9_groundItem_26 : decode cX9_groundItem 26 = .ok (.invokevirtual 287, 3) := by decide +kernel
theorem dX9_groundItem_29 : decode cX9_groundItem 29 = .ok (.goto 4, 3) := by decide +kernel
theorem dX9_groundItem_32 : decode cX9_groundItem 32 = .ok (.iload_n 2, 1) := by decide +kernel
theorem dX9_groundItem_33 : decode cX9_groundItem 33 = .ok (.istore_n 3, 1) := by decide +kernel
theorem dX9_groundItem_34 : decode cX9_groundItem 34 = .ok (.iload_n 2, 1) := by decide +kernel
theorem dX9_groundItem_35 : decode cX9_groundItem 35 = .ok (.istore 4, 2) := by decide +kernel
theorem dX9_groundItem_37 : decode cX9_groundItem 37 = .ok (.iload 4, 2) := by decide +kernel
theorem dX9_groundItem_39 : decode cX9_groundItem 39 = .ok (.iload_n 3, 1) := by decide +kernel
theorem dX9_groundItem_40 : decode cX9_groundItem 40 = .ok (.if_icmp .gt 26, 3) := by decide +kernel
theorem dX9_groundItem_43 : decode cX9_groundItem 43 = .ok (.aload_n 0, 1) := by decide +kernel
theorem dX9_groundItem_44 : decode cX9_groundItem 44 = .ok (.getfield 244, 3) := by decide +kernel
theorem dX9_groundItem_47 : decode cX9_groundItem 47 = .ok (.ifCond .ne 19, 3) := by decide +kernel
theorem dX9_groundItem_50 : decode cX9_groundItem 50 = .ok (.aload_n 0, 1) := by decide +kernel
theorem dX9_groundItem_51 : decode cX9_groundItem 51 = .ok (.getfield 9, 3) := by decide +kernel
theorem dX9_groundItem_54 : decode cX9_groundItem 54 = .ok (.iconst 3, 1) := by decide +kernel
theorem dX9_groundItem_55 : decode cX9_groundItem 55 = .ok (.iload 4, 2) := by decide +kernel
theorem dX9_groundItem_57 : decode cX9_groundItem 57 = .ok (.iadd, 1) := by decide +kernel
theorem dX9_groundItem_58 : decode cX9_groundItem 58 = .ok (.iload_n 1, 1) := by decide +kernel
theorem dX9_groundItem_59 : decode cX9_groundItem 59 = .ok (.iastore, 1) := by decide +kernel
theorem dX9_groundItem_60 : decode cX9_groundItem 60 = .ok (.iinc 4 1, 3) := by decide +kernel
theorem dX9_groundItem_63 : decode cX9_groundItem 63 = .ok (.goto (-26), 3) := by decide +kernel
theorem dX9_groundItem_66 : decode cX9_groundItem 66 = .ok (.return_, 1) := by decide +kernel
theorem dX9_runnerItem_0 : decode cX9_runnerItem 0 = .ok (.aload_n 0, 1) := by decide +kernel
theorem dX9_runnerItem_1 : decode cX9_runnerItem 1 = .ok (.aload_n 0, 1) := by decide +kernel
theorem dX9_runnerItem_2 : decode cX9_runnerItem 2 = .ok (.getfield 244, 3) := by decide +kernel
theorem dX9_runnerItem_5 : decode cX9_runnerItem 5 = .ok (.ifCond .ne 18, 3) := by decide +kernel
theorem dX9_runnerItem_8 : decode cX9_runnerItem 8 = .ok (.iload_n 1, 1) := by decide +kernel
theorem dX9_runnerItem_9 : decode cX9_runnerItem 9 = .ok (.ifCond .lt 14, 3) := by decide +kernel
theorem dX9_runnerItem_12 : decode cX9_runnerItem 12 = .ok (.aload_n 0, 1) := by decide +kernel
theorem dX9_runnerItem_13 : decode cX9_runnerItem 13 = .ok (.getfield 9, 3) := by decide +kernel
theorem dX9_runnerItem_16 : decode cX9_runnerItem 16 = .ok (.iconst 2, 1) := by decide +kernel
theorem dX9_runnerItem_17 : decode cX9_runnerItem 17 = .ok (.iaload, 1) := by decide +kernel
theorem dX9_runnerItem_18 : decode cX9_runnerItem 18 = .ok (.bipush 6, 2) := by decide +kernel
theorem dX9_runnerItem_20 : decode cX9_runnerItem 20 = .ok (.if_icmp .ne 7, 3) := by decide +kernel
theorem dX9_runnerItem_23 : decode cX9_runnerItem 23 = .ok (.iconst 1, 1) := by decide +kernel
theorem dX9_runnerItem_24 : decode cX9_runnerItem 24 = .ok (.goto 4, 3) := by decide +kernel
theorem dX9_runnerItem_27 : decode cX9_runnerItem 27 = .ok (.iconst 0, 1) := by decide +kernel
theorem dX9_runnerItem_28 : decode cX9_runnerItem 28 = .ok (.putfield 244, 3) := by decide +kernel
theorem dX9_runnerItem_31 : decode cX9_runnerItem 31 = .ok (.aload_n 0, 1) := by decide +kernel
theorem dX9_runnerItem_32 : decode cX9_runnerItem 32 = .ok (.getfield 244, 3) := by decide +kernel
theorem dX9_runnerItem_35 : decode cX9_runnerItem 35 = .ok (.ifCond .eq 4, 3) := by decide +kernel
theorem dX9_runnerItem_38 : decode cX9_runnerItem 38 = .ok (.return_, 1) := by decide +kernel
theorem dX9_runnerItem_39 : decode cX9_runnerItem 39 = .ok (.aload_n 0, 1) := by decide +kernel
theorem dX9_runnerItem_40 : decode cX9_runnerItem 40 = .ok (.invokevirtual 261, 3) := by decide +kernel
theorem dX9_runnerItem_43 : decode cX9_runnerItem 43 = .ok (.aload_n 0, 1) := by decide +kernel
theorem dX9_runnerItem_44 : decode cX9_runnerItem 44 = .ok (.ldc_w 292, 3) := by decide +kernel
theorem dX9_runnerItem_47 : decode cX9_runnerItem 47 = .ok (.invokevirtual 290, 3) := by decide +kernel
theorem dX9_runnerItem_50 : decode cX9_runnerItem 50 = .ok (.ifCond .eq 13, 3) := by decide +kernel
theorem dX9_runnerItem_53 : decode cX9_runnerItem 53 = .ok (.aload_n 0, 1) := by decide +kernel
theorem dX9_runnerItem_54 : decode cX9_runnerItem 54 = .ok (.iconst 0, 1) := by decide +kernel
theorem dX9_runnerItem_55 : decode cX9_runnerItem 55 = .ok (.bipush 9, 2) := by decide +kernel
theorem dX9_runnerItem_57 : decode cX9_runnerItem 57 = .ok (.invokevirtual 287, 3) := by decide +kernel
theorem dX9_runnerItem_60 : decode cX9_runnerItem 60 = .ok (.goto 4, 3) := by decide +kernel
theorem dX9_runnerItem_63 : decode cX9_runnerItem 63 = .ok (.iconst 4, 1) := by decide +kernel
theorem dX9_runnerItem_64 : decode cX9_runnerItem 64 = .ok (.istore_n 2, 1) := by decide +kernel
theorem dX9_runnerItem_65 : decode cX9_runnerItem 65 = .ok (.aload_n 0, 1) := by decide +kernel
theorem dX9_runnerItem_66 : decode cX9_runnerItem 66 = .ok (.ldc_w 294, 3) := by decide +kernel
theorem dX9_runnerItem_69 : decode cX9_runnerItem 69 = .ok (.invokevirtual 290, 3) := by decide +kernel
theorem dX9_runnerItem_72 : decode cX9_runnerItem 72 = .ok (.ifCond .eq 12, 3) := by decide +kernel
theorem dX9_runnerItem_75 : decode cX9_runnerItem 75 = .ok (.aload_n 0, 1) := by decide +kernel
theorem dX9_runnerItem_76 : decode cX9_runnerItem 76 = .ok (.iconst 0, 1) := by decide +kernel
theorem dX9_runnerItem_77 : decode cX9_runnerItem 77 = .ok (.iconst 5, 1) := by decide +kernel
theorem dX9_runnerItem_78 : decode cX9_runnerItem 78 = .ok (.invokevirtual 287, 3) := by decide +kernel
theorem dX9_runnerItem_81 : decode cX9_runnerItem 81 = .ok (.goto 4, 3) := by decide +kernel
theorem dX9_runnerItem_84 : decode cX9_runnerItem 84 = .ok (.iconst 1, 1) := by decide +kernel
theorem dX9_runnerItem_85 : decode cX9_runnerItem 85 = .ok (.istore_n 3, 1) := by decide +kernel
theorem dX9_runnerItem_86 : decode cX9_runnerItem 86 = .ok (.aload_n 0, 1) := by decide +kernel
theorem dX9_runnerItem_87 : decode cX9_runnerItem 87 = .ok (.ldc_w 296, 3) := by decide +kernel
theorem dX9_runnerItem_90 : decode cX9_runnerItem 90 = .ok (.invokevirtual 290, 3) := by decide +kernel
theorem dX9_runnerItem_93 : decode cX9_runnerItem 93 = .ok (.ifCond .eq 13, 3) := by decide +kernel
theorem dX9_runnerItem_96 : decode cX9_runnerItem 96 = .ok (.aload_n 0, 1) := by decide +kernel
theorem dX9_runnerItem_97 : decode cX9_runnerItem 97 = .ok (.iconst 1, 1) := by decide +kernel
theorem dX9_runnerItem_98 : decode cX9_runnerItem 98 = .ok (.bipush 9, 2) := by decide +kernel
theorem dX9_runnerItem_100 : decode cX9_runnerItem 100 = .ok (.invokevirtual 287, 3) := by decide +kernel
theorem dX9_runnerItem_103 : decode cX9_runnerItem 103 = .ok (.goto 4, 3) := by decide +kernel
theorem dX9_runnerItem_106 : decode cX9_runnerItem 106 = .ok (.iconst 4, 1) := by decide +kernel
theorem dX9_runnerItem_107 : decode cX9_runnerItem 107 = .ok (.istore 4, 2) := by decide +kernel
theorem dX9_runnerItem_109 : decode cX9_runnerItem 109 = .ok (.aload_n 0, 1) := by decide +kernel
theorem dX9_runnerItem_110 : decode cX9_runnerItem 110 = .ok (.getfield 244, 3) := by decide +kernel
theorem dX9_runnerItem_113 : decode cX9_runnerItem 113 = .ok (.ifCond .ne 13, 3) := by decide +kernel
theorem dX9_runnerItem_116 : decode cX9_runnerItem 116 = .ok (.aload_n 0, 1) := by decide +kernel
theorem dX9_runnerItem_117 : decode cX9_runnerItem 117 = .ok (.iload_n 1, 1) := by decide +kernel
theorem dX9_runnerItem_118 : decode cX9_runnerItem 118 = .ok (.iload_n 2, 1) := by decide +kernel
theorem dX9_runnerItem_119 : decode cX9_runnerItem 119 = .ok (.iload_n 3, 1) := by decide +kernel
theorem dX9_runnerItem_120 : decode cX9_runnerItem 120 = .ok (.iload 4, 2) := by decide +kernel
theorem dX9_runnerItem_122 : decode cX9_runnerItem 122 = .ok (.invokevirtual 87, 3) := by decide +kernel
theorem dX9_runnerItem_125 : decode cX9_runnerItem 125 = .ok (.pop, 1) := by decide +kernel
theorem dX9_runnerItem_126 : decode cX9_runnerItem 126 = .ok (.return_, 1) := by decide +kernel
theorem dX9_item_0 : decode cX9_item 0 = .ok (.aload_n 0, 1) := by decide +kernel
theorem dX9_item_1 : decode cX9_item 1 = .ok (.invokevirtual 298, 3) := by decide +kernel
theorem dX9_item_4 : decode cX9_item 4 = .ok (.istore_n 1, 1) := by decide +kernel
theorem dX9_item_5 : decode cX9_item 5 = .ok (.iload_n 1, 1) := by decide +kernel
theorem dX9_item_6 : decode cX9_item 6 = .ok (.ifCond .lt 11, 3) := by decide +kernel
theorem dX9_item_9 : decode cX9_item 9 = .ok (.aload_n 0, 1) := by decide +kernel
theorem dX9_item_10 : decode cX9_item 10 = .ok (.iload_n 1, 1) := by decide +kernel
theorem dX9_item_11 : decode cX9_item 11 = .ok (.invokevirtual 301, 3) := by decide +kernel
theorem dX9_item_14 : decode cX9_item 14 = .ok (.goto 55, 3) := by decide +kernel
theorem dX9_item_17 : decode cX9_item 17 = .ok (.aload_n 0, 1) := by decide +kernel
theorem dX9_item_18 : decode cX9_item 18 = .ok (.ldc_w 305, 3) := by decide +kernel
theorem dX9_item_21 : decode cX9_item 21 = .ok (.invokevirtual 290, 3) := by decide +kernel
theorem dX9_item_24 : decode cX9_item 24 = .ok (.ifCond .eq 37, 3) := by decide +kernel
theorem dX9_item_27 : decode cX9_item 27 = .ok (.aload_n 0, 1) := by decide +kernel
theorem dX9_item_28 : decode cX9_item 28 = .ok (.iconst 0, 1) := by decide +kernel
theorem dX9_item_29 : decode cX9_item 29 = .ok (.bipush 99, 2) := by decide +kernel
theorem dX9_item_31 : decode cX9_item 31 = .ok (.invokevirtual 287, 3) := by decide +kernel
theorem dX9_item_34 : decode cX9_item 34 = .ok (.istore_n 2, 1) := by decide +kernel
theorem dX9_item_35 : decode cX9_item 35 = .ok (.aload_n 0, 1) := by decide +kernel
theorem dX9_item_36 : decode cX9_item 36 = .ok (.getfield 9, 3) := by decide +kernel
theorem dX9_item_39 : decode cX9_item 39 = .ok (.iconst 0, 1) := by decide +kernel
theorem dX9_item_40 : decode cX9_item 40 = .ok (.aload_n 0, 1) := by decide +kernel
theorem dX9_item_41 : decode cX9_item 41 = .ok (.getfield 244, 3) := by decide +kernel
theorem dX9_item_44 : decode cX9_item 44 = .ok (.ifCond .eq 12, 3) := by decide +kernel
theorem dX9_item_47 : decode cX9_item 47 = .ok (.aload_n 0, 1) := by decide +kernel
theorem dX9_item_48 : decode cX9_item 48 = .ok (.getfield 9, 3) := by decide +kernel
theorem dX9_item_51 : decode cX9_item 51 = .ok (.iconst 0, 1) := by decide +kernel
theorem dX9_item_52 : decode cX9_item 52 = .ok (.iaload, 1) := by decide +kernel
theorem dX9_item_53 : decode cX9_item 53 = .ok (.goto 4, 3) := by decide +kernel
theorem dX9_item_56 : decode cX9_item 56 = .ok (.iload_n 2, 1) := by decide +kernel
theorem dX9_item_57 : decode cX9_item 57 = .ok (.iastore, 1) := by decide +kernel
theorem dX9_item_58 : decode cX9_item 58 = .ok (.goto 11, 3) := by decide +kernel
theorem dX9_item_61 : decode cX9_item 61 = .ok (.aload_n 0, 1) := by decide +kernel
theorem dX9_item_62 : decode cX9_item 62 = .ok (.aload_n 0, 1) := by decide +kernel
theorem dX9_item_63 : decode cX9_item 63 = .ok (.invokevirtual 307, 3) := by decide +kernel
theorem dX9_item_66 : decode cX9_item 66 = .ok (.invokevirtual 310, 3) := by decide +kernel
theorem dX9_item_69 : decode cX9_item 69 = .ok (.return_, 1) := by decide +kernel
theorem dX9_text_0 : decode cX9_text 0 = .ok (.aload_n 0, 1) := by decide +kernel
theorem dX9_text_1 : decode cX9_text 1 = .ok (.getfield 9, 3) := by decide +kernel
theorem dX9_text_4 : decode cX9_text 4 = .ok (.aload_n 0, 1) := by decide +kernel
theorem dX9_text_5 : decode cX9_text 5 = .ok (.getfield 16, 3) := by decide +kernel
theorem dX9_text_8 : decode cX9_text 8 = .ok (.invokestatic 166, 3) := by decide +kernel
theorem dX9_text_11 : decode cX9_text 11 = .ok (.aload_n 0, 1) := by decide +kernel
theorem dX9_text_12 : decode cX9_text 12 = .ok (.iconst 0, 1) := by decide +kernel
theorem dX9_text_13 : decode cX9_text 13 = .ok (.putfield 228, 3) := by decide +kernel
theorem dX9_text_16 : decode cX9_text 16 = .ok (.aload_n 0, 1) := by decide +kernel
theorem dX9_text_17 : decode cX9_text 17 = .ok (.iconst 0, 1) := by decide +kernel
theorem dX9_text_18 : decode cX9_text 18 = .ok (.putfield 244, 3) := by decide +kernel
theorem dX9_text_21 : decode cX9_text 21 = .ok (.aload_n 0, 1) := by decide +kernel
theorem dX9_text_22 : decode cX9_text 22 = .ok (.invokevirtual 261, 3) := by decide +kernel
theorem dX9_text_25 : decode cX9_text 25 = .ok (.iconst 0, 1) := by decide +kernel
theorem dX9_text_26 : decode cX9_text 26 = .ok (.istore_n 1, 1) := by decide +kernel
theorem dX9_text_27 : decode cX9_text 27 = .ok (.iconst 1, 1) := by decide +kernel
theorem dX9_text_28 : decode cX9_text 28 = .ok (.istore_n 2, 1) := by decide +kernel
theorem dX9_text_29 : decode cX9_text 29 = .ok (.iload_n 2, 1) := by decide +kernel
theorem dX9_text_30 : decode cX9_text 30 = .ok (.ifCond .eq 28, 3) := by decide +kernel
theorem dX9_text_33 : decode cX9_text 33 = .ok (.aload_n 0, 1) := by decide +kernel
theorem dX9_text_34 : decode cX9_text 34 = .ok (.invokevirtual 313, 3) := by decide +kernel
theorem dX9_text_37 : decode cX9_text 37 = .ok (.iinc 1 1, 3) := by decide +kernel
theorem dX9_text_40 : decode cX9_text 40 = .ok (.aload_n 0, 1) := by decide +kernel
theorem dX9_text_41 : decode cX9_text 41 = .ok (.bipush 59, 2) := by decide +kernel
theorem dX9_text_43 : decode cX9_text 43 = .ok (.invokevirtual 316, 3) := by decide +kernel
theorem dX9_text_46 : decode cX9_text 46 = .ok (.istore_n 2, 1) := by decide +kernel
theorem dX9_text_47 : decode cX9_text 47 = .ok (.iload_n 2, 1) := by decide +kernel
theorem dX9_text_48 : decode cX9_text 48 = .ok (.ifCond .eq (-19), 3) := by decide +kernel
theorem dX9_text_51 : decode cX9_text 51 = .ok (.aload_n 0, 1) := by decide +kernel
theorem dX9_text_52 : decode cX9_text 52 = .ok (.invokevirtual 261, 3) := by decide +kernel
theorem dX9_text_55 : decode cX9_text 55 = .ok (.goto (-26), 3) := by decide +kernel
theorem dX9_text_58 : decode cX9_text 58 = .ok (.aload_n 0, 1) := by decide +kernel
theorem dX9_text_59 : decode cX9_text 59 = .ok (.aload_n 0, 1) := by decide +kernel
theorem dX9_text_60 : decode cX9_text 60 = .ok (.getfield 244, 3) := by decide +kernel
theorem dX9_text_63 : decode cX9_text 63 = .ok (.ifCond .ne 10, 3) := by decide +kernel
theorem dX9_text_66 : decode cX9_text 66 = .ok (.aload_n 0, 1) := by decide +kernel
theorem dX9_text_67 : decode cX9_text 67 = .ok (.getfield 241, 3) := by decide +kernel
theorem dX9_text_70 : decode cX9_text 70 = .ok (.ifCond .eq 7, 3) := by decide +kernel
theorem dX9_text_73 : decode cX9_text 73 = .ok (.iconst 1, 1) := by decide +kernel
theorem dX9_text_74 : decode cX9_text 74 = .ok (.goto 4, 3) := by decide +kernel
theorem dX9_text_77 : decode cX9_text 77 = .ok (.iconst 0, 1) := by decide +kernel
theorem dX9_text_78 : decode cX9_text 78 = .ok (.putfield 244, 3) := by decide +kernel
theorem dX9_text_81 : decode cX9_text 81 = .ok (.aload_n 0, 1) := by decide +kernel
theorem dX9_text_82 : decode cX9_text 82 = .ok (.getfield 231, 3) := by decide +kernel
theorem dX9_text_85 : decode cX9_text 85 = .ok (.istore_n 3, 1) := by decide +kernel
theorem dX9_text_86 : decode cX9_text 86 = .ok (.aload_n 0, 1) := by decide +kernel
theorem dX9_text_87 : decode cX9_text 87 = .ok (.iconst 0, 1) := by decide +kernel
theorem dX9_text_88 : decode cX9_text 88 = .ok (.putfield 224, 3) := by decide +kernel
theorem dX9_text_91 : decode cX9_text 91 = .ok (.aload_n 0, 1) := by decide +kernel
theorem dX9_text_92 : decode cX9_text 92 = .ok (.getfield 244, 3) := by decide +kernel
theorem dX9_text_95 : decode cX9_text 95 = .ok (.ifCond .ne 5, 3) := by decide +kernel
theorem dX9_text_98 : decode cX9_text 98 = .ok (.iload_n 1, 1) := by decide +kernel
theorem dX9_text_99 : decode cX9_text 99 = .ok (.ireturn, 1) := by decide +kernel
theorem dX9_text_100 : decode cX9_text 100 = .ok (.aload_n 0, 1) := by decide +kernel
theorem dX9_text_101 : decode cX9_text 101 = .ok (.getfield 16, 3) := by decide +kernel
theorem dX9_text_104 : decode cX9_text 104 = .ok (.aload_n 0, 1) := by decide +kernel
theorem dX9_text_105 : decode cX9_text 105 = .ok (.getfield 9, 3) := by decide +kernel
theorem dX9_text_108 : decode cX9_text 108 = .ok (.invokestatic 166, 3) := by decide +kernel
theorem dX9_text_111 : decode cX9_text 111 = .ok (.iconst (-1), 1) := by decide +kernel
theorem dX9_text_112 : decode cX9_text 112 = .ok (.iload_n 3, 1) := by decide +kernel
theorem dX9_text_113 : decode cX9_text 113 = .ok (.isub, 1) := by decide +kernel
theorem dX9_text_114 : decode cX9_text 114 = .ok (.ireturn, 1) := by decide +kernel
theorem dX9_hold_0 : decode cX9_hold 0 = .ok (.iload_n 1, 1) := by decide +kernel
theorem dX9_hold_1 : decode cX9_hold 1 = .ok (.i2l, 1) := by decide +kernel
theorem dX9_hold_2 : decode cX9_hold 2 = .ok (.lconst 0, 1) := by decide +kernel
theorem dX9_hold_3 : decode cX9_hold 3 = .ok (.ldc2_w 58, 3) := by decide +kernel
theorem dX9_hold_6 : decode cX9_hold 6 = .ok (.invokestatic 54, 3) := by decide +kernel
theorem dX9_hold_9 : decode cX9_hold 9 = .ok (.ifCond .eq 16, 3) := by decide +kernel
theorem dX9_hold_12 : decode cX9_hold 12 = .ok (.iload_n 2, 1) := by decide +kernel
theorem dX9_hold_13 : decode cX9_hold 13 = .ok (.iconst (-1), 1) := by decide +kernel
theorem dX9_hold_14 : decode cX9_hold 14 = .ok (.if_icmp .eq 18, 3) := by decide +kernel
theorem dX9_hold_17 : decode cX9_hold 17 = .ok (.aload_n 0, 1) := by decide +kernel
theorem dX9_hold_18 : decode cX9_hold 18 = .ok (.iload_n 2, 1) := by decide +kernel
theorem dX9_hold_19 : decode cX9_hold 19 = .ok (.invokevirtual 91, 3) := by decide +kernel
theorem dX9_hold_22 : decode cX9_hold 22 = .ok (.ifCond .ne 10, 3) := by decide +kernel
theorem dX9_hold_25 : decode cX9_hold 25 = .ok (.aload_n 0, 1) := by decide +kernel
theorem dX9_hold_26 : decode cX9_hold 26 = .ok (.ldc 46, 2) := by decide +kernel
theorem dX9_hold_28 : decode cX9_hold 28 = .ok (.invokevirtual 48, 3) := by decide +kernel
theorem dX9_hold_31 : decode cX9_hold 31 = .ok (.ireturn, 1) := by decide +kernel
theorem dX9_hold_32 : decode cX9_hold 32 = .ok (.aload_n 0, 1) := by decide +kernel
theorem dX9_hold_33 : decode cX9_hold 33 = .ok (.getfield 9, 3) := by decide +kernel
theorem dX9_hold_36 : decode cX9_hold 36 = .ok (.sipush 255, 3) := by decide +kernel
theorem dX9_hold_39 : decode cX9_hold 39 = .ok (.iload_n 1, 1) := by decide +kernel
theorem dX9_hold_40 : decode cX9_hold 40 = .ok (.iadd, 1) := by decide +kernel
theorem dX9_hold_41 : decode cX9_hold 41 = .ok (.iload_n 2, 1) := by decide +kernel
theorem dX9_hold_42 : decode cX9_hold 42 = .ok (.iastore, 1) := by decide +kernel
theorem dX9_hold_43 : decode cX9_hold 43 = .ok (.iconst 1, 1) := by decide +kernel
theorem dX9_hold_44 : decode cX9_hold 44 = .ok (.ireturn, 1) := by decide +kernel
theorem dX9_above_0 : decode cX9_above 0 = .ok (.iload_n 0, 1) := by decide +kernel
theorem dX9_above_1 : decode cX9_above 1 = .ok (.tableswitch 49 0 6 #[43, 49, 49, 49, 45, 45, 47], 43) := by decide +kernel
theorem dX9_above_44 : decode cX9_above 44 = .ok (.iconst (-1), 1) := by decide +kernel
theorem dX9_above_45 : decode cX9_above 45 = .ok (.ireturn, 1) := by decide +kernel
theorem dX9_above_46 : decode cX9_above 46 = .ok (.iconst 1, 1) := by decide +kernel
theorem dX9_above_47 : decode cX9_above 47 = .ok (.ireturn, 1) := by decide +kernel
theorem dX9_above_48 : decode cX9_above 48 = .ok (.iconst 2, 1) := by decide +kernel
theorem dX9_above_49 : decode cX9_above 49 = .ok (.ireturn, 1) := by decide +kernel
theorem dX9_above_50 : decode cX9_above 50 = .ok (.iconst 0, 1) := by decide +kernel
theorem dX9_above_51 : decode cX9_above 51 = .ok (.ireturn, 1) := by decide +kernel
theorem dX9_as_0 : decode cX9_as 0 = .ok (.iload_n 1, 1) := by decide +kernel
theorem dX9_as_1 : decode cX9_as 1 = .ok (.i2l, 1) := by decide +kernel
theorem dX9_as_2 : decode cX9_as 2 = .ok (.lconst 0, 1) := by decide +kernel
theorem dX9_as_3 : decode cX9_as 3 = .ok (.ldc2_w 58, 3) := by decide +kernel
theorem dX9_as_6 : decode cX9_as 6 = .ok (.invokestatic 54, 3) := by decide +kernel
theorem dX9_as_9 : decode cX9_as 9 = .ok (.ifCond .eq 10, 3) := by decide +kernel
theorem dX9_as_12 : decode cX9_as 12 = .ok (.iload_n 2, 1) := by decide +kernel
theorem dX9_as_13 : decode cX9_as 13 = .ok (.invokestatic 81, 3) := by decide +kernel
theorem dX9_as_16 : decode cX9_as 16 = .ok (.ifCond .ne 10, 3) := by decide +kernel
theorem dX9_as_19 : decode cX9_as 19 = .ok (.aload_n 0, 1) := by decide +kernel
theorem dX9_as_20 : decode cX9_as 20 = .ok (.ldc 46, 2) := by decide +kernel
theorem dX9_as_22 : decode cX9_as 22 = .ok (.invokevirtual 48, 3) := by decide +kernel
theorem dX9_as_25 : decode cX9_as 25 = .ok (.ireturn, 1) := by decide +kernel
theorem dX9_as_26 : decode cX9_as 26 = .ok (.aload_n 0, 1) := by decide +kernel
theorem dX9_as_27 : decode cX9_as 27 = .ok (.getfield 9, 3) := by decide +kernel
theorem dX9_as_30 : decode cX9_as 30 = .ok (.sipush 255, 3) := by decide +kernel
theorem dX9_as_33 : decode cX9_as 33 = .ok (.iload_n 1, 1) := by decide +kernel
theorem dX9_as_34 : decode cX9_as 34 = .ok (.iadd, 1) := by decide +kernel
theorem dX9_as_35 : decode cX9_as 35 = .ok (.iaload, 1) := by decide +kernel
theorem dX9_as_36 : decode cX9_as 36 = .ok (.istore_n 3, 1) := by decide +kernel
theorem dX9_as_37 : decode cX9_as 37 = .ok (.iload_n 3, 1) := by decide +kernel
theorem dX9_as_38 : decode cX9_as 38 = .ok (.ifCond .ge 11, 3) := by decide +kernel
theorem dX9_as_41 : decode cX9_as 41 = .ok (.aload_n 0, 1) := by decide +kernel
theorem dX9_as_42 : decode cX9_as 42 = .ok (.ldc_w 319, 3) := by decide +kernel
theorem dX9_as_45 : decode cX9_as 45 = .ok (.invokevirtual 48, 3) := by decide +kernel
theorem dX9_as_48 : decode cX9_as 48 = .ok (.ireturn, 1) := by decide +kernel
theorem dX9_as_49 : decode cX9_as 49 = .ok (.aload_n 0, 1) := by decide +kernel
theorem dX9_as_50 : decode cX9_as 50 = .ok (.iload_n 3, 1) := by decide +kernel
theorem dX9_as_51 : decode cX9_as 51 = .ok (.iconst 0, 1) := by decide +kernel
theorem dX9_as_52 : decode cX9_as 52 = .ok (.invokevirtual 62, 3) := by decide +kernel
theorem dX9_as_55 : decode cX9_as 55 = .ok (.istore 4, 2) := by decide +kernel
theorem dX9_as_57 : decode cX9_as 57 = .ok (.iload 4, 2) := by decide +kernel
theorem dX9_as_59 : decode cX9_as 59 = .ok (.ifCond .lt 21, 3) := by decide +kernel
theorem dX9_as_62 : decode cX9_as 62 = .ok (.iload 4, 2) := by decide +kernel
theorem dX9_as_64 : decode cX9_as 64 = .ok (.iload_n 2, 1) := by decide +kernel
theorem dX9_as_65 : decode cX9_as 65 = .ok (.if_icmp .ne 5, 3) := by decide +kernel
theorem dX9_as_68 : decode cX9_as 68 = .ok (.iload_n 3, 1) := by decide +kernel
theorem dX9_as_69 : decode cX9_as 69 = .ok (.ireturn, 1) := by decide +kernel
theorem dX9_as_70 : decode cX9_as 70 = .ok (.iload 4, 2) := by decide +kernel
theorem dX9_as_72 : decode cX9_as 72 = .ok (.invokestatic 320, 3) := by decide +kernel
theorem dX9_as_75 : decode cX9_as 75 = .ok (.istore 4, 2) := by decide +kernel
