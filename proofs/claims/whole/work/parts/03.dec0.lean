theorem dX0_init_0 : decode cX0_init 0 = .ok (.aload_n 0, 1) := by decide +kernel
theorem dX0_init_1 : decode cX0_init 1 = .ok (.invokespecial 5, 3) := by decide +kernel
theorem dX0_init_4 : decode cX0_init 4 = .ok (.aload_n 0, 1) := by decide +kernel
theorem dX0_init_5 : decode cX0_init 5 = .ok (.bipush 44, 2) := by decide +kernel
theorem dX0_init_7 : decode cX0_init 7 = .ok (.newarray .long, 2) := by decide +kernel
theorem dX0_init_9 : decode cX0_init 9 = .ok (.putfield 11, 3) := by decide +kernel
theorem dX0_init_12 : decode cX0_init 12 = .ok (.aload_n 0, 1) := by decide +kernel
theorem dX0_init_13 : decode cX0_init 13 = .ok (.bipush 44, 2) := by decide +kernel
theorem dX0_init_15 : decode cX0_init 15 = .ok (.newarray .long, 2) := by decide +kernel
theorem dX0_init_17 : decode cX0_init 17 = .ok (.putfield 15, 3) := by decide +kernel
theorem dX0_init_20 : decode cX0_init 20 = .ok (.return_, 1) := by decide +kernel
theorem dX0_ofDrops_0 : decode cX0_ofDrops 0 = .ok (.aload_n 1, 1) := by decide +kernel
theorem dX0_ofDrops_1 : decode cX0_ofDrops 1 = .ok (.getfield 18, 3) := by decide +kernel
theorem dX0_ofDrops_4 : decode cX0_ofDrops 4 = .ok (.iload_n 2, 1) := by decide +kernel
theorem dX0_ofDrops_5 : decode cX0_ofDrops 5 = .ok (.aaload, 1) := by decide +kernel
theorem dX0_ofDrops_6 : decode cX0_ofDrops 6 = .ok (.astore 6, 2) := by decide +kernel
theorem dX0_ofDrops_8 : decode cX0_ofDrops 8 = .ok (.aload_n 0, 1) := by decide +kernel
theorem dX0_ofDrops_9 : decode cX0_ofDrops 9 = .ok (.getfield 11, 3) := by decide +kernel
theorem dX0_ofDrops_12 : decode cX0_ofDrops 12 = .ok (.lconst 0, 1) := by decide +kernel
theorem dX0_ofDrops_13 : decode cX0_ofDrops 13 = .ok (.invokestatic 24, 3) := by decide +kernel
theorem dX0_ofDrops_16 : decode cX0_ofDrops 16 = .ok (.aload_n 0, 1) := by decide +kernel
theorem dX0_ofDrops_17 : decode cX0_ofDrops 17 = .ok (.getfield 11, 3) := by decide +kernel
theorem dX0_ofDrops_20 : decode cX0_ofDrops 20 = .ok (.iconst 0, 1) := by decide +kernel
theorem dX0_ofDrops_21 : decode cX0_ofDrops 21 = .ok (.lconst 1, 1) := by decide +kernel
theorem dX0_ofDrops_22 : decode cX0_ofDrops 22 = .ok (.lastore, 1) := by decide +kernel
theorem dX0_ofDrops_23 : decode cX0_ofDrops 23 = .ok (.iload_n 3, 1) := by decide +kernel
theorem dX0_ofDrops_24 : decode cX0_ofDrops 24 = .ok (.istore 7, 2) := by decide +kernel
theorem dX0_ofDrops_26 : decode cX0_ofDrops 26 = .ok (.iload 7, 2) := by decide +kernel
theorem dX0_ofDrops_28 : decode cX0_ofDrops 28 = .ok (.iload_n 3, 1) := by decide +kernel
theorem dX0_ofDrops_29 : decode cX0_ofDrops 29 = .ok (.iload 4, 2) := by decide +kernel
theorem dX0_ofDrops_31 : decode cX0_ofDrops 31 = .ok (.iadd, 1) := by decide +kernel
theorem dX0_ofDrops_32 : decode cX0_ofDrops 32 = .ok (.if_icmp .ge 76, 3) := by decide +kernel
theorem dX0_ofDrops_35 : decode cX0_ofDrops 35 = .ok (.aload_n 0, 1) := by decide +kernel
theorem dX0_ofDrops_36 : decode cX0_ofDrops 36 = .ok (.getfield 11, 3) := by decide +kernel
theorem dX0_ofDrops_39 : decode cX0_ofDrops 39 = .ok (.iconst 0, 1) := by decide +kernel
theorem dX0_ofDrops_40 : decode cX0_ofDrops 40 = .ok (.aload_n 0, 1) := by decide +kernel
theorem dX0_ofDrops_41 : decode cX0_ofDrops 41 = .ok (.getfield 15, 3) := by decide +kernel
theorem dX0_ofDrops_44 : decode cX0_ofDrops 44 = .ok (.iconst 0, 1) := by decide +kernel
theorem dX0_ofDrops_45 : decode cX0_ofDrops 45 = .ok (.bipush 44, 2) := by decide +kernel
theorem dX0_ofDrops_47 : decode cX0_ofDrops 47 = .ok (.invokestatic 30, 3) := by decide +kernel
theorem dX0_ofDrops_50 : decode cX0_ofDrops 50 = .ok (.aload_n 0, 1) := by decide +kernel
theorem dX0_ofDrops_51 : decode cX0_ofDrops 51 = .ok (.getfield 11, 3) := by decide +kernel
theorem dX0_ofDrops_54 : decode cX0_ofDrops 54 = .ok (.lconst 0, 1) := by decide +kernel
theorem dX0_ofDrops_55 : decode cX0_ofDrops 55 = .ok (.invokestatic 24, 3) := by decide +kernel
theorem dX0_ofDrops_58 : decode cX0_ofDrops 58 = .ok (.iconst 0, 1) := by decide +kernel
theorem dX0_ofDrops_59 : decode cX0_ofDrops 59 = .ok (.istore 8, 2) := by decide +kernel
theorem dX0_ofDrops_61 : decode cX0_ofDrops 61 = .ok (.iload 8, 2) := by decide +kernel
theorem dX0_ofDrops_63 : decode cX0_ofDrops 63 = .ok (.iconst 3, 1) := by decide +kernel
theorem dX0_ofDrops_64 : decode cX0_ofDrops 64 = .ok (.if_icmp .gt 38, 3) := by decide +kernel
theorem dX0_ofDrops_67 : decode cX0_ofDrops 67 = .ok (.aload_n 0, 1) := by decide +kernel
theorem dX0_ofDrops_68 : decode cX0_ofDrops 68 = .ok (.iload 8, 2) := by decide +kernel
theorem dX0_ofDrops_70 : decode cX0_ofDrops 70 = .ok (.aload_n 1, 1) := by decide +kernel
theorem dX0_ofDrops_71 : decode cX0_ofDrops 71 = .ok (.aload 6, 2) := by decide +kernel
theorem dX0_ofDrops_73 : decode cX0_ofDrops 73 = .ok (.iload 7, 2) := by decide +kernel
theorem dX0_ofDrops_75 : decode cX0_ofDrops 75 = .ok (.aload 6, 2) := by decide +kernel
theorem dX0_ofDrops_77 : decode cX0_ofDrops 77 = .ok (.getfield 36, 3) := by decide +kernel
theorem dX0_ofDrops_80 : decode cX0_ofDrops 80 = .ok (.iload 7, 2) := by decide +kernel
theorem dX0_ofDrops_82 : decode cX0_ofDrops 82 = .ok (.iaload, 1) := by decide +kernel
theorem dX0_ofDrops_83 : decode cX0_ofDrops 83 = .ok (.iload 8, 2) := by decide +kernel
theorem dX0_ofDrops_85 : decode cX0_ofDrops 85 = .ok (.iconst 0, 1) := by decide +kernel
theorem dX0_ofDrops_86 : decode cX0_ofDrops 86 = .ok (.invokevirtual 42, 3) := by decide +kernel
theorem dX0_ofDrops_89 : decode cX0_ofDrops 89 = .ok (.iload 7, 2) := by decide +kernel
theorem dX0_ofDrops_91 : decode cX0_ofDrops 91 = .ok (.iload_n 3, 1) := by decide +kernel
theorem dX0_ofDrops_92 : decode cX0_ofDrops 92 = .ok (.isub, 1) := by decide +kernel
theorem dX0_ofDrops_93 : decode cX0_ofDrops 93 = .ok (.invokevirtual 46, 3) := by decide +kernel
theorem dX0_ofDrops_96 : decode cX0_ofDrops 96 = .ok (.iinc 8 1, 3) := by decide +kernel
theorem dX0_ofDrops_99 : decode cX0_ofDrops 99 = .ok (.goto (-38), 3) := by decide +kernel
theorem dX0_ofDrops_102 : decode cX0_ofDrops 102 = .ok (.iinc 7 1, 3) := by decide +kernel
theorem dX0_ofDrops_105 : decode cX0_ofDrops 105 = .ok (.goto (-79), 3) := by decide +kernel
theorem dX0_ofDrops_108 : decode cX0_ofDrops 108 = .ok (.lconst 0, 1) := by decide +kernel
theorem dX0_ofDrops_109 : decode cX0_ofDrops 109 = .ok (.lstore 7, 2) := by decide +kernel
theorem dX0_ofDrops_111 : decode cX0_ofDrops 111 = .ok (.iconst 0, 1) := by decide +kernel
theorem dX0_ofDrops_112 : decode cX0_ofDrops 112 = .ok (.istore 9, 2) := by decide +kernel
theorem dX0_ofDrops_114 : decode cX0_ofDrops 114 = .ok (.iload 9, 2) := by decide +kernel
theorem dX0_ofDrops_116 : decode cX0_ofDrops 116 = .ok (.iconst 3, 1) := by decide +kernel
theorem dX0_ofDrops_117 : decode cX0_ofDrops 117 = .ok (.if_icmp .gt 27, 3) := by decide +kernel
theorem dX0_ofDrops_120 : decode cX0_ofDrops 120 = .ok (.lload 7, 2) := by decide +kernel
theorem dX0_ofDrops_122 : decode cX0_ofDrops 122 = .ok (.aload_n 0, 1) := by decide +kernel
theorem dX0_ofDrops_123 : decode cX0_ofDrops 123 = .ok (.getfield 11, 3) := by decide +kernel
theorem dX0_ofDrops_126 : decode cX0_ofDrops 126 = .ok (.iload 9, 2) := by decide +kernel
theorem dX0_ofDrops_128 : decode cX0_ofDrops 128 = .ok (.bipush 11, 2) := by decide +kernel
theorem dX0_ofDrops_130 : decode cX0_ofDrops 130 = .ok (.imul, 1) := by decide +kernel
theorem dX0_ofDrops_131 : decode cX0_ofDrops 131 = .ok (.iload 5, 2) := by decide +kernel
theorem dX0_ofDrops_133 : decode cX0_ofDrops 133 = .ok (.iadd, 1) := by decide +kernel
theorem dX0_ofDrops_134 : decode cX0_ofDrops 134 = .ok (.laload, 1) := by decide +kernel
theorem dX0_ofDrops_135 : decode cX0_ofDrops 135 = .ok (.ladd, 1) := by decide +kernel
theorem dX0_ofDrops_136 : decode cX0_ofDrops 136 = .ok (.lstore 7, 2) := by decide +kernel
theorem dX0_ofDrops_138 : decode cX0_ofDrops 138 = .ok (.iinc 9 1, 3) := by decide +kernel
theorem dX0_ofDrops_141 : decode cX0_ofDrops 141 = .ok (.goto (-27), 3) := by decide +kernel
theorem dX0_ofDrops_144 : decode cX0_ofDrops 144 = .ok (.lload 7, 2) := by decide +kernel
theorem dX0_ofDrops_146 : decode cX0_ofDrops 146 = .ok (.lreturn, 1) := by decide +kernel
theorem dX0_spread_0 : decode cX0_spread 0 = .ok (.iconst 0, 1) := by decide +kernel
theorem dX0_spread_1 : decode cX0_spread 1 = .ok (.iload_n 1, 1) := by decide +kernel
theorem dX0_spread_2 : decode cX0_spread 2 = .ok (.iconst 1, 1) := by decide +kernel
theorem dX0_spread_3 : decode cX0_spread 3 = .ok (.isub, 1) := by decide +kernel
theorem dX0_spread_4 : decode cX0_spread 4 = .ok (.invokestatic 50, 3) := by decide +kernel
theorem dX0_spread_7 : decode cX0_spread 7 = .ok (.bipush 11, 2) := by decide +kernel
theorem dX0_spread_9 : decode cX0_spread 9 = .ok (.imul, 1) := by decide +kernel
theorem dX0_spread_10 : decode cX0_spread 10 = .ok (.istore 4, 2) := by decide +kernel
theorem dX0_spread_12 : decode cX0_spread 12 = .ok (.iconst 0, 1) := by decide +kernel
theorem dX0_spread_13 : decode cX0_spread 13 = .ok (.istore 5, 2) := by decide +kernel
theorem dX0_spread_15 : decode cX0_spread 15 = .ok (.iload 5, 2) := by decide +kernel
theorem dX0_spread_17 : decode cX0_spread 17 = .ok (.iload_n 3, 1) := by decide +kernel
theorem dX0_spread_18 : decode cX0_spread 18 = .ok (.if_icmp .gt 64, 3) := by decide +kernel
theorem dX0_spread_21 : decode cX0_spread 21 = .ok (.aload_n 0, 1) := by decide +kernel
theorem dX0_spread_22 : decode cX0_spread 22 = .ok (.getfield 15, 3) := by decide +kernel
theorem dX0_spread_25 : decode cX0_spread 25 = .ok (.iload_n 1, 1) := by decide +kernel
theorem dX0_spread_26 : decode cX0_spread 26 = .ok (.bipush 11, 2) := by decide +kernel
theorem dX0_spread_28 : decode cX0_spread 28 = .ok (.imul, 1) := by decide +kernel
theorem dX0_spread_29 : decode cX0_spread 29 = .ok (.iload 5, 2) := by decide +kernel
theorem dX0_spread_31 : decode cX0_spread 31 = .ok (.iadd, 1) := by decide +kernel
theorem dX0_spread_32 : decode cX0_spread 32 = .ok (.laload, 1) := by decide +kernel
theorem dX0_spread_33 : decode cX0_spread 33 = .ok (.lstore 6, 2) := by decide +kernel
theorem dX0_spread_35 : decode cX0_spread 35 = .ok (.aload_n 0, 1) := by decide +kernel
theorem dX0_spread_36 : decode cX0_spread 36 = .ok (.getfield 11, 3) := by decide +kernel
theorem dX0_spread_39 : decode cX0_spread 39 = .ok (.iload 4, 2) := by decide +kernel
theorem dX0_spread_41 : decode cX0_spread 41 = .ok (.iload 5, 2) := by decide +kernel
theorem dX0_spread_43 : decode cX0_spread 43 = .ok (.iadd, 1) := by decide +kernel
theorem dX0_spread_44 : decode cX0_spread 44 = .ok (.dup2, 1) := by decide +kernel
theorem dX0_spread_45 : decode cX0_spread 45 = .ok (.laload, 1) := by decide +kernel
theorem dX0_spread_46 : decode cX0_spread 46 = .ok (.lload 6, 2) := by decide +kernel
theorem dX0_spread_48 : decode cX0_spread 48 = .ok (.bipush 24, 2) := by decide +kernel
theorem dX0_spread_50 : decode cX0_spread 50 = .ok (.iload_n 2, 1) := by decide +kernel
theorem dX0_spread_51 : decode cX0_spread 51 = .ok (.isub, 1) := by decide +kernel
theorem dX0_spread_52 : decode cX0_spread 52 = .ok (.i2l, 1) := by decide +kernel
theorem dX0_spread_53 : decode cX0_spread 53 = .ok (.lmul, 1) := by decide +kernel
theorem dX0_spread_54 : decode cX0_spread 54 = .ok (.ladd, 1) := by decide +kernel
theorem dX0_spread_55 : decode cX0_spread 55 = .ok (.lastore, 1) := by decide +kernel
theorem dX0_spread_56 : decode cX0_spread 56 = .ok (.aload_n 0, 1) := by decide +kernel
theorem dX0_spread_57 : decode cX0_spread 57 = .ok (.getfield 11, 3) := by decide +kernel
theorem dX0_spread_60 : decode cX0_spread 60 = .ok (.bipush 33, 2) := by decide +kernel
theorem dX0_spread_62 : decode cX0_spread 62 = .ok (.iload 5, 2) := by decide +kernel
theorem dX0_spread_64 : decode cX0_spread 64 = .ok (.iadd, 1) := by decide +kernel
theorem dX0_spread_65 : decode cX0_spread 65 = .ok (.iconst 1, 1) := by decide +kernel
theorem dX0_spread_66 : decode cX0_spread 66 = .ok (.iadd, 1) := by decide +kernel
theorem dX0_spread_67 : decode cX0_spread 67 = .ok (.dup2, 1) := by decide +kernel
theorem dX0_spread_68 : decode cX0_spread 68 = .ok (.laload, 1) := by decide +kernel
theorem dX0_spread_69 : decode cX0_spread 69 = .ok (.lload 6, 2) := by decide +kernel
theorem dX0_spread_71 : decode cX0_spread 71 = .ok (.iload_n 2, 1) := by decide +kernel
theorem dX0_spread_72 : decode cX0_spread 72 = .ok (.i2l, 1) := by decide +kernel
theorem dX0_spread_73 : decode cX0_spread 73 = .ok (.lmul, 1) := by decide +kernel
theorem dX0_spread_74 : decode cX0_spread 74 = .ok (.ladd, 1) := by decide +kernel
theorem dX0_spread_75 : decode cX0_spread 75 = .ok (.lastore, 1) := by decide +kernel
theorem dX0_spread_76 : decode cX0_spread 76 = .ok (.iinc 5 1, 3) := by decide +kernel
theorem dX0_spread_79 : decode cX0_spread 79 = .ok (.goto (-64), 3) := by decide +kernel
theorem dX0_spread_82 : decode cX0_spread 82 = .ok (.return_, 1) := by decide +kernel
theorem dX1_init_0 : decode cX1_init 0 = .ok (.aload_n 0, 1) := by decide +kernel
theorem dX1_init_1 : decode cX1_init 1 = .ok (.invokespecial 3, 3) := by decide +kernel
theorem dX1_init_4 : decode cX1_init 4 = .ok (.aload_n 0, 1) := by decide +kernel
theorem dX1_init_5 : decode cX1_init 5 = .ok (.iconst 4, 1) := by decide +kernel
theorem dX1_init_6 : decode cX1_init 6 = .ok (.newarray .int, 2) := by decide +kernel
theorem dX1_init_8 : decode cX1_init 8 = .ok (.putfield 9, 3) := by decide +kernel
theorem dX1_init_11 : decode cX1_init 11 = .ok (.aload_n 0, 1) := by decide +kernel
theorem dX1_init_12 : decode cX1_init 12 = .ok (.iconst 4, 1) := by decide +kernel
theorem dX1_init_13 : decode cX1_init 13 = .ok (.newarray .int, 2) := by decide +kernel
theorem dX1_init_15 : decode cX1_init 15 = .ok (.putfield 15, 3) := by decide +kernel
theorem dX1_init_18 : decode cX1_init 18 = .ok (.aload_n 0, 1) := by decide +kernel
theorem dX1_init_19 : decode cX1_init 19 = .ok (.bipush 120, 2) := by decide +kernel
theorem dX1_init_21 : decode cX1_init 21 = .ok (.newarray .int, 2) := by decide +kernel
theorem dX1_init_23 : decode cX1_init 23 = .ok (.putfield 18, 3) := by decide +kernel
theorem dX1_init_26 : decode cX1_init 26 = .ok (.return_, 1) := by decide +kernel
theorem dX1_atPaces_0 : decode cX1_atPaces 0 = .ok (.aload_n 1, 1) := by decide +kernel
theorem dX1_atPaces_1 : decode cX1_atPaces 1 = .ok (.getfield 21, 3) := by decide +kernel
theorem dX1_atPaces_4 : decode cX1_atPaces 4 = .ok (.iload_n 2, 1) := by decide +kernel
theorem dX1_atPaces_5 : decode cX1_atPaces 5 = .ok (.aaload, 1) := by decide +kernel
theorem dX1_atPaces_6 : decode cX1_atPaces 6 = .ok (.astore 6, 2) := by decide +kernel
theorem dX1_atPaces_8 : decode cX1_atPaces 8 = .ok (.aload_n 0, 1) := by decide +kernel
theorem dX1_atPaces_9 : decode cX1_atPaces 9 = .ok (.getfield 9, 3) := by decide +kernel
theorem dX1_atPaces_12 : decode cX1_atPaces 12 = .ok (.iconst 0, 1) := by decide +kernel
theorem dX1_atPaces_13 : decode cX1_atPaces 13 = .ok (.invokestatic 27, 3) := by decide +kernel
theorem dX1_atPaces_16 : decode cX1_atPaces 16 = .ok (.iload 4, 2) := by decide +kernel
theorem dX1_atPaces_18 : decode cX1_atPaces 18 = .ok (.iconst 1, 1) := by decide +kernel
theorem dX1_atPaces_19 : decode cX1_atPaces 19 = .ok (.isub, 1) := by decide +kernel
theorem dX1_atPaces_20 : decode cX1_atPaces 20 = .ok (.istore 7, 2) := by decide +kernel
theorem dX1_atPaces_22 : decode cX1_atPaces 22 = .ok (.iload 7, 2) := by decide +kernel
theorem dX1_atPaces_24 : decode cX1_atPaces 24 = .ok (.iload_n 3, 1) := by decide +kernel
theorem dX1_atPaces_25 : decode cX1_atPaces 25 = .ok (.if_icmp .lt 54, 3) := by decide +kernel
theorem dX1_atPaces_28 : decode cX1_atPaces 28 = .ok (.iconst 0, 1) := by decide +kernel
theorem dX1_atPaces_29 : decode cX1_atPaces 29 = .ok (.istore 8, 2) := by decide +kernel
theorem dX1_atPaces_31 : decode cX1_atPaces 31 = .ok (.iload 8, 2) := by decide +kernel
theorem dX1_atPaces_33 : decode cX1_atPaces 33 = .ok (.iconst 3, 1) := by decide +kernel
theorem dX1_atPaces_34 : decode cX1_atPaces 34 = .ok (.if_icmp .gt 35, 3) := by decide +kernel
theorem dX1_atPaces_37 : decode cX1_atPaces 37 = .ok (.aload_n 0, 1) := by decide +kernel
theorem dX1_atPaces_38 : decode cX1_atPaces 38 = .ok (.getfield 15, 3) := by decide +kernel
theorem dX1_atPaces_41 : decode cX1_atPaces 41 = .ok (.iload 8, 2) := by decide +kernel
theorem dX1_atPaces_43 : decode cX1_atPaces 43 = .ok (.aload_n 0, 1) := by decide +kernel
theorem dX1_atPaces_44 : decode cX1_atPaces 44 = .ok (.aload_n 1, 1) := by decide +kernel
theorem dX1_atPaces_45 : decode cX1_atPaces 45 = .ok (.aload 6, 2) := by decide +kernel
theorem dX1_atPaces_47 : decode cX1_atPaces 47 = .ok (.iload 7, 2) := by decide +kernel
theorem dX1_atPaces_49 : decode cX1_atPaces 49 = .ok (.iload 8, 2) := by decide +kernel
theorem dX1_atPaces_51 : decode cX1_atPaces 51 = .ok (.aload 6, 2) := by decide +kernel
theorem dX1_atPaces_53 : decode cX1_atPaces 53 = .ok (.getfield 33, 3) := by decide +kernel
theorem dX1_atPaces_56 : decode cX1_atPaces 56 = .ok (.iload 7, 2) := by decide +kernel
theorem dX1_atPaces_58 : decode cX1_atPaces 58 = .ok (.iaload, 1) := by decide +kernel
theorem dX1_atPaces_59 : decode cX1_atPaces 59 = .ok (.invokevirtual 38, 3) := by decide +kernel
theorem dX1_atPaces_62 : decode cX1_atPaces 62 = .ok (.iastore, 1) := by decide +kernel
theorem dX1_atPaces_63 : decode cX1_atPaces 63 = .ok (.iinc 8 1, 3) := by decide +kernel
theorem dX1_atPaces_66 : decode cX1_atPaces 66 = .ok (.goto (-35), 3) := by decide +kernel
theorem dX1_atPaces_69 : decode cX1_atPaces 69 = .ok (.aload_n 0, 1) := by decide +kernel
theorem dX1_atPaces_70 : decode cX1_atPaces 70 = .ok (.invokevirtual 42, 3) := by decide +kernel
theorem dX1_atPaces_73 : decode cX1_atPaces 73 = .ok (.iinc 7 (-1), 3) := by decide +kernel
theorem dX1_atPaces_76 : decode cX1_atPaces 76 = .ok (.goto (-54), 3) := by decide +kernel
theorem dX1_atPaces_79 : decode cX1_atPaces 79 = .ok (.aload_n 0, 1) := by decide +kernel
theorem dX1_atPaces_80 : decode cX1_atPaces 80 = .ok (.getfield 9, 3) := by decide +kernel
theorem dX1_atPaces_83 : decode cX1_atPaces 83 = .ok (.iload 5, 2) := by decide +kernel
theorem dX1_atPaces_85 : decode cX1_atPaces 85 = .ok (.iaload, 1) := by decide +kernel
theorem dX1_atPaces_86 : decode cX1_atPaces 86 = .ok (.ireturn, 1) := by decide +kernel
theorem dX1_atBest_0 : decode cX1_atBest 0 = .ok (.aload_n 1, 1) := by decide +kernel
theorem dX1_atBest_1 : decode cX1_atBest 1 = .ok (.getfield 21, 3) := by decide +kernel
theorem dX1_atBest_4 : decode cX1_atBest 4 = .ok (.iload_n 2, 1) := by decide +kernel
theorem dX1_atBest_5 : decode cX1_atBest 5 = .ok (.aaload, 1) := by decide +kernel
theorem dX1_atBest_6 : decode cX1_atBest 6 = .ok (.astore 5, 2) := by decide +kernel
theorem dX1_atBest_8 : decode cX1_atBest 8 = .ok (.aload_n 0, 1) := by decide +kernel
theorem dX1_atBest_9 : decode cX1_atBest 9 = .ok (.getfield 9, 3) := by decide +kernel
theorem dX1_atBest_12 : decode cX1_atBest 12 = .ok (.iconst 0, 1) := by decide +kernel
theorem dX1_atBest_13 : decode cX1_atBest 13 = .ok (.invokestatic 27, 3) := by decide +kernel
theorem dX1_atBest_16 : decode cX1_atBest 16 = .ok (.bipush 29, 2) := by decide +kernel
theorem dX1_atBest_18 : decode cX1_atBest 18 = .ok (.istore 6, 2) := by decide +kernel
theorem dX1_atBest_20 : decode cX1_atBest 20 = .ok (.iload 6, 2) := by decide +kernel
theorem dX1_atBest_22 : decode cX1_atBest 22 = .ok (.iload_n 3, 1) := by decide +kernel
theorem dX1_atBest_23 : decode cX1_atBest 23 = .ok (.if_icmp .lt 75, 3) := by decide +kernel
theorem dX1_atBest_26 : decode cX1_atBest 26 = .ok (.iconst 0, 1) := by decide +kernel
theorem dX1_atBest_27 : decode cX1_atBest 27 = .ok (.istore 7, 2) := by decide +kernel
theorem dX1_atBest_29 : decode cX1_atBest 29 = .ok (.iload 7, 2) := by decide +kernel
theorem dX1_atBest_31 : decode cX1_atBest 31 = .ok (.iconst 3, 1) := by decide +kernel
theorem dX1_atBest_32 : decode cX1_atBest 32 = .ok (.if_icmp .gt 56, 3) := by decide +kernel
theorem dX1_atBest_35 : decode cX1_atBest 35 = .ok (.aload_n 0, 1) := by decide +kernel
theorem dX1_atBest_36 : decode cX1_atBest 36 = .ok (.aload_n 1, 1) := by decide +kernel
theorem dX1_atBest_37 : decode cX1_atBest 37 = .ok (.aload 5, 2) := by decide +kernel
theorem dX1_atBest_39 : decode cX1_atBest 39 = .ok (.iload 6, 2) := by decide +kernel
theorem dX1_atBest_41 : decode cX1_atBest 41 = .ok (.iload 7, 2) := by decide +kernel
theorem dX1_atBest_43 : decode cX1_atBest 43 = .ok (.invokevirtual 45, 3) := by decide +kernel
theorem dX1_atBest_46 : decode cX1_atBest 46 = .ok (.istore 8, 2) := by decide +kernel
theorem dX1_atBest_48 : decode cX1_atBest 48 = .ok (.aload_n 0, 1) := by decide +kernel
theorem dX1_atBest_49 : decode cX1_atBest 49 = .ok (.getfield 18, 3) := by decide +kernel
theorem dX1_atBest_52 : decode cX1_atBest 52 = .ok (.iload 6, 2) := by decide +kernel
theorem dX1_atBest_54 : decode cX1_atBest 54 = .ok (.iconst 4, 1) := by decide +kernel
theorem dX1_atBest_55 : decode cX1_atBest 55 = .ok (.imul, 1) := by decide +kernel
theorem dX1_atBest_56 : decode cX1_atBest 56 = .ok (.iload 7, 2) := by decide +kernel
theorem dX1_atBest_58 : decode cX1_atBest 58 = .ok (.iadd, 1) := by decide +kernel
theorem dX1_atBest_59 : decode cX1_atBest 59 = .ok (.iload 8, 2) := by decide +kernel
theorem dX1_atBest_61 : decode cX1_atBest 61 = .ok (.iastore, 1) := by decide +kernel
theorem dX1_atBest_62 : decode cX1_atBest 62 = .ok (.aload_n 0, 1) := by decide +kernel
theorem dX1_atBest_63 : decode cX1_atBest 63 = .ok (.getfield 15, 3) := by decide +kernel
theorem dX1_atBest_66 : decode cX1_atBest 66 = .ok (.iload 7, 2) := by decide +kernel
theorem dX1_atBest_68 : decode cX1_atBest 68 = .ok (.aload_n 0, 1) := by decide +kernel
theorem dX1_atBest_69 : decode cX1_atBest 69 = .ok (.aload_n 1, 1) := by decide +kernel
theorem dX1_atBest_70 : decode cX1_atBest 70 = .ok (.aload 5, 2) := by decide +kernel
theorem dX1_atBest_72 : decode cX1_atBest 72 = .ok (.iload 6, 2) := by decide +kernel
theorem dX1_atBest_74 : decode cX1_atBest 74 = .ok (.iload 7, 2) := by decide +kernel
theorem dX1_atBest_76 : decode cX1_atBest 76 = .ok (.iload 8, 2) := by decide +kernel
theorem dX1_atBest_78 : decode cX1_atBest 78 = .ok (.invokevirtual 38, 3) := by decide +kernel
theorem dX1_atBest_81 : decode cX1_atBest 81 = .ok (.iastore, 1) := by decide +kernel
theorem dX1_atBest_82 : decode cX1_atBest 82 = .ok (.iinc 7 1, 3) := by decide +kernel
theorem dX1_atBest_85 : decode cX1_atBest 85 = .ok (.goto (-56), 3) := by decide +kernel
theorem dX1_atBest_88 : decode cX1_atBest 88 = .ok (.aload_n 0, 1) := by decide +kernel
theorem dX1_atBest_89 : decode cX1_atBest 89 = .ok (.invokevirtual 42, 3) := by decide +kernel
theorem dX1_atBest_92 : decode cX1_atBest 92 = .ok (.iinc 6 (-1), 3) := by decide +kernel
theorem dX1_atBest_95 : decode cX1_atBest 95 = .ok (.goto (-75), 3) := by decide +kernel
theorem dX1_atBest_98 : decode cX1_atBest 98 = .ok (.aload_n 0, 1) := by decide +kernel
theorem dX1_atBest_99 : decode cX1_atBest 99 = .ok (.getfield 9, 3) := by decide +kernel
theorem dX1_atBest_102 : decode cX1_atBest 102 = .ok (.iload 4, 2) := by decide +kernel
theorem dX1_atBest_104 : decode cX1_atBest 104 = .ok (.iaload, 1) := by decide +kernel
theorem dX1_atBest_105 : decode cX1_atBest 105 = .ok (.ireturn, 1) := by decide +kernel
theorem dX1_chosenPace_0 : decode cX1_chosenPace 0 = .ok (.aload_n 0, 1) := by decide +kernel
theorem dX1_chosenPace_1 : decode cX1_chosenPace 1 = .ok (.getfield 18, 3) := by decide +kernel
theorem dX1_chosenPace_4 : decode cX1_chosenPace 4 = .ok (.iload_n 1, 1) := by decide +kernel
theorem dX1_chosenPace_5 : decode cX1_chosenPace 5 = .ok (.iconst 4, 1) := by decide +kernel
theorem dX1_chosenPace_6 : decode cX1_chosenPace 6 = .ok (.imul, 1) := by decide +kernel
theorem dX1_chosenPace_7 : decode cX1_chosenPace 7 = .ok (.iload_n 2, 1) := by decide +kernel
theorem dX1_chosenPace_8 : decode cX1_chosenPace 8 = .ok (.iadd, 1) := by decide +kernel
theorem dX1_chosenPace_9 : decode cX1_chosenPace 9 = .ok (.iaload, 1) := by decide +kernel
theorem dX1_chosenPace_10 : decode cX1_chosenPace 10 = .ok (.ireturn, 1) := by decide +kernel
theorem dX1_bestPace_0 : decode cX1_bestPace 0 = .ok (.ldc 49, 2) := by decide +kernel
theorem dX1_bestPace_2 : decode cX1_bestPace 2 = .ok (.istore 5, 2) := by decide +kernel
theorem dX1_bestPace_4 : decode cX1_bestPace 4 = .ok (.iconst 1, 1) := by decide +kernel
theorem dX1_bestPace_5 : decode cX1_bestPace 5 = .ok (.istore 6, 2) := by decide +kernel
theorem dX1_bestPace_7 : decode cX1_bestPace 7 = .ok (.iconst 1, 1) := by decide +kernel
theorem dX1_bestPace_8 : decode cX1_bestPace 8 = .ok (.istore 7, 2) := by decide +kernel
theorem dX1_bestPace_10 : decode cX1_bestPace 10 = .ok (.iload 7, 2) := by decide +kernel
theorem dX1_bestPace_12 : decode cX1_bestPace 12 = .ok (.bipush 9, 2) := by decide +kernel
theorem dX1_bestPace_14 : decode cX1_bestPace 14 = .ok (.if_icmp .gt 37, 3) := by decide +kernel
theorem dX1_bestPace_17 : decode cX1_bestPace 17 = .ok (.aload_n 0, 1) := by decide +kernel
theorem dX1_bestPace_18 : decode cX1_bestPace 18 = .ok (.aload_n 1, 1) := by decide +kernel
theorem dX1_bestPace_19 : decode cX1_bestPace 19 = .ok (.aload_n 2, 1) := by decide +kernel
theorem dX1_bestPace_20 : decode cX1_bestPace 20 = .ok (.iload_n 3, 1) := by decide +kernel
theorem dX1_bestPace_21 : decode cX1_bestPace 21 = .ok (.iload 4, 2) := by decide +kernel
theorem dX1_bestPace_23 : decode cX1_bestPace 23 = .ok (.iload 7, 2) := by decide +kernel
theorem dX1_bestPace_25 : decode cX1_bestPace 25 = .ok (.invokevirtual 38, 3) := by decide +kernel
theorem dX1_bestPace_28 : decode cX1_bestPace 28 = .ok (.istore 8, 2) := by decide +kernel
theorem dX1_bestPace_30 : decode cX1_bestPace 30 = .ok (.iload 8, 2) := by decide +kernel
theorem dX1_bestPace_32 : decode cX1_bestPace 32 = .ok (.iload 5, 2) := by decide +kernel
theorem dX1_bestPace_34 : decode cX1_bestPace 34 = .ok (.if_icmp .ge 11, 3) := by decide +kernel
theorem dX1_bestPace_37 : decode cX1_bestPace 37 = .ok (.iload 8, 2) := by decide +kernel
theorem dX1_bestPace_39 : decode cX1_bestPace 39 = .ok (.istore 5, 2) := by decide +kernel
theorem dX1_bestPace_41 : decode cX1_bestPace 41 = .ok (.iload 7, 2) := by decide +kernel
theorem dX1_bestPace_43 : decode cX1_bestPace 43 = .ok (.istore 6, 2) := by decide +kernel
theorem dX1_bestPace_45 : decode cX1_bestPace 45 = .ok (.iinc 7 1, 3) := by decide +kernel
theorem dX1_bestPace_48 : decode cX1_bestPace 48 = .ok (.goto (-38), 3) := by decide +kernel
theorem dX1_bestPace_51 : decode cX1_bestPace 51 = .ok (.iload 6, 2) := by decide +kernel
theorem dX1_bestPace_53 : decode cX1_bestPace 53 = .ok (.ireturn, 1) := by decide +kernel
theorem dX1_through_0 : decode cX1_through 0 = .ok (.aload_n 1, 1) := by decide +kernel
theorem dX1_through_1 : decode cX1_through 1 = .ok (.aload_n 2, 1) := by decide +kernel
theorem dX1_through_2 : decode cX1_through 2 = .ok (.iload_n 3, 1) := by decide +kernel
theorem dX1_through_3 : decode cX1_through 3 = .ok (.iload 5, 2) := by decide +kernel
theorem dX1_through_5 : decode cX1_through 5 = .ok (.iload 4, 2) := by decide +kernel
theorem dX1_through_7 : decode cX1_through 7 = .ok (.iconst 0, 1) := by decide +kernel
theorem dX1_through_8 : decode cX1_through 8 = .ok (.invokevirtual 50, 3) := by decide +kernel
theorem dX1_through_11 : decode cX1_through 11 = .ok (.istore 6, 2) := by decide +kernel
theorem dX1_through_13 : decode cX1_through 13 = .ok (.aload_n 0, 1) := by decide +kernel
theorem dX1_through_14 : decode cX1_through 14 = .ok (.getfield 9, 3) := by decide +kernel
theorem dX1_through_17 : decode cX1_through 17 = .ok (.iconst 0, 1) := by decide +kernel
theorem dX1_through_18 : decode cX1_through 18 = .ok (.iload 4, 2) := by decide +kernel
theorem dX1_through_20 : decode cX1_through 20 = .ok (.iconst 1, 1) := by decide +kernel
theorem dX1_through_21 : decode cX1_through 21 = .ok (.isub, 1) := by decide +kernel
theorem dX1_through_22 : decode cX1_through 22 = .ok (.invokestatic 54, 3) := by decide +kernel
theorem dX1_through_25 : decode cX1_through 25 = .ok (.iaload, 1) := by decide +kernel
theorem dX1_through_26 : decode cX1_through 26 = .ok (.istore 7, 2) := by decide +kernel
theorem dX1_through_28 : decode cX1_through 28 = .ok (.sipush 1000, 3) := by decide +kernel
theorem dX1_through_31 : decode cX1_through 31 = .ok (.aload_n 1, 1) := by decide +kernel
theorem dX1_through_32 : decode cX1_through 32 = .ok (.getfield 60, 3) := by decide +kernel
theorem dX1_through_35 : decode cX1_through 35 = .ok (.imul, 1) := by decide +kernel
theorem dX1_through_36 : decode cX1_through 36 = .ok (.aload_n 0, 1) := by decide +kernel
theorem dX1_through_37 : decode cX1_through 37 = .ok (.getfield 9, 3) := by decide +kernel
theorem dX1_through_40 : decode cX1_through 40 = .ok (.iconst 3, 1) := by decide +kernel
theorem dX1_through_41 : decode cX1_through 41 = .ok (.iaload, 1) := by decide +kernel
theorem dX1_through_42 : decode cX1_through 42 = .ok (.iadd, 1) := by decide +kernel
theorem dX1_through_43 : decode cX1_through 43 = .ok (.istore 8, 2) := by decide +kernel
theorem dX1_through_45 : decode cX1_through 45 = .ok (.sipush 1000, 3) := by decide +kernel
theorem dX1_through_48 : decode cX1_through 48 = .ok (.aload_n 2, 1) := by decide +kernel
theorem dX1_through_49 : decode cX1_through 49 = .ok (.iload 5, 2) := by decide +kernel
theorem dX1_through_51 : decode cX1_through 51 = .ok (.invokevirtual 64, 3) := by decide +kernel
theorem dX1_through_54 : decode cX1_through 54 = .ok (.imul, 1) := by decide +kernel
theorem dX1_through_55 : decode cX1_through 55 = .ok (.bipush 24, 2) := by decide +kernel
theorem dX1_through_57 : decode cX1_through 57 = .ok (.iload 6, 2) := by decide +kernel
theorem dX1_through_59 : decode cX1_through 59 = .ok (.isub, 1) := by decide +kernel
theorem dX1_through_60 : decode cX1_through 60 = .ok (.iload 7, 2) := by decide +kernel
theorem dX1_through_62 : decode cX1_through 62 = .ok (.imul, 1) := by decide +kernel
theorem dX1_through_63 : decode cX1_through 63 = .ok (.iload 6, 2) := by decide +kernel
theorem dX1_through_65 : decode cX1_through 65 = .ok (.iload 8, 2) := by decide +kernel
theorem dX1_through_67 : decode cX1_through 67 = .ok (.imul, 1) := by decide +kernel
theorem dX1_through_68 : decode cX1_through 68 = .ok (.iadd, 1) := by decide +kernel
theorem dX1_through_69 : decode cX1_through 69 = .ok (.bipush 24, 2) := by decide +kernel
theorem dX1_through_71 : decode cX1_through 71 = .ok (.idiv, 1) := by decide +kernel
theorem dX1_through_72 : decode cX1_through 72 = .ok (.iadd, 1) := by decide +kernel
theorem dX1_through_73 : decode cX1_through 73 = .ok (.ireturn, 1) := by decide +kernel
theorem dX1_goBack_0 : decode cX1_goBack 0 = .ok (.aload_n 0, 1) := by decide +kernel
theorem dX1_goBack_1 : decode cX1_goBack 1 = .ok (.getfield 15, 3) := by decide +kernel
theorem dX1_goBack_4 : decode cX1_goBack 4 = .ok (.iconst 0, 1) := by decide +kernel
theorem dX1_goBack_5 : decode cX1_goBack 5 = .ok (.aload_n 0, 1) := by decide +kernel
theorem dX1_goBack_6 : decode cX1_goBack 6 = .ok (.getfield 9, 3) := by decide +kernel
theorem dX1_goBack_9 : decode cX1_goBack 9 = .ok (.iconst 0, 1) := by decide +kernel
theorem dX1_goBack_10 : decode cX1_goBack 10 = .ok (.iconst 4, 1) := by decide +kernel
theorem dX1_goBack_11 : decode cX1_goBack 11 = .ok (.invokestatic 68, 3) := by decide +kernel
theorem dX1_goBack_14 : decode cX1_goBack 14 = .ok (.return_, 1) := by decide +kernel
theorem dX2_init_0 : decode cX2_init 0 = .ok (.aload_n 0, 1) := by decide +kernel
theorem dX2_init_1 : decode cX2_init 1 = .ok (.invokespecial 3, 3) := by decide +kernel
theorem dX2_init_4 : decode cX2_init 4 = .ok (.aload_n 0, 1) := by decide +kernel
theorem dX2_init_5 : decode cX2_init 5 = .ok (.bipush 30, 2) := by decide +kernel
theorem dX2_init_7 : decode cX2_init 7 = .ok (.newarray .int, 2) := by decide +kernel
theorem dX2_init_9 : decode cX2_init 9 = .ok (.putfield 9, 3) := by decide +kernel
theorem dX2_init_12 : decode cX2_init 12 = .ok (.aload_n 0, 1) := by decide +kernel
theorem dX2_init_13 : decode cX2_init 13 = .ok (.bipush 6, 2) := by decide +kernel
theorem dX2_init_15 : decode cX2_init 15 = .ok (.anewarray 15, 3) := by decide +kernel
theorem dX2_init_18 : decode cX2_init 18 = .ok (.putfield 17, 3) := by decide +kernel
theorem dX2_init_21 : decode cX2_init 21 = .ok (.aload_n 0, 1) := by decide +kernel
theorem dX2_init_22 : decode cX2_init 22 = .ok (.bipush 10, 2) := by decide +kernel
theorem dX2_init_24 : decode cX2_init 24 = .ok (.newarray .int, 2) := by decide +kernel
theorem dX2_init_26 : decode cX2_init 26 = .ok (.putfield 21, 3) := by decide +kernel
theorem dX2_init_29 : decode cX2_init 29 = .ok (.aload_n 0, 1) := by decide +kernel
theorem dX2_init_30 : decode cX2_init 30 = .ok (.iconst 0, 1) := by decide +kernel
theorem dX2_init_31 : decode cX2_init 31 = .ok (.putfield 24, 3) := by decide +kernel
theorem dX2_init_34 : decode cX2_init 34 = .ok (.aload_n 0, 1) := by decide +kernel
theorem dX2_init_35 : decode cX2_init 35 = .ok (.bipush 25, 2) := by decide +kernel
theorem dX2_init_37 : decode cX2_init 37 = .ok (.putfield 28, 3) := by decide +kernel
theorem dX2_init_40 : decode cX2_init 40 = .ok (.aload_n 0, 1) := by decide +kernel
theorem dX2_init_41 : decode cX2_init 41 = .ok (.iconst 1, 1) := by decide +kernel
theorem dX2_init_42 : decode cX2_init 42 = .ok (.putfield 31, 3) := by decide +kernel
theorem dX2_init_45 : decode cX2_init 45 = .ok (.iconst 0, 1) := by decide +kernel
theorem dX2_init_46 : decode cX2_init 46 = .ok (.istore_n 1, 1) := by decide +kernel
theorem dX2_init_47 : decode cX2_init 47 = .ok (.iload_n 1, 1) := by decide +kernel
theorem dX2_init_48 : decode cX2_init 48 = .ok (.bipush 6, 2) := by decide +kernel
theorem dX2_init_50 : decode cX2_init 50 = .ok (.if_icmp .ge 22, 3) := by decide +kernel
theorem dX2_init_53 : decode cX2_init 53 = .ok (.aload_n 0, 1) := by decide +kernel
theorem dX2_init_54 : decode cX2_init 54 = .ok (.getfield 17, 3) := by decide +kernel
theorem dX2_init_57 : decode cX2_init 57 = .ok (.iload_n 1, 1) := by decide +kernel
theorem dX2_init_58 : decode cX2_init 58 = .ok (.new 15, 3) := by decide +kernel
theorem dX2_init_61 : decode cX2_init 61 = .ok (.dup, 1) := by decide +kernel
theorem dX2_init_62 : decode cX2_init 62 = .ok (.invokespecial 34, 3) := by decide +kernel
theorem dX2_init_65 : decode cX2_init 65 = .ok (.aastore, 1) := by decide +kernel
theorem dX2_init_66 : decode cX2_init 66 = .ok (.iinc 1 1, 3) := by decide +kernel
theorem dX2_init_69 : decode cX2_init 69 = .ok (.goto (-22), 3) := by decide +kernel
theorem dX2_init_72 : decode cX2_init 72 = .ok (.aload_n 0, 1) := by decide +kernel
theorem dX2_init_73 : decode cX2_init 73 = .ok (.getfield 21, 3) := by decide +kernel
theorem dX2_init_76 : decode cX2_init 76 = .ok (.iconst (-1), 1) := by decide +kernel
theorem dX2_init_77 : decode cX2_init 77 = .ok (.invokestatic 35, 3) := by decide +kernel
theorem dX2_init_80 : decode cX2_init 80 = .ok (.return_, 1) := by decide +kernel
theorem dX2_become_0 : decode cX2_become 0 = .ok (.aload_n 1, 1) := by decide +kernel
theorem dX2_become_1 : decode cX2_become 1 = .ok (.getfield 9, 3) := by decide +kernel
theorem dX2_become_4 : decode cX2_become 4 = .ok (.iconst 0, 1) := by decide +kernel
theorem dX2_become_5 : decode cX2_become 5 = .ok (.aload_n 0, 1) := by decide +kernel
theorem dX2_become_6 : decode cX2_become 6 = .ok (.getfield 9, 3) := by decide +kernel
theorem dX2_become_9 : decode cX2_become 9 = .ok (.iconst 0, 1) := by decide +kernel
theorem dX2_become_10 : decode cX2_become 10 = .ok (.bipush 30, 2) := by decide +kernel
theorem dX2_become_12 : decode cX2_become 12 = .ok (.invokestatic 41, 3) := by decide +kernel
theorem dX2_become_15 : decode cX2_become 15 = .ok (.aload_n 1, 1) := by decide +kernel
theorem dX2_become_16 : decode cX2_become 16 = .ok (.getfield 21, 3) := by decide +kernel
theorem dX2_become_19 : decode cX2_become 19 = .ok (.iconst 0, 1) := by decide +kernel
theorem dX2_become_20 : decode cX2_become 20 = .ok (.aload_n 0, 1) := by decide +kernel
theorem dX2_become_21 : decode cX2_become 21 = .ok (.getfield 21, 3) := by decide +kernel
theorem dX2_become_24 : decode cX2_become 24 = .ok (.iconst 0, 1) := by decide +kernel
theorem dX2_become_25 : decode cX2_become 25 = .ok (.bipush 10, 2) := by decide +kernel
theorem dX2_become_27 : decode cX2_become 27 = .ok (.invokestatic 41, 3) := by decide +kernel
theorem dX2_become_30 : decode cX2_become 30 = .ok (.iconst 0, 1) := by decide +kernel
theorem dX2_become_31 : decode cX2_become 31 = .ok (.istore_n 2, 1) := by decide +kernel
theorem dX2_become_32 : decode cX2_become 32 = .ok (.iload_n 2, 1) := by decide +kernel
theorem dX2_become_33 : decode cX2_become 33 = .ok (.aload_n 1, 1) := by decide +kernel
theorem dX2_become_34 : decode cX2_become 34 = .ok (.getfield 24, 3) := by decide +kernel
theorem dX2_become_37 : decode cX2_become 37 = .ok (.if_icmp .ge 24, 3) := by decide +kernel
theorem dX2_become_40 : decode cX2_become 40 = .ok (.aload_n 0, 1) := by decide +kernel
theorem dX2_become_41 : decode cX2_become 41 = .ok (.getfield 17, 3) := by decide +kernel
theorem dX2_become_44 : decode cX2_become 44 = .ok (.iload_n 2, 1) := by decide +kernel
theorem dX2_become_45 : decode cX2_become 45 = .ok (.aaload, 1) := by decide +kernel
theorem dX2_become_46 : decode cX2_become 46 = .ok (.aload_n 1, 1) := by decide +kernel
theorem dX2_become_47 : decode cX2_become 47 = .ok (.getfield 17, 3) := by decide +kernel
theorem dX2_become_50 : decode cX2_become 50 = .ok (.iload_n 2, 1) := by decide +kernel
theorem dX2_become_51 : decode cX2_become 51 = .ok (.aaload, 1) := by decide +kernel
theorem dX2_become_52 : decode cX2_become 52 = .ok (.invokevirtual 47, 3) := by decide +kernel
theorem dX2_become_55 : decode cX2_become 55 = .ok (.iinc 2 1, 3) := by decide +kernel
theorem dX2_become_58 : decode cX2_become 58 = .ok (.goto (-26), 3) := by decide +kernel
theorem dX2_become_61 : decode cX2_become 61 = .ok (.aload_n 0, 1) := by decide +kernel
theorem dX2_become_62 : decode cX2_become 62 = .ok (.aload_n 1, 1) := by decide +kernel
theorem dX2_become_63 : decode cX2_become 63 = .ok (.getfield 24, 3) := by decide +kernel
theorem dX2_become_66 : decode cX2_become 66 = .ok (.putfield 24, 3) := by decide +kernel
theorem dX2_become_69 : decode cX2_become 69 = .ok (.aload_n 0, 1) := by decide +kernel
theorem dX2_become_70 : decode cX2_become 70 = .ok (.aload_n 1, 1) := by decide +kernel
theorem dX2_become_71 : decode cX2_become 71 = .ok (.getfield 28, 3) := by decide +kernel
theorem dX2_become_74 : decode cX2_become 74 = .ok (.putfield 28, 3) := by decide +kernel
theorem dX2_become_77 : decode cX2_become 77 = .ok (.aload_n 0, 1) := by decide +kernel
theorem dX2_become_78 : decode cX2_become 78 = .ok (.aload_n 1, 1) := by decide +kernel
theorem dX2_become_79 : decode cX2_become 79 = .ok (.getfield 31, 3) := by decide +kernel
theorem dX2_become_82 : decode cX2_become 82 = .ok (.putfield 31, 3) := by decide +kernel
theorem dX2_become_85 : decode cX2_become 85 = .ok (.return_, 1) := by decide +kernel
theorem dX2_add_0 : decode cX2_add 0 = .ok (.aload_n 0, 1) := by decide +kernel
theorem dX2_add_1 : decode cX2_add 1 = .ok (.getfield 17, 3) := by decide +kernel
theorem dX2_add_4 : decode cX2_add 4 = .ok (.aload_n 0, 1) := by decide +kernel
theorem dX2_add_5 : decode cX2_add 5 = .ok (.getfield 24, 3) := by decide +kernel
theorem dX2_add_8 : decode cX2_add 8 = .ok (.aaload, 1) := by decide +kernel
theorem dX2_add_9 : decode cX2_add 9 = .ok (.iload_n 1, 1) := by decide +kernel
theorem dX2_add_10 : decode cX2_add 10 = .ok (.iload_n 2, 1) := by decide +kernel
theorem dX2_add_11 : decode cX2_add 11 = .ok (.iload_n 3, 1) := by decide +kernel
theorem dX2_add_12 : decode cX2_add 12 = .ok (.invokevirtual 51, 3) := by decide +kernel
theorem dX2_add_15 : decode cX2_add 15 = .ok (.aload_n 0, 1) := by decide +kernel
theorem dX2_add_16 : decode cX2_add 16 = .ok (.dup, 1) := by decide +kernel
theorem dX2_add_17 : decode cX2_add 17 = .ok (.getfield 24, 3) := by decide +kernel
theorem dX2_add_20 : decode cX2_add 20 = .ok (.iconst 1, 1) := by decide +kernel
theorem dX2_add_21 : decode cX2_add 21 = .ok (.iadd, 1) := by decide +kernel
theorem dX2_add_22 : decode cX2_add 22 = .ok (.putfield 24, 3) := by decide +kernel
theorem dX2_add_25 : decode cX2_add 25 = .ok (.aload_n 0, 1) := by decide +kernel
theorem dX2_add_26 : decode cX2_add 26 = .ok (.getfield 24, 3) := by decide +kernel
theorem dX2_add_29 : decode cX2_add 29 = .ok (.iconst 1, 1) := by decide +kernel
theorem dX2_add_30 : decode cX2_add 30 = .ok (.isub, 1) := by decide +kernel
theorem dX2_add_31 : decode cX2_add 31 = .ok (.ireturn, 1) := by decide +kernel
theorem dX2_draw_0 : decode cX2_draw 0 = .ok (.aload_n 0, 1) := by decide +kernel
theorem dX2_draw_1 : decode cX2_draw 1 = .ok (.aload_n 0, 1) := by decide +kernel
theorem dX2_draw_2 : decode cX2_draw 2 = .ok (.getfield 31, 3) := by decide +kernel
theorem dX2_draw_5 : decode cX2_draw 5 = .ok (.ldc 55, 2) := by decide +kernel
theorem dX2_draw_7 : decode cX2_draw 7 = .ok (.imul, 1) := by decide +kernel
theorem dX2_draw_8 : decode cX2_draw 8 = .ok (.sipush 12345, 3) := by decide +kernel
theorem dX2_draw_11 : decode cX2_draw 11 = .ok (.iadd, 1) := by decide +kernel
theorem dX2_draw_12 : decode cX2_draw 12 = .ok (.putfield 31, 3) := by decide +kernel
theorem dX2_draw_15 : decode cX2_draw 15 = .ok (.aload_n 0, 1) := by decide +kernel
theorem dX2_draw_16 : decode cX2_draw 16 = .ok (.getfield 31, 3) := by decide +kernel
theorem dX2_draw_19 : decode cX2_draw 19 = .ok (.bipush 8, 2) := by decide +kernel
theorem dX2_draw_21 : decode cX2_draw 21 = .ok (.iushr, 1) := by decide +kernel
theorem dX2_draw_22 : decode cX2_draw 22 = .ok (.ireturn, 1) := by decide +kernel
theorem dX2_nervesOf_0 : decode cX2_nervesOf 0 = .ok (.aload_n 0, 1) := by decide +kernel
theorem dX2_nervesOf_1 : decode cX2_nervesOf 1 = .ok (.getfield 17, 3) := by decide +kernel
theorem dX2_nervesOf_4 : decode cX2_nervesOf 4 = .ok (.iload_n 1, 1) := by decide +kernel
theorem dX2_nervesOf_5 : decode cX2_nervesOf 5 = .ok (.aaload, 1) := by decide +kernel
theorem dX2_nervesOf_6 : decode cX2_nervesOf 6 = .ok (.getfield 56, 3) := by decide +kernel
theorem dX2_nervesOf_9 : decode cX2_nervesOf 9 = .ok (.istore_n 2, 1) := by decide +kernel
theorem dX2_nervesOf_10 : decode cX2_nervesOf 10 = .ok (.iconst 0, 1) := by decide +kernel
theorem dX2_nervesOf_11 : decode cX2_nervesOf 11 = .ok (.istore_n 3, 1) := by decide +kernel
theorem dX2_nervesOf_12 : decode cX2_nervesOf 12 = .ok (.iconst 0, 1) := by decide +kernel
theorem dX2_nervesOf_13 : decode cX2_nervesOf 13 = .ok (.istore 4, 2) := by decide +kernel
theorem dX2_nervesOf_15 : decode cX2_nervesOf 15 = .ok (.iload 4, 2) := by decide +kernel
theorem dX2_nervesOf_17 : decode cX2_nervesOf 17 = .ok (.aload_n 0, 1) := by decide +kernel
theorem dX2_nervesOf_18 : decode cX2_nervesOf 18 = .ok (.getfield 24, 3) := by decide +kernel
theorem dX2_nervesOf_21 : decode cX2_nervesOf 21 = .ok (.if_icmp .ge 50, 3) := by decide +kernel
theorem dX2_nervesOf_24 : decode cX2_nervesOf 24 = .ok (.iload 4, 2) := by decide +kernel
theorem dX2_nervesOf_26 : decode cX2_nervesOf 26 = .ok (.iload_n 1, 1) := by decide +kernel
theorem dX2_nervesOf_27 : decode cX2_nervesOf 27 = .ok (.if_icmp .eq 38, 3) := by decide +kernel
theorem dX2_nervesOf_30 : decode cX2_nervesOf 30 = .ok (.aload_n 0, 1) := by decide +kernel
theorem dX2_nervesOf_31 : decode cX2_nervesOf 31 = .ok (.getfield 17, 3) := by decide +kernel
theorem dX2_nervesOf_34 : decode cX2_nervesOf 34 = .ok (.iload 4, 2) := by decide +kernel
theorem dX2_nervesOf_36 : decode cX2_nervesOf 36 = .ok (.aaload, 1) := by decide +kernel
theorem dX2_nervesOf_37 : decode cX2_nervesOf 37 = .ok (.invokevirtual 59, 3) := by decide +kernel
theorem dX2_nervesOf_40 : decode cX2_nervesOf 40 = .ok (.ifCond .ne 25, 3) := by decide +kernel
theorem dX2_nervesOf_43 : decode cX2_nervesOf 43 = .ok (.aload_n 0, 1) := by decide +kernel
theorem dX2_nervesOf_44 : decode cX2_nervesOf 44 = .ok (.getfield 17, 3) := by decide +kernel
theorem dX2_nervesOf_47 : decode cX2_nervesOf 47 = .ok (.iload 4, 2) := by decide +kernel
theorem dX2_nervesOf_49 : decode cX2_nervesOf 49 = .ok (.aaload, 1) := by decide +kernel
theorem dX2_nervesOf_50 : decode cX2_nervesOf 50 = .ok (.getfield 56, 3) := by decide +kernel
theorem dX2_nervesOf_53 : decode cX2_nervesOf 53 = .ok (.iload_n 2, 1) := by decide +kernel
theorem dX2_nervesOf_54 : decode cX2_nervesOf 54 = .ok (.isub, 1) := by decide +kernel
theorem dX2_nervesOf_55 : decode cX2_nervesOf 55 = .ok (.invokestatic 63, 3) := by decide +kernel
theorem dX2_nervesOf_58 : decode cX2_nervesOf 58 = .ok (.iconst 1, 1) := by decide +kernel
theorem dX2_nervesOf_59 : decode cX2_nervesOf 59 = .ok (.if_icmp .gt 6, 3) := by decide +kernel
theorem dX2_nervesOf_62 : decode cX2_nervesOf 62 = .ok (.iinc 3 1, 3) := by decide +kernel
theorem dX2_nervesOf_65 : decode cX2_nervesOf 65 = .ok (.iinc 4 1, 3) := by decide +kernel
theorem dX2_nervesOf_68 : decode cX2_nervesOf 68 = .ok (.goto (-53), 3) := by decide +kernel
theorem dX2_nervesOf_71 : decode cX2_nervesOf 71 = .ok (.iload_n 3, 1) := by decide +kernel
theorem dX2_nervesOf_72 : decode cX2_nervesOf 72 = .ok (.ireturn, 1) := by decide +kernel
theorem dX2_oddsOf_0 : decode cX2_oddsOf 0 = .ok (.aload_n 1, 1) := by decide +kernel
theorem dX2_oddsOf_1 : decode cX2_oddsOf 1 = .ok (.iload_n 3, 1) := by decide +kernel
theorem dX2_oddsOf_2 : decode cX2_oddsOf 2 = .ok (.invokevirtual 69, 3) := by decide +kernel
theorem dX2_oddsOf_5 : decode cX2_oddsOf 5 = .ok (.aload_n 1, 1) := by decide +kernel
theorem dX2_oddsOf_6 : decode cX2_oddsOf 6 = .ok (.aload_n 0, 1) := by decide +kernel
theorem dX2_oddsOf_7 : decode cX2_oddsOf 7 = .ok (.getfield 9, 3) := by decide +kernel
theorem dX2_oddsOf_10 : decode cX2_oddsOf 10 = .ok (.iload_n 2, 1) := by decide +kernel
theorem dX2_oddsOf_11 : decode cX2_oddsOf 11 = .ok (.iaload, 1) := by decide +kernel
theorem dX2_oddsOf_12 : decode cX2_oddsOf 12 = .ok (.invokevirtual 72, 3) := by decide +kernel
theorem dX2_oddsOf_15 : decode cX2_oddsOf 15 = .ok (.iadd, 1) := by decide +kernel
theorem dX2_oddsOf_16 : decode cX2_oddsOf 16 = .ok (.iload 4, 2) := by decide +kernel
theorem dX2_oddsOf_18 : decode cX2_oddsOf 18 = .ok (.ifCond .le 7, 3) := by decide +kernel
theorem dX2_oddsOf_21 : decode cX2_oddsOf 21 = .ok (.iconst 3, 1) := by decide +kernel
theorem dX2_oddsOf_22 : decode cX2_oddsOf 22 = .ok (.goto 4, 3) := by decide +kernel
theorem dX2_oddsOf_25 : decode cX2_oddsOf 25 = .ok (.iconst 0, 1) := by decide +kernel
theorem dX2_oddsOf_26 : decode cX2_oddsOf 26 = .ok (.iadd, 1) := by decide +kernel
theorem dX2_oddsOf_27 : decode cX2_oddsOf 27 = .ok (.iload 5, 2) := by decide +kernel
theorem dX2_oddsOf_29 : decode cX2_oddsOf 29 = .ok (.iadd, 1) := by decide +kernel
theorem dX2_oddsOf_30 : decode cX2_oddsOf 30 = .ok (.istore 6, 2) := by decide +kernel
theorem dX2_oddsOf_32 : decode cX2_oddsOf 32 = .ok (.iconst 0, 1) := by decide +kernel
theorem dX2_oddsOf_33 : decode cX2_oddsOf 33 = .ok (.bipush 23, 2) := by decide +kernel
theorem dX2_oddsOf_35 : decode cX2_oddsOf 35 = .ok (.iload 6, 2) := by decide +kernel
theorem dX2_oddsOf_37 : decode cX2_oddsOf 37 = .ok (.aload_n 1, 1) := by decide +kernel
theorem dX2_oddsOf_38 : decode cX2_oddsOf 38 = .ok (.invokevirtual 75, 3) := by decide +kernel
theorem dX2_oddsOf_41 : decode cX2_oddsOf 41 = .ok (.isub, 1) := by decide +kernel
theorem dX2_oddsOf_42 : decode cX2_oddsOf 42 = .ok (.invokestatic 79, 3) := by decide +kernel
theorem dX2_oddsOf_45 : decode cX2_oddsOf 45 = .ok (.invokestatic 83, 3) := by decide +kernel
theorem dX2_oddsOf_48 : decode cX2_oddsOf 48 = .ok (.ireturn, 1) := by decide +kernel
theorem dX2_oddsInStep_0 : decode cX2_oddsInStep 0 = .ok (.aload_n 0, 1) := by decide +kernel
theorem dX2_oddsInStep_1 : decode cX2_oddsInStep 1 = .ok (.getfield 17, 3) := by decide +kernel
theorem dX2_oddsInStep_4 : decode cX2_oddsInStep 4 = .ok (.iload_n 1, 1) := by decide +kernel
theorem dX2_oddsInStep_5 : decode cX2_oddsInStep 5 = .ok (.aaload, 1) := by decide +kernel
theorem dX2_oddsInStep_6 : decode cX2_oddsInStep 6 = .ok (.astore_n 2, 1) := by decide +kernel
theorem dX2_oddsInStep_7 : decode cX2_oddsInStep 7 = .ok (.aload_n 0, 1) := by decide +kernel
theorem dX2_oddsInStep_8 : decode cX2_oddsInStep 8 = .ok (.aload_n 2, 1) := by decide +kernel
theorem dX2_oddsInStep_9 : decode cX2_oddsInStep 9 = .ok (.aload_n 2, 1) := by decide +kernel
theorem dX2_oddsInStep_10 : decode cX2_oddsInStep 10 = .ok (.getfield 56, 3) := by decide +kernel
theorem dX2_oddsInStep_13 : decode cX2_oddsInStep 13 = .ok (.aload_n 2, 1) := by decide +kernel
theorem dX2_oddsInStep_14 : decode cX2_oddsInStep 14 = .ok (.getfield 86, 3) := by decide +kernel
theorem dX2_oddsInStep_17 : decode cX2_oddsInStep 17 = .ok (.aload_n 2, 1) := by decide +kernel
theorem dX2_oddsInStep_18 : decode cX2_oddsInStep 18 = .ok (.getfield 56, 3) := by decide +kernel
theorem dX2_oddsInStep_21 : decode cX2_oddsInStep 21 = .ok (.iaload, 1) := by decide +kernel
theorem dX2_oddsInStep_22 : decode cX2_oddsInStep 22 = .ok (.aload_n 2, 1) := by decide +kernel
theorem dX2_oddsInStep_23 : decode cX2_oddsInStep 23 = .ok (.getfield 89, 3) := by decide +kernel
theorem dX2_oddsInStep_26 : decode cX2_oddsInStep 26 = .ok (.aload_n 0, 1) := by decide +kernel
theorem dX2_oddsInStep_27 : decode cX2_oddsInStep 27 = .ok (.iload_n 1, 1) := by decide +kernel
theorem dX2_oddsInStep_28 : decode cX2_oddsInStep 28 = .ok (.invokevirtual 92, 3) := by decide +kernel
theorem dX2_oddsInStep_31 : decode cX2_oddsInStep 31 = .ok (.invokevirtual 95, 3) := by decide +kernel
theorem dX2_oddsInStep_34 : decode cX2_oddsInStep 34 = .ok (.ireturn, 1) := by decide +kernel
theorem dX2_whoRuns_0 : decode cX2_whoRuns 0 = .ok (.iconst (-1), 1) := by decide +kernel
theorem dX2_whoRuns_1 : decode cX2_whoRuns 1 = .ok (.istore_n 1, 1) := by decide +kernel
theorem dX2_whoRuns_2 : decode cX2_whoRuns 2 = .ok (.iconst 0, 1) := by decide +kernel
theorem dX2_whoRuns_3 : decode cX2_whoRuns 3 = .ok (.istore_n 2, 1) := by decide +kernel
theorem dX2_whoRuns_4 : decode cX2_whoRuns 4 = .ok (.iload_n 2, 1) := by decide +kernel
theorem dX2_whoRuns_5 : decode cX2_whoRuns 5 = .ok (.aload_n 0, 1) := by decide +kernel
theorem dX2_whoRuns_6 : decode cX2_whoRuns 6 = .ok (.getfield 24, 3) := by decide +kernel
theorem dX2_whoRuns_9 : decode cX2_whoRuns 9 = .ok (.if_icmp .ge 48, 3) := by decide +kernel
theorem dX2_whoRuns_12 : decode cX2_whoRuns 12 = .ok (.aload_n 0, 1) := by decide +kernel
theorem dX2_whoRuns_13 : decode cX2_whoRuns 13 = .ok (.getfield 17, 3) := by decide +kernel
theorem dX2_whoRuns_16 : decode cX2_whoRuns 16 = .ok (.iload_n 2, 1) := by decide +kernel
theorem dX2_whoRuns_17 : decode cX2_whoRuns 17 = .ok (.aaload, 1) := by decide +kernel
theorem dX2_whoRuns_18 : decode cX2_whoRuns 18 = .ok (.invokevirtual 59, 3) := by decide +kernel
theorem dX2_whoRuns_21 : decode cX2_whoRuns 21 = .ok (.ifCond .ne 30, 3) := by decide +kernel
theorem dX2_whoRuns_24 : decode cX2_whoRuns 24 = .ok (.iload_n 1, 1) := by decide +kernel
theorem dX2_whoRuns_25 : decode cX2_whoRuns 25 = .ok (.ifCond .lt 24, 3) := by decide +kernel
theorem dX2_whoRuns_28 : decode cX2_whoRuns 28 = .ok (.aload_n 0, 1) := by decide +kernel
theorem dX2_whoRuns_29 : decode cX2_whoRuns 29 = .ok (.getfield 17, 3) := by decide +kernel
theorem dX2_whoRuns_32 : decode cX2_whoRuns 32 = .ok (.iload_n 2, 1) := by decide +kernel
theorem dX2_whoRuns_33 : decode cX2_whoRuns 33 = .ok (.aaload, 1) := by decide +kernel
theorem dX2_whoRuns_34 : decode cX2_whoRuns 34 = .ok (.getfield 99, 3) := by decide +kernel
theorem dX2_whoRuns_37 : decode cX2_whoRuns 37 = .ok (.aload_n 0, 1) := by decide +kernel
theorem dX2_whoRuns_38 : decode cX2_whoRuns 38 = .ok (.getfield 17, 3) := by decide +kernel
theorem dX2_whoRuns_41 : decode cX2_whoRuns 41 = .ok (.iload_n 1, 1) := by decide +kernel
theorem dX2_whoRuns_42 : decode cX2_whoRuns 42 = .ok (.aaload, 1) := by decide +kernel
theorem dX2_whoRuns_43 : decode cX2_whoRuns 43 = .ok (.getfield 99, 3) := by decide +kernel
theorem dX2_whoRuns_46 : decode cX2_whoRuns 46 = .ok (.if_icmp .ge 5, 3) := by decide +kernel
theorem dX2_whoRuns_49 : decode cX2_whoRuns 49 = .ok (.iload_n 2, 1) := by decide +kernel
theorem dX2_whoRuns_50 : decode cX2_whoRuns 50 = .ok (.istore_n 1, 1) := by decide +kernel
theorem dX2_whoRuns_51 : decode cX2_whoRuns 51 = .ok (.iinc 2 1, 3) := by decide +kernel
theorem dX2_whoRuns_54 : decode cX2_whoRuns 54 = .ok (.goto (-50), 3) := by decide +kernel
theorem dX2_whoRuns_57 : decode cX2_whoRuns 57 = .ok (.iload_n 1, 1) := by decide +kernel
theorem dX2_whoRuns_58 : decode cX2_whoRuns 58 = .ok (.ireturn, 1) := by decide +kernel
theorem dX2_step_0 : decode cX2_step 0 = .ok (.aload_n 0, 1) := by decide +kernel
theorem dX2_step_1 : decode cX2_step 1 = .ok (.getfield 17, 3) := by decide +kernel
theorem dX2_step_4 : decode cX2_step 4 = .ok (.iload_n 1, 1) := by decide +kernel
theorem dX2_step_5 : decode cX2_step 5 = .ok (.aaload, 1) := by decide +kernel
theorem dX2_step_6 : decode cX2_step 6 = .ok (.astore_n 2, 1) := by decide +kernel
theorem dX2_step_7 : decode cX2_step 7 = .ok (.aload_n 0, 1) := by decide +kernel
theorem dX2_step_8 : decode cX2_step 8 = .ok (.iload_n 1, 1) := by decide +kernel
theorem dX2_step_9 : decode cX2_step 9 = .ok (.invokevirtual 102, 3) := by decide +kernel
theorem dX2_step_12 : decode cX2_step 12 = .ok (.istore_n 3, 1) := by decide +kernel
theorem dX2_step_13 : decode cX2_step 13 = .ok (.iload_n 3, 1) := by decide +kernel
theorem dX2_step_14 : decode cX2_step 14 = .ok (.ifCond .le 18, 3) := by decide +kernel
theorem dX2_step_17 : decode cX2_step 17 = .ok (.aload_n 0, 1) := by decide +kernel
theorem dX2_step_18 : decode cX2_step 18 = .ok (.invokevirtual 105, 3) := by decide +kernel
theorem dX2_step_21 : decode cX2_step 21 = .ok (.bipush 24, 2) := by decide +kernel
theorem dX2_step_23 : decode cX2_step 23 = .ok (.irem, 1) := by decide +kernel
theorem dX2_step_24 : decode cX2_step 24 = .ok (.iload_n 3, 1) := by decide +kernel
theorem dX2_step_25 : decode cX2_step 25 = .ok (.if_icmp .ge 7, 3) := by decide +kernel
theorem dX2_step_28 : decode cX2_step 28 = .ok (.iconst 1, 1) := by decide +kernel
theorem dX2_step_29 : decode cX2_step 29 = .ok (.goto 4, 3) := by decide +kernel
theorem dX2_step_32 : decode cX2_step 32 = .ok (.iconst 0, 1) := by decide +kernel
theorem dX2_step_33 : decode cX2_step 33 = .ok (.istore 4, 2) := by decide +kernel
theorem dX2_step_35 : decode cX2_step 35 = .ok (.aload_n 2, 1) := by decide +kernel
theorem dX2_step_36 : decode cX2_step 36 = .ok (.dup, 1) := by decide +kernel
theorem dX2_step_37 : decode cX2_step 37 = .ok (.getfield 99, 3) := by decide +kernel
theorem dX2_step_40 : decode cX2_step 40 = .ok (.aload_n 2, 1) := by decide +kernel
theorem dX2_step_41 : decode cX2_step 41 = .ok (.aload_n 2, 1) := by decide +kernel
theorem dX2_step_42 : decode cX2_step 42 = .ok (.getfield 86, 3) := by decide +kernel
theorem dX2_step_45 : decode cX2_step 45 = .ok (.aload_n 2, 1) := by decide +kernel
theorem dX2_step_46 : decode cX2_step 46 = .ok (.getfield 56, 3) := by decide +kernel
theorem dX2_step_49 : decode cX2_step 49 = .ok (.iaload, 1) := by decide +kernel
theorem dX2_step_50 : decode cX2_step 50 = .ok (.invokevirtual 108, 3) := by decide +kernel
theorem dX2_step_53 : decode cX2_step 53 = .ok (.iadd, 1) := by decide +kernel
theorem dX2_step_54 : decode cX2_step 54 = .ok (.putfield 99, 3) := by decide +kernel
theorem dX2_step_57 : decode cX2_step 57 = .ok (.aload_n 2, 1) := by decide +kernel
theorem dX2_step_58 : decode cX2_step 58 = .ok (.dup, 1) := by decide +kernel
theorem dX2_step_59 : decode cX2_step 59 = .ok (.getfield 56, 3) := by decide +kernel
theorem dX2_step_62 : decode cX2_step 62 = .ok (.iconst 1, 1) := by decide +kernel
theorem dX2_step_63 : decode cX2_step 63 = .ok (.iadd, 1) := by decide +kernel
theorem dX2_step_64 : decode cX2_step 64 = .ok (.putfield 56, 3) := by decide +kernel
theorem dX2_step_67 : decode cX2_step 67 = .ok (.iload 4, 2) := by decide +kernel
theorem dX2_step_69 : decode cX2_step 69 = .ok (.ifCond .eq 33, 3) := by decide +kernel
theorem dX2_step_72 : decode cX2_step 72 = .ok (.aload_n 2, 1) := by decide +kernel
theorem dX2_step_73 : decode cX2_step 73 = .ok (.dup, 1) := by decide +kernel
theorem dX2_step_74 : decode cX2_step 74 = .ok (.getfield 111, 3) := by decide +kernel
theorem dX2_step_77 : decode cX2_step 77 = .ok (.iconst 1, 1) := by decide +kernel
theorem dX2_step_78 : decode cX2_step 78 = .ok (.iadd, 1) := by decide +kernel
theorem dX2_step_79 : decode cX2_step 79 = .ok (.putfield 111, 3) := by decide +kernel
theorem dX2_step_82 : decode cX2_step 82 = .ok (.aload_n 2, 1) := by decide +kernel
theorem dX2_step_83 : decode cX2_step 83 = .ok (.dup, 1) := by decide +kernel
theorem dX2_step_84 : decode cX2_step 84 = .ok (.getfield 99, 3) := by decide +kernel
theorem dX2_step_87 : decode cX2_step 87 = .ok (.aload_n 0, 1) := by decide +kernel
theorem dX2_step_88 : decode cX2_step 88 = .ok (.getfield 28, 3) := by decide +kernel
theorem dX2_step_91 : decode cX2_step 91 = .ok (.iadd, 1) := by decide +kernel
theorem dX2_step_92 : decode cX2_step 92 = .ok (.putfield 99, 3) := by decide +kernel
theorem dX2_step_95 : decode cX2_step 95 = .ok (.aload_n 2, 1) := by decide +kernel
theorem dX2_step_96 : decode cX2_step 96 = .ok (.iconst 3, 1) := by decide +kernel
theorem dX2_step_97 : decode cX2_step 97 = .ok (.putfield 89, 3) := by decide +kernel
theorem dX2_step_100 : decode cX2_step 100 = .ok (.iconst 1, 1) := by decide +kernel
theorem dX2_step_101 : decode cX2_step 101 = .ok (.ireturn, 1) := by decide +kernel
theorem dX2_step_102 : decode cX2_step 102 = .ok (.aload_n 2, 1) := by decide +kernel
theorem dX2_step_103 : decode cX2_step 103 = .ok (.iconst 0, 1) := by decide +kernel
theorem dX2_step_104 : decode cX2_step 104 = .ok (.aload_n 2, 1) := by decide +kernel
theorem dX2_step_105 : decode cX2_step 105 = .ok (.getfield 89, 3) := by decide +kernel
theorem dX2_step_108 : decode cX2_step 108 = .ok (.iconst 1, 1) := by decide +kernel
theorem dX2_step_109 : decode cX2_step 109 = .ok (.isub, 1) := by decide +kernel
theorem dX2_step_110 : decode cX2_step 110 = .ok (.invokestatic 83, 3) := by decide +kernel
theorem dX2_step_113 : decode cX2_step 113 = .ok (.putfield 89, 3) := by decide +kernel
theorem dX2_step_116 : decode cX2_step 116 = .ok (.iconst 0, 1) := by decide +kernel
theorem dX2_step_117 : decode cX2_step 117 = .ok (.ireturn, 1) := by decide +kernel
theorem dX2_go_0 : decode cX2_go 0 = .ok (.iconst 0, 1) := by decide +kernel
theorem dX2_go_1 : decode cX2_go 1 = .ok (.istore_n 2, 1) := by decide +kernel
theorem dX2_go_2 : decode cX2_go 2 = .ok (.iconst 0, 1) := by decide +kernel
theorem dX2_go_3 : decode cX2_go 3 = .ok (.istore_n 3, 1) := by decide +kernel
theorem dX2_go_4 : decode cX2_go 4 = .ok (.iload_n 3, 1) := by decide +kernel
theorem dX2_go_5 : decode cX2_go 5 = .ok (.iload_n 1, 1) := by decide +kernel
theorem dX2_go_6 : decode cX2_go 6 = .ok (.if_icmp .ge 32, 3) := by decide +kernel
theorem dX2_go_9 : decode cX2_go 9 = .ok (.aload_n 0, 1) := by decide +kernel
theorem dX2_go_10 : decode cX2_go 10 = .ok (.invokevirtual 114, 3) := by decide +kernel
theorem dX2_go_13 : decode cX2_go 13 = .ok (.istore 4, 2) := by decide +kernel
theorem dX2_go_15 : decode cX2_go 15 = .ok (.iload 4, 2) := by decide +kernel
theorem dX2_go_17 : decode cX2_go 17 = .ok (.ifCond .ge 6, 3) := by decide +kernel
theorem dX2_go_20 : decode cX2_go 20 = .ok (.goto 18, 3) := by decide +kernel
theorem dX2_go_23 : decode cX2_go 23 = .ok (.iload_n 2, 1) := by decide +kernel
theorem dX2_go_24 : decode cX2_go 24 = .ok (.aload_n 0, 1) := by decide +kernel
theorem dX2_go_25 : decode cX2_go 25 = .ok (.iload 4, 2) := by decide +kernel
theorem dX2_go_27 : decode cX2_go 27 = .ok (.invokevirtual 117, 3) := by decide +kernel
theorem dX2_go_30 : decode cX2_go 30 = .ok (.iadd, 1) := by decide +kernel
theorem dX2_go_31 : decode cX2_go 31 = .ok (.istore_n 2, 1) := by decide +kernel
theorem dX2_go_32 : decode cX2_go 32 = .ok (.iinc 3 1, 3) := by decide +kernel
theorem dX2_go_35 : decode cX2_go 35 = .ok (.goto (-31), 3) := by decide +kernel
theorem dX2_go_38 : decode cX2_go 38 = .ok (.iload_n 2, 1) := by decide +kernel
theorem dX2_go_39 : decode cX2_go 39 = .ok (.ireturn, 1) := by decide +kernel
theorem dX2_restart_0 : decode cX2_restart 0 = .ok (.aload_n 0, 1) := by decide +kernel
theorem dX2_restart_1 : decode cX2_restart 1 = .ok (.invokevirtual 120, 3) := by decide +kernel
theorem dX2_restart_4 : decode cX2_restart 4 = .ok (.invokestatic 123, 3) := by decide +kernel
theorem dX2_restart_7 : decode cX2_restart 7 = .ok (.istore_n 1, 1) := by decide +kernel
theorem dX2_restart_8 : decode cX2_restart 8 = .ok (.iconst 0, 1) := by decide +kernel
theorem dX2_restart_9 : decode cX2_restart 9 = .ok (.istore_n 2, 1) := by decide +kernel
theorem dX2_restart_10 : decode cX2_restart 10 = .ok (.iload_n 2, 1) := by decide +kernel
theorem dX2_restart_11 : decode cX2_restart 11 = .ok (.aload_n 0, 1) := by decide +kernel
theorem dX2_restart_12 : decode cX2_restart 12 = .ok (.getfield 24, 3) := by decide +kernel
theorem dX2_restart_15 : decode cX2_restart 15 = .ok (.if_icmp .ge 18, 3) := by decide +kernel
theorem dX2_restart_18 : decode cX2_restart 18 = .ok (.aload_n 0, 1) := by decide +kernel
theorem dX2_restart_19 : decode cX2_restart 19 = .ok (.getfield 17, 3) := by decide +kernel
theorem dX2_restart_22 : decode cX2_restart 22 = .ok (.iload_n 2, 1) := by decide +kernel
theorem dX2_restart_23 : decode cX2_restart 23 = .ok (.aaload, 1) := by decide +kernel
theorem dX2_restart_24 : decode cX2_restart 24 = .ok (.invokevirtual 128, 3) := by decide +kernel
theorem dX2_restart_27 : decode cX2_restart 27 = .ok (.iinc 2 1, 3) := by decide +kernel
theorem dX2_restart_30 : decode cX2_restart 30 = .ok (.goto (-20), 3) := by decide +kernel
theorem dX2_restart_33 : decode cX2_restart 33 = .ok (.iload_n 1, 1) := by decide +kernel
theorem dX2_restart_34 : decode cX2_restart 34 = .ok (.ireturn, 1) := by decide +kernel
theorem dX2_homeSet_0 : decode cX2_homeSet 0 = .ok (.iconst 0, 1) := by decide +kernel
theorem dX2_homeSet_1 : decode cX2_homeSet 1 = .ok (.istore_n 1, 1) := by decide +kernel
theorem dX2_homeSet_2 : decode cX2_homeSet 2 = .ok (.iconst 0, 1) := by decide +kernel
theorem dX2_homeSet_3 : decode cX2_homeSet 3 = .ok (.istore_n 2, 1) := by decide +kernel
theorem dX2_homeSet_4 : decode cX2_homeSet 4 = .ok (.iload_n 2, 1) := by decide +kernel
theorem dX2_homeSet_5 : decode cX2_homeSet 5 = .ok (.aload_n 0, 1) := by decide +kernel
theorem dX2_homeSet_6 : decode cX2_homeSet 6 = .ok (.getfield 24, 3) := by decide +kernel
theorem dX2_homeSet_9 : decode cX2_homeSet 9 = .ok (.if_icmp .ge 27, 3) := by decide +kernel
theorem dX2_homeSet_12 : decode cX2_homeSet 12 = .ok (.aload_n 0, 1) := by decide +kernel
theorem dX2_homeSet_13 : decode cX2_homeSet 13 = .ok (.getfield 17, 3) := by decide +kernel
theorem dX2_homeSet_16 : decode cX2_homeSet 16 = .ok (.iload_n 2, 1) := by decide +kernel
theorem dX2_homeSet_17 : decode cX2_homeSet 17 = .ok (.aaload, 1) := by decide +kernel
theorem dX2_homeSet_18 : decode cX2_homeSet 18 = .ok (.invokevirtual 59, 3) := by decide +kernel
theorem dX2_homeSet_21 : decode cX2_homeSet 21 = .ok (.ifCond .eq 9, 3) := by decide +kernel
theorem dX2_homeSet_24 : decode cX2_homeSet 24 = .ok (.iload_n 1, 1) := by decide +kernel
theorem dX2_homeSet_25 : decode cX2_homeSet 25 = .ok (.iconst 1, 1) := by decide +kernel
theorem dX2_homeSet_26 : decode cX2_homeSet 26 = .ok (.iload_n 2, 1) := by decide +kernel
theorem dX2_homeSet_27 : decode cX2_homeSet 27 = .ok (.ishl, 1) := by decide +kernel
theorem dX2_homeSet_28 : decode cX2_homeSet 28 = .ok (.ior, 1) := by decide +kernel
theorem dX2_homeSet_29 : decode cX2_homeSet 29 = .ok (.istore_n 1, 1) := by decide +kernel
theorem dX2_homeSet_30 : decode cX2_homeSet 30 = .ok (.iinc 2 1, 3) := by decide +kernel
theorem dX2_homeSet_33 : decode cX2_homeSet 33 = .ok (.goto (-29), 3) := by decide +kernel
theorem dX2_homeSet_36 : decode cX2_homeSet 36 = .ok (.iload_n 1, 1) := by decide +kernel
theorem dX2_homeSet_37 : decode cX2_homeSet 37 = .ok (.ireturn, 1) := by decide +kernel
theorem dX2_leastInTime_0 : decode cX2_leastInTime 0 = .ok (.iconst 0, 1) := by decide +kernel
theorem dX2_leastInTime_1 : decode cX2_leastInTime 1 = .ok (.istore_n 1, 1) := by decide +kernel
theorem dX2_leastInTime_2 : decode cX2_leastInTime 2 = .ok (.iconst 1, 1) := by decide +kernel
theorem dX2_leastInTime_3 : decode cX2_leastInTime 3 = .ok (.istore_n 2, 1) := by decide +kernel
theorem dX2_leastInTime_4 : decode cX2_leastInTime 4 = .ok (.iload_n 2, 1) := by decide +kernel
theorem dX2_leastInTime_5 : decode cX2_leastInTime 5 = .ok (.aload_n 0, 1) := by decide +kernel
theorem dX2_leastInTime_6 : decode cX2_leastInTime 6 = .ok (.getfield 24, 3) := by decide +kernel
theorem dX2_leastInTime_9 : decode cX2_leastInTime 9 = .ok (.if_icmp .ge 32, 3) := by decide +kernel
theorem dX2_leastInTime_12 : decode cX2_leastInTime 12 = .ok (.aload_n 0, 1) := by decide +kernel
theorem dX2_leastInTime_13 : decode cX2_leastInTime 13 = .ok (.getfield 17, 3) := by decide +kernel
theorem dX2_leastInTime_16 : decode cX2_leastInTime 16 = .ok (.iload_n 2, 1) := by decide +kernel
theorem dX2_leastInTime_17 : decode cX2_leastInTime 17 = .ok (.aaload, 1) := by decide +kernel
theorem dX2_leastInTime_18 : decode cX2_leastInTime 18 = .ok (.getfield 99, 3) := by decide +kernel
theorem dX2_leastInTime_21 : decode cX2_leastInTime 21 = .ok (.aload_n 0, 1) := by decide +kernel
theorem dX2_leastInTime_22 : decode cX2_leastInTime 22 = .ok (.getfield 17, 3) := by decide +kernel
theorem dX2_leastInTime_25 : decode cX2_leastInTime 25 = .ok (.iload_n 1, 1) := by decide +kernel
theorem dX2_leastInTime_26 : decode cX2_leastInTime 26 = .ok (.aaload, 1) := by decide +kernel
theorem dX2_leastInTime_27 : decode cX2_leastInTime 27 = .ok (.getfield 99, 3) := by decide +kernel
theorem dX2_leastInTime_30 : decode cX2_leastInTime 30 = .ok (.if_icmp .ge 5, 3) := by decide +kernel
theorem dX2_leastInTime_33 : decode cX2_leastInTime 33 = .ok (.iload_n 2, 1) := by decide +kernel
theorem dX2_leastInTime_34 : decode cX2_leastInTime 34 = .ok (.istore_n 1, 1) := by decide +kernel
theorem dX2_leastInTime_35 : decode cX2_leastInTime 35 = .ok (.iinc 2 1, 3) := by decide +kernel
theorem dX2_leastInTime_38 : decode cX2_leastInTime 38 = .ok (.goto (-34), 3) := by decide +kernel
theorem dX2_leastInTime_41 : decode cX2_leastInTime 41 = .ok (.iload_n 1, 1) := by decide +kernel
theorem dX2_leastInTime_42 : decode cX2_leastInTime 42 = .ok (.ireturn, 1) := by decide +kernel
theorem dX2_placeOf_0 : decode cX2_placeOf 0 = .ok (.aload_n 0, 1) := by decide +kernel
theorem dX2_placeOf_1 : decode cX2_placeOf 1 = .ok (.getfield 17, 3) := by decide +kernel
theorem dX2_placeOf_4 : decode cX2_placeOf 4 = .ok (.iload_n 1, 1) := by decide +kernel
theorem dX2_placeOf_5 : decode cX2_placeOf 5 = .ok (.aaload, 1) := by decide +kernel
theorem dX2_placeOf_6 : decode cX2_placeOf 6 = .ok (.getfield 99, 3) := by decide +kernel
theorem dX2_placeOf_9 : decode cX2_placeOf 9 = .ok (.istore_n 2, 1) := by decide +kernel
theorem dX2_placeOf_10 : decode cX2_placeOf 10 = .ok (.iconst 1, 1) := by decide +kernel
theorem dX2_placeOf_11 : decode cX2_placeOf 11 = .ok (.istore_n 3, 1) := by decide +kernel
theorem dX2_placeOf_12 : decode cX2_placeOf 12 = .ok (.iconst 0, 1) := by decide +kernel
theorem dX2_placeOf_13 : decode cX2_placeOf 13 = .ok (.istore 4, 2) := by decide +kernel
theorem dX2_placeOf_15 : decode cX2_placeOf 15 = .ok (.iload 4, 2) := by decide +kernel
theorem dX2_placeOf_17 : decode cX2_placeOf 17 = .ok (.aload_n 0, 1) := by decide +kernel
theorem dX2_placeOf_18 : decode cX2_placeOf 18 = .ok (.getfield 24, 3) := by decide +kernel
theorem dX2_placeOf_21 : decode cX2_placeOf 21 = .ok (.if_icmp .ge 42, 3) := by decide +kernel
theorem dX2_placeOf_24 : decode cX2_placeOf 24 = .ok (.aload_n 0, 1) := by decide +kernel
theorem dX2_placeOf_25 : decode cX2_placeOf 25 = .ok (.getfield 17, 3) := by decide +kernel
theorem dX2_placeOf_28 : decode cX2_placeOf 28 = .ok (.iload 4, 2) := by decide +kernel
theorem dX2_placeOf_30 : decode cX2_placeOf 30 = .ok (.aaload, 1) := by decide +kernel
theorem dX2_placeOf_31 : decode cX2_placeOf 31 = .ok (.getfield 99, 3) := by decide +kernel
theorem dX2_placeOf_34 : decode cX2_placeOf 34 = .ok (.istore 5, 2) := by decide +kernel
theorem dX2_placeOf_36 : decode cX2_placeOf 36 = .ok (.iload 5, 2) := by decide +kernel
theorem dX2_placeOf_38 : decode cX2_placeOf 38 = .ok (.iload_n 2, 1) := by decide +kernel
theorem dX2_placeOf_39 : decode cX2_placeOf 39 = .ok (.if_icmp .lt 15, 3) := by decide +kernel
theorem dX2_placeOf_42 : decode cX2_placeOf 42 = .ok (.iload 5, 2) := by decide +kernel
theorem dX2_placeOf_44 : decode cX2_placeOf 44 = .ok (.iload_n 2, 1) := by decide +kernel
theorem dX2_placeOf_45 : decode cX2_placeOf 45 = .ok (.if_icmp .ne 12, 3) := by decide +kernel
theorem dX2_placeOf_48 : decode cX2_placeOf 48 = .ok (.iload 4, 2) := by decide +kernel
theorem dX2_placeOf_50 : decode cX2_placeOf 50 = .ok (.iload_n 1, 1) := by decide +kernel
theorem dX2_placeOf_51 : decode cX2_placeOf 51 = .ok (.if_icmp .ge 6, 3) := by decide +kernel
theorem dX2_placeOf_54 : decode cX2_placeOf 54 = .ok (.iinc 3 1, 3) := by decide +kernel
theorem dX2_placeOf_57 : decode cX2_placeOf 57 = .ok (.iinc 4 1, 3) := by decide +kernel
theorem dX2_placeOf_60 : decode cX2_placeOf 60 = .ok (.goto (-45), 3) := by decide +kernel
theorem dX2_placeOf_63 : decode cX2_placeOf 63 = .ok (.iload_n 3, 1) := by decide +kernel
theorem dX2_placeOf_64 : decode cX2_placeOf 64 = .ok (.ireturn, 1) := by decide +kernel
theorem dX2_countDrops_0 : decode cX2_countDrops 0 = .ok (.iconst 0, 1) := by decide +kernel
theorem dX2_countDrops_1 : decode cX2_countDrops 1 = .ok (.istore_n 1, 1) := by decide +kernel
theorem dX2_countDrops_2 : decode cX2_countDrops 2 = .ok (.iconst 0, 1) := by decide +kernel
theorem dX2_countDrops_3 : decode cX2_countDrops 3 = .ok (.istore_n 2, 1) := by decide +kernel
theorem dX2_countDrops_4 : decode cX2_countDrops 4 = .ok (.iload_n 2, 1) := by decide +kernel
theorem dX2_countDrops_5 : decode cX2_countDrops 5 = .ok (.aload_n 0, 1) := by decide +kernel
theorem dX2_countDrops_6 : decode cX2_countDrops 6 = .ok (.getfield 24, 3) := by decide +kernel
theorem dX2_countDrops_9 : decode cX2_countDrops 9 = .ok (.if_icmp .ge 21, 3) := by decide +kernel
theorem dX2_countDrops_12 : decode cX2_countDrops 12 = .ok (.iload_n 1, 1) := by decide +kernel
theorem dX2_countDrops_13 : decode cX2_countDrops 13 = .ok (.aload_n 0, 1) := by decide +kernel
theorem dX2_countDrops_14 : decode cX2_countDrops 14 = .ok (.getfield 17, 3) := by decide +kernel
theorem dX2_countDrops_17 : decode cX2_countDrops 17 = .ok (.iload_n 2, 1) := by decide +kernel
theorem dX2_countDrops_18 : decode cX2_countDrops 18 = .ok (.aaload, 1) := by decide +kernel
theorem dX2_countDrops_19 : decode cX2_countDrops 19 = .ok (.getfield 111, 3) := by decide +kernel
theorem dX2_countDrops_22 : decode cX2_countDrops 22 = .ok (.iadd, 1) := by decide +kernel
theorem dX2_countDrops_23 : decode cX2_countDrops 23 = .ok (.istore_n 1, 1) := by decide +kernel
theorem dX2_countDrops_24 : decode cX2_countDrops 24 = .ok (.iinc 2 1, 3) := by decide +kernel
theorem dX2_countDrops_27 : decode cX2_countDrops 27 = .ok (.goto (-23), 3) := by decide +kernel
theorem dX2_countDrops_30 : decode cX2_countDrops 30 = .ok (.iload_n 1, 1) := by decide +kernel
theorem dX2_countDrops_31 : decode cX2_countDrops 31 = .ok (.ireturn, 1) := by decide +kernel
theorem dX2_countGrass_0 : decode cX2_countGrass 0 = .ok (.iconst 0, 1) := by decide +kernel
theorem dX2_countGrass_1 : decode cX2_countGrass 1 = .ok (.istore_n 1, 1) := by decide +kernel
theorem dX2_countGrass_2 : decode cX2_countGrass 2 = .ok (.iconst 0, 1) := by decide +kernel
theorem dX2_countGrass_3 : decode cX2_countGrass 3 = .ok (.istore_n 2, 1) := by decide +kernel
theorem dX2_countGrass_4 : decode cX2_countGrass 4 = .ok (.iload_n 2, 1) := by decide +kernel
theorem dX2_countGrass_5 : decode cX2_countGrass 5 = .ok (.bipush 30, 2) := by decide +kernel
theorem dX2_countGrass_7 : decode cX2_countGrass 7 = .ok (.if_icmp .ge 26, 3) := by decide +kernel
theorem dX2_countGrass_10 : decode cX2_countGrass 10 = .ok (.iload_n 1, 1) := by decide +kernel
theorem dX2_countGrass_11 : decode cX2_countGrass 11 = .ok (.aload_n 0, 1) := by decide +kernel
theorem dX2_countGrass_12 : decode cX2_countGrass 12 = .ok (.getfield 9, 3) := by decide +kernel
theorem dX2_countGrass_15 : decode cX2_countGrass 15 = .ok (.iload_n 2, 1) := by decide +kernel
theorem dX2_countGrass_16 : decode cX2_countGrass 16 = .ok (.iaload, 1) := by decide +kernel
theorem dX2_countGrass_17 : decode cX2_countGrass 17 = .ok (.ifCond .ne 7, 3) := by decide +kernel
theorem dX2_countGrass_20 : decode cX2_countGrass 20 = .ok (.iconst 1, 1) := by decide +kernel
theorem dX2_countGrass_21 : decode cX2_countGrass 21 = .ok (.goto 4, 3) := by decide +kernel
theorem dX2_countGrass_24 : decode cX2_countGrass 24 = .ok (.iconst 0, 1) := by decide +kernel
theorem dX2_countGrass_25 : decode cX2_countGrass 25 = .ok (.iadd, 1) := by decide +kernel
theorem dX2_countGrass_26 : decode cX2_countGrass 26 = .ok (.istore_n 1, 1) := by decide +kernel
theorem dX2_countGrass_27 : decode cX2_countGrass 27 = .ok (.iinc 2 1, 3) := by decide +kernel
theorem dX2_countGrass_30 : decode cX2_countGrass 30 = .ok (.goto (-26), 3) := by decide +kernel
theorem dX2_countGrass_33 : decode cX2_countGrass 33 = .ok (.iload_n 1, 1) := by decide +kernel
theorem dX2_countGrass_34 : decode cX2_countGrass 34 = .ok (.ireturn, 1) := by decide +kernel
theorem dX2_countHolding_0 : decode cX2_countHolding 0 = .ok (.iconst 0, 1) := by decide +kernel
theorem dX2_countHolding_1 : decode cX2_countHolding 1 = .ok (.istore_n 1, 1) := by decide +kernel
theorem dX2_countHolding_2 : decode cX2_countHolding 2 = .ok (.iconst 0, 1) := by decide +kernel
theorem dX2_countHolding_3 : decode cX2_countHolding 3 = .ok (.istore_n 2, 1) := by decide +kernel
theorem dX2_countHolding_4 : decode cX2_countHolding 4 = .ok (.iload_n 2, 1) := by decide +kernel
theorem dX2_countHolding_5 : decode cX2_countHolding 5 = .ok (.bipush 10, 2) := by decide +kernel
theorem dX2_countHolding_7 : decode cX2_countHolding 7 = .ok (.if_icmp .ge 26, 3) := by decide +kernel
theorem dX2_countHolding_10 : decode cX2_countHolding 10 = .ok (.iload_n 1, 1) := by decide +kernel
theorem dX2_countHolding_11 : decode cX2_countHolding 11 = .ok (.aload_n 0, 1) := by decide +kernel
theorem dX2_countHolding_12 : decode cX2_countHolding 12 = .ok (.getfield 21, 3) := by decide +kernel
theorem dX2_countHolding_15 : decode cX2_countHolding 15 = .ok (.iload_n 2, 1) := by decide +kernel
theorem dX2_countHolding_16 : decode cX2_countHolding 16 = .ok (.iaload, 1) := by decide +kernel
theorem dX2_countHolding_17 : decode cX2_countHolding 17 = .ok (.ifCond .lt 7, 3) := by decide +kernel
theorem dX2_countHolding_20 : decode cX2_countHolding 20 = .ok (.iconst 1, 1) := by decide +kernel
theorem dX2_countHolding_21 : decode cX2_countHolding 21 = .ok (.goto 4, 3) := by decide +kernel
theorem dX2_countHolding_24 : decode cX2_countHolding 24 = .ok (.iconst 0, 1) := by decide +kernel
theorem dX2_countHolding_25 : decode cX2_countHolding 25 = .ok (.iadd, 1) := by decide +kernel
theorem dX2_countHolding_26 : decode cX2_countHolding 26 = .ok (.istore_n 1, 1) := by decide +kernel
theorem dX2_countHolding_27 : decode cX2_countHolding 27 = .ok (.iinc 2 1, 3) := by decide +kernel
theorem dX2_countHolding_30 : decode cX2_countHolding 30 = .ok (.goto (-26), 3) := by decide +kernel
theorem dX2_countHolding_33 : decode cX2_countHolding 33 = .ok (.iload_n 1, 1) := by decide +kernel
theorem dX2_countHolding_34 : decode cX2_countHolding 34 = .ok (.ireturn, 1) := by decide +kernel
theorem dX3_init_0 : decode cX3_init 0 = .ok (.aload_n 0, 1) := by decide +kernel
theorem dX3_init_1 : decode cX3_init 1 = .ok (.invokespecial 3, 3) := by decide +kernel
theorem dX3_init_4 : decode cX3_init 4 = .ok (.aload_n 0, 1) := by decide +kernel
theorem dX3_init_5 : decode cX3_init 5 = .ok (.new 9, 3) := by decide +kernel
theorem dX3_init_8 : decode cX3_init 8 = .ok (.dup, 1) := by decide +kernel
theorem dX3_init_9 : decode cX3_init 9 = .ok (.invokespecial 11, 3) := by decide +kernel
theorem dX3_init_12 : decode cX3_init 12 = .ok (.putfield 12, 3) := by decide +kernel
theorem dX3_init_15 : decode cX3_init 15 = .ok (.return_, 1) := by decide +kernel
theorem dX3_readInto_0 : decode cX3_readInto 0 = .ok (.aload_n 0, 1) := by decide +kernel
theorem dX3_readInto_1 : decode cX3_readInto 1 = .ok (.getfield 12, 3) := by decide +kernel
theorem dX3_readInto_4 : decode cX3_readInto 4 = .ok (.invokevirtual 18, 3) := by decide +kernel
theorem dX3_readInto_7 : decode cX3_readInto 7 = .ok (.iconst 1, 1) := by decide +kernel
theorem dX3_readInto_8 : decode cX3_readInto 8 = .ok (.istore_n 2, 1) := by decide +kernel
theorem dX3_readInto_9 : decode cX3_readInto 9 = .ok (.iload_n 2, 1) := by decide +kernel
theorem dX3_readInto_10 : decode cX3_readInto 10 = .ok (.bipush 120, 2) := by decide +kernel
theorem dX3_readInto_12 : decode cX3_readInto 12 = .ok (.if_icmp .gt 50, 3) := by decide +kernel
theorem dX3_readInto_15 : decode cX3_readInto 15 = .ok (.aload_n 0, 1) := by decide +kernel
theorem dX3_readInto_16 : decode cX3_readInto 16 = .ok (.aload_n 1, 1) := by decide +kernel
theorem dX3_readInto_17 : decode cX3_readInto 17 = .ok (.invokevirtual 21, 3) := by decide +kernel
theorem dX3_readInto_20 : decode cX3_readInto 20 = .ok (.ifCond .eq 42, 3) := by decide +kernel
theorem dX3_readInto_23 : decode cX3_readInto 23 = .ok (.aload_n 0, 1) := by decide +kernel
theorem dX3_readInto_24 : decode cX3_readInto 24 = .ok (.getfield 12, 3) := by decide +kernel
theorem dX3_readInto_27 : decode cX3_readInto 27 = .ok (.getfield 25, 3) := by decide +kernel
theorem dX3_readInto_30 : decode cX3_readInto 30 = .ok (.ifCond .ne 5, 3) := by decide +kernel
theorem dX3_readInto_33 : decode cX3_readInto 33 = .ok (.iload_n 2, 1) := by decide +kernel
theorem dX3_readInto_34 : decode cX3_readInto 34 = .ok (.ireturn, 1) := by decide +kernel
theorem dX3_readInto_35 : decode cX3_readInto 35 = .ok (.aload_n 0, 1) := by decide +kernel
theorem dX3_readInto_36 : decode cX3_readInto 36 = .ok (.getfield 12, 3) := by decide +kernel
theorem dX3_readInto_39 : decode cX3_readInto 39 = .ok (.getfield 25, 3) := by decide +kernel
theorem dX3_readInto_42 : decode cX3_readInto 42 = .ok (.iconst 3, 1) := by decide +kernel
theorem dX3_readInto_43 : decode cX3_readInto 43 = .ok (.if_icmp .eq 6, 3) := by decide +kernel
theorem dX3_readInto_46 : decode cX3_readInto 46 = .ok (.goto 16, 3) := by decide +kernel
theorem dX3_readInto_49 : decode cX3_readInto 49 = .ok (.aload_n 0, 1) := by decide +kernel
theorem dX3_readInto_50 : decode cX3_readInto 50 = .ok (.getfield 12, 3) := by decide +kernel
theorem dX3_readInto_53 : decode cX3_readInto 53 = .ok (.invokevirtual 29, 3) := by decide +kernel
theorem dX3_readInto_56 : decode cX3_readInto 56 = .ok (.iinc 2 1, 3) := by decide +kernel
theorem dX3_readInto_59 : decode cX3_readInto 59 = .ok (.goto (-50), 3) := by decide +kernel
theorem dX3_readInto_62 : decode cX3_readInto 62 = .ok (.iconst (-1), 1) := by decide +kernel
theorem dX3_readInto_63 : decode cX3_readInto 63 = .ok (.aload_n 0, 1) := by decide +kernel
theorem dX3_readInto_64 : decode cX3_readInto 64 = .ok (.getfield 12, 3) := by decide +kernel
theorem dX3_readInto_67 : decode cX3_readInto 67 = .ok (.getfield 32, 3) := by decide +kernel
theorem dX3_readInto_70 : decode cX3_readInto 70 = .ok (.isub, 1) := by decide +kernel
theorem dX3_readInto_71 : decode cX3_readInto 71 = .ok (.ireturn, 1) := by decide +kernel
theorem dX3_readItem_0 : decode cX3_readItem 0 = .ok (.aload_n 0, 1) := by decide +kernel
theorem dX3_readItem_1 : decode cX3_readItem 1 = .ok (.invokevirtual 35, 3) := by decide +kernel
theorem dX3_readItem_4 : decode cX3_readItem 4 = .ok (.istore_n 2, 1) := by decide +kernel
theorem dX3_readItem_5 : decode cX3_readItem 5 = .ok (.iload_n 2, 1) := by decide +kernel
theorem dX3_readItem_6 : decode cX3_readItem 6 = .ok (.ifCond .lt 10, 3) := by decide +kernel
theorem dX3_readItem_9 : decode cX3_readItem 9 = .ok (.aload_n 0, 1) := by decide +kernel
theorem dX3_readItem_10 : decode cX3_readItem 10 = .ok (.aload_n 1, 1) := by decide +kernel
theorem dX3_readItem_11 : decode cX3_readItem 11 = .ok (.iload_n 2, 1) := by decide +kernel
theorem dX3_readItem_12 : decode cX3_readItem 12 = .ok (.invokevirtual 39, 3) := by decide +kernel
theorem dX3_readItem_15 : decode cX3_readItem 15 = .ok (.ireturn, 1) := by decide +kernel
theorem dX3_readItem_16 : decode cX3_readItem 16 = .ok (.aload_n 0, 1) := by decide +kernel
theorem dX3_readItem_17 : decode cX3_readItem 17 = .ok (.getfield 12, 3) := by decide +kernel
theorem dX3_readItem_20 : decode cX3_readItem 20 = .ok (.ldc 43, 2) := by decide +kernel
theorem dX3_readItem_22 : decode cX3_readItem 22 = .ok (.invokevirtual 45, 3) := by decide +kernel
theorem dX3_readItem_25 : decode cX3_readItem 25 = .ok (.ifCond .eq 9, 3) := by decide +kernel
theorem dX3_readItem_28 : decode cX3_readItem 28 = .ok (.aload_n 0, 1) := by decide +kernel
theorem dX3_readItem_29 : decode cX3_readItem 29 = .ok (.aload_n 1, 1) := by decide +kernel
theorem dX3_readItem_30 : decode cX3_readItem 30 = .ok (.invokevirtual 49, 3) := by decide +kernel
theorem dX3_readItem_33 : decode cX3_readItem 33 = .ok (.ireturn, 1) := by decide +kernel
theorem dX3_readItem_34 : decode cX3_readItem 34 = .ok (.aload_n 0, 1) := by decide +kernel
theorem dX3_readItem_35 : decode cX3_readItem 35 = .ok (.invokevirtual 52, 3) := by decide +kernel
theorem dX3_readItem_38 : decode cX3_readItem 38 = .ok (.istore_n 3, 1) := by decide +kernel
theorem dX3_readItem_39 : decode cX3_readItem 39 = .ok (.iload_n 3, 1) := by decide +kernel
theorem dX3_readItem_40 : decode cX3_readItem 40 = .ok (.ifCond .lt 25, 3) := by decide +kernel
theorem dX3_readItem_43 : decode cX3_readItem 43 = .ok (.aload_n 1, 1) := by decide +kernel
theorem dX3_readItem_44 : decode cX3_readItem 44 = .ok (.getfield 55, 3) := by decide +kernel
theorem dX3_readItem_47 : decode cX3_readItem 47 = .ok (.bipush 6, 2) := by decide +kernel
theorem dX3_readItem_49 : decode cX3_readItem 49 = .ok (.if_icmp .ge 16, 3) := by decide +kernel
theorem dX3_readItem_52 : decode cX3_readItem 52 = .ok (.aload_n 0, 1) := by decide +kernel
theorem dX3_readItem_53 : decode cX3_readItem 53 = .ok (.aload_n 1, 1) := by decide +kernel
theorem dX3_readItem_54 : decode cX3_readItem 54 = .ok (.iload_n 3, 1) := by decide +kernel
theorem dX3_readItem_55 : decode cX3_readItem 55 = .ok (.invokevirtual 60, 3) := by decide +kernel
theorem dX3_readItem_58 : decode cX3_readItem 58 = .ok (.ifCond .eq 7, 3) := by decide +kernel
theorem dX3_readItem_61 : decode cX3_readItem 61 = .ok (.iconst 1, 1) := by decide +kernel
theorem dX3_readItem_62 : decode cX3_readItem 62 = .ok (.goto 4, 3) := by decide +kernel
theorem dX3_readItem_65 : decode cX3_readItem 65 = .ok (.iconst 0, 1) := by decide +kernel
theorem dX3_readItem_66 : decode cX3_readItem 66 = .ok (.ireturn, 1) := by decide +kernel
theorem dX3_readGround_0 : decode cX3_readGround 0 = .ok (.aload_n 0, 1) := by decide +kernel
theorem dX3_readGround_1 : decode cX3_readGround 1 = .ok (.iconst 0, 1) := by decide +kernel
theorem dX3_readGround_2 : decode cX3_readGround 2 = .ok (.bipush 29, 2) := by decide +kernel
theorem dX3_readGround_4 : decode cX3_readGround 4 = .ok (.invokevirtual 63, 3) := by decide +kernel
theorem dX3_readGround_7 : decode cX3_readGround 7 = .ok (.istore_n 3, 1) := by decide +kernel
theorem dX3_readGround_8 : decode cX3_readGround 8 = .ok (.iload_n 3, 1) := by decide +kernel
theorem dX3_readGround_9 : decode cX3_readGround 9 = .ok (.iconst (-1), 1) := by decide +kernel
theorem dX3_readGround_10 : decode cX3_readGround 10 = .ok (.if_icmp .ne 5, 3) := by decide +kernel
theorem dX3_readGround_13 : decode cX3_readGround 13 = .ok (.iconst 0, 1) := by decide +kernel
theorem dX3_readGround_14 : decode cX3_readGround 14 = .ok (.ireturn, 1) := by decide +kernel
theorem dX3_readGround_15 : decode cX3_readGround 15 = .ok (.aload_n 0, 1) := by decide +kernel
theorem dX3_readGround_16 : decode cX3_readGround 16 = .ok (.ldc 67, 2) := by decide +kernel
theorem dX3_readGround_18 : decode cX3_readGround 18 = .ok (.iload_n 3, 1) := by decide +kernel
theorem dX3_readGround_19 : decode cX3_readGround 19 = .ok (.iload_n 3, 1) := by decide +kernel
theorem dX3_readGround_20 : decode cX3_readGround 20 = .ok (.bipush 29, 2) := by decide +kernel
theorem dX3_readGround_22 : decode cX3_readGround 22 = .ok (.invokevirtual 69, 3) := by decide +kernel
theorem dX3_readGround_25 : decode cX3_readGround 25 = .ok (.istore 4, 2) := by decide +kernel
theorem dX3_readGround_27 : decode cX3_readGround 27 = .ok (.iload 4, 2) := by decide +kernel
theorem dX3_readGround_29 : decode cX3_readGround 29 = .ok (.iconst (-1), 1) := by decide +kernel
theorem dX3_readGround_30 : decode cX3_readGround 30 = .ok (.if_icmp .ne 5, 3) := by decide +kernel
theorem dX3_readGround_33 : decode cX3_readGround 33 = .ok (.iconst 0, 1) := by decide +kernel
theorem dX3_readGround_34 : decode cX3_readGround 34 = .ok (.ireturn, 1) := by decide +kernel
theorem dX3_readGround_35 : decode cX3_readGround 35 = .ok (.iload_n 3, 1) := by decide +kernel
theorem dX3_readGround_36 : decode cX3_readGround 36 = .ok (.istore 5, 2) := by decide +kernel
theorem dX3_readGround_38 : decode cX3_readGround 38 = .ok (.iload 5, 2) := by decide +kernel
theorem dX3_readGround_40 : decode cX3_readGround 40 = .ok (.iload 4, 2) := by decide +kernel
theorem dX3_readGround_42 : decode cX3_readGround 42 = .ok (.if_icmp .gt 17, 3) := by decide +kernel
theorem dX3_readGround_45 : decode cX3_readGround 45 = .ok (.aload_n 1, 1) := by decide +kernel
theorem dX3_readGround_46 : decode cX3_readGround 46 = .ok (.getfield 73, 3) := by decide +kernel
theorem dX3_readGround_49 : decode cX3_readGround 49 = .ok (.iload 5, 2) := by decide +kernel
theorem dX3_readGround_51 : decode cX3_readGround 51 = .ok (.iload_n 2, 1) := by decide +kernel
theorem dX3_readGround_52 : decode cX3_readGround 52 = .ok (.iastore, 1) := by decide +kernel
theorem dX3_readGround_53 : decode cX3_readGround 53 = .ok (.iinc 5 1, 3) := by decide +kernel
theorem dX3_readGround_56 : decode cX3_readGround 56 = .ok (.goto (-18), 3) := by decide +kernel
theorem dX3_readGround_59 : decode cX3_readGround 59 = .ok (.iconst 1, 1) := by decide +kernel
theorem dX3_readGround_60 : decode cX3_readGround 60 = .ok (.ireturn, 1) := by decide +kernel
theorem dX3_readPick_0 : decode cX3_readPick 0 = .ok (.aload_n 0, 1) := by decide +kernel
theorem dX3_readPick_1 : decode cX3_readPick 1 = .ok (.iconst 0, 1) := by decide +kernel
theorem dX3_readPick_2 : decode cX3_readPick 2 = .ok (.bipush 99, 2) := by decide +kernel
theorem dX3_readPick_4 : decode cX3_readPick 4 = .ok (.invokevirtual 63, 3) := by decide +kernel
theorem dX3_readPick_7 : decode cX3_readPick 7 = .ok (.istore_n 2, 1) := by decide +kernel
theorem dX3_readPick_8 : decode cX3_readPick 8 = .ok (.iload_n 2, 1) := by decide +kernel
theorem dX3_readPick_9 : decode cX3_readPick 9 = .ok (.iconst (-1), 1) := by decide +kernel
theorem dX3_readPick_10 : decode cX3_readPick 10 = .ok (.if_icmp .ne 5, 3) := by decide +kernel
theorem dX3_readPick_13 : decode cX3_readPick 13 = .ok (.iconst 0, 1) := by decide +kernel
theorem dX3_readPick_14 : decode cX3_readPick 14 = .ok (.ireturn, 1) := by decide +kernel
theorem dX3_readPick_15 : decode cX3_readPick 15 = .ok (.aload_n 1, 1) := by decide +kernel
theorem dX3_readPick_16 : decode cX3_readPick 16 = .ok (.iload_n 2, 1) := by decide +kernel
theorem dX3_readPick_17 : decode cX3_readPick 17 = .ok (.putfield 77, 3) := by decide +kernel
theorem dX3_readPick_20 : decode cX3_readPick 20 = .ok (.iconst 1, 1) := by decide +kernel
theorem dX3_readPick_21 : decode cX3_readPick 21 = .ok (.ireturn, 1) := by decide +kernel
theorem dX3_readRunner_0 : decode cX3_readRunner 0 = .ok (.aload_n 0, 1) := by decide +kernel
theorem dX3_readRunner_1 : decode cX3_readRunner 1 = .ok (.getfield 12, 3) := by decide +kernel
theorem dX3_readRunner_4 : decode cX3_readRunner 4 = .ok (.invokevirtual 29, 3) := by decide +kernel
theorem dX3_readRunner_7 : decode cX3_readRunner 7 = .ok (.aload_n 0, 1) := by decide +kernel
theorem dX3_readRunner_8 : decode cX3_readRunner 8 = .ok (.ldc 80, 2) := by decide +kernel
theorem dX3_readRunner_10 : decode cX3_readRunner 10 = .ok (.iconst 4, 1) := by decide +kernel
theorem dX3_readRunner_11 : decode cX3_readRunner 11 = .ok (.iconst 0, 1) := by decide +kernel
theorem dX3_readRunner_12 : decode cX3_readRunner 12 = .ok (.bipush 9, 2) := by decide +kernel
theorem dX3_readRunner_14 : decode cX3_readRunner 14 = .ok (.invokevirtual 69, 3) := by decide +kernel
theorem dX3_readRunner_17 : decode cX3_readRunner 17 = .ok (.istore_n 3, 1) := by decide +kernel
theorem dX3_readRunner_18 : decode cX3_readRunner 18 = .ok (.iload_n 3, 1) := by decide +kernel
theorem dX3_readRunner_19 : decode cX3_readRunner 19 = .ok (.iconst (-1), 1) := by decide +kernel
theorem dX3_readRunner_20 : decode cX3_readRunner 20 = .ok (.if_icmp .ne 5, 3) := by decide +kernel
theorem dX3_readRunner_23 : decode cX3_readRunner 23 = .ok (.iconst 0, 1) := by decide +kernel
theorem dX3_readRunner_24 : decode cX3_readRunner 24 = .ok (.ireturn, 1) := by decide +kernel
theorem dX3_readRunner_25 : decode cX3_readRunner 25 = .ok (.aload_n 0, 1) := by decide +kernel
theorem dX3_readRunner_26 : decode cX3_readRunner 26 = .ok (.ldc 82, 2) := by decide +kernel
theorem dX3_readRunner_28 : decode cX3_readRunner 28 = .ok (.iconst 1, 1) := by decide +kernel
theorem dX3_readRunner_29 : decode cX3_readRunner 29 = .ok (.iconst 0, 1) := by decide +kernel
theorem dX3_readRunner_30 : decode cX3_readRunner 30 = .ok (.iconst 5, 1) := by decide +kernel
theorem dX3_readRunner_31 : decode cX3_readRunner 31 = .ok (.invokevirtual 69, 3) := by decide +kernel
theorem dX3_readRunner_34 : decode cX3_readRunner 34 = .ok (.istore 4, 2) := by decide +kernel
theorem dX3_readRunner_36 : decode cX3_readRunner 36 = .ok (.iload 4, 2) := by decide +kernel
theorem dX3_readRunner_38 : decode cX3_readRunner 38 = .ok (.iconst (-1), 1) := by decide +kernel
theorem dX3_readRunner_39 : decode cX3_readRunner 39 = .ok (.if_icmp .ne 5, 3) := by decide +kernel
theorem dX3_readRunner_42 : decode cX3_readRunner 42 = .ok (.iconst 0, 1) := by decide +kernel
theorem dX3_readRunner_43 : decode cX3_readRunner 43 = .ok (.ireturn, 1) := by decide +kernel
theorem dX3_readRunner_44 : decode cX3_readRunner 44 = .ok (.aload_n 0, 1) := by decide +kernel
theorem dX3_readRunner_45 : decode cX3_readRunner 45 = .ok (.ldc 84, 2) := by decide +kernel
theorem dX3_readRunner_47 : decode cX3_readRunner 47 = .ok (.iconst 4, 1) := by decide +kernel
theorem dX3_readRunner_48 : decode cX3_readRunner 48 = .ok (.iconst 1, 1) := by decide +kernel
theorem dX3_readRunner_49 : decode cX3_readRunner 49 = .ok (.bipush 9, 2) := by decide +kernel
theorem dX3_readRunner_51 : decode cX3_readRunner 51 = .ok (.invokevirtual 69, 3) := by decide +kernel
theorem dX3_readRunner_54 : decode cX3_readRunner 54 = .ok (.istore 5, 2) := by decide +kernel
theorem dX3_readRunner_56 : decode cX3_readRunner 56 = .ok (.iload 5, 2) := by decide +kernel
theorem dX3_readRunner_58 : decode cX3_readRunner 58 = .ok (.iconst (-1), 1) := by decide +kernel
theorem dX3_readRunner_59 : decode cX3_readRunner 59 = .ok (.if_icmp .ne 5, 3) := by decide +kernel
theorem dX3_readRunner_62 : decode cX3_readRunner 62 = .ok (.iconst 0, 1) := by decide +kernel
theorem dX3_readRunner_63 : decode cX3_readRunner 63 = .ok (.ireturn, 1) := by decide +kernel
theorem dX3_readRunner_64 : decode cX3_readRunner 64 = .ok (.aload_n 1, 1) := by decide +kernel
theorem dX3_readRunner_65 : decode cX3_readRunner 65 = .ok (.iload_n 2, 1) := by decide +kernel
theorem dX3_readRunner_66 : decode cX3_readRunner 66 = .ok (.iload_n 3, 1) := by decide +kernel
theorem dX3_readRunner_67 : decode cX3_readRunner 67 = .ok (.iload 4, 2) := by decide +kernel
theorem dX3_readRunner_69 : decode cX3_readRunner 69 = .ok (.invokevirtual 86, 3) := by decide +kernel
theorem dX3_readRunner_72 : decode cX3_readRunner 72 = .ok (.istore 6, 2) := by decide +kernel
theorem dX3_readRunner_74 : decode cX3_readRunner 74 = .ok (.aload_n 1, 1) := by decide +kernel
theorem dX3_readRunner_75 : decode cX3_readRunner 75 = .ok (.getfield 90, 3) := by decide +kernel
theorem dX3_readRunner_78 : decode cX3_readRunner 78 = .ok (.iload 6, 2) := by decide +kernel
theorem dX3_readRunner_80 : decode cX3_readRunner 80 = .ok (.aaload, 1) := by decide +kernel
theorem dX3_readRunner_81 : decode cX3_readRunner 81 = .ok (.getfield 94, 3) := by decide +kernel
theorem dX3_readRunner_84 : decode cX3_readRunner 84 = .ok (.iload 5, 2) := by decide +kernel
theorem dX3_readRunner_86 : decode cX3_readRunner 86 = .ok (.invokestatic 99, 3) := by decide +kernel
theorem dX3_readRunner_89 : decode cX3_readRunner 89 = .ok (.iconst 1, 1) := by decide +kernel
theorem dX3_readRunner_90 : decode cX3_readRunner 90 = .ok (.ireturn, 1) := by decide +kernel
theorem dX3_perhaps_0 : decode cX3_perhaps 0 = .ok (.aload_n 0, 1) := by decide +kernel
theorem dX3_perhaps_1 : decode cX3_perhaps 1 = .ok (.getfield 12, 3) := by decide +kernel
theorem dX3_perhaps_4 : decode cX3_perhaps 4 = .ok (.aload_n 1, 1) := by decide +kernel
theorem dX3_perhaps_5 : decode cX3_perhaps 5 = .ok (.invokevirtual 45, 3) := by decide +kernel
theorem dX3_perhaps_8 : decode cX3_perhaps 8 = .ok (.ifCond .eq 13, 3) := by decide +kernel
theorem dX3_perhaps_11 : decode cX3_perhaps 11 = .ok (.aload_n 0, 1) := by decide +kernel
theorem dX3_perhaps_12 : decode cX3_perhaps 12 = .ok (.iload_n 3, 1) := by decide +kernel
theorem dX3_perhaps_13 : decode cX3_perhaps 13 = .ok (.iload 4, 2) := by decide +kernel
theorem dX3_perhaps_15 : decode cX3_perhaps 15 = .ok (.invokevirtual 63, 3) := by decide +kernel
theorem dX3_perhaps_18 : decode cX3_perhaps 18 = .ok (.goto 4, 3) := by decide +kernel
theorem dX3_perhaps_21 : decode cX3_perhaps 21 = .ok (.iload_n 2, 1) := by decide +kernel
theorem dX3_perhaps_22 : decode cX3_perhaps 22 = .ok (.ireturn, 1) := by decide +kernel
theorem dX3_numberBehind_0 : decode cX3_numberBehind 0 = .ok (.aload_n 0, 1) := by decide +kernel
theorem dX3_numberBehind_1 : decode cX3_numberBehind 1 = .ok (.getfield 12, 3) := by decide +kernel
theorem dX3_numberBehind_4 : decode cX3_numberBehind 4 = .ok (.invokevirtual 29, 3) := by decide +kernel
theorem dX3_numberBehind_7 : decode cX3_numberBehind 7 = .ok (.aload_n 0, 1) := by decide +kernel
theorem dX3_numberBehind_8 : decode cX3_numberBehind 8 = .ok (.getfield 12, 3) := by decide +kernel
theorem dX3_numberBehind_11 : decode cX3_numberBehind 11 = .ok (.invokevirtual 105, 3) := by decide +kernel
theorem dX3_numberBehind_14 : decode cX3_numberBehind 14 = .ok (.istore_n 3, 1) := by decide +kernel
theorem dX3_numberBehind_15 : decode cX3_numberBehind 15 = .ok (.iload_n 3, 1) := by decide +kernel
theorem dX3_numberBehind_16 : decode cX3_numberBehind 16 = .ok (.iload_n 1, 1) := by decide +kernel
theorem dX3_numberBehind_17 : decode cX3_numberBehind 17 = .ok (.iload_n 2, 1) := by decide +kernel
theorem dX3_numberBehind_18 : decode cX3_numberBehind 18 = .ok (.invokestatic 108, 3) := by decide +kernel
theorem dX3_numberBehind_21 : decode cX3_numberBehind 21 = .ok (.ifCond .ne 5, 3) := by decide +kernel
theorem dX3_numberBehind_24 : decode cX3_numberBehind 24 = .ok (.iconst (-1), 1) := by decide +kernel
theorem dX3_numberBehind_25 : decode cX3_numberBehind 25 = .ok (.ireturn, 1) := by decide +kernel
theorem dX3_numberBehind_26 : decode cX3_numberBehind 26 = .ok (.aload_n 0, 1) := by decide +kernel
theorem dX3_numberBehind_27 : decode cX3_numberBehind 27 = .ok (.getfield 12, 3) := by decide +kernel
theorem dX3_numberBehind_30 : decode cX3_numberBehind 30 = .ok (.invokevirtual 29, 3) := by decide +kernel
theorem dX3_numberBehind_33 : decode cX3_numberBehind 33 = .ok (.iload_n 3, 1) := by decide +kernel
theorem dX3_numberBehind_34 : decode cX3_numberBehind 34 = .ok (.ireturn, 1) := by decide +kernel
theorem dX3_groundTold_0 : decode cX3_groundTold 0 = .ok (.aload_n 0, 1) := by decide +kernel
theorem dX3_groundTold_1 : decode cX3_groundTold 1 = .ok (.getfield 12, 3) := by decide +kernel
theorem dX3_groundTold_4 : decode cX3_groundTold 4 = .ok (.ldc 112, 2) := by decide +kernel
theorem dX3_groundTold_6 : decode cX3_groundTold 6 = .ok (.invokevirtual 45, 3) := by decide +kernel
theorem dX3_groundTold_9 : decode cX3_groundTold 9 = .ok (.ifCond .eq 5, 3) := by decide +kernel
theorem dX3_groundTold_12 : decode cX3_groundTold 12 = .ok (.iconst 0, 1) := by decide +kernel
theorem dX3_groundTold_13 : decode cX3_groundTold 13 = .ok (.ireturn, 1) := by decide +kernel
theorem dX3_groundTold_14 : decode cX3_groundTold 14 = .ok (.aload_n 0, 1) := by decide +kernel
theorem dX3_groundTold_15 : decode cX3_groundTold 15 = .ok (.getfield 12, 3) := by decide +kernel
theorem dX3_groundTold_18 : decode cX3_groundTold 18 = .ok (.ldc 114, 2) := by decide +kernel
theorem dX3_groundTold_20 : decode cX3_groundTold 20 = .ok (.invokevirtual 45, 3) := by decide +kernel
theorem dX3_groundTold_23 : decode cX3_groundTold 23 = .ok (.ifCond .eq 5, 3) := by decide +kernel
theorem dX3_groundTold_26 : decode cX3_groundTold 26 = .ok (.iconst 1, 1) := by decide +kernel
theorem dX3_groundTold_27 : decode cX3_groundTold 27 = .ok (.ireturn, 1) := by decide +kernel
theorem dX3_groundTold_28 : decode cX3_groundTold 28 = .ok (.aload_n 0, 1) := by decide +kernel
theorem dX3_groundTold_29 : decode cX3_groundTold 29 = .ok (.getfield 12, 3) := by decide +kernel
theorem dX3_groundTold_32 : decode cX3_groundTold 32 = .ok (.ldc 116, 2) := by decide +kernel
theorem dX3_groundTold_34 : decode cX3_groundTold 34 = .ok (.invokevirtual 45, 3) := by decide +kernel
theorem dX3_groundTold_37 : decode cX3_groundTold 37 = .ok (.ifCond .eq 5, 3) := by decide +kernel
theorem dX3_groundTold_40 : decode cX3_groundTold 40 = .ok (.iconst 2, 1) := by decide +kernel
theorem dX3_groundTold_41 : decode cX3_groundTold 41 = .ok (.ireturn, 1) := by decide +kernel
theorem dX3_groundTold_42 : decode cX3_groundTold 42 = .ok (.aload_n 0, 1) := by decide +kernel
theorem dX3_groundTold_43 : decode cX3_groundTold 43 = .ok (.getfield 12, 3) := by decide +kernel
theorem dX3_groundTold_46 : decode cX3_groundTold 46 = .ok (.ldc 118, 2) := by decide +kernel
theorem dX3_groundTold_48 : decode cX3_groundTold 48 = .ok (.invokevirtual 45, 3) := by decide +kernel
theorem dX3_groundTold_51 : decode cX3_groundTold 51 = .ok (.ifCond .eq 5, 3) := by decide +kernel
theorem dX3_groundTold_54 : decode cX3_groundTold 54 = .ok (.iconst 3, 1) := by decide +kernel
theorem dX3_groundTold_55 : decode cX3_groundTold 55 = .ok (.ireturn, 1) := by decide +kernel
theorem dX3_groundTold_56 : decode cX3_groundTold 56 = .ok (.aload_n 0, 1) := by decide +kernel
theorem dX3_groundTold_57 : decode cX3_groundTold 57 = .ok (.getfield 12, 3) := by decide +kernel
theorem dX3_groundTold_60 : decode cX3_groundTold 60 = .ok (.ldc 120, 2) := by decide +kernel
theorem dX3_groundTold_62 : decode cX3_groundTold 62 = .ok (.invokevirtual 45, 3) := by decide +kernel
theorem dX3_groundTold_65 : decode cX3_groundTold 65 = .ok (.ifCond .eq 7, 3) := by decide +kernel
theorem dX3_groundTold_68 : decode cX3_groundTold 68 = .ok (.iconst 4, 1) := by decide +kernel
theorem dX3_groundTold_69 : decode cX3_groundTold 69 = .ok (.goto 4, 3) := by decide +kernel
theorem dX3_groundTold_72 : decode cX3_groundTold 72 = .ok (.iconst (-1), 1) := by decide +kernel
theorem dX3_groundTold_73 : decode cX3_groundTold 73 = .ok (.ireturn, 1) := by decide +kernel
theorem dX3_kindTold_0 : decode cX3_kindTold 0 = .ok (.aload_n 0, 1) := by decide +kernel
theorem dX3_kindTold_1 : decode cX3_kindTold 1 = .ok (.getfield 12, 3) := by decide +kernel
theorem dX3_kindTold_4 : decode cX3_kindTold 4 = .ok (.ldc 122, 2) := by decide +kernel
theorem dX3_kindTold_6 : decode cX3_kindTold 6 = .ok (.invokevirtual 45, 3) := by decide +kernel
theorem dX3_kindTold_9 : decode cX3_kindTold 9 = .ok (.ifCond .eq 5, 3) := by decide +kernel
theorem dX3_kindTold_12 : decode cX3_kindTold 12 = .ok (.iconst 0, 1) := by decide +kernel
theorem dX3_kindTold_13 : decode cX3_kindTold 13 = .ok (.ireturn, 1) := by decide +kernel
theorem dX3_kindTold_14 : decode cX3_kindTold 14 = .ok (.aload_n 0, 1) := by decide +kernel
theorem dX3_kindTold_15 : decode cX3_kindTold 15 = .ok (.getfield 12, 3) := by decide +kernel
theorem dX3_kindTold_18 : decode cX3_kindTold 18 = .ok (.ldc 124, 2) := by decide +kernel
theorem dX3_kindTold_20 : decode cX3_kindTold 20 = .ok (.invokevirtual 45, 3) := by decide +kernel
theorem dX3_kindTold_23 : decode cX3_kindTold 23 = .ok (.ifCond .eq 5, 3) := by decide +kernel
theorem dX3_kindTold_26 : decode cX3_kindTold 26 = .ok (.iconst 1, 1) := by decide +kernel
theorem dX3_kindTold_27 : decode cX3_kindTold 27 = .ok (.ireturn, 1) := by decide +kernel
theorem dX3_kindTold_28 : decode cX3_kindTold 28 = .ok (.aload_n 0, 1) := by decide +kernel
theorem dX3_kindTold_29 : decode cX3_kindTold 29 = .ok (.getfield 12, 3) := by decide +kernel
theorem dX3_kindTold_32 : decode cX3_kindTold 32 = .ok (.ldc 126, 2) := by decide +kernel
theorem dX3_kindTold_34 : decode cX3_kindTold 34 = .ok (.invokevirtual 45, 3) := by decide +kernel
theorem dX3_kindTold_37 : decode cX3_kindTold 37 = .ok (.ifCond .eq 5, 3) := by decide +kernel
theorem dX3_kindTold_40 : decode cX3_kindTold 40 = .ok (.iconst 2, 1) := by decide +kernel
theorem dX3_kindTold_41 : decode cX3_kindTold 41 = .ok (.ireturn, 1) := by decide +kernel
theorem dX3_kindTold_42 : decode cX3_kindTold 42 = .ok (.aload_n 0, 1) := by decide +kernel
theorem dX3_kindTold_43 : decode cX3_kindTold 43 = .ok (.getfield 12, 3) := by decide +kernel
theorem dX3_kindTold_46 : decode cX3_kindTold 46 = .ok (.ldc 128, 2) := by decide +kernel
theorem dX3_kindTold_48 : decode cX3_kindTold 48 = .ok (.invokevirtual 45, 3) := by decide +kernel
theorem dX3_kindTold_51 : decode cX3_kindTold 51 = .ok (.ifCond .eq 5, 3) := by decide +kernel
theorem dX3_kindTold_54 : decode cX3_kindTold 54 = .ok (.iconst 3, 1) := by decide +kernel
theorem dX3_kindTold_55 : decode cX3_kindTold 55 = .ok (.ireturn, 1) := by decide +kernel
theorem dX3_kindTold_56 : decode cX3_kindTold 56 = .ok (.aload_n 0, 1) := by decide +kernel
theorem dX3_kindTold_57 : decode cX3_kindTold 57 = .ok (.getfield 12, 3) := by decide +kernel
theorem dX3_kindTold_60 : decode cX3_kindTold 60 = .ok (.ldc 130, 2) := by decide +kernel
theorem dX3_kindTold_62 : decode cX3_kindTold 62 = .ok (.invokevirtual 45, 3) := by decide +kernel
theorem dX3_kindTold_65 : decode cX3_kindTold 65 = .ok (.ifCond .eq 5, 3) := by decide +kernel
theorem dX3_kindTold_68 : decode cX3_kindTold 68 = .ok (.iconst 4, 1) := by decide +kernel
theorem dX3_kindTold_69 : decode cX3_kindTold 69 = .ok (.ireturn, 1) := by decide +kernel
theorem dX3_kindTold_70 : decode cX3_kindTold 70 = .ok (.aload_n 0, 1) := by decide +kernel
theorem dX3_kindTold_71 : decode cX3_kindTold 71 = .ok (.getfield 12, 3) := by decide +kernel
theorem dX3_kindTold_74 : decode cX3_kindTold 74 = .ok (.ldc 132, 2) := by decide +kernel
theorem dX3_kindTold_76 : decode cX3_kindTold 76 = .ok (.invokevirtual 45, 3) := by decide +kernel
theorem dX3_kindTold_79 : decode cX3_kindTold 79 = .ok (.ifCond .eq 5, 3) := by decide +kernel
theorem dX3_kindTold_82 : decode cX3_kindTold 82 = .ok (.iconst 5, 1) := by decide +kernel
theorem dX3_kindTold_83 : decode cX3_kindTold 83 = .ok (.ireturn, 1) := by decide +kernel
theorem dX3_kindTold_84 : decode cX3_kindTold 84 = .ok (.aload_n 0, 1) := by decide +kernel
theorem dX3_kindTold_85 : decode cX3_kindTold 85 = .ok (.getfield 12, 3) := by decide +kernel
theorem dX3_kindTold_88 : decode cX3_kindTold 88 = .ok (.ldc 134, 2) := by decide +kernel
theorem dX3_kindTold_90 : decode cX3_kindTold 90 = .ok (.invokevirtual 45, 3) := by decide +kernel
theorem dX3_kindTold_93 : decode cX3_kindTold 93 = .ok (.ifCond .eq 8, 3) := by decide +kernel
theorem dX3_kindTold_96 : decode cX3_kindTold 96 = .ok (.bipush 6, 2) := by decide +kernel
theorem dX3_kindTold_98 : decode cX3_kindTold 98 = .ok (.goto 4, 3) := by decide +kernel
theorem dX3_kindTold_101 : decode cX3_kindTold 101 = .ok (.iconst (-1), 1) := by decide +kernel
theorem dX3_kindTold_102 : decode cX3_kindTold 102 = .ok (.ireturn, 1) := by decide +kernel
theorem dX4_init_0 : decode cX4_init 0 = .ok (.aload_n 0, 1) := by decide +kernel
theorem dX4_init_1 : decode cX4_init 1 = .ok (.invokespecial 3, 3) := by decide +kernel
theorem dX4_init_4 : decode cX4_init 4 = .ok (.aload_n 0, 1) := by decide +kernel
theorem dX4_init_5 : decode cX4_init 5 = .ok (.bipush 30, 2) := by decide +kernel
theorem dX4_init_7 : decode cX4_init 7 = .ok (.newarray .int, 2) := by decide +kernel
theorem dX4_init_9 : decode cX4_init 9 = .ok (.putfield 9, 3) := by decide +kernel
theorem dX4_init_12 : decode cX4_init 12 = .ok (.return_, 1) := by decide +kernel
theorem dX4_become_0 : decode cX4_become 0 = .ok (.aload_n 1, 1) := by decide +kernel
theorem dX4_become_1 : decode cX4_become 1 = .ok (.getfield 9, 3) := by decide +kernel
theorem dX4_become_4 : decode cX4_become 4 = .ok (.iconst 0, 1) := by decide +kernel
theorem dX4_become_5 : decode cX4_become 5 = .ok (.aload_n 0, 1) := by decide +kernel
theorem dX4_become_6 : decode cX4_become 6 = .ok (.getfield 9, 3) := by decide +kernel
theorem dX4_become_9 : decode cX4_become 9 = .ok (.iconst 0, 1) := by decide +kernel
theorem dX4_become_10 : decode cX4_become 10 = .ok (.bipush 30, 2) := by decide +kernel
theorem dX4_become_12 : decode cX4_become 12 = .ok (.invokestatic 15, 3) := by decide +kernel
theorem dX4_become_15 : decode cX4_become 15 = .ok (.aload_n 0, 1) := by decide +kernel
theorem dX4_become_16 : decode cX4_become 16 = .ok (.aload_n 1, 1) := by decide +kernel
theorem dX4_become_17 : decode cX4_become 17 = .ok (.getfield 21, 3) := by decide +kernel
theorem dX4_become_20 : decode cX4_become 20 = .ok (.putfield 21, 3) := by decide +kernel
theorem dX4_become_23 : decode cX4_become 23 = .ok (.aload_n 0, 1) := by decide +kernel
theorem dX4_become_24 : decode cX4_become 24 = .ok (.aload_n 1, 1) := by decide +kernel
theorem dX4_become_25 : decode cX4_become 25 = .ok (.getfield 25, 3) := by decide +kernel
theorem dX4_become_28 : decode cX4_become 28 = .ok (.putfield 25, 3) := by decide +kernel
theorem dX4_become_31 : decode cX4_become 31 = .ok (.aload_n 0, 1) := by decide +kernel
theorem dX4_become_32 : decode cX4_become 32 = .ok (.aload_n 1, 1) := by decide +kernel
theorem dX4_become_33 : decode cX4_become 33 = .ok (.getfield 28, 3) := by decide +kernel
theorem dX4_become_36 : decode cX4_become 36 = .ok (.putfield 28, 3) := by decide +kernel
theorem dX4_become_39 : decode cX4_become 39 = .ok (.aload_n 0, 1) := by decide +kernel
theorem dX4_become_40 : decode cX4_become 40 = .ok (.aload_n 1, 1) := by decide +kernel
theorem dX4_become_41 : decode cX4_become 41 = .ok (.getfield 31, 3) := by decide +kernel
theorem dX4_become_44 : decode cX4_become 44 = .ok (.putfield 31, 3) := by decide +kernel
theorem dX4_become_47 : decode cX4_become 47 = .ok (.aload_n 0, 1) := by decide +kernel
theorem dX4_become_48 : decode cX4_become 48 = .ok (.aload_n 1, 1) := by decide +kernel
theorem dX4_become_49 : decode cX4_become 49 = .ok (.getfield 34, 3) := by decide +kernel
theorem dX4_become_52 : decode cX4_become 52 = .ok (.putfield 34, 3) := by decide +kernel
theorem dX4_become_55 : decode cX4_become 55 = .ok (.aload_n 0, 1) := by decide +kernel
theorem dX4_become_56 : decode cX4_become 56 = .ok (.aload_n 1, 1) := by decide +kernel
theorem dX4_become_57 : decode cX4_become 57 = .ok (.getfield 37, 3) := by decide +kernel
theorem dX4_become_60 : decode cX4_become 60 = .ok (.putfield 37, 3) := by decide +kernel
theorem dX4_become_63 : decode cX4_become 63 = .ok (.aload_n 0, 1) := by decide +kernel
theorem dX4_become_64 : decode cX4_become 64 = .ok (.aload_n 1, 1) := by decide +kernel
theorem dX4_become_65 : decode cX4_become 65 = .ok (.getfield 40, 3) := by decide +kernel
theorem dX4_become_68 : decode cX4_become 68 = .ok (.putfield 40, 3) := by decide +kernel
theorem dX4_become_71 : decode cX4_become 71 = .ok (.return_, 1) := by decide +kernel
theorem dX4_beNew_0 : decode cX4_beNew 0 = .ok (.aload_n 0, 1) := by decide +kernel
theorem dX4_beNew_1 : decode cX4_beNew 1 = .ok (.getfield 9, 3) := by decide +kernel
theorem dX4_beNew_4 : decode cX4_beNew 4 = .ok (.iconst 4, 1) := by decide +kernel
theorem dX4_beNew_5 : decode cX4_beNew 5 = .ok (.invokestatic 43, 3) := by decide +kernel
theorem dX4_beNew_8 : decode cX4_beNew 8 = .ok (.aload_n 0, 1) := by decide +kernel
theorem dX4_beNew_9 : decode cX4_beNew 9 = .ok (.iload_n 1, 1) := by decide +kernel
theorem dX4_beNew_10 : decode cX4_beNew 10 = .ok (.putfield 21, 3) := by decide +kernel
theorem dX4_beNew_13 : decode cX4_beNew 13 = .ok (.aload_n 0, 1) := by decide +kernel
theorem dX4_beNew_14 : decode cX4_beNew 14 = .ok (.iload_n 2, 1) := by decide +kernel
theorem dX4_beNew_15 : decode cX4_beNew 15 = .ok (.putfield 25, 3) := by decide +kernel
theorem dX4_beNew_18 : decode cX4_beNew 18 = .ok (.aload_n 0, 1) := by decide +kernel
theorem dX4_beNew_19 : decode cX4_beNew 19 = .ok (.iload_n 3, 1) := by decide +kernel
theorem dX4_beNew_20 : decode cX4_beNew 20 = .ok (.putfield 28, 3) := by decide +kernel
theorem dX4_beNew_23 : decode cX4_beNew 23 = .ok (.aload_n 0, 1) := by decide +kernel
theorem dX4_beNew_24 : decode cX4_beNew 24 = .ok (.invokevirtual 49, 3) := by decide +kernel
theorem dX4_beNew_27 : decode cX4_beNew 27 = .ok (.return_, 1) := by decide +kernel
theorem dX4_restart_0 : decode cX4_restart 0 = .ok (.aload_n 0, 1) := by decide +kernel
theorem dX4_restart_1 : decode cX4_restart 1 = .ok (.iconst 0, 1) := by decide +kernel
theorem dX4_restart_2 : decode cX4_restart 2 = .ok (.putfield 31, 3) := by decide +kernel
theorem dX4_restart_5 : decode cX4_restart 5 = .ok (.aload_n 0, 1) := by decide +kernel
theorem dX4_restart_6 : decode cX4_restart 6 = .ok (.iconst 0, 1) := by decide +kernel
theorem dX4_restart_7 : decode cX4_restart 7 = .ok (.putfield 34, 3) := by decide +kernel
theorem dX4_restart_10 : decode cX4_restart 10 = .ok (.aload_n 0, 1) := by decide +kernel
theorem dX4_restart_11 : decode cX4_restart 11 = .ok (.iconst 0, 1) := by decide +kernel
theorem dX4_restart_12 : decode cX4_restart 12 = .ok (.putfield 37, 3) := by decide +kernel
theorem dX4_restart_15 : decode cX4_restart 15 = .ok (.aload_n 0, 1) := by decide +kernel
theorem dX4_restart_16 : decode cX4_restart 16 = .ok (.iconst 0, 1) := by decide +kernel
theorem dX4_restart_17 : decode cX4_restart 17 = .ok (.putfield 40, 3) := by decide +kernel
theorem dX4_restart_20 : decode cX4_restart 20 = .ok (.return_, 1) := by decide +kernel
theorem dX4_isHome_0 : decode cX4_isHome 0 = .ok (.aload_n 0, 1) := by decide +kernel
theorem dX4_isHome_1 : decode cX4_isHome 1 = .ok (.getfield 31, 3) := by decide +kernel
theorem dX4_isHome_4 : decode cX4_isHome 4 = .ok (.bipush 30, 2) := by decide +kernel
theorem dX4_isHome_6 : decode cX4_isHome 6 = .ok (.if_icmp .lt 7, 3) := by decide +kernel
theorem dX4_isHome_9 : decode cX4_isHome 9 = .ok (.iconst 1, 1) := by decide +kernel
theorem dX4_isHome_10 : decode cX4_isHome 10 = .ok (.goto 4, 3) := by decide +kernel
theorem dX4_isHome_13 : decode cX4_isHome 13 = .ok (.iconst 0, 1) := by decide +kernel
theorem dX4_isHome_14 : decode cX4_isHome 14 = .ok (.ireturn, 1) := by decide +kernel
theorem dX4_isOfKind_0 : decode cX4_isOfKind 0 = .ok (.aload_n 0, 1) := by decide +kernel
theorem dX4_isOfKind_1 : decode cX4_isOfKind 1 = .ok (.getfield 21, 3) := by decide +kernel
theorem dX4_isOfKind_4 : decode cX4_isOfKind 4 = .ok (.istore_n 2, 1) := by decide +kernel
theorem dX4_isOfKind_5 : decode cX4_isOfKind 5 = .ok (.iconst 0, 1) := by decide +kernel
theorem dX4_isOfKind_6 : decode cX4_isOfKind 6 = .ok (.istore_n 3, 1) := by decide +kernel
theorem dX4_isOfKind_7 : decode cX4_isOfKind 7 = .ok (.iload_n 3, 1) := by decide +kernel
theorem dX4_isOfKind_8 : decode cX4_isOfKind 8 = .ok (.bipush 6, 2) := by decide +kernel
theorem dX4_isOfKind_10 : decode cX4_isOfKind 10 = .ok (.if_icmp .gt 26, 3) := by decide +kernel
theorem dX4_isOfKind_13 : decode cX4_isOfKind 13 = .ok (.iload_n 2, 1) := by decide +kernel
theorem dX4_isOfKind_14 : decode cX4_isOfKind 14 = .ok (.ifCond .lt 22, 3) := by decide +kernel
theorem dX4_isOfKind_17 : decode cX4_isOfKind 17 = .ok (.iload_n 2, 1) := by decide +kernel
theorem dX4_isOfKind_18 : decode cX4_isOfKind 18 = .ok (.iload_n 1, 1) := by decide +kernel
theorem dX4_isOfKind_19 : decode cX4_isOfKind 19 = .ok (.if_icmp .ne 5, 3) := by decide +kernel
theorem dX4_isOfKind_22 : decode cX4_isOfKind 22 = .ok (.iconst 1, 1) := by decide +kernel
theorem dX4_isOfKind_23 : decode cX4_isOfKind 23 = .ok (.ireturn, 1) := by decide +kernel
theorem dX4_isOfKind_24 : decode cX4_isOfKind 24 = .ok (.getstatic 52, 3) := by decide +kernel
theorem dX4_isOfKind_27 : decode cX4_isOfKind 27 = .ok (.iload_n 2, 1) := by decide +kernel
theorem dX4_isOfKind_28 : decode cX4_isOfKind 28 = .ok (.iaload, 1) := by decide +kernel
theorem dX4_isOfKind_29 : decode cX4_isOfKind 29 = .ok (.istore_n 2, 1) := by decide +kernel
theorem dX4_isOfKind_30 : decode cX4_isOfKind 30 = .ok (.iinc 3 1, 3) := by decide +kernel
theorem dX4_isOfKind_33 : decode cX4_isOfKind 33 = .ok (.goto (-26), 3) := by decide +kernel
theorem dX4_isOfKind_36 : decode cX4_isOfKind 36 = .ok (.iconst 0, 1) := by decide +kernel
theorem dX4_isOfKind_37 : decode cX4_isOfKind 37 = .ok (.ireturn, 1) := by decide +kernel
theorem dX4_takes_0 : decode cX4_takes 0 = .ok (.bipush 12, 2) := by decide +kernel
theorem dX4_takes_2 : decode cX4_takes 2 = .ok (.iload_n 1, 1) := by decide +kernel
theorem dX4_takes_3 : decode cX4_takes 3 = .ok (.isub, 1) := by decide +kernel
theorem dX4_takes_4 : decode cX4_takes 4 = .ok (.getstatic 55, 3) := by decide +kernel
theorem dX4_takes_7 : decode cX4_takes 7 = .ok (.aload_n 0, 1) := by decide +kernel
theorem dX4_takes_8 : decode cX4_takes 8 = .ok (.getfield 21, 3) := by decide +kernel
theorem dX4_takes_11 : decode cX4_takes 11 = .ok (.iaload, 1) := by decide +kernel
theorem dX4_takes_12 : decode cX4_takes 12 = .ok (.iadd, 1) := by decide +kernel
theorem dX4_takes_13 : decode cX4_takes 13 = .ok (.ireturn, 1) := by decide +kernel
theorem dX4_rocks_0 : decode cX4_rocks 0 = .ok (.aload_n 0, 1) := by decide +kernel
theorem dX4_rocks_1 : decode cX4_rocks 1 = .ok (.getfield 21, 3) := by decide +kernel
theorem dX4_rocks_4 : decode cX4_rocks 4 = .ok (.iconst 4, 1) := by decide +kernel
theorem dX4_rocks_5 : decode cX4_rocks 5 = .ok (.if_icmp .ne 11, 3) := by decide +kernel
theorem dX4_rocks_8 : decode cX4_rocks 8 = .ok (.iload_n 1, 1) := by decide +kernel
theorem dX4_rocks_9 : decode cX4_rocks 9 = .ok (.bipush 6, 2) := by decide +kernel
theorem dX4_rocks_11 : decode cX4_rocks 11 = .ok (.if_icmp .ne 5, 3) := by decide +kernel
theorem dX4_rocks_14 : decode cX4_rocks 14 = .ok (.iconst 2, 1) := by decide +kernel
theorem dX4_rocks_15 : decode cX4_rocks 15 = .ok (.ireturn, 1) := by decide +kernel
theorem dX4_rocks_16 : decode cX4_rocks 16 = .ok (.getstatic 58, 3) := by decide +kernel
theorem dX4_rocks_19 : decode cX4_rocks 19 = .ok (.iload_n 1, 1) := by decide +kernel
theorem dX4_rocks_20 : decode cX4_rocks 20 = .ok (.iaload, 1) := by decide +kernel
theorem dX4_rocks_21 : decode cX4_rocks 21 = .ok (.getstatic 61, 3) := by decide +kernel
theorem dX4_rocks_24 : decode cX4_rocks 24 = .ok (.aload_n 0, 1) := by decide +kernel
theorem dX4_rocks_25 : decode cX4_rocks 25 = .ok (.getfield 21, 3) := by decide +kernel
theorem dX4_rocks_28 : decode cX4_rocks 28 = .ok (.iaload, 1) := by decide +kernel
theorem dX4_rocks_29 : decode cX4_rocks 29 = .ok (.iadd, 1) := by decide +kernel
theorem dX4_rocks_30 : decode cX4_rocks 30 = .ok (.ireturn, 1) := by decide +kernel
theorem dX4_hurts_0 : decode cX4_hurts 0 = .ok (.getstatic 64, 3) := by decide +kernel
theorem dX4_hurts_3 : decode cX4_hurts 3 = .ok (.iload_n 1, 1) := by decide +kernel
theorem dX4_hurts_4 : decode cX4_hurts 4 = .ok (.iaload, 1) := by decide +kernel
theorem dX4_hurts_5 : decode cX4_hurts 5 = .ok (.getstatic 67, 3) := by decide +kernel
theorem dX4_hurts_8 : decode cX4_hurts 8 = .ok (.aload_n 0, 1) := by decide +kernel
theorem dX4_hurts_9 : decode cX4_hurts 9 = .ok (.getfield 21, 3) := by decide +kernel
theorem dX4_hurts_12 : decode cX4_hurts 12 = .ok (.iaload, 1) := by decide +kernel
theorem dX4_hurts_13 : decode cX4_hurts 13 = .ok (.imul, 1) := by decide +kernel
theorem dX4_hurts_14 : decode cX4_hurts 14 = .ok (.ireturn, 1) := by decide +kernel
theorem dX4_holds_0 : decode cX4_holds 0 = .ok (.aload_n 0, 1) := by decide +kernel
theorem dX4_holds_1 : decode cX4_holds 1 = .ok (.getfield 25, 3) := by decide +kernel
theorem dX4_holds_4 : decode cX4_holds 4 = .ok (.iconst 2, 1) := by decide +kernel
theorem dX4_holds_5 : decode cX4_holds 5 = .ok (.idiv, 1) := by decide +kernel
theorem dX4_holds_6 : decode cX4_holds 6 = .ok (.aload_n 0, 1) := by decide +kernel
theorem dX4_holds_7 : decode cX4_holds 7 = .ok (.getfield 28, 3) := by decide +kernel
theorem dX4_holds_10 : decode cX4_holds 10 = .ok (.iadd, 1) := by decide +kernel
theorem dX4_holds_11 : decode cX4_holds 11 = .ok (.getstatic 70, 3) := by decide +kernel
theorem dX4_holds_14 : decode cX4_holds 14 = .ok (.aload_n 0, 1) := by decide +kernel
theorem dX4_holds_15 : decode cX4_holds 15 = .ok (.getfield 21, 3) := by decide +kernel
theorem dX4_holds_18 : decode cX4_holds 18 = .ok (.iaload, 1) := by decide +kernel
theorem dX4_holds_19 : decode cX4_holds 19 = .ok (.iadd, 1) := by decide +kernel
theorem dX4_holds_20 : decode cX4_holds 20 = .ok (.ireturn, 1) := by decide +kernel
theorem dX4_tell_0 : decode cX4_tell 0 = .ok (.iload_n 1, 1) := by decide +kernel
theorem dX4_tell_1 : decode cX4_tell 1 = .ok (.tableswitch 78 0 6 #[43, 48, 53, 58, 63, 68, 73], 43) := by decide +kernel
theorem dX4_tell_44 : decode cX4_tell 44 = .ok (.aload_n 0, 1) := by decide +kernel
theorem dX4_tell_45 : decode cX4_tell 45 = .ok (.getfield 21, 3) := by decide +kernel
theorem dX4_tell_48 : decode cX4_tell 48 = .ok (.ireturn, 1) := by decide +kernel
theorem dX4_tell_49 : decode cX4_tell 49 = .ok (.aload_n 0, 1) := by decide +kernel
theorem dX4_tell_50 : decode cX4_tell 50 = .ok (.getfield 25, 3) := by decide +kernel
theorem dX4_tell_53 : decode cX4_tell 53 = .ok (.ireturn, 1) := by decide +kernel
theorem dX4_tell_54 : decode cX4_tell 54 = .ok (.aload_n 0, 1) := by decide +kernel
theorem dX4_tell_55 : decode cX4_tell 55 = .ok (.getfield 28, 3) := by decide +kernel
theorem dX4_tell_58 : decode cX4_tell 58 = .ok (.ireturn, 1) := by decide +kernel
theorem dX4_tell_59 : decode cX4_tell 59 = .ok (.aload_n 0, 1) := by decide +kernel
theorem dX4_tell_60 : decode cX4_tell 60 = .ok (.getfield 31, 3) := by decide +kernel
theorem dX4_tell_63 : decode cX4_tell 63 = .ok (.ireturn, 1) := by decide +kernel
theorem dX4_tell_64 : decode cX4_tell 64 = .ok (.aload_n 0, 1) := by decide +kernel
theorem dX4_tell_65 : decode cX4_tell 65 = .ok (.getfield 34, 3) := by decide +kernel
theorem dX4_tell_68 : decode cX4_tell 68 = .ok (.ireturn, 1) := by decide +kernel
theorem dX4_tell_69 : decode cX4_tell 69 = .ok (.aload_n 0, 1) := by decide +kernel
theorem dX4_tell_70 : decode cX4_tell 70 = .ok (.getfield 37, 3) := by decide +kernel
theorem dX4_tell_73 : decode cX4_tell 73 = .ok (.ireturn, 1) := by decide +kernel
theorem dX4_tell_74 : decode cX4_tell 74 = .ok (.aload_n 0, 1) := by decide +kernel
theorem dX4_tell_75 : decode cX4_tell 75 = .ok (.getfield 40, 3) := by decide +kernel
theorem dX4_tell_78 : decode cX4_tell 78 = .ok (.ireturn, 1) := by decide +kernel
theorem dX4_tell_79 : decode cX4_tell 79 = .ok (.aload_n 0, 1) := by decide +kernel
theorem dX4_tell_80 : decode cX4_tell 80 = .ok (.invokevirtual 73, 3) := by decide +kernel
theorem dX4_tell_83 : decode cX4_tell 83 = .ok (.ireturn, 1) := by decide +kernel
theorem dX4_put_0 : decode cX4_put 0 = .ok (.iload_n 1, 1) := by decide +kernel
theorem dX4_put_1 : decode cX4_put 1 = .ok (.tableswitch 79 0 5 #[39, 47, 55, 63, 79, 71], 39) := by decide +kernel
theorem dX4_put_40 : decode cX4_put 40 = .ok (.aload_n 0, 1) := by decide +kernel
theorem dX4_put_41 : decode cX4_put 41 = .ok (.iload_n 2, 1) := by decide +kernel
theorem dX4_put_42 : decode cX4_put 42 = .ok (.putfield 21, 3) := by decide +kernel
theorem dX4_put_45 : decode cX4_put 45 = .ok (.goto 35, 3) := by decide +kernel
theorem dX4_put_48 : decode cX4_put 48 = .ok (.aload_n 0, 1) := by decide +kernel
theorem dX4_put_49 : decode cX4_put 49 = .ok (.iload_n 2, 1) := by decide +kernel
theorem dX4_put_50 : decode cX4_put 50 = .ok (.putfield 25, 3) := by decide +kernel
theorem dX4_put_53 : decode cX4_put 53 = .ok (.goto 27, 3) := by decide +kernel
theorem dX4_put_56 : decode cX4_put 56 = .ok (.aload_n 0, 1) := by decide +kernel
theorem dX4_put_57 : decode cX4_put 57 = .ok (.iload_n 2, 1) := by decide +kernel
theorem dX4_put_58 : decode cX4_put 58 = .ok (.putfield 28, 3) := by decide +kernel
theorem dX4_put_61 : decode cX4_put 61 = .ok (.goto 19, 3) := by decide +kernel
theorem dX4_put_64 : decode cX4_put 64 = .ok (.aload_n 0, 1) := by decide +kernel
theorem dX4_put_65 : decode cX4_put 65 = .ok (.iload_n 2, 1) := by decide +kernel
theorem dX4_put_66 : decode cX4_put 66 = .ok (.putfield 31, 3) := by decide +kernel
theorem dX4_put_69 : decode cX4_put 69 = .ok (.goto 11, 3) := by decide +kernel
theorem dX4_put_72 : decode cX4_put 72 = .ok (.aload_n 0, 1) := by decide +kernel
theorem dX4_put_73 : decode cX4_put 73 = .ok (.iload_n 2, 1) := by decide +kernel
theorem dX4_put_74 : decode cX4_put 74 = .ok (.putfield 37, 3) := by decide +kernel
theorem dX4_put_77 : decode cX4_put 77 = .ok (.goto 3, 3) := by decide +kernel
theorem dX4_put_80 : decode cX4_put 80 = .ok (.return_, 1) := by decide +kernel
theorem dX4_mostOf_0 : decode cX4_mostOf 0 = .ok (.iload_n 0, 1) := by decide +kernel
theorem dX4_mostOf_1 : decode cX4_mostOf 1 = .ok (.tableswitch 52 0 5 #[39, 42, 45, 47, 52, 50], 39) := by decide +kernel
theorem dX4_mostOf_40 : decode cX4_mostOf 40 = .ok (.bipush 6, 2) := by decide +kernel
theorem dX4_mostOf_42 : decode cX4_mostOf 42 = .ok (.ireturn, 1) := by decide +kernel
theorem dX4_mostOf_43 : decode cX4_mostOf 43 = .ok (.bipush 9, 2) := by decide +kernel
theorem dX4_mostOf_45 : decode cX4_mostOf 45 = .ok (.ireturn, 1) := by decide +kernel
theorem dX4_mostOf_46 : decode cX4_mostOf 46 = .ok (.iconst 5, 1) := by decide +kernel
theorem dX4_mostOf_47 : decode cX4_mostOf 47 = .ok (.ireturn, 1) := by decide +kernel
theorem dX4_mostOf_48 : decode cX4_mostOf 48 = .ok (.bipush 30, 2) := by decide +kernel
theorem dX4_mostOf_50 : decode cX4_mostOf 50 = .ok (.ireturn, 1) := by decide +kernel
theorem dX4_mostOf_51 : decode cX4_mostOf 51 = .ok (.iconst 3, 1) := by decide +kernel
theorem dX4_mostOf_52 : decode cX4_mostOf 52 = .ok (.ireturn, 1) := by decide +kernel
theorem dX4_mostOf_53 : decode cX4_mostOf 53 = .ok (.iconst (-1), 1) := by decide +kernel
theorem dX4_mostOf_54 : decode cX4_mostOf 54 = .ok (.ireturn, 1) := by decide +kernel
theorem dX5_init_0 : decode cX5_init 0 = .ok (.aload_n 0, 1) := by decide +kernel
theorem dX5_init_1 : decode cX5_init 1 = .ok (.invokespecial 3, 3) := by decide +kernel
theorem dX5_init_4 : decode cX5_init 4 = .ok (.aload_n 0, 1) := by decide +kernel
theorem dX5_init_5 : decode cX5_init 5 = .ok (.bipush 40, 2) := by decide +kernel
theorem dX5_init_7 : decode cX5_init 7 = .ok (.newarray .int, 2) := by decide +kernel
theorem dX5_init_9 : decode cX5_init 9 = .ok (.putfield 9, 3) := by decide +kernel
theorem dX5_init_12 : decode cX5_init 12 = .ok (.aload_n 0, 1) := by decide +kernel
theorem dX5_init_13 : decode cX5_init 13 = .ok (.iconst 0, 1) := by decide +kernel
theorem dX5_init_14 : decode cX5_init 14 = .ok (.putfield 15, 3) := by decide +kernel
theorem dX5_init_17 : decode cX5_init 17 = .ok (.aload_n 0, 1) := by decide +kernel
theorem dX5_init_18 : decode cX5_init 18 = .ok (.iconst 0, 1) := by decide +kernel
theorem dX5_init_19 : decode cX5_init 19 = .ok (.putfield 19, 3) := by decide +kernel
theorem dX5_init_22 : decode cX5_init 22 = .ok (.return_, 1) := by decide +kernel
theorem dX5_isMissing_0 : decode cX5_isMissing 0 = .ok (.aload_n 0, 1) := by decide +kernel
theorem dX5_isMissing_1 : decode cX5_isMissing 1 = .ok (.getfield 15, 3) := by decide +kernel
theorem dX5_isMissing_4 : decode cX5_isMissing 4 = .ok (.ifCond .ne 7, 3) := by decide +kernel
theorem dX5_isMissing_7 : decode cX5_isMissing 7 = .ok (.iconst 1, 1) := by decide +kernel
theorem dX5_isMissing_8 : decode cX5_isMissing 8 = .ok (.goto 4, 3) := by decide +kernel
theorem dX5_isMissing_11 : decode cX5_isMissing 11 = .ok (.iconst 0, 1) := by decide +kernel
theorem dX5_isMissing_12 : decode cX5_isMissing 12 = .ok (.ireturn, 1) := by decide +kernel
theorem dX5_lay_0 : decode cX5_lay 0 = .ok (.aload_n 0, 1) := by decide +kernel
theorem dX5_lay_1 : decode cX5_lay 1 = .ok (.iload_n 1, 1) := by decide +kernel
theorem dX5_lay_2 : decode cX5_lay 2 = .ok (.putfield 15, 3) := by decide +kernel
theorem dX5_lay_5 : decode cX5_lay 5 = .ok (.aload_n 0, 1) := by decide +kernel
theorem dX5_lay_6 : decode cX5_lay 6 = .ok (.iload_n 1, 1) := by decide +kernel
theorem dX5_lay_7 : decode cX5_lay 7 = .ok (.ifCond .ne 7, 3) := by decide +kernel
theorem dX5_lay_10 : decode cX5_lay 10 = .ok (.iconst 0, 1) := by decide +kernel
theorem dX5_lay_11 : decode cX5_lay 11 = .ok (.goto 4, 3) := by decide +kernel
theorem dX5_lay_14 : decode cX5_lay 14 = .ok (.iload_n 2, 1) := by decide +kernel
theorem dX5_lay_15 : decode cX5_lay 15 = .ok (.putfield 19, 3) := by decide +kernel
theorem dX5_lay_18 : decode cX5_lay 18 = .ok (.aload_n 0, 1) := by decide +kernel
theorem dX5_lay_19 : decode cX5_lay 19 = .ok (.getfield 9, 3) := by decide +kernel
theorem dX5_lay_22 : decode cX5_lay 22 = .ok (.iconst 0, 1) := by decide +kernel
theorem dX5_lay_23 : decode cX5_lay 23 = .ok (.invokestatic 22, 3) := by decide +kernel
theorem dX5_lay_26 : decode cX5_lay 26 = .ok (.return_, 1) := by decide +kernel
theorem dX5_put_0 : decode cX5_put 0 = .ok (.aload_n 0, 1) := by decide +kernel
theorem dX5_put_1 : decode cX5_put 1 = .ok (.getfield 15, 3) := by decide +kernel
theorem dX5_put_4 : decode cX5_put 4 = .ok (.bipush 8, 2) := by decide +kernel
theorem dX5_put_6 : decode cX5_put 6 = .ok (.if_icmp .ne 14, 3) := by decide +kernel
theorem dX5_put_9 : decode cX5_put 9 = .ok (.aload_n 0, 1) := by decide +kernel
theorem dX5_put_10 : decode cX5_put 10 = .ok (.getfield 9, 3) := by decide +kernel
theorem dX5_put_13 : decode cX5_put 13 = .ok (.iload_n 1, 1) := by decide +kernel
theorem dX5_put_14 : decode cX5_put 14 = .ok (.iload_n 2, 1) := by decide +kernel
theorem dX5_put_15 : decode cX5_put 15 = .ok (.i2b, 1) := by decide +kernel
theorem dX5_put_16 : decode cX5_put 16 = .ok (.iastore, 1) := by decide +kernel
theorem dX5_put_17 : decode cX5_put 17 = .ok (.goto 30, 3) := by decide +kernel
theorem dX5_put_20 : decode cX5_put 20 = .ok (.aload_n 0, 1) := by decide +kernel
theorem dX5_put_21 : decode cX5_put 21 = .ok (.getfield 15, 3) := by decide +kernel
theorem dX5_put_24 : decode cX5_put 24 = .ok (.bipush 16, 2) := by decide +kernel
theorem dX5_put_26 : decode cX5_put 26 = .ok (.if_icmp .ne 14, 3) := by decide +kernel
theorem dX5_put_29 : decode cX5_put 29 = .ok (.aload_n 0, 1) := by decide +kernel
theorem dX5_put_30 : decode cX5_put 30 = .ok (.getfield 9, 3) := by decide +kernel
theorem dX5_put_33 : decode cX5_put 33 = .ok (.iload_n 1, 1) := by decide +kernel
theorem dX5_put_34 : decode cX5_put 34 = .ok (.iload_n 2, 1) := by decide +kernel
theorem dX5_put_35 : decode cX5_put 35 = .ok (.i2s, 1) := by decide +kernel
theorem dX5_put_36 : decode cX5_put 36 = .ok (.iastore, 1) := by decide +kernel
theorem dX5_put_37 : decode cX5_put 37 = .ok (.goto 10, 3) := by decide +kernel
theorem dX5_put_40 : decode cX5_put 40 = .ok (.aload_n 0, 1) := by decide +kernel
theorem dX5_put_41 : decode cX5_put 41 = .ok (.getfield 9, 3) := by decide +kernel
theorem dX5_put_44 : decode cX5_put 44 = .ok (.iload_n 1, 1) := by decide +kernel
theorem dX5_put_45 : decode cX5_put 45 = .ok (.iload_n 2, 1) := by decide +kernel
theorem dX5_put_46 : decode cX5_put 46 = .ok (.iastore, 1) := by decide +kernel
theorem dX5_put_47 : decode cX5_put 47 = .ok (.return_, 1) := by decide +kernel
theorem dX5_hasRow_0 : decode cX5_hasRow 0 = .ok (.iload_n 2, 1) := by decide +kernel
theorem dX5_hasRow_1 : decode cX5_hasRow 1 = .ok (.ifCond .lt 29, 3) := by decide +kernel
theorem dX5_hasRow_4 : decode cX5_hasRow 4 = .ok (.iload_n 1, 1) := by decide +kernel
theorem dX5_hasRow_5 : decode cX5_hasRow 5 = .ok (.ifCond .lt 25, 3) := by decide +kernel
theorem dX5_hasRow_8 : decode cX5_hasRow 8 = .ok (.iload_n 2, 1) := by decide +kernel
theorem dX5_hasRow_9 : decode cX5_hasRow 9 = .ok (.aload_n 0, 1) := by decide +kernel
theorem dX5_hasRow_10 : decode cX5_hasRow 10 = .ok (.getfield 19, 3) := by decide +kernel
theorem dX5_hasRow_13 : decode cX5_hasRow 13 = .ok (.if_icmp .gt 17, 3) := by decide +kernel
theorem dX5_hasRow_16 : decode cX5_hasRow 16 = .ok (.iload_n 1, 1) := by decide +kernel
theorem dX5_hasRow_17 : decode cX5_hasRow 17 = .ok (.aload_n 0, 1) := by decide +kernel
theorem dX5_hasRow_18 : decode cX5_hasRow 18 = .ok (.getfield 19, 3) := by decide +kernel
theorem dX5_hasRow_21 : decode cX5_hasRow 21 = .ok (.iload_n 2, 1) := by decide +kernel
theorem dX5_hasRow_22 : decode cX5_hasRow 22 = .ok (.isub, 1) := by decide +kernel
theorem dX5_hasRow_23 : decode cX5_hasRow 23 = .ok (.if_icmp .gt 7, 3) := by decide +kernel
theorem dX5_hasRow_26 : decode cX5_hasRow 26 = .ok (.iconst 1, 1) := by decide +kernel
theorem dX5_hasRow_27 : decode cX5_hasRow 27 = .ok (.goto 4, 3) := by decide +kernel
theorem dX5_hasRow_30 : decode cX5_hasRow 30 = .ok (.iconst 0, 1) := by decide +kernel
theorem dX5_hasRow_31 : decode cX5_hasRow 31 = .ok (.ireturn, 1) := by decide +kernel
theorem dX6_init_0 : decode cX6_init 0 = .ok (.aload_n 0, 1) := by decide +kernel
theorem dX6_init_1 : decode cX6_init 1 = .ok (.invokespecial 3, 3) := by decide +kernel
theorem dX6_init_4 : decode cX6_init 4 = .ok (.aload_n 0, 1) := by decide +kernel
theorem dX6_init_5 : decode cX6_init 5 = .ok (.bipush 120, 2) := by decide +kernel
theorem dX6_init_7 : decode cX6_init 7 = .ok (.newarray .int, 2) := by decide +kernel
theorem dX6_init_9 : decode cX6_init 9 = .ok (.putfield 9, 3) := by decide +kernel
theorem dX6_init_12 : decode cX6_init 12 = .ok (.aload_n 0, 1) := by decide +kernel
theorem dX6_init_13 : decode cX6_init 13 = .ok (.bipush 120, 2) := by decide +kernel
theorem dX6_init_15 : decode cX6_init 15 = .ok (.newarray .int, 2) := by decide +kernel
theorem dX6_init_17 : decode cX6_init 17 = .ok (.putfield 15, 3) := by decide +kernel
theorem dX6_init_20 : decode cX6_init 20 = .ok (.aload_n 0, 1) := by decide +kernel
theorem dX6_init_21 : decode cX6_init 21 = .ok (.iconst 0, 1) := by decide +kernel
theorem dX6_init_22 : decode cX6_init 22 = .ok (.putfield 18, 3) := by decide +kernel
theorem dX6_init_25 : decode cX6_init 25 = .ok (.aload_n 0, 1) := by decide +kernel
theorem dX6_init_26 : decode cX6_init 26 = .ok (.iconst 0, 1) := by decide +kernel
theorem dX6_init_27 : decode cX6_init 27 = .ok (.putfield 22, 3) := by decide +kernel
theorem dX6_init_30 : decode cX6_init 30 = .ok (.aload_n 0, 1) := by decide +kernel
theorem dX6_init_31 : decode cX6_init 31 = .ok (.iconst 0, 1) := by decide +kernel
theorem dX6_init_32 : decode cX6_init 32 = .ok (.putfield 25, 3) := by decide +kernel
theorem dX6_init_35 : decode cX6_init 35 = .ok (.aload_n 0, 1) := by decide +kernel
theorem dX6_init_36 : decode cX6_init 36 = .ok (.iconst 0, 1) := by decide +kernel
theorem dX6_init_37 : decode cX6_init 37 = .ok (.putfield 28, 3) := by decide +kernel
theorem dX6_init_40 : decode cX6_init 40 = .ok (.return_, 1) := by decide +kernel
theorem dX6_put_0 : decode cX6_put 0 = .ok (.aload_n 0, 1) := by decide +kernel
theorem dX6_put_1 : decode cX6_put 1 = .ok (.getfield 9, 3) := by decide +kernel
theorem dX6_put_4 : decode cX6_put 4 = .ok (.aload_n 0, 1) := by decide +kernel
theorem dX6_put_5 : decode cX6_put 5 = .ok (.getfield 18, 3) := by decide +kernel
theorem dX6_put_8 : decode cX6_put 8 = .ok (.iload_n 1, 1) := by decide +kernel
theorem dX6_put_9 : decode cX6_put 9 = .ok (.iastore, 1) := by decide +kernel
theorem dX6_put_10 : decode cX6_put 10 = .ok (.aload_n 0, 1) := by decide +kernel
theorem dX6_put_11 : decode cX6_put 11 = .ok (.getfield 15, 3) := by decide +kernel
theorem dX6_put_14 : decode cX6_put 14 = .ok (.aload_n 0, 1) := by decide +kernel
theorem dX6_put_15 : decode cX6_put 15 = .ok (.getfield 18, 3) := by decide +kernel
theorem dX6_put_18 : decode cX6_put 18 = .ok (.iload_n 1, 1) := by decide +kernel
theorem dX6_put_19 : decode cX6_put 19 = .ok (.invokestatic 31, 3) := by decide +kernel
theorem dX6_put_22 : decode cX6_put 22 = .ok (.iastore, 1) := by decide +kernel
theorem dX6_put_23 : decode cX6_put 23 = .ok (.aload_n 0, 1) := by decide +kernel
theorem dX6_put_24 : decode cX6_put 24 = .ok (.dup, 1) := by decide +kernel
theorem dX6_put_25 : decode cX6_put 25 = .ok (.getfield 18, 3) := by decide +kernel
theorem dX6_put_28 : decode cX6_put 28 = .ok (.iconst 1, 1) := by decide +kernel
theorem dX6_put_29 : decode cX6_put 29 = .ok (.iadd, 1) := by decide +kernel
theorem dX6_put_30 : decode cX6_put 30 = .ok (.putfield 18, 3) := by decide +kernel
theorem dX6_put_33 : decode cX6_put 33 = .ok (.return_, 1) := by decide +kernel
theorem dX6_tokenBegunBy_0 : decode cX6_tokenBegunBy 0 = .ok (.iload_n 0, 1) := by decide +kernel
theorem dX6_tokenBegunBy_1 : decode cX6_tokenBegunBy 1 = .ok (.bipush 97, 2) := by decide +kernel
theorem dX6_tokenBegunBy_3 : decode cX6_tokenBegunBy 3 = .ok (.bipush 122, 2) := by decide +kernel
theorem dX6_tokenBegunBy_5 : decode cX6_tokenBegunBy 5 = .ok (.invokestatic 35, 3) := by decide +kernel
theorem dX6_tokenBegunBy_8 : decode cX6_tokenBegunBy 8 = .ok (.ifCond .eq 5, 3) := by decide +kernel
theorem dX6_tokenBegunBy_11 : decode cX6_tokenBegunBy 11 = .ok (.iconst 1, 1) := by decide +kernel
theorem dX6_tokenBegunBy_12 : decode cX6_tokenBegunBy 12 = .ok (.ireturn, 1) := by decide +kernel
theorem dX6_tokenBegunBy_13 : decode cX6_tokenBegunBy 13 = .ok (.iload_n 0, 1) := by decide +kernel
theorem dX6_tokenBegunBy_14 : decode cX6_tokenBegunBy 14 = .ok (.bipush 48, 2) := by decide +kernel
theorem dX6_tokenBegunBy_16 : decode cX6_tokenBegunBy 16 = .ok (.bipush 57, 2) := by decide +kernel
theorem dX6_tokenBegunBy_18 : decode cX6_tokenBegunBy 18 = .ok (.invokestatic 35, 3) := by decide +kernel
theorem dX6_tokenBegunBy_21 : decode cX6_tokenBegunBy 21 = .ok (.ifCond .eq 5, 3) := by decide +kernel
theorem dX6_tokenBegunBy_24 : decode cX6_tokenBegunBy 24 = .ok (.iconst 2, 1) := by decide +kernel
theorem dX6_tokenBegunBy_25 : decode cX6_tokenBegunBy 25 = .ok (.ireturn, 1) := by decide +kernel
theorem dX6_tokenBegunBy_26 : decode cX6_tokenBegunBy 26 = .ok (.iload_n 0, 1) := by decide +kernel
theorem dX6_tokenBegunBy_27 : decode cX6_tokenBegunBy 27 = .ok (.bipush 32, 2) := by decide +kernel
theorem dX6_tokenBegunBy_29 : decode cX6_tokenBegunBy 29 = .ok (.if_icmp .ne 5, 3) := by decide +kernel
theorem dX6_tokenBegunBy_32 : decode cX6_tokenBegunBy 32 = .ok (.iconst 4, 1) := by decide +kernel
theorem dX6_tokenBegunBy_33 : decode cX6_tokenBegunBy 33 = .ok (.ireturn, 1) := by decide +kernel
theorem dX6_tokenBegunBy_34 : decode cX6_tokenBegunBy 34 = .ok (.iload_n 0, 1) := by decide +kernel
theorem dX6_tokenBegunBy_35 : decode cX6_tokenBegunBy 35 = .ok (.bipush 59, 2) := by decide +kernel
theorem dX6_tokenBegunBy_37 : decode cX6_tokenBegunBy 37 = .ok (.if_icmp .ne 7, 3) := by decide +kernel
theorem dX6_tokenBegunBy_40 : decode cX6_tokenBegunBy 40 = .ok (.iconst 3, 1) := by decide +kernel
theorem dX6_tokenBegunBy_41 : decode cX6_tokenBegunBy 41 = .ok (.goto 4, 3) := by decide +kernel
theorem dX6_tokenBegunBy_44 : decode cX6_tokenBegunBy 44 = .ok (.iconst 5, 1) := by decide +kernel
theorem dX6_tokenBegunBy_45 : decode cX6_tokenBegunBy 45 = .ok (.ireturn, 1) := by decide +kernel
theorem dX6_rewind_0 : decode cX6_rewind 0 = .ok (.aload_n 0, 1) := by decide +kernel
theorem dX6_rewind_1 : decode cX6_rewind 1 = .ok (.iconst 0, 1) := by decide +kernel
theorem dX6_rewind_2 : decode cX6_rewind 2 = .ok (.putfield 28, 3) := by decide +kernel
theorem dX6_rewind_5 : decode cX6_rewind 5 = .ok (.aload_n 0, 1) := by decide +kernel
theorem dX6_rewind_6 : decode cX6_rewind 6 = .ok (.invokevirtual 39, 3) := by decide +kernel
theorem dX6_rewind_9 : decode cX6_rewind 9 = .ok (.return_, 1) := by decide +kernel
theorem dX6_advance_0 : decode cX6_advance 0 = .ok (.aload_n 0, 1) := by decide +kernel
theorem dX6_advance_1 : decode cX6_advance 1 = .ok (.aload_n 0, 1) := by decide +kernel
theorem dX6_advance_2 : decode cX6_advance 2 = .ok (.getfield 28, 3) := by decide +kernel
theorem dX6_advance_5 : decode cX6_advance 5 = .ok (.putfield 25, 3) := by decide +kernel
theorem dX6_advance_8 : decode cX6_advance 8 = .ok (.aload_n 0, 1) := by decide +kernel
theorem dX6_advance_9 : decode cX6_advance 9 = .ok (.getfield 25, 3) := by decide +kernel
theorem dX6_advance_12 : decode cX6_advance 12 = .ok (.aload_n 0, 1) := by decide +kernel
theorem dX6_advance_13 : decode cX6_advance 13 = .ok (.getfield 18, 3) := by decide +kernel
theorem dX6_advance_16 : decode cX6_advance 16 = .ok (.if_icmp .ge 29, 3) := by decide +kernel
theorem dX6_advance_19 : decode cX6_advance 19 = .ok (.aload_n 0, 1) := by decide +kernel
theorem dX6_advance_20 : decode cX6_advance 20 = .ok (.getfield 15, 3) := by decide +kernel
theorem dX6_advance_23 : decode cX6_advance 23 = .ok (.aload_n 0, 1) := by decide +kernel
theorem dX6_advance_24 : decode cX6_advance 24 = .ok (.getfield 25, 3) := by decide +kernel
theorem dX6_advance_27 : decode cX6_advance 27 = .ok (.iaload, 1) := by decide +kernel
theorem dX6_advance_28 : decode cX6_advance 28 = .ok (.iconst 4, 1) := by decide +kernel
theorem dX6_advance_29 : decode cX6_advance 29 = .ok (.if_icmp .ne 16, 3) := by decide +kernel
theorem dX6_advance_32 : decode cX6_advance 32 = .ok (.aload_n 0, 1) := by decide +kernel
theorem dX6_advance_33 : decode cX6_advance 33 = .ok (.dup, 1) := by decide +kernel
theorem dX6_advance_34 : decode cX6_advance 34 = .ok (.getfield 25, 3) := by decide +kernel
theorem dX6_advance_37 : decode cX6_advance 37 = .ok (.iconst 1, 1) := by decide +kernel
theorem dX6_advance_38 : decode cX6_advance 38 = .ok (.iadd, 1) := by decide +kernel
theorem dX6_advance_39 : decode cX6_advance 39 = .ok (.putfield 25, 3) := by decide +kernel
theorem dX6_advance_42 : decode cX6_advance 42 = .ok (.goto (-34), 3) := by decide +kernel
theorem dX6_advance_45 : decode cX6_advance 45 = .ok (.aload_n 0, 1) := by decide +kernel
theorem dX6_advance_46 : decode cX6_advance 46 = .ok (.aload_n 0, 1) := by decide +kernel
theorem dX6_advance_47 : decode cX6_advance 47 = .ok (.getfield 25, 3) := by decide +kernel
theorem dX6_advance_50 : decode cX6_advance 50 = .ok (.aload_n 0, 1) := by decide +kernel
theorem dX6_advance_51 : decode cX6_advance 51 = .ok (.getfield 18, 3) := by decide +kernel
theorem dX6_advance_54 : decode cX6_advance 54 = .ok (.if_icmp .ge 15, 3) := by decide +kernel
theorem dX6_advance_57 : decode cX6_advance 57 = .ok (.aload_n 0, 1) := by decide +kernel
theorem dX6_advance_58 : decode cX6_advance 58 = .ok (.getfield 15, 3) := by decide +kernel
theorem dX6_advance_61 : decode cX6_advance 61 = .ok (.aload_n 0, 1) := by decide +kernel
theorem dX6_advance_62 : decode cX6_advance 62 = .ok (.getfield 25, 3) := by decide +kernel
theorem dX6_advance_65 : decode cX6_advance 65 = .ok (.iaload, 1) := by decide +kernel
theorem dX6_advance_66 : decode cX6_advance 66 = .ok (.goto 4, 3) := by decide +kernel
theorem dX6_advance_69 : decode cX6_advance 69 = .ok (.iconst 0, 1) := by decide +kernel
theorem dX6_advance_70 : decode cX6_advance 70 = .ok (.putfield 22, 3) := by decide +kernel
theorem dX6_advance_73 : decode cX6_advance 73 = .ok (.aload_n 0, 1) := by decide +kernel
theorem dX6_advance_74 : decode cX6_advance 74 = .ok (.aload_n 0, 1) := by decide +kernel
theorem dX6_advance_75 : decode cX6_advance 75 = .ok (.getfield 25, 3) := by decide +kernel
theorem dX6_advance_78 : decode cX6_advance 78 = .ok (.iconst 1, 1) := by decide +kernel
theorem dX6_advance_79 : decode cX6_advance 79 = .ok (.iadd, 1) := by decide +kernel
theorem dX6_advance_80 : decode cX6_advance 80 = .ok (.aload_n 0, 1) := by decide +kernel
theorem dX6_advance_81 : decode cX6_advance 81 = .ok (.getfield 18, 3) := by decide +kernel
theorem dX6_advance_84 : decode cX6_advance 84 = .ok (.invokestatic 42, 3) := by decide +kernel
theorem dX6_advance_87 : decode cX6_advance 87 = .ok (.putfield 28, 3) := by decide +kernel
theorem dX6_advance_90 : decode cX6_advance 90 = .ok (.aload_n 0, 1) := by decide +kernel
theorem dX6_advance_91 : decode cX6_advance 91 = .ok (.getfield 22, 3) := by decide +kernel
theorem dX6_advance_94 : decode cX6_advance 94 = .ok (.iconst 1, 1) := by decide +kernel
theorem dX6_advance_95 : decode cX6_advance 95 = .ok (.if_icmp .eq 11, 3) := by decide +kernel
theorem dX6_advance_98 : decode cX6_advance 98 = .ok (.aload_n 0, 1) := by decide +kernel
theorem dX6_advance_99 : decode cX6_advance 99 = .ok (.getfield 22, 3) := by decide +kernel
theorem dX6_advance_102 : decode cX6_advance 102 = .ok (.iconst 2, 1) := by decide +kernel
theorem dX6_advance_103 : decode cX6_advance 103 = .ok (.if_icmp .ne 7, 3) := by decide +kernel
theorem dX6_advance_106 : decode cX6_advance 106 = .ok (.iconst 1, 1) := by decide +kernel
theorem dX6_advance_107 : decode cX6_advance 107 = .ok (.goto 4, 3) := by decide +kernel
theorem dX6_advance_110 : decode cX6_advance 110 = .ok (.iconst 0, 1) := by decide +kernel
theorem dX6_advance_111 : decode cX6_advance 111 = .ok (.istore_n 1, 1) := by decide +kernel
theorem dX6_advance_112 : decode cX6_advance 112 = .ok (.iload_n 1, 1) := by decide +kernel
theorem dX6_advance_113 : decode cX6_advance 113 = .ok (.ifCond .eq 43, 3) := by decide +kernel
theorem dX6_advance_116 : decode cX6_advance 116 = .ok (.aload_n 0, 1) := by decide +kernel
theorem dX6_advance_117 : decode cX6_advance 117 = .ok (.getfield 28, 3) := by decide +kernel
theorem dX6_advance_120 : decode cX6_advance 120 = .ok (.aload_n 0, 1) := by decide +kernel
theorem dX6_advance_121 : decode cX6_advance 121 = .ok (.getfield 18, 3) := by decide +kernel
theorem dX6_advance_124 : decode cX6_advance 124 = .ok (.if_icmp .ge 32, 3) := by decide +kernel
theorem dX6_advance_127 : decode cX6_advance 127 = .ok (.aload_n 0, 1) := by decide +kernel
theorem dX6_advance_128 : decode cX6_advance 128 = .ok (.getfield 15, 3) := by decide +kernel
theorem dX6_advance_131 : decode cX6_advance 131 = .ok (.aload_n 0, 1) := by decide +kernel
theorem dX6_advance_132 : decode cX6_advance 132 = .ok (.getfield 28, 3) := by decide +kernel
theorem dX6_advance_135 : decode cX6_advance 135 = .ok (.iaload, 1) := by decide +kernel
theorem dX6_advance_136 : decode cX6_advance 136 = .ok (.aload_n 0, 1) := by decide +kernel
theorem dX6_advance_137 : decode cX6_advance 137 = .ok (.getfield 22, 3) := by decide +kernel
theorem dX6_advance_140 : decode cX6_advance 140 = .ok (.if_icmp .ne 16, 3) := by decide +kernel
theorem dX6_advance_143 : decode cX6_advance 143 = .ok (.aload_n 0, 1) := by decide +kernel
theorem dX6_advance_144 : decode cX6_advance 144 = .ok (.dup, 1) := by decide +kernel
theorem dX6_advance_145 : decode cX6_advance 145 = .ok (.getfield 28, 3) := by decide +kernel
theorem dX6_advance_148 : decode cX6_advance 148 = .ok (.iconst 1, 1) := by decide +kernel
theorem dX6_advance_149 : decode cX6_advance 149 = .ok (.iadd, 1) := by decide +kernel
theorem dX6_advance_150 : decode cX6_advance 150 = .ok (.putfield 28, 3) := by decide +kernel
theorem dX6_advance_153 : decode cX6_advance 153 = .ok (.goto (-41), 3) := by decide +kernel
theorem dX6_advance_156 : decode cX6_advance 156 = .ok (.return_, 1) := by decide +kernel
theorem dX6_value_0 : decode cX6_value 0 = .ok (.aload_n 0, 1) := by decide +kernel
theorem dX6_value_1 : decode cX6_value 1 = .ok (.getfield 22, 3) := by decide +kernel
theorem dX6_value_4 : decode cX6_value 4 = .ok (.iconst 2, 1) := by decide +kernel
theorem dX6_value_5 : decode cX6_value 5 = .ok (.if_icmp .eq 5, 3) := by decide +kernel
theorem dX6_value_8 : decode cX6_value 8 = .ok (.iconst (-1), 1) := by decide +kernel
theorem dX6_value_9 : decode cX6_value 9 = .ok (.ireturn, 1) := by decide +kernel
theorem dX6_value_10 : decode cX6_value 10 = .ok (.iconst 0, 1) := by decide +kernel
theorem dX6_value_11 : decode cX6_value 11 = .ok (.istore_n 1, 1) := by decide +kernel
theorem dX6_value_12 : decode cX6_value 12 = .ok (.aload_n 0, 1) := by decide +kernel
theorem dX6_value_13 : decode cX6_value 13 = .ok (.getfield 25, 3) := by decide +kernel
theorem dX6_value_16 : decode cX6_value 16 = .ok (.istore_n 2, 1) := by decide +kernel
theorem dX6_value_17 : decode cX6_value 17 = .ok (.iload_n 2, 1) := by decide +kernel
theorem dX6_value_18 : decode cX6_value 18 = .ok (.aload_n 0, 1) := by decide +kernel
theorem dX6_value_19 : decode cX6_value 19 = .ok (.getfield 28, 3) := by decide +kernel
theorem dX6_value_22 : decode cX6_value 22 = .ok (.if_icmp .ge 30, 3) := by decide +kernel
theorem dX6_value_25 : decode cX6_value 25 = .ok (.sipush 1000, 3) := by decide +kernel
theorem dX6_value_28 : decode cX6_value 28 = .ok (.iload_n 1, 1) := by decide +kernel
theorem dX6_value_29 : decode cX6_value 29 = .ok (.bipush 10, 2) := by decide +kernel
theorem dX6_value_31 : decode cX6_value 31 = .ok (.imul, 1) := by decide +kernel
theorem dX6_value_32 : decode cX6_value 32 = .ok (.aload_n 0, 1) := by decide +kernel
theorem dX6_value_33 : decode cX6_value 33 = .ok (.getfield 9, 3) := by decide +kernel
theorem dX6_value_36 : decode cX6_value 36 = .ok (.iload_n 2, 1) := by decide +kernel
theorem dX6_value_37 : decode cX6_value 37 = .ok (.iaload, 1) := by decide +kernel
theorem dX6_value_38 : decode cX6_value 38 = .ok (.iadd, 1) := by decide +kernel
theorem dX6_value_39 : decode cX6_value 39 = .ok (.bipush 48, 2) := by decide +kernel
theorem dX6_value_41 : decode cX6_value 41 = .ok (.isub, 1) := by decide +kernel
theorem dX6_value_42 : decode cX6_value 42 = .ok (.invokestatic 42, 3) := by decide +kernel
theorem dX6_value_45 : decode cX6_value 45 = .ok (.istore_n 1, 1) := by decide +kernel
theorem dX6_value_46 : decode cX6_value 46 = .ok (.iinc 2 1, 3) := by decide +kernel
theorem dX6_value_49 : decode cX6_value 49 = .ok (.goto (-32), 3) := by decide +kernel
theorem dX6_value_52 : decode cX6_value 52 = .ok (.iload_n 1, 1) := by decide +kernel
theorem dX6_value_53 : decode cX6_value 53 = .ok (.ireturn, 1) := by decide +kernel
theorem dX6_isWord_0 : decode cX6_isWord 0 = .ok (.aload_n 0, 1) := by decide +kernel
theorem dX6_isWord_1 : decode cX6_isWord 1 = .ok (.getfield 22, 3) := by decide +kernel
theorem dX6_isWord_4 : decode cX6_isWord 4 = .ok (.iconst 1, 1) := by decide +kernel
theorem dX6_isWord_5 : decode cX6_isWord 5 = .ok (.if_icmp .ne 19, 3) := by decide +kernel
theorem dX6_isWord_8 : decode cX6_isWord 8 = .ok (.aload_n 0, 1) := by decide +kernel
theorem dX6_isWord_9 : decode cX6_isWord 9 = .ok (.getfield 28, 3) := by decide +kernel
theorem dX6_isWord_12 : decode cX6_isWord 12 = .ok (.aload_n 0, 1) := by decide +kernel
theorem dX6_isWord_13 : decode cX6_isWord 13 = .ok (.getfield 25, 3) := by decide +kernel
theorem dX6_isWord_16 : decode cX6_isWord 16 = .ok (.isub, 1) := by decide +kernel
theorem dX6_isWord_17 : decode cX6_isWord 17 = .ok (.aload_n 1, 1) := by decide +kernel
theorem dX6_isWord_18 : decode cX6_isWord 18 = .ok (.invokevirtual 48, 3) := by decide +kernel
theorem dX6_isWord_21 : decode cX6_isWord 21 = .ok (.if_icmp .eq 5, 3) := by decide +kernel
theorem dX6_isWord_24 : decode cX6_isWord 24 = .ok (.iconst 0, 1) := by decide +kernel
theorem dX6_isWord_25 : decode cX6_isWord 25 = .ok (.ireturn, 1) := by decide +kernel
theorem dX6_isWord_26 : decode cX6_isWord 26 = .ok (.iconst 0, 1) := by decide +kernel
theorem dX6_isWord_27 : decode cX6_isWord 27 = .ok (.istore_n 2, 1) := by decide +kernel
theorem dX6_isWord_28 : decode cX6_isWord 28 = .ok (.iload_n 2, 1) := by decide +kernel
theorem dX6_isWord_29 : decode cX6_isWord 29 = .ok (.aload_n 1, 1) := by decide +kernel
theorem dX6_isWord_30 : decode cX6_isWord 30 = .ok (.invokevirtual 48, 3) := by decide +kernel
theorem dX6_isWord_33 : decode cX6_isWord 33 = .ok (.if_icmp .ge 30, 3) := by decide +kernel
theorem dX6_isWord_36 : decode cX6_isWord 36 = .ok (.aload_n 0, 1) := by decide +kernel
theorem dX6_isWord_37 : decode cX6_isWord 37 = .ok (.getfield 9, 3) := by decide +kernel
theorem dX6_isWord_40 : decode cX6_isWord 40 = .ok (.aload_n 0, 1) := by decide +kernel
theorem dX6_isWord_41 : decode cX6_isWord 41 = .ok (.getfield 25, 3) := by decide +kernel
theorem dX6_isWord_44 : decode cX6_isWord 44 = .ok (.iload_n 2, 1) := by decide +kernel
theorem dX6_isWord_45 : decode cX6_isWord 45 = .ok (.iadd, 1) := by decide +kernel
theorem dX6_isWord_46 : decode cX6_isWord 46 = .ok (.iaload, 1) := by decide +kernel
theorem dX6_isWord_47 : decode cX6_isWord 47 = .ok (.aload_n 1, 1) := by decide +kernel
theorem dX6_isWord_48 : decode cX6_isWord 48 = .ok (.iload_n 2, 1) := by decide +kernel
theorem dX6_isWord_49 : decode cX6_isWord 49 = .ok (.invokevirtual 54, 3) := by decide +kernel
theorem dX6_isWord_52 : decode cX6_isWord 52 = .ok (.if_icmp .eq 5, 3) := by decide +kernel
theorem dX6_isWord_55 : decode cX6_isWord 55 = .ok (.iconst 0, 1) := by decide +kernel
theorem dX6_isWord_56 : decode cX6_isWord 56 = .ok (.ireturn, 1) := by decide +kernel
theorem dX6_isWord_57 : decode cX6_isWord 57 = .ok (.iinc 2 1, 3) := by decide +kernel
theorem dX6_isWord_60 : decode cX6_isWord 60 = .ok (.goto (-32), 3) := by decide +kernel
theorem dX6_isWord_63 : decode cX6_isWord 63 = .ok (.iconst 1, 1) := by decide +kernel
theorem dX6_isWord_64 : decode cX6_isWord 64 = .ok (.ireturn, 1) := by decide +kernel
theorem dX7_init_0 : decode cX7_init 0 = .ok (.aload_n 0, 1) := by decide +kernel
theorem dX7_init_1 : decode cX7_init 1 = .ok (.invokespecial 3, 3) := by decide +kernel
theorem dX7_init_4 : decode cX7_init 4 = .ok (.aload_n 0, 1) := by decide +kernel
theorem dX7_init_5 : decode cX7_init 5 = .ok (.iconst 3, 1) := by decide +kernel
theorem dX7_init_6 : decode cX7_init 6 = .ok (.newarray .int, 2) := by decide +kernel
theorem dX7_init_8 : decode cX7_init 8 = .ok (.putfield 9, 3) := by decide +kernel
theorem dX7_init_11 : decode cX7_init 11 = .ok (.aload_n 0, 1) := by decide +kernel
theorem dX7_init_12 : decode cX7_init 12 = .ok (.bipush 18, 2) := by decide +kernel
theorem dX7_init_14 : decode cX7_init 14 = .ok (.newarray .int, 2) := by decide +kernel
theorem dX7_init_16 : decode cX7_init 16 = .ok (.putfield 15, 3) := by decide +kernel
theorem dX7_init_19 : decode cX7_init 19 = .ok (.return_, 1) := by decide +kernel
theorem dX7_choose_0 : decode cX7_choose 0 = .ok (.iconst 0, 1) := by decide +kernel
theorem dX7_choose_1 : decode cX7_choose 1 = .ok (.istore 4, 2) := by decide +kernel
theorem dX7_choose_3 : decode cX7_choose 3 = .ok (.iload 4, 2) := by decide +kernel
theorem dX7_choose_5 : decode cX7_choose 5 = .ok (.aload_n 1, 1) := by decide +kernel
theorem dX7_choose_6 : decode cX7_choose 6 = .ok (.getfield 18, 3) := by decide +kernel
theorem dX7_choose_9 : decode cX7_choose 9 = .ok (.if_icmp .ge 57, 3) := by decide +kernel
theorem dX7_choose_12 : decode cX7_choose 12 = .ok (.iconst 0, 1) := by decide +kernel
theorem dX7_choose_13 : decode cX7_choose 13 = .ok (.istore 5, 2) := by decide +kernel
theorem dX7_choose_15 : decode cX7_choose 15 = .ok (.iload 5, 2) := by decide +kernel
