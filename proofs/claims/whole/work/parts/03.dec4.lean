theorem dX9_as_77 : decode cX9_as 77 = .ok (.goto (-20), 3) := by decide +kernel
theorem dX9_as_80 : decode cX9_as 80 = .ok (.aload_n 0, 1) := by decide +kernel
theorem dX9_as_81 : decode cX9_as 81 = .ok (.ldc_w 323, 3) := by decide +kernel
theorem dX9_as_84 : decode cX9_as 84 = .ok (.invokevirtual 48, 3) := by decide +kernel
theorem dX9_as_87 : decode cX9_as 87 = .ok (.ireturn, 1) := by decide +kernel
theorem dX9_isSheet_0 : decode cX9_isSheet 0 = .ok (.iload_n 0, 1) := by decide +kernel
theorem dX9_isSheet_1 : decode cX9_isSheet 1 = .ok (.i2l, 1) := by decide +kernel
theorem dX9_isSheet_2 : decode cX9_isSheet 2 = .ok (.lconst 0, 1) := by decide +kernel
theorem dX9_isSheet_3 : decode cX9_isSheet 3 = .ok (.ldc2_w 101, 3) := by decide +kernel
theorem dX9_isSheet_6 : decode cX9_isSheet 6 = .ok (.invokestatic 54, 3) := by decide +kernel
theorem dX9_isSheet_9 : decode cX9_isSheet 9 = .ok (.ireturn, 1) := by decide +kernel
theorem dX9_sheet_0 : decode cX9_sheet 0 = .ok (.iload_n 1, 1) := by decide +kernel
theorem dX9_sheet_1 : decode cX9_sheet 1 = .ok (.invokestatic 324, 3) := by decide +kernel
theorem dX9_sheet_4 : decode cX9_sheet 4 = .ok (.ifCond .eq 25, 3) := by decide +kernel
theorem dX9_sheet_7 : decode cX9_sheet 7 = .ok (.iload_n 2, 1) := by decide +kernel
theorem dX9_sheet_8 : decode cX9_sheet 8 = .ok (.ifCond .eq 28, 3) := by decide +kernel
theorem dX9_sheet_11 : decode cX9_sheet 11 = .ok (.iload_n 2, 1) := by decide +kernel
theorem dX9_sheet_12 : decode cX9_sheet 12 = .ok (.bipush 8, 2) := by decide +kernel
theorem dX9_sheet_14 : decode cX9_sheet 14 = .ok (.if_icmp .eq 22, 3) := by decide +kernel
theorem dX9_sheet_17 : decode cX9_sheet 17 = .ok (.iload_n 2, 1) := by decide +kernel
theorem dX9_sheet_18 : decode cX9_sheet 18 = .ok (.bipush 16, 2) := by decide +kernel
theorem dX9_sheet_20 : decode cX9_sheet 20 = .ok (.if_icmp .eq 16, 3) := by decide +kernel
theorem dX9_sheet_23 : decode cX9_sheet 23 = .ok (.iload_n 2, 1) := by decide +kernel
theorem dX9_sheet_24 : decode cX9_sheet 24 = .ok (.bipush 32, 2) := by decide +kernel
theorem dX9_sheet_26 : decode cX9_sheet 26 = .ok (.if_icmp .eq 10, 3) := by decide +kernel
theorem dX9_sheet_29 : decode cX9_sheet 29 = .ok (.aload_n 0, 1) := by decide +kernel
theorem dX9_sheet_30 : decode cX9_sheet 30 = .ok (.ldc 46, 2) := by decide +kernel
theorem dX9_sheet_32 : decode cX9_sheet 32 = .ok (.invokevirtual 48, 3) := by decide +kernel
theorem dX9_sheet_35 : decode cX9_sheet 35 = .ok (.ireturn, 1) := by decide +kernel
theorem dX9_sheet_36 : decode cX9_sheet 36 = .ok (.iload_n 3, 1) := by decide +kernel
theorem dX9_sheet_37 : decode cX9_sheet 37 = .ok (.ifCond .ge 11, 3) := by decide +kernel
theorem dX9_sheet_40 : decode cX9_sheet 40 = .ok (.aload_n 0, 1) := by decide +kernel
theorem dX9_sheet_41 : decode cX9_sheet 41 = .ok (.ldc_w 327, 3) := by decide +kernel
theorem dX9_sheet_44 : decode cX9_sheet 44 = .ok (.invokevirtual 48, 3) := by decide +kernel
theorem dX9_sheet_47 : decode cX9_sheet 47 = .ok (.ireturn, 1) := by decide +kernel
theorem dX9_sheet_48 : decode cX9_sheet 48 = .ok (.iload_n 3, 1) := by decide +kernel
theorem dX9_sheet_49 : decode cX9_sheet 49 = .ok (.bipush 40, 2) := by decide +kernel
theorem dX9_sheet_51 : decode cX9_sheet 51 = .ok (.if_icmp .le 10, 3) := by decide +kernel
theorem dX9_sheet_54 : decode cX9_sheet 54 = .ok (.aload_n 0, 1) := by decide +kernel
theorem dX9_sheet_55 : decode cX9_sheet 55 = .ok (.ldc 46, 2) := by decide +kernel
theorem dX9_sheet_57 : decode cX9_sheet 57 = .ok (.invokevirtual 48, 3) := by decide +kernel
theorem dX9_sheet_60 : decode cX9_sheet 60 = .ok (.ireturn, 1) := by decide +kernel
theorem dX9_sheet_61 : decode cX9_sheet 61 = .ok (.aload_n 0, 1) := by decide +kernel
theorem dX9_sheet_62 : decode cX9_sheet 62 = .ok (.getfield 37, 3) := by decide +kernel
theorem dX9_sheet_65 : decode cX9_sheet 65 = .ok (.iload_n 1, 1) := by decide +kernel
theorem dX9_sheet_66 : decode cX9_sheet 66 = .ok (.iload_n 2, 1) := by decide +kernel
theorem dX9_sheet_67 : decode cX9_sheet 67 = .ok (.iastore, 1) := by decide +kernel
theorem dX9_sheet_68 : decode cX9_sheet 68 = .ok (.aload_n 0, 1) := by decide +kernel
theorem dX9_sheet_69 : decode cX9_sheet 69 = .ok (.getfield 40, 3) := by decide +kernel
theorem dX9_sheet_72 : decode cX9_sheet 72 = .ok (.iload_n 1, 1) := by decide +kernel
theorem dX9_sheet_73 : decode cX9_sheet 73 = .ok (.iload_n 2, 1) := by decide +kernel
theorem dX9_sheet_74 : decode cX9_sheet 74 = .ok (.ifCond .ne 7, 3) := by decide +kernel
theorem dX9_sheet_77 : decode cX9_sheet 77 = .ok (.iconst 0, 1) := by decide +kernel
theorem dX9_sheet_78 : decode cX9_sheet 78 = .ok (.goto 4, 3) := by decide +kernel
theorem dX9_sheet_81 : decode cX9_sheet 81 = .ok (.iload_n 3, 1) := by decide +kernel
theorem dX9_sheet_82 : decode cX9_sheet 82 = .ok (.iastore, 1) := by decide +kernel
theorem dX9_sheet_83 : decode cX9_sheet 83 = .ok (.iconst 0, 1) := by decide +kernel
theorem dX9_sheet_84 : decode cX9_sheet 84 = .ok (.istore 4, 2) := by decide +kernel
theorem dX9_sheet_86 : decode cX9_sheet 86 = .ok (.iload 4, 2) := by decide +kernel
theorem dX9_sheet_88 : decode cX9_sheet 88 = .ok (.bipush 40, 2) := by decide +kernel
theorem dX9_sheet_90 : decode cX9_sheet 90 = .ok (.if_icmp .ge 22, 3) := by decide +kernel
theorem dX9_sheet_93 : decode cX9_sheet 93 = .ok (.aload_n 0, 1) := by decide +kernel
theorem dX9_sheet_94 : decode cX9_sheet 94 = .ok (.getfield 43, 3) := by decide +kernel
theorem dX9_sheet_97 : decode cX9_sheet 97 = .ok (.bipush 40, 2) := by decide +kernel
theorem dX9_sheet_99 : decode cX9_sheet 99 = .ok (.iload_n 1, 1) := by decide +kernel
theorem dX9_sheet_100 : decode cX9_sheet 100 = .ok (.imul, 1) := by decide +kernel
theorem dX9_sheet_101 : decode cX9_sheet 101 = .ok (.iload 4, 2) := by decide +kernel
theorem dX9_sheet_103 : decode cX9_sheet 103 = .ok (.iadd, 1) := by decide +kernel
theorem dX9_sheet_104 : decode cX9_sheet 104 = .ok (.iconst 0, 1) := by decide +kernel
theorem dX9_sheet_105 : decode cX9_sheet 105 = .ok (.iastore, 1) := by decide +kernel
theorem dX9_sheet_106 : decode cX9_sheet 106 = .ok (.iinc 4 1, 3) := by decide +kernel
theorem dX9_sheet_109 : decode cX9_sheet 109 = .ok (.goto (-23), 3) := by decide +kernel
theorem dX9_sheet_112 : decode cX9_sheet 112 = .ok (.aload_n 0, 1) := by decide +kernel
theorem dX9_sheet_113 : decode cX9_sheet 113 = .ok (.getfield 40, 3) := by decide +kernel
theorem dX9_sheet_116 : decode cX9_sheet 116 = .ok (.iload_n 1, 1) := by decide +kernel
theorem dX9_sheet_117 : decode cX9_sheet 117 = .ok (.iaload, 1) := by decide +kernel
theorem dX9_sheet_118 : decode cX9_sheet 118 = .ok (.ireturn, 1) := by decide +kernel
theorem dX9_write_0 : decode cX9_write 0 = .ok (.iload_n 1, 1) := by decide +kernel
theorem dX9_write_1 : decode cX9_write 1 = .ok (.invokestatic 324, 3) := by decide +kernel
theorem dX9_write_4 : decode cX9_write 4 = .ok (.ifCond .ne 10, 3) := by decide +kernel
theorem dX9_write_7 : decode cX9_write 7 = .ok (.aload_n 0, 1) := by decide +kernel
theorem dX9_write_8 : decode cX9_write 8 = .ok (.ldc 46, 2) := by decide +kernel
theorem dX9_write_10 : decode cX9_write 10 = .ok (.invokevirtual 48, 3) := by decide +kernel
theorem dX9_write_13 : decode cX9_write 13 = .ok (.ireturn, 1) := by decide +kernel
theorem dX9_write_14 : decode cX9_write 14 = .ok (.aload_n 0, 1) := by decide +kernel
theorem dX9_write_15 : decode cX9_write 15 = .ok (.getfield 37, 3) := by decide +kernel
theorem dX9_write_18 : decode cX9_write 18 = .ok (.iload_n 1, 1) := by decide +kernel
theorem dX9_write_19 : decode cX9_write 19 = .ok (.iaload, 1) := by decide +kernel
theorem dX9_write_20 : decode cX9_write 20 = .ok (.ifCond .ne 11, 3) := by decide +kernel
theorem dX9_write_23 : decode cX9_write 23 = .ok (.aload_n 0, 1) := by decide +kernel
theorem dX9_write_24 : decode cX9_write 24 = .ok (.ldc_w 319, 3) := by decide +kernel
theorem dX9_write_27 : decode cX9_write 27 = .ok (.invokevirtual 48, 3) := by decide +kernel
theorem dX9_write_30 : decode cX9_write 30 = .ok (.ireturn, 1) := by decide +kernel
theorem dX9_write_31 : decode cX9_write 31 = .ok (.iload_n 2, 1) := by decide +kernel
theorem dX9_write_32 : decode cX9_write 32 = .ok (.i2l, 1) := by decide +kernel
theorem dX9_write_33 : decode cX9_write 33 = .ok (.lconst 0, 1) := by decide +kernel
theorem dX9_write_34 : decode cX9_write 34 = .ok (.aload_n 0, 1) := by decide +kernel
theorem dX9_write_35 : decode cX9_write 35 = .ok (.getfield 40, 3) := by decide +kernel
theorem dX9_write_38 : decode cX9_write 38 = .ok (.iload_n 1, 1) := by decide +kernel
theorem dX9_write_39 : decode cX9_write 39 = .ok (.iaload, 1) := by decide +kernel
theorem dX9_write_40 : decode cX9_write 40 = .ok (.iconst 1, 1) := by decide +kernel
theorem dX9_write_41 : decode cX9_write 41 = .ok (.isub, 1) := by decide +kernel
theorem dX9_write_42 : decode cX9_write 42 = .ok (.i2l, 1) := by decide +kernel
theorem dX9_write_43 : decode cX9_write 43 = .ok (.invokestatic 54, 3) := by decide +kernel
theorem dX9_write_46 : decode cX9_write 46 = .ok (.ifCond .ne 10, 3) := by decide +kernel
theorem dX9_write_49 : decode cX9_write 49 = .ok (.aload_n 0, 1) := by decide +kernel
theorem dX9_write_50 : decode cX9_write 50 = .ok (.ldc 46, 2) := by decide +kernel
theorem dX9_write_52 : decode cX9_write 52 = .ok (.invokevirtual 48, 3) := by decide +kernel
theorem dX9_write_55 : decode cX9_write 55 = .ok (.ireturn, 1) := by decide +kernel
theorem dX9_write_56 : decode cX9_write 56 = .ok (.aload_n 0, 1) := by decide +kernel
theorem dX9_write_57 : decode cX9_write 57 = .ok (.getfield 43, 3) := by decide +kernel
theorem dX9_write_60 : decode cX9_write 60 = .ok (.bipush 40, 2) := by decide +kernel
theorem dX9_write_62 : decode cX9_write 62 = .ok (.iload_n 1, 1) := by decide +kernel
theorem dX9_write_63 : decode cX9_write 63 = .ok (.imul, 1) := by decide +kernel
theorem dX9_write_64 : decode cX9_write 64 = .ok (.iload_n 2, 1) := by decide +kernel
theorem dX9_write_65 : decode cX9_write 65 = .ok (.iadd, 1) := by decide +kernel
theorem dX9_write_66 : decode cX9_write 66 = .ok (.aload_n 0, 1) := by decide +kernel
theorem dX9_write_67 : decode cX9_write 67 = .ok (.getfield 37, 3) := by decide +kernel
theorem dX9_write_70 : decode cX9_write 70 = .ok (.iload_n 1, 1) := by decide +kernel
theorem dX9_write_71 : decode cX9_write 71 = .ok (.iaload, 1) := by decide +kernel
theorem dX9_write_72 : decode cX9_write 72 = .ok (.bipush 8, 2) := by decide +kernel
theorem dX9_write_74 : decode cX9_write 74 = .ok (.if_icmp .ne 8, 3) := by decide +kernel
theorem dX9_write_77 : decode cX9_write 77 = .ok (.iload_n 3, 1) := by decide +kernel
theorem dX9_write_78 : decode cX9_write 78 = .ok (.i2b, 1) := by decide +kernel
theorem dX9_write_79 : decode cX9_write 79 = .ok (.goto 20, 3) := by decide +kernel
theorem dX9_write_82 : decode cX9_write 82 = .ok (.aload_n 0, 1) := by decide +kernel
theorem dX9_write_83 : decode cX9_write 83 = .ok (.getfield 37, 3) := by decide +kernel
theorem dX9_write_86 : decode cX9_write 86 = .ok (.iload_n 1, 1) := by decide +kernel
theorem dX9_write_87 : decode cX9_write 87 = .ok (.iaload, 1) := by decide +kernel
theorem dX9_write_88 : decode cX9_write 88 = .ok (.bipush 16, 2) := by decide +kernel
theorem dX9_write_90 : decode cX9_write 90 = .ok (.if_icmp .ne 8, 3) := by decide +kernel
theorem dX9_write_93 : decode cX9_write 93 = .ok (.iload_n 3, 1) := by decide +kernel
theorem dX9_write_94 : decode cX9_write 94 = .ok (.i2s, 1) := by decide +kernel
theorem dX9_write_95 : decode cX9_write 95 = .ok (.goto 4, 3) := by decide +kernel
theorem dX9_write_98 : decode cX9_write 98 = .ok (.iload_n 3, 1) := by decide +kernel
theorem dX9_write_99 : decode cX9_write 99 = .ok (.iastore, 1) := by decide +kernel
theorem dX9_write_100 : decode cX9_write 100 = .ok (.iconst 1, 1) := by decide +kernel
theorem dX9_write_101 : decode cX9_write 101 = .ok (.ireturn, 1) := by decide +kernel
theorem dX9_copy_0 : decode cX9_copy 0 = .ok (.iload_n 1, 1) := by decide +kernel
theorem dX9_copy_1 : decode cX9_copy 1 = .ok (.invokestatic 324, 3) := by decide +kernel
theorem dX9_copy_4 : decode cX9_copy 4 = .ok (.ifCond .eq 10, 3) := by decide +kernel
theorem dX9_copy_7 : decode cX9_copy 7 = .ok (.iload_n 3, 1) := by decide +kernel
theorem dX9_copy_8 : decode cX9_copy 8 = .ok (.invokestatic 324, 3) := by decide +kernel
theorem dX9_copy_11 : decode cX9_copy 11 = .ok (.ifCond .ne 10, 3) := by decide +kernel
theorem dX9_copy_14 : decode cX9_copy 14 = .ok (.aload_n 0, 1) := by decide +kernel
theorem dX9_copy_15 : decode cX9_copy 15 = .ok (.ldc 46, 2) := by decide +kernel
theorem dX9_copy_17 : decode cX9_copy 17 = .ok (.invokevirtual 48, 3) := by decide +kernel
theorem dX9_copy_20 : decode cX9_copy 20 = .ok (.ireturn, 1) := by decide +kernel
theorem dX9_copy_21 : decode cX9_copy 21 = .ok (.aload_n 0, 1) := by decide +kernel
theorem dX9_copy_22 : decode cX9_copy 22 = .ok (.getfield 37, 3) := by decide +kernel
theorem dX9_copy_25 : decode cX9_copy 25 = .ok (.iload_n 1, 1) := by decide +kernel
theorem dX9_copy_26 : decode cX9_copy 26 = .ok (.iaload, 1) := by decide +kernel
theorem dX9_copy_27 : decode cX9_copy 27 = .ok (.ifCond .eq 12, 3) := by decide +kernel
theorem dX9_copy_30 : decode cX9_copy 30 = .ok (.aload_n 0, 1) := by decide +kernel
theorem dX9_copy_31 : decode cX9_copy 31 = .ok (.getfield 37, 3) := by decide +kernel
theorem dX9_copy_34 : decode cX9_copy 34 = .ok (.iload_n 3, 1) := by decide +kernel
theorem dX9_copy_35 : decode cX9_copy 35 = .ok (.iaload, 1) := by decide +kernel
theorem dX9_copy_36 : decode cX9_copy 36 = .ok (.ifCond .ne 11, 3) := by decide +kernel
theorem dX9_copy_39 : decode cX9_copy 39 = .ok (.aload_n 0, 1) := by decide +kernel
theorem dX9_copy_40 : decode cX9_copy 40 = .ok (.ldc_w 319, 3) := by decide +kernel
theorem dX9_copy_43 : decode cX9_copy 43 = .ok (.invokevirtual 48, 3) := by decide +kernel
theorem dX9_copy_46 : decode cX9_copy 46 = .ok (.ireturn, 1) := by decide +kernel
theorem dX9_copy_47 : decode cX9_copy 47 = .ok (.aload_n 0, 1) := by decide +kernel
theorem dX9_copy_48 : decode cX9_copy 48 = .ok (.getfield 37, 3) := by decide +kernel
theorem dX9_copy_51 : decode cX9_copy 51 = .ok (.iload_n 1, 1) := by decide +kernel
theorem dX9_copy_52 : decode cX9_copy 52 = .ok (.iaload, 1) := by decide +kernel
theorem dX9_copy_53 : decode cX9_copy 53 = .ok (.aload_n 0, 1) := by decide +kernel
theorem dX9_copy_54 : decode cX9_copy 54 = .ok (.getfield 37, 3) := by decide +kernel
theorem dX9_copy_57 : decode cX9_copy 57 = .ok (.iload_n 3, 1) := by decide +kernel
theorem dX9_copy_58 : decode cX9_copy 58 = .ok (.iaload, 1) := by decide +kernel
theorem dX9_copy_59 : decode cX9_copy 59 = .ok (.if_icmp .eq 11, 3) := by decide +kernel
theorem dX9_copy_62 : decode cX9_copy 62 = .ok (.aload_n 0, 1) := by decide +kernel
theorem dX9_copy_63 : decode cX9_copy 63 = .ok (.ldc_w 323, 3) := by decide +kernel
theorem dX9_copy_66 : decode cX9_copy 66 = .ok (.invokevirtual 48, 3) := by decide +kernel
theorem dX9_copy_69 : decode cX9_copy 69 = .ok (.ireturn, 1) := by decide +kernel
theorem dX9_copy_70 : decode cX9_copy 70 = .ok (.iload 5, 2) := by decide +kernel
theorem dX9_copy_72 : decode cX9_copy 72 = .ok (.ifCond .lt 39, 3) := by decide +kernel
theorem dX9_copy_75 : decode cX9_copy 75 = .ok (.iload_n 2, 1) := by decide +kernel
theorem dX9_copy_76 : decode cX9_copy 76 = .ok (.ifCond .lt 35, 3) := by decide +kernel
theorem dX9_copy_79 : decode cX9_copy 79 = .ok (.iload 4, 2) := by decide +kernel
theorem dX9_copy_81 : decode cX9_copy 81 = .ok (.ifCond .lt 30, 3) := by decide +kernel
theorem dX9_copy_84 : decode cX9_copy 84 = .ok (.iload 5, 2) := by decide +kernel
theorem dX9_copy_86 : decode cX9_copy 86 = .ok (.aload_n 0, 1) := by decide +kernel
theorem dX9_copy_87 : decode cX9_copy 87 = .ok (.getfield 40, 3) := by decide +kernel
theorem dX9_copy_90 : decode cX9_copy 90 = .ok (.iload_n 1, 1) := by decide +kernel
theorem dX9_copy_91 : decode cX9_copy 91 = .ok (.iaload, 1) := by decide +kernel
theorem dX9_copy_92 : decode cX9_copy 92 = .ok (.iload_n 2, 1) := by decide +kernel
theorem dX9_copy_93 : decode cX9_copy 93 = .ok (.isub, 1) := by decide +kernel
theorem dX9_copy_94 : decode cX9_copy 94 = .ok (.if_icmp .gt 17, 3) := by decide +kernel
theorem dX9_copy_97 : decode cX9_copy 97 = .ok (.iload 5, 2) := by decide +kernel
theorem dX9_copy_99 : decode cX9_copy 99 = .ok (.aload_n 0, 1) := by decide +kernel
theorem dX9_copy_100 : decode cX9_copy 100 = .ok (.getfield 40, 3) := by decide +kernel
theorem dX9_copy_103 : decode cX9_copy 103 = .ok (.iload_n 3, 1) := by decide +kernel
theorem dX9_copy_104 : decode cX9_copy 104 = .ok (.iaload, 1) := by decide +kernel
theorem dX9_copy_105 : decode cX9_copy 105 = .ok (.iload 4, 2) := by decide +kernel
theorem dX9_copy_107 : decode cX9_copy 107 = .ok (.isub, 1) := by decide +kernel
theorem dX9_copy_108 : decode cX9_copy 108 = .ok (.if_icmp .le 10, 3) := by decide +kernel
theorem dX9_copy_111 : decode cX9_copy 111 = .ok (.aload_n 0, 1) := by decide +kernel
theorem dX9_copy_112 : decode cX9_copy 112 = .ok (.ldc 46, 2) := by decide +kernel
theorem dX9_copy_114 : decode cX9_copy 114 = .ok (.invokevirtual 48, 3) := by decide +kernel
theorem dX9_copy_117 : decode cX9_copy 117 = .ok (.ireturn, 1) := by decide +kernel
theorem dX9_copy_118 : decode cX9_copy 118 = .ok (.iload_n 1, 1) := by decide +kernel
theorem dX9_copy_119 : decode cX9_copy 119 = .ok (.iload_n 3, 1) := by decide +kernel
theorem dX9_copy_120 : decode cX9_copy 120 = .ok (.if_icmp .ne 13, 3) := by decide +kernel
theorem dX9_copy_123 : decode cX9_copy 123 = .ok (.iload_n 2, 1) := by decide +kernel
theorem dX9_copy_124 : decode cX9_copy 124 = .ok (.iload 4, 2) := by decide +kernel
theorem dX9_copy_126 : decode cX9_copy 126 = .ok (.if_icmp .ge 7, 3) := by decide +kernel
theorem dX9_copy_129 : decode cX9_copy 129 = .ok (.iconst 1, 1) := by decide +kernel
theorem dX9_copy_130 : decode cX9_copy 130 = .ok (.goto 4, 3) := by decide +kernel
theorem dX9_copy_133 : decode cX9_copy 133 = .ok (.iconst 0, 1) := by decide +kernel
theorem dX9_copy_134 : decode cX9_copy 134 = .ok (.istore 6, 2) := by decide +kernel
theorem dX9_copy_136 : decode cX9_copy 136 = .ok (.iconst 0, 1) := by decide +kernel
theorem dX9_copy_137 : decode cX9_copy 137 = .ok (.istore 7, 2) := by decide +kernel
theorem dX9_copy_139 : decode cX9_copy 139 = .ok (.iload 7, 2) := by decide +kernel
theorem dX9_copy_141 : decode cX9_copy 141 = .ok (.iload 5, 2) := by decide +kernel
theorem dX9_copy_143 : decode cX9_copy 143 = .ok (.if_icmp .ge 57, 3) := by decide +kernel
theorem dX9_copy_146 : decode cX9_copy 146 = .ok (.iload 6, 2) := by decide +kernel
theorem dX9_copy_148 : decode cX9_copy 148 = .ok (.ifCond .eq 13, 3) := by decide +kernel
theorem dX9_copy_151 : decode cX9_copy 151 = .ok (.iload 5, 2) := by decide +kernel
theorem dX9_copy_153 : decode cX9_copy 153 = .ok (.iconst 1, 1) := by decide +kernel
theorem dX9_copy_154 : decode cX9_copy 154 = .ok (.isub, 1) := by decide +kernel
theorem dX9_copy_155 : decode cX9_copy 155 = .ok (.iload 7, 2) := by decide +kernel
theorem dX9_copy_157 : decode cX9_copy 157 = .ok (.isub, 1) := by decide +kernel
theorem dX9_copy_158 : decode cX9_copy 158 = .ok (.goto 5, 3) := by decide +kernel
theorem dX9_copy_161 : decode cX9_copy 161 = .ok (.iload 7, 2) := by decide +kernel
theorem dX9_copy_163 : decode cX9_copy 163 = .ok (.istore 8, 2) := by decide +kernel
theorem dX9_copy_165 : decode cX9_copy 165 = .ok (.aload_n 0, 1) := by decide +kernel
theorem dX9_copy_166 : decode cX9_copy 166 = .ok (.getfield 43, 3) := by decide +kernel
theorem dX9_copy_169 : decode cX9_copy 169 = .ok (.bipush 40, 2) := by decide +kernel
theorem dX9_copy_171 : decode cX9_copy 171 = .ok (.iload_n 3, 1) := by decide +kernel
theorem dX9_copy_172 : decode cX9_copy 172 = .ok (.imul, 1) := by decide +kernel
theorem dX9_copy_173 : decode cX9_copy 173 = .ok (.iload 4, 2) := by decide +kernel
theorem dX9_copy_175 : decode cX9_copy 175 = .ok (.iadd, 1) := by decide +kernel
theorem dX9_copy_176 : decode cX9_copy 176 = .ok (.iload 8, 2) := by decide +kernel
theorem dX9_copy_178 : decode cX9_copy 178 = .ok (.iadd, 1) := by decide +kernel
theorem dX9_copy_179 : decode cX9_copy 179 = .ok (.aload_n 0, 1) := by decide +kernel
theorem dX9_copy_180 : decode cX9_copy 180 = .ok (.getfield 43, 3) := by decide +kernel
theorem dX9_copy_183 : decode cX9_copy 183 = .ok (.bipush 40, 2) := by decide +kernel
theorem dX9_copy_185 : decode cX9_copy 185 = .ok (.iload_n 1, 1) := by decide +kernel
theorem dX9_copy_186 : decode cX9_copy 186 = .ok (.imul, 1) := by decide +kernel
theorem dX9_copy_187 : decode cX9_copy 187 = .ok (.iload_n 2, 1) := by decide +kernel
theorem dX9_copy_188 : decode cX9_copy 188 = .ok (.iadd, 1) := by decide +kernel
theorem dX9_copy_189 : decode cX9_copy 189 = .ok (.iload 8, 2) := by decide +kernel
theorem dX9_copy_191 : decode cX9_copy 191 = .ok (.iadd, 1) := by decide +kernel
theorem dX9_copy_192 : decode cX9_copy 192 = .ok (.iaload, 1) := by decide +kernel
theorem dX9_copy_193 : decode cX9_copy 193 = .ok (.iastore, 1) := by decide +kernel
theorem dX9_copy_194 : decode cX9_copy 194 = .ok (.iinc 7 1, 3) := by decide +kernel
theorem dX9_copy_197 : decode cX9_copy 197 = .ok (.goto (-58), 3) := by decide +kernel
theorem dX9_copy_200 : decode cX9_copy 200 = .ok (.iload 5, 2) := by decide +kernel
theorem dX9_copy_202 : decode cX9_copy 202 = .ok (.ireturn, 1) := by decide +kernel
theorem dX9_load_0 : decode cX9_load 0 = .ok (.iload_n 1, 1) := by decide +kernel
theorem dX9_load_1 : decode cX9_load 1 = .ok (.invokestatic 324, 3) := by decide +kernel
theorem dX9_load_4 : decode cX9_load 4 = .ok (.ifCond .ne 10, 3) := by decide +kernel
theorem dX9_load_7 : decode cX9_load 7 = .ok (.aload_n 0, 1) := by decide +kernel
theorem dX9_load_8 : decode cX9_load 8 = .ok (.ldc 46, 2) := by decide +kernel
theorem dX9_load_10 : decode cX9_load 10 = .ok (.invokevirtual 48, 3) := by decide +kernel
theorem dX9_load_13 : decode cX9_load 13 = .ok (.ireturn, 1) := by decide +kernel
theorem dX9_load_14 : decode cX9_load 14 = .ok (.aload_n 0, 1) := by decide +kernel
theorem dX9_load_15 : decode cX9_load 15 = .ok (.getfield 37, 3) := by decide +kernel
theorem dX9_load_18 : decode cX9_load 18 = .ok (.iload_n 1, 1) := by decide +kernel
theorem dX9_load_19 : decode cX9_load 19 = .ok (.iaload, 1) := by decide +kernel
theorem dX9_load_20 : decode cX9_load 20 = .ok (.ifCond .ne 11, 3) := by decide +kernel
theorem dX9_load_23 : decode cX9_load 23 = .ok (.aload_n 0, 1) := by decide +kernel
theorem dX9_load_24 : decode cX9_load 24 = .ok (.ldc_w 319, 3) := by decide +kernel
theorem dX9_load_27 : decode cX9_load 27 = .ok (.invokevirtual 48, 3) := by decide +kernel
theorem dX9_load_30 : decode cX9_load 30 = .ok (.ireturn, 1) := by decide +kernel
theorem dX9_load_31 : decode cX9_load 31 = .ok (.aload_n 0, 1) := by decide +kernel
theorem dX9_load_32 : decode cX9_load 32 = .ok (.iload_n 2, 1) := by decide +kernel
theorem dX9_load_33 : decode cX9_load 33 = .ok (.invokevirtual 91, 3) := by decide +kernel
theorem dX9_load_36 : decode cX9_load 36 = .ok (.ifCond .ne 10, 3) := by decide +kernel
theorem dX9_load_39 : decode cX9_load 39 = .ok (.aload_n 0, 1) := by decide +kernel
theorem dX9_load_40 : decode cX9_load 40 = .ok (.ldc 46, 2) := by decide +kernel
theorem dX9_load_42 : decode cX9_load 42 = .ok (.invokevirtual 48, 3) := by decide +kernel
theorem dX9_load_45 : decode cX9_load 45 = .ok (.ireturn, 1) := by decide +kernel
theorem dX9_load_46 : decode cX9_load 46 = .ok (.iconst 0, 1) := by decide +kernel
theorem dX9_load_47 : decode cX9_load 47 = .ok (.istore_n 3, 1) := by decide +kernel
theorem dX9_load_48 : decode cX9_load 48 = .ok (.iload_n 3, 1) := by decide +kernel
theorem dX9_load_49 : decode cX9_load 49 = .ok (.aload_n 0, 1) := by decide +kernel
theorem dX9_load_50 : decode cX9_load 50 = .ok (.getfield 40, 3) := by decide +kernel
theorem dX9_load_53 : decode cX9_load 53 = .ok (.iload_n 1, 1) := by decide +kernel
theorem dX9_load_54 : decode cX9_load 54 = .ok (.iaload, 1) := by decide +kernel
theorem dX9_load_55 : decode cX9_load 55 = .ok (.if_icmp .ge 53, 3) := by decide +kernel
theorem dX9_load_58 : decode cX9_load 58 = .ok (.iload_n 3, 1) := by decide +kernel
theorem dX9_load_59 : decode cX9_load 59 = .ok (.invokestatic 66, 3) := by decide +kernel
theorem dX9_load_62 : decode cX9_load 62 = .ok (.ifCond .eq 46, 3) := by decide +kernel
theorem dX9_load_65 : decode cX9_load 65 = .ok (.aload_n 0, 1) := by decide +kernel
theorem dX9_load_66 : decode cX9_load 66 = .ok (.getfield 43, 3) := by decide +kernel
theorem dX9_load_69 : decode cX9_load 69 = .ok (.bipush 40, 2) := by decide +kernel
theorem dX9_load_71 : decode cX9_load 71 = .ok (.iload_n 1, 1) := by decide +kernel
theorem dX9_load_72 : decode cX9_load 72 = .ok (.imul, 1) := by decide +kernel
theorem dX9_load_73 : decode cX9_load 73 = .ok (.iload_n 3, 1) := by decide +kernel
theorem dX9_load_74 : decode cX9_load 74 = .ok (.iadd, 1) := by decide +kernel
theorem dX9_load_75 : decode cX9_load 75 = .ok (.iaload, 1) := by decide +kernel
theorem dX9_load_76 : decode cX9_load 76 = .ok (.invokestatic 107, 3) := by decide +kernel
theorem dX9_load_79 : decode cX9_load 79 = .ok (.ifCond .eq 29, 3) := by decide +kernel
theorem dX9_load_82 : decode cX9_load 82 = .ok (.aload_n 0, 1) := by decide +kernel
theorem dX9_load_83 : decode cX9_load 83 = .ok (.iload_n 2, 1) := by decide +kernel
theorem dX9_load_84 : decode cX9_load 84 = .ok (.bipush 7, 2) := by decide +kernel
theorem dX9_load_86 : decode cX9_load 86 = .ok (.iload_n 3, 1) := by decide +kernel
theorem dX9_load_87 : decode cX9_load 87 = .ok (.iadd, 1) := by decide +kernel
theorem dX9_load_88 : decode cX9_load 88 = .ok (.aload_n 0, 1) := by decide +kernel
theorem dX9_load_89 : decode cX9_load 89 = .ok (.getfield 43, 3) := by decide +kernel
theorem dX9_load_92 : decode cX9_load 92 = .ok (.bipush 40, 2) := by decide +kernel
theorem dX9_load_94 : decode cX9_load 94 = .ok (.iload_n 1, 1) := by decide +kernel
theorem dX9_load_95 : decode cX9_load 95 = .ok (.imul, 1) := by decide +kernel
theorem dX9_load_96 : decode cX9_load 96 = .ok (.iload_n 3, 1) := by decide +kernel
theorem dX9_load_97 : decode cX9_load 97 = .ok (.iadd, 1) := by decide +kernel
theorem dX9_load_98 : decode cX9_load 98 = .ok (.iaload, 1) := by decide +kernel
theorem dX9_load_99 : decode cX9_load 99 = .ok (.invokevirtual 77, 3) := by decide +kernel
theorem dX9_load_102 : decode cX9_load 102 = .ok (.iinc 3 1, 3) := by decide +kernel
theorem dX9_load_105 : decode cX9_load 105 = .ok (.goto (-57), 3) := by decide +kernel
theorem dX9_load_108 : decode cX9_load 108 = .ok (.iload_n 3, 1) := by decide +kernel
theorem dX9_load_109 : decode cX9_load 109 = .ok (.ireturn, 1) := by decide +kernel
theorem dX9_judge_0 : decode cX9_judge 0 = .ok (.iload_n 1, 1) := by decide +kernel
theorem dX9_judge_1 : decode cX9_judge 1 = .ok (.invokestatic 324, 3) := by decide +kernel
theorem dX9_judge_4 : decode cX9_judge 4 = .ok (.ifCond .ne 10, 3) := by decide +kernel
theorem dX9_judge_7 : decode cX9_judge 7 = .ok (.aload_n 0, 1) := by decide +kernel
theorem dX9_judge_8 : decode cX9_judge 8 = .ok (.ldc 46, 2) := by decide +kernel
theorem dX9_judge_10 : decode cX9_judge 10 = .ok (.invokevirtual 48, 3) := by decide +kernel
theorem dX9_judge_13 : decode cX9_judge 13 = .ok (.ireturn, 1) := by decide +kernel
theorem dX9_judge_14 : decode cX9_judge 14 = .ok (.aload_n 0, 1) := by decide +kernel
theorem dX9_judge_15 : decode cX9_judge 15 = .ok (.getfield 37, 3) := by decide +kernel
theorem dX9_judge_18 : decode cX9_judge 18 = .ok (.iload_n 1, 1) := by decide +kernel
theorem dX9_judge_19 : decode cX9_judge 19 = .ok (.iaload, 1) := by decide +kernel
theorem dX9_judge_20 : decode cX9_judge 20 = .ok (.ifCond .ne 11, 3) := by decide +kernel
theorem dX9_judge_23 : decode cX9_judge 23 = .ok (.aload_n 0, 1) := by decide +kernel
theorem dX9_judge_24 : decode cX9_judge 24 = .ok (.ldc_w 319, 3) := by decide +kernel
theorem dX9_judge_27 : decode cX9_judge 27 = .ok (.invokevirtual 48, 3) := by decide +kernel
theorem dX9_judge_30 : decode cX9_judge 30 = .ok (.ireturn, 1) := by decide +kernel
theorem dX9_judge_31 : decode cX9_judge 31 = .ok (.aload_n 0, 1) := by decide +kernel
theorem dX9_judge_32 : decode cX9_judge 32 = .ok (.getfield 9, 3) := by decide +kernel
theorem dX9_judge_35 : decode cX9_judge 35 = .ok (.aload_n 0, 1) := by decide +kernel
theorem dX9_judge_36 : decode cX9_judge 36 = .ok (.getfield 16, 3) := by decide +kernel
theorem dX9_judge_39 : decode cX9_judge 39 = .ok (.invokestatic 166, 3) := by decide +kernel
theorem dX9_judge_42 : decode cX9_judge 42 = .ok (.iconst 0, 1) := by decide +kernel
theorem dX9_judge_43 : decode cX9_judge 43 = .ok (.istore_n 2, 1) := by decide +kernel
theorem dX9_judge_44 : decode cX9_judge 44 = .ok (.aload_n 0, 1) := by decide +kernel
theorem dX9_judge_45 : decode cX9_judge 45 = .ok (.invokevirtual 139, 3) := by decide +kernel
theorem dX9_judge_48 : decode cX9_judge 48 = .ok (.istore_n 3, 1) := by decide +kernel
theorem dX9_judge_49 : decode cX9_judge 49 = .ok (.iload_n 2, 1) := by decide +kernel
theorem dX9_judge_50 : decode cX9_judge 50 = .ok (.aload_n 0, 1) := by decide +kernel
theorem dX9_judge_51 : decode cX9_judge 51 = .ok (.getfield 40, 3) := by decide +kernel
theorem dX9_judge_54 : decode cX9_judge 54 = .ok (.iload_n 1, 1) := by decide +kernel
theorem dX9_judge_55 : decode cX9_judge 55 = .ok (.iaload, 1) := by decide +kernel
theorem dX9_judge_56 : decode cX9_judge 56 = .ok (.if_icmp .ge 39, 3) := by decide +kernel
theorem dX9_judge_59 : decode cX9_judge 59 = .ok (.iload_n 3, 1) := by decide +kernel
theorem dX9_judge_60 : decode cX9_judge 60 = .ok (.ifCond .lt 35, 3) := by decide +kernel
theorem dX9_judge_63 : decode cX9_judge 63 = .ok (.aload_n 0, 1) := by decide +kernel
theorem dX9_judge_64 : decode cX9_judge 64 = .ok (.getfield 43, 3) := by decide +kernel
theorem dX9_judge_67 : decode cX9_judge 67 = .ok (.bipush 40, 2) := by decide +kernel
theorem dX9_judge_69 : decode cX9_judge 69 = .ok (.iload_n 1, 1) := by decide +kernel
theorem dX9_judge_70 : decode cX9_judge 70 = .ok (.imul, 1) := by decide +kernel
theorem dX9_judge_71 : decode cX9_judge 71 = .ok (.iload_n 2, 1) := by decide +kernel
theorem dX9_judge_72 : decode cX9_judge 72 = .ok (.iadd, 1) := by decide +kernel
theorem dX9_judge_73 : decode cX9_judge 73 = .ok (.iaload, 1) := by decide +kernel
theorem dX9_judge_74 : decode cX9_judge 74 = .ok (.iload_n 3, 1) := by decide +kernel
theorem dX9_judge_75 : decode cX9_judge 75 = .ok (.if_icmp .ne 20, 3) := by decide +kernel
theorem dX9_judge_78 : decode cX9_judge 78 = .ok (.aload_n 0, 1) := by decide +kernel
theorem dX9_judge_79 : decode cX9_judge 79 = .ok (.iload_n 3, 1) := by decide +kernel
theorem dX9_judge_80 : decode cX9_judge 80 = .ok (.invokevirtual 149, 3) := by decide +kernel
theorem dX9_judge_83 : decode cX9_judge 83 = .ok (.pop, 1) := by decide +kernel
theorem dX9_judge_84 : decode cX9_judge 84 = .ok (.aload_n 0, 1) := by decide +kernel
theorem dX9_judge_85 : decode cX9_judge 85 = .ok (.invokevirtual 139, 3) := by decide +kernel
theorem dX9_judge_88 : decode cX9_judge 88 = .ok (.istore_n 3, 1) := by decide +kernel
theorem dX9_judge_89 : decode cX9_judge 89 = .ok (.iinc 2 1, 3) := by decide +kernel
theorem dX9_judge_92 : decode cX9_judge 92 = .ok (.goto (-43), 3) := by decide +kernel
theorem dX9_judge_95 : decode cX9_judge 95 = .ok (.aload_n 0, 1) := by decide +kernel
theorem dX9_judge_96 : decode cX9_judge 96 = .ok (.getfield 16, 3) := by decide +kernel
theorem dX9_judge_99 : decode cX9_judge 99 = .ok (.aload_n 0, 1) := by decide +kernel
theorem dX9_judge_100 : decode cX9_judge 100 = .ok (.getfield 9, 3) := by decide +kernel
theorem dX9_judge_103 : decode cX9_judge 103 = .ok (.invokestatic 166, 3) := by decide +kernel
theorem dX9_judge_106 : decode cX9_judge 106 = .ok (.iload_n 2, 1) := by decide +kernel
theorem dX9_judge_107 : decode cX9_judge 107 = .ok (.aload_n 0, 1) := by decide +kernel
theorem dX9_judge_108 : decode cX9_judge 108 = .ok (.getfield 40, 3) := by decide +kernel
theorem dX9_judge_111 : decode cX9_judge 111 = .ok (.iload_n 1, 1) := by decide +kernel
theorem dX9_judge_112 : decode cX9_judge 112 = .ok (.iaload, 1) := by decide +kernel
theorem dX9_judge_113 : decode cX9_judge 113 = .ok (.if_icmp .ne 7, 3) := by decide +kernel
theorem dX9_judge_116 : decode cX9_judge 116 = .ok (.iconst 0, 1) := by decide +kernel
theorem dX9_judge_117 : decode cX9_judge 117 = .ok (.goto 6, 3) := by decide +kernel
theorem dX9_judge_120 : decode cX9_judge 120 = .ok (.iconst 1, 1) := by decide +kernel
theorem dX9_judge_121 : decode cX9_judge 121 = .ok (.iload_n 2, 1) := by decide +kernel
theorem dX9_judge_122 : decode cX9_judge 122 = .ok (.iadd, 1) := by decide +kernel
theorem dX9_judge_123 : decode cX9_judge 123 = .ok (.ireturn, 1) := by decide +kernel
theorem dX9_image_0 : decode cX9_image 0 = .ok (.aload_n 0, 1) := by decide +kernel
theorem dX9_image_1 : decode cX9_image 1 = .ok (.getfield 9, 3) := by decide +kernel
theorem dX9_image_4 : decode cX9_image 4 = .ok (.aload_n 0, 1) := by decide +kernel
theorem dX9_image_5 : decode cX9_image 5 = .ok (.getfield 13, 3) := by decide +kernel
theorem dX9_image_8 : decode cX9_image 8 = .ok (.invokestatic 166, 3) := by decide +kernel
theorem dX9_image_11 : decode cX9_image 11 = .ok (.aload_n 0, 1) := by decide +kernel
theorem dX9_image_12 : decode cX9_image 12 = .ok (.iconst 1, 1) := by decide +kernel
theorem dX9_image_13 : decode cX9_image 13 = .ok (.putfield 328, 3) := by decide +kernel
theorem dX9_image_16 : decode cX9_image 16 = .ok (.iconst 1, 1) := by decide +kernel
theorem dX9_image_17 : decode cX9_image 17 = .ok (.ireturn, 1) := by decide +kernel
theorem dX9_undo_0 : decode cX9_undo 0 = .ok (.aload_n 0, 1) := by decide +kernel
theorem dX9_undo_1 : decode cX9_undo 1 = .ok (.getfield 328, 3) := by decide +kernel
theorem dX9_undo_4 : decode cX9_undo 4 = .ok (.ifCond .ne 10, 3) := by decide +kernel
theorem dX9_undo_7 : decode cX9_undo 7 = .ok (.aload_n 0, 1) := by decide +kernel
theorem dX9_undo_8 : decode cX9_undo 8 = .ok (.ldc 47, 2) := by decide +kernel
theorem dX9_undo_10 : decode cX9_undo 10 = .ok (.invokevirtual 48, 3) := by decide +kernel
theorem dX9_undo_13 : decode cX9_undo 13 = .ok (.ireturn, 1) := by decide +kernel
theorem dX9_undo_14 : decode cX9_undo 14 = .ok (.aload_n 0, 1) := by decide +kernel
theorem dX9_undo_15 : decode cX9_undo 15 = .ok (.getfield 13, 3) := by decide +kernel
theorem dX9_undo_18 : decode cX9_undo 18 = .ok (.aload_n 0, 1) := by decide +kernel
theorem dX9_undo_19 : decode cX9_undo 19 = .ok (.getfield 9, 3) := by decide +kernel
theorem dX9_undo_22 : decode cX9_undo 22 = .ok (.invokestatic 166, 3) := by decide +kernel
theorem dX9_undo_25 : decode cX9_undo 25 = .ok (.aload_n 0, 1) := by decide +kernel
theorem dX9_undo_26 : decode cX9_undo 26 = .ok (.getfield 9, 3) := by decide +kernel
theorem dX9_undo_29 : decode cX9_undo 29 = .ok (.iconst 2, 1) := by decide +kernel
theorem dX9_undo_30 : decode cX9_undo 30 = .ok (.iaload, 1) := by decide +kernel
theorem dX9_undo_31 : decode cX9_undo 31 = .ok (.ireturn, 1) := by decide +kernel
theorem dX9_tear_0 : decode cX9_tear 0 = .ok (.aload_n 0, 1) := by decide +kernel
theorem dX9_tear_1 : decode cX9_tear 1 = .ok (.getfield 328, 3) := by decide +kernel
theorem dX9_tear_4 : decode cX9_tear 4 = .ok (.ifCond .eq 7, 3) := by decide +kernel
theorem dX9_tear_7 : decode cX9_tear 7 = .ok (.iconst 1, 1) := by decide +kernel
theorem dX9_tear_8 : decode cX9_tear 8 = .ok (.goto 4, 3) := by decide +kernel
theorem dX9_tear_11 : decode cX9_tear 11 = .ok (.iconst 0, 1) := by decide +kernel
theorem dX9_tear_12 : decode cX9_tear 12 = .ok (.istore_n 1, 1) := by decide +kernel
theorem dX9_tear_13 : decode cX9_tear 13 = .ok (.aload_n 0, 1) := by decide +kernel
theorem dX9_tear_14 : decode cX9_tear 14 = .ok (.iconst 0, 1) := by decide +kernel
theorem dX9_tear_15 : decode cX9_tear 15 = .ok (.putfield 328, 3) := by decide +kernel
theorem dX9_tear_18 : decode cX9_tear 18 = .ok (.iload_n 1, 1) := by decide +kernel
theorem dX9_tear_19 : decode cX9_tear 19 = .ok (.ireturn, 1) := by decide +kernel
theorem dX9_allDrops_0 : decode cX9_allDrops 0 = .ok (.iconst 0, 1) := by decide +kernel
theorem dX9_allDrops_1 : decode cX9_allDrops 1 = .ok (.istore_n 1, 1) := by decide +kernel
theorem dX9_allDrops_2 : decode cX9_allDrops 2 = .ok (.iconst 0, 1) := by decide +kernel
theorem dX9_allDrops_3 : decode cX9_allDrops 3 = .ok (.istore_n 2, 1) := by decide +kernel
theorem dX9_allDrops_4 : decode cX9_allDrops 4 = .ok (.iload_n 2, 1) := by decide +kernel
theorem dX9_allDrops_5 : decode cX9_allDrops 5 = .ok (.aload_n 0, 1) := by decide +kernel
theorem dX9_allDrops_6 : decode cX9_allDrops 6 = .ok (.getfield 9, 3) := by decide +kernel
theorem dX9_allDrops_9 : decode cX9_allDrops 9 = .ok (.iconst 2, 1) := by decide +kernel
theorem dX9_allDrops_10 : decode cX9_allDrops 10 = .ok (.iaload, 1) := by decide +kernel
theorem dX9_allDrops_11 : decode cX9_allDrops 11 = .ok (.if_icmp .ge 19, 3) := by decide +kernel
theorem dX9_allDrops_14 : decode cX9_allDrops 14 = .ok (.iload_n 1, 1) := by decide +kernel
theorem dX9_allDrops_15 : decode cX9_allDrops 15 = .ok (.aload_n 0, 1) := by decide +kernel
theorem dX9_allDrops_16 : decode cX9_allDrops 16 = .ok (.iload_n 2, 1) := by decide +kernel
theorem dX9_allDrops_17 : decode cX9_allDrops 17 = .ok (.bipush 6, 2) := by decide +kernel
theorem dX9_allDrops_19 : decode cX9_allDrops 19 = .ok (.invokevirtual 62, 3) := by decide +kernel
theorem dX9_allDrops_22 : decode cX9_allDrops 22 = .ok (.iadd, 1) := by decide +kernel
theorem dX9_allDrops_23 : decode cX9_allDrops 23 = .ok (.istore_n 1, 1) := by decide +kernel
theorem dX9_allDrops_24 : decode cX9_allDrops 24 = .ok (.iinc 2 1, 3) := by decide +kernel
theorem dX9_allDrops_27 : decode cX9_allDrops 27 = .ok (.goto (-23), 3) := by decide +kernel
theorem dX9_allDrops_30 : decode cX9_allDrops 30 = .ok (.iload_n 1, 1) := by decide +kernel
theorem dX9_allDrops_31 : decode cX9_allDrops 31 = .ok (.ireturn, 1) := by decide +kernel
theorem dX9_holding_0 : decode cX9_holding 0 = .ok (.iconst 0, 1) := by decide +kernel
theorem dX9_holding_1 : decode cX9_holding 1 = .ok (.istore_n 1, 1) := by decide +kernel
theorem dX9_holding_2 : decode cX9_holding 2 = .ok (.iconst 0, 1) := by decide +kernel
theorem dX9_holding_3 : decode cX9_holding 3 = .ok (.istore_n 2, 1) := by decide +kernel
theorem dX9_holding_4 : decode cX9_holding 4 = .ok (.iload_n 2, 1) := by decide +kernel
theorem dX9_holding_5 : decode cX9_holding 5 = .ok (.bipush 10, 2) := by decide +kernel
theorem dX9_holding_7 : decode cX9_holding 7 = .ok (.if_icmp .ge 30, 3) := by decide +kernel
theorem dX9_holding_10 : decode cX9_holding 10 = .ok (.iload_n 1, 1) := by decide +kernel
theorem dX9_holding_11 : decode cX9_holding 11 = .ok (.aload_n 0, 1) := by decide +kernel
theorem dX9_holding_12 : decode cX9_holding 12 = .ok (.getfield 9, 3) := by decide +kernel
theorem dX9_holding_15 : decode cX9_holding 15 = .ok (.sipush 255, 3) := by decide +kernel
theorem dX9_holding_18 : decode cX9_holding 18 = .ok (.iload_n 2, 1) := by decide +kernel
theorem dX9_holding_19 : decode cX9_holding 19 = .ok (.iadd, 1) := by decide +kernel
theorem dX9_holding_20 : decode cX9_holding 20 = .ok (.iaload, 1) := by decide +kernel
theorem dX9_holding_21 : decode cX9_holding 21 = .ok (.ifCond .ge 7, 3) := by decide +kernel
theorem dX9_holding_24 : decode cX9_holding 24 = .ok (.iconst 0, 1) := by decide +kernel
theorem dX9_holding_25 : decode cX9_holding 25 = .ok (.goto 4, 3) := by decide +kernel
theorem dX9_holding_28 : decode cX9_holding 28 = .ok (.iconst 1, 1) := by decide +kernel
theorem dX9_holding_29 : decode cX9_holding 29 = .ok (.iadd, 1) := by decide +kernel
theorem dX9_holding_30 : decode cX9_holding 30 = .ok (.istore_n 1, 1) := by decide +kernel
theorem dX9_holding_31 : decode cX9_holding 31 = .ok (.iinc 2 1, 3) := by decide +kernel
theorem dX9_holding_34 : decode cX9_holding 34 = .ok (.goto (-30), 3) := by decide +kernel
theorem dX9_holding_37 : decode cX9_holding 37 = .ok (.iload_n 1, 1) := by decide +kernel
theorem dX9_holding_38 : decode cX9_holding 38 = .ok (.ireturn, 1) := by decide +kernel
theorem dX9_count_0 : decode cX9_count 0 = .ok (.iload_n 1, 1) := by decide +kernel
theorem dX9_count_1 : decode cX9_count 1 = .ok (.tableswitch 96 0 7 #[47, 54, 62, 67, 72, 79, 84, 91], 47) := by decide +kernel
theorem dX9_count_48 : decode cX9_count 48 = .ok (.aload_n 0, 1) := by decide +kernel
theorem dX9_count_49 : decode cX9_count 49 = .ok (.getfield 9, 3) := by decide +kernel
theorem dX9_count_52 : decode cX9_count 52 = .ok (.iconst 2, 1) := by decide +kernel
theorem dX9_count_53 : decode cX9_count 53 = .ok (.iaload, 1) := by decide +kernel
theorem dX9_count_54 : decode cX9_count 54 = .ok (.ireturn, 1) := by decide +kernel
theorem dX9_count_55 : decode cX9_count 55 = .ok (.aload_n 0, 1) := by decide +kernel
theorem dX9_count_56 : decode cX9_count 56 = .ok (.invokevirtual 157, 3) := by decide +kernel
theorem dX9_count_59 : decode cX9_count 59 = .ok (.invokestatic 160, 3) := by decide +kernel
theorem dX9_count_62 : decode cX9_count 62 = .ok (.ireturn, 1) := by decide +kernel
theorem dX9_count_63 : decode cX9_count 63 = .ok (.aload_n 0, 1) := by decide +kernel
theorem dX9_count_64 : decode cX9_count 64 = .ok (.invokevirtual 331, 3) := by decide +kernel
theorem dX9_count_67 : decode cX9_count 67 = .ok (.ireturn, 1) := by decide +kernel
theorem dX9_count_68 : decode cX9_count 68 = .ok (.aload_n 0, 1) := by decide +kernel
theorem dX9_count_69 : decode cX9_count 69 = .ok (.invokevirtual 221, 3) := by decide +kernel
theorem dX9_count_72 : decode cX9_count 72 = .ok (.ireturn, 1) := by decide +kernel
theorem dX9_count_73 : decode cX9_count 73 = .ok (.aload_n 0, 1) := by decide +kernel
theorem dX9_count_74 : decode cX9_count 74 = .ok (.getfield 9, 3) := by decide +kernel
theorem dX9_count_77 : decode cX9_count 77 = .ok (.iconst 0, 1) := by decide +kernel
theorem dX9_count_78 : decode cX9_count 78 = .ok (.iaload, 1) := by decide +kernel
theorem dX9_count_79 : decode cX9_count 79 = .ok (.ireturn, 1) := by decide +kernel
theorem dX9_count_80 : decode cX9_count 80 = .ok (.aload_n 0, 1) := by decide +kernel
theorem dX9_count_81 : decode cX9_count 81 = .ok (.getfield 224, 3) := by decide +kernel
theorem dX9_count_84 : decode cX9_count 84 = .ok (.ireturn, 1) := by decide +kernel
theorem dX9_count_85 : decode cX9_count 85 = .ok (.aload_n 0, 1) := by decide +kernel
theorem dX9_count_86 : decode cX9_count 86 = .ok (.getfield 9, 3) := by decide +kernel
theorem dX9_count_89 : decode cX9_count 89 = .ok (.iconst 1, 1) := by decide +kernel
theorem dX9_count_90 : decode cX9_count 90 = .ok (.iaload, 1) := by decide +kernel
theorem dX9_count_91 : decode cX9_count 91 = .ok (.ireturn, 1) := by decide +kernel
theorem dX9_count_92 : decode cX9_count 92 = .ok (.aload_n 0, 1) := by decide +kernel
theorem dX9_count_93 : decode cX9_count 93 = .ok (.invokevirtual 334, 3) := by decide +kernel
theorem dX9_count_96 : decode cX9_count 96 = .ok (.ireturn, 1) := by decide +kernel
theorem dX9_count_97 : decode cX9_count 97 = .ok (.aload_n 0, 1) := by decide +kernel
theorem dX9_count_98 : decode cX9_count 98 = .ok (.ldc 46, 2) := by decide +kernel
theorem dX9_count_100 : decode cX9_count 100 = .ok (.invokevirtual 48, 3) := by decide +kernel
theorem dX9_count_103 : decode cX9_count 103 = .ok (.ireturn, 1) := by decide +kernel
theorem dX9_status_0 : decode cX9_status 0 = .ok (.iload_n 1, 1) := by decide +kernel
theorem dX9_status_1 : decode cX9_status 1 = .ok (.i2l, 1) := by decide +kernel
theorem dX9_status_2 : decode cX9_status 2 = .ok (.ldc2_w 129, 3) := by decide +kernel
theorem dX9_status_5 : decode cX9_status 5 = .ok (.ldc2_w 60, 3) := by decide +kernel
theorem dX9_status_8 : decode cX9_status 8 = .ok (.invokestatic 54, 3) := by decide +kernel
theorem dX9_status_11 : decode cX9_status 11 = .ok (.ifCond .ne 10, 3) := by decide +kernel
theorem dX9_status_14 : decode cX9_status 14 = .ok (.aload_n 0, 1) := by decide +kernel
theorem dX9_status_15 : decode cX9_status 15 = .ok (.ldc 46, 2) := by decide +kernel
theorem dX9_status_17 : decode cX9_status 17 = .ok (.invokevirtual 48, 3) := by decide +kernel
theorem dX9_status_20 : decode cX9_status 20 = .ok (.ireturn, 1) := by decide +kernel
theorem dX9_status_21 : decode cX9_status 21 = .ok (.iconst 0, 1) := by decide +kernel
theorem dX9_status_22 : decode cX9_status 22 = .ok (.istore_n 2, 1) := by decide +kernel
theorem dX9_status_23 : decode cX9_status 23 = .ok (.iconst 0, 1) := by decide +kernel
theorem dX9_status_24 : decode cX9_status 24 = .ok (.istore_n 3, 1) := by decide +kernel
theorem dX9_status_25 : decode cX9_status 25 = .ok (.iload_n 3, 1) := by decide +kernel
theorem dX9_status_26 : decode cX9_status 26 = .ok (.bipush 7, 2) := by decide +kernel
theorem dX9_status_28 : decode cX9_status 28 = .ok (.if_icmp .ge 31, 3) := by decide +kernel
theorem dX9_status_31 : decode cX9_status 31 = .ok (.iload_n 2, 1) := by decide +kernel
theorem dX9_status_32 : decode cX9_status 32 = .ok (.iload_n 1, 1) := by decide +kernel
theorem dX9_status_33 : decode cX9_status 33 = .ok (.ifCond .lt 8, 3) := by decide +kernel
theorem dX9_status_36 : decode cX9_status 36 = .ok (.iload_n 1, 1) := by decide +kernel
theorem dX9_status_37 : decode cX9_status 37 = .ok (.iload_n 3, 1) := by decide +kernel
theorem dX9_status_38 : decode cX9_status 38 = .ok (.if_icmp .ne 12, 3) := by decide +kernel
theorem dX9_status_41 : decode cX9_status 41 = .ok (.aload_n 0, 1) := by decide +kernel
theorem dX9_status_42 : decode cX9_status 42 = .ok (.getfield 19, 3) := by decide +kernel
theorem dX9_status_45 : decode cX9_status 45 = .ok (.iload_n 3, 1) := by decide +kernel
theorem dX9_status_46 : decode cX9_status 46 = .ok (.iaload, 1) := by decide +kernel
theorem dX9_status_47 : decode cX9_status 47 = .ok (.goto 4, 3) := by decide +kernel
theorem dX9_status_50 : decode cX9_status 50 = .ok (.iconst 0, 1) := by decide +kernel
theorem dX9_status_51 : decode cX9_status 51 = .ok (.iadd, 1) := by decide +kernel
theorem dX9_status_52 : decode cX9_status 52 = .ok (.istore_n 2, 1) := by decide +kernel
theorem dX9_status_53 : decode cX9_status 53 = .ok (.iinc 3 1, 3) := by decide +kernel
theorem dX9_status_56 : decode cX9_status 56 = .ok (.goto (-31), 3) := by decide +kernel
theorem dX9_status_59 : decode cX9_status 59 = .ok (.iload_n 2, 1) := by decide +kernel
theorem dX9_status_60 : decode cX9_status 60 = .ok (.ireturn, 1) := by decide +kernel
theorem dJ6_bitCount_0f7a4_0 : decode cJ6_bitCount_0f7a4 0 = .ok (.iload_n 0, 1) := by decide +kernel
theorem dJ6_bitCount_0f7a4_1 : decode cJ6_bitCount_0f7a4 1 = .ok (.iload_n 0, 1) := by decide +kernel
theorem dJ6_bitCount_0f7a4_2 : decode cJ6_bitCount_0f7a4 2 = .ok (.iconst 1, 1) := by decide +kernel
theorem dJ6_bitCount_0f7a4_3 : decode cJ6_bitCount_0f7a4 3 = .ok (.iushr, 1) := by decide +kernel
theorem dJ6_bitCount_0f7a4_4 : decode cJ6_bitCount_0f7a4 4 = .ok (.ldc_w 265, 3) := by decide +kernel
theorem dJ6_bitCount_0f7a4_7 : decode cJ6_bitCount_0f7a4 7 = .ok (.iand, 1) := by decide +kernel
theorem dJ6_bitCount_0f7a4_8 : decode cJ6_bitCount_0f7a4 8 = .ok (.isub, 1) := by decide +kernel
theorem dJ6_bitCount_0f7a4_9 : decode cJ6_bitCount_0f7a4 9 = .ok (.istore_n 0, 1) := by decide +kernel
theorem dJ6_bitCount_0f7a4_10 : decode cJ6_bitCount_0f7a4 10 = .ok (.iload_n 0, 1) := by decide +kernel
theorem dJ6_bitCount_0f7a4_11 : decode cJ6_bitCount_0f7a4 11 = .ok (.ldc_w 266, 3) := by decide +kernel
theorem dJ6_bitCount_0f7a4_14 : decode cJ6_bitCount_0f7a4 14 = .ok (.iand, 1) := by decide +kernel
theorem dJ6_bitCount_0f7a4_15 : decode cJ6_bitCount_0f7a4 15 = .ok (.iload_n 0, 1) := by decide +kernel
theorem dJ6_bitCount_0f7a4_16 : decode cJ6_bitCount_0f7a4 16 = .ok (.iconst 2, 1) := by decide +kernel
theorem dJ6_bitCount_0f7a4_17 : decode cJ6_bitCount_0f7a4 17 = .ok (.iushr, 1) := by decide +kernel
theorem dJ6_bitCount_0f7a4_18 : decode cJ6_bitCount_0f7a4 18 = .ok (.ldc_w 266, 3) := by decide +kernel
theorem dJ6_bitCount_0f7a4_21 : decode cJ6_bitCount_0f7a4 21 = .ok (.iand, 1) := by decide +kernel
theorem dJ6_bitCount_0f7a4_22 : decode cJ6_bitCount_0f7a4 22 = .ok (.iadd, 1) := by decide +kernel
theorem dJ6_bitCount_0f7a4_23 : decode cJ6_bitCount_0f7a4 23 = .ok (.istore_n 0, 1) := by decide +kernel
theorem dJ6_bitCount_0f7a4_24 : decode cJ6_bitCount_0f7a4 24 = .ok (.iload_n 0, 1) := by decide +kernel
theorem dJ6_bitCount_0f7a4_25 : decode cJ6_bitCount_0f7a4 25 = .ok (.iload_n 0, 1) := by decide +kernel
theorem dJ6_bitCount_0f7a4_26 : decode cJ6_bitCount_0f7a4 26 = .ok (.iconst 4, 1) := by decide +kernel
theorem dJ6_bitCount_0f7a4_27 : decode cJ6_bitCount_0f7a4 27 = .ok (.iushr, 1) := by decide +kernel
theorem dJ6_bitCount_0f7a4_28 : decode cJ6_bitCount_0f7a4 28 = .ok (.iadd, 1) := by decide +kernel
theorem dJ6_bitCount_0f7a4_29 : decode cJ6_bitCount_0f7a4 29 = .ok (.ldc_w 267, 3) := by decide +kernel
theorem dJ6_bitCount_0f7a4_32 : decode cJ6_bitCount_0f7a4 32 = .ok (.iand, 1) := by decide +kernel
theorem dJ6_bitCount_0f7a4_33 : decode cJ6_bitCount_0f7a4 33 = .ok (.istore_n 0, 1) := by decide +kernel
theorem dJ6_bitCount_0f7a4_34 : decode cJ6_bitCount_0f7a4 34 = .ok (.iload_n 0, 1) := by decide +kernel
theorem dJ6_bitCount_0f7a4_35 : decode cJ6_bitCount_0f7a4 35 = .ok (.iload_n 0, 1) := by decide +kernel
theorem dJ6_bitCount_0f7a4_36 : decode cJ6_bitCount_0f7a4 36 = .ok (.bipush 8, 2) := by decide +kernel
theorem dJ6_bitCount_0f7a4_38 : decode cJ6_bitCount_0f7a4 38 = .ok (.iushr, 1) := by decide +kernel
theorem dJ6_bitCount_0f7a4_39 : decode cJ6_bitCount_0f7a4 39 = .ok (.iadd, 1) := by decide +kernel
theorem dJ6_bitCount_0f7a4_40 : decode cJ6_bitCount_0f7a4 40 = .ok (.istore_n 0, 1) := by decide +kernel
theorem dJ6_bitCount_0f7a4_41 : decode cJ6_bitCount_0f7a4 41 = .ok (.iload_n 0, 1) := by decide +kernel
theorem dJ6_bitCount_0f7a4_42 : decode cJ6_bitCount_0f7a4 42 = .ok (.iload_n 0, 1) := by decide +kernel
theorem dJ6_bitCount_0f7a4_43 : decode cJ6_bitCount_0f7a4 43 = .ok (.bipush 16, 2) := by decide +kernel
theorem dJ6_bitCount_0f7a4_45 : decode cJ6_bitCount_0f7a4 45 = .ok (.iushr, 1) := by decide +kernel
theorem dJ6_bitCount_0f7a4_46 : decode cJ6_bitCount_0f7a4 46 = .ok (.iadd, 1) := by decide +kernel
theorem dJ6_bitCount_0f7a4_47 : decode cJ6_bitCount_0f7a4 47 = .ok (.istore_n 0, 1) := by decide +kernel
theorem dJ6_bitCount_0f7a4_48 : decode cJ6_bitCount_0f7a4 48 = .ok (.iload_n 0, 1) := by decide +kernel
theorem dJ6_bitCount_0f7a4_49 : decode cJ6_bitCount_0f7a4 49 = .ok (.bipush 63, 2) := by decide +kernel
theorem dJ6_bitCount_0f7a4_51 : decode cJ6_bitCount_0f7a4 51 = .ok (.iand, 1) := by decide +kernel
theorem dJ6_bitCount_0f7a4_52 : decode cJ6_bitCount_0f7a4 52 = .ok (.ireturn, 1) := by decide +kernel
theorem dJ9_abs_0f7a4_0 : decode cJ9_abs_0f7a4 0 = .ok (.iload_n 0, 1) := by decide +kernel
theorem dJ9_abs_0f7a4_1 : decode cJ9_abs_0f7a4 1 = .ok (.ifCond .ge 8, 3) := by decide +kernel
theorem dJ9_abs_0f7a4_4 : decode cJ9_abs_0f7a4 4 = .ok (.iload_n 0, 1) := by decide +kernel
theorem dJ9_abs_0f7a4_5 : decode cJ9_abs_0f7a4 5 = .ok (.ineg, 1) := by decide +kernel
theorem dJ9_abs_0f7a4_6 : decode cJ9_abs_0f7a4 6 = .ok (.goto 4, 3) := by decide +kernel
theorem dJ9_abs_0f7a4_9 : decode cJ9_abs_0f7a4 9 = .ok (.iload_n 0, 1) := by decide +kernel
theorem dJ9_abs_0f7a4_10 : decode cJ9_abs_0f7a4 10 = .ok (.ireturn, 1) := by decide +kernel
theorem dJ9_max_7cf53_0 : decode cJ9_max_7cf53 0 = .ok (.iload_n 0, 1) := by decide +kernel
theorem dJ9_max_7cf53_1 : decode cJ9_max_7cf53 1 = .ok (.iload_n 1, 1) := by decide +kernel
theorem dJ9_max_7cf53_2 : decode cJ9_max_7cf53 2 = .ok (.if_icmp .lt 7, 3) := by decide +kernel
theorem dJ9_max_7cf53_5 : decode cJ9_max_7cf53 5 = .ok (.iload_n 0, 1) := by decide +kernel
theorem dJ9_max_7cf53_6 : decode cJ9_max_7cf53 6 = .ok (.goto 4, 3) := by decide +kernel
theorem dJ9_max_7cf53_9 : decode cJ9_max_7cf53 9 = .ok (.iload_n 1, 1) := by decide +kernel
theorem dJ9_max_7cf53_10 : decode cJ9_max_7cf53 10 = .ok (.ireturn, 1) := by decide +kernel
theorem dJ9_min_7cf53_0 : decode cJ9_min_7cf53 0 = .ok (.iload_n 0, 1) := by decide +kernel
theorem dJ9_min_7cf53_1 : decode cJ9_min_7cf53 1 = .ok (.iload_n 1, 1) := by decide +kernel
theorem dJ9_min_7cf53_2 : decode cJ9_min_7cf53 2 = .ok (.if_icmp .gt 7, 3) := by decide +kernel
theorem dJ9_min_7cf53_5 : decode cJ9_min_7cf53 5 = .ok (.iload_n 0, 1) := by decide +kernel
theorem dJ9_min_7cf53_6 : decode cJ9_min_7cf53 6 = .ok (.goto 4, 3) := by decide +kernel
theorem dJ9_min_7cf53_9 : decode cJ9_min_7cf53 9 = .ok (.iload_n 1, 1) := by decide +kernel
theorem dJ9_min_7cf53_10 : decode cJ9_min_7cf53 10 = .ok (.ireturn, 1) := by decide +kernel
theorem dJ0_length_8abf5_0 : decode cJ0_length_8abf5 0 = .ok (.aload_n 0, 1) := by decide +kernel
theorem dJ0_length_8abf5_1 : decode cJ0_length_8abf5 1 = .ok (.getfield 9, 3) := by decide +kernel
theorem dJ0_length_8abf5_4 : decode cJ0_length_8abf5 4 = .ok (.arraylength, 1) := by decide +kernel
theorem dJ0_length_8abf5_5 : decode cJ0_length_8abf5 5 = .ok (.aload_n 0, 1) := by decide +kernel
theorem dJ0_length_8abf5_6 : decode cJ0_length_8abf5 6 = .ok (.invokevirtual 335, 3) := by decide +kernel
theorem dJ0_length_8abf5_9 : decode cJ0_length_8abf5 9 = .ok (.ishr, 1) := by decide +kernel
theorem dJ0_length_8abf5_10 : decode cJ0_length_8abf5 10 = .ok (.ireturn, 1) := by decide +kernel
theorem dJ0_charAt_5068e_0 : decode cJ0_charAt_5068e 0 = .ok (.aload_n 0, 1) := by decide +kernel
theorem dJ0_charAt_5068e_1 : decode cJ0_charAt_5068e 1 = .ok (.invokevirtual 492, 3) := by decide +kernel
theorem dJ0_charAt_5068e_4 : decode cJ0_charAt_5068e 4 = .ok (.ifCond .eq 12, 3) := by decide +kernel
theorem dJ0_charAt_5068e_7 : decode cJ0_charAt_5068e 7 = .ok (.aload_n 0, 1) := by decide +kernel
theorem dJ0_charAt_5068e_8 : decode cJ0_charAt_5068e 8 = .ok (.getfield 9, 3) := by decide +kernel
theorem dJ0_charAt_5068e_11 : decode cJ0_charAt_5068e 11 = .ok (.iload_n 1, 1) := by decide +kernel
theorem dJ0_charAt_5068e_12 : decode cJ0_charAt_5068e 12 = .ok (.invokestatic 495, 3) := by decide +kernel
theorem dJ0_charAt_5068e_15 : decode cJ0_charAt_5068e 15 = .ok (.ireturn, 1) := by decide +kernel
theorem dJ0_charAt_5068e_16 : decode cJ0_charAt_5068e 16 = .ok (.aload_n 0, 1) := by decide +kernel
theorem dJ0_charAt_5068e_17 : decode cJ0_charAt_5068e 17 = .ok (.getfield 9, 3) := by decide +kernel
theorem dJ0_charAt_5068e_20 : decode cJ0_charAt_5068e 20 = .ok (.iload_n 1, 1) := by decide +kernel
theorem dJ0_charAt_5068e_21 : decode cJ0_charAt_5068e 21 = .ok (.invokestatic 498, 3) := by decide +kernel
theorem dJ0_charAt_5068e_24 : decode cJ0_charAt_5068e 24 = .ok (.ireturn, 1) := by decide +kernel
theorem dJ0_coder_7d493_0 : decode cJ0_coder_7d493 0 = .ok (.getstatic 38, 3) := by decide +kernel
theorem dJ0_coder_7d493_3 : decode cJ0_coder_7d493 3 = .ok (.ifCond .eq 10, 3) := by decide +kernel
theorem dJ0_coder_7d493_6 : decode cJ0_coder_7d493 6 = .ok (.aload_n 0, 1) := by decide +kernel
theorem dJ0_coder_7d493_7 : decode cJ0_coder_7d493 7 = .ok (.getfield 15, 3) := by decide +kernel
theorem dJ0_coder_7d493_10 : decode cJ0_coder_7d493 10 = .ok (.goto 4, 3) := by decide +kernel
theorem dJ0_coder_7d493_13 : decode cJ0_coder_7d493 13 = .ok (.iconst 1, 1) := by decide +kernel
theorem dJ0_coder_7d493_14 : decode cJ0_coder_7d493 14 = .ok (.ireturn, 1) := by decide +kernel
theorem dJ0_isLatin1_aae02_0 : decode cJ0_isLatin1_aae02 0 = .ok (.getstatic 38, 3) := by decide +kernel
theorem dJ0_isLatin1_aae02_3 : decode cJ0_isLatin1_aae02 3 = .ok (.ifCond .eq 14, 3) := by decide +kernel
theorem dJ0_isLatin1_aae02_6 : decode cJ0_isLatin1_aae02 6 = .ok (.aload_n 0, 1) := by decide +kernel
theorem dJ0_isLatin1_aae02_7 : decode cJ0_isLatin1_aae02 7 = .ok (.getfield 15, 3) := by decide +kernel
theorem dJ0_isLatin1_aae02_10 : decode cJ0_isLatin1_aae02 10 = .ok (.ifCond .ne 7, 3) := by decide +kernel
theorem dJ0_isLatin1_aae02_13 : decode cJ0_isLatin1_aae02 13 = .ok (.iconst 1, 1) := by decide +kernel
theorem dJ0_isLatin1_aae02_14 : decode cJ0_isLatin1_aae02 14 = .ok (.goto 4, 3) := by decide +kernel
theorem dJ0_isLatin1_aae02_17 : decode cJ0_isLatin1_aae02 17 = .ok (.iconst 0, 1) := by decide +kernel
theorem dJ0_isLatin1_aae02_18 : decode cJ0_isLatin1_aae02 18 = .ok (.ireturn, 1) := by decide +kernel
theorem dJ0_checkIndex_df160_0 : decode cJ0_checkIndex_df160 0 = .ok (.iload_n 0, 1) := by decide +kernel
theorem dJ0_checkIndex_df160_1 : decode cJ0_checkIndex_df160 1 = .ok (.iload_n 1, 1) := by decide +kernel
theorem dJ0_checkIndex_df160_2 : decode cJ0_checkIndex_df160 2 = .ok (.getstatic 1053, 3) := by decide +kernel
theorem dJ0_checkIndex_df160_5 : decode cJ0_checkIndex_df160 5 = .ok (.invokestatic 1059, 3) := by decide +kernel
theorem dJ0_checkIndex_df160_8 : decode cJ0_checkIndex_df160 8 = .ok (.pop, 1) := by decide +kernel
theorem dJ0_checkIndex_df160_9 : decode cJ0_checkIndex_df160 9 = .ok (.return_, 1) := by decide +kernel
theorem dJ1_charAt_3b067_0 : decode cJ1_charAt_3b067 0 = .ok (.iload_n 1, 1) := by decide +kernel
theorem dJ1_charAt_3b067_1 : decode cJ1_charAt_3b067 1 = .ok (.aload_n 0, 1) := by decide +kernel
theorem dJ1_charAt_3b067_2 : decode cJ1_charAt_3b067 2 = .ok (.arraylength, 1) := by decide +kernel
theorem dJ1_charAt_3b067_3 : decode cJ1_charAt_3b067 3 = .ok (.invokestatic 9, 3) := by decide +kernel
theorem dJ1_charAt_3b067_6 : decode cJ1_charAt_3b067 6 = .ok (.aload_n 0, 1) := by decide +kernel
theorem dJ1_charAt_3b067_7 : decode cJ1_charAt_3b067 7 = .ok (.iload_n 1, 1) := by decide +kernel
theorem dJ1_charAt_3b067_8 : decode cJ1_charAt_3b067 8 = .ok (.baload, 1) := by decide +kernel
theorem dJ1_charAt_3b067_9 : decode cJ1_charAt_3b067 9 = .ok (.sipush 255, 3) := by decide +kernel
theorem dJ1_charAt_3b067_12 : decode cJ1_charAt_3b067 12 = .ok (.iand, 1) := by decide +kernel
theorem dJ1_charAt_3b067_13 : decode cJ1_charAt_3b067 13 = .ok (.i2c, 1) := by decide +kernel
theorem dJ1_charAt_3b067_14 : decode cJ1_charAt_3b067 14 = .ok (.ireturn, 1) := by decide +kernel
theorem dJ2_getChar_3b067_0 : decode cJ2_getChar_3b067 0 = .ok (.getstatic 44, 3) := by decide +kernel
theorem dJ2_getChar_3b067_3 : decode cJ2_getChar_3b067 3 = .ok (.ifCond .ne 25, 3) := by decide +kernel
theorem dJ2_getChar_3b067_6 : decode cJ2_getChar_3b067 6 = .ok (.iload_n 1, 1) := by decide +kernel
theorem dJ2_getChar_3b067_7 : decode cJ2_getChar_3b067 7 = .ok (.ifCond .lt 11, 3) := by decide +kernel
theorem dJ2_getChar_3b067_10 : decode cJ2_getChar_3b067 10 = .ok (.iload_n 1, 1) := by decide +kernel
theorem dJ2_getChar_3b067_11 : decode cJ2_getChar_3b067 11 = .ok (.aload_n 0, 1) := by decide +kernel
theorem dJ2_getChar_3b067_12 : decode cJ2_getChar_3b067 12 = .ok (.invokestatic 48, 3) := by decide +kernel
theorem dJ2_getChar_3b067_15 : decode cJ2_getChar_3b067 15 = .ok (.if_icmp .lt 13, 3) := by decide +kernel
theorem dJ2_getChar_3b067_18 : decode cJ2_getChar_3b067 18 = .ok (.new 52, 3) := by decide +kernel
theorem dJ2_getChar_3b067_21 : decode cJ2_getChar_3b067 21 = .ok (.dup, 1) := by decide +kernel
theorem dJ2_getChar_3b067_22 : decode cJ2_getChar_3b067 22 = .ok (.ldc 54, 2) := by decide +kernel
theorem dJ2_getChar_3b067_24 : decode cJ2_getChar_3b067 24 = .ok (.invokespecial 56, 3) := by decide +kernel
theorem dJ2_getChar_3b067_27 : decode cJ2_getChar_3b067 27 = .ok (.athrow, 1) := by decide +kernel
theorem dJ2_getChar_3b067_28 : decode cJ2_getChar_3b067 28 = .ok (.iload_n 1, 1) := by decide +kernel
theorem dJ2_getChar_3b067_29 : decode cJ2_getChar_3b067 29 = .ok (.iconst 1, 1) := by decide +kernel
theorem dJ2_getChar_3b067_30 : decode cJ2_getChar_3b067 30 = .ok (.ishl, 1) := by decide +kernel
theorem dJ2_getChar_3b067_31 : decode cJ2_getChar_3b067 31 = .ok (.istore_n 1, 1) := by decide +kernel
theorem dJ2_getChar_3b067_32 : decode cJ2_getChar_3b067 32 = .ok (.aload_n 0, 1) := by decide +kernel
theorem dJ2_getChar_3b067_33 : decode cJ2_getChar_3b067 33 = .ok (.iload_n 1, 1) := by decide +kernel
theorem dJ2_getChar_3b067_34 : decode cJ2_getChar_3b067 34 = .ok (.iinc 1 1, 3) := by decide +kernel
theorem dJ2_getChar_3b067_37 : decode cJ2_getChar_3b067 37 = .ok (.baload, 1) := by decide +kernel
theorem dJ2_getChar_3b067_38 : decode cJ2_getChar_3b067 38 = .ok (.sipush 255, 3) := by decide +kernel
theorem dJ2_getChar_3b067_41 : decode cJ2_getChar_3b067 41 = .ok (.iand, 1) := by decide +kernel
theorem dJ2_getChar_3b067_42 : decode cJ2_getChar_3b067 42 = .ok (.getstatic 59, 3) := by decide +kernel
theorem dJ2_getChar_3b067_45 : decode cJ2_getChar_3b067 45 = .ok (.ishl, 1) := by decide +kernel
theorem dJ2_getChar_3b067_46 : decode cJ2_getChar_3b067 46 = .ok (.aload_n 0, 1) := by decide +kernel
theorem dJ2_getChar_3b067_47 : decode cJ2_getChar_3b067 47 = .ok (.iload_n 1, 1) := by decide +kernel
theorem dJ2_getChar_3b067_48 : decode cJ2_getChar_3b067 48 = .ok (.baload, 1) := by decide +kernel
theorem dJ2_getChar_3b067_49 : decode cJ2_getChar_3b067 49 = .ok (.sipush 255, 3) := by decide +kernel
theorem dJ2_getChar_3b067_52 : decode cJ2_getChar_3b067 52 = .ok (.iand, 1) := by decide +kernel
theorem dJ2_getChar_3b067_53 : decode cJ2_getChar_3b067 53 = .ok (.getstatic 63, 3) := by decide +kernel
theorem dJ2_getChar_3b067_56 : decode cJ2_getChar_3b067 56 = .ok (.ishl, 1) := by decide +kernel
theorem dJ2_getChar_3b067_57 : decode cJ2_getChar_3b067 57 = .ok (.ior, 1) := by decide +kernel
theorem dJ2_getChar_3b067_58 : decode cJ2_getChar_3b067 58 = .ok (.i2c, 1) := by decide +kernel
theorem dJ2_getChar_3b067_59 : decode cJ2_getChar_3b067 59 = .ok (.ireturn, 1) := by decide +kernel
theorem dJ2_length_9d52b_0 : decode cJ2_length_9d52b 0 = .ok (.aload_n 0, 1) := by decide +kernel
theorem dJ2_length_9d52b_1 : decode cJ2_length_9d52b 1 = .ok (.arraylength, 1) := by decide +kernel
theorem dJ2_length_9d52b_2 : decode cJ2_length_9d52b 2 = .ok (.iconst 1, 1) := by decide +kernel
theorem dJ2_length_9d52b_3 : decode cJ2_length_9d52b 3 = .ok (.ishr, 1) := by decide +kernel
theorem dJ2_length_9d52b_4 : decode cJ2_length_9d52b 4 = .ok (.ireturn, 1) := by decide +kernel
theorem dJ2_charAt_3b067_0 : decode cJ2_charAt_3b067 0 = .ok (.iload_n 1, 1) := by decide +kernel
theorem dJ2_charAt_3b067_1 : decode cJ2_charAt_3b067 1 = .ok (.aload_n 0, 1) := by decide +kernel
theorem dJ2_charAt_3b067_2 : decode cJ2_charAt_3b067 2 = .ok (.invokestatic 67, 3) := by decide +kernel
theorem dJ2_charAt_3b067_5 : decode cJ2_charAt_3b067 5 = .ok (.aload_n 0, 1) := by decide +kernel
theorem dJ2_charAt_3b067_6 : decode cJ2_charAt_3b067 6 = .ok (.iload_n 1, 1) := by decide +kernel
theorem dJ2_charAt_3b067_7 : decode cJ2_charAt_3b067 7 = .ok (.invokestatic 71, 3) := by decide +kernel
theorem dJ2_charAt_3b067_10 : decode cJ2_charAt_3b067 10 = .ok (.ireturn, 1) := by decide +kernel
theorem dJ2_checkIndex_2214a_0 : decode cJ2_checkIndex_2214a 0 = .ok (.iload_n 0, 1) := by decide +kernel
theorem dJ2_checkIndex_2214a_1 : decode cJ2_checkIndex_2214a 1 = .ok (.aload_n 1, 1) := by decide +kernel
theorem dJ2_checkIndex_2214a_2 : decode cJ2_checkIndex_2214a 2 = .ok (.invokestatic 48, 3) := by decide +kernel
theorem dJ2_checkIndex_2214a_5 : decode cJ2_checkIndex_2214a 5 = .ok (.invokestatic 414, 3) := by decide +kernel
theorem dJ2_checkIndex_2214a_8 : decode cJ2_checkIndex_2214a 8 = .ok (.return_, 1) := by decide +kernel
theorem dJ7_fill_d0a16_0 : decode cJ7_fill_d0a16 0 = .ok (.iconst 0, 1) := by decide +kernel
theorem dJ7_fill_d0a16_1 : decode cJ7_fill_d0a16 1 = .ok (.istore_n 3, 1) := by decide +kernel
theorem dJ7_fill_d0a16_2 : decode cJ7_fill_d0a16 2 = .ok (.aload_n 0, 1) := by decide +kernel
theorem dJ7_fill_d0a16_3 : decode cJ7_fill_d0a16 3 = .ok (.arraylength, 1) := by decide +kernel
theorem dJ7_fill_d0a16_4 : decode cJ7_fill_d0a16 4 = .ok (.istore 4, 2) := by decide +kernel
theorem dJ7_fill_d0a16_6 : decode cJ7_fill_d0a16 6 = .ok (.iload_n 3, 1) := by decide +kernel
theorem dJ7_fill_d0a16_7 : decode cJ7_fill_d0a16 7 = .ok (.iload 4, 2) := by decide +kernel
theorem dJ7_fill_d0a16_9 : decode cJ7_fill_d0a16 9 = .ok (.if_icmp .ge 13, 3) := by decide +kernel
theorem dJ7_fill_d0a16_12 : decode cJ7_fill_d0a16 12 = .ok (.aload_n 0, 1) := by decide +kernel
theorem dJ7_fill_d0a16_13 : decode cJ7_fill_d0a16 13 = .ok (.iload_n 3, 1) := by decide +kernel
theorem dJ7_fill_d0a16_14 : decode cJ7_fill_d0a16 14 = .ok (.lload_n 1, 1) := by decide +kernel
theorem dJ7_fill_d0a16_15 : decode cJ7_fill_d0a16 15 = .ok (.lastore, 1) := by decide +kernel
theorem dJ7_fill_d0a16_16 : decode cJ7_fill_d0a16 16 = .ok (.iinc 3 1, 3) := by decide +kernel
theorem dJ7_fill_d0a16_19 : decode cJ7_fill_d0a16 19 = .ok (.goto (-13), 3) := by decide +kernel
theorem dJ7_fill_d0a16_22 : decode cJ7_fill_d0a16 22 = .ok (.return_, 1) := by decide +kernel
theorem dJ7_fill_53178_0 : decode cJ7_fill_53178 0 = .ok (.iconst 0, 1) := by decide +kernel
theorem dJ7_fill_53178_1 : decode cJ7_fill_53178 1 = .ok (.istore_n 2, 1) := by decide +kernel
theorem dJ7_fill_53178_2 : decode cJ7_fill_53178 2 = .ok (.aload_n 0, 1) := by decide +kernel
theorem dJ7_fill_53178_3 : decode cJ7_fill_53178 3 = .ok (.arraylength, 1) := by decide +kernel
theorem dJ7_fill_53178_4 : decode cJ7_fill_53178 4 = .ok (.istore_n 3, 1) := by decide +kernel
theorem dJ7_fill_53178_5 : decode cJ7_fill_53178 5 = .ok (.iload_n 2, 1) := by decide +kernel
theorem dJ7_fill_53178_6 : decode cJ7_fill_53178 6 = .ok (.iload_n 3, 1) := by decide +kernel
theorem dJ7_fill_53178_7 : decode cJ7_fill_53178 7 = .ok (.if_icmp .ge 13, 3) := by decide +kernel
theorem dJ7_fill_53178_10 : decode cJ7_fill_53178 10 = .ok (.aload_n 0, 1) := by decide +kernel
theorem dJ7_fill_53178_11 : decode cJ7_fill_53178 11 = .ok (.iload_n 2, 1) := by decide +kernel
theorem dJ7_fill_53178_12 : decode cJ7_fill_53178 12 = .ok (.iload_n 1, 1) := by decide +kernel
theorem dJ7_fill_53178_13 : decode cJ7_fill_53178 13 = .ok (.iastore, 1) := by decide +kernel
theorem dJ7_fill_53178_14 : decode cJ7_fill_53178 14 = .ok (.iinc 2 1, 3) := by decide +kernel
theorem dJ7_fill_53178_17 : decode cJ7_fill_53178 17 = .ok (.goto (-12), 3) := by decide +kernel
theorem dJ7_fill_53178_20 : decode cJ7_fill_53178 20 = .ok (.return_, 1) := by decide +kernel
theorem dJ3_checkIndex_8e157_0 : decode cJ3_checkIndex_8e157 0 = .ok (.iload_n 0, 1) := by decide +kernel
theorem dJ3_checkIndex_8e157_1 : decode cJ3_checkIndex_8e157 1 = .ok (.ifCond .lt 8, 3) := by decide +kernel
theorem dJ3_checkIndex_8e157_4 : decode cJ3_checkIndex_8e157 4 = .ok (.iload_n 0, 1) := by decide +kernel
theorem dJ3_checkIndex_8e157_5 : decode cJ3_checkIndex_8e157 5 = .ok (.iload_n 1, 1) := by decide +kernel
theorem dJ3_checkIndex_8e157_6 : decode cJ3_checkIndex_8e157 6 = .ok (.if_icmp .lt 10, 3) := by decide +kernel
theorem dJ3_checkIndex_8e157_9 : decode cJ3_checkIndex_8e157 9 = .ok (.aload_n 2, 1) := by decide +kernel
theorem dJ3_checkIndex_8e157_10 : decode cJ3_checkIndex_8e157 10 = .ok (.iload_n 0, 1) := by decide +kernel
theorem dJ3_checkIndex_8e157_11 : decode cJ3_checkIndex_8e157 11 = .ok (.iload_n 1, 1) := by decide +kernel
theorem dJ3_checkIndex_8e157_12 : decode cJ3_checkIndex_8e157 12 = .ok (.invokestatic 95, 3) := by decide +kernel
theorem dJ3_checkIndex_8e157_15 : decode cJ3_checkIndex_8e157 15 = .ok (.athrow, 1) := by decide +kernel
theorem dJ3_checkIndex_8e157_16 : decode cJ3_checkIndex_8e157 16 = .ok (.iload_n 0, 1) := by decide +kernel
theorem dJ3_checkIndex_8e157_17 : decode cJ3_checkIndex_8e157 17 = .ok (.ireturn, 1) := by decide +kernel
