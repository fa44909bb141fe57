theorem dX8_sheet_0 : decode cX8_sheet 0 = .ok (.iload_n 1, 1) := by decide +kernel
theorem dX8_sheet_1 : decode cX8_sheet 1 = .ok (.invokestatic 155, 3) := by decide +kernel
theorem dX8_sheet_4 : decode cX8_sheet 4 = .ok (.ifCond .eq 9, 3) := by decide +kernel
theorem dX8_sheet_7 : decode cX8_sheet 7 = .ok (.iload_n 2, 1) := by decide +kernel
theorem dX8_sheet_8 : decode cX8_sheet 8 = .ok (.bipush 60, 2) := by decide +kernel
theorem dX8_sheet_10 : decode cX8_sheet 10 = .ok (.if_icmp .le 6, 3) := by decide +kernel
theorem dX8_sheet_13 : decode cX8_sheet 13 = .ok (.ldc 71, 2) := by decide +kernel
theorem dX8_sheet_15 : decode cX8_sheet 15 = .ok (.ireturn, 1) := by decide +kernel
theorem dX8_sheet_16 : decode cX8_sheet 16 = .ok (.iload_n 2, 1) := by decide +kernel
theorem dX8_sheet_17 : decode cX8_sheet 17 = .ok (.ifCond .ge 6, 3) := by decide +kernel
theorem dX8_sheet_20 : decode cX8_sheet 20 = .ok (.ldc 181, 2) := by decide +kernel
theorem dX8_sheet_22 : decode cX8_sheet 22 = .ok (.ireturn, 1) := by decide +kernel
theorem dX8_sheet_23 : decode cX8_sheet 23 = .ok (.aload_n 0, 1) := by decide +kernel
theorem dX8_sheet_24 : decode cX8_sheet 24 = .ok (.getfield 41, 3) := by decide +kernel
theorem dX8_sheet_27 : decode cX8_sheet 27 = .ok (.iload_n 1, 1) := by decide +kernel
theorem dX8_sheet_28 : decode cX8_sheet 28 = .ok (.iload_n 2, 1) := by decide +kernel
theorem dX8_sheet_29 : decode cX8_sheet 29 = .ok (.iastore, 1) := by decide +kernel
theorem dX8_sheet_30 : decode cX8_sheet 30 = .ok (.iconst 0, 1) := by decide +kernel
theorem dX8_sheet_31 : decode cX8_sheet 31 = .ok (.istore_n 3, 1) := by decide +kernel
theorem dX8_sheet_32 : decode cX8_sheet 32 = .ok (.iload_n 3, 1) := by decide +kernel
theorem dX8_sheet_33 : decode cX8_sheet 33 = .ok (.iload_n 2, 1) := by decide +kernel
theorem dX8_sheet_34 : decode cX8_sheet 34 = .ok (.if_icmp .ge 21, 3) := by decide +kernel
theorem dX8_sheet_37 : decode cX8_sheet 37 = .ok (.aload_n 0, 1) := by decide +kernel
theorem dX8_sheet_38 : decode cX8_sheet 38 = .ok (.getfield 44, 3) := by decide +kernel
theorem dX8_sheet_41 : decode cX8_sheet 41 = .ok (.bipush 60, 2) := by decide +kernel
theorem dX8_sheet_43 : decode cX8_sheet 43 = .ok (.iload_n 1, 1) := by decide +kernel
theorem dX8_sheet_44 : decode cX8_sheet 44 = .ok (.imul, 1) := by decide +kernel
theorem dX8_sheet_45 : decode cX8_sheet 45 = .ok (.iload_n 3, 1) := by decide +kernel
theorem dX8_sheet_46 : decode cX8_sheet 46 = .ok (.iadd, 1) := by decide +kernel
theorem dX8_sheet_47 : decode cX8_sheet 47 = .ok (.iconst 0, 1) := by decide +kernel
theorem dX8_sheet_48 : decode cX8_sheet 48 = .ok (.iastore, 1) := by decide +kernel
theorem dX8_sheet_49 : decode cX8_sheet 49 = .ok (.iinc 3 1, 3) := by decide +kernel
theorem dX8_sheet_52 : decode cX8_sheet 52 = .ok (.goto (-20), 3) := by decide +kernel
theorem dX8_sheet_55 : decode cX8_sheet 55 = .ok (.iload_n 2, 1) := by decide +kernel
theorem dX8_sheet_56 : decode cX8_sheet 56 = .ok (.ireturn, 1) := by decide +kernel
theorem dX8_mark_0 : decode cX8_mark 0 = .ok (.iload_n 1, 1) := by decide +kernel
theorem dX8_mark_1 : decode cX8_mark 1 = .ok (.invokestatic 155, 3) := by decide +kernel
theorem dX8_mark_4 : decode cX8_mark 4 = .ok (.ifCond .ne 6, 3) := by decide +kernel
theorem dX8_mark_7 : decode cX8_mark 7 = .ok (.ldc 71, 2) := by decide +kernel
theorem dX8_mark_9 : decode cX8_mark 9 = .ok (.ireturn, 1) := by decide +kernel
theorem dX8_mark_10 : decode cX8_mark 10 = .ok (.aload_n 0, 1) := by decide +kernel
theorem dX8_mark_11 : decode cX8_mark 11 = .ok (.getfield 41, 3) := by decide +kernel
theorem dX8_mark_14 : decode cX8_mark 14 = .ok (.iload_n 1, 1) := by decide +kernel
theorem dX8_mark_15 : decode cX8_mark 15 = .ok (.iaload, 1) := by decide +kernel
theorem dX8_mark_16 : decode cX8_mark 16 = .ok (.ifCond .ge 6, 3) := by decide +kernel
theorem dX8_mark_19 : decode cX8_mark 19 = .ok (.ldc 158, 2) := by decide +kernel
theorem dX8_mark_21 : decode cX8_mark 21 = .ok (.ireturn, 1) := by decide +kernel
theorem dX8_mark_22 : decode cX8_mark 22 = .ok (.iload_n 2, 1) := by decide +kernel
theorem dX8_mark_23 : decode cX8_mark 23 = .ok (.iconst 0, 1) := by decide +kernel
theorem dX8_mark_24 : decode cX8_mark 24 = .ok (.aload_n 0, 1) := by decide +kernel
theorem dX8_mark_25 : decode cX8_mark 25 = .ok (.getfield 41, 3) := by decide +kernel
theorem dX8_mark_28 : decode cX8_mark 28 = .ok (.iload_n 1, 1) := by decide +kernel
theorem dX8_mark_29 : decode cX8_mark 29 = .ok (.iaload, 1) := by decide +kernel
theorem dX8_mark_30 : decode cX8_mark 30 = .ok (.iconst 1, 1) := by decide +kernel
theorem dX8_mark_31 : decode cX8_mark 31 = .ok (.isub, 1) := by decide +kernel
theorem dX8_mark_32 : decode cX8_mark 32 = .ok (.invokestatic 63, 3) := by decide +kernel
theorem dX8_mark_35 : decode cX8_mark 35 = .ok (.ifCond .ne 6, 3) := by decide +kernel
theorem dX8_mark_38 : decode cX8_mark 38 = .ok (.ldc 182, 2) := by decide +kernel
theorem dX8_mark_40 : decode cX8_mark 40 = .ok (.ireturn, 1) := by decide +kernel
theorem dX8_mark_41 : decode cX8_mark 41 = .ok (.aload_n 0, 1) := by decide +kernel
theorem dX8_mark_42 : decode cX8_mark 42 = .ok (.getfield 44, 3) := by decide +kernel
theorem dX8_mark_45 : decode cX8_mark 45 = .ok (.bipush 60, 2) := by decide +kernel
theorem dX8_mark_47 : decode cX8_mark 47 = .ok (.iload_n 1, 1) := by decide +kernel
theorem dX8_mark_48 : decode cX8_mark 48 = .ok (.imul, 1) := by decide +kernel
theorem dX8_mark_49 : decode cX8_mark 49 = .ok (.iload_n 2, 1) := by decide +kernel
theorem dX8_mark_50 : decode cX8_mark 50 = .ok (.iadd, 1) := by decide +kernel
theorem dX8_mark_51 : decode cX8_mark 51 = .ok (.iaload, 1) := by decide +kernel
theorem dX8_mark_52 : decode cX8_mark 52 = .ok (.istore 4, 2) := by decide +kernel
theorem dX8_mark_54 : decode cX8_mark 54 = .ok (.aload_n 0, 1) := by decide +kernel
theorem dX8_mark_55 : decode cX8_mark 55 = .ok (.getfield 44, 3) := by decide +kernel
theorem dX8_mark_58 : decode cX8_mark 58 = .ok (.bipush 60, 2) := by decide +kernel
theorem dX8_mark_60 : decode cX8_mark 60 = .ok (.iload_n 1, 1) := by decide +kernel
theorem dX8_mark_61 : decode cX8_mark 61 = .ok (.imul, 1) := by decide +kernel
theorem dX8_mark_62 : decode cX8_mark 62 = .ok (.iload_n 2, 1) := by decide +kernel
theorem dX8_mark_63 : decode cX8_mark 63 = .ok (.iadd, 1) := by decide +kernel
theorem dX8_mark_64 : decode cX8_mark 64 = .ok (.iload_n 3, 1) := by decide +kernel
theorem dX8_mark_65 : decode cX8_mark 65 = .ok (.i2b, 1) := by decide +kernel
theorem dX8_mark_66 : decode cX8_mark 66 = .ok (.iastore, 1) := by decide +kernel
theorem dX8_mark_67 : decode cX8_mark 67 = .ok (.iload 4, 2) := by decide +kernel
theorem dX8_mark_69 : decode cX8_mark 69 = .ok (.ireturn, 1) := by decide +kernel
theorem dX8_copy_0 : decode cX8_copy 0 = .ok (.iload_n 1, 1) := by decide +kernel
theorem dX8_copy_1 : decode cX8_copy 1 = .ok (.invokestatic 103, 3) := by decide +kernel
theorem dX8_copy_4 : decode cX8_copy 4 = .ok (.ifCond .eq 10, 3) := by decide +kernel
theorem dX8_copy_7 : decode cX8_copy 7 = .ok (.iload_n 3, 1) := by decide +kernel
theorem dX8_copy_8 : decode cX8_copy 8 = .ok (.invokestatic 155, 3) := by decide +kernel
theorem dX8_copy_11 : decode cX8_copy 11 = .ok (.ifCond .ne 6, 3) := by decide +kernel
theorem dX8_copy_14 : decode cX8_copy 14 = .ok (.ldc 71, 2) := by decide +kernel
theorem dX8_copy_16 : decode cX8_copy 16 = .ok (.ireturn, 1) := by decide +kernel
theorem dX8_copy_17 : decode cX8_copy 17 = .ok (.aload_n 0, 1) := by decide +kernel
theorem dX8_copy_18 : decode cX8_copy 18 = .ok (.getfield 41, 3) := by decide +kernel
theorem dX8_copy_21 : decode cX8_copy 21 = .ok (.iload_n 3, 1) := by decide +kernel
theorem dX8_copy_22 : decode cX8_copy 22 = .ok (.iaload, 1) := by decide +kernel
theorem dX8_copy_23 : decode cX8_copy 23 = .ok (.ifCond .ge 6, 3) := by decide +kernel
theorem dX8_copy_26 : decode cX8_copy 26 = .ok (.ldc 158, 2) := by decide +kernel
theorem dX8_copy_28 : decode cX8_copy 28 = .ok (.ireturn, 1) := by decide +kernel
theorem dX8_copy_29 : decode cX8_copy 29 = .ok (.iload_n 2, 1) := by decide +kernel
theorem dX8_copy_30 : decode cX8_copy 30 = .ok (.ifCond .lt 48, 3) := by decide +kernel
theorem dX8_copy_33 : decode cX8_copy 33 = .ok (.iload 4, 2) := by decide +kernel
theorem dX8_copy_35 : decode cX8_copy 35 = .ok (.ifCond .lt 43, 3) := by decide +kernel
theorem dX8_copy_38 : decode cX8_copy 38 = .ok (.iload 5, 2) := by decide +kernel
theorem dX8_copy_40 : decode cX8_copy 40 = .ok (.ifCond .lt 38, 3) := by decide +kernel
theorem dX8_copy_43 : decode cX8_copy 43 = .ok (.iload_n 2, 1) := by decide +kernel
theorem dX8_copy_44 : decode cX8_copy 44 = .ok (.i2l, 1) := by decide +kernel
theorem dX8_copy_45 : decode cX8_copy 45 = .ok (.iload 5, 2) := by decide +kernel
theorem dX8_copy_47 : decode cX8_copy 47 = .ok (.i2l, 1) := by decide +kernel
theorem dX8_copy_48 : decode cX8_copy 48 = .ok (.ladd, 1) := by decide +kernel
theorem dX8_copy_49 : decode cX8_copy 49 = .ok (.aload_n 0, 1) := by decide +kernel
theorem dX8_copy_50 : decode cX8_copy 50 = .ok (.getfield 19, 3) := by decide +kernel
theorem dX8_copy_53 : decode cX8_copy 53 = .ok (.iload_n 1, 1) := by decide +kernel
theorem dX8_copy_54 : decode cX8_copy 54 = .ok (.iaload, 1) := by decide +kernel
theorem dX8_copy_55 : decode cX8_copy 55 = .ok (.i2l, 1) := by decide +kernel
theorem dX8_copy_56 : decode cX8_copy 56 = .ok (.lcmp, 1) := by decide +kernel
theorem dX8_copy_57 : decode cX8_copy 57 = .ok (.ifCond .gt 21, 3) := by decide +kernel
theorem dX8_copy_60 : decode cX8_copy 60 = .ok (.iload 4, 2) := by decide +kernel
theorem dX8_copy_62 : decode cX8_copy 62 = .ok (.i2l, 1) := by decide +kernel
theorem dX8_copy_63 : decode cX8_copy 63 = .ok (.iload 5, 2) := by decide +kernel
theorem dX8_copy_65 : decode cX8_copy 65 = .ok (.i2l, 1) := by decide +kernel
theorem dX8_copy_66 : decode cX8_copy 66 = .ok (.ladd, 1) := by decide +kernel
theorem dX8_copy_67 : decode cX8_copy 67 = .ok (.aload_n 0, 1) := by decide +kernel
theorem dX8_copy_68 : decode cX8_copy 68 = .ok (.getfield 41, 3) := by decide +kernel
theorem dX8_copy_71 : decode cX8_copy 71 = .ok (.iload_n 3, 1) := by decide +kernel
theorem dX8_copy_72 : decode cX8_copy 72 = .ok (.iaload, 1) := by decide +kernel
theorem dX8_copy_73 : decode cX8_copy 73 = .ok (.i2l, 1) := by decide +kernel
theorem dX8_copy_74 : decode cX8_copy 74 = .ok (.lcmp, 1) := by decide +kernel
theorem dX8_copy_75 : decode cX8_copy 75 = .ok (.ifCond .le 6, 3) := by decide +kernel
theorem dX8_copy_78 : decode cX8_copy 78 = .ok (.ldc 182, 2) := by decide +kernel
theorem dX8_copy_80 : decode cX8_copy 80 = .ok (.ireturn, 1) := by decide +kernel
theorem dX8_copy_81 : decode cX8_copy 81 = .ok (.iconst 0, 1) := by decide +kernel
theorem dX8_copy_82 : decode cX8_copy 82 = .ok (.istore 6, 2) := by decide +kernel
theorem dX8_copy_84 : decode cX8_copy 84 = .ok (.iload 6, 2) := by decide +kernel
theorem dX8_copy_86 : decode cX8_copy 86 = .ok (.iload 5, 2) := by decide +kernel
theorem dX8_copy_88 : decode cX8_copy 88 = .ok (.if_icmp .ge 38, 3) := by decide +kernel
theorem dX8_copy_91 : decode cX8_copy 91 = .ok (.aload_n 0, 1) := by decide +kernel
theorem dX8_copy_92 : decode cX8_copy 92 = .ok (.getfield 44, 3) := by decide +kernel
theorem dX8_copy_95 : decode cX8_copy 95 = .ok (.bipush 60, 2) := by decide +kernel
theorem dX8_copy_97 : decode cX8_copy 97 = .ok (.iload_n 3, 1) := by decide +kernel
theorem dX8_copy_98 : decode cX8_copy 98 = .ok (.imul, 1) := by decide +kernel
theorem dX8_copy_99 : decode cX8_copy 99 = .ok (.iload 4, 2) := by decide +kernel
theorem dX8_copy_101 : decode cX8_copy 101 = .ok (.iadd, 1) := by decide +kernel
theorem dX8_copy_102 : decode cX8_copy 102 = .ok (.iload 6, 2) := by decide +kernel
theorem dX8_copy_104 : decode cX8_copy 104 = .ok (.iadd, 1) := by decide +kernel
theorem dX8_copy_105 : decode cX8_copy 105 = .ok (.aload_n 0, 1) := by decide +kernel
theorem dX8_copy_106 : decode cX8_copy 106 = .ok (.getfield 22, 3) := by decide +kernel
theorem dX8_copy_109 : decode cX8_copy 109 = .ok (.bipush 60, 2) := by decide +kernel
theorem dX8_copy_111 : decode cX8_copy 111 = .ok (.iload_n 1, 1) := by decide +kernel
theorem dX8_copy_112 : decode cX8_copy 112 = .ok (.imul, 1) := by decide +kernel
theorem dX8_copy_113 : decode cX8_copy 113 = .ok (.iload_n 2, 1) := by decide +kernel
theorem dX8_copy_114 : decode cX8_copy 114 = .ok (.iadd, 1) := by decide +kernel
theorem dX8_copy_115 : decode cX8_copy 115 = .ok (.iload 6, 2) := by decide +kernel
theorem dX8_copy_117 : decode cX8_copy 117 = .ok (.iadd, 1) := by decide +kernel
theorem dX8_copy_118 : decode cX8_copy 118 = .ok (.iaload, 1) := by decide +kernel
theorem dX8_copy_119 : decode cX8_copy 119 = .ok (.iastore, 1) := by decide +kernel
theorem dX8_copy_120 : decode cX8_copy 120 = .ok (.iinc 6 1, 3) := by decide +kernel
theorem dX8_copy_123 : decode cX8_copy 123 = .ok (.goto (-39), 3) := by decide +kernel
theorem dX8_copy_126 : decode cX8_copy 126 = .ok (.iload 5, 2) := by decide +kernel
theorem dX8_copy_128 : decode cX8_copy 128 = .ok (.ireturn, 1) := by decide +kernel
theorem dX8_count_0 : decode cX8_count 0 = .ok (.iconst 0, 1) := by decide +kernel
theorem dX8_count_1 : decode cX8_count 1 = .ok (.istore_n 2, 1) := by decide +kernel
theorem dX8_count_2 : decode cX8_count 2 = .ok (.iload_n 1, 1) := by decide +kernel
theorem dX8_count_3 : decode cX8_count 3 = .ok (.tableswitch 159 0 5 #[37, 61, 94, 119, 124, 129], 37) := by decide +kernel
theorem dX8_count_40 : decode cX8_count 40 = .ok (.iconst 0, 1) := by decide +kernel
theorem dX8_count_41 : decode cX8_count 41 = .ok (.istore_n 3, 1) := by decide +kernel
theorem dX8_count_42 : decode cX8_count 42 = .ok (.iload_n 3, 1) := by decide +kernel
theorem dX8_count_43 : decode cX8_count 43 = .ok (.iconst 4, 1) := by decide +kernel
theorem dX8_count_44 : decode cX8_count 44 = .ok (.if_icmp .ge 18, 3) := by decide +kernel
theorem dX8_count_47 : decode cX8_count 47 = .ok (.iload_n 2, 1) := by decide +kernel
theorem dX8_count_48 : decode cX8_count 48 = .ok (.aload_n 0, 1) := by decide +kernel
theorem dX8_count_49 : decode cX8_count 49 = .ok (.getfield 7, 3) := by decide +kernel
theorem dX8_count_52 : decode cX8_count 52 = .ok (.iload_n 3, 1) := by decide +kernel
theorem dX8_count_53 : decode cX8_count 53 = .ok (.iaload, 1) := by decide +kernel
theorem dX8_count_54 : decode cX8_count 54 = .ok (.iadd, 1) := by decide +kernel
theorem dX8_count_55 : decode cX8_count 55 = .ok (.istore_n 2, 1) := by decide +kernel
theorem dX8_count_56 : decode cX8_count 56 = .ok (.iinc 3 1, 3) := by decide +kernel
theorem dX8_count_59 : decode cX8_count 59 = .ok (.goto (-17), 3) := by decide +kernel
theorem dX8_count_62 : decode cX8_count 62 = .ok (.iload_n 2, 1) := by decide +kernel
theorem dX8_count_63 : decode cX8_count 63 = .ok (.ireturn, 1) := by decide +kernel
theorem dX8_count_64 : decode cX8_count 64 = .ok (.iconst 0, 1) := by decide +kernel
theorem dX8_count_65 : decode cX8_count 65 = .ok (.istore_n 3, 1) := by decide +kernel
theorem dX8_count_66 : decode cX8_count 66 = .ok (.iload_n 3, 1) := by decide +kernel
theorem dX8_count_67 : decode cX8_count 67 = .ok (.bipush 6, 2) := by decide +kernel
theorem dX8_count_69 : decode cX8_count 69 = .ok (.if_icmp .ge 26, 3) := by decide +kernel
theorem dX8_count_72 : decode cX8_count 72 = .ok (.iload_n 2, 1) := by decide +kernel
theorem dX8_count_73 : decode cX8_count 73 = .ok (.aload_n 0, 1) := by decide +kernel
theorem dX8_count_74 : decode cX8_count 74 = .ok (.getfield 19, 3) := by decide +kernel
theorem dX8_count_77 : decode cX8_count 77 = .ok (.iload_n 3, 1) := by decide +kernel
theorem dX8_count_78 : decode cX8_count 78 = .ok (.iaload, 1) := by decide +kernel
theorem dX8_count_79 : decode cX8_count 79 = .ok (.ifCond .le 7, 3) := by decide +kernel
theorem dX8_count_82 : decode cX8_count 82 = .ok (.iconst 1, 1) := by decide +kernel
theorem dX8_count_83 : decode cX8_count 83 = .ok (.goto 4, 3) := by decide +kernel
theorem dX8_count_86 : decode cX8_count 86 = .ok (.iconst 0, 1) := by decide +kernel
theorem dX8_count_87 : decode cX8_count 87 = .ok (.iadd, 1) := by decide +kernel
theorem dX8_count_88 : decode cX8_count 88 = .ok (.istore_n 2, 1) := by decide +kernel
theorem dX8_count_89 : decode cX8_count 89 = .ok (.iinc 3 1, 3) := by decide +kernel
theorem dX8_count_92 : decode cX8_count 92 = .ok (.goto (-26), 3) := by decide +kernel
theorem dX8_count_95 : decode cX8_count 95 = .ok (.iload_n 2, 1) := by decide +kernel
theorem dX8_count_96 : decode cX8_count 96 = .ok (.ireturn, 1) := by decide +kernel
theorem dX8_count_97 : decode cX8_count 97 = .ok (.iconst 0, 1) := by decide +kernel
theorem dX8_count_98 : decode cX8_count 98 = .ok (.istore_n 3, 1) := by decide +kernel
theorem dX8_count_99 : decode cX8_count 99 = .ok (.iload_n 3, 1) := by decide +kernel
theorem dX8_count_100 : decode cX8_count 100 = .ok (.bipush 6, 2) := by decide +kernel
theorem dX8_count_102 : decode cX8_count 102 = .ok (.if_icmp .ge 18, 3) := by decide +kernel
theorem dX8_count_105 : decode cX8_count 105 = .ok (.iload_n 2, 1) := by decide +kernel
theorem dX8_count_106 : decode cX8_count 106 = .ok (.aload_n 0, 1) := by decide +kernel
theorem dX8_count_107 : decode cX8_count 107 = .ok (.getfield 19, 3) := by decide +kernel
theorem dX8_count_110 : decode cX8_count 110 = .ok (.iload_n 3, 1) := by decide +kernel
theorem dX8_count_111 : decode cX8_count 111 = .ok (.iaload, 1) := by decide +kernel
theorem dX8_count_112 : decode cX8_count 112 = .ok (.iadd, 1) := by decide +kernel
theorem dX8_count_113 : decode cX8_count 113 = .ok (.istore_n 2, 1) := by decide +kernel
theorem dX8_count_114 : decode cX8_count 114 = .ok (.iinc 3 1, 3) := by decide +kernel
theorem dX8_count_117 : decode cX8_count 117 = .ok (.goto (-18), 3) := by decide +kernel
theorem dX8_count_120 : decode cX8_count 120 = .ok (.iload_n 2, 1) := by decide +kernel
theorem dX8_count_121 : decode cX8_count 121 = .ok (.ireturn, 1) := by decide +kernel
theorem dX8_count_122 : decode cX8_count 122 = .ok (.aload_n 0, 1) := by decide +kernel
theorem dX8_count_123 : decode cX8_count 123 = .ok (.getfield 175, 3) := by decide +kernel
theorem dX8_count_126 : decode cX8_count 126 = .ok (.ireturn, 1) := by decide +kernel
theorem dX8_count_127 : decode cX8_count 127 = .ok (.aload_n 0, 1) := by decide +kernel
theorem dX8_count_128 : decode cX8_count 128 = .ok (.getfield 78, 3) := by decide +kernel
theorem dX8_count_131 : decode cX8_count 131 = .ok (.ireturn, 1) := by decide +kernel
theorem dX8_count_132 : decode cX8_count 132 = .ok (.aload_n 0, 1) := by decide +kernel
theorem dX8_count_133 : decode cX8_count 133 = .ok (.getfield 41, 3) := by decide +kernel
theorem dX8_count_136 : decode cX8_count 136 = .ok (.iconst 0, 1) := by decide +kernel
theorem dX8_count_137 : decode cX8_count 137 = .ok (.iaload, 1) := by decide +kernel
theorem dX8_count_138 : decode cX8_count 138 = .ok (.ifCond .ge 7, 3) := by decide +kernel
theorem dX8_count_141 : decode cX8_count 141 = .ok (.iconst 0, 1) := by decide +kernel
theorem dX8_count_142 : decode cX8_count 142 = .ok (.goto 4, 3) := by decide +kernel
theorem dX8_count_145 : decode cX8_count 145 = .ok (.iconst 1, 1) := by decide +kernel
theorem dX8_count_146 : decode cX8_count 146 = .ok (.aload_n 0, 1) := by decide +kernel
theorem dX8_count_147 : decode cX8_count 147 = .ok (.getfield 41, 3) := by decide +kernel
theorem dX8_count_150 : decode cX8_count 150 = .ok (.iconst 1, 1) := by decide +kernel
theorem dX8_count_151 : decode cX8_count 151 = .ok (.iaload, 1) := by decide +kernel
theorem dX8_count_152 : decode cX8_count 152 = .ok (.ifCond .ge 7, 3) := by decide +kernel
theorem dX8_count_155 : decode cX8_count 155 = .ok (.iconst 0, 1) := by decide +kernel
theorem dX8_count_156 : decode cX8_count 156 = .ok (.goto 4, 3) := by decide +kernel
theorem dX8_count_159 : decode cX8_count 159 = .ok (.iconst 1, 1) := by decide +kernel
theorem dX8_count_160 : decode cX8_count 160 = .ok (.iadd, 1) := by decide +kernel
theorem dX8_count_161 : decode cX8_count 161 = .ok (.ireturn, 1) := by decide +kernel
theorem dX8_count_162 : decode cX8_count 162 = .ok (.ldc 71, 2) := by decide +kernel
theorem dX8_count_164 : decode cX8_count 164 = .ok (.ireturn, 1) := by decide +kernel
theorem dJ9_floorMod_7cf53_0 : decode cJ9_floorMod_7cf53 0 = .ok (.iload_n 0, 1) := by decide +kernel
theorem dJ9_floorMod_7cf53_1 : decode cJ9_floorMod_7cf53 1 = .ok (.iload_n 1, 1) := by decide +kernel
theorem dJ9_floorMod_7cf53_2 : decode cJ9_floorMod_7cf53 2 = .ok (.irem, 1) := by decide +kernel
theorem dJ9_floorMod_7cf53_3 : decode cJ9_floorMod_7cf53 3 = .ok (.istore_n 2, 1) := by decide +kernel
theorem dJ9_floorMod_7cf53_4 : decode cJ9_floorMod_7cf53 4 = .ok (.iload_n 0, 1) := by decide +kernel
theorem dJ9_floorMod_7cf53_5 : decode cJ9_floorMod_7cf53 5 = .ok (.iload_n 1, 1) := by decide +kernel
theorem dJ9_floorMod_7cf53_6 : decode cJ9_floorMod_7cf53 6 = .ok (.ixor, 1) := by decide +kernel
theorem dJ9_floorMod_7cf53_7 : decode cJ9_floorMod_7cf53 7 = .ok (.ifCond .ge 11, 3) := by decide +kernel
theorem dJ9_floorMod_7cf53_10 : decode cJ9_floorMod_7cf53 10 = .ok (.iload_n 2, 1) := by decide +kernel
theorem dJ9_floorMod_7cf53_11 : decode cJ9_floorMod_7cf53 11 = .ok (.ifCond .eq 7, 3) := by decide +kernel
theorem dJ9_floorMod_7cf53_14 : decode cJ9_floorMod_7cf53 14 = .ok (.iload_n 2, 1) := by decide +kernel
theorem dJ9_floorMod_7cf53_15 : decode cJ9_floorMod_7cf53 15 = .ok (.iload_n 1, 1) := by decide +kernel
theorem dJ9_floorMod_7cf53_16 : decode cJ9_floorMod_7cf53 16 = .ok (.iadd, 1) := by decide +kernel
theorem dJ9_floorMod_7cf53_17 : decode cJ9_floorMod_7cf53 17 = .ok (.ireturn, 1) := by decide +kernel
theorem dJ9_floorMod_7cf53_18 : decode cJ9_floorMod_7cf53 18 = .ok (.iload_n 2, 1) := by decide +kernel
theorem dJ9_floorMod_7cf53_19 : decode cJ9_floorMod_7cf53 19 = .ok (.ireturn, 1) := by decide +kernel
theorem dJ9_max_7cf53_0 : decode cJ9_max_7cf53 0 = .ok (.iload_n 0, 1) := by decide +kernel
theorem dJ9_max_7cf53_1 : decode cJ9_max_7cf53 1 = .ok (.iload_n 1, 1) := by decide +kernel
theorem dJ9_max_7cf53_2 : decode cJ9_max_7cf53 2 = .ok (.if_icmp .lt 7, 3) := by decide +kernel
theorem dJ9_max_7cf53_5 : decode cJ9_max_7cf53 5 = .ok (.iload_n 0, 1) := by decide +kernel
theorem dJ9_max_7cf53_6 : decode cJ9_max_7cf53 6 = .ok (.goto 4, 3) := by decide +kernel
theorem dJ9_max_7cf53_9 : decode cJ9_max_7cf53 9 = .ok (.iload_n 1, 1) := by decide +kernel
theorem dJ9_max_7cf53_10 : decode cJ9_max_7cf53 10 = .ok (.ireturn, 1) := by decide +kernel
theorem dJ9_min_7cf53_0 : decode cJ9_min_7cf53 0 = .ok (.iload_n 0, 1) := by decide +kernel
theorem dJ9_min_7cf53_1 : decode cJ9_min_7cf53 1 = .ok (.iload_n 1, 1) := by decide +kernel
theorem dJ9_min_7cf53_2 : decode cJ9_min_7cf53 2 = .ok (.if_icmp .gt 7, 3) := by decide +kernel
theorem dJ9_min_7cf53_5 : decode cJ9_min_7cf53 5 = .ok (.iload_n 0, 1) := by decide +kernel
theorem dJ9_min_7cf53_6 : decode cJ9_min_7cf53 6 = .ok (.goto 4, 3) := by decide +kernel
theorem dJ9_min_7cf53_9 : decode cJ9_min_7cf53 9 = .ok (.iload_n 1, 1) := by decide +kernel
theorem dJ9_min_7cf53_10 : decode cJ9_min_7cf53 10 = .ok (.ireturn, 1) := by decide +kernel
theorem dJ9_min_f86c9_0 : decode cJ9_min_f86c9 0 = .ok (.lload_n 0, 1) := by decide +kernel
theorem dJ9_min_f86c9_1 : decode cJ9_min_f86c9 1 = .ok (.lload_n 2, 1) := by decide +kernel
theorem dJ9_min_f86c9_2 : decode cJ9_min_f86c9 2 = .ok (.lcmp, 1) := by decide +kernel
theorem dJ9_min_f86c9_3 : decode cJ9_min_f86c9 3 = .ok (.ifCond .gt 7, 3) := by decide +kernel
theorem dJ9_min_f86c9_6 : decode cJ9_min_f86c9 6 = .ok (.lload_n 0, 1) := by decide +kernel
theorem dJ9_min_f86c9_7 : decode cJ9_min_f86c9 7 = .ok (.goto 4, 3) := by decide +kernel
theorem dJ9_min_f86c9_10 : decode cJ9_min_f86c9 10 = .ok (.lload_n 2, 1) := by decide +kernel
theorem dJ9_min_f86c9_11 : decode cJ9_min_f86c9 11 = .ok (.lreturn, 1) := by decide +kernel
