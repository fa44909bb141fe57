theorem dX5_write_0 : decode cX5_write 0 = .ok (.bipush 24, 2) := by decide +kernel
theorem dX5_write_2 : decode cX5_write 2 = .ok (.istore_n 2, 1) := by decide +kernel
theorem dX5_write_3 : decode cX5_write 3 = .ok (.iload_n 2, 1) := by decide +kernel
theorem dX5_write_4 : decode cX5_write 4 = .ok (.ifCond .lt 41, 3) := by decide +kernel
theorem dX5_write_7 : decode cX5_write 7 = .ok (.aload_n 0, 1) := by decide +kernel
theorem dX5_write_8 : decode cX5_write 8 = .ok (.getfield 15, 3) := by decide +kernel
theorem dX5_write_11 : decode cX5_write 11 = .ok (.bipush 60, 2) := by decide +kernel
theorem dX5_write_13 : decode cX5_write 13 = .ok (.if_icmp .ge 26, 3) := by decide +kernel
theorem dX5_write_16 : decode cX5_write 16 = .ok (.aload_n 0, 1) := by decide +kernel
theorem dX5_write_17 : decode cX5_write 17 = .ok (.getfield 11, 3) := by decide +kernel
theorem dX5_write_20 : decode cX5_write 20 = .ok (.aload_n 0, 1) := by decide +kernel
theorem dX5_write_21 : decode cX5_write 21 = .ok (.getfield 15, 3) := by decide +kernel
theorem dX5_write_24 : decode cX5_write 24 = .ok (.iload_n 1, 1) := by decide +kernel
theorem dX5_write_25 : decode cX5_write 25 = .ok (.iload_n 2, 1) := by decide +kernel
theorem dX5_write_26 : decode cX5_write 26 = .ok (.ishr, 1) := by decide +kernel
theorem dX5_write_27 : decode cX5_write 27 = .ok (.i2b, 1) := by decide +kernel
theorem dX5_write_28 : decode cX5_write 28 = .ok (.bastore, 1) := by decide +kernel
theorem dX5_write_29 : decode cX5_write 29 = .ok (.aload_n 0, 1) := by decide +kernel
theorem dX5_write_30 : decode cX5_write 30 = .ok (.dup, 1) := by decide +kernel
theorem dX5_write_31 : decode cX5_write 31 = .ok (.getfield 15, 3) := by decide +kernel
theorem dX5_write_34 : decode cX5_write 34 = .ok (.iconst 1, 1) := by decide +kernel
theorem dX5_write_35 : decode cX5_write 35 = .ok (.iadd, 1) := by decide +kernel
theorem dX5_write_36 : decode cX5_write 36 = .ok (.putfield 15, 3) := by decide +kernel
theorem dX5_write_39 : decode cX5_write 39 = .ok (.iinc 2 (-8), 3) := by decide +kernel
theorem dX5_write_42 : decode cX5_write 42 = .ok (.goto (-39), 3) := by decide +kernel
theorem dX5_write_45 : decode cX5_write 45 = .ok (.return_, 1) := by decide +kernel
theorem dX5_readInto_0 : decode cX5_readInto 0 = .ok (.aload_n 0, 1) := by decide +kernel
theorem dX5_readInto_1 : decode cX5_readInto 1 = .ok (.invokevirtual 31, 3) := by decide +kernel
theorem dX5_readInto_4 : decode cX5_readInto 4 = .ok (.istore_n 2, 1) := by decide +kernel
theorem dX5_readInto_5 : decode cX5_readInto 5 = .ok (.iload_n 2, 1) := by decide +kernel
theorem dX5_readInto_6 : decode cX5_readInto 6 = .ok (.ifCond .lt 8, 3) := by decide +kernel
theorem dX5_readInto_9 : decode cX5_readInto 9 = .ok (.bipush (-100), 2) := by decide +kernel
theorem dX5_readInto_11 : decode cX5_readInto 11 = .ok (.iload_n 2, 1) := by decide +kernel
theorem dX5_readInto_12 : decode cX5_readInto 12 = .ok (.isub, 1) := by decide +kernel
theorem dX5_readInto_13 : decode cX5_readInto 13 = .ok (.ireturn, 1) := by decide +kernel
theorem dX5_readInto_14 : decode cX5_readInto 14 = .ok (.aload_n 0, 1) := by decide +kernel
theorem dX5_readInto_15 : decode cX5_readInto 15 = .ok (.invokevirtual 35, 3) := by decide +kernel
theorem dX5_readInto_18 : decode cX5_readInto 18 = .ok (.istore_n 3, 1) := by decide +kernel
theorem dX5_readInto_19 : decode cX5_readInto 19 = .ok (.iload_n 3, 1) := by decide +kernel
theorem dX5_readInto_20 : decode cX5_readInto 20 = .ok (.ifCond .ge 6, 3) := by decide +kernel
theorem dX5_readInto_23 : decode cX5_readInto 23 = .ok (.ldc 38, 2) := by decide +kernel
theorem dX5_readInto_25 : decode cX5_readInto 25 = .ok (.ireturn, 1) := by decide +kernel
theorem dX5_readInto_26 : decode cX5_readInto 26 = .ok (.aload_n 0, 1) := by decide +kernel
theorem dX5_readInto_27 : decode cX5_readInto 27 = .ok (.getfield 21, 3) := by decide +kernel
theorem dX5_readInto_30 : decode cX5_readInto 30 = .ok (.iconst 0, 1) := by decide +kernel
theorem dX5_readInto_31 : decode cX5_readInto 31 = .ok (.aload_n 1, 1) := by decide +kernel
theorem dX5_readInto_32 : decode cX5_readInto 32 = .ok (.getfield 39, 3) := by decide +kernel
theorem dX5_readInto_35 : decode cX5_readInto 35 = .ok (.iconst 0, 1) := by decide +kernel
theorem dX5_readInto_36 : decode cX5_readInto 36 = .ok (.iload_n 3, 1) := by decide +kernel
theorem dX5_readInto_37 : decode cX5_readInto 37 = .ok (.invokestatic 42, 3) := by decide +kernel
theorem dX5_readInto_40 : decode cX5_readInto 40 = .ok (.aload_n 1, 1) := by decide +kernel
theorem dX5_readInto_41 : decode cX5_readInto 41 = .ok (.iload_n 3, 1) := by decide +kernel
theorem dX5_readInto_42 : decode cX5_readInto 42 = .ok (.putfield 48, 3) := by decide +kernel
theorem dX5_readInto_45 : decode cX5_readInto 45 = .ok (.iload_n 3, 1) := by decide +kernel
theorem dX5_readInto_46 : decode cX5_readInto 46 = .ok (.ireturn, 1) := by decide +kernel
theorem dX5_faultPlace_0 : decode cX5_faultPlace 0 = .ok (.iconst 0, 1) := by decide +kernel
theorem dX5_faultPlace_1 : decode cX5_faultPlace 1 = .ok (.istore_n 1, 1) := by decide +kernel
theorem dX5_faultPlace_2 : decode cX5_faultPlace 2 = .ok (.iconst 1, 1) := by decide +kernel
theorem dX5_faultPlace_3 : decode cX5_faultPlace 3 = .ok (.istore_n 2, 1) := by decide +kernel
theorem dX5_faultPlace_4 : decode cX5_faultPlace 4 = .ok (.iconst 0, 1) := by decide +kernel
theorem dX5_faultPlace_5 : decode cX5_faultPlace 5 = .ok (.istore_n 3, 1) := by decide +kernel
theorem dX5_faultPlace_6 : decode cX5_faultPlace 6 = .ok (.iload_n 3, 1) := by decide +kernel
theorem dX5_faultPlace_7 : decode cX5_faultPlace 7 = .ok (.aload_n 0, 1) := by decide +kernel
theorem dX5_faultPlace_8 : decode cX5_faultPlace 8 = .ok (.getfield 15, 3) := by decide +kernel
theorem dX5_faultPlace_11 : decode cX5_faultPlace 11 = .ok (.if_icmp .ge 91, 3) := by decide +kernel
theorem dX5_faultPlace_14 : decode cX5_faultPlace 14 = .ok (.aload_n 0, 1) := by decide +kernel
theorem dX5_faultPlace_15 : decode cX5_faultPlace 15 = .ok (.getfield 11, 3) := by decide +kernel
theorem dX5_faultPlace_18 : decode cX5_faultPlace 18 = .ok (.iload_n 3, 1) := by decide +kernel
theorem dX5_faultPlace_19 : decode cX5_faultPlace 19 = .ok (.baload, 1) := by decide +kernel
theorem dX5_faultPlace_20 : decode cX5_faultPlace 20 = .ok (.istore 4, 2) := by decide +kernel
theorem dX5_faultPlace_22 : decode cX5_faultPlace 22 = .ok (.iload 4, 2) := by decide +kernel
theorem dX5_faultPlace_24 : decode cX5_faultPlace 24 = .ok (.bipush 40, 2) := by decide +kernel
theorem dX5_faultPlace_26 : decode cX5_faultPlace 26 = .ok (.if_icmp .ne 19, 3) := by decide +kernel
theorem dX5_faultPlace_29 : decode cX5_faultPlace 29 = .ok (.iload_n 1, 1) := by decide +kernel
theorem dX5_faultPlace_30 : decode cX5_faultPlace 30 = .ok (.bipush 6, 2) := by decide +kernel
theorem dX5_faultPlace_32 : decode cX5_faultPlace 32 = .ok (.if_icmp .lt 5, 3) := by decide +kernel
theorem dX5_faultPlace_35 : decode cX5_faultPlace 35 = .ok (.iload_n 3, 1) := by decide +kernel
theorem dX5_faultPlace_36 : decode cX5_faultPlace 36 = .ok (.ireturn, 1) := by decide +kernel
theorem dX5_faultPlace_37 : decode cX5_faultPlace 37 = .ok (.iinc 1 1, 3) := by decide +kernel
theorem dX5_faultPlace_40 : decode cX5_faultPlace 40 = .ok (.iconst 1, 1) := by decide +kernel
theorem dX5_faultPlace_41 : decode cX5_faultPlace 41 = .ok (.istore_n 2, 1) := by decide +kernel
theorem dX5_faultPlace_42 : decode cX5_faultPlace 42 = .ok (.goto 54, 3) := by decide +kernel
theorem dX5_faultPlace_45 : decode cX5_faultPlace 45 = .ok (.iload 4, 2) := by decide +kernel
theorem dX5_faultPlace_47 : decode cX5_faultPlace 47 = .ok (.bipush 41, 2) := by decide +kernel
theorem dX5_faultPlace_49 : decode cX5_faultPlace 49 = .ok (.if_icmp .ne 19, 3) := by decide +kernel
theorem dX5_faultPlace_52 : decode cX5_faultPlace 52 = .ok (.iload_n 2, 1) := by decide +kernel
theorem dX5_faultPlace_53 : decode cX5_faultPlace 53 = .ok (.ifCond .ne 7, 3) := by decide +kernel
theorem dX5_faultPlace_56 : decode cX5_faultPlace 56 = .ok (.iload_n 1, 1) := by decide +kernel
theorem dX5_faultPlace_57 : decode cX5_faultPlace 57 = .ok (.ifCond .ne 5, 3) := by decide +kernel
theorem dX5_faultPlace_60 : decode cX5_faultPlace 60 = .ok (.iload_n 3, 1) := by decide +kernel
theorem dX5_faultPlace_61 : decode cX5_faultPlace 61 = .ok (.ireturn, 1) := by decide +kernel
theorem dX5_faultPlace_62 : decode cX5_faultPlace 62 = .ok (.iinc 1 (-1), 3) := by decide +kernel
theorem dX5_faultPlace_65 : decode cX5_faultPlace 65 = .ok (.goto 31, 3) := by decide +kernel
theorem dX5_faultPlace_68 : decode cX5_faultPlace 68 = .ok (.iload 4, 2) := by decide +kernel
theorem dX5_faultPlace_70 : decode cX5_faultPlace 70 = .ok (.invokestatic 49, 3) := by decide +kernel
theorem dX5_faultPlace_73 : decode cX5_faultPlace 73 = .ok (.ifCond .eq 8, 3) := by decide +kernel
theorem dX5_faultPlace_76 : decode cX5_faultPlace 76 = .ok (.iconst 1, 1) := by decide +kernel
theorem dX5_faultPlace_77 : decode cX5_faultPlace 77 = .ok (.istore_n 2, 1) := by decide +kernel
theorem dX5_faultPlace_78 : decode cX5_faultPlace 78 = .ok (.goto 18, 3) := by decide +kernel
theorem dX5_faultPlace_81 : decode cX5_faultPlace 81 = .ok (.iload 4, 2) := by decide +kernel
theorem dX5_faultPlace_83 : decode cX5_faultPlace 83 = .ok (.invokestatic 53, 3) := by decide +kernel
theorem dX5_faultPlace_86 : decode cX5_faultPlace 86 = .ok (.ifCond .lt 8, 3) := by decide +kernel
theorem dX5_faultPlace_89 : decode cX5_faultPlace 89 = .ok (.iconst 0, 1) := by decide +kernel
theorem dX5_faultPlace_90 : decode cX5_faultPlace 90 = .ok (.istore_n 2, 1) := by decide +kernel
theorem dX5_faultPlace_91 : decode cX5_faultPlace 91 = .ok (.goto 5, 3) := by decide +kernel
theorem dX5_faultPlace_94 : decode cX5_faultPlace 94 = .ok (.iload_n 3, 1) := by decide +kernel
theorem dX5_faultPlace_95 : decode cX5_faultPlace 95 = .ok (.ireturn, 1) := by decide +kernel
theorem dX5_faultPlace_96 : decode cX5_faultPlace 96 = .ok (.iinc 3 1, 3) := by decide +kernel
theorem dX5_faultPlace_99 : decode cX5_faultPlace 99 = .ok (.goto (-93), 3) := by decide +kernel
theorem dX5_faultPlace_102 : decode cX5_faultPlace 102 = .ok (.iload_n 2, 1) := by decide +kernel
theorem dX5_faultPlace_103 : decode cX5_faultPlace 103 = .ok (.ifCond .ne 7, 3) := by decide +kernel
theorem dX5_faultPlace_106 : decode cX5_faultPlace 106 = .ok (.iload_n 1, 1) := by decide +kernel
theorem dX5_faultPlace_107 : decode cX5_faultPlace 107 = .ok (.ifCond .le 10, 3) := by decide +kernel
theorem dX5_faultPlace_110 : decode cX5_faultPlace 110 = .ok (.aload_n 0, 1) := by decide +kernel
theorem dX5_faultPlace_111 : decode cX5_faultPlace 111 = .ok (.getfield 15, 3) := by decide +kernel
theorem dX5_faultPlace_114 : decode cX5_faultPlace 114 = .ok (.goto 4, 3) := by decide +kernel
theorem dX5_faultPlace_117 : decode cX5_faultPlace 117 = .ok (.iconst (-1), 1) := by decide +kernel
theorem dX5_faultPlace_118 : decode cX5_faultPlace 118 = .ok (.ireturn, 1) := by decide +kernel
theorem dX5_speak_0 : decode cX5_speak 0 = .ok (.iconst 0, 1) := by decide +kernel
theorem dX5_speak_1 : decode cX5_speak 1 = .ok (.istore_n 1, 1) := by decide +kernel
theorem dX5_speak_2 : decode cX5_speak 2 = .ok (.iconst 1, 1) := by decide +kernel
theorem dX5_speak_3 : decode cX5_speak 3 = .ok (.istore_n 2, 1) := by decide +kernel
theorem dX5_speak_4 : decode cX5_speak 4 = .ok (.iconst 0, 1) := by decide +kernel
theorem dX5_speak_5 : decode cX5_speak 5 = .ok (.istore_n 3, 1) := by decide +kernel
theorem dX5_speak_6 : decode cX5_speak 6 = .ok (.iconst 0, 1) := by decide +kernel
theorem dX5_speak_7 : decode cX5_speak 7 = .ok (.istore 4, 2) := by decide +kernel
theorem dX5_speak_9 : decode cX5_speak 9 = .ok (.iload 4, 2) := by decide +kernel
theorem dX5_speak_11 : decode cX5_speak 11 = .ok (.aload_n 0, 1) := by decide +kernel
theorem dX5_speak_12 : decode cX5_speak 12 = .ok (.getfield 15, 3) := by decide +kernel
theorem dX5_speak_15 : decode cX5_speak 15 = .ok (.if_icmp .ge 156, 3) := by decide +kernel
theorem dX5_speak_18 : decode cX5_speak 18 = .ok (.aload_n 0, 1) := by decide +kernel
theorem dX5_speak_19 : decode cX5_speak 19 = .ok (.getfield 11, 3) := by decide +kernel
theorem dX5_speak_22 : decode cX5_speak 22 = .ok (.iload 4, 2) := by decide +kernel
theorem dX5_speak_24 : decode cX5_speak 24 = .ok (.baload, 1) := by decide +kernel
theorem dX5_speak_25 : decode cX5_speak 25 = .ok (.istore 5, 2) := by decide +kernel
theorem dX5_speak_27 : decode cX5_speak 27 = .ok (.iload 5, 2) := by decide +kernel
theorem dX5_speak_29 : decode cX5_speak 29 = .ok (.invokestatic 49, 3) := by decide +kernel
theorem dX5_speak_32 : decode cX5_speak 32 = .ok (.ifCond .eq 19, 3) := by decide +kernel
theorem dX5_speak_35 : decode cX5_speak 35 = .ok (.iload_n 2, 1) := by decide +kernel
theorem dX5_speak_36 : decode cX5_speak 36 = .ok (.iload 5, 2) := by decide +kernel
theorem dX5_speak_38 : decode cX5_speak 38 = .ok (.bipush 48, 2) := by decide +kernel
theorem dX5_speak_40 : decode cX5_speak 40 = .ok (.isub, 1) := by decide +kernel
theorem dX5_speak_41 : decode cX5_speak 41 = .ok (.imul, 1) := by decide +kernel
theorem dX5_speak_42 : decode cX5_speak 42 = .ok (.bipush 61, 2) := by decide +kernel
theorem dX5_speak_44 : decode cX5_speak 44 = .ok (.invokestatic 57, 3) := by decide +kernel
theorem dX5_speak_47 : decode cX5_speak 47 = .ok (.istore_n 2, 1) := by decide +kernel
theorem dX5_speak_48 : decode cX5_speak 48 = .ok (.goto 111, 3) := by decide +kernel
theorem dX5_speak_51 : decode cX5_speak 51 = .ok (.iload 5, 2) := by decide +kernel
theorem dX5_speak_53 : decode cX5_speak 53 = .ok (.bipush 40, 2) := by decide +kernel
theorem dX5_speak_55 : decode cX5_speak 55 = .ok (.if_icmp .ne 31, 3) := by decide +kernel
theorem dX5_speak_58 : decode cX5_speak 58 = .ok (.iload_n 3, 1) := by decide +kernel
theorem dX5_speak_59 : decode cX5_speak 59 = .ok (.bipush 6, 2) := by decide +kernel
theorem dX5_speak_61 : decode cX5_speak 61 = .ok (.if_icmp .ge 25, 3) := by decide +kernel
theorem dX5_speak_64 : decode cX5_speak 64 = .ok (.aload_n 0, 1) := by decide +kernel
theorem dX5_speak_65 : decode cX5_speak 65 = .ok (.getfield 24, 3) := by decide +kernel
theorem dX5_speak_68 : decode cX5_speak 68 = .ok (.iload_n 3, 1) := by decide +kernel
theorem dX5_speak_69 : decode cX5_speak 69 = .ok (.iload_n 1, 1) := by decide +kernel
theorem dX5_speak_70 : decode cX5_speak 70 = .ok (.iastore, 1) := by decide +kernel
theorem dX5_speak_71 : decode cX5_speak 71 = .ok (.aload_n 0, 1) := by decide +kernel
theorem dX5_speak_72 : decode cX5_speak 72 = .ok (.getfield 28, 3) := by decide +kernel
theorem dX5_speak_75 : decode cX5_speak 75 = .ok (.iload_n 3, 1) := by decide +kernel
theorem dX5_speak_76 : decode cX5_speak 76 = .ok (.iload_n 2, 1) := by decide +kernel
theorem dX5_speak_77 : decode cX5_speak 77 = .ok (.iastore, 1) := by decide +kernel
theorem dX5_speak_78 : decode cX5_speak 78 = .ok (.iinc 3 1, 3) := by decide +kernel
theorem dX5_speak_81 : decode cX5_speak 81 = .ok (.iconst 1, 1) := by decide +kernel
theorem dX5_speak_82 : decode cX5_speak 82 = .ok (.istore_n 2, 1) := by decide +kernel
theorem dX5_speak_83 : decode cX5_speak 83 = .ok (.goto 76, 3) := by decide +kernel
theorem dX5_speak_86 : decode cX5_speak 86 = .ok (.iload 5, 2) := by decide +kernel
theorem dX5_speak_88 : decode cX5_speak 88 = .ok (.bipush 41, 2) := by decide +kernel
theorem dX5_speak_90 : decode cX5_speak 90 = .ok (.if_icmp .ne 31, 3) := by decide +kernel
theorem dX5_speak_93 : decode cX5_speak 93 = .ok (.iload_n 3, 1) := by decide +kernel
theorem dX5_speak_94 : decode cX5_speak 94 = .ok (.ifCond .le 27, 3) := by decide +kernel
theorem dX5_speak_97 : decode cX5_speak 97 = .ok (.iinc 3 (-1), 3) := by decide +kernel
theorem dX5_speak_100 : decode cX5_speak 100 = .ok (.aload_n 0, 1) := by decide +kernel
theorem dX5_speak_101 : decode cX5_speak 101 = .ok (.aload_n 0, 1) := by decide +kernel
theorem dX5_speak_102 : decode cX5_speak 102 = .ok (.getfield 24, 3) := by decide +kernel
theorem dX5_speak_105 : decode cX5_speak 105 = .ok (.iload_n 3, 1) := by decide +kernel
theorem dX5_speak_106 : decode cX5_speak 106 = .ok (.iaload, 1) := by decide +kernel
theorem dX5_speak_107 : decode cX5_speak 107 = .ok (.iload_n 1, 1) := by decide +kernel
theorem dX5_speak_108 : decode cX5_speak 108 = .ok (.aload_n 0, 1) := by decide +kernel
theorem dX5_speak_109 : decode cX5_speak 109 = .ok (.getfield 28, 3) := by decide +kernel
theorem dX5_speak_112 : decode cX5_speak 112 = .ok (.iload_n 3, 1) := by decide +kernel
theorem dX5_speak_113 : decode cX5_speak 113 = .ok (.iaload, 1) := by decide +kernel
theorem dX5_speak_114 : decode cX5_speak 114 = .ok (.invokevirtual 63, 3) := by decide +kernel
theorem dX5_speak_117 : decode cX5_speak 117 = .ok (.istore_n 1, 1) := by decide +kernel
theorem dX5_speak_118 : decode cX5_speak 118 = .ok (.goto 41, 3) := by decide +kernel
theorem dX5_speak_121 : decode cX5_speak 121 = .ok (.iload_n 1, 1) := by decide +kernel
theorem dX5_speak_122 : decode cX5_speak 122 = .ok (.aload_n 0, 1) := by decide +kernel
theorem dX5_speak_123 : decode cX5_speak 123 = .ok (.getfield 21, 3) := by decide +kernel
theorem dX5_speak_126 : decode cX5_speak 126 = .ok (.arraylength, 1) := by decide +kernel
theorem dX5_speak_127 : decode cX5_speak 127 = .ok (.if_icmp .ge 30, 3) := by decide +kernel
theorem dX5_speak_130 : decode cX5_speak 130 = .ok (.aload_n 0, 1) := by decide +kernel
theorem dX5_speak_131 : decode cX5_speak 131 = .ok (.getfield 21, 3) := by decide +kernel
theorem dX5_speak_134 : decode cX5_speak 134 = .ok (.iload_n 1, 1) := by decide +kernel
theorem dX5_speak_135 : decode cX5_speak 135 = .ok (.iload 5, 2) := by decide +kernel
theorem dX5_speak_137 : decode cX5_speak 137 = .ok (.invokestatic 53, 3) := by decide +kernel
theorem dX5_speak_140 : decode cX5_speak 140 = .ok (.i2b, 1) := by decide +kernel
theorem dX5_speak_141 : decode cX5_speak 141 = .ok (.bastore, 1) := by decide +kernel
theorem dX5_speak_142 : decode cX5_speak 142 = .ok (.aload_n 0, 1) := by decide +kernel
theorem dX5_speak_143 : decode cX5_speak 143 = .ok (.iload_n 1, 1) := by decide +kernel
theorem dX5_speak_144 : decode cX5_speak 144 = .ok (.iload_n 1, 1) := by decide +kernel
theorem dX5_speak_145 : decode cX5_speak 145 = .ok (.iconst 1, 1) := by decide +kernel
theorem dX5_speak_146 : decode cX5_speak 146 = .ok (.iadd, 1) := by decide +kernel
theorem dX5_speak_147 : decode cX5_speak 147 = .ok (.iload_n 2, 1) := by decide +kernel
theorem dX5_speak_148 : decode cX5_speak 148 = .ok (.invokevirtual 63, 3) := by decide +kernel
theorem dX5_speak_151 : decode cX5_speak 151 = .ok (.istore_n 1, 1) := by decide +kernel
theorem dX5_speak_152 : decode cX5_speak 152 = .ok (.iconst 1, 1) := by decide +kernel
theorem dX5_speak_153 : decode cX5_speak 153 = .ok (.istore_n 2, 1) := by decide +kernel
theorem dX5_speak_154 : decode cX5_speak 154 = .ok (.goto 5, 3) := by decide +kernel
theorem dX5_speak_157 : decode cX5_speak 157 = .ok (.iconst (-1), 1) := by decide +kernel
theorem dX5_speak_158 : decode cX5_speak 158 = .ok (.ireturn, 1) := by decide +kernel
theorem dX5_speak_159 : decode cX5_speak 159 = .ok (.iload_n 1, 1) := by decide +kernel
theorem dX5_speak_160 : decode cX5_speak 160 = .ok (.ifCond .ge 5, 3) := by decide +kernel
theorem dX5_speak_163 : decode cX5_speak 163 = .ok (.iconst (-1), 1) := by decide +kernel
theorem dX5_speak_164 : decode cX5_speak 164 = .ok (.ireturn, 1) := by decide +kernel
theorem dX5_speak_165 : decode cX5_speak 165 = .ok (.iinc 4 1, 3) := by decide +kernel
theorem dX5_speak_168 : decode cX5_speak 168 = .ok (.goto (-159), 3) := by decide +kernel
theorem dX5_speak_171 : decode cX5_speak 171 = .ok (.iload_n 1, 1) := by decide +kernel
theorem dX5_speak_172 : decode cX5_speak 172 = .ok (.ireturn, 1) := by decide +kernel
theorem dX5_sayAgain_0 : decode cX5_sayAgain 0 = .ok (.iload_n 2, 1) := by decide +kernel
theorem dX5_sayAgain_1 : decode cX5_sayAgain 1 = .ok (.iload_n 1, 1) := by decide +kernel
theorem dX5_sayAgain_2 : decode cX5_sayAgain 2 = .ok (.isub, 1) := by decide +kernel
theorem dX5_sayAgain_3 : decode cX5_sayAgain 3 = .ok (.istore 4, 2) := by decide +kernel
theorem dX5_sayAgain_5 : decode cX5_sayAgain 5 = .ok (.iload_n 1, 1) := by decide +kernel
theorem dX5_sayAgain_6 : decode cX5_sayAgain 6 = .ok (.iload 4, 2) := by decide +kernel
theorem dX5_sayAgain_8 : decode cX5_sayAgain 8 = .ok (.iload_n 3, 1) := by decide +kernel
theorem dX5_sayAgain_9 : decode cX5_sayAgain 9 = .ok (.imul, 1) := by decide +kernel
theorem dX5_sayAgain_10 : decode cX5_sayAgain 10 = .ok (.iadd, 1) := by decide +kernel
theorem dX5_sayAgain_11 : decode cX5_sayAgain 11 = .ok (.istore 5, 2) := by decide +kernel
theorem dX5_sayAgain_13 : decode cX5_sayAgain 13 = .ok (.iload_n 1, 1) := by decide +kernel
theorem dX5_sayAgain_14 : decode cX5_sayAgain 14 = .ok (.ifCond .lt 18, 3) := by decide +kernel
theorem dX5_sayAgain_17 : decode cX5_sayAgain 17 = .ok (.iload 4, 2) := by decide +kernel
theorem dX5_sayAgain_19 : decode cX5_sayAgain 19 = .ok (.ifCond .le 13, 3) := by decide +kernel
theorem dX5_sayAgain_22 : decode cX5_sayAgain 22 = .ok (.iload 5, 2) := by decide +kernel
theorem dX5_sayAgain_24 : decode cX5_sayAgain 24 = .ok (.aload_n 0, 1) := by decide +kernel
theorem dX5_sayAgain_25 : decode cX5_sayAgain 25 = .ok (.getfield 21, 3) := by decide +kernel
theorem dX5_sayAgain_28 : decode cX5_sayAgain 28 = .ok (.arraylength, 1) := by decide +kernel
theorem dX5_sayAgain_29 : decode cX5_sayAgain 29 = .ok (.if_icmp .le 5, 3) := by decide +kernel
theorem dX5_sayAgain_32 : decode cX5_sayAgain 32 = .ok (.iconst (-1), 1) := by decide +kernel
theorem dX5_sayAgain_33 : decode cX5_sayAgain 33 = .ok (.ireturn, 1) := by decide +kernel
theorem dX5_sayAgain_34 : decode cX5_sayAgain 34 = .ok (.iload_n 2, 1) := by decide +kernel
theorem dX5_sayAgain_35 : decode cX5_sayAgain 35 = .ok (.istore 6, 2) := by decide +kernel
theorem dX5_sayAgain_37 : decode cX5_sayAgain 37 = .ok (.iload 6, 2) := by decide +kernel
theorem dX5_sayAgain_39 : decode cX5_sayAgain 39 = .ok (.iload 5, 2) := by decide +kernel
theorem dX5_sayAgain_41 : decode cX5_sayAgain 41 = .ok (.if_icmp .ge 26, 3) := by decide +kernel
theorem dX5_sayAgain_44 : decode cX5_sayAgain 44 = .ok (.aload_n 0, 1) := by decide +kernel
theorem dX5_sayAgain_45 : decode cX5_sayAgain 45 = .ok (.getfield 21, 3) := by decide +kernel
theorem dX5_sayAgain_48 : decode cX5_sayAgain 48 = .ok (.iload 6, 2) := by decide +kernel
theorem dX5_sayAgain_50 : decode cX5_sayAgain 50 = .ok (.aload_n 0, 1) := by decide +kernel
theorem dX5_sayAgain_51 : decode cX5_sayAgain 51 = .ok (.getfield 21, 3) := by decide +kernel
theorem dX5_sayAgain_54 : decode cX5_sayAgain 54 = .ok (.iload 6, 2) := by decide +kernel
theorem dX5_sayAgain_56 : decode cX5_sayAgain 56 = .ok (.iload 4, 2) := by decide +kernel
theorem dX5_sayAgain_58 : decode cX5_sayAgain 58 = .ok (.isub, 1) := by decide +kernel
theorem dX5_sayAgain_59 : decode cX5_sayAgain 59 = .ok (.baload, 1) := by decide +kernel
theorem dX5_sayAgain_60 : decode cX5_sayAgain 60 = .ok (.bastore, 1) := by decide +kernel
theorem dX5_sayAgain_61 : decode cX5_sayAgain 61 = .ok (.iinc 6 1, 3) := by decide +kernel
theorem dX5_sayAgain_64 : decode cX5_sayAgain 64 = .ok (.goto (-27), 3) := by decide +kernel
theorem dX5_sayAgain_67 : decode cX5_sayAgain 67 = .ok (.iload 5, 2) := by decide +kernel
theorem dX5_sayAgain_69 : decode cX5_sayAgain 69 = .ok (.ireturn, 1) := by decide +kernel
theorem dX5_isTimes_0 : decode cX5_isTimes 0 = .ok (.iload_n 0, 1) := by decide +kernel
theorem dX5_isTimes_1 : decode cX5_isTimes 1 = .ok (.bipush 50, 2) := by decide +kernel
theorem dX5_isTimes_3 : decode cX5_isTimes 3 = .ok (.if_icmp .lt 13, 3) := by decide +kernel
theorem dX5_isTimes_6 : decode cX5_isTimes 6 = .ok (.iload_n 0, 1) := by decide +kernel
theorem dX5_isTimes_7 : decode cX5_isTimes 7 = .ok (.bipush 57, 2) := by decide +kernel
theorem dX5_isTimes_9 : decode cX5_isTimes 9 = .ok (.if_icmp .gt 7, 3) := by decide +kernel
theorem dX5_isTimes_12 : decode cX5_isTimes 12 = .ok (.iconst 1, 1) := by decide +kernel
theorem dX5_isTimes_13 : decode cX5_isTimes 13 = .ok (.goto 4, 3) := by decide +kernel
theorem dX5_isTimes_16 : decode cX5_isTimes 16 = .ok (.iconst 0, 1) := by decide +kernel
theorem dX5_isTimes_17 : decode cX5_isTimes 17 = .ok (.ireturn, 1) := by decide +kernel
theorem dX5_syllableOf_0 : decode cX5_syllableOf 0 = .ok (.iload_n 0, 1) := by decide +kernel
theorem dX5_syllableOf_1 : decode cX5_syllableOf 1 = .ok (.bipush 45, 2) := by decide +kernel
theorem dX5_syllableOf_3 : decode cX5_syllableOf 3 = .ok (.if_icmp .ne 6, 3) := by decide +kernel
theorem dX5_syllableOf_6 : decode cX5_syllableOf 6 = .ok (.bipush 8, 2) := by decide +kernel
theorem dX5_syllableOf_8 : decode cX5_syllableOf 8 = .ok (.ireturn, 1) := by decide +kernel
theorem dX5_syllableOf_9 : decode cX5_syllableOf 9 = .ok (.iload_n 0, 1) := by decide +kernel
theorem dX5_syllableOf_10 : decode cX5_syllableOf 10 = .ok (.bipush 97, 2) := by decide +kernel
theorem dX5_syllableOf_12 : decode cX5_syllableOf 12 = .ok (.if_icmp .lt 16, 3) := by decide +kernel
theorem dX5_syllableOf_15 : decode cX5_syllableOf 15 = .ok (.iload_n 0, 1) := by decide +kernel
theorem dX5_syllableOf_16 : decode cX5_syllableOf 16 = .ok (.bipush 104, 2) := by decide +kernel
theorem dX5_syllableOf_18 : decode cX5_syllableOf 18 = .ok (.if_icmp .gt 10, 3) := by decide +kernel
theorem dX5_syllableOf_21 : decode cX5_syllableOf 21 = .ok (.iload_n 0, 1) := by decide +kernel
theorem dX5_syllableOf_22 : decode cX5_syllableOf 22 = .ok (.bipush 97, 2) := by decide +kernel
theorem dX5_syllableOf_24 : decode cX5_syllableOf 24 = .ok (.isub, 1) := by decide +kernel
theorem dX5_syllableOf_25 : decode cX5_syllableOf 25 = .ok (.goto 4, 3) := by decide +kernel
theorem dX5_syllableOf_28 : decode cX5_syllableOf 28 = .ok (.iconst (-1), 1) := by decide +kernel
theorem dX5_syllableOf_29 : decode cX5_syllableOf 29 = .ok (.ireturn, 1) := by decide +kernel
theorem dX6_init_0 : decode cX6_init 0 = .ok (.aload_n 0, 1) := by decide +kernel
theorem dX6_init_1 : decode cX6_init 1 = .ok (.invokespecial 3, 3) := by decide +kernel
theorem dX6_init_4 : decode cX6_init 4 = .ok (.aload_n 0, 1) := by decide +kernel
theorem dX6_init_5 : decode cX6_init 5 = .ok (.bipush 61, 2) := by decide +kernel
theorem dX6_init_7 : decode cX6_init 7 = .ok (.newarray .int, 2) := by decide +kernel
theorem dX6_init_9 : decode cX6_init 9 = .ok (.putfield 11, 3) := by decide +kernel
theorem dX6_init_12 : decode cX6_init 12 = .ok (.aload_n 0, 1) := by decide +kernel
theorem dX6_init_13 : decode cX6_init 13 = .ok (.bipush 62, 2) := by decide +kernel
theorem dX6_init_15 : decode cX6_init 15 = .ok (.newarray .long, 2) := by decide +kernel
theorem dX6_init_17 : decode cX6_init 17 = .ok (.putfield 19, 3) := by decide +kernel
theorem dX6_init_20 : decode cX6_init 20 = .ok (.return_, 1) := by decide +kernel
theorem dX6_allWays_0 : decode cX6_allWays 0 = .ok (.aload_n 2, 1) := by decide +kernel
theorem dX6_allWays_1 : decode cX6_allWays 1 = .ok (.getfield 23, 3) := by decide +kernel
theorem dX6_allWays_4 : decode cX6_allWays 4 = .ok (.istore_n 3, 1) := by decide +kernel
theorem dX6_allWays_5 : decode cX6_allWays 5 = .ok (.iload_n 3, 1) := by decide +kernel
theorem dX6_allWays_6 : decode cX6_allWays 6 = .ok (.ifCond .le 9, 3) := by decide +kernel
theorem dX6_allWays_9 : decode cX6_allWays 9 = .ok (.iload_n 3, 1) := by decide +kernel
theorem dX6_allWays_10 : decode cX6_allWays 10 = .ok (.bipush 60, 2) := by decide +kernel
theorem dX6_allWays_12 : decode cX6_allWays 12 = .ok (.if_icmp .le 5, 3) := by decide +kernel
theorem dX6_allWays_15 : decode cX6_allWays 15 = .ok (.iconst 0, 1) := by decide +kernel
theorem dX6_allWays_16 : decode cX6_allWays 16 = .ok (.ireturn, 1) := by decide +kernel
theorem dX6_allWays_17 : decode cX6_allWays 17 = .ok (.aload_n 0, 1) := by decide +kernel
theorem dX6_allWays_18 : decode cX6_allWays 18 = .ok (.invokevirtual 27, 3) := by decide +kernel
theorem dX6_allWays_21 : decode cX6_allWays 21 = .ok (.aload_n 0, 1) := by decide +kernel
theorem dX6_allWays_22 : decode cX6_allWays 22 = .ok (.getfield 19, 3) := by decide +kernel
theorem dX6_allWays_25 : decode cX6_allWays 25 = .ok (.iload_n 3, 1) := by decide +kernel
theorem dX6_allWays_26 : decode cX6_allWays 26 = .ok (.iconst 1, 1) := by decide +kernel
theorem dX6_allWays_27 : decode cX6_allWays 27 = .ok (.iadd, 1) := by decide +kernel
theorem dX6_allWays_28 : decode cX6_allWays 28 = .ok (.lconst 0, 1) := by decide +kernel
theorem dX6_allWays_29 : decode cX6_allWays 29 = .ok (.lastore, 1) := by decide +kernel
theorem dX6_allWays_30 : decode cX6_allWays 30 = .ok (.aload_n 0, 1) := by decide +kernel
theorem dX6_allWays_31 : decode cX6_allWays 31 = .ok (.getfield 19, 3) := by decide +kernel
theorem dX6_allWays_34 : decode cX6_allWays 34 = .ok (.iload_n 3, 1) := by decide +kernel
theorem dX6_allWays_35 : decode cX6_allWays 35 = .ok (.lconst 1, 1) := by decide +kernel
theorem dX6_allWays_36 : decode cX6_allWays 36 = .ok (.lastore, 1) := by decide +kernel
theorem dX6_allWays_37 : decode cX6_allWays 37 = .ok (.lconst 0, 1) := by decide +kernel
theorem dX6_allWays_38 : decode cX6_allWays 38 = .ok (.lstore 4, 2) := by decide +kernel
theorem dX6_allWays_40 : decode cX6_allWays 40 = .ok (.iload_n 3, 1) := by decide +kernel
theorem dX6_allWays_41 : decode cX6_allWays 41 = .ok (.iconst 1, 1) := by decide +kernel
theorem dX6_allWays_42 : decode cX6_allWays 42 = .ok (.isub, 1) := by decide +kernel
theorem dX6_allWays_43 : decode cX6_allWays 43 = .ok (.istore 6, 2) := by decide +kernel
theorem dX6_allWays_45 : decode cX6_allWays 45 = .ok (.iload 6, 2) := by decide +kernel
theorem dX6_allWays_47 : decode cX6_allWays 47 = .ok (.ifCond .lt 56, 3) := by decide +kernel
theorem dX6_allWays_50 : decode cX6_allWays 50 = .ok (.aload_n 0, 1) := by decide +kernel
theorem dX6_allWays_51 : decode cX6_allWays 51 = .ok (.aload_n 1, 1) := by decide +kernel
theorem dX6_allWays_52 : decode cX6_allWays 52 = .ok (.aload_n 2, 1) := by decide +kernel
theorem dX6_allWays_53 : decode cX6_allWays 53 = .ok (.getfield 30, 3) := by decide +kernel
theorem dX6_allWays_56 : decode cX6_allWays 56 = .ok (.iload 6, 2) := by decide +kernel
theorem dX6_allWays_58 : decode cX6_allWays 58 = .ok (.baload, 1) := by decide +kernel
theorem dX6_allWays_59 : decode cX6_allWays 59 = .ok (.invokevirtual 34, 3) := by decide +kernel
theorem dX6_allWays_62 : decode cX6_allWays 62 = .ok (.aload_n 0, 1) := by decide +kernel
theorem dX6_allWays_63 : decode cX6_allWays 63 = .ok (.aload_n 1, 1) := by decide +kernel
theorem dX6_allWays_64 : decode cX6_allWays 64 = .ok (.iload 6, 2) := by decide +kernel
theorem dX6_allWays_66 : decode cX6_allWays 66 = .ok (.iload_n 3, 1) := by decide +kernel
theorem dX6_allWays_67 : decode cX6_allWays 67 = .ok (.invokevirtual 38, 3) := by decide +kernel
theorem dX6_allWays_70 : decode cX6_allWays 70 = .ok (.ldc2_w 42, 3) := by decide +kernel
theorem dX6_allWays_73 : decode cX6_allWays 73 = .ok (.invokestatic 44, 3) := by decide +kernel
theorem dX6_allWays_76 : decode cX6_allWays 76 = .ok (.lstore 4, 2) := by decide +kernel
theorem dX6_allWays_78 : decode cX6_allWays 78 = .ok (.aload_n 0, 1) := by decide +kernel
theorem dX6_allWays_79 : decode cX6_allWays 79 = .ok (.getfield 19, 3) := by decide +kernel
theorem dX6_allWays_82 : decode cX6_allWays 82 = .ok (.iload 6, 2) := by decide +kernel
theorem dX6_allWays_84 : decode cX6_allWays 84 = .ok (.aload_n 0, 1) := by decide +kernel
theorem dX6_allWays_85 : decode cX6_allWays 85 = .ok (.getfield 19, 3) := by decide +kernel
theorem dX6_allWays_88 : decode cX6_allWays 88 = .ok (.iload 6, 2) := by decide +kernel
theorem dX6_allWays_90 : decode cX6_allWays 90 = .ok (.iconst 1, 1) := by decide +kernel
theorem dX6_allWays_91 : decode cX6_allWays 91 = .ok (.iadd, 1) := by decide +kernel
theorem dX6_allWays_92 : decode cX6_allWays 92 = .ok (.laload, 1) := by decide +kernel
theorem dX6_allWays_93 : decode cX6_allWays 93 = .ok (.lload 4, 2) := by decide +kernel
theorem dX6_allWays_95 : decode cX6_allWays 95 = .ok (.ladd, 1) := by decide +kernel
theorem dX6_allWays_96 : decode cX6_allWays 96 = .ok (.lastore, 1) := by decide +kernel
theorem dX6_allWays_97 : decode cX6_allWays 97 = .ok (.iinc 6 (-1), 3) := by decide +kernel
theorem dX6_allWays_100 : decode cX6_allWays 100 = .ok (.goto (-55), 3) := by decide +kernel
theorem dX6_allWays_103 : decode cX6_allWays 103 = .ok (.lload 4, 2) := by decide +kernel
theorem dX6_allWays_105 : decode cX6_allWays 105 = .ok (.l2i, 1) := by decide +kernel
theorem dX6_allWays_106 : decode cX6_allWays 106 = .ok (.ireturn, 1) := by decide +kernel
theorem dX6_fewestCuts_0 : decode cX6_fewestCuts 0 = .ok (.aload_n 2, 1) := by decide +kernel
theorem dX6_fewestCuts_1 : decode cX6_fewestCuts 1 = .ok (.getfield 23, 3) := by decide +kernel
theorem dX6_fewestCuts_4 : decode cX6_fewestCuts 4 = .ok (.ifCond .gt 6, 3) := by decide +kernel
theorem dX6_fewestCuts_7 : decode cX6_fewestCuts 7 = .ok (.ldc 50, 2) := by decide +kernel
theorem dX6_fewestCuts_9 : decode cX6_fewestCuts 9 = .ok (.ireturn, 1) := by decide +kernel
theorem dX6_fewestCuts_10 : decode cX6_fewestCuts 10 = .ok (.iconst 0, 1) := by decide +kernel
theorem dX6_fewestCuts_11 : decode cX6_fewestCuts 11 = .ok (.istore_n 3, 1) := by decide +kernel
theorem dX6_fewestCuts_12 : decode cX6_fewestCuts 12 = .ok (.iconst 0, 1) := by decide +kernel
theorem dX6_fewestCuts_13 : decode cX6_fewestCuts 13 = .ok (.istore 4, 2) := by decide +kernel
theorem dX6_fewestCuts_15 : decode cX6_fewestCuts 15 = .ok (.iload 4, 2) := by decide +kernel
theorem dX6_fewestCuts_17 : decode cX6_fewestCuts 17 = .ok (.aload_n 2, 1) := by decide +kernel
theorem dX6_fewestCuts_18 : decode cX6_fewestCuts 18 = .ok (.getfield 23, 3) := by decide +kernel
theorem dX6_fewestCuts_21 : decode cX6_fewestCuts 21 = .ok (.if_icmp .ge 33, 3) := by decide +kernel
theorem dX6_fewestCuts_24 : decode cX6_fewestCuts 24 = .ok (.aload_n 1, 1) := by decide +kernel
theorem dX6_fewestCuts_25 : decode cX6_fewestCuts 25 = .ok (.aload_n 2, 1) := by decide +kernel
theorem dX6_fewestCuts_26 : decode cX6_fewestCuts 26 = .ok (.iload 4, 2) := by decide +kernel
theorem dX6_fewestCuts_28 : decode cX6_fewestCuts 28 = .ok (.invokestatic 51, 3) := by decide +kernel
theorem dX6_fewestCuts_31 : decode cX6_fewestCuts 31 = .ok (.istore 5, 2) := by decide +kernel
theorem dX6_fewestCuts_33 : decode cX6_fewestCuts 33 = .ok (.iload 5, 2) := by decide +kernel
theorem dX6_fewestCuts_35 : decode cX6_fewestCuts 35 = .ok (.ifCond .gt 6, 3) := by decide +kernel
theorem dX6_fewestCuts_38 : decode cX6_fewestCuts 38 = .ok (.ldc 50, 2) := by decide +kernel
theorem dX6_fewestCuts_40 : decode cX6_fewestCuts 40 = .ok (.ireturn, 1) := by decide +kernel
theorem dX6_fewestCuts_41 : decode cX6_fewestCuts 41 = .ok (.iload 4, 2) := by decide +kernel
theorem dX6_fewestCuts_43 : decode cX6_fewestCuts 43 = .ok (.iload 5, 2) := by decide +kernel
theorem dX6_fewestCuts_45 : decode cX6_fewestCuts 45 = .ok (.iadd, 1) := by decide +kernel
theorem dX6_fewestCuts_46 : decode cX6_fewestCuts 46 = .ok (.istore 4, 2) := by decide +kernel
theorem dX6_fewestCuts_48 : decode cX6_fewestCuts 48 = .ok (.iinc 3 1, 3) := by decide +kernel
theorem dX6_fewestCuts_51 : decode cX6_fewestCuts 51 = .ok (.goto (-36), 3) := by decide +kernel
theorem dX6_fewestCuts_54 : decode cX6_fewestCuts 54 = .ok (.iload_n 3, 1) := by decide +kernel
theorem dX6_fewestCuts_55 : decode cX6_fewestCuts 55 = .ok (.ireturn, 1) := by decide +kernel
theorem dX6_forgetFits_0 : decode cX6_forgetFits 0 = .ok (.iconst 0, 1) := by decide +kernel
theorem dX6_forgetFits_1 : decode cX6_forgetFits 1 = .ok (.istore_n 1, 1) := by decide +kernel
theorem dX6_forgetFits_2 : decode cX6_forgetFits 2 = .ok (.iload_n 1, 1) := by decide +kernel
theorem dX6_forgetFits_3 : decode cX6_forgetFits 3 = .ok (.aload_n 0, 1) := by decide +kernel
theorem dX6_forgetFits_4 : decode cX6_forgetFits 4 = .ok (.getfield 11, 3) := by decide +kernel
theorem dX6_forgetFits_7 : decode cX6_forgetFits 7 = .ok (.arraylength, 1) := by decide +kernel
theorem dX6_forgetFits_8 : decode cX6_forgetFits 8 = .ok (.if_icmp .ge 16, 3) := by decide +kernel
theorem dX6_forgetFits_11 : decode cX6_forgetFits 11 = .ok (.aload_n 0, 1) := by decide +kernel
theorem dX6_forgetFits_12 : decode cX6_forgetFits 12 = .ok (.getfield 11, 3) := by decide +kernel
theorem dX6_forgetFits_15 : decode cX6_forgetFits 15 = .ok (.iload_n 1, 1) := by decide +kernel
theorem dX6_forgetFits_16 : decode cX6_forgetFits 16 = .ok (.iconst 0, 1) := by decide +kernel
theorem dX6_forgetFits_17 : decode cX6_forgetFits 17 = .ok (.iastore, 1) := by decide +kernel
theorem dX6_forgetFits_18 : decode cX6_forgetFits 18 = .ok (.iinc 1 1, 3) := by decide +kernel
theorem dX6_forgetFits_21 : decode cX6_forgetFits 21 = .ok (.goto (-19), 3) := by decide +kernel
theorem dX6_forgetFits_24 : decode cX6_forgetFits 24 = .ok (.return_, 1) := by decide +kernel
theorem dX6_fitFrom_0 : decode cX6_fitFrom 0 = .ok (.iconst 0, 1) := by decide +kernel
theorem dX6_fitFrom_1 : decode cX6_fitFrom 1 = .ok (.istore_n 3, 1) := by decide +kernel
theorem dX6_fitFrom_2 : decode cX6_fitFrom 2 = .ok (.iload_n 3, 1) := by decide +kernel
theorem dX6_fitFrom_3 : decode cX6_fitFrom 3 = .ok (.aload_n 1, 1) := by decide +kernel
theorem dX6_fitFrom_4 : decode cX6_fitFrom 4 = .ok (.getfield 55, 3) := by decide +kernel
theorem dX6_fitFrom_7 : decode cX6_fitFrom 7 = .ok (.if_icmp .ge 39, 3) := by decide +kernel
theorem dX6_fitFrom_10 : decode cX6_fitFrom 10 = .ok (.aload_n 0, 1) := by decide +kernel
theorem dX6_fitFrom_11 : decode cX6_fitFrom 11 = .ok (.getfield 11, 3) := by decide +kernel
theorem dX6_fitFrom_14 : decode cX6_fitFrom 14 = .ok (.iload_n 3, 1) := by decide +kernel
theorem dX6_fitFrom_15 : decode cX6_fitFrom 15 = .ok (.aload_n 1, 1) := by decide +kernel
theorem dX6_fitFrom_16 : decode cX6_fitFrom 16 = .ok (.getfield 58, 3) := by decide +kernel
theorem dX6_fitFrom_19 : decode cX6_fitFrom 19 = .ok (.iload_n 3, 1) := by decide +kernel
theorem dX6_fitFrom_20 : decode cX6_fitFrom 20 = .ok (.baload, 1) := by decide +kernel
theorem dX6_fitFrom_21 : decode cX6_fitFrom 21 = .ok (.iload_n 2, 1) := by decide +kernel
theorem dX6_fitFrom_22 : decode cX6_fitFrom 22 = .ok (.if_icmp .ne 16, 3) := by decide +kernel
theorem dX6_fitFrom_25 : decode cX6_fitFrom 25 = .ok (.aload_n 0, 1) := by decide +kernel
theorem dX6_fitFrom_26 : decode cX6_fitFrom 26 = .ok (.getfield 11, 3) := by decide +kernel
theorem dX6_fitFrom_29 : decode cX6_fitFrom 29 = .ok (.iload_n 3, 1) := by decide +kernel
theorem dX6_fitFrom_30 : decode cX6_fitFrom 30 = .ok (.iconst 1, 1) := by decide +kernel
theorem dX6_fitFrom_31 : decode cX6_fitFrom 31 = .ok (.iadd, 1) := by decide +kernel
theorem dX6_fitFrom_32 : decode cX6_fitFrom 32 = .ok (.iaload, 1) := by decide +kernel
theorem dX6_fitFrom_33 : decode cX6_fitFrom 33 = .ok (.iconst 1, 1) := by decide +kernel
theorem dX6_fitFrom_34 : decode cX6_fitFrom 34 = .ok (.iadd, 1) := by decide +kernel
theorem dX6_fitFrom_35 : decode cX6_fitFrom 35 = .ok (.goto 4, 3) := by decide +kernel
theorem dX6_fitFrom_38 : decode cX6_fitFrom 38 = .ok (.iconst 0, 1) := by decide +kernel
theorem dX6_fitFrom_39 : decode cX6_fitFrom 39 = .ok (.iastore, 1) := by decide +kernel
theorem dX6_fitFrom_40 : decode cX6_fitFrom 40 = .ok (.iinc 3 1, 3) := by decide +kernel
theorem dX6_fitFrom_43 : decode cX6_fitFrom 43 = .ok (.goto (-41), 3) := by decide +kernel
theorem dX6_fitFrom_46 : decode cX6_fitFrom 46 = .ok (.return_, 1) := by decide +kernel
theorem dX6_waysFrom_0 : decode cX6_waysFrom 0 = .ok (.lconst 0, 1) := by decide +kernel
theorem dX6_waysFrom_1 : decode cX6_waysFrom 1 = .ok (.lstore 4, 2) := by decide +kernel
theorem dX6_waysFrom_3 : decode cX6_waysFrom 3 = .ok (.iconst 0, 1) := by decide +kernel
theorem dX6_waysFrom_4 : decode cX6_waysFrom 4 = .ok (.istore 6, 2) := by decide +kernel
theorem dX6_waysFrom_6 : decode cX6_waysFrom 6 = .ok (.iload 6, 2) := by decide +kernel
theorem dX6_waysFrom_8 : decode cX6_waysFrom 8 = .ok (.aload_n 1, 1) := by decide +kernel
theorem dX6_waysFrom_9 : decode cX6_waysFrom 9 = .ok (.getfield 55, 3) := by decide +kernel
theorem dX6_waysFrom_12 : decode cX6_waysFrom 12 = .ok (.if_icmp .ge 47, 3) := by decide +kernel
theorem dX6_waysFrom_15 : decode cX6_waysFrom 15 = .ok (.iload_n 2, 1) := by decide +kernel
theorem dX6_waysFrom_16 : decode cX6_waysFrom 16 = .ok (.aload_n 0, 1) := by decide +kernel
theorem dX6_waysFrom_17 : decode cX6_waysFrom 17 = .ok (.getfield 11, 3) := by decide +kernel
theorem dX6_waysFrom_20 : decode cX6_waysFrom 20 = .ok (.iload 6, 2) := by decide +kernel
theorem dX6_waysFrom_22 : decode cX6_waysFrom 22 = .ok (.iaload, 1) := by decide +kernel
theorem dX6_waysFrom_23 : decode cX6_waysFrom 23 = .ok (.iadd, 1) := by decide +kernel
theorem dX6_waysFrom_24 : decode cX6_waysFrom 24 = .ok (.iload_n 3, 1) := by decide +kernel
theorem dX6_waysFrom_25 : decode cX6_waysFrom 25 = .ok (.invokestatic 59, 3) := by decide +kernel
theorem dX6_waysFrom_28 : decode cX6_waysFrom 28 = .ok (.iconst 1, 1) := by decide +kernel
theorem dX6_waysFrom_29 : decode cX6_waysFrom 29 = .ok (.iadd, 1) := by decide +kernel
theorem dX6_waysFrom_30 : decode cX6_waysFrom 30 = .ok (.istore 7, 2) := by decide +kernel
theorem dX6_waysFrom_32 : decode cX6_waysFrom 32 = .ok (.lload 4, 2) := by decide +kernel
theorem dX6_waysFrom_34 : decode cX6_waysFrom 34 = .ok (.aload_n 0, 1) := by decide +kernel
theorem dX6_waysFrom_35 : decode cX6_waysFrom 35 = .ok (.getfield 19, 3) := by decide +kernel
theorem dX6_waysFrom_38 : decode cX6_waysFrom 38 = .ok (.iload_n 2, 1) := by decide +kernel
theorem dX6_waysFrom_39 : decode cX6_waysFrom 39 = .ok (.iconst 1, 1) := by decide +kernel
theorem dX6_waysFrom_40 : decode cX6_waysFrom 40 = .ok (.iadd, 1) := by decide +kernel
theorem dX6_waysFrom_41 : decode cX6_waysFrom 41 = .ok (.laload, 1) := by decide +kernel
theorem dX6_waysFrom_42 : decode cX6_waysFrom 42 = .ok (.aload_n 0, 1) := by decide +kernel
theorem dX6_waysFrom_43 : decode cX6_waysFrom 43 = .ok (.getfield 19, 3) := by decide +kernel
theorem dX6_waysFrom_46 : decode cX6_waysFrom 46 = .ok (.iload 7, 2) := by decide +kernel
theorem dX6_waysFrom_48 : decode cX6_waysFrom 48 = .ok (.laload, 1) := by decide +kernel
theorem dX6_waysFrom_49 : decode cX6_waysFrom 49 = .ok (.lsub, 1) := by decide +kernel
theorem dX6_waysFrom_50 : decode cX6_waysFrom 50 = .ok (.ladd, 1) := by decide +kernel
theorem dX6_waysFrom_51 : decode cX6_waysFrom 51 = .ok (.lstore 4, 2) := by decide +kernel
theorem dX6_waysFrom_53 : decode cX6_waysFrom 53 = .ok (.iinc 6 1, 3) := by decide +kernel
theorem dX6_waysFrom_56 : decode cX6_waysFrom 56 = .ok (.goto (-50), 3) := by decide +kernel
theorem dX6_waysFrom_59 : decode cX6_waysFrom 59 = .ok (.lload 4, 2) := by decide +kernel
theorem dX6_waysFrom_61 : decode cX6_waysFrom 61 = .ok (.lreturn, 1) := by decide +kernel
theorem dX6_longestCut_0 : decode cX6_longestCut 0 = .ok (.iconst 0, 1) := by decide +kernel
theorem dX6_longestCut_1 : decode cX6_longestCut 1 = .ok (.istore_n 3, 1) := by decide +kernel
theorem dX6_longestCut_2 : decode cX6_longestCut 2 = .ok (.iconst 0, 1) := by decide +kernel
theorem dX6_longestCut_3 : decode cX6_longestCut 3 = .ok (.istore 4, 2) := by decide +kernel
theorem dX6_longestCut_5 : decode cX6_longestCut 5 = .ok (.iload 4, 2) := by decide +kernel
theorem dX6_longestCut_7 : decode cX6_longestCut 7 = .ok (.aload_n 0, 1) := by decide +kernel
theorem dX6_longestCut_8 : decode cX6_longestCut 8 = .ok (.getfield 55, 3) := by decide +kernel
theorem dX6_longestCut_11 : decode cX6_longestCut 11 = .ok (.if_icmp .ge 72, 3) := by decide +kernel
theorem dX6_longestCut_14 : decode cX6_longestCut 14 = .ok (.aload_n 0, 1) := by decide +kernel
theorem dX6_longestCut_15 : decode cX6_longestCut 15 = .ok (.getfield 55, 3) := by decide +kernel
theorem dX6_longestCut_18 : decode cX6_longestCut 18 = .ok (.iload 4, 2) := by decide +kernel
theorem dX6_longestCut_20 : decode cX6_longestCut 20 = .ok (.isub, 1) := by decide +kernel
theorem dX6_longestCut_21 : decode cX6_longestCut 21 = .ok (.aload_n 1, 1) := by decide +kernel
theorem dX6_longestCut_22 : decode cX6_longestCut 22 = .ok (.getfield 23, 3) := by decide +kernel
theorem dX6_longestCut_25 : decode cX6_longestCut 25 = .ok (.iload_n 2, 1) := by decide +kernel
theorem dX6_longestCut_26 : decode cX6_longestCut 26 = .ok (.isub, 1) := by decide +kernel
theorem dX6_longestCut_27 : decode cX6_longestCut 27 = .ok (.invokestatic 59, 3) := by decide +kernel
theorem dX6_longestCut_30 : decode cX6_longestCut 30 = .ok (.istore 5, 2) := by decide +kernel
theorem dX6_longestCut_32 : decode cX6_longestCut 32 = .ok (.iconst 0, 1) := by decide +kernel
theorem dX6_longestCut_33 : decode cX6_longestCut 33 = .ok (.istore 6, 2) := by decide +kernel
theorem dX6_longestCut_35 : decode cX6_longestCut 35 = .ok (.iload 6, 2) := by decide +kernel
theorem dX6_longestCut_37 : decode cX6_longestCut 37 = .ok (.iload 5, 2) := by decide +kernel
theorem dX6_longestCut_39 : decode cX6_longestCut 39 = .ok (.if_icmp .ge 31, 3) := by decide +kernel
theorem dX6_longestCut_42 : decode cX6_longestCut 42 = .ok (.aload_n 0, 1) := by decide +kernel
theorem dX6_longestCut_43 : decode cX6_longestCut 43 = .ok (.getfield 58, 3) := by decide +kernel
theorem dX6_longestCut_46 : decode cX6_longestCut 46 = .ok (.iload 4, 2) := by decide +kernel
theorem dX6_longestCut_48 : decode cX6_longestCut 48 = .ok (.iload 6, 2) := by decide +kernel
theorem dX6_longestCut_50 : decode cX6_longestCut 50 = .ok (.iadd, 1) := by decide +kernel
theorem dX6_longestCut_51 : decode cX6_longestCut 51 = .ok (.baload, 1) := by decide +kernel
theorem dX6_longestCut_52 : decode cX6_longestCut 52 = .ok (.aload_n 1, 1) := by decide +kernel
theorem dX6_longestCut_53 : decode cX6_longestCut 53 = .ok (.getfield 30, 3) := by decide +kernel
theorem dX6_longestCut_56 : decode cX6_longestCut 56 = .ok (.iload_n 2, 1) := by decide +kernel
theorem dX6_longestCut_57 : decode cX6_longestCut 57 = .ok (.iload 6, 2) := by decide +kernel
theorem dX6_longestCut_59 : decode cX6_longestCut 59 = .ok (.iadd, 1) := by decide +kernel
theorem dX6_longestCut_60 : decode cX6_longestCut 60 = .ok (.baload, 1) := by decide +kernel
theorem dX6_longestCut_61 : decode cX6_longestCut 61 = .ok (.if_icmp .ne 9, 3) := by decide +kernel
theorem dX6_longestCut_64 : decode cX6_longestCut 64 = .ok (.iinc 6 1, 3) := by decide +kernel
theorem dX6_longestCut_67 : decode cX6_longestCut 67 = .ok (.goto (-32), 3) := by decide +kernel
theorem dX6_longestCut_70 : decode cX6_longestCut 70 = .ok (.iload_n 3, 1) := by decide +kernel
theorem dX6_longestCut_71 : decode cX6_longestCut 71 = .ok (.iload 6, 2) := by decide +kernel
theorem dX6_longestCut_73 : decode cX6_longestCut 73 = .ok (.invokestatic 62, 3) := by decide +kernel
theorem dX6_longestCut_76 : decode cX6_longestCut 76 = .ok (.istore_n 3, 1) := by decide +kernel
theorem dX6_longestCut_77 : decode cX6_longestCut 77 = .ok (.iinc 4 1, 3) := by decide +kernel
theorem dX6_longestCut_80 : decode cX6_longestCut 80 = .ok (.goto (-75), 3) := by decide +kernel
theorem dX6_longestCut_83 : decode cX6_longestCut 83 = .ok (.iload_n 3, 1) := by decide +kernel
theorem dX6_longestCut_84 : decode cX6_longestCut 84 = .ok (.ireturn, 1) := by decide +kernel
theorem dX7_init_0 : decode cX7_init 0 = .ok (.aload_n 0, 1) := by decide +kernel
theorem dX7_init_1 : decode cX7_init 1 = .ok (.invokespecial 1, 3) := by decide +kernel
theorem dX7_init_4 : decode cX7_init 4 = .ok (.aload_n 0, 1) := by decide +kernel
theorem dX7_init_5 : decode cX7_init 5 = .ok (.iconst 4, 1) := by decide +kernel
theorem dX7_init_6 : decode cX7_init 6 = .ok (.anewarray 7, 3) := by decide +kernel
theorem dX7_init_9 : decode cX7_init 9 = .ok (.putfield 9, 3) := by decide +kernel
theorem dX7_init_12 : decode cX7_init 12 = .ok (.aload_n 0, 1) := by decide +kernel
theorem dX7_init_13 : decode cX7_init 13 = .ok (.bipush 6, 2) := by decide +kernel
theorem dX7_init_15 : decode cX7_init 15 = .ok (.anewarray 15, 3) := by decide +kernel
theorem dX7_init_18 : decode cX7_init 18 = .ok (.putfield 17, 3) := by decide +kernel
theorem dX7_init_21 : decode cX7_init 21 = .ok (.aload_n 0, 1) := by decide +kernel
theorem dX7_init_22 : decode cX7_init 22 = .ok (.iconst 2, 1) := by decide +kernel
theorem dX7_init_23 : decode cX7_init 23 = .ok (.anewarray 21, 3) := by decide +kernel
theorem dX7_init_26 : decode cX7_init 26 = .ok (.putfield 23, 3) := by decide +kernel
theorem dX7_init_29 : decode cX7_init 29 = .ok (.aload_n 0, 1) := by decide +kernel
theorem dX7_init_30 : decode cX7_init 30 = .ok (.new 27, 3) := by decide +kernel
theorem dX7_init_33 : decode cX7_init 33 = .ok (.dup, 1) := by decide +kernel
theorem dX7_init_34 : decode cX7_init 34 = .ok (.invokespecial 29, 3) := by decide +kernel
theorem dX7_init_37 : decode cX7_init 37 = .ok (.putfield 30, 3) := by decide +kernel
theorem dX7_init_40 : decode cX7_init 40 = .ok (.aload_n 0, 1) := by decide +kernel
theorem dX7_init_41 : decode cX7_init 41 = .ok (.new 34, 3) := by decide +kernel
theorem dX7_init_44 : decode cX7_init 44 = .ok (.dup, 1) := by decide +kernel
theorem dX7_init_45 : decode cX7_init 45 = .ok (.invokespecial 36, 3) := by decide +kernel
theorem dX7_init_48 : decode cX7_init 48 = .ok (.putfield 37, 3) := by decide +kernel
theorem dX7_init_51 : decode cX7_init 51 = .ok (.aload_n 0, 1) := by decide +kernel
theorem dX7_init_52 : decode cX7_init 52 = .ok (.new 41, 3) := by decide +kernel
theorem dX7_init_55 : decode cX7_init 55 = .ok (.dup, 1) := by decide +kernel
theorem dX7_init_56 : decode cX7_init 56 = .ok (.invokespecial 43, 3) := by decide +kernel
theorem dX7_init_59 : decode cX7_init 59 = .ok (.putfield 44, 3) := by decide +kernel
theorem dX7_init_62 : decode cX7_init 62 = .ok (.aload_n 0, 1) := by decide +kernel
theorem dX7_init_63 : decode cX7_init 63 = .ok (.new 48, 3) := by decide +kernel
theorem dX7_init_66 : decode cX7_init 66 = .ok (.dup, 1) := by decide +kernel
theorem dX7_init_67 : decode cX7_init 67 = .ok (.invokespecial 50, 3) := by decide +kernel
theorem dX7_init_70 : decode cX7_init 70 = .ok (.putfield 51, 3) := by decide +kernel
theorem dX7_init_73 : decode cX7_init 73 = .ok (.aload_n 0, 1) := by decide +kernel
theorem dX7_init_74 : decode cX7_init 74 = .ok (.bipush 6, 2) := by decide +kernel
theorem dX7_init_76 : decode cX7_init 76 = .ok (.putfield 55, 3) := by decide +kernel
theorem dX7_init_79 : decode cX7_init 79 = .ok (.iconst 0, 1) := by decide +kernel
theorem dX7_init_80 : decode cX7_init 80 = .ok (.istore_n 1, 1) := by decide +kernel
theorem dX7_init_81 : decode cX7_init 81 = .ok (.iload_n 1, 1) := by decide +kernel
theorem dX7_init_82 : decode cX7_init 82 = .ok (.aload_n 0, 1) := by decide +kernel
theorem dX7_init_83 : decode cX7_init 83 = .ok (.getfield 9, 3) := by decide +kernel
theorem dX7_init_86 : decode cX7_init 86 = .ok (.arraylength, 1) := by decide +kernel
theorem dX7_init_87 : decode cX7_init 87 = .ok (.if_icmp .ge 22, 3) := by decide +kernel
theorem dX7_init_90 : decode cX7_init 90 = .ok (.aload_n 0, 1) := by decide +kernel
theorem dX7_init_91 : decode cX7_init 91 = .ok (.getfield 9, 3) := by decide +kernel
theorem dX7_init_94 : decode cX7_init 94 = .ok (.iload_n 1, 1) := by decide +kernel
theorem dX7_init_95 : decode cX7_init 95 = .ok (.new 7, 3) := by decide +kernel
theorem dX7_init_98 : decode cX7_init 98 = .ok (.dup, 1) := by decide +kernel
theorem dX7_init_99 : decode cX7_init 99 = .ok (.invokespecial 59, 3) := by decide +kernel
theorem dX7_init_102 : decode cX7_init 102 = .ok (.aastore, 1) := by decide +kernel
theorem dX7_init_103 : decode cX7_init 103 = .ok (.iinc 1 1, 3) := by decide +kernel
theorem dX7_init_106 : decode cX7_init 106 = .ok (.goto (-25), 3) := by decide +kernel
theorem dX7_init_109 : decode cX7_init 109 = .ok (.iconst 0, 1) := by decide +kernel
theorem dX7_init_110 : decode cX7_init 110 = .ok (.istore_n 1, 1) := by decide +kernel
theorem dX7_init_111 : decode cX7_init 111 = .ok (.iload_n 1, 1) := by decide +kernel
theorem dX7_init_112 : decode cX7_init 112 = .ok (.aload_n 0, 1) := by decide +kernel
theorem dX7_init_113 : decode cX7_init 113 = .ok (.getfield 17, 3) := by decide +kernel
theorem dX7_init_116 : decode cX7_init 116 = .ok (.arraylength, 1) := by decide +kernel
theorem dX7_init_117 : decode cX7_init 117 = .ok (.if_icmp .ge 22, 3) := by decide +kernel
theorem dX7_init_120 : decode cX7_init 120 = .ok (.aload_n 0, 1) := by decide +kernel
theorem dX7_init_121 : decode cX7_init 121 = .ok (.getfield 17, 3) := by decide +kernel
theorem dX7_init_124 : decode cX7_init 124 = .ok (.iload_n 1, 1) := by decide +kernel
theorem dX7_init_125 : decode cX7_init 125 = .ok (.new 15, 3) := by decide +kernel
theorem dX7_init_128 : decode cX7_init 128 = .ok (.dup, 1) := by decide +kernel
theorem dX7_init_129 : decode cX7_init 129 = .ok (.invokespecial 60, 3) := by decide +kernel
theorem dX7_init_132 : decode cX7_init 132 = .ok (.aastore, 1) := by decide +kernel
theorem dX7_init_133 : decode cX7_init 133 = .ok (.iinc 1 1, 3) := by decide +kernel
theorem dX7_init_136 : decode cX7_init 136 = .ok (.goto (-25), 3) := by decide +kernel
theorem dX7_init_139 : decode cX7_init 139 = .ok (.iconst 0, 1) := by decide +kernel
theorem dX7_init_140 : decode cX7_init 140 = .ok (.istore_n 1, 1) := by decide +kernel
theorem dX7_init_141 : decode cX7_init 141 = .ok (.iload_n 1, 1) := by decide +kernel
theorem dX7_init_142 : decode cX7_init 142 = .ok (.aload_n 0, 1) := by decide +kernel
theorem dX7_init_143 : decode cX7_init 143 = .ok (.getfield 23, 3) := by decide +kernel
theorem dX7_init_146 : decode cX7_init 146 = .ok (.arraylength, 1) := by decide +kernel
theorem dX7_init_147 : decode cX7_init 147 = .ok (.if_icmp .ge 22, 3) := by decide +kernel
theorem dX7_init_150 : decode cX7_init 150 = .ok (.aload_n 0, 1) := by decide +kernel
theorem dX7_init_151 : decode cX7_init 151 = .ok (.getfield 23, 3) := by decide +kernel
theorem dX7_init_154 : decode cX7_init 154 = .ok (.iload_n 1, 1) := by decide +kernel
theorem dX7_init_155 : decode cX7_init 155 = .ok (.new 21, 3) := by decide +kernel
theorem dX7_init_158 : decode cX7_init 158 = .ok (.dup, 1) := by decide +kernel
theorem dX7_init_159 : decode cX7_init 159 = .ok (.invokespecial 61, 3) := by decide +kernel
theorem dX7_init_162 : decode cX7_init 162 = .ok (.aastore, 1) := by decide +kernel
theorem dX7_init_163 : decode cX7_init 163 = .ok (.iinc 1 1, 3) := by decide +kernel
theorem dX7_init_166 : decode cX7_init 166 = .ok (.goto (-25), 3) := by decide +kernel
theorem dX7_init_169 : decode cX7_init 169 = .ok (.return_, 1) := by decide +kernel
theorem dX7_limb_0 : decode cX7_limb 0 = .ok (.aload_n 0, 1) := by decide +kernel
theorem dX7_limb_1 : decode cX7_limb 1 = .ok (.iload_n 1, 1) := by decide +kernel
theorem dX7_limb_2 : decode cX7_limb 2 = .ok (.invokevirtual 62, 3) := by decide +kernel
theorem dX7_limb_5 : decode cX7_limb 5 = .ok (.astore 4, 2) := by decide +kernel
theorem dX7_limb_7 : decode cX7_limb 7 = .ok (.aload 4, 2) := by decide +kernel
theorem dX7_limb_9 : decode cX7_limb 9 = .ok (.ifnull 21, 3) := by decide +kernel
theorem dX7_limb_12 : decode cX7_limb 12 = .ok (.iload_n 2, 1) := by decide +kernel
theorem dX7_limb_13 : decode cX7_limb 13 = .ok (.invokestatic 66, 3) := by decide +kernel
theorem dX7_limb_16 : decode cX7_limb 16 = .ok (.ifCond .eq 14, 3) := by decide +kernel
theorem dX7_limb_19 : decode cX7_limb 19 = .ok (.iload_n 3, 1) := by decide +kernel
theorem dX7_limb_20 : decode cX7_limb 20 = .ok (.iconst 1, 1) := by decide +kernel
theorem dX7_limb_21 : decode cX7_limb 21 = .ok (.if_icmp .lt 9, 3) := by decide +kernel
theorem dX7_limb_24 : decode cX7_limb 24 = .ok (.iload_n 3, 1) := by decide +kernel
theorem dX7_limb_25 : decode cX7_limb 25 = .ok (.bipush 18, 2) := by decide +kernel
theorem dX7_limb_27 : decode cX7_limb 27 = .ok (.if_icmp .le 6, 3) := by decide +kernel
theorem dX7_limb_30 : decode cX7_limb 30 = .ok (.ldc 70, 2) := by decide +kernel
theorem dX7_limb_32 : decode cX7_limb 32 = .ok (.ireturn, 1) := by decide +kernel
theorem dX7_limb_33 : decode cX7_limb 33 = .ok (.aload 4, 2) := by decide +kernel
theorem dX7_limb_35 : decode cX7_limb 35 = .ok (.iload_n 2, 1) := by decide +kernel
theorem dX7_limb_36 : decode cX7_limb 36 = .ok (.iload_n 3, 1) := by decide +kernel
theorem dX7_limb_37 : decode cX7_limb 37 = .ok (.invokevirtual 71, 3) := by decide +kernel
theorem dX7_limb_40 : decode cX7_limb 40 = .ok (.ireturn, 1) := by decide +kernel
theorem dX7_isOf_0 : decode cX7_isOf 0 = .ok (.aload_n 0, 1) := by decide +kernel
theorem dX7_isOf_1 : decode cX7_isOf 1 = .ok (.iload_n 1, 1) := by decide +kernel
theorem dX7_isOf_2 : decode cX7_isOf 2 = .ok (.invokevirtual 62, 3) := by decide +kernel
theorem dX7_isOf_5 : decode cX7_isOf 5 = .ok (.astore 4, 2) := by decide +kernel
theorem dX7_isOf_7 : decode cX7_isOf 7 = .ok (.aload 4, 2) := by decide +kernel
theorem dX7_isOf_9 : decode cX7_isOf 9 = .ok (.ifnull 23, 3) := by decide +kernel
theorem dX7_isOf_12 : decode cX7_isOf 12 = .ok (.iload_n 2, 1) := by decide +kernel
theorem dX7_isOf_13 : decode cX7_isOf 13 = .ok (.ifCond .lt 19, 3) := by decide +kernel
theorem dX7_isOf_16 : decode cX7_isOf 16 = .ok (.iload_n 2, 1) := by decide +kernel
theorem dX7_isOf_17 : decode cX7_isOf 17 = .ok (.aload 4, 2) := by decide +kernel
theorem dX7_isOf_19 : decode cX7_isOf 19 = .ok (.getfield 75, 3) := by decide +kernel
theorem dX7_isOf_22 : decode cX7_isOf 22 = .ok (.if_icmp .ge 10, 3) := by decide +kernel
theorem dX7_isOf_25 : decode cX7_isOf 25 = .ok (.iload_n 3, 1) := by decide +kernel
theorem dX7_isOf_26 : decode cX7_isOf 26 = .ok (.invokestatic 66, 3) := by decide +kernel
theorem dX7_isOf_29 : decode cX7_isOf 29 = .ok (.ifCond .ne 6, 3) := by decide +kernel
theorem dX7_isOf_32 : decode cX7_isOf 32 = .ok (.ldc 70, 2) := by decide +kernel
theorem dX7_isOf_34 : decode cX7_isOf 34 = .ok (.ireturn, 1) := by decide +kernel
theorem dX7_isOf_35 : decode cX7_isOf 35 = .ok (.aload 4, 2) := by decide +kernel
theorem dX7_isOf_37 : decode cX7_isOf 37 = .ok (.iload_n 2, 1) := by decide +kernel
theorem dX7_isOf_38 : decode cX7_isOf 38 = .ok (.iload_n 3, 1) := by decide +kernel
theorem dX7_isOf_39 : decode cX7_isOf 39 = .ok (.invokevirtual 78, 3) := by decide +kernel
theorem dX7_isOf_42 : decode cX7_isOf 42 = .ok (.ifCond .eq 7, 3) := by decide +kernel
theorem dX7_isOf_45 : decode cX7_isOf 45 = .ok (.iconst 1, 1) := by decide +kernel
theorem dX7_isOf_46 : decode cX7_isOf 46 = .ok (.goto 4, 3) := by decide +kernel
theorem dX7_isOf_49 : decode cX7_isOf 49 = .ok (.iconst 0, 1) := by decide +kernel
theorem dX7_isOf_50 : decode cX7_isOf 50 = .ok (.ireturn, 1) := by decide +kernel
theorem dX7_clear_0 : decode cX7_clear 0 = .ok (.aload_n 0, 1) := by decide +kernel
theorem dX7_clear_1 : decode cX7_clear 1 = .ok (.iload_n 1, 1) := by decide +kernel
theorem dX7_clear_2 : decode cX7_clear 2 = .ok (.invokevirtual 62, 3) := by decide +kernel
theorem dX7_clear_5 : decode cX7_clear 5 = .ok (.astore_n 2, 1) := by decide +kernel
theorem dX7_clear_6 : decode cX7_clear 6 = .ok (.aload_n 2, 1) := by decide +kernel
theorem dX7_clear_7 : decode cX7_clear 7 = .ok (.ifnonnull 6, 3) := by decide +kernel
theorem dX7_clear_10 : decode cX7_clear 10 = .ok (.ldc 70, 2) := by decide +kernel
theorem dX7_clear_12 : decode cX7_clear 12 = .ok (.ireturn, 1) := by decide +kernel
theorem dX7_clear_13 : decode cX7_clear 13 = .ok (.aload_n 2, 1) := by decide +kernel
theorem dX7_clear_14 : decode cX7_clear 14 = .ok (.getfield 75, 3) := by decide +kernel
theorem dX7_clear_17 : decode cX7_clear 17 = .ok (.istore_n 3, 1) := by decide +kernel
theorem dX7_clear_18 : decode cX7_clear 18 = .ok (.aload_n 2, 1) := by decide +kernel
theorem dX7_clear_19 : decode cX7_clear 19 = .ok (.iconst 0, 1) := by decide +kernel
theorem dX7_clear_20 : decode cX7_clear 20 = .ok (.putfield 75, 3) := by decide +kernel
theorem dX7_clear_23 : decode cX7_clear 23 = .ok (.iload_n 3, 1) := by decide +kernel
theorem dX7_clear_24 : decode cX7_clear 24 = .ok (.ireturn, 1) := by decide +kernel
theorem dX7_length_0 : decode cX7_length 0 = .ok (.aload_n 0, 1) := by decide +kernel
theorem dX7_length_1 : decode cX7_length 1 = .ok (.iload_n 1, 1) := by decide +kernel
theorem dX7_length_2 : decode cX7_length 2 = .ok (.invokevirtual 62, 3) := by decide +kernel
theorem dX7_length_5 : decode cX7_length 5 = .ok (.astore_n 2, 1) := by decide +kernel
theorem dX7_length_6 : decode cX7_length 6 = .ok (.aload_n 2, 1) := by decide +kernel
theorem dX7_length_7 : decode cX7_length 7 = .ok (.ifnonnull 8, 3) := by decide +kernel
theorem dX7_length_10 : decode cX7_length 10 = .ok (.ldc 70, 2) := by decide +kernel
theorem dX7_length_12 : decode cX7_length 12 = .ok (.goto 7, 3) := by decide +kernel
theorem dX7_length_15 : decode cX7_length 15 = .ok (.aload_n 2, 1) := by decide +kernel
theorem dX7_length_16 : decode cX7_length 16 = .ok (.invokevirtual 82, 3) := by decide +kernel
theorem dX7_length_19 : decode cX7_length 19 = .ok (.ireturn, 1) := by decide +kernel
theorem dX7_handling_0 : decode cX7_handling 0 = .ok (.aload_n 0, 1) := by decide +kernel
theorem dX7_handling_1 : decode cX7_handling 1 = .ok (.iload_n 1, 1) := by decide +kernel
theorem dX7_handling_2 : decode cX7_handling 2 = .ok (.invokevirtual 62, 3) := by decide +kernel
theorem dX7_handling_5 : decode cX7_handling 5 = .ok (.astore_n 3, 1) := by decide +kernel
theorem dX7_handling_6 : decode cX7_handling 6 = .ok (.aload_n 3, 1) := by decide +kernel
theorem dX7_handling_7 : decode cX7_handling 7 = .ok (.ifnull 7, 3) := by decide +kernel
theorem dX7_handling_10 : decode cX7_handling 10 = .ok (.iload_n 2, 1) := by decide +kernel
theorem dX7_handling_11 : decode cX7_handling 11 = .ok (.ifCond .ge 6, 3) := by decide +kernel
theorem dX7_handling_14 : decode cX7_handling 14 = .ok (.ldc 70, 2) := by decide +kernel
theorem dX7_handling_16 : decode cX7_handling 16 = .ok (.ireturn, 1) := by decide +kernel
theorem dX7_handling_17 : decode cX7_handling 17 = .ok (.aload_n 3, 1) := by decide +kernel
theorem dX7_handling_18 : decode cX7_handling 18 = .ok (.iload_n 2, 1) := by decide +kernel
theorem dX7_handling_19 : decode cX7_handling 19 = .ok (.invokevirtual 86, 3) := by decide +kernel
theorem dX7_handling_22 : decode cX7_handling 22 = .ok (.ireturn, 1) := by decide +kernel
