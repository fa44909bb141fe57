theorem dX8_findTurn_0 : decode cX8_findTurn 0 = .ok (.iconst 0, 1) := by decide +kernel
theorem dX8_findTurn_1 : decode cX8_findTurn 1 = .ok (.istore_n 3, 1) := by decide +kernel
theorem dX8_findTurn_2 : decode cX8_findTurn 2 = .ok (.iload_n 3, 1) := by decide +kernel
theorem dX8_findTurn_3 : decode cX8_findTurn 3 = .ok (.aload_n 0, 1) := by decide +kernel
theorem dX8_findTurn_4 : decode cX8_findTurn 4 = .ok (.getfield 41, 3) := by decide +kernel
theorem dX8_findTurn_7 : decode cX8_findTurn 7 = .ok (.iload_n 2, 1) := by decide +kernel
theorem dX8_findTurn_8 : decode cX8_findTurn 8 = .ok (.iaload, 1) := by decide +kernel
theorem dX8_findTurn_9 : decode cX8_findTurn 9 = .ok (.if_icmp .gt 179, 3) := by decide +kernel
theorem dX8_findTurn_12 : decode cX8_findTurn 12 = .ok (.aload_n 0, 1) := by decide +kernel
theorem dX8_findTurn_13 : decode cX8_findTurn 13 = .ok (.getfield 50, 3) := by decide +kernel
theorem dX8_findTurn_16 : decode cX8_findTurn 16 = .ok (.iload_n 3, 1) := by decide +kernel
theorem dX8_findTurn_17 : decode cX8_findTurn 17 = .ok (.iload_n 3, 1) := by decide +kernel
theorem dX8_findTurn_18 : decode cX8_findTurn 18 = .ok (.ifCond .ne 7, 3) := by decide +kernel
theorem dX8_findTurn_21 : decode cX8_findTurn 21 = .ok (.lconst 1, 1) := by decide +kernel
theorem dX8_findTurn_22 : decode cX8_findTurn 22 = .ok (.goto 4, 3) := by decide +kernel
theorem dX8_findTurn_25 : decode cX8_findTurn 25 = .ok (.lconst 0, 1) := by decide +kernel
theorem dX8_findTurn_26 : decode cX8_findTurn 26 = .ok (.lastore, 1) := by decide +kernel
theorem dX8_findTurn_27 : decode cX8_findTurn 27 = .ok (.aload_n 0, 1) := by decide +kernel
theorem dX8_findTurn_28 : decode cX8_findTurn 28 = .ok (.getfield 54, 3) := by decide +kernel
theorem dX8_findTurn_31 : decode cX8_findTurn 31 = .ok (.iload_n 3, 1) := by decide +kernel
theorem dX8_findTurn_32 : decode cX8_findTurn 32 = .ok (.iconst 0, 1) := by decide +kernel
theorem dX8_findTurn_33 : decode cX8_findTurn 33 = .ok (.iastore, 1) := by decide +kernel
theorem dX8_findTurn_34 : decode cX8_findTurn 34 = .ok (.iconst 0, 1) := by decide +kernel
theorem dX8_findTurn_35 : decode cX8_findTurn 35 = .ok (.istore 4, 2) := by decide +kernel
theorem dX8_findTurn_37 : decode cX8_findTurn 37 = .ok (.iload 4, 2) := by decide +kernel
theorem dX8_findTurn_39 : decode cX8_findTurn 39 = .ok (.iload_n 3, 1) := by decide +kernel
theorem dX8_findTurn_40 : decode cX8_findTurn 40 = .ok (.if_icmp .ge 142, 3) := by decide +kernel
theorem dX8_findTurn_43 : decode cX8_findTurn 43 = .ok (.aload_n 0, 1) := by decide +kernel
theorem dX8_findTurn_44 : decode cX8_findTurn 44 = .ok (.getfield 50, 3) := by decide +kernel
theorem dX8_findTurn_47 : decode cX8_findTurn 47 = .ok (.iload 4, 2) := by decide +kernel
theorem dX8_findTurn_49 : decode cX8_findTurn 49 = .ok (.laload, 1) := by decide +kernel
theorem dX8_findTurn_50 : decode cX8_findTurn 50 = .ok (.lconst 0, 1) := by decide +kernel
theorem dX8_findTurn_51 : decode cX8_findTurn 51 = .ok (.lcmp, 1) := by decide +kernel
theorem dX8_findTurn_52 : decode cX8_findTurn 52 = .ok (.ifCond .ne 6, 3) := by decide +kernel
theorem dX8_findTurn_55 : decode cX8_findTurn 55 = .ok (.goto 121, 3) := by decide +kernel
theorem dX8_findTurn_58 : decode cX8_findTurn 58 = .ok (.aload_n 0, 1) := by decide +kernel
theorem dX8_findTurn_59 : decode cX8_findTurn 59 = .ok (.iload_n 1, 1) := by decide +kernel
theorem dX8_findTurn_60 : decode cX8_findTurn 60 = .ok (.iload_n 2, 1) := by decide +kernel
theorem dX8_findTurn_61 : decode cX8_findTurn 61 = .ok (.iload 4, 2) := by decide +kernel
theorem dX8_findTurn_63 : decode cX8_findTurn 63 = .ok (.iload_n 3, 1) := by decide +kernel
theorem dX8_findTurn_64 : decode cX8_findTurn 64 = .ok (.invokevirtual 150, 3) := by decide +kernel
theorem dX8_findTurn_67 : decode cX8_findTurn 67 = .ok (.istore 5, 2) := by decide +kernel
theorem dX8_findTurn_69 : decode cX8_findTurn 69 = .ok (.iload 5, 2) := by decide +kernel
theorem dX8_findTurn_71 : decode cX8_findTurn 71 = .ok (.ifCond .ne 6, 3) := by decide +kernel
theorem dX8_findTurn_74 : decode cX8_findTurn 74 = .ok (.goto 102, 3) := by decide +kernel
theorem dX8_findTurn_77 : decode cX8_findTurn 77 = .ok (.aload_n 0, 1) := by decide +kernel
theorem dX8_findTurn_78 : decode cX8_findTurn 78 = .ok (.getfield 50, 3) := by decide +kernel
theorem dX8_findTurn_81 : decode cX8_findTurn 81 = .ok (.iload_n 3, 1) := by decide +kernel
theorem dX8_findTurn_82 : decode cX8_findTurn 82 = .ok (.dup2, 1) := by decide +kernel
theorem dX8_findTurn_83 : decode cX8_findTurn 83 = .ok (.laload, 1) := by decide +kernel
theorem dX8_findTurn_84 : decode cX8_findTurn 84 = .ok (.aload_n 0, 1) := by decide +kernel
theorem dX8_findTurn_85 : decode cX8_findTurn 85 = .ok (.getfield 50, 3) := by decide +kernel
theorem dX8_findTurn_88 : decode cX8_findTurn 88 = .ok (.iload 4, 2) := by decide +kernel
theorem dX8_findTurn_90 : decode cX8_findTurn 90 = .ok (.laload, 1) := by decide +kernel
theorem dX8_findTurn_91 : decode cX8_findTurn 91 = .ok (.iload 5, 2) := by decide +kernel
theorem dX8_findTurn_93 : decode cX8_findTurn 93 = .ok (.i2l, 1) := by decide +kernel
theorem dX8_findTurn_94 : decode cX8_findTurn 94 = .ok (.lmul, 1) := by decide +kernel
theorem dX8_findTurn_95 : decode cX8_findTurn 95 = .ok (.ladd, 1) := by decide +kernel
theorem dX8_findTurn_96 : decode cX8_findTurn 96 = .ok (.lastore, 1) := by decide +kernel
theorem dX8_findTurn_97 : decode cX8_findTurn 97 = .ok (.aload_n 0, 1) := by decide +kernel
theorem dX8_findTurn_98 : decode cX8_findTurn 98 = .ok (.getfield 50, 3) := by decide +kernel
theorem dX8_findTurn_101 : decode cX8_findTurn 101 = .ok (.iload_n 3, 1) := by decide +kernel
theorem dX8_findTurn_102 : decode cX8_findTurn 102 = .ok (.aload_n 0, 1) := by decide +kernel
theorem dX8_findTurn_103 : decode cX8_findTurn 103 = .ok (.getfield 50, 3) := by decide +kernel
theorem dX8_findTurn_106 : decode cX8_findTurn 106 = .ok (.iload_n 3, 1) := by decide +kernel
theorem dX8_findTurn_107 : decode cX8_findTurn 107 = .ok (.laload, 1) := by decide +kernel
theorem dX8_findTurn_108 : decode cX8_findTurn 108 = .ok (.ldc2_w 153, 3) := by decide +kernel
theorem dX8_findTurn_111 : decode cX8_findTurn 111 = .ok (.lcmp, 1) := by decide +kernel
theorem dX8_findTurn_112 : decode cX8_findTurn 112 = .ok (.ifCond .le 9, 3) := by decide +kernel
theorem dX8_findTurn_115 : decode cX8_findTurn 115 = .ok (.ldc2_w 153, 3) := by decide +kernel
theorem dX8_findTurn_118 : decode cX8_findTurn 118 = .ok (.goto 9, 3) := by decide +kernel
theorem dX8_findTurn_121 : decode cX8_findTurn 121 = .ok (.aload_n 0, 1) := by decide +kernel
theorem dX8_findTurn_122 : decode cX8_findTurn 122 = .ok (.getfield 50, 3) := by decide +kernel
theorem dX8_findTurn_125 : decode cX8_findTurn 125 = .ok (.iload_n 3, 1) := by decide +kernel
theorem dX8_findTurn_126 : decode cX8_findTurn 126 = .ok (.laload, 1) := by decide +kernel
theorem dX8_findTurn_127 : decode cX8_findTurn 127 = .ok (.lastore, 1) := by decide +kernel
theorem dX8_findTurn_128 : decode cX8_findTurn 128 = .ok (.aload_n 0, 1) := by decide +kernel
theorem dX8_findTurn_129 : decode cX8_findTurn 129 = .ok (.getfield 54, 3) := by decide +kernel
theorem dX8_findTurn_132 : decode cX8_findTurn 132 = .ok (.iload 4, 2) := by decide +kernel
theorem dX8_findTurn_134 : decode cX8_findTurn 134 = .ok (.iaload, 1) := by decide +kernel
theorem dX8_findTurn_135 : decode cX8_findTurn 135 = .ok (.iconst 1, 1) := by decide +kernel
theorem dX8_findTurn_136 : decode cX8_findTurn 136 = .ok (.iadd, 1) := by decide +kernel
theorem dX8_findTurn_137 : decode cX8_findTurn 137 = .ok (.istore 6, 2) := by decide +kernel
theorem dX8_findTurn_139 : decode cX8_findTurn 139 = .ok (.aload_n 0, 1) := by decide +kernel
theorem dX8_findTurn_140 : decode cX8_findTurn 140 = .ok (.getfield 54, 3) := by decide +kernel
theorem dX8_findTurn_143 : decode cX8_findTurn 143 = .ok (.iload_n 3, 1) := by decide +kernel
theorem dX8_findTurn_144 : decode cX8_findTurn 144 = .ok (.aload_n 0, 1) := by decide +kernel
theorem dX8_findTurn_145 : decode cX8_findTurn 145 = .ok (.getfield 54, 3) := by decide +kernel
theorem dX8_findTurn_148 : decode cX8_findTurn 148 = .ok (.iload_n 3, 1) := by decide +kernel
theorem dX8_findTurn_149 : decode cX8_findTurn 149 = .ok (.iaload, 1) := by decide +kernel
theorem dX8_findTurn_150 : decode cX8_findTurn 150 = .ok (.ifCond .eq 14, 3) := by decide +kernel
theorem dX8_findTurn_153 : decode cX8_findTurn 153 = .ok (.iload 6, 2) := by decide +kernel
theorem dX8_findTurn_155 : decode cX8_findTurn 155 = .ok (.aload_n 0, 1) := by decide +kernel
theorem dX8_findTurn_156 : decode cX8_findTurn 156 = .ok (.getfield 54, 3) := by decide +kernel
theorem dX8_findTurn_159 : decode cX8_findTurn 159 = .ok (.iload_n 3, 1) := by decide +kernel
theorem dX8_findTurn_160 : decode cX8_findTurn 160 = .ok (.iaload, 1) := by decide +kernel
theorem dX8_findTurn_161 : decode cX8_findTurn 161 = .ok (.if_icmp .ge 8, 3) := by decide +kernel
theorem dX8_findTurn_164 : decode cX8_findTurn 164 = .ok (.iload 6, 2) := by decide +kernel
theorem dX8_findTurn_166 : decode cX8_findTurn 166 = .ok (.goto 9, 3) := by decide +kernel
theorem dX8_findTurn_169 : decode cX8_findTurn 169 = .ok (.aload_n 0, 1) := by decide +kernel
theorem dX8_findTurn_170 : decode cX8_findTurn 170 = .ok (.getfield 54, 3) := by decide +kernel
theorem dX8_findTurn_173 : decode cX8_findTurn 173 = .ok (.iload_n 3, 1) := by decide +kernel
theorem dX8_findTurn_174 : decode cX8_findTurn 174 = .ok (.iaload, 1) := by decide +kernel
theorem dX8_findTurn_175 : decode cX8_findTurn 175 = .ok (.iastore, 1) := by decide +kernel
theorem dX8_findTurn_176 : decode cX8_findTurn 176 = .ok (.iinc 4 1, 3) := by decide +kernel
theorem dX8_findTurn_179 : decode cX8_findTurn 179 = .ok (.goto (-142), 3) := by decide +kernel
theorem dX8_findTurn_182 : decode cX8_findTurn 182 = .ok (.iinc 3 1, 3) := by decide +kernel
theorem dX8_findTurn_185 : decode cX8_findTurn 185 = .ok (.goto (-183), 3) := by decide +kernel
theorem dX8_findTurn_188 : decode cX8_findTurn 188 = .ok (.return_, 1) := by decide +kernel
theorem dX8_ways_0 : decode cX8_ways 0 = .ok (.iload_n 1, 1) := by decide +kernel
theorem dX8_ways_1 : decode cX8_ways 1 = .ok (.invokestatic 103, 3) := by decide +kernel
theorem dX8_ways_4 : decode cX8_ways 4 = .ok (.ifCond .eq 10, 3) := by decide +kernel
theorem dX8_ways_7 : decode cX8_ways 7 = .ok (.iload_n 2, 1) := by decide +kernel
theorem dX8_ways_8 : decode cX8_ways 8 = .ok (.invokestatic 155, 3) := by decide +kernel
theorem dX8_ways_11 : decode cX8_ways 11 = .ok (.ifCond .ne 6, 3) := by decide +kernel
theorem dX8_ways_14 : decode cX8_ways 14 = .ok (.ldc 71, 2) := by decide +kernel
theorem dX8_ways_16 : decode cX8_ways 16 = .ok (.ireturn, 1) := by decide +kernel
theorem dX8_ways_17 : decode cX8_ways 17 = .ok (.aload_n 0, 1) := by decide +kernel
theorem dX8_ways_18 : decode cX8_ways 18 = .ok (.getfield 41, 3) := by decide +kernel
theorem dX8_ways_21 : decode cX8_ways 21 = .ok (.iload_n 2, 1) := by decide +kernel
theorem dX8_ways_22 : decode cX8_ways 22 = .ok (.iaload, 1) := by decide +kernel
theorem dX8_ways_23 : decode cX8_ways 23 = .ok (.ifCond .ge 6, 3) := by decide +kernel
theorem dX8_ways_26 : decode cX8_ways 26 = .ok (.ldc 158, 2) := by decide +kernel
theorem dX8_ways_28 : decode cX8_ways 28 = .ok (.ireturn, 1) := by decide +kernel
theorem dX8_ways_29 : decode cX8_ways 29 = .ok (.aload_n 0, 1) := by decide +kernel
theorem dX8_ways_30 : decode cX8_ways 30 = .ok (.iload_n 1, 1) := by decide +kernel
theorem dX8_ways_31 : decode cX8_ways 31 = .ok (.iload_n 2, 1) := by decide +kernel
theorem dX8_ways_32 : decode cX8_ways 32 = .ok (.invokevirtual 159, 3) := by decide +kernel
theorem dX8_ways_35 : decode cX8_ways 35 = .ok (.aload_n 0, 1) := by decide +kernel
theorem dX8_ways_36 : decode cX8_ways 36 = .ok (.getfield 41, 3) := by decide +kernel
theorem dX8_ways_39 : decode cX8_ways 39 = .ok (.iload_n 2, 1) := by decide +kernel
theorem dX8_ways_40 : decode cX8_ways 40 = .ok (.iaload, 1) := by decide +kernel
theorem dX8_ways_41 : decode cX8_ways 41 = .ok (.ifCond .ne 7, 3) := by decide +kernel
theorem dX8_ways_44 : decode cX8_ways 44 = .ok (.iconst 0, 1) := by decide +kernel
theorem dX8_ways_45 : decode cX8_ways 45 = .ok (.goto 15, 3) := by decide +kernel
theorem dX8_ways_48 : decode cX8_ways 48 = .ok (.aload_n 0, 1) := by decide +kernel
theorem dX8_ways_49 : decode cX8_ways 49 = .ok (.getfield 50, 3) := by decide +kernel
theorem dX8_ways_52 : decode cX8_ways 52 = .ok (.aload_n 0, 1) := by decide +kernel
theorem dX8_ways_53 : decode cX8_ways 53 = .ok (.getfield 41, 3) := by decide +kernel
theorem dX8_ways_56 : decode cX8_ways 56 = .ok (.iload_n 2, 1) := by decide +kernel
theorem dX8_ways_57 : decode cX8_ways 57 = .ok (.iaload, 1) := by decide +kernel
theorem dX8_ways_58 : decode cX8_ways 58 = .ok (.laload, 1) := by decide +kernel
theorem dX8_ways_59 : decode cX8_ways 59 = .ok (.l2i, 1) := by decide +kernel
theorem dX8_ways_60 : decode cX8_ways 60 = .ok (.ireturn, 1) := by decide +kernel
theorem dX8_cuts_0 : decode cX8_cuts 0 = .ok (.iload_n 1, 1) := by decide +kernel
theorem dX8_cuts_1 : decode cX8_cuts 1 = .ok (.invokestatic 103, 3) := by decide +kernel
theorem dX8_cuts_4 : decode cX8_cuts 4 = .ok (.ifCond .eq 10, 3) := by decide +kernel
theorem dX8_cuts_7 : decode cX8_cuts 7 = .ok (.iload_n 2, 1) := by decide +kernel
theorem dX8_cuts_8 : decode cX8_cuts 8 = .ok (.invokestatic 155, 3) := by decide +kernel
theorem dX8_cuts_11 : decode cX8_cuts 11 = .ok (.ifCond .ne 6, 3) := by decide +kernel
theorem dX8_cuts_14 : decode cX8_cuts 14 = .ok (.ldc 71, 2) := by decide +kernel
theorem dX8_cuts_16 : decode cX8_cuts 16 = .ok (.ireturn, 1) := by decide +kernel
theorem dX8_cuts_17 : decode cX8_cuts 17 = .ok (.aload_n 0, 1) := by decide +kernel
theorem dX8_cuts_18 : decode cX8_cuts 18 = .ok (.getfield 41, 3) := by decide +kernel
theorem dX8_cuts_21 : decode cX8_cuts 21 = .ok (.iload_n 2, 1) := by decide +kernel
theorem dX8_cuts_22 : decode cX8_cuts 22 = .ok (.iaload, 1) := by decide +kernel
theorem dX8_cuts_23 : decode cX8_cuts 23 = .ok (.ifCond .ge 6, 3) := by decide +kernel
theorem dX8_cuts_26 : decode cX8_cuts 26 = .ok (.ldc 158, 2) := by decide +kernel
theorem dX8_cuts_28 : decode cX8_cuts 28 = .ok (.ireturn, 1) := by decide +kernel
theorem dX8_cuts_29 : decode cX8_cuts 29 = .ok (.aload_n 0, 1) := by decide +kernel
theorem dX8_cuts_30 : decode cX8_cuts 30 = .ok (.iload_n 1, 1) := by decide +kernel
theorem dX8_cuts_31 : decode cX8_cuts 31 = .ok (.iload_n 2, 1) := by decide +kernel
theorem dX8_cuts_32 : decode cX8_cuts 32 = .ok (.invokevirtual 159, 3) := by decide +kernel
theorem dX8_cuts_35 : decode cX8_cuts 35 = .ok (.aload_n 0, 1) := by decide +kernel
theorem dX8_cuts_36 : decode cX8_cuts 36 = .ok (.getfield 41, 3) := by decide +kernel
theorem dX8_cuts_39 : decode cX8_cuts 39 = .ok (.iload_n 2, 1) := by decide +kernel
theorem dX8_cuts_40 : decode cX8_cuts 40 = .ok (.iaload, 1) := by decide +kernel
theorem dX8_cuts_41 : decode cX8_cuts 41 = .ok (.ifCond .eq 19, 3) := by decide +kernel
theorem dX8_cuts_44 : decode cX8_cuts 44 = .ok (.aload_n 0, 1) := by decide +kernel
theorem dX8_cuts_45 : decode cX8_cuts 45 = .ok (.getfield 50, 3) := by decide +kernel
theorem dX8_cuts_48 : decode cX8_cuts 48 = .ok (.aload_n 0, 1) := by decide +kernel
theorem dX8_cuts_49 : decode cX8_cuts 49 = .ok (.getfield 41, 3) := by decide +kernel
theorem dX8_cuts_52 : decode cX8_cuts 52 = .ok (.iload_n 2, 1) := by decide +kernel
theorem dX8_cuts_53 : decode cX8_cuts 53 = .ok (.iaload, 1) := by decide +kernel
theorem dX8_cuts_54 : decode cX8_cuts 54 = .ok (.laload, 1) := by decide +kernel
theorem dX8_cuts_55 : decode cX8_cuts 55 = .ok (.lconst 0, 1) := by decide +kernel
theorem dX8_cuts_56 : decode cX8_cuts 56 = .ok (.lcmp, 1) := by decide +kernel
theorem dX8_cuts_57 : decode cX8_cuts 57 = .ok (.ifCond .ne 8, 3) := by decide +kernel
theorem dX8_cuts_60 : decode cX8_cuts 60 = .ok (.ldc 106, 2) := by decide +kernel
theorem dX8_cuts_62 : decode cX8_cuts 62 = .ok (.goto 14, 3) := by decide +kernel
theorem dX8_cuts_65 : decode cX8_cuts 65 = .ok (.aload_n 0, 1) := by decide +kernel
theorem dX8_cuts_66 : decode cX8_cuts 66 = .ok (.getfield 54, 3) := by decide +kernel
theorem dX8_cuts_69 : decode cX8_cuts 69 = .ok (.aload_n 0, 1) := by decide +kernel
theorem dX8_cuts_70 : decode cX8_cuts 70 = .ok (.getfield 41, 3) := by decide +kernel
theorem dX8_cuts_73 : decode cX8_cuts 73 = .ok (.iload_n 2, 1) := by decide +kernel
theorem dX8_cuts_74 : decode cX8_cuts 74 = .ok (.iaload, 1) := by decide +kernel
theorem dX8_cuts_75 : decode cX8_cuts 75 = .ok (.iaload, 1) := by decide +kernel
theorem dX8_cuts_76 : decode cX8_cuts 76 = .ok (.ireturn, 1) := by decide +kernel
theorem dX8_hand_0 : decode cX8_hand 0 = .ok (.iload_n 1, 1) := by decide +kernel
theorem dX8_hand_1 : decode cX8_hand 1 = .ok (.iconst 0, 1) := by decide +kernel
theorem dX8_hand_2 : decode cX8_hand 2 = .ok (.bipush 7, 2) := by decide +kernel
theorem dX8_hand_4 : decode cX8_hand 4 = .ok (.invokestatic 63, 3) := by decide +kernel
theorem dX8_hand_7 : decode cX8_hand 7 = .ok (.ifCond .eq 12, 3) := by decide +kernel
theorem dX8_hand_10 : decode cX8_hand 10 = .ok (.iload_n 2, 1) := by decide +kernel
theorem dX8_hand_11 : decode cX8_hand 11 = .ok (.iconst 0, 1) := by decide +kernel
theorem dX8_hand_12 : decode cX8_hand 12 = .ok (.iconst 3, 1) := by decide +kernel
theorem dX8_hand_13 : decode cX8_hand 13 = .ok (.invokestatic 63, 3) := by decide +kernel
theorem dX8_hand_16 : decode cX8_hand 16 = .ok (.ifCond .ne 6, 3) := by decide +kernel
theorem dX8_hand_19 : decode cX8_hand 19 = .ok (.ldc 71, 2) := by decide +kernel
theorem dX8_hand_21 : decode cX8_hand 21 = .ok (.ireturn, 1) := by decide +kernel
theorem dX8_hand_22 : decode cX8_hand 22 = .ok (.aload_n 0, 1) := by decide +kernel
theorem dX8_hand_23 : decode cX8_hand 23 = .ok (.getfield 25, 3) := by decide +kernel
theorem dX8_hand_26 : decode cX8_hand 26 = .ok (.iload_n 1, 1) := by decide +kernel
theorem dX8_hand_27 : decode cX8_hand 27 = .ok (.iaload, 1) := by decide +kernel
theorem dX8_hand_28 : decode cX8_hand 28 = .ok (.istore_n 3, 1) := by decide +kernel
theorem dX8_hand_29 : decode cX8_hand 29 = .ok (.aload_n 0, 1) := by decide +kernel
theorem dX8_hand_30 : decode cX8_hand 30 = .ok (.getfield 25, 3) := by decide +kernel
theorem dX8_hand_33 : decode cX8_hand 33 = .ok (.iload_n 1, 1) := by decide +kernel
theorem dX8_hand_34 : decode cX8_hand 34 = .ok (.iload_n 2, 1) := by decide +kernel
theorem dX8_hand_35 : decode cX8_hand 35 = .ok (.iastore, 1) := by decide +kernel
theorem dX8_hand_36 : decode cX8_hand 36 = .ok (.iload_n 3, 1) := by decide +kernel
theorem dX8_hand_37 : decode cX8_hand 37 = .ok (.ireturn, 1) := by decide +kernel
theorem dX8_handOf_0 : decode cX8_handOf 0 = .ok (.aload_n 0, 1) := by decide +kernel
theorem dX8_handOf_1 : decode cX8_handOf 1 = .ok (.getfield 22, 3) := by decide +kernel
theorem dX8_handOf_4 : decode cX8_handOf 4 = .ok (.bipush 60, 2) := by decide +kernel
theorem dX8_handOf_6 : decode cX8_handOf 6 = .ok (.iload_n 1, 1) := by decide +kernel
theorem dX8_handOf_7 : decode cX8_handOf 7 = .ok (.imul, 1) := by decide +kernel
theorem dX8_handOf_8 : decode cX8_handOf 8 = .ok (.iload_n 2, 1) := by decide +kernel
theorem dX8_handOf_9 : decode cX8_handOf 9 = .ok (.iadd, 1) := by decide +kernel
theorem dX8_handOf_10 : decode cX8_handOf 10 = .ok (.iaload, 1) := by decide +kernel
theorem dX8_handOf_11 : decode cX8_handOf 11 = .ok (.istore_n 3, 1) := by decide +kernel
theorem dX8_handOf_12 : decode cX8_handOf 12 = .ok (.iload_n 3, 1) := by decide +kernel
theorem dX8_handOf_13 : decode cX8_handOf 13 = .ok (.bipush 8, 2) := by decide +kernel
theorem dX8_handOf_15 : decode cX8_handOf 15 = .ok (.if_icmp .ne 7, 3) := by decide +kernel
theorem dX8_handOf_18 : decode cX8_handOf 18 = .ok (.iconst 4, 1) := by decide +kernel
theorem dX8_handOf_19 : decode cX8_handOf 19 = .ok (.goto 9, 3) := by decide +kernel
theorem dX8_handOf_22 : decode cX8_handOf 22 = .ok (.aload_n 0, 1) := by decide +kernel
theorem dX8_handOf_23 : decode cX8_handOf 23 = .ok (.getfield 25, 3) := by decide +kernel
theorem dX8_handOf_26 : decode cX8_handOf 26 = .ok (.iload_n 3, 1) := by decide +kernel
theorem dX8_handOf_27 : decode cX8_handOf 27 = .ok (.iaload, 1) := by decide +kernel
theorem dX8_handOf_28 : decode cX8_handOf 28 = .ok (.ireturn, 1) := by decide +kernel
theorem dX8_mayBe_0 : decode cX8_mayBe 0 = .ok (.aload_n 0, 1) := by decide +kernel
theorem dX8_mayBe_1 : decode cX8_mayBe 1 = .ok (.iload_n 1, 1) := by decide +kernel
theorem dX8_mayBe_2 : decode cX8_mayBe 2 = .ok (.iload_n 2, 1) := by decide +kernel
theorem dX8_mayBe_3 : decode cX8_mayBe 3 = .ok (.invokevirtual 163, 3) := by decide +kernel
theorem dX8_mayBe_6 : decode cX8_mayBe 6 = .ok (.istore 4, 2) := by decide +kernel
theorem dX8_mayBe_8 : decode cX8_mayBe 8 = .ok (.iload 4, 2) := by decide +kernel
theorem dX8_mayBe_10 : decode cX8_mayBe 10 = .ok (.iconst 3, 1) := by decide +kernel
theorem dX8_mayBe_11 : decode cX8_mayBe 11 = .ok (.if_icmp .ne 16, 3) := by decide +kernel
theorem dX8_mayBe_14 : decode cX8_mayBe 14 = .ok (.iload_n 3, 1) := by decide +kernel
theorem dX8_mayBe_15 : decode cX8_mayBe 15 = .ok (.iconst 2, 1) := by decide +kernel
theorem dX8_mayBe_16 : decode cX8_mayBe 16 = .ok (.if_icmp .ge 7, 3) := by decide +kernel
theorem dX8_mayBe_19 : decode cX8_mayBe 19 = .ok (.iconst 1, 1) := by decide +kernel
theorem dX8_mayBe_20 : decode cX8_mayBe 20 = .ok (.goto 18, 3) := by decide +kernel
theorem dX8_mayBe_23 : decode cX8_mayBe 23 = .ok (.iconst 0, 1) := by decide +kernel
theorem dX8_mayBe_24 : decode cX8_mayBe 24 = .ok (.goto 14, 3) := by decide +kernel
theorem dX8_mayBe_27 : decode cX8_mayBe 27 = .ok (.iload 4, 2) := by decide +kernel
theorem dX8_mayBe_29 : decode cX8_mayBe 29 = .ok (.iload_n 3, 1) := by decide +kernel
theorem dX8_mayBe_30 : decode cX8_mayBe 30 = .ok (.if_icmp .ne 7, 3) := by decide +kernel
theorem dX8_mayBe_33 : decode cX8_mayBe 33 = .ok (.iconst 1, 1) := by decide +kernel
theorem dX8_mayBe_34 : decode cX8_mayBe 34 = .ok (.goto 4, 3) := by decide +kernel
theorem dX8_mayBe_37 : decode cX8_mayBe 37 = .ok (.iconst 0, 1) := by decide +kernel
theorem dX8_mayBe_38 : decode cX8_mayBe 38 = .ok (.ireturn, 1) := by decide +kernel
theorem dX8_strain_0 : decode cX8_strain 0 = .ok (.iload_n 0, 1) := by decide +kernel
theorem dX8_strain_1 : decode cX8_strain 1 = .ok (.iconst 4, 1) := by decide +kernel
theorem dX8_strain_2 : decode cX8_strain 2 = .ok (.if_icmp .ge 27, 3) := by decide +kernel
theorem dX8_strain_5 : decode cX8_strain 5 = .ok (.iload_n 1, 1) := by decide +kernel
theorem dX8_strain_6 : decode cX8_strain 6 = .ok (.iconst 4, 1) := by decide +kernel
theorem dX8_strain_7 : decode cX8_strain 7 = .ok (.if_icmp .ge 22, 3) := by decide +kernel
theorem dX8_strain_10 : decode cX8_strain 10 = .ok (.iload_n 0, 1) := by decide +kernel
theorem dX8_strain_11 : decode cX8_strain 11 = .ok (.iload_n 1, 1) := by decide +kernel
theorem dX8_strain_12 : decode cX8_strain 12 = .ok (.if_icmp .eq 13, 3) := by decide +kernel
theorem dX8_strain_15 : decode cX8_strain 15 = .ok (.iload_n 0, 1) := by decide +kernel
theorem dX8_strain_16 : decode cX8_strain 16 = .ok (.iconst 2, 1) := by decide +kernel
theorem dX8_strain_17 : decode cX8_strain 17 = .ok (.if_icmp .eq 8, 3) := by decide +kernel
theorem dX8_strain_20 : decode cX8_strain 20 = .ok (.iload_n 1, 1) := by decide +kernel
theorem dX8_strain_21 : decode cX8_strain 21 = .ok (.iconst 2, 1) := by decide +kernel
theorem dX8_strain_22 : decode cX8_strain 22 = .ok (.if_icmp .ne 7, 3) := by decide +kernel
theorem dX8_strain_25 : decode cX8_strain 25 = .ok (.iconst 1, 1) := by decide +kernel
theorem dX8_strain_26 : decode cX8_strain 26 = .ok (.goto 4, 3) := by decide +kernel
theorem dX8_strain_29 : decode cX8_strain 29 = .ok (.iconst 0, 1) := by decide +kernel
theorem dX8_strain_30 : decode cX8_strain 30 = .ok (.ireturn, 1) := by decide +kernel
theorem dX8_findPlay_0 : decode cX8_findPlay 0 = .ok (.aload_n 0, 1) := by decide +kernel
theorem dX8_findPlay_1 : decode cX8_findPlay 1 = .ok (.getfield 19, 3) := by decide +kernel
theorem dX8_findPlay_4 : decode cX8_findPlay 4 = .ok (.iload_n 1, 1) := by decide +kernel
theorem dX8_findPlay_5 : decode cX8_findPlay 5 = .ok (.iaload, 1) := by decide +kernel
theorem dX8_findPlay_6 : decode cX8_findPlay 6 = .ok (.istore_n 2, 1) := by decide +kernel
theorem dX8_findPlay_7 : decode cX8_findPlay 7 = .ok (.iload_n 2, 1) := by decide +kernel
theorem dX8_findPlay_8 : decode cX8_findPlay 8 = .ok (.iconst 1, 1) := by decide +kernel
theorem dX8_findPlay_9 : decode cX8_findPlay 9 = .ok (.isub, 1) := by decide +kernel
theorem dX8_findPlay_10 : decode cX8_findPlay 10 = .ok (.istore_n 3, 1) := by decide +kernel
theorem dX8_findPlay_11 : decode cX8_findPlay 11 = .ok (.iload_n 3, 1) := by decide +kernel
theorem dX8_findPlay_12 : decode cX8_findPlay 12 = .ok (.ifCond .lt 130, 3) := by decide +kernel
theorem dX8_findPlay_15 : decode cX8_findPlay 15 = .ok (.iconst 0, 1) := by decide +kernel
theorem dX8_findPlay_16 : decode cX8_findPlay 16 = .ok (.istore 4, 2) := by decide +kernel
theorem dX8_findPlay_18 : decode cX8_findPlay 18 = .ok (.iload 4, 2) := by decide +kernel
theorem dX8_findPlay_20 : decode cX8_findPlay 20 = .ok (.iconst 5, 1) := by decide +kernel
theorem dX8_findPlay_21 : decode cX8_findPlay 21 = .ok (.if_icmp .ge 115, 3) := by decide +kernel
theorem dX8_findPlay_24 : decode cX8_findPlay 24 = .ok (.iconst (-1), 1) := by decide +kernel
theorem dX8_findPlay_25 : decode cX8_findPlay 25 = .ok (.istore 5, 2) := by decide +kernel
theorem dX8_findPlay_27 : decode cX8_findPlay 27 = .ok (.iconst 0, 1) := by decide +kernel
theorem dX8_findPlay_28 : decode cX8_findPlay 28 = .ok (.istore 6, 2) := by decide +kernel
theorem dX8_findPlay_30 : decode cX8_findPlay 30 = .ok (.iload 6, 2) := by decide +kernel
theorem dX8_findPlay_32 : decode cX8_findPlay 32 = .ok (.iconst 5, 1) := by decide +kernel
theorem dX8_findPlay_33 : decode cX8_findPlay 33 = .ok (.if_icmp .ge 73, 3) := by decide +kernel
theorem dX8_findPlay_36 : decode cX8_findPlay 36 = .ok (.iload_n 3, 1) := by decide +kernel
theorem dX8_findPlay_37 : decode cX8_findPlay 37 = .ok (.iload_n 2, 1) := by decide +kernel
theorem dX8_findPlay_38 : decode cX8_findPlay 38 = .ok (.iconst 1, 1) := by decide +kernel
theorem dX8_findPlay_39 : decode cX8_findPlay 39 = .ok (.isub, 1) := by decide +kernel
theorem dX8_findPlay_40 : decode cX8_findPlay 40 = .ok (.if_icmp .ge 66, 3) := by decide +kernel
theorem dX8_findPlay_43 : decode cX8_findPlay 43 = .ok (.aload_n 0, 1) := by decide +kernel
theorem dX8_findPlay_44 : decode cX8_findPlay 44 = .ok (.iload_n 1, 1) := by decide +kernel
theorem dX8_findPlay_45 : decode cX8_findPlay 45 = .ok (.iload_n 3, 1) := by decide +kernel
theorem dX8_findPlay_46 : decode cX8_findPlay 46 = .ok (.iconst 1, 1) := by decide +kernel
theorem dX8_findPlay_47 : decode cX8_findPlay 47 = .ok (.iadd, 1) := by decide +kernel
theorem dX8_findPlay_48 : decode cX8_findPlay 48 = .ok (.iload 6, 2) := by decide +kernel
theorem dX8_findPlay_50 : decode cX8_findPlay 50 = .ok (.invokevirtual 166, 3) := by decide +kernel
theorem dX8_findPlay_53 : decode cX8_findPlay 53 = .ok (.ifCond .eq 47, 3) := by decide +kernel
theorem dX8_findPlay_56 : decode cX8_findPlay 56 = .ok (.aload_n 0, 1) := by decide +kernel
theorem dX8_findPlay_57 : decode cX8_findPlay 57 = .ok (.getfield 57, 3) := by decide +kernel
theorem dX8_findPlay_60 : decode cX8_findPlay 60 = .ok (.iconst 5, 1) := by decide +kernel
theorem dX8_findPlay_61 : decode cX8_findPlay 61 = .ok (.iload_n 3, 1) := by decide +kernel
theorem dX8_findPlay_62 : decode cX8_findPlay 62 = .ok (.iconst 1, 1) := by decide +kernel
theorem dX8_findPlay_63 : decode cX8_findPlay 63 = .ok (.iadd, 1) := by decide +kernel
theorem dX8_findPlay_64 : decode cX8_findPlay 64 = .ok (.imul, 1) := by decide +kernel
theorem dX8_findPlay_65 : decode cX8_findPlay 65 = .ok (.iload 6, 2) := by decide +kernel
theorem dX8_findPlay_67 : decode cX8_findPlay 67 = .ok (.iadd, 1) := by decide +kernel
theorem dX8_findPlay_68 : decode cX8_findPlay 68 = .ok (.iaload, 1) := by decide +kernel
theorem dX8_findPlay_69 : decode cX8_findPlay 69 = .ok (.iload 4, 2) := by decide +kernel
theorem dX8_findPlay_71 : decode cX8_findPlay 71 = .ok (.iload 6, 2) := by decide +kernel
theorem dX8_findPlay_73 : decode cX8_findPlay 73 = .ok (.invokestatic 169, 3) := by decide +kernel
theorem dX8_findPlay_76 : decode cX8_findPlay 76 = .ok (.iadd, 1) := by decide +kernel
theorem dX8_findPlay_77 : decode cX8_findPlay 77 = .ok (.istore 7, 2) := by decide +kernel
theorem dX8_findPlay_79 : decode cX8_findPlay 79 = .ok (.iload 5, 2) := by decide +kernel
theorem dX8_findPlay_81 : decode cX8_findPlay 81 = .ok (.ifCond .lt 10, 3) := by decide +kernel
theorem dX8_findPlay_84 : decode cX8_findPlay 84 = .ok (.iload 7, 2) := by decide +kernel
theorem dX8_findPlay_86 : decode cX8_findPlay 86 = .ok (.iload 5, 2) := by decide +kernel
theorem dX8_findPlay_88 : decode cX8_findPlay 88 = .ok (.if_icmp .ge 8, 3) := by decide +kernel
theorem dX8_findPlay_91 : decode cX8_findPlay 91 = .ok (.iload 7, 2) := by decide +kernel
theorem dX8_findPlay_93 : decode cX8_findPlay 93 = .ok (.goto 5, 3) := by decide +kernel
theorem dX8_findPlay_96 : decode cX8_findPlay 96 = .ok (.iload 5, 2) := by decide +kernel
theorem dX8_findPlay_98 : decode cX8_findPlay 98 = .ok (.istore 5, 2) := by decide +kernel
theorem dX8_findPlay_100 : decode cX8_findPlay 100 = .ok (.iinc 6 1, 3) := by decide +kernel
theorem dX8_findPlay_103 : decode cX8_findPlay 103 = .ok (.goto (-73), 3) := by decide +kernel
theorem dX8_findPlay_106 : decode cX8_findPlay 106 = .ok (.aload_n 0, 1) := by decide +kernel
theorem dX8_findPlay_107 : decode cX8_findPlay 107 = .ok (.getfield 57, 3) := by decide +kernel
theorem dX8_findPlay_110 : decode cX8_findPlay 110 = .ok (.iconst 5, 1) := by decide +kernel
theorem dX8_findPlay_111 : decode cX8_findPlay 111 = .ok (.iload_n 3, 1) := by decide +kernel
theorem dX8_findPlay_112 : decode cX8_findPlay 112 = .ok (.imul, 1) := by decide +kernel
theorem dX8_findPlay_113 : decode cX8_findPlay 113 = .ok (.iload 4, 2) := by decide +kernel
theorem dX8_findPlay_115 : decode cX8_findPlay 115 = .ok (.iadd, 1) := by decide +kernel
theorem dX8_findPlay_116 : decode cX8_findPlay 116 = .ok (.iload_n 3, 1) := by decide +kernel
theorem dX8_findPlay_117 : decode cX8_findPlay 117 = .ok (.iload_n 2, 1) := by decide +kernel
theorem dX8_findPlay_118 : decode cX8_findPlay 118 = .ok (.iconst 1, 1) := by decide +kernel
theorem dX8_findPlay_119 : decode cX8_findPlay 119 = .ok (.isub, 1) := by decide +kernel
theorem dX8_findPlay_120 : decode cX8_findPlay 120 = .ok (.if_icmp .ne 7, 3) := by decide +kernel
theorem dX8_findPlay_123 : decode cX8_findPlay 123 = .ok (.iconst 0, 1) := by decide +kernel
theorem dX8_findPlay_124 : decode cX8_findPlay 124 = .ok (.goto 5, 3) := by decide +kernel
theorem dX8_findPlay_127 : decode cX8_findPlay 127 = .ok (.iload 5, 2) := by decide +kernel
theorem dX8_findPlay_129 : decode cX8_findPlay 129 = .ok (.iastore, 1) := by decide +kernel
theorem dX8_findPlay_130 : decode cX8_findPlay 130 = .ok (.iinc 4 1, 3) := by decide +kernel
theorem dX8_findPlay_133 : decode cX8_findPlay 133 = .ok (.goto (-115), 3) := by decide +kernel
theorem dX8_findPlay_136 : decode cX8_findPlay 136 = .ok (.iinc 3 (-1), 3) := by decide +kernel
theorem dX8_findPlay_139 : decode cX8_findPlay 139 = .ok (.goto (-128), 3) := by decide +kernel
theorem dX8_findPlay_142 : decode cX8_findPlay 142 = .ok (.iconst 4, 1) := by decide +kernel
theorem dX8_findPlay_143 : decode cX8_findPlay 143 = .ok (.istore_n 3, 1) := by decide +kernel
theorem dX8_findPlay_144 : decode cX8_findPlay 144 = .ok (.iconst 0, 1) := by decide +kernel
theorem dX8_findPlay_145 : decode cX8_findPlay 145 = .ok (.istore 4, 2) := by decide +kernel
theorem dX8_findPlay_147 : decode cX8_findPlay 147 = .ok (.iload 4, 2) := by decide +kernel
theorem dX8_findPlay_149 : decode cX8_findPlay 149 = .ok (.iload_n 2, 1) := by decide +kernel
theorem dX8_findPlay_150 : decode cX8_findPlay 150 = .ok (.if_icmp .ge 101, 3) := by decide +kernel
theorem dX8_findPlay_153 : decode cX8_findPlay 153 = .ok (.iconst (-1), 1) := by decide +kernel
theorem dX8_findPlay_154 : decode cX8_findPlay 154 = .ok (.istore 5, 2) := by decide +kernel
theorem dX8_findPlay_156 : decode cX8_findPlay 156 = .ok (.iconst 0, 1) := by decide +kernel
theorem dX8_findPlay_157 : decode cX8_findPlay 157 = .ok (.istore 6, 2) := by decide +kernel
theorem dX8_findPlay_159 : decode cX8_findPlay 159 = .ok (.iload 6, 2) := by decide +kernel
theorem dX8_findPlay_161 : decode cX8_findPlay 161 = .ok (.iconst 5, 1) := by decide +kernel
theorem dX8_findPlay_162 : decode cX8_findPlay 162 = .ok (.if_icmp .ge 71, 3) := by decide +kernel
theorem dX8_findPlay_165 : decode cX8_findPlay 165 = .ok (.aload_n 0, 1) := by decide +kernel
theorem dX8_findPlay_166 : decode cX8_findPlay 166 = .ok (.iload_n 1, 1) := by decide +kernel
theorem dX8_findPlay_167 : decode cX8_findPlay 167 = .ok (.iload 4, 2) := by decide +kernel
theorem dX8_findPlay_169 : decode cX8_findPlay 169 = .ok (.iload 6, 2) := by decide +kernel
theorem dX8_findPlay_171 : decode cX8_findPlay 171 = .ok (.invokevirtual 166, 3) := by decide +kernel
theorem dX8_findPlay_174 : decode cX8_findPlay 174 = .ok (.ifCond .eq 53, 3) := by decide +kernel
theorem dX8_findPlay_177 : decode cX8_findPlay 177 = .ok (.iload 5, 2) := by decide +kernel
theorem dX8_findPlay_179 : decode cX8_findPlay 179 = .ok (.ifCond .lt 44, 3) := by decide +kernel
theorem dX8_findPlay_182 : decode cX8_findPlay 182 = .ok (.aload_n 0, 1) := by decide +kernel
theorem dX8_findPlay_183 : decode cX8_findPlay 183 = .ok (.getfield 57, 3) := by decide +kernel
theorem dX8_findPlay_186 : decode cX8_findPlay 186 = .ok (.iconst 5, 1) := by decide +kernel
theorem dX8_findPlay_187 : decode cX8_findPlay 187 = .ok (.iload 4, 2) := by decide +kernel
theorem dX8_findPlay_189 : decode cX8_findPlay 189 = .ok (.imul, 1) := by decide +kernel
theorem dX8_findPlay_190 : decode cX8_findPlay 190 = .ok (.iload 6, 2) := by decide +kernel
theorem dX8_findPlay_192 : decode cX8_findPlay 192 = .ok (.iadd, 1) := by decide +kernel
theorem dX8_findPlay_193 : decode cX8_findPlay 193 = .ok (.iaload, 1) := by decide +kernel
theorem dX8_findPlay_194 : decode cX8_findPlay 194 = .ok (.iload_n 3, 1) := by decide +kernel
theorem dX8_findPlay_195 : decode cX8_findPlay 195 = .ok (.iload 6, 2) := by decide +kernel
theorem dX8_findPlay_197 : decode cX8_findPlay 197 = .ok (.invokestatic 169, 3) := by decide +kernel
theorem dX8_findPlay_200 : decode cX8_findPlay 200 = .ok (.iadd, 1) := by decide +kernel
theorem dX8_findPlay_201 : decode cX8_findPlay 201 = .ok (.aload_n 0, 1) := by decide +kernel
theorem dX8_findPlay_202 : decode cX8_findPlay 202 = .ok (.getfield 57, 3) := by decide +kernel
theorem dX8_findPlay_205 : decode cX8_findPlay 205 = .ok (.iconst 5, 1) := by decide +kernel
theorem dX8_findPlay_206 : decode cX8_findPlay 206 = .ok (.iload 4, 2) := by decide +kernel
theorem dX8_findPlay_208 : decode cX8_findPlay 208 = .ok (.imul, 1) := by decide +kernel
theorem dX8_findPlay_209 : decode cX8_findPlay 209 = .ok (.iload 5, 2) := by decide +kernel
theorem dX8_findPlay_211 : decode cX8_findPlay 211 = .ok (.iadd, 1) := by decide +kernel
theorem dX8_findPlay_212 : decode cX8_findPlay 212 = .ok (.iaload, 1) := by decide +kernel
theorem dX8_findPlay_213 : decode cX8_findPlay 213 = .ok (.iload_n 3, 1) := by decide +kernel
theorem dX8_findPlay_214 : decode cX8_findPlay 214 = .ok (.iload 5, 2) := by decide +kernel
theorem dX8_findPlay_216 : decode cX8_findPlay 216 = .ok (.invokestatic 169, 3) := by decide +kernel
theorem dX8_findPlay_219 : decode cX8_findPlay 219 = .ok (.iadd, 1) := by decide +kernel
theorem dX8_findPlay_220 : decode cX8_findPlay 220 = .ok (.if_icmp .ge 7, 3) := by decide +kernel
theorem dX8_findPlay_223 : decode cX8_findPlay 223 = .ok (.iload 6, 2) := by decide +kernel
theorem dX8_findPlay_225 : decode cX8_findPlay 225 = .ok (.istore 5, 2) := by decide +kernel
theorem dX8_findPlay_227 : decode cX8_findPlay 227 = .ok (.iinc 6 1, 3) := by decide +kernel
theorem dX8_findPlay_230 : decode cX8_findPlay 230 = .ok (.goto (-71), 3) := by decide +kernel
theorem dX8_findPlay_233 : decode cX8_findPlay 233 = .ok (.aload_n 0, 1) := by decide +kernel
theorem dX8_findPlay_234 : decode cX8_findPlay 234 = .ok (.getfield 60, 3) := by decide +kernel
theorem dX8_findPlay_237 : decode cX8_findPlay 237 = .ok (.iload 4, 2) := by decide +kernel
theorem dX8_findPlay_239 : decode cX8_findPlay 239 = .ok (.iload 5, 2) := by decide +kernel
theorem dX8_findPlay_241 : decode cX8_findPlay 241 = .ok (.iastore, 1) := by decide +kernel
theorem dX8_findPlay_242 : decode cX8_findPlay 242 = .ok (.iload 5, 2) := by decide +kernel
theorem dX8_findPlay_244 : decode cX8_findPlay 244 = .ok (.istore_n 3, 1) := by decide +kernel
theorem dX8_findPlay_245 : decode cX8_findPlay 245 = .ok (.iinc 4 1, 3) := by decide +kernel
theorem dX8_findPlay_248 : decode cX8_findPlay 248 = .ok (.goto (-101), 3) := by decide +kernel
theorem dX8_findPlay_251 : decode cX8_findPlay 251 = .ok (.return_, 1) := by decide +kernel
theorem dX8_strains_0 : decode cX8_strains 0 = .ok (.iload_n 1, 1) := by decide +kernel
theorem dX8_strains_1 : decode cX8_strains 1 = .ok (.invokestatic 103, 3) := by decide +kernel
theorem dX8_strains_4 : decode cX8_strains 4 = .ok (.ifCond .ne 6, 3) := by decide +kernel
theorem dX8_strains_7 : decode cX8_strains 7 = .ok (.ldc 71, 2) := by decide +kernel
theorem dX8_strains_9 : decode cX8_strains 9 = .ok (.ireturn, 1) := by decide +kernel
theorem dX8_strains_10 : decode cX8_strains 10 = .ok (.aload_n 0, 1) := by decide +kernel
theorem dX8_strains_11 : decode cX8_strains 11 = .ok (.getfield 19, 3) := by decide +kernel
theorem dX8_strains_14 : decode cX8_strains 14 = .ok (.iload_n 1, 1) := by decide +kernel
theorem dX8_strains_15 : decode cX8_strains 15 = .ok (.iaload, 1) := by decide +kernel
theorem dX8_strains_16 : decode cX8_strains 16 = .ok (.ifCond .ne 6, 3) := by decide +kernel
theorem dX8_strains_19 : decode cX8_strains 19 = .ok (.ldc 77, 2) := by decide +kernel
theorem dX8_strains_21 : decode cX8_strains 21 = .ok (.ireturn, 1) := by decide +kernel
theorem dX8_strains_22 : decode cX8_strains 22 = .ok (.aload_n 0, 1) := by decide +kernel
theorem dX8_strains_23 : decode cX8_strains 23 = .ok (.iload_n 1, 1) := by decide +kernel
theorem dX8_strains_24 : decode cX8_strains 24 = .ok (.invokevirtual 172, 3) := by decide +kernel
theorem dX8_strains_27 : decode cX8_strains 27 = .ok (.iconst 0, 1) := by decide +kernel
theorem dX8_strains_28 : decode cX8_strains 28 = .ok (.istore_n 2, 1) := by decide +kernel
theorem dX8_strains_29 : decode cX8_strains 29 = .ok (.iconst 1, 1) := by decide +kernel
theorem dX8_strains_30 : decode cX8_strains 30 = .ok (.istore_n 3, 1) := by decide +kernel
theorem dX8_strains_31 : decode cX8_strains 31 = .ok (.iload_n 3, 1) := by decide +kernel
theorem dX8_strains_32 : decode cX8_strains 32 = .ok (.aload_n 0, 1) := by decide +kernel
theorem dX8_strains_33 : decode cX8_strains 33 = .ok (.getfield 19, 3) := by decide +kernel
theorem dX8_strains_36 : decode cX8_strains 36 = .ok (.iload_n 1, 1) := by decide +kernel
theorem dX8_strains_37 : decode cX8_strains 37 = .ok (.iaload, 1) := by decide +kernel
theorem dX8_strains_38 : decode cX8_strains 38 = .ok (.if_icmp .ge 29, 3) := by decide +kernel
theorem dX8_strains_41 : decode cX8_strains 41 = .ok (.iload_n 2, 1) := by decide +kernel
theorem dX8_strains_42 : decode cX8_strains 42 = .ok (.aload_n 0, 1) := by decide +kernel
theorem dX8_strains_43 : decode cX8_strains 43 = .ok (.getfield 60, 3) := by decide +kernel
theorem dX8_strains_46 : decode cX8_strains 46 = .ok (.iload_n 3, 1) := by decide +kernel
theorem dX8_strains_47 : decode cX8_strains 47 = .ok (.iconst 1, 1) := by decide +kernel
theorem dX8_strains_48 : decode cX8_strains 48 = .ok (.isub, 1) := by decide +kernel
theorem dX8_strains_49 : decode cX8_strains 49 = .ok (.iaload, 1) := by decide +kernel
theorem dX8_strains_50 : decode cX8_strains 50 = .ok (.aload_n 0, 1) := by decide +kernel
theorem dX8_strains_51 : decode cX8_strains 51 = .ok (.getfield 60, 3) := by decide +kernel
theorem dX8_strains_54 : decode cX8_strains 54 = .ok (.iload_n 3, 1) := by decide +kernel
theorem dX8_strains_55 : decode cX8_strains 55 = .ok (.iaload, 1) := by decide +kernel
theorem dX8_strains_56 : decode cX8_strains 56 = .ok (.invokestatic 169, 3) := by decide +kernel
theorem dX8_strains_59 : decode cX8_strains 59 = .ok (.iadd, 1) := by decide +kernel
theorem dX8_strains_60 : decode cX8_strains 60 = .ok (.istore_n 2, 1) := by decide +kernel
theorem dX8_strains_61 : decode cX8_strains 61 = .ok (.iinc 3 1, 3) := by decide +kernel
theorem dX8_strains_64 : decode cX8_strains 64 = .ok (.goto (-33), 3) := by decide +kernel
theorem dX8_strains_67 : decode cX8_strains 67 = .ok (.iload_n 2, 1) := by decide +kernel
theorem dX8_strains_68 : decode cX8_strains 68 = .ok (.ireturn, 1) := by decide +kernel
theorem dX8_plays_0 : decode cX8_plays 0 = .ok (.iload_n 1, 1) := by decide +kernel
theorem dX8_plays_1 : decode cX8_plays 1 = .ok (.invokestatic 103, 3) := by decide +kernel
theorem dX8_plays_4 : decode cX8_plays 4 = .ok (.ifCond .eq 7, 3) := by decide +kernel
theorem dX8_plays_7 : decode cX8_plays 7 = .ok (.iload_n 2, 1) := by decide +kernel
theorem dX8_plays_8 : decode cX8_plays 8 = .ok (.ifCond .ge 6, 3) := by decide +kernel
theorem dX8_plays_11 : decode cX8_plays 11 = .ok (.ldc 71, 2) := by decide +kernel
theorem dX8_plays_13 : decode cX8_plays 13 = .ok (.ireturn, 1) := by decide +kernel
theorem dX8_plays_14 : decode cX8_plays 14 = .ok (.aload_n 0, 1) := by decide +kernel
theorem dX8_plays_15 : decode cX8_plays 15 = .ok (.getfield 19, 3) := by decide +kernel
theorem dX8_plays_18 : decode cX8_plays 18 = .ok (.iload_n 1, 1) := by decide +kernel
theorem dX8_plays_19 : decode cX8_plays 19 = .ok (.iaload, 1) := by decide +kernel
theorem dX8_plays_20 : decode cX8_plays 20 = .ok (.ifCond .ne 6, 3) := by decide +kernel
theorem dX8_plays_23 : decode cX8_plays 23 = .ok (.ldc 77, 2) := by decide +kernel
theorem dX8_plays_25 : decode cX8_plays 25 = .ok (.ireturn, 1) := by decide +kernel
theorem dX8_plays_26 : decode cX8_plays 26 = .ok (.iload_n 2, 1) := by decide +kernel
theorem dX8_plays_27 : decode cX8_plays 27 = .ok (.aload_n 0, 1) := by decide +kernel
theorem dX8_plays_28 : decode cX8_plays 28 = .ok (.getfield 19, 3) := by decide +kernel
theorem dX8_plays_31 : decode cX8_plays 31 = .ok (.iload_n 1, 1) := by decide +kernel
theorem dX8_plays_32 : decode cX8_plays 32 = .ok (.iaload, 1) := by decide +kernel
theorem dX8_plays_33 : decode cX8_plays 33 = .ok (.if_icmp .lt 6, 3) := by decide +kernel
theorem dX8_plays_36 : decode cX8_plays 36 = .ok (.ldc 71, 2) := by decide +kernel
theorem dX8_plays_38 : decode cX8_plays 38 = .ok (.ireturn, 1) := by decide +kernel
theorem dX8_plays_39 : decode cX8_plays 39 = .ok (.aload_n 0, 1) := by decide +kernel
theorem dX8_plays_40 : decode cX8_plays 40 = .ok (.iload_n 1, 1) := by decide +kernel
theorem dX8_plays_41 : decode cX8_plays 41 = .ok (.invokevirtual 172, 3) := by decide +kernel
theorem dX8_plays_44 : decode cX8_plays 44 = .ok (.aload_n 0, 1) := by decide +kernel
theorem dX8_plays_45 : decode cX8_plays 45 = .ok (.getfield 60, 3) := by decide +kernel
theorem dX8_plays_48 : decode cX8_plays 48 = .ok (.iload_n 2, 1) := by decide +kernel
theorem dX8_plays_49 : decode cX8_plays 49 = .ok (.iaload, 1) := by decide +kernel
theorem dX8_plays_50 : decode cX8_plays 50 = .ok (.iconst 4, 1) := by decide +kernel
theorem dX8_plays_51 : decode cX8_plays 51 = .ok (.if_icmp .ne 8, 3) := by decide +kernel
theorem dX8_plays_54 : decode cX8_plays 54 = .ok (.ldc 106, 2) := by decide +kernel
theorem dX8_plays_56 : decode cX8_plays 56 = .ok (.goto 9, 3) := by decide +kernel
theorem dX8_plays_59 : decode cX8_plays 59 = .ok (.aload_n 0, 1) := by decide +kernel
theorem dX8_plays_60 : decode cX8_plays 60 = .ok (.getfield 60, 3) := by decide +kernel
theorem dX8_plays_63 : decode cX8_plays 63 = .ok (.iload_n 2, 1) := by decide +kernel
theorem dX8_plays_64 : decode cX8_plays 64 = .ok (.iaload, 1) := by decide +kernel
theorem dX8_plays_65 : decode cX8_plays 65 = .ok (.ireturn, 1) := by decide +kernel
theorem dX8_join_0 : decode cX8_join 0 = .ok (.iload_n 1, 1) := by decide +kernel
theorem dX8_join_1 : decode cX8_join 1 = .ok (.invokestatic 103, 3) := by decide +kernel
theorem dX8_join_4 : decode cX8_join 4 = .ok (.ifCond .eq 31, 3) := by decide +kernel
theorem dX8_join_7 : decode cX8_join 7 = .ok (.iload_n 2, 1) := by decide +kernel
theorem dX8_join_8 : decode cX8_join 8 = .ok (.invokestatic 107, 3) := by decide +kernel
theorem dX8_join_11 : decode cX8_join 11 = .ok (.ifCond .eq 24, 3) := by decide +kernel
theorem dX8_join_14 : decode cX8_join 14 = .ok (.iload_n 3, 1) := by decide +kernel
theorem dX8_join_15 : decode cX8_join 15 = .ok (.iconst 1, 1) := by decide +kernel
theorem dX8_join_16 : decode cX8_join 16 = .ok (.bipush 9, 2) := by decide +kernel
theorem dX8_join_18 : decode cX8_join 18 = .ok (.invokestatic 63, 3) := by decide +kernel
theorem dX8_join_21 : decode cX8_join 21 = .ok (.ifCond .eq 14, 3) := by decide +kernel
theorem dX8_join_24 : decode cX8_join 24 = .ok (.iload 4, 2) := by decide +kernel
theorem dX8_join_26 : decode cX8_join 26 = .ok (.iconst 0, 1) := by decide +kernel
theorem dX8_join_27 : decode cX8_join 27 = .ok (.bipush 96, 2) := by decide +kernel
theorem dX8_join_29 : decode cX8_join 29 = .ok (.invokestatic 63, 3) := by decide +kernel
theorem dX8_join_32 : decode cX8_join 32 = .ok (.ifCond .ne 6, 3) := by decide +kernel
theorem dX8_join_35 : decode cX8_join 35 = .ok (.ldc 71, 2) := by decide +kernel
theorem dX8_join_37 : decode cX8_join 37 = .ok (.ireturn, 1) := by decide +kernel
theorem dX8_join_38 : decode cX8_join 38 = .ok (.aload_n 0, 1) := by decide +kernel
theorem dX8_join_39 : decode cX8_join 39 = .ok (.getfield 19, 3) := by decide +kernel
theorem dX8_join_42 : decode cX8_join 42 = .ok (.iload_n 1, 1) := by decide +kernel
theorem dX8_join_43 : decode cX8_join 43 = .ok (.iaload, 1) := by decide +kernel
theorem dX8_join_44 : decode cX8_join 44 = .ok (.ifCond .ne 6, 3) := by decide +kernel
theorem dX8_join_47 : decode cX8_join 47 = .ok (.ldc 77, 2) := by decide +kernel
theorem dX8_join_49 : decode cX8_join 49 = .ok (.ireturn, 1) := by decide +kernel
theorem dX8_join_50 : decode cX8_join 50 = .ok (.aload_n 0, 1) := by decide +kernel
theorem dX8_join_51 : decode cX8_join 51 = .ok (.getfield 175, 3) := by decide +kernel
theorem dX8_join_54 : decode cX8_join 54 = .ok (.bipush 20, 2) := by decide +kernel
theorem dX8_join_56 : decode cX8_join 56 = .ok (.if_icmp .ne 6, 3) := by decide +kernel
theorem dX8_join_59 : decode cX8_join 59 = .ok (.ldc 72, 2) := by decide +kernel
theorem dX8_join_61 : decode cX8_join 61 = .ok (.ireturn, 1) := by decide +kernel
theorem dX8_join_62 : decode cX8_join 62 = .ok (.aload_n 0, 1) := by decide +kernel
theorem dX8_join_63 : decode cX8_join 63 = .ok (.getfield 32, 3) := by decide +kernel
theorem dX8_join_66 : decode cX8_join 66 = .ok (.aload_n 0, 1) := by decide +kernel
theorem dX8_join_67 : decode cX8_join 67 = .ok (.getfield 175, 3) := by decide +kernel
theorem dX8_join_70 : decode cX8_join 70 = .ok (.iload_n 3, 1) := by decide +kernel
theorem dX8_join_71 : decode cX8_join 71 = .ok (.aload_n 0, 1) := by decide +kernel
theorem dX8_join_72 : decode cX8_join 72 = .ok (.iload_n 1, 1) := by decide +kernel
theorem dX8_join_73 : decode cX8_join 73 = .ok (.iload_n 2, 1) := by decide +kernel
theorem dX8_join_74 : decode cX8_join 74 = .ok (.invokevirtual 110, 3) := by decide +kernel
theorem dX8_join_77 : decode cX8_join 77 = .ok (.imul, 1) := by decide +kernel
theorem dX8_join_78 : decode cX8_join 78 = .ok (.iastore, 1) := by decide +kernel
theorem dX8_join_79 : decode cX8_join 79 = .ok (.aload_n 0, 1) := by decide +kernel
theorem dX8_join_80 : decode cX8_join 80 = .ok (.getfield 35, 3) := by decide +kernel
theorem dX8_join_83 : decode cX8_join 83 = .ok (.aload_n 0, 1) := by decide +kernel
theorem dX8_join_84 : decode cX8_join 84 = .ok (.getfield 175, 3) := by decide +kernel
theorem dX8_join_87 : decode cX8_join 87 = .ok (.iload 4, 2) := by decide +kernel
theorem dX8_join_89 : decode cX8_join 89 = .ok (.iastore, 1) := by decide +kernel
theorem dX8_join_90 : decode cX8_join 90 = .ok (.aload_n 0, 1) := by decide +kernel
theorem dX8_join_91 : decode cX8_join 91 = .ok (.dup, 1) := by decide +kernel
theorem dX8_join_92 : decode cX8_join 92 = .ok (.getfield 175, 3) := by decide +kernel
theorem dX8_join_95 : decode cX8_join 95 = .ok (.iconst 1, 1) := by decide +kernel
theorem dX8_join_96 : decode cX8_join 96 = .ok (.iadd, 1) := by decide +kernel
theorem dX8_join_97 : decode cX8_join 97 = .ok (.putfield 175, 3) := by decide +kernel
theorem dX8_join_100 : decode cX8_join 100 = .ok (.aload_n 0, 1) := by decide +kernel
theorem dX8_join_101 : decode cX8_join 101 = .ok (.getfield 175, 3) := by decide +kernel
theorem dX8_join_104 : decode cX8_join 104 = .ok (.ireturn, 1) := by decide +kernel
theorem dX8_drop_0 : decode cX8_drop 0 = .ok (.aload_n 0, 1) := by decide +kernel
theorem dX8_drop_1 : decode cX8_drop 1 = .ok (.getfield 175, 3) := by decide +kernel
theorem dX8_drop_4 : decode cX8_drop 4 = .ok (.istore_n 1, 1) := by decide +kernel
theorem dX8_drop_5 : decode cX8_drop 5 = .ok (.aload_n 0, 1) := by decide +kernel
theorem dX8_drop_6 : decode cX8_drop 6 = .ok (.iconst 0, 1) := by decide +kernel
theorem dX8_drop_7 : decode cX8_drop 7 = .ok (.putfield 175, 3) := by decide +kernel
theorem dX8_drop_10 : decode cX8_drop 10 = .ok (.iload_n 1, 1) := by decide +kernel
theorem dX8_drop_11 : decode cX8_drop 11 = .ok (.ireturn, 1) := by decide +kernel
theorem dX8_endOf_0 : decode cX8_endOf 0 = .ok (.iconst 0, 1) := by decide +kernel
theorem dX8_endOf_1 : decode cX8_endOf 1 = .ok (.istore_n 2, 1) := by decide +kernel
theorem dX8_endOf_2 : decode cX8_endOf 2 = .ok (.iconst 0, 1) := by decide +kernel
theorem dX8_endOf_3 : decode cX8_endOf 3 = .ok (.istore_n 3, 1) := by decide +kernel
theorem dX8_endOf_4 : decode cX8_endOf 4 = .ok (.iload_n 3, 1) := by decide +kernel
theorem dX8_endOf_5 : decode cX8_endOf 5 = .ok (.iload_n 1, 1) := by decide +kernel
theorem dX8_endOf_6 : decode cX8_endOf 6 = .ok (.if_icmp .gt 25, 3) := by decide +kernel
theorem dX8_endOf_9 : decode cX8_endOf 9 = .ok (.iload_n 2, 1) := by decide +kernel
theorem dX8_endOf_10 : decode cX8_endOf 10 = .ok (.aload_n 0, 1) := by decide +kernel
theorem dX8_endOf_11 : decode cX8_endOf 11 = .ok (.getfield 32, 3) := by decide +kernel
theorem dX8_endOf_14 : decode cX8_endOf 14 = .ok (.iload_n 3, 1) := by decide +kernel
theorem dX8_endOf_15 : decode cX8_endOf 15 = .ok (.iaload, 1) := by decide +kernel
theorem dX8_endOf_16 : decode cX8_endOf 16 = .ok (.aload_n 0, 1) := by decide +kernel
theorem dX8_endOf_17 : decode cX8_endOf 17 = .ok (.getfield 35, 3) := by decide +kernel
theorem dX8_endOf_20 : decode cX8_endOf 20 = .ok (.iload_n 3, 1) := by decide +kernel
theorem dX8_endOf_21 : decode cX8_endOf 21 = .ok (.iaload, 1) := by decide +kernel
theorem dX8_endOf_22 : decode cX8_endOf 22 = .ok (.iadd, 1) := by decide +kernel
theorem dX8_endOf_23 : decode cX8_endOf 23 = .ok (.iadd, 1) := by decide +kernel
theorem dX8_endOf_24 : decode cX8_endOf 24 = .ok (.istore_n 2, 1) := by decide +kernel
theorem dX8_endOf_25 : decode cX8_endOf 25 = .ok (.iinc 3 1, 3) := by decide +kernel
theorem dX8_endOf_28 : decode cX8_endOf 28 = .ok (.goto (-24), 3) := by decide +kernel
theorem dX8_endOf_31 : decode cX8_endOf 31 = .ok (.iload_n 2, 1) := by decide +kernel
theorem dX8_endOf_32 : decode cX8_endOf 32 = .ok (.ireturn, 1) := by decide +kernel
theorem dX8_account_0 : decode cX8_account 0 = .ok (.iload_n 1, 1) := by decide +kernel
theorem dX8_account_1 : decode cX8_account 1 = .ok (.invokestatic 67, 3) := by decide +kernel
theorem dX8_account_4 : decode cX8_account 4 = .ok (.ifCond .eq 17, 3) := by decide +kernel
theorem dX8_account_7 : decode cX8_account 7 = .ok (.iload_n 2, 1) := by decide +kernel
theorem dX8_account_8 : decode cX8_account 8 = .ok (.iconst 0, 1) := by decide +kernel
theorem dX8_account_9 : decode cX8_account 9 = .ok (.aload_n 0, 1) := by decide +kernel
theorem dX8_account_10 : decode cX8_account 10 = .ok (.getfield 175, 3) := by decide +kernel
theorem dX8_account_13 : decode cX8_account 13 = .ok (.iconst 1, 1) := by decide +kernel
theorem dX8_account_14 : decode cX8_account 14 = .ok (.isub, 1) := by decide +kernel
theorem dX8_account_15 : decode cX8_account 15 = .ok (.invokestatic 63, 3) := by decide +kernel
theorem dX8_account_18 : decode cX8_account 18 = .ok (.ifCond .ne 6, 3) := by decide +kernel
theorem dX8_account_21 : decode cX8_account 21 = .ok (.ldc 71, 2) := by decide +kernel
theorem dX8_account_23 : decode cX8_account 23 = .ok (.ireturn, 1) := by decide +kernel
theorem dX8_account_24 : decode cX8_account 24 = .ok (.aload_n 0, 1) := by decide +kernel
theorem dX8_account_25 : decode cX8_account 25 = .ok (.getfield 7, 3) := by decide +kernel
theorem dX8_account_28 : decode cX8_account 28 = .ok (.iload_n 1, 1) := by decide +kernel
theorem dX8_account_29 : decode cX8_account 29 = .ok (.iaload, 1) := by decide +kernel
theorem dX8_account_30 : decode cX8_account 30 = .ok (.ifCond .ne 8, 3) := by decide +kernel
theorem dX8_account_33 : decode cX8_account 33 = .ok (.ldc 77, 2) := by decide +kernel
theorem dX8_account_35 : decode cX8_account 35 = .ok (.goto 14, 3) := by decide +kernel
theorem dX8_account_38 : decode cX8_account 38 = .ok (.aload_n 0, 1) := by decide +kernel
theorem dX8_account_39 : decode cX8_account 39 = .ok (.iload_n 2, 1) := by decide +kernel
theorem dX8_account_40 : decode cX8_account 40 = .ok (.invokevirtual 178, 3) := by decide +kernel
theorem dX8_account_43 : decode cX8_account 43 = .ok (.aload_n 0, 1) := by decide +kernel
theorem dX8_account_44 : decode cX8_account 44 = .ok (.iload_n 1, 1) := by decide +kernel
theorem dX8_account_45 : decode cX8_account 45 = .ok (.invokevirtual 73, 3) := by decide +kernel
theorem dX8_account_48 : decode cX8_account 48 = .ok (.irem, 1) := by decide +kernel
theorem dX8_account_49 : decode cX8_account 49 = .ok (.ireturn, 1) := by decide +kernel
theorem dX8_landings_0 : decode cX8_landings 0 = .ok (.iload_n 1, 1) := by decide +kernel
theorem dX8_landings_1 : decode cX8_landings 1 = .ok (.invokestatic 67, 3) := by decide +kernel
theorem dX8_landings_4 : decode cX8_landings 4 = .ok (.ifCond .ne 6, 3) := by decide +kernel
theorem dX8_landings_7 : decode cX8_landings 7 = .ok (.ldc 71, 2) := by decide +kernel
theorem dX8_landings_9 : decode cX8_landings 9 = .ok (.ireturn, 1) := by decide +kernel
theorem dX8_landings_10 : decode cX8_landings 10 = .ok (.aload_n 0, 1) := by decide +kernel
theorem dX8_landings_11 : decode cX8_landings 11 = .ok (.getfield 7, 3) := by decide +kernel
theorem dX8_landings_14 : decode cX8_landings 14 = .ok (.iload_n 1, 1) := by decide +kernel
theorem dX8_landings_15 : decode cX8_landings 15 = .ok (.iaload, 1) := by decide +kernel
theorem dX8_landings_16 : decode cX8_landings 16 = .ok (.ifCond .ne 6, 3) := by decide +kernel
theorem dX8_landings_19 : decode cX8_landings 19 = .ok (.ldc 77, 2) := by decide +kernel
theorem dX8_landings_21 : decode cX8_landings 21 = .ok (.ireturn, 1) := by decide +kernel
theorem dX8_landings_22 : decode cX8_landings 22 = .ok (.iconst 0, 1) := by decide +kernel
theorem dX8_landings_23 : decode cX8_landings 23 = .ok (.istore_n 2, 1) := by decide +kernel
theorem dX8_landings_24 : decode cX8_landings 24 = .ok (.iconst 0, 1) := by decide +kernel
theorem dX8_landings_25 : decode cX8_landings 25 = .ok (.istore_n 3, 1) := by decide +kernel
theorem dX8_landings_26 : decode cX8_landings 26 = .ok (.iload_n 3, 1) := by decide +kernel
theorem dX8_landings_27 : decode cX8_landings 27 = .ok (.aload_n 0, 1) := by decide +kernel
theorem dX8_landings_28 : decode cX8_landings 28 = .ok (.getfield 175, 3) := by decide +kernel
theorem dX8_landings_31 : decode cX8_landings 31 = .ok (.if_icmp .ge 31, 3) := by decide +kernel
theorem dX8_landings_34 : decode cX8_landings 34 = .ok (.iload_n 2, 1) := by decide +kernel
theorem dX8_landings_35 : decode cX8_landings 35 = .ok (.aload_n 0, 1) := by decide +kernel
theorem dX8_landings_36 : decode cX8_landings 36 = .ok (.iload_n 3, 1) := by decide +kernel
theorem dX8_landings_37 : decode cX8_landings 37 = .ok (.invokevirtual 178, 3) := by decide +kernel
theorem dX8_landings_40 : decode cX8_landings 40 = .ok (.aload_n 0, 1) := by decide +kernel
theorem dX8_landings_41 : decode cX8_landings 41 = .ok (.iload_n 1, 1) := by decide +kernel
theorem dX8_landings_42 : decode cX8_landings 42 = .ok (.invokevirtual 73, 3) := by decide +kernel
theorem dX8_landings_45 : decode cX8_landings 45 = .ok (.irem, 1) := by decide +kernel
theorem dX8_landings_46 : decode cX8_landings 46 = .ok (.ifCond .ne 7, 3) := by decide +kernel
theorem dX8_landings_49 : decode cX8_landings 49 = .ok (.iconst 1, 1) := by decide +kernel
theorem dX8_landings_50 : decode cX8_landings 50 = .ok (.goto 4, 3) := by decide +kernel
theorem dX8_landings_53 : decode cX8_landings 53 = .ok (.iconst 0, 1) := by decide +kernel
theorem dX8_landings_54 : decode cX8_landings 54 = .ok (.iadd, 1) := by decide +kernel
theorem dX8_landings_55 : decode cX8_landings 55 = .ok (.istore_n 2, 1) := by decide +kernel
theorem dX8_landings_56 : decode cX8_landings 56 = .ok (.iinc 3 1, 3) := by decide +kernel
theorem dX8_landings_59 : decode cX8_landings 59 = .ok (.goto (-33), 3) := by decide +kernel
theorem dX8_landings_62 : decode cX8_landings 62 = .ok (.iload_n 2, 1) := by decide +kernel
theorem dX8_landings_63 : decode cX8_landings 63 = .ok (.ireturn, 1) := by decide +kernel
theorem dX8_home_0 : decode cX8_home 0 = .ok (.iload_n 1, 1) := by decide +kernel
theorem dX8_home_1 : decode cX8_home 1 = .ok (.invokestatic 67, 3) := by decide +kernel
theorem dX8_home_4 : decode cX8_home 4 = .ok (.ifCond .ne 6, 3) := by decide +kernel
theorem dX8_home_7 : decode cX8_home 7 = .ok (.ldc 71, 2) := by decide +kernel
theorem dX8_home_9 : decode cX8_home 9 = .ok (.ireturn, 1) := by decide +kernel
theorem dX8_home_10 : decode cX8_home 10 = .ok (.aload_n 0, 1) := by decide +kernel
theorem dX8_home_11 : decode cX8_home 11 = .ok (.getfield 7, 3) := by decide +kernel
theorem dX8_home_14 : decode cX8_home 14 = .ok (.iload_n 1, 1) := by decide +kernel
theorem dX8_home_15 : decode cX8_home 15 = .ok (.iaload, 1) := by decide +kernel
theorem dX8_home_16 : decode cX8_home 16 = .ok (.ifCond .eq 10, 3) := by decide +kernel
theorem dX8_home_19 : decode cX8_home 19 = .ok (.aload_n 0, 1) := by decide +kernel
theorem dX8_home_20 : decode cX8_home 20 = .ok (.getfield 175, 3) := by decide +kernel
theorem dX8_home_23 : decode cX8_home 23 = .ok (.ifCond .ne 6, 3) := by decide +kernel
theorem dX8_home_26 : decode cX8_home 26 = .ok (.ldc 77, 2) := by decide +kernel
theorem dX8_home_28 : decode cX8_home 28 = .ok (.ireturn, 1) := by decide +kernel
theorem dX8_home_29 : decode cX8_home 29 = .ok (.aload_n 0, 1) := by decide +kernel
theorem dX8_home_30 : decode cX8_home 30 = .ok (.iload_n 1, 1) := by decide +kernel
theorem dX8_home_31 : decode cX8_home 31 = .ok (.invokevirtual 73, 3) := by decide +kernel
theorem dX8_home_34 : decode cX8_home 34 = .ok (.istore_n 2, 1) := by decide +kernel
theorem dX8_home_35 : decode cX8_home 35 = .ok (.iload_n 2, 1) := by decide +kernel
theorem dX8_home_36 : decode cX8_home 36 = .ok (.aload_n 0, 1) := by decide +kernel
theorem dX8_home_37 : decode cX8_home 37 = .ok (.aload_n 0, 1) := by decide +kernel
theorem dX8_home_38 : decode cX8_home 38 = .ok (.getfield 175, 3) := by decide +kernel
theorem dX8_home_41 : decode cX8_home 41 = .ok (.iconst 1, 1) := by decide +kernel
theorem dX8_home_42 : decode cX8_home 42 = .ok (.isub, 1) := by decide +kernel
theorem dX8_home_43 : decode cX8_home 43 = .ok (.invokevirtual 178, 3) := by decide +kernel
theorem dX8_home_46 : decode cX8_home 46 = .ok (.aload_n 0, 1) := by decide +kernel
theorem dX8_home_47 : decode cX8_home 47 = .ok (.getfield 35, 3) := by decide +kernel
theorem dX8_home_50 : decode cX8_home 50 = .ok (.aload_n 0, 1) := by decide +kernel
theorem dX8_home_51 : decode cX8_home 51 = .ok (.getfield 175, 3) := by decide +kernel
theorem dX8_home_54 : decode cX8_home 54 = .ok (.iconst 1, 1) := by decide +kernel
theorem dX8_home_55 : decode cX8_home 55 = .ok (.isub, 1) := by decide +kernel
theorem dX8_home_56 : decode cX8_home 56 = .ok (.iaload, 1) := by decide +kernel
theorem dX8_home_57 : decode cX8_home 57 = .ok (.isub, 1) := by decide +kernel
theorem dX8_home_58 : decode cX8_home 58 = .ok (.iload_n 2, 1) := by decide +kernel
theorem dX8_home_59 : decode cX8_home 59 = .ok (.irem, 1) := by decide +kernel
theorem dX8_home_60 : decode cX8_home 60 = .ok (.isub, 1) := by decide +kernel
theorem dX8_home_61 : decode cX8_home 61 = .ok (.iload_n 2, 1) := by decide +kernel
theorem dX8_home_62 : decode cX8_home 62 = .ok (.irem, 1) := by decide +kernel
theorem dX8_home_63 : decode cX8_home 63 = .ok (.ireturn, 1) := by decide +kernel
