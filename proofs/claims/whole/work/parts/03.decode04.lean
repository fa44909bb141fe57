theorem dX8_isOf_0 : decode cX8_isOf 0 = .ok (.iload_n 1, 1) := by decide +kernel
theorem dX8_isOf_1 : decode cX8_isOf 1 = .ok (.invokestatic 67, 3) := by decide +kernel
theorem dX8_isOf_4 : decode cX8_isOf 4 = .ok (.ifCond .eq 28, 3) := by decide +kernel
theorem dX8_isOf_7 : decode cX8_isOf 7 = .ok (.iload_n 2, 1) := by decide +kernel
theorem dX8_isOf_8 : decode cX8_isOf 8 = .ok (.iconst 0, 1) := by decide +kernel
theorem dX8_isOf_9 : decode cX8_isOf 9 = .ok (.aload_n 0, 1) := by decide +kernel
theorem dX8_isOf_10 : decode cX8_isOf 10 = .ok (.getfield 7, 3) := by decide +kernel
theorem dX8_isOf_13 : decode cX8_isOf 13 = .ok (.iload_n 1, 1) := by decide +kernel
theorem dX8_isOf_14 : decode cX8_isOf 14 = .ok (.iaload, 1) := by decide +kernel
theorem dX8_isOf_15 : decode cX8_isOf 15 = .ok (.iconst 1, 1) := by decide +kernel
theorem dX8_isOf_16 : decode cX8_isOf 16 = .ok (.isub, 1) := by decide +kernel
theorem dX8_isOf_17 : decode cX8_isOf 17 = .ok (.invokestatic 63, 3) := by decide +kernel
theorem dX8_isOf_20 : decode cX8_isOf 20 = .ok (.ifCond .eq 12, 3) := by decide +kernel
theorem dX8_isOf_23 : decode cX8_isOf 23 = .ok (.iload_n 3, 1) := by decide +kernel
theorem dX8_isOf_24 : decode cX8_isOf 24 = .ok (.iconst 0, 1) := by decide +kernel
theorem dX8_isOf_25 : decode cX8_isOf 25 = .ok (.iconst 3, 1) := by decide +kernel
theorem dX8_isOf_26 : decode cX8_isOf 26 = .ok (.invokestatic 63, 3) := by decide +kernel
theorem dX8_isOf_29 : decode cX8_isOf 29 = .ok (.ifCond .ne 6, 3) := by decide +kernel
theorem dX8_isOf_32 : decode cX8_isOf 32 = .ok (.ldc 71, 2) := by decide +kernel
theorem dX8_isOf_34 : decode cX8_isOf 34 = .ok (.ireturn, 1) := by decide +kernel
theorem dX8_isOf_35 : decode cX8_isOf 35 = .ok (.aload_n 0, 1) := by decide +kernel
theorem dX8_isOf_36 : decode cX8_isOf 36 = .ok (.getfield 13, 3) := by decide +kernel
theorem dX8_isOf_39 : decode cX8_isOf 39 = .ok (.bipush 12, 2) := by decide +kernel
theorem dX8_isOf_41 : decode cX8_isOf 41 = .ok (.iload_n 1, 1) := by decide +kernel
theorem dX8_isOf_42 : decode cX8_isOf 42 = .ok (.imul, 1) := by decide +kernel
theorem dX8_isOf_43 : decode cX8_isOf 43 = .ok (.iload_n 2, 1) := by decide +kernel
theorem dX8_isOf_44 : decode cX8_isOf 44 = .ok (.iadd, 1) := by decide +kernel
theorem dX8_isOf_45 : decode cX8_isOf 45 = .ok (.iaload, 1) := by decide +kernel
theorem dX8_isOf_46 : decode cX8_isOf 46 = .ok (.istore 4, 2) := by decide +kernel
theorem dX8_isOf_48 : decode cX8_isOf 48 = .ok (.iload_n 3, 1) := by decide +kernel
theorem dX8_isOf_49 : decode cX8_isOf 49 = .ok (.ifCond .eq 20, 3) := by decide +kernel
theorem dX8_isOf_52 : decode cX8_isOf 52 = .ok (.iload 4, 2) := by decide +kernel
theorem dX8_isOf_54 : decode cX8_isOf 54 = .ok (.iload_n 3, 1) := by decide +kernel
theorem dX8_isOf_55 : decode cX8_isOf 55 = .ok (.if_icmp .eq 14, 3) := by decide +kernel
theorem dX8_isOf_58 : decode cX8_isOf 58 = .ok (.iload_n 3, 1) := by decide +kernel
theorem dX8_isOf_59 : decode cX8_isOf 59 = .ok (.iconst 1, 1) := by decide +kernel
theorem dX8_isOf_60 : decode cX8_isOf 60 = .ok (.if_icmp .ne 13, 3) := by decide +kernel
theorem dX8_isOf_63 : decode cX8_isOf 63 = .ok (.iload 4, 2) := by decide +kernel
theorem dX8_isOf_65 : decode cX8_isOf 65 = .ok (.iconst 3, 1) := by decide +kernel
theorem dX8_isOf_66 : decode cX8_isOf 66 = .ok (.if_icmp .ne 7, 3) := by decide +kernel
theorem dX8_isOf_69 : decode cX8_isOf 69 = .ok (.iconst 1, 1) := by decide +kernel
theorem dX8_isOf_70 : decode cX8_isOf 70 = .ok (.goto 4, 3) := by decide +kernel
theorem dX8_isOf_73 : decode cX8_isOf 73 = .ok (.iconst 0, 1) := by decide +kernel
theorem dX8_isOf_74 : decode cX8_isOf 74 = .ok (.ireturn, 1) := by decide +kernel
theorem dX8_clear_0 : decode cX8_clear 0 = .ok (.iload_n 1, 1) := by decide +kernel
theorem dX8_clear_1 : decode cX8_clear 1 = .ok (.invokestatic 67, 3) := by decide +kernel
theorem dX8_clear_4 : decode cX8_clear 4 = .ok (.ifCond .ne 6, 3) := by decide +kernel
theorem dX8_clear_7 : decode cX8_clear 7 = .ok (.ldc 71, 2) := by decide +kernel
theorem dX8_clear_9 : decode cX8_clear 9 = .ok (.ireturn, 1) := by decide +kernel
theorem dX8_clear_10 : decode cX8_clear 10 = .ok (.aload_n 0, 1) := by decide +kernel
theorem dX8_clear_11 : decode cX8_clear 11 = .ok (.getfield 7, 3) := by decide +kernel
theorem dX8_clear_14 : decode cX8_clear 14 = .ok (.iload_n 1, 1) := by decide +kernel
theorem dX8_clear_15 : decode cX8_clear 15 = .ok (.iaload, 1) := by decide +kernel
theorem dX8_clear_16 : decode cX8_clear 16 = .ok (.istore_n 2, 1) := by decide +kernel
theorem dX8_clear_17 : decode cX8_clear 17 = .ok (.aload_n 0, 1) := by decide +kernel
theorem dX8_clear_18 : decode cX8_clear 18 = .ok (.getfield 7, 3) := by decide +kernel
theorem dX8_clear_21 : decode cX8_clear 21 = .ok (.iload_n 1, 1) := by decide +kernel
theorem dX8_clear_22 : decode cX8_clear 22 = .ok (.iconst 0, 1) := by decide +kernel
theorem dX8_clear_23 : decode cX8_clear 23 = .ok (.iastore, 1) := by decide +kernel
theorem dX8_clear_24 : decode cX8_clear 24 = .ok (.iload_n 2, 1) := by decide +kernel
theorem dX8_clear_25 : decode cX8_clear 25 = .ok (.ireturn, 1) := by decide +kernel
theorem dX8_lengthOf_0 : decode cX8_lengthOf 0 = .ok (.iconst 0, 1) := by decide +kernel
theorem dX8_lengthOf_1 : decode cX8_lengthOf 1 = .ok (.istore_n 2, 1) := by decide +kernel
theorem dX8_lengthOf_2 : decode cX8_lengthOf 2 = .ok (.iconst 0, 1) := by decide +kernel
theorem dX8_lengthOf_3 : decode cX8_lengthOf 3 = .ok (.istore_n 3, 1) := by decide +kernel
theorem dX8_lengthOf_4 : decode cX8_lengthOf 4 = .ok (.iload_n 3, 1) := by decide +kernel
theorem dX8_lengthOf_5 : decode cX8_lengthOf 5 = .ok (.aload_n 0, 1) := by decide +kernel
theorem dX8_lengthOf_6 : decode cX8_lengthOf 6 = .ok (.getfield 7, 3) := by decide +kernel
theorem dX8_lengthOf_9 : decode cX8_lengthOf 9 = .ok (.iload_n 1, 1) := by decide +kernel
theorem dX8_lengthOf_10 : decode cX8_lengthOf 10 = .ok (.iaload, 1) := by decide +kernel
theorem dX8_lengthOf_11 : decode cX8_lengthOf 11 = .ok (.if_icmp .ge 26, 3) := by decide +kernel
theorem dX8_lengthOf_14 : decode cX8_lengthOf 14 = .ok (.iload_n 2, 1) := by decide +kernel
theorem dX8_lengthOf_15 : decode cX8_lengthOf 15 = .ok (.bipush 12, 2) := by decide +kernel
theorem dX8_lengthOf_17 : decode cX8_lengthOf 17 = .ok (.aload_n 0, 1) := by decide +kernel
theorem dX8_lengthOf_18 : decode cX8_lengthOf 18 = .ok (.getfield 16, 3) := by decide +kernel
theorem dX8_lengthOf_21 : decode cX8_lengthOf 21 = .ok (.bipush 12, 2) := by decide +kernel
theorem dX8_lengthOf_23 : decode cX8_lengthOf 23 = .ok (.iload_n 1, 1) := by decide +kernel
theorem dX8_lengthOf_24 : decode cX8_lengthOf 24 = .ok (.imul, 1) := by decide +kernel
theorem dX8_lengthOf_25 : decode cX8_lengthOf 25 = .ok (.iload_n 3, 1) := by decide +kernel
theorem dX8_lengthOf_26 : decode cX8_lengthOf 26 = .ok (.iadd, 1) := by decide +kernel
theorem dX8_lengthOf_27 : decode cX8_lengthOf 27 = .ok (.iaload, 1) := by decide +kernel
theorem dX8_lengthOf_28 : decode cX8_lengthOf 28 = .ok (.imul, 1) := by decide +kernel
theorem dX8_lengthOf_29 : decode cX8_lengthOf 29 = .ok (.iadd, 1) := by decide +kernel
theorem dX8_lengthOf_30 : decode cX8_lengthOf 30 = .ok (.istore_n 2, 1) := by decide +kernel
theorem dX8_lengthOf_31 : decode cX8_lengthOf 31 = .ok (.iinc 3 1, 3) := by decide +kernel
theorem dX8_lengthOf_34 : decode cX8_lengthOf 34 = .ok (.goto (-30), 3) := by decide +kernel
theorem dX8_lengthOf_37 : decode cX8_lengthOf 37 = .ok (.iload_n 2, 1) := by decide +kernel
theorem dX8_lengthOf_38 : decode cX8_lengthOf 38 = .ok (.ireturn, 1) := by decide +kernel
theorem dX8_length_0 : decode cX8_length 0 = .ok (.iload_n 1, 1) := by decide +kernel
theorem dX8_length_1 : decode cX8_length 1 = .ok (.invokestatic 67, 3) := by decide +kernel
theorem dX8_length_4 : decode cX8_length 4 = .ok (.ifCond .eq 11, 3) := by decide +kernel
theorem dX8_length_7 : decode cX8_length 7 = .ok (.aload_n 0, 1) := by decide +kernel
theorem dX8_length_8 : decode cX8_length 8 = .ok (.iload_n 1, 1) := by decide +kernel
theorem dX8_length_9 : decode cX8_length 9 = .ok (.invokevirtual 73, 3) := by decide +kernel
theorem dX8_length_12 : decode cX8_length 12 = .ok (.goto 5, 3) := by decide +kernel
theorem dX8_length_15 : decode cX8_length 15 = .ok (.ldc 71, 2) := by decide +kernel
theorem dX8_length_17 : decode cX8_length 17 = .ok (.ireturn, 1) := by decide +kernel
theorem dX8_handling_0 : decode cX8_handling 0 = .ok (.iload_n 1, 1) := by decide +kernel
theorem dX8_handling_1 : decode cX8_handling 1 = .ok (.invokestatic 67, 3) := by decide +kernel
theorem dX8_handling_4 : decode cX8_handling 4 = .ok (.ifCond .eq 7, 3) := by decide +kernel
theorem dX8_handling_7 : decode cX8_handling 7 = .ok (.iload_n 2, 1) := by decide +kernel
theorem dX8_handling_8 : decode cX8_handling 8 = .ok (.ifCond .ge 6, 3) := by decide +kernel
theorem dX8_handling_11 : decode cX8_handling 11 = .ok (.ldc 71, 2) := by decide +kernel
theorem dX8_handling_13 : decode cX8_handling 13 = .ok (.ireturn, 1) := by decide +kernel
theorem dX8_handling_14 : decode cX8_handling 14 = .ok (.aload_n 0, 1) := by decide +kernel
theorem dX8_handling_15 : decode cX8_handling 15 = .ok (.getfield 7, 3) := by decide +kernel
theorem dX8_handling_18 : decode cX8_handling 18 = .ok (.iload_n 1, 1) := by decide +kernel
theorem dX8_handling_19 : decode cX8_handling 19 = .ok (.iaload, 1) := by decide +kernel
theorem dX8_handling_20 : decode cX8_handling 20 = .ok (.ifCond .ne 6, 3) := by decide +kernel
theorem dX8_handling_23 : decode cX8_handling 23 = .ok (.ldc 77, 2) := by decide +kernel
theorem dX8_handling_25 : decode cX8_handling 25 = .ok (.ireturn, 1) := by decide +kernel
theorem dX8_handling_26 : decode cX8_handling 26 = .ok (.iload_n 2, 1) := by decide +kernel
theorem dX8_handling_27 : decode cX8_handling 27 = .ok (.aload_n 0, 1) := by decide +kernel
theorem dX8_handling_28 : decode cX8_handling 28 = .ok (.iload_n 1, 1) := by decide +kernel
theorem dX8_handling_29 : decode cX8_handling 29 = .ok (.invokevirtual 73, 3) := by decide +kernel
theorem dX8_handling_32 : decode cX8_handling 32 = .ok (.irem, 1) := by decide +kernel
theorem dX8_handling_33 : decode cX8_handling 33 = .ok (.istore_n 3, 1) := by decide +kernel
theorem dX8_handling_34 : decode cX8_handling 34 = .ok (.iconst 0, 1) := by decide +kernel
theorem dX8_handling_35 : decode cX8_handling 35 = .ok (.istore 4, 2) := by decide +kernel
theorem dX8_handling_37 : decode cX8_handling 37 = .ok (.iload_n 3, 1) := by decide +kernel
theorem dX8_handling_38 : decode cX8_handling 38 = .ok (.bipush 12, 2) := by decide +kernel
theorem dX8_handling_40 : decode cX8_handling 40 = .ok (.aload_n 0, 1) := by decide +kernel
theorem dX8_handling_41 : decode cX8_handling 41 = .ok (.getfield 16, 3) := by decide +kernel
theorem dX8_handling_44 : decode cX8_handling 44 = .ok (.bipush 12, 2) := by decide +kernel
theorem dX8_handling_46 : decode cX8_handling 46 = .ok (.iload_n 1, 1) := by decide +kernel
theorem dX8_handling_47 : decode cX8_handling 47 = .ok (.imul, 1) := by decide +kernel
theorem dX8_handling_48 : decode cX8_handling 48 = .ok (.iload 4, 2) := by decide +kernel
theorem dX8_handling_50 : decode cX8_handling 50 = .ok (.iadd, 1) := by decide +kernel
theorem dX8_handling_51 : decode cX8_handling 51 = .ok (.iaload, 1) := by decide +kernel
theorem dX8_handling_52 : decode cX8_handling 52 = .ok (.imul, 1) := by decide +kernel
theorem dX8_handling_53 : decode cX8_handling 53 = .ok (.if_icmp .lt 27, 3) := by decide +kernel
theorem dX8_handling_56 : decode cX8_handling 56 = .ok (.iload_n 3, 1) := by decide +kernel
theorem dX8_handling_57 : decode cX8_handling 57 = .ok (.bipush 12, 2) := by decide +kernel
theorem dX8_handling_59 : decode cX8_handling 59 = .ok (.aload_n 0, 1) := by decide +kernel
theorem dX8_handling_60 : decode cX8_handling 60 = .ok (.getfield 16, 3) := by decide +kernel
theorem dX8_handling_63 : decode cX8_handling 63 = .ok (.bipush 12, 2) := by decide +kernel
theorem dX8_handling_65 : decode cX8_handling 65 = .ok (.iload_n 1, 1) := by decide +kernel
theorem dX8_handling_66 : decode cX8_handling 66 = .ok (.imul, 1) := by decide +kernel
theorem dX8_handling_67 : decode cX8_handling 67 = .ok (.iload 4, 2) := by decide +kernel
theorem dX8_handling_69 : decode cX8_handling 69 = .ok (.iadd, 1) := by decide +kernel
theorem dX8_handling_70 : decode cX8_handling 70 = .ok (.iaload, 1) := by decide +kernel
theorem dX8_handling_71 : decode cX8_handling 71 = .ok (.imul, 1) := by decide +kernel
theorem dX8_handling_72 : decode cX8_handling 72 = .ok (.isub, 1) := by decide +kernel
theorem dX8_handling_73 : decode cX8_handling 73 = .ok (.istore_n 3, 1) := by decide +kernel
theorem dX8_handling_74 : decode cX8_handling 74 = .ok (.iinc 4 1, 3) := by decide +kernel
theorem dX8_handling_77 : decode cX8_handling 77 = .ok (.goto (-40), 3) := by decide +kernel
theorem dX8_handling_80 : decode cX8_handling 80 = .ok (.aload_n 0, 1) := by decide +kernel
theorem dX8_handling_81 : decode cX8_handling 81 = .ok (.getfield 13, 3) := by decide +kernel
theorem dX8_handling_84 : decode cX8_handling 84 = .ok (.bipush 12, 2) := by decide +kernel
theorem dX8_handling_86 : decode cX8_handling 86 = .ok (.iload_n 1, 1) := by decide +kernel
theorem dX8_handling_87 : decode cX8_handling 87 = .ok (.imul, 1) := by decide +kernel
theorem dX8_handling_88 : decode cX8_handling 88 = .ok (.iload 4, 2) := by decide +kernel
theorem dX8_handling_90 : decode cX8_handling 90 = .ok (.iadd, 1) := by decide +kernel
theorem dX8_handling_91 : decode cX8_handling 91 = .ok (.iaload, 1) := by decide +kernel
theorem dX8_handling_92 : decode cX8_handling 92 = .ok (.istore 5, 2) := by decide +kernel
theorem dX8_handling_94 : decode cX8_handling 94 = .ok (.iconst 0, 1) := by decide +kernel
theorem dX8_handling_95 : decode cX8_handling 95 = .ok (.istore 6, 2) := by decide +kernel
theorem dX8_handling_97 : decode cX8_handling 97 = .ok (.iload_n 3, 1) := by decide +kernel
theorem dX8_handling_98 : decode cX8_handling 98 = .ok (.ifCond .ne 28, 3) := by decide +kernel
theorem dX8_handling_101 : decode cX8_handling 101 = .ok (.iload 5, 2) := by decide +kernel
theorem dX8_handling_103 : decode cX8_handling 103 = .ok (.iconst 2, 1) := by decide +kernel
theorem dX8_handling_104 : decode cX8_handling 104 = .ok (.if_icmp .ne 7, 3) := by decide +kernel
theorem dX8_handling_107 : decode cX8_handling 107 = .ok (.iconst 2, 1) := by decide +kernel
theorem dX8_handling_108 : decode cX8_handling 108 = .ok (.goto 13, 3) := by decide +kernel
theorem dX8_handling_111 : decode cX8_handling 111 = .ok (.iload 5, 2) := by decide +kernel
theorem dX8_handling_113 : decode cX8_handling 113 = .ok (.ifCond .ne 7, 3) := by decide +kernel
theorem dX8_handling_116 : decode cX8_handling 116 = .ok (.iconst 0, 1) := by decide +kernel
theorem dX8_handling_117 : decode cX8_handling 117 = .ok (.goto 4, 3) := by decide +kernel
theorem dX8_handling_120 : decode cX8_handling 120 = .ok (.iconst 1, 1) := by decide +kernel
theorem dX8_handling_121 : decode cX8_handling 121 = .ok (.istore 6, 2) := by decide +kernel
theorem dX8_handling_123 : decode cX8_handling 123 = .ok (.goto 41, 3) := by decide +kernel
theorem dX8_handling_126 : decode cX8_handling 126 = .ok (.iload 5, 2) := by decide +kernel
theorem dX8_handling_128 : decode cX8_handling 128 = .ok (.iconst 3, 1) := by decide +kernel
theorem dX8_handling_129 : decode cX8_handling 129 = .ok (.if_icmp .ne 35, 3) := by decide +kernel
theorem dX8_handling_132 : decode cX8_handling 132 = .ok (.iload_n 3, 1) := by decide +kernel
theorem dX8_handling_133 : decode cX8_handling 133 = .ok (.bipush 24, 2) := by decide +kernel
theorem dX8_handling_135 : decode cX8_handling 135 = .ok (.irem, 1) := by decide +kernel
theorem dX8_handling_136 : decode cX8_handling 136 = .ok (.ifCond .ne 28, 3) := by decide +kernel
theorem dX8_handling_139 : decode cX8_handling 139 = .ok (.iload_n 3, 1) := by decide +kernel
theorem dX8_handling_140 : decode cX8_handling 140 = .ok (.bipush 24, 2) := by decide +kernel
theorem dX8_handling_142 : decode cX8_handling 142 = .ok (.iadd, 1) := by decide +kernel
theorem dX8_handling_143 : decode cX8_handling 143 = .ok (.bipush 12, 2) := by decide +kernel
theorem dX8_handling_145 : decode cX8_handling 145 = .ok (.aload_n 0, 1) := by decide +kernel
theorem dX8_handling_146 : decode cX8_handling 146 = .ok (.getfield 16, 3) := by decide +kernel
theorem dX8_handling_149 : decode cX8_handling 149 = .ok (.bipush 12, 2) := by decide +kernel
theorem dX8_handling_151 : decode cX8_handling 151 = .ok (.iload_n 1, 1) := by decide +kernel
theorem dX8_handling_152 : decode cX8_handling 152 = .ok (.imul, 1) := by decide +kernel
theorem dX8_handling_153 : decode cX8_handling 153 = .ok (.iload 4, 2) := by decide +kernel
theorem dX8_handling_155 : decode cX8_handling 155 = .ok (.iadd, 1) := by decide +kernel
theorem dX8_handling_156 : decode cX8_handling 156 = .ok (.iaload, 1) := by decide +kernel
theorem dX8_handling_157 : decode cX8_handling 157 = .ok (.imul, 1) := by decide +kernel
theorem dX8_handling_158 : decode cX8_handling 158 = .ok (.if_icmp .gt 6, 3) := by decide +kernel
theorem dX8_handling_161 : decode cX8_handling 161 = .ok (.iconst 3, 1) := by decide +kernel
theorem dX8_handling_162 : decode cX8_handling 162 = .ok (.istore 6, 2) := by decide +kernel
theorem dX8_handling_164 : decode cX8_handling 164 = .ok (.bipush 10, 2) := by decide +kernel
theorem dX8_handling_166 : decode cX8_handling 166 = .ok (.iload 4, 2) := by decide +kernel
theorem dX8_handling_168 : decode cX8_handling 168 = .ok (.imul, 1) := by decide +kernel
theorem dX8_handling_169 : decode cX8_handling 169 = .ok (.iload 6, 2) := by decide +kernel
theorem dX8_handling_171 : decode cX8_handling 171 = .ok (.iadd, 1) := by decide +kernel
theorem dX8_handling_172 : decode cX8_handling 172 = .ok (.ireturn, 1) := by decide +kernel
theorem dX8_four_0 : decode cX8_four 0 = .ok (.bipush 24, 2) := by decide +kernel
theorem dX8_four_2 : decode cX8_four 2 = .ok (.istore_n 2, 1) := by decide +kernel
theorem dX8_four_3 : decode cX8_four 3 = .ok (.iload_n 2, 1) := by decide +kernel
theorem dX8_four_4 : decode cX8_four 4 = .ok (.ifCond .lt 35, 3) := by decide +kernel
theorem dX8_four_7 : decode cX8_four 7 = .ok (.aload_n 0, 1) := by decide +kernel
theorem dX8_four_8 : decode cX8_four 8 = .ok (.getfield 38, 3) := by decide +kernel
theorem dX8_four_11 : decode cX8_four 11 = .ok (.aload_n 0, 1) := by decide +kernel
theorem dX8_four_12 : decode cX8_four 12 = .ok (.getfield 78, 3) := by decide +kernel
theorem dX8_four_15 : decode cX8_four 15 = .ok (.iload_n 1, 1) := by decide +kernel
theorem dX8_four_16 : decode cX8_four 16 = .ok (.iload_n 2, 1) := by decide +kernel
theorem dX8_four_17 : decode cX8_four 17 = .ok (.ishr, 1) := by decide +kernel
theorem dX8_four_18 : decode cX8_four 18 = .ok (.sipush 255, 3) := by decide +kernel
theorem dX8_four_21 : decode cX8_four 21 = .ok (.iand, 1) := by decide +kernel
theorem dX8_four_22 : decode cX8_four 22 = .ok (.iastore, 1) := by decide +kernel
theorem dX8_four_23 : decode cX8_four 23 = .ok (.aload_n 0, 1) := by decide +kernel
theorem dX8_four_24 : decode cX8_four 24 = .ok (.dup, 1) := by decide +kernel
theorem dX8_four_25 : decode cX8_four 25 = .ok (.getfield 78, 3) := by decide +kernel
theorem dX8_four_28 : decode cX8_four 28 = .ok (.iconst 1, 1) := by decide +kernel
theorem dX8_four_29 : decode cX8_four 29 = .ok (.iadd, 1) := by decide +kernel
theorem dX8_four_30 : decode cX8_four 30 = .ok (.putfield 78, 3) := by decide +kernel
theorem dX8_four_33 : decode cX8_four 33 = .ok (.iinc 2 (-8), 3) := by decide +kernel
theorem dX8_four_36 : decode cX8_four 36 = .ok (.goto (-33), 3) := by decide +kernel
theorem dX8_four_39 : decode cX8_four 39 = .ok (.return_, 1) := by decide +kernel
theorem dX8_feed_0 : decode cX8_feed 0 = .ok (.aload_n 0, 1) := by decide +kernel
theorem dX8_feed_1 : decode cX8_feed 1 = .ok (.getfield 78, 3) := by decide +kernel
theorem dX8_feed_4 : decode cX8_feed 4 = .ok (.bipush 12, 2) := by decide +kernel
theorem dX8_feed_6 : decode cX8_feed 6 = .ok (.iadd, 1) := by decide +kernel
theorem dX8_feed_7 : decode cX8_feed 7 = .ok (.bipush 60, 2) := by decide +kernel
theorem dX8_feed_9 : decode cX8_feed 9 = .ok (.if_icmp .le 6, 3) := by decide +kernel
theorem dX8_feed_12 : decode cX8_feed 12 = .ok (.ldc 72, 2) := by decide +kernel
theorem dX8_feed_14 : decode cX8_feed 14 = .ok (.ireturn, 1) := by decide +kernel
theorem dX8_feed_15 : decode cX8_feed 15 = .ok (.aload_n 0, 1) := by decide +kernel
theorem dX8_feed_16 : decode cX8_feed 16 = .ok (.iload_n 1, 1) := by decide +kernel
theorem dX8_feed_17 : decode cX8_feed 17 = .ok (.invokevirtual 81, 3) := by decide +kernel
theorem dX8_feed_20 : decode cX8_feed 20 = .ok (.aload_n 0, 1) := by decide +kernel
theorem dX8_feed_21 : decode cX8_feed 21 = .ok (.iload_n 2, 1) := by decide +kernel
theorem dX8_feed_22 : decode cX8_feed 22 = .ok (.invokevirtual 81, 3) := by decide +kernel
theorem dX8_feed_25 : decode cX8_feed 25 = .ok (.aload_n 0, 1) := by decide +kernel
theorem dX8_feed_26 : decode cX8_feed 26 = .ok (.iload_n 3, 1) := by decide +kernel
theorem dX8_feed_27 : decode cX8_feed 27 = .ok (.invokevirtual 81, 3) := by decide +kernel
theorem dX8_feed_30 : decode cX8_feed 30 = .ok (.aload_n 0, 1) := by decide +kernel
theorem dX8_feed_31 : decode cX8_feed 31 = .ok (.getfield 78, 3) := by decide +kernel
theorem dX8_feed_34 : decode cX8_feed 34 = .ok (.ireturn, 1) := by decide +kernel
theorem dX8_trim_0 : decode cX8_trim 0 = .ok (.iload_n 1, 1) := by decide +kernel
theorem dX8_trim_1 : decode cX8_trim 1 = .ok (.iconst 0, 1) := by decide +kernel
theorem dX8_trim_2 : decode cX8_trim 2 = .ok (.aload_n 0, 1) := by decide +kernel
theorem dX8_trim_3 : decode cX8_trim 3 = .ok (.getfield 78, 3) := by decide +kernel
theorem dX8_trim_6 : decode cX8_trim 6 = .ok (.invokestatic 63, 3) := by decide +kernel
theorem dX8_trim_9 : decode cX8_trim 9 = .ok (.ifCond .ne 6, 3) := by decide +kernel
theorem dX8_trim_12 : decode cX8_trim 12 = .ok (.ldc 71, 2) := by decide +kernel
theorem dX8_trim_14 : decode cX8_trim 14 = .ok (.ireturn, 1) := by decide +kernel
theorem dX8_trim_15 : decode cX8_trim 15 = .ok (.aload_n 0, 1) := by decide +kernel
theorem dX8_trim_16 : decode cX8_trim 16 = .ok (.iload_n 1, 1) := by decide +kernel
theorem dX8_trim_17 : decode cX8_trim 17 = .ok (.putfield 78, 3) := by decide +kernel
theorem dX8_trim_20 : decode cX8_trim 20 = .ok (.iload_n 1, 1) := by decide +kernel
theorem dX8_trim_21 : decode cX8_trim 21 = .ok (.ireturn, 1) := by decide +kernel
theorem dX8_here_0 : decode cX8_here 0 = .ok (.aload_n 0, 1) := by decide +kernel
theorem dX8_here_1 : decode cX8_here 1 = .ok (.getfield 85, 3) := by decide +kernel
theorem dX8_here_4 : decode cX8_here 4 = .ok (.aload_n 0, 1) := by decide +kernel
theorem dX8_here_5 : decode cX8_here 5 = .ok (.getfield 78, 3) := by decide +kernel
theorem dX8_here_8 : decode cX8_here 8 = .ok (.if_icmp .ge 15, 3) := by decide +kernel
theorem dX8_here_11 : decode cX8_here 11 = .ok (.aload_n 0, 1) := by decide +kernel
theorem dX8_here_12 : decode cX8_here 12 = .ok (.getfield 38, 3) := by decide +kernel
theorem dX8_here_15 : decode cX8_here 15 = .ok (.aload_n 0, 1) := by decide +kernel
theorem dX8_here_16 : decode cX8_here 16 = .ok (.getfield 85, 3) := by decide +kernel
theorem dX8_here_19 : decode cX8_here 19 = .ok (.iaload, 1) := by decide +kernel
theorem dX8_here_20 : decode cX8_here 20 = .ok (.goto 4, 3) := by decide +kernel
theorem dX8_here_23 : decode cX8_here 23 = .ok (.iconst (-1), 1) := by decide +kernel
theorem dX8_here_24 : decode cX8_here 24 = .ok (.ireturn, 1) := by decide +kernel
theorem dX8_item_0 : decode cX8_item 0 = .ok (.iconst 1, 1) := by decide +kernel
theorem dX8_item_1 : decode cX8_item 1 = .ok (.istore_n 3, 1) := by decide +kernel
theorem dX8_item_2 : decode cX8_item 2 = .ok (.aload_n 0, 1) := by decide +kernel
theorem dX8_item_3 : decode cX8_item 3 = .ok (.invokevirtual 88, 3) := by decide +kernel
theorem dX8_item_6 : decode cX8_item 6 = .ok (.bipush 50, 2) := by decide +kernel
theorem dX8_item_8 : decode cX8_item 8 = .ok (.bipush 57, 2) := by decide +kernel
theorem dX8_item_10 : decode cX8_item 10 = .ok (.invokestatic 63, 3) := by decide +kernel
theorem dX8_item_13 : decode cX8_item 13 = .ok (.ifCond .eq 41, 3) := by decide +kernel
theorem dX8_item_16 : decode cX8_item 16 = .ok (.iload_n 3, 1) := by decide +kernel
theorem dX8_item_17 : decode cX8_item 17 = .ok (.aload_n 0, 1) := by decide +kernel
theorem dX8_item_18 : decode cX8_item 18 = .ok (.invokevirtual 88, 3) := by decide +kernel
theorem dX8_item_21 : decode cX8_item 21 = .ok (.bipush 48, 2) := by decide +kernel
theorem dX8_item_23 : decode cX8_item 23 = .ok (.isub, 1) := by decide +kernel
theorem dX8_item_24 : decode cX8_item 24 = .ok (.imul, 1) := by decide +kernel
theorem dX8_item_25 : decode cX8_item 25 = .ok (.istore_n 3, 1) := by decide +kernel
theorem dX8_item_26 : decode cX8_item 26 = .ok (.iload_n 3, 1) := by decide +kernel
theorem dX8_item_27 : decode cX8_item 27 = .ok (.sipush 1000, 3) := by decide +kernel
theorem dX8_item_30 : decode cX8_item 30 = .ok (.if_icmp .le 9, 3) := by decide +kernel
theorem dX8_item_33 : decode cX8_item 33 = .ok (.sipush 1000, 3) := by decide +kernel
theorem dX8_item_36 : decode cX8_item 36 = .ok (.goto 4, 3) := by decide +kernel
theorem dX8_item_39 : decode cX8_item 39 = .ok (.iload_n 3, 1) := by decide +kernel
theorem dX8_item_40 : decode cX8_item 40 = .ok (.istore_n 3, 1) := by decide +kernel
theorem dX8_item_41 : decode cX8_item 41 = .ok (.aload_n 0, 1) := by decide +kernel
theorem dX8_item_42 : decode cX8_item 42 = .ok (.dup, 1) := by decide +kernel
theorem dX8_item_43 : decode cX8_item 43 = .ok (.getfield 85, 3) := by decide +kernel
theorem dX8_item_46 : decode cX8_item 46 = .ok (.iconst 1, 1) := by decide +kernel
theorem dX8_item_47 : decode cX8_item 47 = .ok (.iadd, 1) := by decide +kernel
theorem dX8_item_48 : decode cX8_item 48 = .ok (.putfield 85, 3) := by decide +kernel
theorem dX8_item_51 : decode cX8_item 51 = .ok (.goto (-49), 3) := by decide +kernel
theorem dX8_item_54 : decode cX8_item 54 = .ok (.iconst 1, 1) := by decide +kernel
theorem dX8_item_55 : decode cX8_item 55 = .ok (.istore 4, 2) := by decide +kernel
theorem dX8_item_57 : decode cX8_item 57 = .ok (.aload_n 0, 1) := by decide +kernel
theorem dX8_item_58 : decode cX8_item 58 = .ok (.invokevirtual 88, 3) := by decide +kernel
theorem dX8_item_61 : decode cX8_item 61 = .ok (.bipush 40, 2) := by decide +kernel
theorem dX8_item_63 : decode cX8_item 63 = .ok (.if_icmp .ne 57, 3) := by decide +kernel
theorem dX8_item_66 : decode cX8_item 66 = .ok (.iload_n 2, 1) := by decide +kernel
theorem dX8_item_67 : decode cX8_item 67 = .ok (.bipush 6, 2) := by decide +kernel
theorem dX8_item_69 : decode cX8_item 69 = .ok (.if_icmp .ge 51, 3) := by decide +kernel
theorem dX8_item_72 : decode cX8_item 72 = .ok (.aload_n 0, 1) := by decide +kernel
theorem dX8_item_73 : decode cX8_item 73 = .ok (.dup, 1) := by decide +kernel
theorem dX8_item_74 : decode cX8_item 74 = .ok (.getfield 85, 3) := by decide +kernel
theorem dX8_item_77 : decode cX8_item 77 = .ok (.iconst 1, 1) := by decide +kernel
theorem dX8_item_78 : decode cX8_item 78 = .ok (.iadd, 1) := by decide +kernel
theorem dX8_item_79 : decode cX8_item 79 = .ok (.putfield 85, 3) := by decide +kernel
theorem dX8_item_82 : decode cX8_item 82 = .ok (.aload_n 0, 1) := by decide +kernel
theorem dX8_item_83 : decode cX8_item 83 = .ok (.iload_n 1, 1) := by decide +kernel
theorem dX8_item_84 : decode cX8_item 84 = .ok (.iload_n 2, 1) := by decide +kernel
theorem dX8_item_85 : decode cX8_item 85 = .ok (.iconst 1, 1) := by decide +kernel
theorem dX8_item_86 : decode cX8_item 86 = .ok (.iadd, 1) := by decide +kernel
theorem dX8_item_87 : decode cX8_item 87 = .ok (.invokevirtual 92, 3) := by decide +kernel
theorem dX8_item_90 : decode cX8_item 90 = .ok (.istore 4, 2) := by decide +kernel
theorem dX8_item_92 : decode cX8_item 92 = .ok (.aload_n 0, 1) := by decide +kernel
theorem dX8_item_93 : decode cX8_item 93 = .ok (.aload_n 0, 1) := by decide +kernel
theorem dX8_item_94 : decode cX8_item 94 = .ok (.getfield 96, 3) := by decide +kernel
theorem dX8_item_97 : decode cX8_item 97 = .ok (.ifCond .ne 12, 3) := by decide +kernel
theorem dX8_item_100 : decode cX8_item 100 = .ok (.aload_n 0, 1) := by decide +kernel
theorem dX8_item_101 : decode cX8_item 101 = .ok (.invokevirtual 88, 3) := by decide +kernel
theorem dX8_item_104 : decode cX8_item 104 = .ok (.bipush 41, 2) := by decide +kernel
theorem dX8_item_106 : decode cX8_item 106 = .ok (.if_icmp .eq 7, 3) := by decide +kernel
theorem dX8_item_109 : decode cX8_item 109 = .ok (.iconst 1, 1) := by decide +kernel
theorem dX8_item_110 : decode cX8_item 110 = .ok (.goto 4, 3) := by decide +kernel
theorem dX8_item_113 : decode cX8_item 113 = .ok (.iconst 0, 1) := by decide +kernel
theorem dX8_item_114 : decode cX8_item 114 = .ok (.putfield 96, 3) := by decide +kernel
theorem dX8_item_117 : decode cX8_item 117 = .ok (.goto 90, 3) := by decide +kernel
theorem dX8_item_120 : decode cX8_item 120 = .ok (.aload_n 0, 1) := by decide +kernel
theorem dX8_item_121 : decode cX8_item 121 = .ok (.invokevirtual 88, 3) := by decide +kernel
theorem dX8_item_124 : decode cX8_item 124 = .ok (.bipush 45, 2) := by decide +kernel
theorem dX8_item_126 : decode cX8_item 126 = .ok (.if_icmp .ne 7, 3) := by decide +kernel
theorem dX8_item_129 : decode cX8_item 129 = .ok (.iconst 1, 1) := by decide +kernel
theorem dX8_item_130 : decode cX8_item 130 = .ok (.goto 4, 3) := by decide +kernel
theorem dX8_item_133 : decode cX8_item 133 = .ok (.iconst 0, 1) := by decide +kernel
theorem dX8_item_134 : decode cX8_item 134 = .ok (.istore 5, 2) := by decide +kernel
theorem dX8_item_136 : decode cX8_item 136 = .ok (.aload_n 0, 1) := by decide +kernel
theorem dX8_item_137 : decode cX8_item 137 = .ok (.aload_n 0, 1) := by decide +kernel
theorem dX8_item_138 : decode cX8_item 138 = .ok (.getfield 96, 3) := by decide +kernel
theorem dX8_item_141 : decode cX8_item 141 = .ok (.ifCond .ne 22, 3) := by decide +kernel
theorem dX8_item_144 : decode cX8_item 144 = .ok (.iload 5, 2) := by decide +kernel
theorem dX8_item_146 : decode cX8_item 146 = .ok (.ifCond .ne 21, 3) := by decide +kernel
theorem dX8_item_149 : decode cX8_item 149 = .ok (.aload_n 0, 1) := by decide +kernel
theorem dX8_item_150 : decode cX8_item 150 = .ok (.invokevirtual 88, 3) := by decide +kernel
theorem dX8_item_153 : decode cX8_item 153 = .ok (.bipush 97, 2) := by decide +kernel
theorem dX8_item_155 : decode cX8_item 155 = .ok (.bipush 104, 2) := by decide +kernel
theorem dX8_item_157 : decode cX8_item 157 = .ok (.invokestatic 63, 3) := by decide +kernel
theorem dX8_item_160 : decode cX8_item 160 = .ok (.ifCond .ne 7, 3) := by decide +kernel
theorem dX8_item_163 : decode cX8_item 163 = .ok (.iconst 1, 1) := by decide +kernel
theorem dX8_item_164 : decode cX8_item 164 = .ok (.goto 4, 3) := by decide +kernel
theorem dX8_item_167 : decode cX8_item 167 = .ok (.iconst 0, 1) := by decide +kernel
theorem dX8_item_168 : decode cX8_item 168 = .ok (.putfield 96, 3) := by decide +kernel
theorem dX8_item_171 : decode cX8_item 171 = .ok (.aload_n 0, 1) := by decide +kernel
theorem dX8_item_172 : decode cX8_item 172 = .ok (.getfield 96, 3) := by decide +kernel
theorem dX8_item_175 : decode cX8_item 175 = .ok (.ifCond .ne 32, 3) := by decide +kernel
theorem dX8_item_178 : decode cX8_item 178 = .ok (.iload_n 1, 1) := by decide +kernel
theorem dX8_item_179 : decode cX8_item 179 = .ok (.bipush 60, 2) := by decide +kernel
theorem dX8_item_181 : decode cX8_item 181 = .ok (.if_icmp .ge 26, 3) := by decide +kernel
theorem dX8_item_184 : decode cX8_item 184 = .ok (.aload_n 0, 1) := by decide +kernel
theorem dX8_item_185 : decode cX8_item 185 = .ok (.getfield 47, 3) := by decide +kernel
theorem dX8_item_188 : decode cX8_item 188 = .ok (.iload_n 1, 1) := by decide +kernel
theorem dX8_item_189 : decode cX8_item 189 = .ok (.iload 5, 2) := by decide +kernel
theorem dX8_item_191 : decode cX8_item 191 = .ok (.ifCond .eq 8, 3) := by decide +kernel
theorem dX8_item_194 : decode cX8_item 194 = .ok (.bipush 8, 2) := by decide +kernel
theorem dX8_item_196 : decode cX8_item 196 = .ok (.goto 10, 3) := by decide +kernel
theorem dX8_item_199 : decode cX8_item 199 = .ok (.aload_n 0, 1) := by decide +kernel
theorem dX8_item_200 : decode cX8_item 200 = .ok (.invokevirtual 88, 3) := by decide +kernel
theorem dX8_item_203 : decode cX8_item 203 = .ok (.bipush 97, 2) := by decide +kernel
theorem dX8_item_205 : decode cX8_item 205 = .ok (.isub, 1) := by decide +kernel
theorem dX8_item_206 : decode cX8_item 206 = .ok (.iastore, 1) := by decide +kernel
theorem dX8_item_207 : decode cX8_item 207 = .ok (.aload_n 0, 1) := by decide +kernel
theorem dX8_item_208 : decode cX8_item 208 = .ok (.getfield 96, 3) := by decide +kernel
theorem dX8_item_211 : decode cX8_item 211 = .ok (.ifCond .eq 5, 3) := by decide +kernel
theorem dX8_item_214 : decode cX8_item 214 = .ok (.iconst 0, 1) := by decide +kernel
theorem dX8_item_215 : decode cX8_item 215 = .ok (.ireturn, 1) := by decide +kernel
theorem dX8_item_216 : decode cX8_item 216 = .ok (.aload_n 0, 1) := by decide +kernel
theorem dX8_item_217 : decode cX8_item 217 = .ok (.dup, 1) := by decide +kernel
theorem dX8_item_218 : decode cX8_item 218 = .ok (.getfield 85, 3) := by decide +kernel
theorem dX8_item_221 : decode cX8_item 221 = .ok (.iconst 1, 1) := by decide +kernel
theorem dX8_item_222 : decode cX8_item 222 = .ok (.iadd, 1) := by decide +kernel
theorem dX8_item_223 : decode cX8_item 223 = .ok (.putfield 85, 3) := by decide +kernel
theorem dX8_item_226 : decode cX8_item 226 = .ok (.iload 4, 2) := by decide +kernel
theorem dX8_item_228 : decode cX8_item 228 = .ok (.istore 5, 2) := by decide +kernel
theorem dX8_item_230 : decode cX8_item 230 = .ok (.iload 5, 2) := by decide +kernel
theorem dX8_item_232 : decode cX8_item 232 = .ok (.iload 4, 2) := by decide +kernel
theorem dX8_item_234 : decode cX8_item 234 = .ok (.iload_n 3, 1) := by decide +kernel
theorem dX8_item_235 : decode cX8_item 235 = .ok (.imul, 1) := by decide +kernel
theorem dX8_item_236 : decode cX8_item 236 = .ok (.if_icmp .ge 39, 3) := by decide +kernel
theorem dX8_item_239 : decode cX8_item 239 = .ok (.iload_n 1, 1) := by decide +kernel
theorem dX8_item_240 : decode cX8_item 240 = .ok (.iload 5, 2) := by decide +kernel
theorem dX8_item_242 : decode cX8_item 242 = .ok (.iadd, 1) := by decide +kernel
theorem dX8_item_243 : decode cX8_item 243 = .ok (.bipush 60, 2) := by decide +kernel
theorem dX8_item_245 : decode cX8_item 245 = .ok (.if_icmp .ge 30, 3) := by decide +kernel
theorem dX8_item_248 : decode cX8_item 248 = .ok (.aload_n 0, 1) := by decide +kernel
theorem dX8_item_249 : decode cX8_item 249 = .ok (.getfield 47, 3) := by decide +kernel
theorem dX8_item_252 : decode cX8_item 252 = .ok (.iload_n 1, 1) := by decide +kernel
theorem dX8_item_253 : decode cX8_item 253 = .ok (.iload 5, 2) := by decide +kernel
theorem dX8_item_255 : decode cX8_item 255 = .ok (.iadd, 1) := by decide +kernel
theorem dX8_item_256 : decode cX8_item 256 = .ok (.aload_n 0, 1) := by decide +kernel
theorem dX8_item_257 : decode cX8_item 257 = .ok (.getfield 47, 3) := by decide +kernel
theorem dX8_item_260 : decode cX8_item 260 = .ok (.iload_n 1, 1) := by decide +kernel
theorem dX8_item_261 : decode cX8_item 261 = .ok (.iload 5, 2) := by decide +kernel
theorem dX8_item_263 : decode cX8_item 263 = .ok (.iadd, 1) := by decide +kernel
theorem dX8_item_264 : decode cX8_item 264 = .ok (.iload 4, 2) := by decide +kernel
theorem dX8_item_266 : decode cX8_item 266 = .ok (.isub, 1) := by decide +kernel
theorem dX8_item_267 : decode cX8_item 267 = .ok (.iaload, 1) := by decide +kernel
theorem dX8_item_268 : decode cX8_item 268 = .ok (.iastore, 1) := by decide +kernel
theorem dX8_item_269 : decode cX8_item 269 = .ok (.iinc 5 1, 3) := by decide +kernel
theorem dX8_item_272 : decode cX8_item 272 = .ok (.goto (-42), 3) := by decide +kernel
theorem dX8_item_275 : decode cX8_item 275 = .ok (.iload 4, 2) := by decide +kernel
theorem dX8_item_277 : decode cX8_item 277 = .ok (.iload_n 3, 1) := by decide +kernel
theorem dX8_item_278 : decode cX8_item 278 = .ok (.imul, 1) := by decide +kernel
theorem dX8_item_279 : decode cX8_item 279 = .ok (.sipush 1000, 3) := by decide +kernel
theorem dX8_item_282 : decode cX8_item 282 = .ok (.if_icmp .le 9, 3) := by decide +kernel
theorem dX8_item_285 : decode cX8_item 285 = .ok (.sipush 1000, 3) := by decide +kernel
theorem dX8_item_288 : decode cX8_item 288 = .ok (.goto 7, 3) := by decide +kernel
theorem dX8_item_291 : decode cX8_item 291 = .ok (.iload 4, 2) := by decide +kernel
theorem dX8_item_293 : decode cX8_item 293 = .ok (.iload_n 3, 1) := by decide +kernel
theorem dX8_item_294 : decode cX8_item 294 = .ok (.imul, 1) := by decide +kernel
theorem dX8_item_295 : decode cX8_item 295 = .ok (.ireturn, 1) := by decide +kernel
theorem dX8_row_0 : decode cX8_row 0 = .ok (.iconst 0, 1) := by decide +kernel
theorem dX8_row_1 : decode cX8_row 1 = .ok (.istore_n 3, 1) := by decide +kernel
theorem dX8_row_2 : decode cX8_row 2 = .ok (.iconst 1, 1) := by decide +kernel
theorem dX8_row_3 : decode cX8_row 3 = .ok (.istore 4, 2) := by decide +kernel
theorem dX8_row_5 : decode cX8_row 5 = .ok (.iload 4, 2) := by decide +kernel
theorem dX8_row_7 : decode cX8_row 7 = .ok (.ifCond .eq 90, 3) := by decide +kernel
theorem dX8_row_10 : decode cX8_row 10 = .ok (.iload_n 3, 1) := by decide +kernel
theorem dX8_row_11 : decode cX8_row 11 = .ok (.aload_n 0, 1) := by decide +kernel
theorem dX8_row_12 : decode cX8_row 12 = .ok (.iload_n 1, 1) := by decide +kernel
theorem dX8_row_13 : decode cX8_row 13 = .ok (.iload_n 3, 1) := by decide +kernel
theorem dX8_row_14 : decode cX8_row 14 = .ok (.iadd, 1) := by decide +kernel
theorem dX8_row_15 : decode cX8_row 15 = .ok (.iload_n 2, 1) := by decide +kernel
theorem dX8_row_16 : decode cX8_row 16 = .ok (.invokevirtual 100, 3) := by decide +kernel
theorem dX8_row_19 : decode cX8_row 19 = .ok (.iadd, 1) := by decide +kernel
theorem dX8_row_20 : decode cX8_row 20 = .ok (.istore_n 3, 1) := by decide +kernel
theorem dX8_row_21 : decode cX8_row 21 = .ok (.iload_n 3, 1) := by decide +kernel
theorem dX8_row_22 : decode cX8_row 22 = .ok (.sipush 1000, 3) := by decide +kernel
theorem dX8_row_25 : decode cX8_row 25 = .ok (.if_icmp .le 9, 3) := by decide +kernel
theorem dX8_row_28 : decode cX8_row 28 = .ok (.sipush 1000, 3) := by decide +kernel
theorem dX8_row_31 : decode cX8_row 31 = .ok (.goto 4, 3) := by decide +kernel
theorem dX8_row_34 : decode cX8_row 34 = .ok (.iload_n 3, 1) := by decide +kernel
theorem dX8_row_35 : decode cX8_row 35 = .ok (.istore_n 3, 1) := by decide +kernel
theorem dX8_row_36 : decode cX8_row 36 = .ok (.aload_n 0, 1) := by decide +kernel
theorem dX8_row_37 : decode cX8_row 37 = .ok (.invokevirtual 88, 3) := by decide +kernel
theorem dX8_row_40 : decode cX8_row 40 = .ok (.istore 5, 2) := by decide +kernel
theorem dX8_row_42 : decode cX8_row 42 = .ok (.aload_n 0, 1) := by decide +kernel
theorem dX8_row_43 : decode cX8_row 43 = .ok (.getfield 96, 3) := by decide +kernel
theorem dX8_row_46 : decode cX8_row 46 = .ok (.ifCond .ne 45, 3) := by decide +kernel
theorem dX8_row_49 : decode cX8_row 49 = .ok (.iload 5, 2) := by decide +kernel
theorem dX8_row_51 : decode cX8_row 51 = .ok (.bipush 50, 2) := by decide +kernel
theorem dX8_row_53 : decode cX8_row 53 = .ok (.bipush 57, 2) := by decide +kernel
theorem dX8_row_55 : decode cX8_row 55 = .ok (.invokestatic 63, 3) := by decide +kernel
theorem dX8_row_58 : decode cX8_row 58 = .ok (.ifCond .ne 29, 3) := by decide +kernel
theorem dX8_row_61 : decode cX8_row 61 = .ok (.iload 5, 2) := by decide +kernel
theorem dX8_row_63 : decode cX8_row 63 = .ok (.bipush 97, 2) := by decide +kernel
theorem dX8_row_65 : decode cX8_row 65 = .ok (.bipush 104, 2) := by decide +kernel
theorem dX8_row_67 : decode cX8_row 67 = .ok (.invokestatic 63, 3) := by decide +kernel
theorem dX8_row_70 : decode cX8_row 70 = .ok (.ifCond .ne 17, 3) := by decide +kernel
theorem dX8_row_73 : decode cX8_row 73 = .ok (.iload 5, 2) := by decide +kernel
theorem dX8_row_75 : decode cX8_row 75 = .ok (.bipush 45, 2) := by decide +kernel
theorem dX8_row_77 : decode cX8_row 77 = .ok (.if_icmp .eq 10, 3) := by decide +kernel
theorem dX8_row_80 : decode cX8_row 80 = .ok (.iload 5, 2) := by decide +kernel
theorem dX8_row_82 : decode cX8_row 82 = .ok (.bipush 40, 2) := by decide +kernel
theorem dX8_row_84 : decode cX8_row 84 = .ok (.if_icmp .ne 7, 3) := by decide +kernel
theorem dX8_row_87 : decode cX8_row 87 = .ok (.iconst 1, 1) := by decide +kernel
theorem dX8_row_88 : decode cX8_row 88 = .ok (.goto 4, 3) := by decide +kernel
theorem dX8_row_91 : decode cX8_row 91 = .ok (.iconst 0, 1) := by decide +kernel
theorem dX8_row_92 : decode cX8_row 92 = .ok (.istore 4, 2) := by decide +kernel
theorem dX8_row_94 : decode cX8_row 94 = .ok (.goto (-89), 3) := by decide +kernel
theorem dX8_row_97 : decode cX8_row 97 = .ok (.iload_n 3, 1) := by decide +kernel
theorem dX8_row_98 : decode cX8_row 98 = .ok (.ireturn, 1) := by decide +kernel
theorem dX8_phrase_0 : decode cX8_phrase 0 = .ok (.aload_n 0, 1) := by decide +kernel
theorem dX8_phrase_1 : decode cX8_phrase 1 = .ok (.iconst 0, 1) := by decide +kernel
theorem dX8_phrase_2 : decode cX8_phrase 2 = .ok (.putfield 85, 3) := by decide +kernel
theorem dX8_phrase_5 : decode cX8_phrase 5 = .ok (.aload_n 0, 1) := by decide +kernel
theorem dX8_phrase_6 : decode cX8_phrase 6 = .ok (.iconst 0, 1) := by decide +kernel
theorem dX8_phrase_7 : decode cX8_phrase 7 = .ok (.putfield 96, 3) := by decide +kernel
theorem dX8_phrase_10 : decode cX8_phrase 10 = .ok (.aload_n 0, 1) := by decide +kernel
theorem dX8_phrase_11 : decode cX8_phrase 11 = .ok (.iconst 0, 1) := by decide +kernel
theorem dX8_phrase_12 : decode cX8_phrase 12 = .ok (.iconst 0, 1) := by decide +kernel
theorem dX8_phrase_13 : decode cX8_phrase 13 = .ok (.invokevirtual 92, 3) := by decide +kernel
theorem dX8_phrase_16 : decode cX8_phrase 16 = .ok (.istore_n 2, 1) := by decide +kernel
theorem dX8_phrase_17 : decode cX8_phrase 17 = .ok (.aload_n 0, 1) := by decide +kernel
theorem dX8_phrase_18 : decode cX8_phrase 18 = .ok (.getfield 96, 3) := by decide +kernel
theorem dX8_phrase_21 : decode cX8_phrase 21 = .ok (.ifCond .ne 18, 3) := by decide +kernel
theorem dX8_phrase_24 : decode cX8_phrase 24 = .ok (.aload_n 0, 1) := by decide +kernel
theorem dX8_phrase_25 : decode cX8_phrase 25 = .ok (.getfield 85, 3) := by decide +kernel
theorem dX8_phrase_28 : decode cX8_phrase 28 = .ok (.aload_n 0, 1) := by decide +kernel
theorem dX8_phrase_29 : decode cX8_phrase 29 = .ok (.getfield 78, 3) := by decide +kernel
theorem dX8_phrase_32 : decode cX8_phrase 32 = .ok (.if_icmp .ne 7, 3) := by decide +kernel
theorem dX8_phrase_35 : decode cX8_phrase 35 = .ok (.iconst 1, 1) := by decide +kernel
theorem dX8_phrase_36 : decode cX8_phrase 36 = .ok (.goto 4, 3) := by decide +kernel
theorem dX8_phrase_39 : decode cX8_phrase 39 = .ok (.iconst 0, 1) := by decide +kernel
theorem dX8_phrase_40 : decode cX8_phrase 40 = .ok (.istore_n 3, 1) := by decide +kernel
theorem dX8_phrase_41 : decode cX8_phrase 41 = .ok (.aload_n 0, 1) := by decide +kernel
theorem dX8_phrase_42 : decode cX8_phrase 42 = .ok (.getfield 85, 3) := by decide +kernel
theorem dX8_phrase_45 : decode cX8_phrase 45 = .ok (.istore 4, 2) := by decide +kernel
theorem dX8_phrase_47 : decode cX8_phrase 47 = .ok (.aload_n 0, 1) := by decide +kernel
theorem dX8_phrase_48 : decode cX8_phrase 48 = .ok (.iconst 0, 1) := by decide +kernel
theorem dX8_phrase_49 : decode cX8_phrase 49 = .ok (.putfield 78, 3) := by decide +kernel
theorem dX8_phrase_52 : decode cX8_phrase 52 = .ok (.iload_n 1, 1) := by decide +kernel
theorem dX8_phrase_53 : decode cX8_phrase 53 = .ok (.invokestatic 103, 3) := by decide +kernel
theorem dX8_phrase_56 : decode cX8_phrase 56 = .ok (.ifCond .ne 6, 3) := by decide +kernel
theorem dX8_phrase_59 : decode cX8_phrase 59 = .ok (.ldc 71, 2) := by decide +kernel
theorem dX8_phrase_61 : decode cX8_phrase 61 = .ok (.ireturn, 1) := by decide +kernel
theorem dX8_phrase_62 : decode cX8_phrase 62 = .ok (.iload_n 3, 1) := by decide +kernel
theorem dX8_phrase_63 : decode cX8_phrase 63 = .ok (.ifCond .ne 9, 3) := by decide +kernel
theorem dX8_phrase_66 : decode cX8_phrase 66 = .ok (.bipush (-100), 2) := by decide +kernel
theorem dX8_phrase_68 : decode cX8_phrase 68 = .ok (.iload 4, 2) := by decide +kernel
theorem dX8_phrase_70 : decode cX8_phrase 70 = .ok (.isub, 1) := by decide +kernel
theorem dX8_phrase_71 : decode cX8_phrase 71 = .ok (.ireturn, 1) := by decide +kernel
theorem dX8_phrase_72 : decode cX8_phrase 72 = .ok (.iload_n 2, 1) := by decide +kernel
theorem dX8_phrase_73 : decode cX8_phrase 73 = .ok (.bipush 60, 2) := by decide +kernel
theorem dX8_phrase_75 : decode cX8_phrase 75 = .ok (.if_icmp .le 6, 3) := by decide +kernel
theorem dX8_phrase_78 : decode cX8_phrase 78 = .ok (.ldc 72, 2) := by decide +kernel
theorem dX8_phrase_80 : decode cX8_phrase 80 = .ok (.ireturn, 1) := by decide +kernel
theorem dX8_phrase_81 : decode cX8_phrase 81 = .ok (.aload_n 0, 1) := by decide +kernel
theorem dX8_phrase_82 : decode cX8_phrase 82 = .ok (.getfield 19, 3) := by decide +kernel
theorem dX8_phrase_85 : decode cX8_phrase 85 = .ok (.iload_n 1, 1) := by decide +kernel
theorem dX8_phrase_86 : decode cX8_phrase 86 = .ok (.iload_n 2, 1) := by decide +kernel
theorem dX8_phrase_87 : decode cX8_phrase 87 = .ok (.iastore, 1) := by decide +kernel
theorem dX8_phrase_88 : decode cX8_phrase 88 = .ok (.iconst 0, 1) := by decide +kernel
theorem dX8_phrase_89 : decode cX8_phrase 89 = .ok (.istore 5, 2) := by decide +kernel
theorem dX8_phrase_91 : decode cX8_phrase 91 = .ok (.iload 5, 2) := by decide +kernel
theorem dX8_phrase_93 : decode cX8_phrase 93 = .ok (.iload_n 2, 1) := by decide +kernel
theorem dX8_phrase_94 : decode cX8_phrase 94 = .ok (.if_icmp .ge 28, 3) := by decide +kernel
theorem dX8_phrase_97 : decode cX8_phrase 97 = .ok (.aload_n 0, 1) := by decide +kernel
theorem dX8_phrase_98 : decode cX8_phrase 98 = .ok (.getfield 22, 3) := by decide +kernel
theorem dX8_phrase_101 : decode cX8_phrase 101 = .ok (.bipush 60, 2) := by decide +kernel
theorem dX8_phrase_103 : decode cX8_phrase 103 = .ok (.iload_n 1, 1) := by decide +kernel
theorem dX8_phrase_104 : decode cX8_phrase 104 = .ok (.imul, 1) := by decide +kernel
theorem dX8_phrase_105 : decode cX8_phrase 105 = .ok (.iload 5, 2) := by decide +kernel
theorem dX8_phrase_107 : decode cX8_phrase 107 = .ok (.iadd, 1) := by decide +kernel
theorem dX8_phrase_108 : decode cX8_phrase 108 = .ok (.aload_n 0, 1) := by decide +kernel
theorem dX8_phrase_109 : decode cX8_phrase 109 = .ok (.getfield 47, 3) := by decide +kernel
theorem dX8_phrase_112 : decode cX8_phrase 112 = .ok (.iload 5, 2) := by decide +kernel
theorem dX8_phrase_114 : decode cX8_phrase 114 = .ok (.iaload, 1) := by decide +kernel
theorem dX8_phrase_115 : decode cX8_phrase 115 = .ok (.iastore, 1) := by decide +kernel
theorem dX8_phrase_116 : decode cX8_phrase 116 = .ok (.iinc 5 1, 3) := by decide +kernel
theorem dX8_phrase_119 : decode cX8_phrase 119 = .ok (.goto (-28), 3) := by decide +kernel
theorem dX8_phrase_122 : decode cX8_phrase 122 = .ok (.iload_n 2, 1) := by decide +kernel
theorem dX8_phrase_123 : decode cX8_phrase 123 = .ok (.ireturn, 1) := by decide +kernel
theorem dX8_syllable_0 : decode cX8_syllable 0 = .ok (.iload_n 1, 1) := by decide +kernel
theorem dX8_syllable_1 : decode cX8_syllable 1 = .ok (.invokestatic 103, 3) := by decide +kernel
theorem dX8_syllable_4 : decode cX8_syllable 4 = .ok (.ifCond .eq 7, 3) := by decide +kernel
theorem dX8_syllable_7 : decode cX8_syllable 7 = .ok (.iload_n 2, 1) := by decide +kernel
theorem dX8_syllable_8 : decode cX8_syllable 8 = .ok (.ifCond .ge 6, 3) := by decide +kernel
theorem dX8_syllable_11 : decode cX8_syllable 11 = .ok (.ldc 71, 2) := by decide +kernel
theorem dX8_syllable_13 : decode cX8_syllable 13 = .ok (.ireturn, 1) := by decide +kernel
theorem dX8_syllable_14 : decode cX8_syllable 14 = .ok (.iload_n 2, 1) := by decide +kernel
theorem dX8_syllable_15 : decode cX8_syllable 15 = .ok (.aload_n 0, 1) := by decide +kernel
theorem dX8_syllable_16 : decode cX8_syllable 16 = .ok (.getfield 19, 3) := by decide +kernel
theorem dX8_syllable_19 : decode cX8_syllable 19 = .ok (.iload_n 1, 1) := by decide +kernel
theorem dX8_syllable_20 : decode cX8_syllable 20 = .ok (.iaload, 1) := by decide +kernel
theorem dX8_syllable_21 : decode cX8_syllable 21 = .ok (.if_icmp .ge 17, 3) := by decide +kernel
theorem dX8_syllable_24 : decode cX8_syllable 24 = .ok (.aload_n 0, 1) := by decide +kernel
theorem dX8_syllable_25 : decode cX8_syllable 25 = .ok (.getfield 22, 3) := by decide +kernel
theorem dX8_syllable_28 : decode cX8_syllable 28 = .ok (.bipush 60, 2) := by decide +kernel
theorem dX8_syllable_30 : decode cX8_syllable 30 = .ok (.iload_n 1, 1) := by decide +kernel
theorem dX8_syllable_31 : decode cX8_syllable 31 = .ok (.imul, 1) := by decide +kernel
theorem dX8_syllable_32 : decode cX8_syllable 32 = .ok (.iload_n 2, 1) := by decide +kernel
theorem dX8_syllable_33 : decode cX8_syllable 33 = .ok (.iadd, 1) := by decide +kernel
theorem dX8_syllable_34 : decode cX8_syllable 34 = .ok (.iaload, 1) := by decide +kernel
theorem dX8_syllable_35 : decode cX8_syllable 35 = .ok (.goto 5, 3) := by decide +kernel
theorem dX8_syllable_38 : decode cX8_syllable 38 = .ok (.ldc 106, 2) := by decide +kernel
theorem dX8_syllable_40 : decode cX8_syllable 40 = .ok (.ireturn, 1) := by decide +kernel
theorem dX8_ticksOf_0 : decode cX8_ticksOf 0 = .ok (.aload_n 0, 1) := by decide +kernel
theorem dX8_ticksOf_1 : decode cX8_ticksOf 1 = .ok (.getfield 19, 3) := by decide +kernel
theorem dX8_ticksOf_4 : decode cX8_ticksOf 4 = .ok (.iload_n 1, 1) := by decide +kernel
theorem dX8_ticksOf_5 : decode cX8_ticksOf 5 = .ok (.iaload, 1) := by decide +kernel
theorem dX8_ticksOf_6 : decode cX8_ticksOf 6 = .ok (.bipush 24, 2) := by decide +kernel
theorem dX8_ticksOf_8 : decode cX8_ticksOf 8 = .ok (.iload_n 2, 1) := by decide +kernel
theorem dX8_ticksOf_9 : decode cX8_ticksOf 9 = .ok (.idiv, 1) := by decide +kernel
theorem dX8_ticksOf_10 : decode cX8_ticksOf 10 = .ok (.imul, 1) := by decide +kernel
theorem dX8_ticksOf_11 : decode cX8_ticksOf 11 = .ok (.ireturn, 1) := by decide +kernel
theorem dX8_ticks_0 : decode cX8_ticks 0 = .ok (.iload_n 1, 1) := by decide +kernel
theorem dX8_ticks_1 : decode cX8_ticks 1 = .ok (.invokestatic 103, 3) := by decide +kernel
theorem dX8_ticks_4 : decode cX8_ticks 4 = .ok (.ifCond .eq 19, 3) := by decide +kernel
theorem dX8_ticks_7 : decode cX8_ticks 7 = .ok (.iload_n 2, 1) := by decide +kernel
theorem dX8_ticks_8 : decode cX8_ticks 8 = .ok (.invokestatic 107, 3) := by decide +kernel
theorem dX8_ticks_11 : decode cX8_ticks 11 = .ok (.ifCond .eq 12, 3) := by decide +kernel
theorem dX8_ticks_14 : decode cX8_ticks 14 = .ok (.aload_n 0, 1) := by decide +kernel
theorem dX8_ticks_15 : decode cX8_ticks 15 = .ok (.iload_n 1, 1) := by decide +kernel
theorem dX8_ticks_16 : decode cX8_ticks 16 = .ok (.iload_n 2, 1) := by decide +kernel
theorem dX8_ticks_17 : decode cX8_ticks 17 = .ok (.invokevirtual 110, 3) := by decide +kernel
theorem dX8_ticks_20 : decode cX8_ticks 20 = .ok (.goto 5, 3) := by decide +kernel
theorem dX8_ticks_23 : decode cX8_ticks 23 = .ok (.ldc 71, 2) := by decide +kernel
theorem dX8_ticks_25 : decode cX8_ticks 25 = .ok (.ireturn, 1) := by decide +kernel
theorem dX8_refused_0 : decode cX8_refused 0 = .ok (.iload_n 1, 1) := by decide +kernel
theorem dX8_refused_1 : decode cX8_refused 1 = .ok (.invokestatic 67, 3) := by decide +kernel
theorem dX8_refused_4 : decode cX8_refused 4 = .ok (.ifCond .eq 32, 3) := by decide +kernel
theorem dX8_refused_7 : decode cX8_refused 7 = .ok (.iload_n 2, 1) := by decide +kernel
theorem dX8_refused_8 : decode cX8_refused 8 = .ok (.invokestatic 103, 3) := by decide +kernel
theorem dX8_refused_11 : decode cX8_refused 11 = .ok (.ifCond .eq 25, 3) := by decide +kernel
theorem dX8_refused_14 : decode cX8_refused 14 = .ok (.iload_n 3, 1) := by decide +kernel
theorem dX8_refused_15 : decode cX8_refused 15 = .ok (.ifCond .lt 21, 3) := by decide +kernel
theorem dX8_refused_18 : decode cX8_refused 18 = .ok (.iload_n 3, 1) := by decide +kernel
theorem dX8_refused_19 : decode cX8_refused 19 = .ok (.bipush 10, 2) := by decide +kernel
theorem dX8_refused_21 : decode cX8_refused 21 = .ok (.irem, 1) := by decide +kernel
theorem dX8_refused_22 : decode cX8_refused 22 = .ok (.iconst 1, 1) := by decide +kernel
theorem dX8_refused_23 : decode cX8_refused 23 = .ok (.if_icmp .gt 13, 3) := by decide +kernel
theorem dX8_refused_26 : decode cX8_refused 26 = .ok (.iload_n 3, 1) := by decide +kernel
theorem dX8_refused_27 : decode cX8_refused 27 = .ok (.bipush 10, 2) := by decide +kernel
theorem dX8_refused_29 : decode cX8_refused 29 = .ok (.idiv, 1) := by decide +kernel
theorem dX8_refused_30 : decode cX8_refused 30 = .ok (.invokestatic 107, 3) := by decide +kernel
theorem dX8_refused_33 : decode cX8_refused 33 = .ok (.ifCond .ne 6, 3) := by decide +kernel
theorem dX8_refused_36 : decode cX8_refused 36 = .ok (.ldc 71, 2) := by decide +kernel
theorem dX8_refused_38 : decode cX8_refused 38 = .ok (.ireturn, 1) := by decide +kernel
theorem dX8_refused_39 : decode cX8_refused 39 = .ok (.aload_n 0, 1) := by decide +kernel
theorem dX8_refused_40 : decode cX8_refused 40 = .ok (.getfield 7, 3) := by decide +kernel
theorem dX8_refused_43 : decode cX8_refused 43 = .ok (.iload_n 1, 1) := by decide +kernel
theorem dX8_refused_44 : decode cX8_refused 44 = .ok (.iaload, 1) := by decide +kernel
theorem dX8_refused_45 : decode cX8_refused 45 = .ok (.ifCond .eq 12, 3) := by decide +kernel
theorem dX8_refused_48 : decode cX8_refused 48 = .ok (.aload_n 0, 1) := by decide +kernel
theorem dX8_refused_49 : decode cX8_refused 49 = .ok (.getfield 19, 3) := by decide +kernel
theorem dX8_refused_52 : decode cX8_refused 52 = .ok (.iload_n 2, 1) := by decide +kernel
theorem dX8_refused_53 : decode cX8_refused 53 = .ok (.iaload, 1) := by decide +kernel
theorem dX8_refused_54 : decode cX8_refused 54 = .ok (.ifCond .ne 8, 3) := by decide +kernel
theorem dX8_refused_57 : decode cX8_refused 57 = .ok (.ldc 77, 2) := by decide +kernel
theorem dX8_refused_59 : decode cX8_refused 59 = .ok (.goto 4, 3) := by decide +kernel
theorem dX8_refused_62 : decode cX8_refused 62 = .ok (.iconst 0, 1) := by decide +kernel
theorem dX8_refused_63 : decode cX8_refused 63 = .ok (.ireturn, 1) := by decide +kernel
theorem dX8_till_0 : decode cX8_till 0 = .ok (.ldc2_w 113, 3) := by decide +kernel
theorem dX8_till_3 : decode cX8_till 3 = .ok (.aload_n 0, 1) := by decide +kernel
theorem dX8_till_4 : decode cX8_till 4 = .ok (.iload_n 1, 1) := by decide +kernel
theorem dX8_till_5 : decode cX8_till 5 = .ok (.iload_n 2, 1) := by decide +kernel
theorem dX8_till_6 : decode cX8_till 6 = .ok (.bipush 10, 2) := by decide +kernel
theorem dX8_till_8 : decode cX8_till 8 = .ok (.idiv, 1) := by decide +kernel
theorem dX8_till_9 : decode cX8_till 9 = .ok (.invokevirtual 110, 3) := by decide +kernel
theorem dX8_till_12 : decode cX8_till 12 = .ok (.i2l, 1) := by decide +kernel
theorem dX8_till_13 : decode cX8_till 13 = .ok (.lmul, 1) := by decide +kernel
theorem dX8_till_14 : decode cX8_till 14 = .ok (.ldc2_w 115, 3) := by decide +kernel
theorem dX8_till_17 : decode cX8_till 17 = .ok (.iload_n 3, 1) := by decide +kernel
theorem dX8_till_18 : decode cX8_till 18 = .ok (.i2l, 1) := by decide +kernel
theorem dX8_till_19 : decode cX8_till 19 = .ok (.lmul, 1) := by decide +kernel
theorem dX8_till_20 : decode cX8_till 20 = .ok (.ladd, 1) := by decide +kernel
theorem dX8_till_21 : decode cX8_till 21 = .ok (.lstore 4, 2) := by decide +kernel
theorem dX8_till_23 : decode cX8_till 23 = .ok (.iload_n 2, 1) := by decide +kernel
theorem dX8_till_24 : decode cX8_till 24 = .ok (.bipush 10, 2) := by decide +kernel
theorem dX8_till_26 : decode cX8_till 26 = .ok (.irem, 1) := by decide +kernel
theorem dX8_till_27 : decode cX8_till 27 = .ok (.iconst 1, 1) := by decide +kernel
theorem dX8_till_28 : decode cX8_till 28 = .ok (.if_icmp .ne 17, 3) := by decide +kernel
theorem dX8_till_31 : decode cX8_till 31 = .ok (.lload 4, 2) := by decide +kernel
theorem dX8_till_33 : decode cX8_till 33 = .ok (.bipush 24, 2) := by decide +kernel
theorem dX8_till_35 : decode cX8_till 35 = .ok (.iload_n 2, 1) := by decide +kernel
theorem dX8_till_36 : decode cX8_till 36 = .ok (.bipush 10, 2) := by decide +kernel
theorem dX8_till_38 : decode cX8_till 38 = .ok (.idiv, 1) := by decide +kernel
theorem dX8_till_39 : decode cX8_till 39 = .ok (.idiv, 1) := by decide +kernel
theorem dX8_till_40 : decode cX8_till 40 = .ok (.i2l, 1) := by decide +kernel
theorem dX8_till_41 : decode cX8_till 41 = .ok (.lsub, 1) := by decide +kernel
theorem dX8_till_42 : decode cX8_till 42 = .ok (.goto 5, 3) := by decide +kernel
theorem dX8_till_45 : decode cX8_till 45 = .ok (.lload 4, 2) := by decide +kernel
theorem dX8_till_47 : decode cX8_till 47 = .ok (.lreturn, 1) := by decide +kernel
theorem dX8_tillDouble_0 : decode cX8_tillDouble 0 = .ok (.ldc2_w 117, 3) := by decide +kernel
theorem dX8_tillDouble_3 : decode cX8_tillDouble 3 = .ok (.aload_n 0, 1) := by decide +kernel
theorem dX8_tillDouble_4 : decode cX8_tillDouble 4 = .ok (.iload_n 1, 1) := by decide +kernel
theorem dX8_tillDouble_5 : decode cX8_tillDouble 5 = .ok (.iload_n 2, 1) := by decide +kernel
theorem dX8_tillDouble_6 : decode cX8_tillDouble 6 = .ok (.bipush 10, 2) := by decide +kernel
theorem dX8_tillDouble_8 : decode cX8_tillDouble 8 = .ok (.idiv, 1) := by decide +kernel
theorem dX8_tillDouble_9 : decode cX8_tillDouble 9 = .ok (.invokevirtual 110, 3) := by decide +kernel
theorem dX8_tillDouble_12 : decode cX8_tillDouble 12 = .ok (.i2l, 1) := by decide +kernel
theorem dX8_tillDouble_13 : decode cX8_tillDouble 13 = .ok (.lmul, 1) := by decide +kernel
theorem dX8_tillDouble_14 : decode cX8_tillDouble 14 = .ok (.ldc2_w 119, 3) := by decide +kernel
theorem dX8_tillDouble_17 : decode cX8_tillDouble 17 = .ok (.iload_n 3, 1) := by decide +kernel
theorem dX8_tillDouble_18 : decode cX8_tillDouble 18 = .ok (.i2l, 1) := by decide +kernel
theorem dX8_tillDouble_19 : decode cX8_tillDouble 19 = .ok (.lmul, 1) := by decide +kernel
theorem dX8_tillDouble_20 : decode cX8_tillDouble 20 = .ok (.ladd, 1) := by decide +kernel
theorem dX8_tillDouble_21 : decode cX8_tillDouble 21 = .ok (.ldc2_w 115, 3) := by decide +kernel
theorem dX8_tillDouble_24 : decode cX8_tillDouble 24 = .ok (.iload 4, 2) := by decide +kernel
theorem dX8_tillDouble_26 : decode cX8_tillDouble 26 = .ok (.i2l, 1) := by decide +kernel
theorem dX8_tillDouble_27 : decode cX8_tillDouble 27 = .ok (.lmul, 1) := by decide +kernel
theorem dX8_tillDouble_28 : decode cX8_tillDouble 28 = .ok (.ladd, 1) := by decide +kernel
theorem dX8_tillDouble_29 : decode cX8_tillDouble 29 = .ok (.lstore 5, 2) := by decide +kernel
theorem dX8_tillDouble_31 : decode cX8_tillDouble 31 = .ok (.iload_n 2, 1) := by decide +kernel
theorem dX8_tillDouble_32 : decode cX8_tillDouble 32 = .ok (.bipush 10, 2) := by decide +kernel
theorem dX8_tillDouble_34 : decode cX8_tillDouble 34 = .ok (.irem, 1) := by decide +kernel
theorem dX8_tillDouble_35 : decode cX8_tillDouble 35 = .ok (.iconst 1, 1) := by decide +kernel
theorem dX8_tillDouble_36 : decode cX8_tillDouble 36 = .ok (.if_icmp .ne 17, 3) := by decide +kernel
theorem dX8_tillDouble_39 : decode cX8_tillDouble 39 = .ok (.lload 5, 2) := by decide +kernel
theorem dX8_tillDouble_41 : decode cX8_tillDouble 41 = .ok (.bipush 24, 2) := by decide +kernel
theorem dX8_tillDouble_43 : decode cX8_tillDouble 43 = .ok (.iload_n 2, 1) := by decide +kernel
theorem dX8_tillDouble_44 : decode cX8_tillDouble 44 = .ok (.bipush 10, 2) := by decide +kernel
theorem dX8_tillDouble_46 : decode cX8_tillDouble 46 = .ok (.idiv, 1) := by decide +kernel
theorem dX8_tillDouble_47 : decode cX8_tillDouble 47 = .ok (.idiv, 1) := by decide +kernel
theorem dX8_tillDouble_48 : decode cX8_tillDouble 48 = .ok (.i2l, 1) := by decide +kernel
theorem dX8_tillDouble_49 : decode cX8_tillDouble 49 = .ok (.lsub, 1) := by decide +kernel
theorem dX8_tillDouble_50 : decode cX8_tillDouble 50 = .ok (.goto 5, 3) := by decide +kernel
theorem dX8_tillDouble_53 : decode cX8_tillDouble 53 = .ok (.lload 5, 2) := by decide +kernel
theorem dX8_tillDouble_55 : decode cX8_tillDouble 55 = .ok (.lreturn, 1) := by decide +kernel
