theorem dX7_mark_0 : decode cX7_mark 0 = .ok (.aload_n 0, 1) := by decide +kernel
theorem dX7_mark_1 : decode cX7_mark 1 = .ok (.iload_n 1, 1) := by decide +kernel
theorem dX7_mark_2 : decode cX7_mark 2 = .ok (.invokevirtual 155, 3) := by decide +kernel
theorem dX7_mark_5 : decode cX7_mark 5 = .ok (.astore 4, 2) := by decide +kernel
theorem dX7_mark_7 : decode cX7_mark 7 = .ok (.aload 4, 2) := by decide +kernel
theorem dX7_mark_9 : decode cX7_mark 9 = .ok (.ifnonnull 6, 3) := by decide +kernel
theorem dX7_mark_12 : decode cX7_mark 12 = .ok (.ldc 70, 2) := by decide +kernel
theorem dX7_mark_14 : decode cX7_mark 14 = .ok (.ireturn, 1) := by decide +kernel
theorem dX7_mark_15 : decode cX7_mark 15 = .ok (.aload 4, 2) := by decide +kernel
theorem dX7_mark_17 : decode cX7_mark 17 = .ok (.invokevirtual 159, 3) := by decide +kernel
theorem dX7_mark_20 : decode cX7_mark 20 = .ok (.ifCond .eq 6, 3) := by decide +kernel
theorem dX7_mark_23 : decode cX7_mark 23 = .ok (.ldc 163, 2) := by decide +kernel
theorem dX7_mark_25 : decode cX7_mark 25 = .ok (.ireturn, 1) := by decide +kernel
theorem dX7_mark_26 : decode cX7_mark 26 = .ok (.aload 4, 2) := by decide +kernel
theorem dX7_mark_28 : decode cX7_mark 28 = .ok (.iload_n 2, 1) := by decide +kernel
theorem dX7_mark_29 : decode cX7_mark 29 = .ok (.iload_n 3, 1) := by decide +kernel
theorem dX7_mark_30 : decode cX7_mark 30 = .ok (.i2b, 1) := by decide +kernel
theorem dX7_mark_31 : decode cX7_mark 31 = .ok (.invokevirtual 202, 3) := by decide +kernel
theorem dX7_mark_34 : decode cX7_mark 34 = .ok (.ireturn, 1) := by decide +kernel
theorem dX7_copy_0 : decode cX7_copy 0 = .ok (.aload_n 0, 1) := by decide +kernel
theorem dX7_copy_1 : decode cX7_copy 1 = .ok (.iload_n 1, 1) := by decide +kernel
theorem dX7_copy_2 : decode cX7_copy 2 = .ok (.invokevirtual 99, 3) := by decide +kernel
theorem dX7_copy_5 : decode cX7_copy 5 = .ok (.astore 6, 2) := by decide +kernel
theorem dX7_copy_7 : decode cX7_copy 7 = .ok (.aload_n 0, 1) := by decide +kernel
theorem dX7_copy_8 : decode cX7_copy 8 = .ok (.iload_n 3, 1) := by decide +kernel
theorem dX7_copy_9 : decode cX7_copy 9 = .ok (.invokevirtual 155, 3) := by decide +kernel
theorem dX7_copy_12 : decode cX7_copy 12 = .ok (.astore 7, 2) := by decide +kernel
theorem dX7_copy_14 : decode cX7_copy 14 = .ok (.aload 6, 2) := by decide +kernel
theorem dX7_copy_16 : decode cX7_copy 16 = .ok (.ifnull 8, 3) := by decide +kernel
theorem dX7_copy_19 : decode cX7_copy 19 = .ok (.aload 7, 2) := by decide +kernel
theorem dX7_copy_21 : decode cX7_copy 21 = .ok (.ifnonnull 6, 3) := by decide +kernel
theorem dX7_copy_24 : decode cX7_copy 24 = .ok (.ldc 70, 2) := by decide +kernel
theorem dX7_copy_26 : decode cX7_copy 26 = .ok (.ireturn, 1) := by decide +kernel
theorem dX7_copy_27 : decode cX7_copy 27 = .ok (.aload 7, 2) := by decide +kernel
theorem dX7_copy_29 : decode cX7_copy 29 = .ok (.invokevirtual 159, 3) := by decide +kernel
theorem dX7_copy_32 : decode cX7_copy 32 = .ok (.ifCond .eq 6, 3) := by decide +kernel
theorem dX7_copy_35 : decode cX7_copy 35 = .ok (.ldc 163, 2) := by decide +kernel
theorem dX7_copy_37 : decode cX7_copy 37 = .ok (.ireturn, 1) := by decide +kernel
theorem dX7_copy_38 : decode cX7_copy 38 = .ok (.iload_n 2, 1) := by decide +kernel
theorem dX7_copy_39 : decode cX7_copy 39 = .ok (.iload 5, 2) := by decide +kernel
theorem dX7_copy_41 : decode cX7_copy 41 = .ok (.aload 6, 2) := by decide +kernel
theorem dX7_copy_43 : decode cX7_copy 43 = .ok (.getfield 113, 3) := by decide +kernel
theorem dX7_copy_46 : decode cX7_copy 46 = .ok (.invokestatic 205, 3) := by decide +kernel
theorem dX7_copy_49 : decode cX7_copy 49 = .ok (.ifCond .eq 18, 3) := by decide +kernel
theorem dX7_copy_52 : decode cX7_copy 52 = .ok (.iload 4, 2) := by decide +kernel
theorem dX7_copy_54 : decode cX7_copy 54 = .ok (.iload 5, 2) := by decide +kernel
theorem dX7_copy_56 : decode cX7_copy 56 = .ok (.aload 7, 2) := by decide +kernel
theorem dX7_copy_58 : decode cX7_copy 58 = .ok (.getfield 209, 3) := by decide +kernel
theorem dX7_copy_61 : decode cX7_copy 61 = .ok (.invokestatic 205, 3) := by decide +kernel
theorem dX7_copy_64 : decode cX7_copy 64 = .ok (.ifCond .ne 6, 3) := by decide +kernel
theorem dX7_copy_67 : decode cX7_copy 67 = .ok (.ldc 212, 2) := by decide +kernel
theorem dX7_copy_69 : decode cX7_copy 69 = .ok (.ireturn, 1) := by decide +kernel
theorem dX7_copy_70 : decode cX7_copy 70 = .ok (.aload 6, 2) := by decide +kernel
theorem dX7_copy_72 : decode cX7_copy 72 = .ok (.getfield 213, 3) := by decide +kernel
theorem dX7_copy_75 : decode cX7_copy 75 = .ok (.iload_n 2, 1) := by decide +kernel
theorem dX7_copy_76 : decode cX7_copy 76 = .ok (.aload 7, 2) := by decide +kernel
theorem dX7_copy_78 : decode cX7_copy 78 = .ok (.getfield 217, 3) := by decide +kernel
theorem dX7_copy_81 : decode cX7_copy 81 = .ok (.iload 4, 2) := by decide +kernel
theorem dX7_copy_83 : decode cX7_copy 83 = .ok (.iload 5, 2) := by decide +kernel
theorem dX7_copy_85 : decode cX7_copy 85 = .ok (.invokestatic 218, 3) := by decide +kernel
theorem dX7_copy_88 : decode cX7_copy 88 = .ok (.iload 5, 2) := by decide +kernel
theorem dX7_copy_90 : decode cX7_copy 90 = .ok (.ireturn, 1) := by decide +kernel
theorem dX7_count_0 : decode cX7_count 0 = .ok (.iload_n 1, 1) := by decide +kernel
theorem dX7_count_1 : decode cX7_count 1 = .ok (.tableswitch 75 0 5 #[39, 44, 49, 54, 62, 70], 39) := by decide +kernel
theorem dX7_count_40 : decode cX7_count 40 = .ok (.aload_n 0, 1) := by decide +kernel
theorem dX7_count_41 : decode cX7_count 41 = .ok (.invokevirtual 224, 3) := by decide +kernel
theorem dX7_count_44 : decode cX7_count 44 = .ok (.ireturn, 1) := by decide +kernel
theorem dX7_count_45 : decode cX7_count 45 = .ok (.aload_n 0, 1) := by decide +kernel
theorem dX7_count_46 : decode cX7_count 46 = .ok (.invokevirtual 227, 3) := by decide +kernel
theorem dX7_count_49 : decode cX7_count 49 = .ok (.ireturn, 1) := by decide +kernel
theorem dX7_count_50 : decode cX7_count 50 = .ok (.aload_n 0, 1) := by decide +kernel
theorem dX7_count_51 : decode cX7_count 51 = .ok (.invokevirtual 230, 3) := by decide +kernel
theorem dX7_count_54 : decode cX7_count 54 = .ok (.ireturn, 1) := by decide +kernel
theorem dX7_count_55 : decode cX7_count 55 = .ok (.aload_n 0, 1) := by decide +kernel
theorem dX7_count_56 : decode cX7_count 56 = .ok (.getfield 51, 3) := by decide +kernel
theorem dX7_count_59 : decode cX7_count 59 = .ok (.getfield 185, 3) := by decide +kernel
theorem dX7_count_62 : decode cX7_count 62 = .ok (.ireturn, 1) := by decide +kernel
theorem dX7_count_63 : decode cX7_count 63 = .ok (.aload_n 0, 1) := by decide +kernel
theorem dX7_count_64 : decode cX7_count 64 = .ok (.getfield 30, 3) := by decide +kernel
theorem dX7_count_67 : decode cX7_count 67 = .ok (.getfield 98, 3) := by decide +kernel
theorem dX7_count_70 : decode cX7_count 70 = .ok (.ireturn, 1) := by decide +kernel
theorem dX7_count_71 : decode cX7_count 71 = .ok (.aload_n 0, 1) := by decide +kernel
theorem dX7_count_72 : decode cX7_count 72 = .ok (.invokevirtual 233, 3) := by decide +kernel
theorem dX7_count_75 : decode cX7_count 75 = .ok (.ireturn, 1) := by decide +kernel
theorem dX7_count_76 : decode cX7_count 76 = .ok (.ldc 70, 2) := by decide +kernel
theorem dX7_count_78 : decode cX7_count 78 = .ok (.ireturn, 1) := by decide +kernel
theorem dX7_cycleAt_0 : decode cX7_cycleAt 0 = .ok (.iload_n 1, 1) := by decide +kernel
theorem dX7_cycleAt_1 : decode cX7_cycleAt 1 = .ok (.ifCond .lt 21, 3) := by decide +kernel
theorem dX7_cycleAt_4 : decode cX7_cycleAt 4 = .ok (.iload_n 1, 1) := by decide +kernel
theorem dX7_cycleAt_5 : decode cX7_cycleAt 5 = .ok (.aload_n 0, 1) := by decide +kernel
theorem dX7_cycleAt_6 : decode cX7_cycleAt 6 = .ok (.getfield 9, 3) := by decide +kernel
theorem dX7_cycleAt_9 : decode cX7_cycleAt 9 = .ok (.arraylength, 1) := by decide +kernel
theorem dX7_cycleAt_10 : decode cX7_cycleAt 10 = .ok (.if_icmp .ge 12, 3) := by decide +kernel
theorem dX7_cycleAt_13 : decode cX7_cycleAt 13 = .ok (.aload_n 0, 1) := by decide +kernel
theorem dX7_cycleAt_14 : decode cX7_cycleAt 14 = .ok (.getfield 9, 3) := by decide +kernel
theorem dX7_cycleAt_17 : decode cX7_cycleAt 17 = .ok (.iload_n 1, 1) := by decide +kernel
theorem dX7_cycleAt_18 : decode cX7_cycleAt 18 = .ok (.aaload, 1) := by decide +kernel
theorem dX7_cycleAt_19 : decode cX7_cycleAt 19 = .ok (.goto 4, 3) := by decide +kernel
theorem dX7_cycleAt_22 : decode cX7_cycleAt 22 = .ok (.aconst_null, 1) := by decide +kernel
theorem dX7_cycleAt_23 : decode cX7_cycleAt 23 = .ok (.areturn, 1) := by decide +kernel
theorem dX7_phraseAt_0 : decode cX7_phraseAt 0 = .ok (.iload_n 1, 1) := by decide +kernel
theorem dX7_phraseAt_1 : decode cX7_phraseAt 1 = .ok (.ifCond .lt 21, 3) := by decide +kernel
theorem dX7_phraseAt_4 : decode cX7_phraseAt 4 = .ok (.iload_n 1, 1) := by decide +kernel
theorem dX7_phraseAt_5 : decode cX7_phraseAt 5 = .ok (.aload_n 0, 1) := by decide +kernel
theorem dX7_phraseAt_6 : decode cX7_phraseAt 6 = .ok (.getfield 17, 3) := by decide +kernel
theorem dX7_phraseAt_9 : decode cX7_phraseAt 9 = .ok (.arraylength, 1) := by decide +kernel
theorem dX7_phraseAt_10 : decode cX7_phraseAt 10 = .ok (.if_icmp .ge 12, 3) := by decide +kernel
theorem dX7_phraseAt_13 : decode cX7_phraseAt 13 = .ok (.aload_n 0, 1) := by decide +kernel
theorem dX7_phraseAt_14 : decode cX7_phraseAt 14 = .ok (.getfield 17, 3) := by decide +kernel
theorem dX7_phraseAt_17 : decode cX7_phraseAt 17 = .ok (.iload_n 1, 1) := by decide +kernel
theorem dX7_phraseAt_18 : decode cX7_phraseAt 18 = .ok (.aaload, 1) := by decide +kernel
theorem dX7_phraseAt_19 : decode cX7_phraseAt 19 = .ok (.goto 4, 3) := by decide +kernel
theorem dX7_phraseAt_22 : decode cX7_phraseAt 22 = .ok (.aconst_null, 1) := by decide +kernel
theorem dX7_phraseAt_23 : decode cX7_phraseAt 23 = .ok (.areturn, 1) := by decide +kernel
theorem dX7_sheetAt_0 : decode cX7_sheetAt 0 = .ok (.iload_n 1, 1) := by decide +kernel
theorem dX7_sheetAt_1 : decode cX7_sheetAt 1 = .ok (.ifCond .lt 21, 3) := by decide +kernel
theorem dX7_sheetAt_4 : decode cX7_sheetAt 4 = .ok (.iload_n 1, 1) := by decide +kernel
theorem dX7_sheetAt_5 : decode cX7_sheetAt 5 = .ok (.aload_n 0, 1) := by decide +kernel
theorem dX7_sheetAt_6 : decode cX7_sheetAt 6 = .ok (.getfield 23, 3) := by decide +kernel
theorem dX7_sheetAt_9 : decode cX7_sheetAt 9 = .ok (.arraylength, 1) := by decide +kernel
theorem dX7_sheetAt_10 : decode cX7_sheetAt 10 = .ok (.if_icmp .ge 12, 3) := by decide +kernel
theorem dX7_sheetAt_13 : decode cX7_sheetAt 13 = .ok (.aload_n 0, 1) := by decide +kernel
theorem dX7_sheetAt_14 : decode cX7_sheetAt 14 = .ok (.getfield 23, 3) := by decide +kernel
theorem dX7_sheetAt_17 : decode cX7_sheetAt 17 = .ok (.iload_n 1, 1) := by decide +kernel
theorem dX7_sheetAt_18 : decode cX7_sheetAt 18 = .ok (.aaload, 1) := by decide +kernel
theorem dX7_sheetAt_19 : decode cX7_sheetAt 19 = .ok (.goto 4, 3) := by decide +kernel
theorem dX7_sheetAt_22 : decode cX7_sheetAt 22 = .ok (.aconst_null, 1) := by decide +kernel
theorem dX7_sheetAt_23 : decode cX7_sheetAt 23 = .ok (.areturn, 1) := by decide +kernel
theorem dX7_lengthOf_0 : decode cX7_lengthOf 0 = .ok (.aload_n 0, 1) := by decide +kernel
theorem dX7_lengthOf_1 : decode cX7_lengthOf 1 = .ok (.iload_n 1, 1) := by decide +kernel
theorem dX7_lengthOf_2 : decode cX7_lengthOf 2 = .ok (.invokevirtual 62, 3) := by decide +kernel
theorem dX7_lengthOf_5 : decode cX7_lengthOf 5 = .ok (.astore_n 2, 1) := by decide +kernel
theorem dX7_lengthOf_6 : decode cX7_lengthOf 6 = .ok (.aload_n 2, 1) := by decide +kernel
theorem dX7_lengthOf_7 : decode cX7_lengthOf 7 = .ok (.ifnonnull 7, 3) := by decide +kernel
theorem dX7_lengthOf_10 : decode cX7_lengthOf 10 = .ok (.iconst 0, 1) := by decide +kernel
theorem dX7_lengthOf_11 : decode cX7_lengthOf 11 = .ok (.goto 7, 3) := by decide +kernel
theorem dX7_lengthOf_14 : decode cX7_lengthOf 14 = .ok (.aload_n 2, 1) := by decide +kernel
theorem dX7_lengthOf_15 : decode cX7_lengthOf 15 = .ok (.invokevirtual 82, 3) := by decide +kernel
theorem dX7_lengthOf_18 : decode cX7_lengthOf 18 = .ok (.ireturn, 1) := by decide +kernel
theorem dX7_limbsInAll_0 : decode cX7_limbsInAll 0 = .ok (.iconst 0, 1) := by decide +kernel
theorem dX7_limbsInAll_1 : decode cX7_limbsInAll 1 = .ok (.istore_n 1, 1) := by decide +kernel
theorem dX7_limbsInAll_2 : decode cX7_limbsInAll 2 = .ok (.iconst 0, 1) := by decide +kernel
theorem dX7_limbsInAll_3 : decode cX7_limbsInAll 3 = .ok (.istore_n 2, 1) := by decide +kernel
theorem dX7_limbsInAll_4 : decode cX7_limbsInAll 4 = .ok (.iload_n 2, 1) := by decide +kernel
theorem dX7_limbsInAll_5 : decode cX7_limbsInAll 5 = .ok (.aload_n 0, 1) := by decide +kernel
theorem dX7_limbsInAll_6 : decode cX7_limbsInAll 6 = .ok (.getfield 9, 3) := by decide +kernel
theorem dX7_limbsInAll_9 : decode cX7_limbsInAll 9 = .ok (.arraylength, 1) := by decide +kernel
theorem dX7_limbsInAll_10 : decode cX7_limbsInAll 10 = .ok (.if_icmp .ge 21, 3) := by decide +kernel
theorem dX7_limbsInAll_13 : decode cX7_limbsInAll 13 = .ok (.iload_n 1, 1) := by decide +kernel
theorem dX7_limbsInAll_14 : decode cX7_limbsInAll 14 = .ok (.aload_n 0, 1) := by decide +kernel
theorem dX7_limbsInAll_15 : decode cX7_limbsInAll 15 = .ok (.getfield 9, 3) := by decide +kernel
theorem dX7_limbsInAll_18 : decode cX7_limbsInAll 18 = .ok (.iload_n 2, 1) := by decide +kernel
theorem dX7_limbsInAll_19 : decode cX7_limbsInAll 19 = .ok (.aaload, 1) := by decide +kernel
theorem dX7_limbsInAll_20 : decode cX7_limbsInAll 20 = .ok (.getfield 75, 3) := by decide +kernel
theorem dX7_limbsInAll_23 : decode cX7_limbsInAll 23 = .ok (.iadd, 1) := by decide +kernel
theorem dX7_limbsInAll_24 : decode cX7_limbsInAll 24 = .ok (.istore_n 1, 1) := by decide +kernel
theorem dX7_limbsInAll_25 : decode cX7_limbsInAll 25 = .ok (.iinc 2 1, 3) := by decide +kernel
theorem dX7_limbsInAll_28 : decode cX7_limbsInAll 28 = .ok (.goto (-24), 3) := by decide +kernel
theorem dX7_limbsInAll_31 : decode cX7_limbsInAll 31 = .ok (.iload_n 1, 1) := by decide +kernel
theorem dX7_limbsInAll_32 : decode cX7_limbsInAll 32 = .ok (.ireturn, 1) := by decide +kernel
theorem dX7_phrasesNotEmpty_0 : decode cX7_phrasesNotEmpty 0 = .ok (.iconst 0, 1) := by decide +kernel
theorem dX7_phrasesNotEmpty_1 : decode cX7_phrasesNotEmpty 1 = .ok (.istore_n 1, 1) := by decide +kernel
theorem dX7_phrasesNotEmpty_2 : decode cX7_phrasesNotEmpty 2 = .ok (.iconst 0, 1) := by decide +kernel
theorem dX7_phrasesNotEmpty_3 : decode cX7_phrasesNotEmpty 3 = .ok (.istore_n 2, 1) := by decide +kernel
theorem dX7_phrasesNotEmpty_4 : decode cX7_phrasesNotEmpty 4 = .ok (.iload_n 2, 1) := by decide +kernel
theorem dX7_phrasesNotEmpty_5 : decode cX7_phrasesNotEmpty 5 = .ok (.aload_n 0, 1) := by decide +kernel
theorem dX7_phrasesNotEmpty_6 : decode cX7_phrasesNotEmpty 6 = .ok (.getfield 17, 3) := by decide +kernel
theorem dX7_phrasesNotEmpty_9 : decode cX7_phrasesNotEmpty 9 = .ok (.arraylength, 1) := by decide +kernel
theorem dX7_phrasesNotEmpty_10 : decode cX7_phrasesNotEmpty 10 = .ok (.if_icmp .ge 24, 3) := by decide +kernel
theorem dX7_phrasesNotEmpty_13 : decode cX7_phrasesNotEmpty 13 = .ok (.aload_n 0, 1) := by decide +kernel
theorem dX7_phrasesNotEmpty_14 : decode cX7_phrasesNotEmpty 14 = .ok (.getfield 17, 3) := by decide +kernel
theorem dX7_phrasesNotEmpty_17 : decode cX7_phrasesNotEmpty 17 = .ok (.iload_n 2, 1) := by decide +kernel
theorem dX7_phrasesNotEmpty_18 : decode cX7_phrasesNotEmpty 18 = .ok (.aaload, 1) := by decide +kernel
theorem dX7_phrasesNotEmpty_19 : decode cX7_phrasesNotEmpty 19 = .ok (.getfield 113, 3) := by decide +kernel
theorem dX7_phrasesNotEmpty_22 : decode cX7_phrasesNotEmpty 22 = .ok (.ifCond .le 6, 3) := by decide +kernel
theorem dX7_phrasesNotEmpty_25 : decode cX7_phrasesNotEmpty 25 = .ok (.iinc 1 1, 3) := by decide +kernel
theorem dX7_phrasesNotEmpty_28 : decode cX7_phrasesNotEmpty 28 = .ok (.iinc 2 1, 3) := by decide +kernel
theorem dX7_phrasesNotEmpty_31 : decode cX7_phrasesNotEmpty 31 = .ok (.goto (-27), 3) := by decide +kernel
theorem dX7_phrasesNotEmpty_34 : decode cX7_phrasesNotEmpty 34 = .ok (.iload_n 1, 1) := by decide +kernel
theorem dX7_phrasesNotEmpty_35 : decode cX7_phrasesNotEmpty 35 = .ok (.ireturn, 1) := by decide +kernel
theorem dX7_syllablesInAll_0 : decode cX7_syllablesInAll 0 = .ok (.iconst 0, 1) := by decide +kernel
theorem dX7_syllablesInAll_1 : decode cX7_syllablesInAll 1 = .ok (.istore_n 1, 1) := by decide +kernel
theorem dX7_syllablesInAll_2 : decode cX7_syllablesInAll 2 = .ok (.iconst 0, 1) := by decide +kernel
theorem dX7_syllablesInAll_3 : decode cX7_syllablesInAll 3 = .ok (.istore_n 2, 1) := by decide +kernel
theorem dX7_syllablesInAll_4 : decode cX7_syllablesInAll 4 = .ok (.iload_n 2, 1) := by decide +kernel
theorem dX7_syllablesInAll_5 : decode cX7_syllablesInAll 5 = .ok (.aload_n 0, 1) := by decide +kernel
theorem dX7_syllablesInAll_6 : decode cX7_syllablesInAll 6 = .ok (.getfield 17, 3) := by decide +kernel
theorem dX7_syllablesInAll_9 : decode cX7_syllablesInAll 9 = .ok (.arraylength, 1) := by decide +kernel
theorem dX7_syllablesInAll_10 : decode cX7_syllablesInAll 10 = .ok (.if_icmp .ge 21, 3) := by decide +kernel
theorem dX7_syllablesInAll_13 : decode cX7_syllablesInAll 13 = .ok (.iload_n 1, 1) := by decide +kernel
theorem dX7_syllablesInAll_14 : decode cX7_syllablesInAll 14 = .ok (.aload_n 0, 1) := by decide +kernel
theorem dX7_syllablesInAll_15 : decode cX7_syllablesInAll 15 = .ok (.getfield 17, 3) := by decide +kernel
theorem dX7_syllablesInAll_18 : decode cX7_syllablesInAll 18 = .ok (.iload_n 2, 1) := by decide +kernel
theorem dX7_syllablesInAll_19 : decode cX7_syllablesInAll 19 = .ok (.aaload, 1) := by decide +kernel
theorem dX7_syllablesInAll_20 : decode cX7_syllablesInAll 20 = .ok (.getfield 113, 3) := by decide +kernel
theorem dX7_syllablesInAll_23 : decode cX7_syllablesInAll 23 = .ok (.iadd, 1) := by decide +kernel
theorem dX7_syllablesInAll_24 : decode cX7_syllablesInAll 24 = .ok (.istore_n 1, 1) := by decide +kernel
theorem dX7_syllablesInAll_25 : decode cX7_syllablesInAll 25 = .ok (.iinc 2 1, 3) := by decide +kernel
theorem dX7_syllablesInAll_28 : decode cX7_syllablesInAll 28 = .ok (.goto (-24), 3) := by decide +kernel
theorem dX7_syllablesInAll_31 : decode cX7_syllablesInAll 31 = .ok (.iload_n 1, 1) := by decide +kernel
theorem dX7_syllablesInAll_32 : decode cX7_syllablesInAll 32 = .ok (.ireturn, 1) := by decide +kernel
theorem dX7_sheetsNotMissing_0 : decode cX7_sheetsNotMissing 0 = .ok (.iconst 0, 1) := by decide +kernel
theorem dX7_sheetsNotMissing_1 : decode cX7_sheetsNotMissing 1 = .ok (.istore_n 1, 1) := by decide +kernel
theorem dX7_sheetsNotMissing_2 : decode cX7_sheetsNotMissing 2 = .ok (.iconst 0, 1) := by decide +kernel
theorem dX7_sheetsNotMissing_3 : decode cX7_sheetsNotMissing 3 = .ok (.istore_n 2, 1) := by decide +kernel
theorem dX7_sheetsNotMissing_4 : decode cX7_sheetsNotMissing 4 = .ok (.iload_n 2, 1) := by decide +kernel
theorem dX7_sheetsNotMissing_5 : decode cX7_sheetsNotMissing 5 = .ok (.aload_n 0, 1) := by decide +kernel
theorem dX7_sheetsNotMissing_6 : decode cX7_sheetsNotMissing 6 = .ok (.getfield 23, 3) := by decide +kernel
theorem dX7_sheetsNotMissing_9 : decode cX7_sheetsNotMissing 9 = .ok (.arraylength, 1) := by decide +kernel
theorem dX7_sheetsNotMissing_10 : decode cX7_sheetsNotMissing 10 = .ok (.if_icmp .ge 24, 3) := by decide +kernel
theorem dX7_sheetsNotMissing_13 : decode cX7_sheetsNotMissing 13 = .ok (.aload_n 0, 1) := by decide +kernel
theorem dX7_sheetsNotMissing_14 : decode cX7_sheetsNotMissing 14 = .ok (.getfield 23, 3) := by decide +kernel
theorem dX7_sheetsNotMissing_17 : decode cX7_sheetsNotMissing 17 = .ok (.iload_n 2, 1) := by decide +kernel
theorem dX7_sheetsNotMissing_18 : decode cX7_sheetsNotMissing 18 = .ok (.aaload, 1) := by decide +kernel
theorem dX7_sheetsNotMissing_19 : decode cX7_sheetsNotMissing 19 = .ok (.invokevirtual 159, 3) := by decide +kernel
theorem dX7_sheetsNotMissing_22 : decode cX7_sheetsNotMissing 22 = .ok (.ifCond .ne 6, 3) := by decide +kernel
theorem dX7_sheetsNotMissing_25 : decode cX7_sheetsNotMissing 25 = .ok (.iinc 1 1, 3) := by decide +kernel
theorem dX7_sheetsNotMissing_28 : decode cX7_sheetsNotMissing 28 = .ok (.iinc 2 1, 3) := by decide +kernel
theorem dX7_sheetsNotMissing_31 : decode cX7_sheetsNotMissing 31 = .ok (.goto (-27), 3) := by decide +kernel
theorem dX7_sheetsNotMissing_34 : decode cX7_sheetsNotMissing 34 = .ok (.iload_n 1, 1) := by decide +kernel
theorem dX7_sheetsNotMissing_35 : decode cX7_sheetsNotMissing 35 = .ok (.ireturn, 1) := by decide +kernel
theorem dX7_lieWithin_0 : decode cX7_lieWithin 0 = .ok (.iload_n 0, 1) := by decide +kernel
theorem dX7_lieWithin_1 : decode cX7_lieWithin 1 = .ok (.ifCond .lt 23, 3) := by decide +kernel
theorem dX7_lieWithin_4 : decode cX7_lieWithin 4 = .ok (.iload_n 1, 1) := by decide +kernel
theorem dX7_lieWithin_5 : decode cX7_lieWithin 5 = .ok (.ifCond .lt 19, 3) := by decide +kernel
theorem dX7_lieWithin_8 : decode cX7_lieWithin 8 = .ok (.iload_n 0, 1) := by decide +kernel
theorem dX7_lieWithin_9 : decode cX7_lieWithin 9 = .ok (.iload_n 2, 1) := by decide +kernel
theorem dX7_lieWithin_10 : decode cX7_lieWithin 10 = .ok (.if_icmp .gt 14, 3) := by decide +kernel
theorem dX7_lieWithin_13 : decode cX7_lieWithin 13 = .ok (.iload_n 1, 1) := by decide +kernel
theorem dX7_lieWithin_14 : decode cX7_lieWithin 14 = .ok (.iload_n 2, 1) := by decide +kernel
theorem dX7_lieWithin_15 : decode cX7_lieWithin 15 = .ok (.iload_n 0, 1) := by decide +kernel
theorem dX7_lieWithin_16 : decode cX7_lieWithin 16 = .ok (.isub, 1) := by decide +kernel
theorem dX7_lieWithin_17 : decode cX7_lieWithin 17 = .ok (.if_icmp .gt 7, 3) := by decide +kernel
theorem dX7_lieWithin_20 : decode cX7_lieWithin 20 = .ok (.iconst 1, 1) := by decide +kernel
theorem dX7_lieWithin_21 : decode cX7_lieWithin 21 = .ok (.goto 4, 3) := by decide +kernel
theorem dX7_lieWithin_24 : decode cX7_lieWithin 24 = .ok (.iconst 0, 1) := by decide +kernel
theorem dX7_lieWithin_25 : decode cX7_lieWithin 25 = .ok (.ireturn, 1) := by decide +kernel
theorem dX7_ticksOfOne_0 : decode cX7_ticksOfOne 0 = .ok (.iload_n 0, 1) := by decide +kernel
theorem dX7_ticksOfOne_1 : decode cX7_ticksOfOne 1 = .ok (.tableswitch 52 1 8 #[47, 47, 47, 47, 52, 47, 52, 47], 47) := by decide +kernel
theorem dX7_ticksOfOne_48 : decode cX7_ticksOfOne 48 = .ok (.bipush 24, 2) := by decide +kernel
theorem dX7_ticksOfOne_50 : decode cX7_ticksOfOne 50 = .ok (.iload_n 0, 1) := by decide +kernel
theorem dX7_ticksOfOne_51 : decode cX7_ticksOfOne 51 = .ok (.idiv, 1) := by decide +kernel
theorem dX7_ticksOfOne_52 : decode cX7_ticksOfOne 52 = .ok (.ireturn, 1) := by decide +kernel
theorem dX7_ticksOfOne_53 : decode cX7_ticksOfOne 53 = .ok (.iconst 0, 1) := by decide +kernel
theorem dX7_ticksOfOne_54 : decode cX7_ticksOfOne 54 = .ok (.ireturn, 1) := by decide +kernel
theorem dX7_isGap_0 : decode cX7_isGap 0 = .ok (.iload_n 0, 1) := by decide +kernel
theorem dX7_isGap_1 : decode cX7_isGap 1 = .ok (.ifCond .lt 13, 3) := by decide +kernel
theorem dX7_isGap_4 : decode cX7_isGap 4 = .ok (.iload_n 0, 1) := by decide +kernel
theorem dX7_isGap_5 : decode cX7_isGap 5 = .ok (.bipush 96, 2) := by decide +kernel
theorem dX7_isGap_7 : decode cX7_isGap 7 = .ok (.if_icmp .gt 7, 3) := by decide +kernel
theorem dX7_isGap_10 : decode cX7_isGap 10 = .ok (.iconst 1, 1) := by decide +kernel
theorem dX7_isGap_11 : decode cX7_isGap 11 = .ok (.goto 4, 3) := by decide +kernel
theorem dX7_isGap_14 : decode cX7_isGap 14 = .ok (.iconst 0, 1) := by decide +kernel
theorem dX7_isGap_15 : decode cX7_isGap 15 = .ok (.ireturn, 1) := by decide +kernel
theorem dX7_isHow_0 : decode cX7_isHow 0 = .ok (.iload_n 0, 1) := by decide +kernel
theorem dX7_isHow_1 : decode cX7_isHow 1 = .ok (.ifCond .lt 25, 3) := by decide +kernel
theorem dX7_isHow_4 : decode cX7_isHow 4 = .ok (.iload_n 0, 1) := by decide +kernel
theorem dX7_isHow_5 : decode cX7_isHow 5 = .ok (.bipush 10, 2) := by decide +kernel
theorem dX7_isHow_7 : decode cX7_isHow 7 = .ok (.irem, 1) := by decide +kernel
theorem dX7_isHow_8 : decode cX7_isHow 8 = .ok (.iconst 1, 1) := by decide +kernel
theorem dX7_isHow_9 : decode cX7_isHow 9 = .ok (.if_icmp .gt 17, 3) := by decide +kernel
theorem dX7_isHow_12 : decode cX7_isHow 12 = .ok (.iload_n 0, 1) := by decide +kernel
theorem dX7_isHow_13 : decode cX7_isHow 13 = .ok (.bipush 10, 2) := by decide +kernel
theorem dX7_isHow_15 : decode cX7_isHow 15 = .ok (.idiv, 1) := by decide +kernel
theorem dX7_isHow_16 : decode cX7_isHow 16 = .ok (.invokestatic 110, 3) := by decide +kernel
theorem dX7_isHow_19 : decode cX7_isHow 19 = .ok (.ifCond .eq 7, 3) := by decide +kernel
theorem dX7_isHow_22 : decode cX7_isHow 22 = .ok (.iconst 1, 1) := by decide +kernel
theorem dX7_isHow_23 : decode cX7_isHow 23 = .ok (.goto 4, 3) := by decide +kernel
theorem dX7_isHow_26 : decode cX7_isHow 26 = .ok (.iconst 0, 1) := by decide +kernel
theorem dX7_isHow_27 : decode cX7_isHow 27 = .ok (.ireturn, 1) := by decide +kernel
theorem dX7_closingRefusal_0 : decode cX7_closingRefusal 0 = .ok (.aload_n 0, 1) := by decide +kernel
theorem dX7_closingRefusal_1 : decode cX7_closingRefusal 1 = .ok (.iload_n 1, 1) := by decide +kernel
theorem dX7_closingRefusal_2 : decode cX7_closingRefusal 2 = .ok (.invokevirtual 62, 3) := by decide +kernel
theorem dX7_closingRefusal_5 : decode cX7_closingRefusal 5 = .ok (.astore 6, 2) := by decide +kernel
theorem dX7_closingRefusal_7 : decode cX7_closingRefusal 7 = .ok (.aload_n 0, 1) := by decide +kernel
theorem dX7_closingRefusal_8 : decode cX7_closingRefusal 8 = .ok (.iload_n 2, 1) := by decide +kernel
theorem dX7_closingRefusal_9 : decode cX7_closingRefusal 9 = .ok (.invokevirtual 99, 3) := by decide +kernel
theorem dX7_closingRefusal_12 : decode cX7_closingRefusal 12 = .ok (.astore 7, 2) := by decide +kernel
theorem dX7_closingRefusal_14 : decode cX7_closingRefusal 14 = .ok (.aload 6, 2) := by decide +kernel
theorem dX7_closingRefusal_16 : decode cX7_closingRefusal 16 = .ok (.ifnull 28, 3) := by decide +kernel
theorem dX7_closingRefusal_19 : decode cX7_closingRefusal 19 = .ok (.aload 7, 2) := by decide +kernel
theorem dX7_closingRefusal_21 : decode cX7_closingRefusal 21 = .ok (.ifnull 23, 3) := by decide +kernel
theorem dX7_closingRefusal_24 : decode cX7_closingRefusal 24 = .ok (.iload_n 3, 1) := by decide +kernel
theorem dX7_closingRefusal_25 : decode cX7_closingRefusal 25 = .ok (.invokestatic 236, 3) := by decide +kernel
theorem dX7_closingRefusal_28 : decode cX7_closingRefusal 28 = .ok (.ifCond .eq 16, 3) := by decide +kernel
theorem dX7_closingRefusal_31 : decode cX7_closingRefusal 31 = .ok (.iload 4, 2) := by decide +kernel
theorem dX7_closingRefusal_33 : decode cX7_closingRefusal 33 = .ok (.ifCond .lt 11, 3) := by decide +kernel
theorem dX7_closingRefusal_36 : decode cX7_closingRefusal 36 = .ok (.iload 5, 2) := by decide +kernel
theorem dX7_closingRefusal_38 : decode cX7_closingRefusal 38 = .ok (.invokestatic 181, 3) := by decide +kernel
theorem dX7_closingRefusal_41 : decode cX7_closingRefusal 41 = .ok (.ifCond .ne 6, 3) := by decide +kernel
theorem dX7_closingRefusal_44 : decode cX7_closingRefusal 44 = .ok (.ldc 70, 2) := by decide +kernel
theorem dX7_closingRefusal_46 : decode cX7_closingRefusal 46 = .ok (.ireturn, 1) := by decide +kernel
theorem dX7_closingRefusal_47 : decode cX7_closingRefusal 47 = .ok (.aload 6, 2) := by decide +kernel
theorem dX7_closingRefusal_49 : decode cX7_closingRefusal 49 = .ok (.getfield 75, 3) := by decide +kernel
theorem dX7_closingRefusal_52 : decode cX7_closingRefusal 52 = .ok (.ifCond .eq 11, 3) := by decide +kernel
theorem dX7_closingRefusal_55 : decode cX7_closingRefusal 55 = .ok (.aload 7, 2) := by decide +kernel
theorem dX7_closingRefusal_57 : decode cX7_closingRefusal 57 = .ok (.getfield 113, 3) := by decide +kernel
theorem dX7_closingRefusal_60 : decode cX7_closingRefusal 60 = .ok (.ifCond .ne 8, 3) := by decide +kernel
theorem dX7_closingRefusal_63 : decode cX7_closingRefusal 63 = .ok (.ldc 146, 2) := by decide +kernel
theorem dX7_closingRefusal_65 : decode cX7_closingRefusal 65 = .ok (.goto 4, 3) := by decide +kernel
theorem dX7_closingRefusal_68 : decode cX7_closingRefusal 68 = .ok (.iconst 0, 1) := by decide +kernel
theorem dX7_closingRefusal_69 : decode cX7_closingRefusal 69 = .ok (.ireturn, 1) := by decide +kernel
theorem dX7_wantingIn_0 : decode cX7_wantingIn 0 = .ok (.aload_n 0, 1) := by decide +kernel
theorem dX7_wantingIn_1 : decode cX7_wantingIn 1 = .ok (.iload_n 1, 1) := by decide +kernel
theorem dX7_wantingIn_2 : decode cX7_wantingIn 2 = .ok (.invokevirtual 121, 3) := by decide +kernel
theorem dX7_wantingIn_5 : decode cX7_wantingIn 5 = .ok (.istore 6, 2) := by decide +kernel
theorem dX7_wantingIn_7 : decode cX7_wantingIn 7 = .ok (.aload_n 0, 1) := by decide +kernel
theorem dX7_wantingIn_8 : decode cX7_wantingIn 8 = .ok (.iload_n 2, 1) := by decide +kernel
theorem dX7_wantingIn_9 : decode cX7_wantingIn 9 = .ok (.invokevirtual 99, 3) := by decide +kernel
theorem dX7_wantingIn_12 : decode cX7_wantingIn 12 = .ok (.astore 7, 2) := by decide +kernel
theorem dX7_wantingIn_14 : decode cX7_wantingIn 14 = .ok (.iload 6, 2) := by decide +kernel
theorem dX7_wantingIn_16 : decode cX7_wantingIn 16 = .ok (.ifCond .le 8, 3) := by decide +kernel
theorem dX7_wantingIn_19 : decode cX7_wantingIn 19 = .ok (.aload 7, 2) := by decide +kernel
theorem dX7_wantingIn_21 : decode cX7_wantingIn 21 = .ok (.ifnonnull 5, 3) := by decide +kernel
theorem dX7_wantingIn_24 : decode cX7_wantingIn 24 = .ok (.iconst 0, 1) := by decide +kernel
theorem dX7_wantingIn_25 : decode cX7_wantingIn 25 = .ok (.ireturn, 1) := by decide +kernel
theorem dX7_wantingIn_26 : decode cX7_wantingIn 26 = .ok (.iload_n 3, 1) := by decide +kernel
theorem dX7_wantingIn_27 : decode cX7_wantingIn 27 = .ok (.bipush 10, 2) := by decide +kernel
theorem dX7_wantingIn_29 : decode cX7_wantingIn 29 = .ok (.irem, 1) := by decide +kernel
theorem dX7_wantingIn_30 : decode cX7_wantingIn 30 = .ok (.istore 8, 2) := by decide +kernel
theorem dX7_wantingIn_32 : decode cX7_wantingIn 32 = .ok (.iload 5, 2) := by decide +kernel
theorem dX7_wantingIn_34 : decode cX7_wantingIn 34 = .ok (.aload 7, 2) := by decide +kernel
theorem dX7_wantingIn_36 : decode cX7_wantingIn 36 = .ok (.getfield 113, 3) := by decide +kernel
theorem dX7_wantingIn_39 : decode cX7_wantingIn 39 = .ok (.imul, 1) := by decide +kernel
theorem dX7_wantingIn_40 : decode cX7_wantingIn 40 = .ok (.iload 8, 2) := by decide +kernel
theorem dX7_wantingIn_42 : decode cX7_wantingIn 42 = .ok (.isub, 1) := by decide +kernel
theorem dX7_wantingIn_43 : decode cX7_wantingIn 43 = .ok (.istore 9, 2) := by decide +kernel
theorem dX7_wantingIn_45 : decode cX7_wantingIn 45 = .ok (.iload 4, 2) := by decide +kernel
theorem dX7_wantingIn_47 : decode cX7_wantingIn 47 = .ok (.iload 6, 2) := by decide +kernel
theorem dX7_wantingIn_49 : decode cX7_wantingIn 49 = .ok (.irem, 1) := by decide +kernel
theorem dX7_wantingIn_50 : decode cX7_wantingIn 50 = .ok (.ineg, 1) := by decide +kernel
theorem dX7_wantingIn_51 : decode cX7_wantingIn 51 = .ok (.iload 9, 2) := by decide +kernel
theorem dX7_wantingIn_53 : decode cX7_wantingIn 53 = .ok (.iload_n 3, 1) := by decide +kernel
theorem dX7_wantingIn_54 : decode cX7_wantingIn 54 = .ok (.bipush 10, 2) := by decide +kernel
theorem dX7_wantingIn_56 : decode cX7_wantingIn 56 = .ok (.idiv, 1) := by decide +kernel
theorem dX7_wantingIn_57 : decode cX7_wantingIn 57 = .ok (.invokestatic 110, 3) := by decide +kernel
theorem dX7_wantingIn_60 : decode cX7_wantingIn 60 = .ok (.imul, 1) := by decide +kernel
theorem dX7_wantingIn_61 : decode cX7_wantingIn 61 = .ok (.isub, 1) := by decide +kernel
theorem dX7_wantingIn_62 : decode cX7_wantingIn 62 = .ok (.iload 6, 2) := by decide +kernel
theorem dX7_wantingIn_64 : decode cX7_wantingIn 64 = .ok (.invokestatic 195, 3) := by decide +kernel
theorem dX7_wantingIn_67 : decode cX7_wantingIn 67 = .ok (.ireturn, 1) := by decide +kernel
theorem dX7_lessGaps_0 : decode cX7_lessGaps 0 = .ok (.iload_n 2, 1) := by decide +kernel
theorem dX7_lessGaps_1 : decode cX7_lessGaps 1 = .ok (.ifCond .gt 7, 3) := by decide +kernel
theorem dX7_lessGaps_4 : decode cX7_lessGaps 4 = .ok (.iconst 0, 1) := by decide +kernel
theorem dX7_lessGaps_5 : decode cX7_lessGaps 5 = .ok (.goto 10, 3) := by decide +kernel
theorem dX7_lessGaps_8 : decode cX7_lessGaps 8 = .ok (.iload_n 0, 1) := by decide +kernel
theorem dX7_lessGaps_9 : decode cX7_lessGaps 9 = .ok (.iload_n 1, 1) := by decide +kernel
theorem dX7_lessGaps_10 : decode cX7_lessGaps 10 = .ok (.isub, 1) := by decide +kernel
theorem dX7_lessGaps_11 : decode cX7_lessGaps 11 = .ok (.iload_n 2, 1) := by decide +kernel
theorem dX7_lessGaps_12 : decode cX7_lessGaps 12 = .ok (.invokestatic 195, 3) := by decide +kernel
theorem dX7_lessGaps_15 : decode cX7_lessGaps 15 = .ok (.ireturn, 1) := by decide +kernel
theorem dX7_isLookedAt_0 : decode cX7_isLookedAt 0 = .ok (.aload_n 0, 1) := by decide +kernel
theorem dX7_isLookedAt_1 : decode cX7_isLookedAt 1 = .ok (.getfield 55, 3) := by decide +kernel
theorem dX7_isLookedAt_4 : decode cX7_isLookedAt 4 = .ok (.ifCond .le 16, 3) := by decide +kernel
theorem dX7_isLookedAt_7 : decode cX7_isLookedAt 7 = .ok (.iload_n 1, 1) := by decide +kernel
theorem dX7_isLookedAt_8 : decode cX7_isLookedAt 8 = .ok (.aload_n 0, 1) := by decide +kernel
theorem dX7_isLookedAt_9 : decode cX7_isLookedAt 9 = .ok (.getfield 55, 3) := by decide +kernel
theorem dX7_isLookedAt_12 : decode cX7_isLookedAt 12 = .ok (.irem, 1) := by decide +kernel
theorem dX7_isLookedAt_13 : decode cX7_isLookedAt 13 = .ok (.ifCond .ne 7, 3) := by decide +kernel
theorem dX7_isLookedAt_16 : decode cX7_isLookedAt 16 = .ok (.iconst 1, 1) := by decide +kernel
theorem dX7_isLookedAt_17 : decode cX7_isLookedAt 17 = .ok (.goto 4, 3) := by decide +kernel
theorem dX7_isLookedAt_20 : decode cX7_isLookedAt 20 = .ok (.iconst 0, 1) := by decide +kernel
theorem dX7_isLookedAt_21 : decode cX7_isLookedAt 21 = .ok (.ireturn, 1) := by decide +kernel
theorem dX7_gapsFilling_0 : decode cX7_gapsFilling 0 = .ok (.iload_n 2, 1) := by decide +kernel
theorem dX7_gapsFilling_1 : decode cX7_gapsFilling 1 = .ok (.iconst 2, 1) := by decide +kernel
theorem dX7_gapsFilling_2 : decode cX7_gapsFilling 2 = .ok (.idiv, 1) := by decide +kernel
theorem dX7_gapsFilling_3 : decode cX7_gapsFilling 3 = .ok (.istore_n 3, 1) := by decide +kernel
theorem dX7_gapsFilling_4 : decode cX7_gapsFilling 4 = .ok (.iload_n 3, 1) := by decide +kernel
theorem dX7_gapsFilling_5 : decode cX7_gapsFilling 5 = .ok (.ifCond .le 9, 3) := by decide +kernel
theorem dX7_gapsFilling_8 : decode cX7_gapsFilling 8 = .ok (.iload_n 1, 1) := by decide +kernel
theorem dX7_gapsFilling_9 : decode cX7_gapsFilling 9 = .ok (.iconst 2, 1) := by decide +kernel
theorem dX7_gapsFilling_10 : decode cX7_gapsFilling 10 = .ok (.irem, 1) := by decide +kernel
theorem dX7_gapsFilling_11 : decode cX7_gapsFilling 11 = .ok (.ifCond .eq 5, 3) := by decide +kernel
theorem dX7_gapsFilling_14 : decode cX7_gapsFilling 14 = .ok (.iconst 0, 1) := by decide +kernel
theorem dX7_gapsFilling_15 : decode cX7_gapsFilling 15 = .ok (.ireturn, 1) := by decide +kernel
theorem dX7_gapsFilling_16 : decode cX7_gapsFilling 16 = .ok (.iconst 0, 1) := by decide +kernel
theorem dX7_gapsFilling_17 : decode cX7_gapsFilling 17 = .ok (.istore 4, 2) := by decide +kernel
theorem dX7_gapsFilling_19 : decode cX7_gapsFilling 19 = .ok (.iload_n 1, 1) := by decide +kernel
theorem dX7_gapsFilling_20 : decode cX7_gapsFilling 20 = .ok (.iconst 2, 1) := by decide +kernel
theorem dX7_gapsFilling_21 : decode cX7_gapsFilling 21 = .ok (.idiv, 1) := by decide +kernel
theorem dX7_gapsFilling_22 : decode cX7_gapsFilling 22 = .ok (.istore 5, 2) := by decide +kernel
theorem dX7_gapsFilling_24 : decode cX7_gapsFilling 24 = .ok (.iload 5, 2) := by decide +kernel
theorem dX7_gapsFilling_26 : decode cX7_gapsFilling 26 = .ok (.bipush 96, 2) := by decide +kernel
theorem dX7_gapsFilling_28 : decode cX7_gapsFilling 28 = .ok (.if_icmp .gt 24, 3) := by decide +kernel
theorem dX7_gapsFilling_31 : decode cX7_gapsFilling 31 = .ok (.aload_n 0, 1) := by decide +kernel
theorem dX7_gapsFilling_32 : decode cX7_gapsFilling 32 = .ok (.iload 5, 2) := by decide +kernel
theorem dX7_gapsFilling_34 : decode cX7_gapsFilling 34 = .ok (.invokevirtual 239, 3) := by decide +kernel
theorem dX7_gapsFilling_37 : decode cX7_gapsFilling 37 = .ok (.ifCond .eq 6, 3) := by decide +kernel
theorem dX7_gapsFilling_40 : decode cX7_gapsFilling 40 = .ok (.iinc 4 1, 3) := by decide +kernel
theorem dX7_gapsFilling_43 : decode cX7_gapsFilling 43 = .ok (.iload 5, 2) := by decide +kernel
theorem dX7_gapsFilling_45 : decode cX7_gapsFilling 45 = .ok (.iload_n 3, 1) := by decide +kernel
theorem dX7_gapsFilling_46 : decode cX7_gapsFilling 46 = .ok (.iadd, 1) := by decide +kernel
theorem dX7_gapsFilling_47 : decode cX7_gapsFilling 47 = .ok (.istore 5, 2) := by decide +kernel
theorem dX7_gapsFilling_49 : decode cX7_gapsFilling 49 = .ok (.goto (-25), 3) := by decide +kernel
theorem dX7_gapsFilling_52 : decode cX7_gapsFilling 52 = .ok (.iload 4, 2) := by decide +kernel
theorem dX7_gapsFilling_54 : decode cX7_gapsFilling 54 = .ok (.ireturn, 1) := by decide +kernel
theorem dX7_gapFilling_0 : decode cX7_gapFilling 0 = .ok (.iload_n 2, 1) := by decide +kernel
theorem dX7_gapFilling_1 : decode cX7_gapFilling 1 = .ok (.iconst 2, 1) := by decide +kernel
theorem dX7_gapFilling_2 : decode cX7_gapFilling 2 = .ok (.idiv, 1) := by decide +kernel
theorem dX7_gapFilling_3 : decode cX7_gapFilling 3 = .ok (.istore 4, 2) := by decide +kernel
theorem dX7_gapFilling_5 : decode cX7_gapFilling 5 = .ok (.iload 4, 2) := by decide +kernel
theorem dX7_gapFilling_7 : decode cX7_gapFilling 7 = .ok (.ifCond .le 9, 3) := by decide +kernel
theorem dX7_gapFilling_10 : decode cX7_gapFilling 10 = .ok (.iload_n 1, 1) := by decide +kernel
theorem dX7_gapFilling_11 : decode cX7_gapFilling 11 = .ok (.iconst 2, 1) := by decide +kernel
theorem dX7_gapFilling_12 : decode cX7_gapFilling 12 = .ok (.irem, 1) := by decide +kernel
theorem dX7_gapFilling_13 : decode cX7_gapFilling 13 = .ok (.ifCond .eq 6, 3) := by decide +kernel
theorem dX7_gapFilling_16 : decode cX7_gapFilling 16 = .ok (.ldc 139, 2) := by decide +kernel
theorem dX7_gapFilling_18 : decode cX7_gapFilling 18 = .ok (.ireturn, 1) := by decide +kernel
theorem dX7_gapFilling_19 : decode cX7_gapFilling 19 = .ok (.iload_n 3, 1) := by decide +kernel
theorem dX7_gapFilling_20 : decode cX7_gapFilling 20 = .ok (.istore 5, 2) := by decide +kernel
theorem dX7_gapFilling_22 : decode cX7_gapFilling 22 = .ok (.iload_n 1, 1) := by decide +kernel
theorem dX7_gapFilling_23 : decode cX7_gapFilling 23 = .ok (.iconst 2, 1) := by decide +kernel
theorem dX7_gapFilling_24 : decode cX7_gapFilling 24 = .ok (.idiv, 1) := by decide +kernel
theorem dX7_gapFilling_25 : decode cX7_gapFilling 25 = .ok (.istore 6, 2) := by decide +kernel
theorem dX7_gapFilling_27 : decode cX7_gapFilling 27 = .ok (.iload 6, 2) := by decide +kernel
theorem dX7_gapFilling_29 : decode cX7_gapFilling 29 = .ok (.bipush 96, 2) := by decide +kernel
theorem dX7_gapFilling_31 : decode cX7_gapFilling 31 = .ok (.if_icmp .gt 33, 3) := by decide +kernel
theorem dX7_gapFilling_34 : decode cX7_gapFilling 34 = .ok (.aload_n 0, 1) := by decide +kernel
theorem dX7_gapFilling_35 : decode cX7_gapFilling 35 = .ok (.iload 6, 2) := by decide +kernel
theorem dX7_gapFilling_37 : decode cX7_gapFilling 37 = .ok (.invokevirtual 239, 3) := by decide +kernel
theorem dX7_gapFilling_40 : decode cX7_gapFilling 40 = .ok (.ifCond .eq 14, 3) := by decide +kernel
theorem dX7_gapFilling_43 : decode cX7_gapFilling 43 = .ok (.iload 5, 2) := by decide +kernel
theorem dX7_gapFilling_45 : decode cX7_gapFilling 45 = .ok (.ifCond .ne 6, 3) := by decide +kernel
theorem dX7_gapFilling_48 : decode cX7_gapFilling 48 = .ok (.iload 6, 2) := by decide +kernel
theorem dX7_gapFilling_50 : decode cX7_gapFilling 50 = .ok (.ireturn, 1) := by decide +kernel
theorem dX7_gapFilling_51 : decode cX7_gapFilling 51 = .ok (.iinc 5 (-1), 3) := by decide +kernel
theorem dX7_gapFilling_54 : decode cX7_gapFilling 54 = .ok (.iload 6, 2) := by decide +kernel
theorem dX7_gapFilling_56 : decode cX7_gapFilling 56 = .ok (.iload 4, 2) := by decide +kernel
theorem dX7_gapFilling_58 : decode cX7_gapFilling 58 = .ok (.iadd, 1) := by decide +kernel
theorem dX7_gapFilling_59 : decode cX7_gapFilling 59 = .ok (.istore 6, 2) := by decide +kernel
theorem dX7_gapFilling_61 : decode cX7_gapFilling 61 = .ok (.goto (-34), 3) := by decide +kernel
theorem dX7_gapFilling_64 : decode cX7_gapFilling 64 = .ok (.ldc 139, 2) := by decide +kernel
theorem dX7_gapFilling_66 : decode cX7_gapFilling 66 = .ok (.ireturn, 1) := by decide +kernel
theorem dX7_isStep_0 : decode cX7_isStep 0 = .ok (.iload_n 0, 1) := by decide +kernel
theorem dX7_isStep_1 : decode cX7_isStep 1 = .ok (.iconst 1, 1) := by decide +kernel
theorem dX7_isStep_2 : decode cX7_isStep 2 = .ok (.if_icmp .lt 13, 3) := by decide +kernel
theorem dX7_isStep_5 : decode cX7_isStep 5 = .ok (.iload_n 0, 1) := by decide +kernel
theorem dX7_isStep_6 : decode cX7_isStep 6 = .ok (.bipush 9, 2) := by decide +kernel
theorem dX7_isStep_8 : decode cX7_isStep 8 = .ok (.if_icmp .gt 7, 3) := by decide +kernel
theorem dX7_isStep_11 : decode cX7_isStep 11 = .ok (.iconst 1, 1) := by decide +kernel
theorem dX7_isStep_12 : decode cX7_isStep 12 = .ok (.goto 4, 3) := by decide +kernel
theorem dX7_isStep_15 : decode cX7_isStep 15 = .ok (.iconst 0, 1) := by decide +kernel
theorem dX7_isStep_16 : decode cX7_isStep 16 = .ok (.ireturn, 1) := by decide +kernel
theorem dX7_isShape_0 : decode cX7_isShape 0 = .ok (.iload_n 0, 1) := by decide +kernel
theorem dX7_isShape_1 : decode cX7_isShape 1 = .ok (.ifCond .lt 12, 3) := by decide +kernel
theorem dX7_isShape_4 : decode cX7_isShape 4 = .ok (.iload_n 0, 1) := by decide +kernel
theorem dX7_isShape_5 : decode cX7_isShape 5 = .ok (.iconst 2, 1) := by decide +kernel
theorem dX7_isShape_6 : decode cX7_isShape 6 = .ok (.if_icmp .gt 7, 3) := by decide +kernel
theorem dX7_isShape_9 : decode cX7_isShape 9 = .ok (.iconst 1, 1) := by decide +kernel
theorem dX7_isShape_10 : decode cX7_isShape 10 = .ok (.goto 4, 3) := by decide +kernel
theorem dX7_isShape_13 : decode cX7_isShape 13 = .ok (.iconst 0, 1) := by decide +kernel
theorem dX7_isShape_14 : decode cX7_isShape 14 = .ok (.ireturn, 1) := by decide +kernel
theorem dX7_shapeRows_0 : decode cX7_shapeRows 0 = .ok (.aload_n 0, 1) := by decide +kernel
theorem dX7_shapeRows_1 : decode cX7_shapeRows 1 = .ok (.iload_n 1, 1) := by decide +kernel
theorem dX7_shapeRows_2 : decode cX7_shapeRows 2 = .ok (.invokevirtual 242, 3) := by decide +kernel
theorem dX7_shapeRows_5 : decode cX7_shapeRows 5 = .ok (.istore_n 3, 1) := by decide +kernel
theorem dX7_shapeRows_6 : decode cX7_shapeRows 6 = .ok (.iload_n 2, 1) := by decide +kernel
theorem dX7_shapeRows_7 : decode cX7_shapeRows 7 = .ok (.iconst 2, 1) := by decide +kernel
theorem dX7_shapeRows_8 : decode cX7_shapeRows 8 = .ok (.if_icmp .ne 11, 3) := by decide +kernel
theorem dX7_shapeRows_11 : decode cX7_shapeRows 11 = .ok (.iconst 2, 1) := by decide +kernel
theorem dX7_shapeRows_12 : decode cX7_shapeRows 12 = .ok (.iload_n 3, 1) := by decide +kernel
theorem dX7_shapeRows_13 : decode cX7_shapeRows 13 = .ok (.imul, 1) := by decide +kernel
theorem dX7_shapeRows_14 : decode cX7_shapeRows 14 = .ok (.iconst 1, 1) := by decide +kernel
theorem dX7_shapeRows_15 : decode cX7_shapeRows 15 = .ok (.isub, 1) := by decide +kernel
theorem dX7_shapeRows_16 : decode cX7_shapeRows 16 = .ok (.goto 4, 3) := by decide +kernel
theorem dX7_shapeRows_19 : decode cX7_shapeRows 19 = .ok (.iload_n 3, 1) := by decide +kernel
theorem dX7_shapeRows_20 : decode cX7_shapeRows 20 = .ok (.ireturn, 1) := by decide +kernel
theorem dX7_shapeRowStart_0 : decode cX7_shapeRowStart 0 = .ok (.aload_n 0, 1) := by decide +kernel
theorem dX7_shapeRowStart_1 : decode cX7_shapeRowStart 1 = .ok (.iload_n 1, 1) := by decide +kernel
theorem dX7_shapeRowStart_2 : decode cX7_shapeRowStart 2 = .ok (.invokevirtual 242, 3) := by decide +kernel
theorem dX7_shapeRowStart_5 : decode cX7_shapeRowStart 5 = .ok (.iconst 1, 1) := by decide +kernel
theorem dX7_shapeRowStart_6 : decode cX7_shapeRowStart 6 = .ok (.isub, 1) := by decide +kernel
theorem dX7_shapeRowStart_7 : decode cX7_shapeRowStart 7 = .ok (.istore 4, 2) := by decide +kernel
theorem dX7_shapeRowStart_9 : decode cX7_shapeRowStart 9 = .ok (.iload_n 2, 1) := by decide +kernel
theorem dX7_shapeRowStart_10 : decode cX7_shapeRowStart 10 = .ok (.iconst 1, 1) := by decide +kernel
theorem dX7_shapeRowStart_11 : decode cX7_shapeRowStart 11 = .ok (.if_icmp .ne 10, 3) := by decide +kernel
theorem dX7_shapeRowStart_14 : decode cX7_shapeRowStart 14 = .ok (.iload 4, 2) := by decide +kernel
theorem dX7_shapeRowStart_16 : decode cX7_shapeRowStart 16 = .ok (.iload_n 3, 1) := by decide +kernel
theorem dX7_shapeRowStart_17 : decode cX7_shapeRowStart 17 = .ok (.isub, 1) := by decide +kernel
theorem dX7_shapeRowStart_18 : decode cX7_shapeRowStart 18 = .ok (.iload_n 1, 1) := by decide +kernel
theorem dX7_shapeRowStart_19 : decode cX7_shapeRowStart 19 = .ok (.imul, 1) := by decide +kernel
theorem dX7_shapeRowStart_20 : decode cX7_shapeRowStart 20 = .ok (.ireturn, 1) := by decide +kernel
theorem dX7_shapeRowStart_21 : decode cX7_shapeRowStart 21 = .ok (.iload_n 3, 1) := by decide +kernel
theorem dX7_shapeRowStart_22 : decode cX7_shapeRowStart 22 = .ok (.iload 4, 2) := by decide +kernel
theorem dX7_shapeRowStart_24 : decode cX7_shapeRowStart 24 = .ok (.if_icmp .gt 9, 3) := by decide +kernel
theorem dX7_shapeRowStart_27 : decode cX7_shapeRowStart 27 = .ok (.iload_n 3, 1) := by decide +kernel
theorem dX7_shapeRowStart_28 : decode cX7_shapeRowStart 28 = .ok (.iload_n 1, 1) := by decide +kernel
theorem dX7_shapeRowStart_29 : decode cX7_shapeRowStart 29 = .ok (.imul, 1) := by decide +kernel
theorem dX7_shapeRowStart_30 : decode cX7_shapeRowStart 30 = .ok (.goto 11, 3) := by decide +kernel
theorem dX7_shapeRowStart_33 : decode cX7_shapeRowStart 33 = .ok (.iconst 2, 1) := by decide +kernel
theorem dX7_shapeRowStart_34 : decode cX7_shapeRowStart 34 = .ok (.iload 4, 2) := by decide +kernel
theorem dX7_shapeRowStart_36 : decode cX7_shapeRowStart 36 = .ok (.imul, 1) := by decide +kernel
theorem dX7_shapeRowStart_37 : decode cX7_shapeRowStart 37 = .ok (.iload_n 3, 1) := by decide +kernel
theorem dX7_shapeRowStart_38 : decode cX7_shapeRowStart 38 = .ok (.isub, 1) := by decide +kernel
theorem dX7_shapeRowStart_39 : decode cX7_shapeRowStart 39 = .ok (.iload_n 1, 1) := by decide +kernel
theorem dX7_shapeRowStart_40 : decode cX7_shapeRowStart 40 = .ok (.imul, 1) := by decide +kernel
theorem dX7_shapeRowStart_41 : decode cX7_shapeRowStart 41 = .ok (.ireturn, 1) := by decide +kernel
theorem dX8_init_0 : decode cX8_init 0 = .ok (.aload_n 0, 1) := by decide +kernel
theorem dX8_init_1 : decode cX8_init 1 = .ok (.invokespecial 1, 3) := by decide +kernel
theorem dX8_init_4 : decode cX8_init 4 = .ok (.aload_n 0, 1) := by decide +kernel
theorem dX8_init_5 : decode cX8_init 5 = .ok (.iconst 4, 1) := by decide +kernel
theorem dX8_init_6 : decode cX8_init 6 = .ok (.newarray .int, 2) := by decide +kernel
theorem dX8_init_8 : decode cX8_init 8 = .ok (.putfield 7, 3) := by decide +kernel
theorem dX8_init_11 : decode cX8_init 11 = .ok (.aload_n 0, 1) := by decide +kernel
theorem dX8_init_12 : decode cX8_init 12 = .ok (.bipush 48, 2) := by decide +kernel
theorem dX8_init_14 : decode cX8_init 14 = .ok (.newarray .int, 2) := by decide +kernel
theorem dX8_init_16 : decode cX8_init 16 = .ok (.putfield 13, 3) := by decide +kernel
theorem dX8_init_19 : decode cX8_init 19 = .ok (.aload_n 0, 1) := by decide +kernel
theorem dX8_init_20 : decode cX8_init 20 = .ok (.bipush 48, 2) := by decide +kernel
theorem dX8_init_22 : decode cX8_init 22 = .ok (.newarray .int, 2) := by decide +kernel
theorem dX8_init_24 : decode cX8_init 24 = .ok (.putfield 16, 3) := by decide +kernel
theorem dX8_init_27 : decode cX8_init 27 = .ok (.aload_n 0, 1) := by decide +kernel
theorem dX8_init_28 : decode cX8_init 28 = .ok (.bipush 6, 2) := by decide +kernel
theorem dX8_init_30 : decode cX8_init 30 = .ok (.newarray .int, 2) := by decide +kernel
theorem dX8_init_32 : decode cX8_init 32 = .ok (.putfield 19, 3) := by decide +kernel
theorem dX8_init_35 : decode cX8_init 35 = .ok (.aload_n 0, 1) := by decide +kernel
theorem dX8_init_36 : decode cX8_init 36 = .ok (.sipush 360, 3) := by decide +kernel
theorem dX8_init_39 : decode cX8_init 39 = .ok (.newarray .int, 2) := by decide +kernel
theorem dX8_init_41 : decode cX8_init 41 = .ok (.putfield 22, 3) := by decide +kernel
theorem dX8_init_44 : decode cX8_init 44 = .ok (.aload_n 0, 1) := by decide +kernel
theorem dX8_init_45 : decode cX8_init 45 = .ok (.bipush 8, 2) := by decide +kernel
theorem dX8_init_47 : decode cX8_init 47 = .ok (.newarray .int, 2) := by decide +kernel
theorem dX8_init_49 : decode cX8_init 49 = .ok (.putfield 25, 3) := by decide +kernel
theorem dX8_init_52 : decode cX8_init 52 = .ok (.aload_n 0, 1) := by decide +kernel
theorem dX8_init_53 : decode cX8_init 53 = .ok (.bipush 6, 2) := by decide +kernel
theorem dX8_init_55 : decode cX8_init 55 = .ok (.putfield 28, 3) := by decide +kernel
theorem dX8_init_58 : decode cX8_init 58 = .ok (.aload_n 0, 1) := by decide +kernel
theorem dX8_init_59 : decode cX8_init 59 = .ok (.bipush 20, 2) := by decide +kernel
theorem dX8_init_61 : decode cX8_init 61 = .ok (.newarray .int, 2) := by decide +kernel
theorem dX8_init_63 : decode cX8_init 63 = .ok (.putfield 32, 3) := by decide +kernel
theorem dX8_init_66 : decode cX8_init 66 = .ok (.aload_n 0, 1) := by decide +kernel
theorem dX8_init_67 : decode cX8_init 67 = .ok (.bipush 20, 2) := by decide +kernel
theorem dX8_init_69 : decode cX8_init 69 = .ok (.newarray .int, 2) := by decide +kernel
theorem dX8_init_71 : decode cX8_init 71 = .ok (.putfield 35, 3) := by decide +kernel
theorem dX8_init_74 : decode cX8_init 74 = .ok (.aload_n 0, 1) := by decide +kernel
theorem dX8_init_75 : decode cX8_init 75 = .ok (.bipush 60, 2) := by decide +kernel
theorem dX8_init_77 : decode cX8_init 77 = .ok (.newarray .int, 2) := by decide +kernel
theorem dX8_init_79 : decode cX8_init 79 = .ok (.putfield 38, 3) := by decide +kernel
theorem dX8_init_82 : decode cX8_init 82 = .ok (.aload_n 0, 1) := by decide +kernel
theorem dX8_init_83 : decode cX8_init 83 = .ok (.iconst 2, 1) := by decide +kernel
theorem dX8_init_84 : decode cX8_init 84 = .ok (.newarray .int, 2) := by decide +kernel
theorem dX8_init_86 : decode cX8_init 86 = .ok (.putfield 41, 3) := by decide +kernel
theorem dX8_init_89 : decode cX8_init 89 = .ok (.aload_n 0, 1) := by decide +kernel
theorem dX8_init_90 : decode cX8_init 90 = .ok (.bipush 120, 2) := by decide +kernel
theorem dX8_init_92 : decode cX8_init 92 = .ok (.newarray .int, 2) := by decide +kernel
theorem dX8_init_94 : decode cX8_init 94 = .ok (.putfield 44, 3) := by decide +kernel
theorem dX8_init_97 : decode cX8_init 97 = .ok (.aload_n 0, 1) := by decide +kernel
theorem dX8_init_98 : decode cX8_init 98 = .ok (.bipush 60, 2) := by decide +kernel
theorem dX8_init_100 : decode cX8_init 100 = .ok (.newarray .int, 2) := by decide +kernel
theorem dX8_init_102 : decode cX8_init 102 = .ok (.putfield 47, 3) := by decide +kernel
theorem dX8_init_105 : decode cX8_init 105 = .ok (.aload_n 0, 1) := by decide +kernel
theorem dX8_init_106 : decode cX8_init 106 = .ok (.bipush 61, 2) := by decide +kernel
theorem dX8_init_108 : decode cX8_init 108 = .ok (.newarray .long, 2) := by decide +kernel
theorem dX8_init_110 : decode cX8_init 110 = .ok (.putfield 50, 3) := by decide +kernel
theorem dX8_init_113 : decode cX8_init 113 = .ok (.aload_n 0, 1) := by decide +kernel
theorem dX8_init_114 : decode cX8_init 114 = .ok (.bipush 61, 2) := by decide +kernel
theorem dX8_init_116 : decode cX8_init 116 = .ok (.newarray .int, 2) := by decide +kernel
theorem dX8_init_118 : decode cX8_init 118 = .ok (.putfield 54, 3) := by decide +kernel
theorem dX8_init_121 : decode cX8_init 121 = .ok (.aload_n 0, 1) := by decide +kernel
theorem dX8_init_122 : decode cX8_init 122 = .ok (.sipush 300, 3) := by decide +kernel
theorem dX8_init_125 : decode cX8_init 125 = .ok (.newarray .int, 2) := by decide +kernel
theorem dX8_init_127 : decode cX8_init 127 = .ok (.putfield 57, 3) := by decide +kernel
theorem dX8_init_130 : decode cX8_init 130 = .ok (.aload_n 0, 1) := by decide +kernel
theorem dX8_init_131 : decode cX8_init 131 = .ok (.bipush 60, 2) := by decide +kernel
theorem dX8_init_133 : decode cX8_init 133 = .ok (.newarray .int, 2) := by decide +kernel
theorem dX8_init_135 : decode cX8_init 135 = .ok (.putfield 60, 3) := by decide +kernel
theorem dX8_init_138 : decode cX8_init 138 = .ok (.iconst 0, 1) := by decide +kernel
theorem dX8_init_139 : decode cX8_init 139 = .ok (.istore_n 1, 1) := by decide +kernel
theorem dX8_init_140 : decode cX8_init 140 = .ok (.iload_n 1, 1) := by decide +kernel
theorem dX8_init_141 : decode cX8_init 141 = .ok (.bipush 8, 2) := by decide +kernel
theorem dX8_init_143 : decode cX8_init 143 = .ok (.if_icmp .ge 16, 3) := by decide +kernel
theorem dX8_init_146 : decode cX8_init 146 = .ok (.aload_n 0, 1) := by decide +kernel
theorem dX8_init_147 : decode cX8_init 147 = .ok (.getfield 25, 3) := by decide +kernel
theorem dX8_init_150 : decode cX8_init 150 = .ok (.iload_n 1, 1) := by decide +kernel
theorem dX8_init_151 : decode cX8_init 151 = .ok (.iconst 3, 1) := by decide +kernel
theorem dX8_init_152 : decode cX8_init 152 = .ok (.iastore, 1) := by decide +kernel
theorem dX8_init_153 : decode cX8_init 153 = .ok (.iinc 1 1, 3) := by decide +kernel
theorem dX8_init_156 : decode cX8_init 156 = .ok (.goto (-16), 3) := by decide +kernel
theorem dX8_init_159 : decode cX8_init 159 = .ok (.aload_n 0, 1) := by decide +kernel
theorem dX8_init_160 : decode cX8_init 160 = .ok (.getfield 41, 3) := by decide +kernel
theorem dX8_init_163 : decode cX8_init 163 = .ok (.iconst 0, 1) := by decide +kernel
theorem dX8_init_164 : decode cX8_init 164 = .ok (.iconst (-1), 1) := by decide +kernel
theorem dX8_init_165 : decode cX8_init 165 = .ok (.iastore, 1) := by decide +kernel
theorem dX8_init_166 : decode cX8_init 166 = .ok (.aload_n 0, 1) := by decide +kernel
theorem dX8_init_167 : decode cX8_init 167 = .ok (.getfield 41, 3) := by decide +kernel
theorem dX8_init_170 : decode cX8_init 170 = .ok (.iconst 1, 1) := by decide +kernel
theorem dX8_init_171 : decode cX8_init 171 = .ok (.iconst (-1), 1) := by decide +kernel
theorem dX8_init_172 : decode cX8_init 172 = .ok (.iastore, 1) := by decide +kernel
theorem dX8_init_173 : decode cX8_init 173 = .ok (.return_, 1) := by decide +kernel
theorem dX8_isIn_0 : decode cX8_isIn 0 = .ok (.iload_n 0, 1) := by decide +kernel
theorem dX8_isIn_1 : decode cX8_isIn 1 = .ok (.iload_n 1, 1) := by decide +kernel
theorem dX8_isIn_2 : decode cX8_isIn 2 = .ok (.if_icmp .lt 12, 3) := by decide +kernel
theorem dX8_isIn_5 : decode cX8_isIn 5 = .ok (.iload_n 0, 1) := by decide +kernel
theorem dX8_isIn_6 : decode cX8_isIn 6 = .ok (.iload_n 2, 1) := by decide +kernel
theorem dX8_isIn_7 : decode cX8_isIn 7 = .ok (.if_icmp .gt 7, 3) := by decide +kernel
theorem dX8_isIn_10 : decode cX8_isIn 10 = .ok (.iconst 1, 1) := by decide +kernel
theorem dX8_isIn_11 : decode cX8_isIn 11 = .ok (.goto 4, 3) := by decide +kernel
theorem dX8_isIn_14 : decode cX8_isIn 14 = .ok (.iconst 0, 1) := by decide +kernel
theorem dX8_isIn_15 : decode cX8_isIn 15 = .ok (.ireturn, 1) := by decide +kernel
theorem dX8_isCycle_0 : decode cX8_isCycle 0 = .ok (.iload_n 0, 1) := by decide +kernel
theorem dX8_isCycle_1 : decode cX8_isCycle 1 = .ok (.iconst 0, 1) := by decide +kernel
theorem dX8_isCycle_2 : decode cX8_isCycle 2 = .ok (.iconst 3, 1) := by decide +kernel
theorem dX8_isCycle_3 : decode cX8_isCycle 3 = .ok (.invokestatic 63, 3) := by decide +kernel
theorem dX8_isCycle_6 : decode cX8_isCycle 6 = .ok (.ireturn, 1) := by decide +kernel
theorem dX8_isPhrase_0 : decode cX8_isPhrase 0 = .ok (.iload_n 0, 1) := by decide +kernel
theorem dX8_isPhrase_1 : decode cX8_isPhrase 1 = .ok (.iconst 0, 1) := by decide +kernel
theorem dX8_isPhrase_2 : decode cX8_isPhrase 2 = .ok (.iconst 5, 1) := by decide +kernel
theorem dX8_isPhrase_3 : decode cX8_isPhrase 3 = .ok (.invokestatic 63, 3) := by decide +kernel
theorem dX8_isPhrase_6 : decode cX8_isPhrase 6 = .ok (.ireturn, 1) := by decide +kernel
theorem dX8_isSpeed_0 : decode cX8_isSpeed 0 = .ok (.iload_n 0, 1) := by decide +kernel
theorem dX8_isSpeed_1 : decode cX8_isSpeed 1 = .ok (.iconst 1, 1) := by decide +kernel
theorem dX8_isSpeed_2 : decode cX8_isSpeed 2 = .ok (.if_icmp .eq 30, 3) := by decide +kernel
theorem dX8_isSpeed_5 : decode cX8_isSpeed 5 = .ok (.iload_n 0, 1) := by decide +kernel
theorem dX8_isSpeed_6 : decode cX8_isSpeed 6 = .ok (.iconst 2, 1) := by decide +kernel
theorem dX8_isSpeed_7 : decode cX8_isSpeed 7 = .ok (.if_icmp .eq 25, 3) := by decide +kernel
theorem dX8_isSpeed_10 : decode cX8_isSpeed 10 = .ok (.iload_n 0, 1) := by decide +kernel
theorem dX8_isSpeed_11 : decode cX8_isSpeed 11 = .ok (.iconst 3, 1) := by decide +kernel
theorem dX8_isSpeed_12 : decode cX8_isSpeed 12 = .ok (.if_icmp .eq 20, 3) := by decide +kernel
theorem dX8_isSpeed_15 : decode cX8_isSpeed 15 = .ok (.iload_n 0, 1) := by decide +kernel
theorem dX8_isSpeed_16 : decode cX8_isSpeed 16 = .ok (.iconst 4, 1) := by decide +kernel
theorem dX8_isSpeed_17 : decode cX8_isSpeed 17 = .ok (.if_icmp .eq 15, 3) := by decide +kernel
theorem dX8_isSpeed_20 : decode cX8_isSpeed 20 = .ok (.iload_n 0, 1) := by decide +kernel
theorem dX8_isSpeed_21 : decode cX8_isSpeed 21 = .ok (.bipush 6, 2) := by decide +kernel
theorem dX8_isSpeed_23 : decode cX8_isSpeed 23 = .ok (.if_icmp .eq 9, 3) := by decide +kernel
theorem dX8_isSpeed_26 : decode cX8_isSpeed 26 = .ok (.iload_n 0, 1) := by decide +kernel
theorem dX8_isSpeed_27 : decode cX8_isSpeed 27 = .ok (.bipush 8, 2) := by decide +kernel
theorem dX8_isSpeed_29 : decode cX8_isSpeed 29 = .ok (.if_icmp .ne 7, 3) := by decide +kernel
theorem dX8_isSpeed_32 : decode cX8_isSpeed 32 = .ok (.iconst 1, 1) := by decide +kernel
theorem dX8_isSpeed_33 : decode cX8_isSpeed 33 = .ok (.goto 4, 3) := by decide +kernel
theorem dX8_isSpeed_36 : decode cX8_isSpeed 36 = .ok (.iconst 0, 1) := by decide +kernel
theorem dX8_isSpeed_37 : decode cX8_isSpeed 37 = .ok (.ireturn, 1) := by decide +kernel
theorem dX8_limb_0 : decode cX8_limb 0 = .ok (.iload_n 1, 1) := by decide +kernel
theorem dX8_limb_1 : decode cX8_limb 1 = .ok (.invokestatic 67, 3) := by decide +kernel
theorem dX8_limb_4 : decode cX8_limb 4 = .ok (.ifCond .eq 22, 3) := by decide +kernel
theorem dX8_limb_7 : decode cX8_limb 7 = .ok (.iload_n 2, 1) := by decide +kernel
theorem dX8_limb_8 : decode cX8_limb 8 = .ok (.iconst 0, 1) := by decide +kernel
theorem dX8_limb_9 : decode cX8_limb 9 = .ok (.iconst 3, 1) := by decide +kernel
theorem dX8_limb_10 : decode cX8_limb 10 = .ok (.invokestatic 63, 3) := by decide +kernel
theorem dX8_limb_13 : decode cX8_limb 13 = .ok (.ifCond .eq 13, 3) := by decide +kernel
theorem dX8_limb_16 : decode cX8_limb 16 = .ok (.iload_n 3, 1) := by decide +kernel
theorem dX8_limb_17 : decode cX8_limb 17 = .ok (.iconst 1, 1) := by decide +kernel
theorem dX8_limb_18 : decode cX8_limb 18 = .ok (.bipush 18, 2) := by decide +kernel
theorem dX8_limb_20 : decode cX8_limb 20 = .ok (.invokestatic 63, 3) := by decide +kernel
theorem dX8_limb_23 : decode cX8_limb 23 = .ok (.ifCond .ne 6, 3) := by decide +kernel
theorem dX8_limb_26 : decode cX8_limb 26 = .ok (.ldc 71, 2) := by decide +kernel
theorem dX8_limb_28 : decode cX8_limb 28 = .ok (.ireturn, 1) := by decide +kernel
theorem dX8_limb_29 : decode cX8_limb 29 = .ok (.aload_n 0, 1) := by decide +kernel
theorem dX8_limb_30 : decode cX8_limb 30 = .ok (.getfield 7, 3) := by decide +kernel
theorem dX8_limb_33 : decode cX8_limb 33 = .ok (.iload_n 1, 1) := by decide +kernel
theorem dX8_limb_34 : decode cX8_limb 34 = .ok (.iaload, 1) := by decide +kernel
theorem dX8_limb_35 : decode cX8_limb 35 = .ok (.bipush 12, 2) := by decide +kernel
theorem dX8_limb_37 : decode cX8_limb 37 = .ok (.if_icmp .ne 6, 3) := by decide +kernel
theorem dX8_limb_40 : decode cX8_limb 40 = .ok (.ldc 72, 2) := by decide +kernel
theorem dX8_limb_42 : decode cX8_limb 42 = .ok (.ireturn, 1) := by decide +kernel
theorem dX8_limb_43 : decode cX8_limb 43 = .ok (.bipush 12, 2) := by decide +kernel
theorem dX8_limb_45 : decode cX8_limb 45 = .ok (.iload_n 1, 1) := by decide +kernel
theorem dX8_limb_46 : decode cX8_limb 46 = .ok (.imul, 1) := by decide +kernel
theorem dX8_limb_47 : decode cX8_limb 47 = .ok (.aload_n 0, 1) := by decide +kernel
theorem dX8_limb_48 : decode cX8_limb 48 = .ok (.getfield 7, 3) := by decide +kernel
theorem dX8_limb_51 : decode cX8_limb 51 = .ok (.iload_n 1, 1) := by decide +kernel
theorem dX8_limb_52 : decode cX8_limb 52 = .ok (.iaload, 1) := by decide +kernel
theorem dX8_limb_53 : decode cX8_limb 53 = .ok (.iadd, 1) := by decide +kernel
theorem dX8_limb_54 : decode cX8_limb 54 = .ok (.istore 4, 2) := by decide +kernel
theorem dX8_limb_56 : decode cX8_limb 56 = .ok (.aload_n 0, 1) := by decide +kernel
theorem dX8_limb_57 : decode cX8_limb 57 = .ok (.getfield 13, 3) := by decide +kernel
theorem dX8_limb_60 : decode cX8_limb 60 = .ok (.iload 4, 2) := by decide +kernel
theorem dX8_limb_62 : decode cX8_limb 62 = .ok (.iload_n 2, 1) := by decide +kernel
theorem dX8_limb_63 : decode cX8_limb 63 = .ok (.iastore, 1) := by decide +kernel
theorem dX8_limb_64 : decode cX8_limb 64 = .ok (.aload_n 0, 1) := by decide +kernel
theorem dX8_limb_65 : decode cX8_limb 65 = .ok (.getfield 16, 3) := by decide +kernel
theorem dX8_limb_68 : decode cX8_limb 68 = .ok (.iload 4, 2) := by decide +kernel
theorem dX8_limb_70 : decode cX8_limb 70 = .ok (.iload_n 3, 1) := by decide +kernel
theorem dX8_limb_71 : decode cX8_limb 71 = .ok (.iastore, 1) := by decide +kernel
theorem dX8_limb_72 : decode cX8_limb 72 = .ok (.aload_n 0, 1) := by decide +kernel
theorem dX8_limb_73 : decode cX8_limb 73 = .ok (.getfield 7, 3) := by decide +kernel
theorem dX8_limb_76 : decode cX8_limb 76 = .ok (.iload_n 1, 1) := by decide +kernel
theorem dX8_limb_77 : decode cX8_limb 77 = .ok (.dup2, 1) := by decide +kernel
theorem dX8_limb_78 : decode cX8_limb 78 = .ok (.iaload, 1) := by decide +kernel
theorem dX8_limb_79 : decode cX8_limb 79 = .ok (.iconst 1, 1) := by decide +kernel
theorem dX8_limb_80 : decode cX8_limb 80 = .ok (.iadd, 1) := by decide +kernel
theorem dX8_limb_81 : decode cX8_limb 81 = .ok (.iastore, 1) := by decide +kernel
theorem dX8_limb_82 : decode cX8_limb 82 = .ok (.aload_n 0, 1) := by decide +kernel
theorem dX8_limb_83 : decode cX8_limb 83 = .ok (.getfield 7, 3) := by decide +kernel
theorem dX8_limb_86 : decode cX8_limb 86 = .ok (.iload_n 1, 1) := by decide +kernel
theorem dX8_limb_87 : decode cX8_limb 87 = .ok (.iaload, 1) := by decide +kernel
theorem dX8_limb_88 : decode cX8_limb 88 = .ok (.ireturn, 1) := by decide +kernel
