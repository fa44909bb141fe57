theorem dX7_feed_0 : decode cX7_feed 0 = .ok (.aload_n 0, 1) := by decide +kernel
theorem dX7_feed_1 : decode cX7_feed 1 = .ok (.getfield 30, 3) := by decide +kernel
theorem dX7_feed_4 : decode cX7_feed 4 = .ok (.bipush 12, 2) := by decide +kernel
theorem dX7_feed_6 : decode cX7_feed 6 = .ok (.invokevirtual 90, 3) := by decide +kernel
theorem dX7_feed_9 : decode cX7_feed 9 = .ok (.ifCond .ne 6, 3) := by decide +kernel
theorem dX7_feed_12 : decode cX7_feed 12 = .ok (.ldc 93, 2) := by decide +kernel
theorem dX7_feed_14 : decode cX7_feed 14 = .ok (.ireturn, 1) := by decide +kernel
theorem dX7_feed_15 : decode cX7_feed 15 = .ok (.aload_n 0, 1) := by decide +kernel
theorem dX7_feed_16 : decode cX7_feed 16 = .ok (.getfield 30, 3) := by decide +kernel
theorem dX7_feed_19 : decode cX7_feed 19 = .ok (.iload_n 1, 1) := by decide +kernel
theorem dX7_feed_20 : decode cX7_feed 20 = .ok (.invokevirtual 94, 3) := by decide +kernel
theorem dX7_feed_23 : decode cX7_feed 23 = .ok (.aload_n 0, 1) := by decide +kernel
theorem dX7_feed_24 : decode cX7_feed 24 = .ok (.getfield 30, 3) := by decide +kernel
theorem dX7_feed_27 : decode cX7_feed 27 = .ok (.iload_n 2, 1) := by decide +kernel
theorem dX7_feed_28 : decode cX7_feed 28 = .ok (.invokevirtual 94, 3) := by decide +kernel
theorem dX7_feed_31 : decode cX7_feed 31 = .ok (.aload_n 0, 1) := by decide +kernel
theorem dX7_feed_32 : decode cX7_feed 32 = .ok (.getfield 30, 3) := by decide +kernel
theorem dX7_feed_35 : decode cX7_feed 35 = .ok (.iload_n 3, 1) := by decide +kernel
theorem dX7_feed_36 : decode cX7_feed 36 = .ok (.invokevirtual 94, 3) := by decide +kernel
theorem dX7_feed_39 : decode cX7_feed 39 = .ok (.aload_n 0, 1) := by decide +kernel
theorem dX7_feed_40 : decode cX7_feed 40 = .ok (.getfield 30, 3) := by decide +kernel
theorem dX7_feed_43 : decode cX7_feed 43 = .ok (.getfield 98, 3) := by decide +kernel
theorem dX7_feed_46 : decode cX7_feed 46 = .ok (.ireturn, 1) := by decide +kernel
theorem dX7_trim_0 : decode cX7_trim 0 = .ok (.iload_n 1, 1) := by decide +kernel
theorem dX7_trim_1 : decode cX7_trim 1 = .ok (.ifCond .lt 14, 3) := by decide +kernel
theorem dX7_trim_4 : decode cX7_trim 4 = .ok (.iload_n 1, 1) := by decide +kernel
theorem dX7_trim_5 : decode cX7_trim 5 = .ok (.aload_n 0, 1) := by decide +kernel
theorem dX7_trim_6 : decode cX7_trim 6 = .ok (.getfield 30, 3) := by decide +kernel
theorem dX7_trim_9 : decode cX7_trim 9 = .ok (.getfield 98, 3) := by decide +kernel
theorem dX7_trim_12 : decode cX7_trim 12 = .ok (.if_icmp .le 6, 3) := by decide +kernel
theorem dX7_trim_15 : decode cX7_trim 15 = .ok (.ldc 70, 2) := by decide +kernel
theorem dX7_trim_17 : decode cX7_trim 17 = .ok (.ireturn, 1) := by decide +kernel
theorem dX7_trim_18 : decode cX7_trim 18 = .ok (.aload_n 0, 1) := by decide +kernel
theorem dX7_trim_19 : decode cX7_trim 19 = .ok (.getfield 30, 3) := by decide +kernel
theorem dX7_trim_22 : decode cX7_trim 22 = .ok (.iload_n 1, 1) := by decide +kernel
theorem dX7_trim_23 : decode cX7_trim 23 = .ok (.putfield 98, 3) := by decide +kernel
theorem dX7_trim_26 : decode cX7_trim 26 = .ok (.iload_n 1, 1) := by decide +kernel
theorem dX7_trim_27 : decode cX7_trim 27 = .ok (.ireturn, 1) := by decide +kernel
theorem dX7_phrase_0 : decode cX7_phrase 0 = .ok (.aload_n 0, 1) := by decide +kernel
theorem dX7_phrase_1 : decode cX7_phrase 1 = .ok (.iload_n 1, 1) := by decide +kernel
theorem dX7_phrase_2 : decode cX7_phrase 2 = .ok (.invokevirtual 99, 3) := by decide +kernel
theorem dX7_phrase_5 : decode cX7_phrase 5 = .ok (.astore_n 2, 1) := by decide +kernel
theorem dX7_phrase_6 : decode cX7_phrase 6 = .ok (.aload_n 2, 1) := by decide +kernel
theorem dX7_phrase_7 : decode cX7_phrase 7 = .ok (.ifnonnull 8, 3) := by decide +kernel
theorem dX7_phrase_10 : decode cX7_phrase 10 = .ok (.ldc 70, 2) := by decide +kernel
theorem dX7_phrase_12 : decode cX7_phrase 12 = .ok (.goto 11, 3) := by decide +kernel
theorem dX7_phrase_15 : decode cX7_phrase 15 = .ok (.aload_n 0, 1) := by decide +kernel
theorem dX7_phrase_16 : decode cX7_phrase 16 = .ok (.getfield 30, 3) := by decide +kernel
theorem dX7_phrase_19 : decode cX7_phrase 19 = .ok (.aload_n 2, 1) := by decide +kernel
theorem dX7_phrase_20 : decode cX7_phrase 20 = .ok (.invokevirtual 103, 3) := by decide +kernel
theorem dX7_phrase_23 : decode cX7_phrase 23 = .ok (.istore_n 3, 1) := by decide +kernel
theorem dX7_phrase_24 : decode cX7_phrase 24 = .ok (.aload_n 0, 1) := by decide +kernel
theorem dX7_phrase_25 : decode cX7_phrase 25 = .ok (.getfield 30, 3) := by decide +kernel
theorem dX7_phrase_28 : decode cX7_phrase 28 = .ok (.iconst 0, 1) := by decide +kernel
theorem dX7_phrase_29 : decode cX7_phrase 29 = .ok (.putfield 98, 3) := by decide +kernel
theorem dX7_phrase_32 : decode cX7_phrase 32 = .ok (.iload_n 3, 1) := by decide +kernel
theorem dX7_phrase_33 : decode cX7_phrase 33 = .ok (.ireturn, 1) := by decide +kernel
theorem dX7_syllable_0 : decode cX7_syllable 0 = .ok (.aload_n 0, 1) := by decide +kernel
theorem dX7_syllable_1 : decode cX7_syllable 1 = .ok (.iload_n 1, 1) := by decide +kernel
theorem dX7_syllable_2 : decode cX7_syllable 2 = .ok (.invokevirtual 99, 3) := by decide +kernel
theorem dX7_syllable_5 : decode cX7_syllable 5 = .ok (.astore_n 3, 1) := by decide +kernel
theorem dX7_syllable_6 : decode cX7_syllable 6 = .ok (.aload_n 3, 1) := by decide +kernel
theorem dX7_syllable_7 : decode cX7_syllable 7 = .ok (.ifnull 7, 3) := by decide +kernel
theorem dX7_syllable_10 : decode cX7_syllable 10 = .ok (.iload_n 2, 1) := by decide +kernel
theorem dX7_syllable_11 : decode cX7_syllable 11 = .ok (.ifCond .ge 6, 3) := by decide +kernel
theorem dX7_syllable_14 : decode cX7_syllable 14 = .ok (.ldc 70, 2) := by decide +kernel
theorem dX7_syllable_16 : decode cX7_syllable 16 = .ok (.ireturn, 1) := by decide +kernel
theorem dX7_syllable_17 : decode cX7_syllable 17 = .ok (.aload_n 3, 1) := by decide +kernel
theorem dX7_syllable_18 : decode cX7_syllable 18 = .ok (.iload_n 2, 1) := by decide +kernel
theorem dX7_syllable_19 : decode cX7_syllable 19 = .ok (.invokevirtual 107, 3) := by decide +kernel
theorem dX7_syllable_22 : decode cX7_syllable 22 = .ok (.ireturn, 1) := by decide +kernel
theorem dX7_ticks_0 : decode cX7_ticks 0 = .ok (.aload_n 0, 1) := by decide +kernel
theorem dX7_ticks_1 : decode cX7_ticks 1 = .ok (.iload_n 1, 1) := by decide +kernel
theorem dX7_ticks_2 : decode cX7_ticks 2 = .ok (.invokevirtual 99, 3) := by decide +kernel
theorem dX7_ticks_5 : decode cX7_ticks 5 = .ok (.astore_n 3, 1) := by decide +kernel
theorem dX7_ticks_6 : decode cX7_ticks 6 = .ok (.iload_n 2, 1) := by decide +kernel
theorem dX7_ticks_7 : decode cX7_ticks 7 = .ok (.invokestatic 110, 3) := by decide +kernel
theorem dX7_ticks_10 : decode cX7_ticks 10 = .ok (.istore 4, 2) := by decide +kernel
theorem dX7_ticks_12 : decode cX7_ticks 12 = .ok (.aload_n 3, 1) := by decide +kernel
theorem dX7_ticks_13 : decode cX7_ticks 13 = .ok (.ifnull 8, 3) := by decide +kernel
theorem dX7_ticks_16 : decode cX7_ticks 16 = .ok (.iload 4, 2) := by decide +kernel
theorem dX7_ticks_18 : decode cX7_ticks 18 = .ok (.ifCond .ne 6, 3) := by decide +kernel
theorem dX7_ticks_21 : decode cX7_ticks 21 = .ok (.ldc 70, 2) := by decide +kernel
theorem dX7_ticks_23 : decode cX7_ticks 23 = .ok (.ireturn, 1) := by decide +kernel
theorem dX7_ticks_24 : decode cX7_ticks 24 = .ok (.aload_n 3, 1) := by decide +kernel
theorem dX7_ticks_25 : decode cX7_ticks 25 = .ok (.getfield 113, 3) := by decide +kernel
theorem dX7_ticks_28 : decode cX7_ticks 28 = .ok (.iload 4, 2) := by decide +kernel
theorem dX7_ticks_30 : decode cX7_ticks 30 = .ok (.imul, 1) := by decide +kernel
theorem dX7_ticks_31 : decode cX7_ticks 31 = .ok (.ireturn, 1) := by decide +kernel
theorem dX7_lands_0 : decode cX7_lands 0 = .ok (.aload_n 0, 1) := by decide +kernel
theorem dX7_lands_1 : decode cX7_lands 1 = .ok (.iload_n 1, 1) := by decide +kernel
theorem dX7_lands_2 : decode cX7_lands 2 = .ok (.iload_n 2, 1) := by decide +kernel
theorem dX7_lands_3 : decode cX7_lands 3 = .ok (.iload_n 3, 1) := by decide +kernel
theorem dX7_lands_4 : decode cX7_lands 4 = .ok (.iload 4, 2) := by decide +kernel
theorem dX7_lands_6 : decode cX7_lands 6 = .ok (.iload 5, 2) := by decide +kernel
theorem dX7_lands_8 : decode cX7_lands 8 = .ok (.invokevirtual 114, 3) := by decide +kernel
theorem dX7_lands_11 : decode cX7_lands 11 = .ok (.istore 6, 2) := by decide +kernel
theorem dX7_lands_13 : decode cX7_lands 13 = .ok (.iload 6, 2) := by decide +kernel
theorem dX7_lands_15 : decode cX7_lands 15 = .ok (.ifCond .eq 6, 3) := by decide +kernel
theorem dX7_lands_18 : decode cX7_lands 18 = .ok (.iload 6, 2) := by decide +kernel
theorem dX7_lands_20 : decode cX7_lands 20 = .ok (.ireturn, 1) := by decide +kernel
theorem dX7_lands_21 : decode cX7_lands 21 = .ok (.aload_n 0, 1) := by decide +kernel
theorem dX7_lands_22 : decode cX7_lands 22 = .ok (.iload_n 1, 1) := by decide +kernel
theorem dX7_lands_23 : decode cX7_lands 23 = .ok (.iload_n 2, 1) := by decide +kernel
theorem dX7_lands_24 : decode cX7_lands 24 = .ok (.iload_n 3, 1) := by decide +kernel
theorem dX7_lands_25 : decode cX7_lands 25 = .ok (.iload 4, 2) := by decide +kernel
theorem dX7_lands_27 : decode cX7_lands 27 = .ok (.iconst 3, 1) := by decide +kernel
theorem dX7_lands_28 : decode cX7_lands 28 = .ok (.invokevirtual 118, 3) := by decide +kernel
theorem dX7_lands_31 : decode cX7_lands 31 = .ok (.istore 7, 2) := by decide +kernel
theorem dX7_lands_33 : decode cX7_lands 33 = .ok (.iload 7, 2) := by decide +kernel
theorem dX7_lands_35 : decode cX7_lands 35 = .ok (.iconst 2, 1) := by decide +kernel
theorem dX7_lands_36 : decode cX7_lands 36 = .ok (.iload 5, 2) := by decide +kernel
theorem dX7_lands_38 : decode cX7_lands 38 = .ok (.imul, 1) := by decide +kernel
theorem dX7_lands_39 : decode cX7_lands 39 = .ok (.aload_n 0, 1) := by decide +kernel
theorem dX7_lands_40 : decode cX7_lands 40 = .ok (.iload_n 1, 1) := by decide +kernel
theorem dX7_lands_41 : decode cX7_lands 41 = .ok (.invokevirtual 121, 3) := by decide +kernel
theorem dX7_lands_44 : decode cX7_lands 44 = .ok (.invokestatic 124, 3) := by decide +kernel
theorem dX7_lands_47 : decode cX7_lands 47 = .ok (.ifCond .ne 7, 3) := by decide +kernel
theorem dX7_lands_50 : decode cX7_lands 50 = .ok (.iconst 1, 1) := by decide +kernel
theorem dX7_lands_51 : decode cX7_lands 51 = .ok (.goto 4, 3) := by decide +kernel
theorem dX7_lands_54 : decode cX7_lands 54 = .ok (.iconst 0, 1) := by decide +kernel
theorem dX7_lands_55 : decode cX7_lands 55 = .ok (.ireturn, 1) := by decide +kernel
theorem dX7_gaps_0 : decode cX7_gaps 0 = .ok (.aload_n 0, 1) := by decide +kernel
theorem dX7_gaps_1 : decode cX7_gaps 1 = .ok (.iload_n 1, 1) := by decide +kernel
theorem dX7_gaps_2 : decode cX7_gaps 2 = .ok (.iload_n 2, 1) := by decide +kernel
theorem dX7_gaps_3 : decode cX7_gaps 3 = .ok (.iload_n 3, 1) := by decide +kernel
theorem dX7_gaps_4 : decode cX7_gaps 4 = .ok (.iload 4, 2) := by decide +kernel
theorem dX7_gaps_6 : decode cX7_gaps 6 = .ok (.iconst 0, 1) := by decide +kernel
theorem dX7_gaps_7 : decode cX7_gaps 7 = .ok (.invokevirtual 114, 3) := by decide +kernel
theorem dX7_gaps_10 : decode cX7_gaps 10 = .ok (.istore 5, 2) := by decide +kernel
theorem dX7_gaps_12 : decode cX7_gaps 12 = .ok (.iload 5, 2) := by decide +kernel
theorem dX7_gaps_14 : decode cX7_gaps 14 = .ok (.ifCond .eq 6, 3) := by decide +kernel
theorem dX7_gaps_17 : decode cX7_gaps 17 = .ok (.iload 5, 2) := by decide +kernel
theorem dX7_gaps_19 : decode cX7_gaps 19 = .ok (.ireturn, 1) := by decide +kernel
theorem dX7_gaps_20 : decode cX7_gaps 20 = .ok (.aload_n 0, 1) := by decide +kernel
theorem dX7_gaps_21 : decode cX7_gaps 21 = .ok (.aload_n 0, 1) := by decide +kernel
theorem dX7_gaps_22 : decode cX7_gaps 22 = .ok (.iload_n 1, 1) := by decide +kernel
theorem dX7_gaps_23 : decode cX7_gaps 23 = .ok (.iload_n 2, 1) := by decide +kernel
theorem dX7_gaps_24 : decode cX7_gaps 24 = .ok (.iload_n 3, 1) := by decide +kernel
theorem dX7_gaps_25 : decode cX7_gaps 25 = .ok (.iload 4, 2) := by decide +kernel
theorem dX7_gaps_27 : decode cX7_gaps 27 = .ok (.iconst 3, 1) := by decide +kernel
theorem dX7_gaps_28 : decode cX7_gaps 28 = .ok (.invokevirtual 118, 3) := by decide +kernel
theorem dX7_gaps_31 : decode cX7_gaps 31 = .ok (.aload_n 0, 1) := by decide +kernel
theorem dX7_gaps_32 : decode cX7_gaps 32 = .ok (.iload_n 1, 1) := by decide +kernel
theorem dX7_gaps_33 : decode cX7_gaps 33 = .ok (.invokevirtual 121, 3) := by decide +kernel
theorem dX7_gaps_36 : decode cX7_gaps 36 = .ok (.invokevirtual 128, 3) := by decide +kernel
theorem dX7_gaps_39 : decode cX7_gaps 39 = .ok (.ireturn, 1) := by decide +kernel
theorem dX7_gap_0 : decode cX7_gap 0 = .ok (.iload 5, 2) := by decide +kernel
theorem dX7_gap_2 : decode cX7_gap 2 = .ok (.ifCond .ge 6, 3) := by decide +kernel
theorem dX7_gap_5 : decode cX7_gap 5 = .ok (.ldc 70, 2) := by decide +kernel
theorem dX7_gap_7 : decode cX7_gap 7 = .ok (.ireturn, 1) := by decide +kernel
theorem dX7_gap_8 : decode cX7_gap 8 = .ok (.aload_n 0, 1) := by decide +kernel
theorem dX7_gap_9 : decode cX7_gap 9 = .ok (.iload_n 1, 1) := by decide +kernel
theorem dX7_gap_10 : decode cX7_gap 10 = .ok (.iload_n 2, 1) := by decide +kernel
theorem dX7_gap_11 : decode cX7_gap 11 = .ok (.iload_n 3, 1) := by decide +kernel
theorem dX7_gap_12 : decode cX7_gap 12 = .ok (.iload 4, 2) := by decide +kernel
theorem dX7_gap_14 : decode cX7_gap 14 = .ok (.iconst 0, 1) := by decide +kernel
theorem dX7_gap_15 : decode cX7_gap 15 = .ok (.invokevirtual 114, 3) := by decide +kernel
theorem dX7_gap_18 : decode cX7_gap 18 = .ok (.istore 6, 2) := by decide +kernel
theorem dX7_gap_20 : decode cX7_gap 20 = .ok (.iload 6, 2) := by decide +kernel
theorem dX7_gap_22 : decode cX7_gap 22 = .ok (.ifCond .eq 6, 3) := by decide +kernel
theorem dX7_gap_25 : decode cX7_gap 25 = .ok (.iload 6, 2) := by decide +kernel
theorem dX7_gap_27 : decode cX7_gap 27 = .ok (.ireturn, 1) := by decide +kernel
theorem dX7_gap_28 : decode cX7_gap 28 = .ok (.aload_n 0, 1) := by decide +kernel
theorem dX7_gap_29 : decode cX7_gap 29 = .ok (.aload_n 0, 1) := by decide +kernel
theorem dX7_gap_30 : decode cX7_gap 30 = .ok (.iload_n 1, 1) := by decide +kernel
theorem dX7_gap_31 : decode cX7_gap 31 = .ok (.iload_n 2, 1) := by decide +kernel
theorem dX7_gap_32 : decode cX7_gap 32 = .ok (.iload_n 3, 1) := by decide +kernel
theorem dX7_gap_33 : decode cX7_gap 33 = .ok (.iload 4, 2) := by decide +kernel
theorem dX7_gap_35 : decode cX7_gap 35 = .ok (.iconst 3, 1) := by decide +kernel
theorem dX7_gap_36 : decode cX7_gap 36 = .ok (.invokevirtual 118, 3) := by decide +kernel
theorem dX7_gap_39 : decode cX7_gap 39 = .ok (.aload_n 0, 1) := by decide +kernel
theorem dX7_gap_40 : decode cX7_gap 40 = .ok (.iload_n 1, 1) := by decide +kernel
theorem dX7_gap_41 : decode cX7_gap 41 = .ok (.invokevirtual 121, 3) := by decide +kernel
theorem dX7_gap_44 : decode cX7_gap 44 = .ok (.iload 5, 2) := by decide +kernel
theorem dX7_gap_46 : decode cX7_gap 46 = .ok (.invokevirtual 131, 3) := by decide +kernel
theorem dX7_gap_49 : decode cX7_gap 49 = .ok (.ireturn, 1) := by decide +kernel
theorem dX7_start_0 : decode cX7_start 0 = .ok (.aload_n 0, 1) := by decide +kernel
theorem dX7_start_1 : decode cX7_start 1 = .ok (.iload_n 1, 1) := by decide +kernel
theorem dX7_start_2 : decode cX7_start 2 = .ok (.iload_n 2, 1) := by decide +kernel
theorem dX7_start_3 : decode cX7_start 3 = .ok (.iload_n 3, 1) := by decide +kernel
theorem dX7_start_4 : decode cX7_start 4 = .ok (.iconst 0, 1) := by decide +kernel
theorem dX7_start_5 : decode cX7_start 5 = .ok (.iload 4, 2) := by decide +kernel
theorem dX7_start_7 : decode cX7_start 7 = .ok (.invokevirtual 114, 3) := by decide +kernel
theorem dX7_start_10 : decode cX7_start 10 = .ok (.istore 5, 2) := by decide +kernel
theorem dX7_start_12 : decode cX7_start 12 = .ok (.iload 5, 2) := by decide +kernel
theorem dX7_start_14 : decode cX7_start 14 = .ok (.ifCond .eq 6, 3) := by decide +kernel
theorem dX7_start_17 : decode cX7_start 17 = .ok (.iload 5, 2) := by decide +kernel
theorem dX7_start_19 : decode cX7_start 19 = .ok (.ireturn, 1) := by decide +kernel
theorem dX7_start_20 : decode cX7_start 20 = .ok (.aload_n 0, 1) := by decide +kernel
theorem dX7_start_21 : decode cX7_start 21 = .ok (.iload_n 1, 1) := by decide +kernel
theorem dX7_start_22 : decode cX7_start 22 = .ok (.iload_n 2, 1) := by decide +kernel
theorem dX7_start_23 : decode cX7_start 23 = .ok (.iload_n 3, 1) := by decide +kernel
theorem dX7_start_24 : decode cX7_start 24 = .ok (.iconst 0, 1) := by decide +kernel
theorem dX7_start_25 : decode cX7_start 25 = .ok (.iconst 3, 1) := by decide +kernel
theorem dX7_start_26 : decode cX7_start 26 = .ok (.invokevirtual 118, 3) := by decide +kernel
theorem dX7_start_29 : decode cX7_start 29 = .ok (.istore 6, 2) := by decide +kernel
theorem dX7_start_31 : decode cX7_start 31 = .ok (.iload 6, 2) := by decide +kernel
theorem dX7_start_33 : decode cX7_start 33 = .ok (.iconst 2, 1) := by decide +kernel
theorem dX7_start_34 : decode cX7_start 34 = .ok (.iload 4, 2) := by decide +kernel
theorem dX7_start_36 : decode cX7_start 36 = .ok (.imul, 1) := by decide +kernel
theorem dX7_start_37 : decode cX7_start 37 = .ok (.aload_n 0, 1) := by decide +kernel
theorem dX7_start_38 : decode cX7_start 38 = .ok (.iload_n 1, 1) := by decide +kernel
theorem dX7_start_39 : decode cX7_start 39 = .ok (.invokevirtual 121, 3) := by decide +kernel
theorem dX7_start_42 : decode cX7_start 42 = .ok (.invokestatic 124, 3) := by decide +kernel
theorem dX7_start_45 : decode cX7_start 45 = .ok (.ireturn, 1) := by decide +kernel
theorem dX7_doubles_0 : decode cX7_doubles 0 = .ok (.aload_n 0, 1) := by decide +kernel
theorem dX7_doubles_1 : decode cX7_doubles 1 = .ok (.iload_n 1, 1) := by decide +kernel
theorem dX7_doubles_2 : decode cX7_doubles 2 = .ok (.iload_n 2, 1) := by decide +kernel
theorem dX7_doubles_3 : decode cX7_doubles 3 = .ok (.iload_n 3, 1) := by decide +kernel
theorem dX7_doubles_4 : decode cX7_doubles 4 = .ok (.iload 4, 2) := by decide +kernel
theorem dX7_doubles_6 : decode cX7_doubles 6 = .ok (.iconst 0, 1) := by decide +kernel
theorem dX7_doubles_7 : decode cX7_doubles 7 = .ok (.invokevirtual 114, 3) := by decide +kernel
theorem dX7_doubles_10 : decode cX7_doubles 10 = .ok (.istore 5, 2) := by decide +kernel
theorem dX7_doubles_12 : decode cX7_doubles 12 = .ok (.iload 5, 2) := by decide +kernel
theorem dX7_doubles_14 : decode cX7_doubles 14 = .ok (.ifCond .eq 6, 3) := by decide +kernel
theorem dX7_doubles_17 : decode cX7_doubles 17 = .ok (.iload 5, 2) := by decide +kernel
theorem dX7_doubles_19 : decode cX7_doubles 19 = .ok (.ireturn, 1) := by decide +kernel
theorem dX7_doubles_20 : decode cX7_doubles 20 = .ok (.aload_n 0, 1) := by decide +kernel
theorem dX7_doubles_21 : decode cX7_doubles 21 = .ok (.iload_n 1, 1) := by decide +kernel
theorem dX7_doubles_22 : decode cX7_doubles 22 = .ok (.iload_n 2, 1) := by decide +kernel
theorem dX7_doubles_23 : decode cX7_doubles 23 = .ok (.iload_n 3, 1) := by decide +kernel
theorem dX7_doubles_24 : decode cX7_doubles 24 = .ok (.iload 4, 2) := by decide +kernel
theorem dX7_doubles_26 : decode cX7_doubles 26 = .ok (.bipush 9, 2) := by decide +kernel
theorem dX7_doubles_28 : decode cX7_doubles 28 = .ok (.invokevirtual 118, 3) := by decide +kernel
theorem dX7_doubles_31 : decode cX7_doubles 31 = .ok (.istore 6, 2) := by decide +kernel
theorem dX7_doubles_33 : decode cX7_doubles 33 = .ok (.aload_n 0, 1) := by decide +kernel
theorem dX7_doubles_34 : decode cX7_doubles 34 = .ok (.iload_n 1, 1) := by decide +kernel
theorem dX7_doubles_35 : decode cX7_doubles 35 = .ok (.invokevirtual 121, 3) := by decide +kernel
theorem dX7_doubles_38 : decode cX7_doubles 38 = .ok (.istore 7, 2) := by decide +kernel
theorem dX7_doubles_40 : decode cX7_doubles 40 = .ok (.iconst 0, 1) := by decide +kernel
theorem dX7_doubles_41 : decode cX7_doubles 41 = .ok (.istore 8, 2) := by decide +kernel
theorem dX7_doubles_43 : decode cX7_doubles 43 = .ok (.iconst 0, 1) := by decide +kernel
theorem dX7_doubles_44 : decode cX7_doubles 44 = .ok (.istore 9, 2) := by decide +kernel
theorem dX7_doubles_46 : decode cX7_doubles 46 = .ok (.iload 9, 2) := by decide +kernel
theorem dX7_doubles_48 : decode cX7_doubles 48 = .ok (.bipush 96, 2) := by decide +kernel
theorem dX7_doubles_50 : decode cX7_doubles 50 = .ok (.if_icmp .gt 42, 3) := by decide +kernel
theorem dX7_doubles_53 : decode cX7_doubles 53 = .ok (.iload 8, 2) := by decide +kernel
theorem dX7_doubles_55 : decode cX7_doubles 55 = .ok (.aload_n 0, 1) := by decide +kernel
theorem dX7_doubles_56 : decode cX7_doubles 56 = .ok (.iload 6, 2) := by decide +kernel
theorem dX7_doubles_58 : decode cX7_doubles 58 = .ok (.bipush 6, 2) := by decide +kernel
theorem dX7_doubles_60 : decode cX7_doubles 60 = .ok (.iload 9, 2) := by decide +kernel
theorem dX7_doubles_62 : decode cX7_doubles 62 = .ok (.imul, 1) := by decide +kernel
theorem dX7_doubles_63 : decode cX7_doubles 63 = .ok (.iload 7, 2) := by decide +kernel
theorem dX7_doubles_65 : decode cX7_doubles 65 = .ok (.invokestatic 124, 3) := by decide +kernel
theorem dX7_doubles_68 : decode cX7_doubles 68 = .ok (.iload 7, 2) := by decide +kernel
theorem dX7_doubles_70 : decode cX7_doubles 70 = .ok (.invokevirtual 128, 3) := by decide +kernel
theorem dX7_doubles_73 : decode cX7_doubles 73 = .ok (.iadd, 1) := by decide +kernel
theorem dX7_doubles_74 : decode cX7_doubles 74 = .ok (.istore 8, 2) := by decide +kernel
theorem dX7_doubles_76 : decode cX7_doubles 76 = .ok (.iload 9, 2) := by decide +kernel
theorem dX7_doubles_78 : decode cX7_doubles 78 = .ok (.iconst 1, 1) := by decide +kernel
theorem dX7_doubles_79 : decode cX7_doubles 79 = .ok (.aload_n 0, 1) := by decide +kernel
theorem dX7_doubles_80 : decode cX7_doubles 80 = .ok (.getfield 55, 3) := by decide +kernel
theorem dX7_doubles_83 : decode cX7_doubles 83 = .ok (.invokestatic 134, 3) := by decide +kernel
theorem dX7_doubles_86 : decode cX7_doubles 86 = .ok (.iadd, 1) := by decide +kernel
theorem dX7_doubles_87 : decode cX7_doubles 87 = .ok (.istore 9, 2) := by decide +kernel
theorem dX7_doubles_89 : decode cX7_doubles 89 = .ok (.goto (-43), 3) := by decide +kernel
theorem dX7_doubles_92 : decode cX7_doubles 92 = .ok (.iload 8, 2) := by decide +kernel
theorem dX7_doubles_94 : decode cX7_doubles 94 = .ok (.ireturn, 1) := by decide +kernel
theorem dX7_least_0 : decode cX7_least 0 = .ok (.aload_n 0, 1) := by decide +kernel
theorem dX7_least_1 : decode cX7_least 1 = .ok (.iload_n 1, 1) := by decide +kernel
theorem dX7_least_2 : decode cX7_least 2 = .ok (.iload_n 2, 1) := by decide +kernel
theorem dX7_least_3 : decode cX7_least 3 = .ok (.iload_n 3, 1) := by decide +kernel
theorem dX7_least_4 : decode cX7_least 4 = .ok (.iload 4, 2) := by decide +kernel
theorem dX7_least_6 : decode cX7_least 6 = .ok (.iconst 0, 1) := by decide +kernel
theorem dX7_least_7 : decode cX7_least 7 = .ok (.invokevirtual 114, 3) := by decide +kernel
theorem dX7_least_10 : decode cX7_least 10 = .ok (.istore 5, 2) := by decide +kernel
theorem dX7_least_12 : decode cX7_least 12 = .ok (.iload 5, 2) := by decide +kernel
theorem dX7_least_14 : decode cX7_least 14 = .ok (.ifCond .eq 6, 3) := by decide +kernel
theorem dX7_least_17 : decode cX7_least 17 = .ok (.iload 5, 2) := by decide +kernel
theorem dX7_least_19 : decode cX7_least 19 = .ok (.ireturn, 1) := by decide +kernel
theorem dX7_least_20 : decode cX7_least 20 = .ok (.aload_n 0, 1) := by decide +kernel
theorem dX7_least_21 : decode cX7_least 21 = .ok (.iload_n 1, 1) := by decide +kernel
theorem dX7_least_22 : decode cX7_least 22 = .ok (.iload_n 2, 1) := by decide +kernel
theorem dX7_least_23 : decode cX7_least 23 = .ok (.iload_n 3, 1) := by decide +kernel
theorem dX7_least_24 : decode cX7_least 24 = .ok (.iload 4, 2) := by decide +kernel
theorem dX7_least_26 : decode cX7_least 26 = .ok (.bipush 9, 2) := by decide +kernel
theorem dX7_least_28 : decode cX7_least 28 = .ok (.invokevirtual 118, 3) := by decide +kernel
theorem dX7_least_31 : decode cX7_least 31 = .ok (.istore 6, 2) := by decide +kernel
theorem dX7_least_33 : decode cX7_least 33 = .ok (.aload_n 0, 1) := by decide +kernel
theorem dX7_least_34 : decode cX7_least 34 = .ok (.iload_n 1, 1) := by decide +kernel
theorem dX7_least_35 : decode cX7_least 35 = .ok (.invokevirtual 121, 3) := by decide +kernel
theorem dX7_least_38 : decode cX7_least 38 = .ok (.istore 7, 2) := by decide +kernel
theorem dX7_least_40 : decode cX7_least 40 = .ok (.ldc 139, 2) := by decide +kernel
theorem dX7_least_42 : decode cX7_least 42 = .ok (.istore 8, 2) := by decide +kernel
theorem dX7_least_44 : decode cX7_least 44 = .ok (.sipush 193, 3) := by decide +kernel
theorem dX7_least_47 : decode cX7_least 47 = .ok (.istore 9, 2) := by decide +kernel
theorem dX7_least_49 : decode cX7_least 49 = .ok (.iconst 0, 1) := by decide +kernel
theorem dX7_least_50 : decode cX7_least 50 = .ok (.istore 10, 2) := by decide +kernel
theorem dX7_least_52 : decode cX7_least 52 = .ok (.iload 10, 2) := by decide +kernel
theorem dX7_least_54 : decode cX7_least 54 = .ok (.bipush 96, 2) := by decide +kernel
theorem dX7_least_56 : decode cX7_least 56 = .ok (.if_icmp .gt 75, 3) := by decide +kernel
theorem dX7_least_59 : decode cX7_least 59 = .ok (.aload_n 0, 1) := by decide +kernel
theorem dX7_least_60 : decode cX7_least 60 = .ok (.iload 6, 2) := by decide +kernel
theorem dX7_least_62 : decode cX7_least 62 = .ok (.bipush 6, 2) := by decide +kernel
theorem dX7_least_64 : decode cX7_least 64 = .ok (.iload 10, 2) := by decide +kernel
theorem dX7_least_66 : decode cX7_least 66 = .ok (.imul, 1) := by decide +kernel
theorem dX7_least_67 : decode cX7_least 67 = .ok (.iload 7, 2) := by decide +kernel
theorem dX7_least_69 : decode cX7_least 69 = .ok (.invokestatic 124, 3) := by decide +kernel
theorem dX7_least_72 : decode cX7_least 72 = .ok (.iload 7, 2) := by decide +kernel
theorem dX7_least_74 : decode cX7_least 74 = .ok (.iconst 0, 1) := by decide +kernel
theorem dX7_least_75 : decode cX7_least 75 = .ok (.invokevirtual 131, 3) := by decide +kernel
theorem dX7_least_78 : decode cX7_least 78 = .ok (.istore 11, 2) := by decide +kernel
theorem dX7_least_80 : decode cX7_least 80 = .ok (.iload 11, 2) := by decide +kernel
theorem dX7_least_82 : decode cX7_least 82 = .ok (.ldc 139, 2) := by decide +kernel
theorem dX7_least_84 : decode cX7_least 84 = .ok (.if_icmp .eq 31, 3) := by decide +kernel
theorem dX7_least_87 : decode cX7_least 87 = .ok (.iload 10, 2) := by decide +kernel
theorem dX7_least_89 : decode cX7_least 89 = .ok (.iload 11, 2) := by decide +kernel
theorem dX7_least_91 : decode cX7_least 91 = .ok (.iadd, 1) := by decide +kernel
theorem dX7_least_92 : decode cX7_least 92 = .ok (.iload 9, 2) := by decide +kernel
theorem dX7_least_94 : decode cX7_least 94 = .ok (.if_icmp .ge 21, 3) := by decide +kernel
theorem dX7_least_97 : decode cX7_least 97 = .ok (.sipush 1000, 3) := by decide +kernel
theorem dX7_least_100 : decode cX7_least 100 = .ok (.iload 10, 2) := by decide +kernel
theorem dX7_least_102 : decode cX7_least 102 = .ok (.imul, 1) := by decide +kernel
theorem dX7_least_103 : decode cX7_least 103 = .ok (.iload 11, 2) := by decide +kernel
theorem dX7_least_105 : decode cX7_least 105 = .ok (.iadd, 1) := by decide +kernel
theorem dX7_least_106 : decode cX7_least 106 = .ok (.istore 8, 2) := by decide +kernel
theorem dX7_least_108 : decode cX7_least 108 = .ok (.iload 10, 2) := by decide +kernel
theorem dX7_least_110 : decode cX7_least 110 = .ok (.iload 11, 2) := by decide +kernel
theorem dX7_least_112 : decode cX7_least 112 = .ok (.iadd, 1) := by decide +kernel
theorem dX7_least_113 : decode cX7_least 113 = .ok (.istore 9, 2) := by decide +kernel
theorem dX7_least_115 : decode cX7_least 115 = .ok (.iload 10, 2) := by decide +kernel
theorem dX7_least_117 : decode cX7_least 117 = .ok (.iconst 1, 1) := by decide +kernel
theorem dX7_least_118 : decode cX7_least 118 = .ok (.aload_n 0, 1) := by decide +kernel
theorem dX7_least_119 : decode cX7_least 119 = .ok (.getfield 55, 3) := by decide +kernel
theorem dX7_least_122 : decode cX7_least 122 = .ok (.invokestatic 134, 3) := by decide +kernel
theorem dX7_least_125 : decode cX7_least 125 = .ok (.iadd, 1) := by decide +kernel
theorem dX7_least_126 : decode cX7_least 126 = .ok (.istore 10, 2) := by decide +kernel
theorem dX7_least_128 : decode cX7_least 128 = .ok (.goto (-76), 3) := by decide +kernel
theorem dX7_least_131 : decode cX7_least 131 = .ok (.iload 8, 2) := by decide +kernel
theorem dX7_least_133 : decode cX7_least 133 = .ok (.ireturn, 1) := by decide +kernel
theorem dX7_grid_0 : decode cX7_grid 0 = .ok (.iload_n 1, 1) := by decide +kernel
theorem dX7_grid_1 : decode cX7_grid 1 = .ok (.iconst 1, 1) := by decide +kernel
theorem dX7_grid_2 : decode cX7_grid 2 = .ok (.if_icmp .lt 9, 3) := by decide +kernel
theorem dX7_grid_5 : decode cX7_grid 5 = .ok (.iload_n 1, 1) := by decide +kernel
theorem dX7_grid_6 : decode cX7_grid 6 = .ok (.bipush 24, 2) := by decide +kernel
theorem dX7_grid_8 : decode cX7_grid 8 = .ok (.if_icmp .le 6, 3) := by decide +kernel
theorem dX7_grid_11 : decode cX7_grid 11 = .ok (.ldc 70, 2) := by decide +kernel
theorem dX7_grid_13 : decode cX7_grid 13 = .ok (.ireturn, 1) := by decide +kernel
theorem dX7_grid_14 : decode cX7_grid 14 = .ok (.aload_n 0, 1) := by decide +kernel
theorem dX7_grid_15 : decode cX7_grid 15 = .ok (.getfield 55, 3) := by decide +kernel
theorem dX7_grid_18 : decode cX7_grid 18 = .ok (.istore_n 2, 1) := by decide +kernel
theorem dX7_grid_19 : decode cX7_grid 19 = .ok (.aload_n 0, 1) := by decide +kernel
theorem dX7_grid_20 : decode cX7_grid 20 = .ok (.iload_n 1, 1) := by decide +kernel
theorem dX7_grid_21 : decode cX7_grid 21 = .ok (.putfield 55, 3) := by decide +kernel
theorem dX7_grid_24 : decode cX7_grid 24 = .ok (.iload_n 2, 1) := by decide +kernel
theorem dX7_grid_25 : decode cX7_grid 25 = .ok (.ireturn, 1) := by decide +kernel
theorem dX7_shape_0 : decode cX7_shape 0 = .ok (.aload_n 0, 1) := by decide +kernel
theorem dX7_shape_1 : decode cX7_shape 1 = .ok (.iload_n 1, 1) := by decide +kernel
theorem dX7_shape_2 : decode cX7_shape 2 = .ok (.invokevirtual 99, 3) := by decide +kernel
theorem dX7_shape_5 : decode cX7_shape 5 = .ok (.astore 4, 2) := by decide +kernel
theorem dX7_shape_7 : decode cX7_shape 7 = .ok (.aload 4, 2) := by decide +kernel
theorem dX7_shape_9 : decode cX7_shape 9 = .ok (.ifnull 17, 3) := by decide +kernel
theorem dX7_shape_12 : decode cX7_shape 12 = .ok (.iload_n 2, 1) := by decide +kernel
theorem dX7_shape_13 : decode cX7_shape 13 = .ok (.invokestatic 140, 3) := by decide +kernel
theorem dX7_shape_16 : decode cX7_shape 16 = .ok (.ifCond .eq 10, 3) := by decide +kernel
theorem dX7_shape_19 : decode cX7_shape 19 = .ok (.iload_n 3, 1) := by decide +kernel
theorem dX7_shape_20 : decode cX7_shape 20 = .ok (.invokestatic 143, 3) := by decide +kernel
theorem dX7_shape_23 : decode cX7_shape 23 = .ok (.ifCond .ne 6, 3) := by decide +kernel
theorem dX7_shape_26 : decode cX7_shape 26 = .ok (.ldc 70, 2) := by decide +kernel
theorem dX7_shape_28 : decode cX7_shape 28 = .ok (.ireturn, 1) := by decide +kernel
theorem dX7_shape_29 : decode cX7_shape 29 = .ok (.aload 4, 2) := by decide +kernel
theorem dX7_shape_31 : decode cX7_shape 31 = .ok (.getfield 113, 3) := by decide +kernel
theorem dX7_shape_34 : decode cX7_shape 34 = .ok (.ifCond .ne 6, 3) := by decide +kernel
theorem dX7_shape_37 : decode cX7_shape 37 = .ok (.ldc 146, 2) := by decide +kernel
theorem dX7_shape_39 : decode cX7_shape 39 = .ok (.ireturn, 1) := by decide +kernel
theorem dX7_shape_40 : decode cX7_shape 40 = .ok (.aload 4, 2) := by decide +kernel
theorem dX7_shape_42 : decode cX7_shape 42 = .ok (.iload_n 2, 1) := by decide +kernel
theorem dX7_shape_43 : decode cX7_shape 43 = .ok (.iload_n 3, 1) := by decide +kernel
theorem dX7_shape_44 : decode cX7_shape 44 = .ok (.invokestatic 147, 3) := by decide +kernel
theorem dX7_shape_47 : decode cX7_shape 47 = .ok (.istore 5, 2) := by decide +kernel
theorem dX7_shape_49 : decode cX7_shape 49 = .ok (.iconst 0, 1) := by decide +kernel
theorem dX7_shape_50 : decode cX7_shape 50 = .ok (.istore 6, 2) := by decide +kernel
theorem dX7_shape_52 : decode cX7_shape 52 = .ok (.iconst 0, 1) := by decide +kernel
theorem dX7_shape_53 : decode cX7_shape 53 = .ok (.istore 7, 2) := by decide +kernel
theorem dX7_shape_55 : decode cX7_shape 55 = .ok (.iload 7, 2) := by decide +kernel
theorem dX7_shape_57 : decode cX7_shape 57 = .ok (.iload 5, 2) := by decide +kernel
theorem dX7_shape_59 : decode cX7_shape 59 = .ok (.if_icmp .ge 29, 3) := by decide +kernel
theorem dX7_shape_62 : decode cX7_shape 62 = .ok (.iload 6, 2) := by decide +kernel
theorem dX7_shape_64 : decode cX7_shape 64 = .ok (.aload 4, 2) := by decide +kernel
theorem dX7_shape_66 : decode cX7_shape 66 = .ok (.getfield 113, 3) := by decide +kernel
theorem dX7_shape_69 : decode cX7_shape 69 = .ok (.aload 4, 2) := by decide +kernel
theorem dX7_shape_71 : decode cX7_shape 71 = .ok (.iload_n 2, 1) := by decide +kernel
theorem dX7_shape_72 : decode cX7_shape 72 = .ok (.iload_n 3, 1) := by decide +kernel
theorem dX7_shape_73 : decode cX7_shape 73 = .ok (.iload 7, 2) := by decide +kernel
theorem dX7_shape_75 : decode cX7_shape 75 = .ok (.invokestatic 151, 3) := by decide +kernel
theorem dX7_shape_78 : decode cX7_shape 78 = .ok (.isub, 1) := by decide +kernel
theorem dX7_shape_79 : decode cX7_shape 79 = .ok (.iadd, 1) := by decide +kernel
theorem dX7_shape_80 : decode cX7_shape 80 = .ok (.istore 6, 2) := by decide +kernel
theorem dX7_shape_82 : decode cX7_shape 82 = .ok (.iinc 7 1, 3) := by decide +kernel
theorem dX7_shape_85 : decode cX7_shape 85 = .ok (.goto (-30), 3) := by decide +kernel
theorem dX7_shape_88 : decode cX7_shape 88 = .ok (.iload 6, 2) := by decide +kernel
theorem dX7_shape_90 : decode cX7_shape 90 = .ok (.ireturn, 1) := by decide +kernel
theorem dX7_shaped_0 : decode cX7_shaped 0 = .ok (.aload_n 0, 1) := by decide +kernel
theorem dX7_shaped_1 : decode cX7_shaped 1 = .ok (.iload_n 1, 1) := by decide +kernel
theorem dX7_shaped_2 : decode cX7_shaped 2 = .ok (.invokevirtual 99, 3) := by decide +kernel
theorem dX7_shaped_5 : decode cX7_shaped 5 = .ok (.astore 5, 2) := by decide +kernel
theorem dX7_shaped_7 : decode cX7_shaped 7 = .ok (.aload 5, 2) := by decide +kernel
theorem dX7_shaped_9 : decode cX7_shaped 9 = .ok (.ifnull 22, 3) := by decide +kernel
theorem dX7_shaped_12 : decode cX7_shaped 12 = .ok (.iload_n 2, 1) := by decide +kernel
theorem dX7_shaped_13 : decode cX7_shaped 13 = .ok (.invokestatic 140, 3) := by decide +kernel
theorem dX7_shaped_16 : decode cX7_shaped 16 = .ok (.ifCond .eq 15, 3) := by decide +kernel
theorem dX7_shaped_19 : decode cX7_shaped 19 = .ok (.iload_n 3, 1) := by decide +kernel
theorem dX7_shaped_20 : decode cX7_shaped 20 = .ok (.invokestatic 143, 3) := by decide +kernel
theorem dX7_shaped_23 : decode cX7_shaped 23 = .ok (.ifCond .eq 8, 3) := by decide +kernel
theorem dX7_shaped_26 : decode cX7_shaped 26 = .ok (.iload 4, 2) := by decide +kernel
theorem dX7_shaped_28 : decode cX7_shaped 28 = .ok (.ifCond .ge 6, 3) := by decide +kernel
theorem dX7_shaped_31 : decode cX7_shaped 31 = .ok (.ldc 70, 2) := by decide +kernel
theorem dX7_shaped_33 : decode cX7_shaped 33 = .ok (.ireturn, 1) := by decide +kernel
theorem dX7_shaped_34 : decode cX7_shaped 34 = .ok (.aload 5, 2) := by decide +kernel
theorem dX7_shaped_36 : decode cX7_shaped 36 = .ok (.getfield 113, 3) := by decide +kernel
theorem dX7_shaped_39 : decode cX7_shaped 39 = .ok (.ifCond .ne 6, 3) := by decide +kernel
theorem dX7_shaped_42 : decode cX7_shaped 42 = .ok (.ldc 146, 2) := by decide +kernel
theorem dX7_shaped_44 : decode cX7_shaped 44 = .ok (.ireturn, 1) := by decide +kernel
theorem dX7_shaped_45 : decode cX7_shaped 45 = .ok (.aload 5, 2) := by decide +kernel
theorem dX7_shaped_47 : decode cX7_shaped 47 = .ok (.iload_n 2, 1) := by decide +kernel
theorem dX7_shaped_48 : decode cX7_shaped 48 = .ok (.iload_n 3, 1) := by decide +kernel
theorem dX7_shaped_49 : decode cX7_shaped 49 = .ok (.invokestatic 147, 3) := by decide +kernel
theorem dX7_shaped_52 : decode cX7_shaped 52 = .ok (.istore 6, 2) := by decide +kernel
theorem dX7_shaped_54 : decode cX7_shaped 54 = .ok (.iload 4, 2) := by decide +kernel
theorem dX7_shaped_56 : decode cX7_shaped 56 = .ok (.istore 7, 2) := by decide +kernel
theorem dX7_shaped_58 : decode cX7_shaped 58 = .ok (.iconst 0, 1) := by decide +kernel
theorem dX7_shaped_59 : decode cX7_shaped 59 = .ok (.istore 8, 2) := by decide +kernel
theorem dX7_shaped_61 : decode cX7_shaped 61 = .ok (.iload 8, 2) := by decide +kernel
theorem dX7_shaped_63 : decode cX7_shaped 63 = .ok (.iload 6, 2) := by decide +kernel
theorem dX7_shaped_65 : decode cX7_shaped 65 = .ok (.if_icmp .ge 57, 3) := by decide +kernel
theorem dX7_shaped_68 : decode cX7_shaped 68 = .ok (.aload 5, 2) := by decide +kernel
theorem dX7_shaped_70 : decode cX7_shaped 70 = .ok (.iload_n 2, 1) := by decide +kernel
theorem dX7_shaped_71 : decode cX7_shaped 71 = .ok (.iload_n 3, 1) := by decide +kernel
theorem dX7_shaped_72 : decode cX7_shaped 72 = .ok (.iload 8, 2) := by decide +kernel
theorem dX7_shaped_74 : decode cX7_shaped 74 = .ok (.invokestatic 151, 3) := by decide +kernel
theorem dX7_shaped_77 : decode cX7_shaped 77 = .ok (.istore 9, 2) := by decide +kernel
theorem dX7_shaped_79 : decode cX7_shaped 79 = .ok (.iload 7, 2) := by decide +kernel
theorem dX7_shaped_81 : decode cX7_shaped 81 = .ok (.aload 5, 2) := by decide +kernel
theorem dX7_shaped_83 : decode cX7_shaped 83 = .ok (.getfield 113, 3) := by decide +kernel
theorem dX7_shaped_86 : decode cX7_shaped 86 = .ok (.iload 9, 2) := by decide +kernel
theorem dX7_shaped_88 : decode cX7_shaped 88 = .ok (.isub, 1) := by decide +kernel
theorem dX7_shaped_89 : decode cX7_shaped 89 = .ok (.if_icmp .ge 14, 3) := by decide +kernel
theorem dX7_shaped_92 : decode cX7_shaped 92 = .ok (.aload 5, 2) := by decide +kernel
theorem dX7_shaped_94 : decode cX7_shaped 94 = .ok (.iload 9, 2) := by decide +kernel
theorem dX7_shaped_96 : decode cX7_shaped 96 = .ok (.iload 7, 2) := by decide +kernel
theorem dX7_shaped_98 : decode cX7_shaped 98 = .ok (.iadd, 1) := by decide +kernel
theorem dX7_shaped_99 : decode cX7_shaped 99 = .ok (.invokevirtual 107, 3) := by decide +kernel
theorem dX7_shaped_102 : decode cX7_shaped 102 = .ok (.ireturn, 1) := by decide +kernel
theorem dX7_shaped_103 : decode cX7_shaped 103 = .ok (.iload 7, 2) := by decide +kernel
theorem dX7_shaped_105 : decode cX7_shaped 105 = .ok (.aload 5, 2) := by decide +kernel
theorem dX7_shaped_107 : decode cX7_shaped 107 = .ok (.getfield 113, 3) := by decide +kernel
theorem dX7_shaped_110 : decode cX7_shaped 110 = .ok (.iload 9, 2) := by decide +kernel
theorem dX7_shaped_112 : decode cX7_shaped 112 = .ok (.isub, 1) := by decide +kernel
theorem dX7_shaped_113 : decode cX7_shaped 113 = .ok (.isub, 1) := by decide +kernel
theorem dX7_shaped_114 : decode cX7_shaped 114 = .ok (.istore 7, 2) := by decide +kernel
theorem dX7_shaped_116 : decode cX7_shaped 116 = .ok (.iinc 8 1, 3) := by decide +kernel
theorem dX7_shaped_119 : decode cX7_shaped 119 = .ok (.goto (-58), 3) := by decide +kernel
theorem dX7_shaped_122 : decode cX7_shaped 122 = .ok (.ldc 139, 2) := by decide +kernel
theorem dX7_shaped_124 : decode cX7_shaped 124 = .ok (.ireturn, 1) := by decide +kernel
theorem dX7_ways_0 : decode cX7_ways 0 = .ok (.aload_n 0, 1) := by decide +kernel
theorem dX7_ways_1 : decode cX7_ways 1 = .ok (.iload_n 1, 1) := by decide +kernel
theorem dX7_ways_2 : decode cX7_ways 2 = .ok (.invokevirtual 99, 3) := by decide +kernel
theorem dX7_ways_5 : decode cX7_ways 5 = .ok (.astore_n 3, 1) := by decide +kernel
theorem dX7_ways_6 : decode cX7_ways 6 = .ok (.aload_n 0, 1) := by decide +kernel
theorem dX7_ways_7 : decode cX7_ways 7 = .ok (.iload_n 2, 1) := by decide +kernel
theorem dX7_ways_8 : decode cX7_ways 8 = .ok (.invokevirtual 155, 3) := by decide +kernel
theorem dX7_ways_11 : decode cX7_ways 11 = .ok (.astore 4, 2) := by decide +kernel
theorem dX7_ways_13 : decode cX7_ways 13 = .ok (.aload_n 3, 1) := by decide +kernel
theorem dX7_ways_14 : decode cX7_ways 14 = .ok (.ifnull 8, 3) := by decide +kernel
theorem dX7_ways_17 : decode cX7_ways 17 = .ok (.aload 4, 2) := by decide +kernel
theorem dX7_ways_19 : decode cX7_ways 19 = .ok (.ifnonnull 6, 3) := by decide +kernel
theorem dX7_ways_22 : decode cX7_ways 22 = .ok (.ldc 70, 2) := by decide +kernel
theorem dX7_ways_24 : decode cX7_ways 24 = .ok (.ireturn, 1) := by decide +kernel
theorem dX7_ways_25 : decode cX7_ways 25 = .ok (.aload 4, 2) := by decide +kernel
theorem dX7_ways_27 : decode cX7_ways 27 = .ok (.invokevirtual 159, 3) := by decide +kernel
theorem dX7_ways_30 : decode cX7_ways 30 = .ok (.ifCond .eq 8, 3) := by decide +kernel
theorem dX7_ways_33 : decode cX7_ways 33 = .ok (.ldc 163, 2) := by decide +kernel
theorem dX7_ways_35 : decode cX7_ways 35 = .ok (.goto 13, 3) := by decide +kernel
theorem dX7_ways_38 : decode cX7_ways 38 = .ok (.aload_n 0, 1) := by decide +kernel
theorem dX7_ways_39 : decode cX7_ways 39 = .ok (.getfield 37, 3) := by decide +kernel
theorem dX7_ways_42 : decode cX7_ways 42 = .ok (.aload_n 3, 1) := by decide +kernel
theorem dX7_ways_43 : decode cX7_ways 43 = .ok (.aload 4, 2) := by decide +kernel
theorem dX7_ways_45 : decode cX7_ways 45 = .ok (.invokevirtual 164, 3) := by decide +kernel
theorem dX7_ways_48 : decode cX7_ways 48 = .ok (.ireturn, 1) := by decide +kernel
theorem dX7_cuts_0 : decode cX7_cuts 0 = .ok (.aload_n 0, 1) := by decide +kernel
theorem dX7_cuts_1 : decode cX7_cuts 1 = .ok (.iload_n 1, 1) := by decide +kernel
theorem dX7_cuts_2 : decode cX7_cuts 2 = .ok (.invokevirtual 99, 3) := by decide +kernel
theorem dX7_cuts_5 : decode cX7_cuts 5 = .ok (.astore_n 3, 1) := by decide +kernel
theorem dX7_cuts_6 : decode cX7_cuts 6 = .ok (.aload_n 0, 1) := by decide +kernel
theorem dX7_cuts_7 : decode cX7_cuts 7 = .ok (.iload_n 2, 1) := by decide +kernel
theorem dX7_cuts_8 : decode cX7_cuts 8 = .ok (.invokevirtual 155, 3) := by decide +kernel
theorem dX7_cuts_11 : decode cX7_cuts 11 = .ok (.astore 4, 2) := by decide +kernel
theorem dX7_cuts_13 : decode cX7_cuts 13 = .ok (.aload_n 3, 1) := by decide +kernel
theorem dX7_cuts_14 : decode cX7_cuts 14 = .ok (.ifnull 8, 3) := by decide +kernel
theorem dX7_cuts_17 : decode cX7_cuts 17 = .ok (.aload 4, 2) := by decide +kernel
theorem dX7_cuts_19 : decode cX7_cuts 19 = .ok (.ifnonnull 6, 3) := by decide +kernel
theorem dX7_cuts_22 : decode cX7_cuts 22 = .ok (.ldc 70, 2) := by decide +kernel
theorem dX7_cuts_24 : decode cX7_cuts 24 = .ok (.ireturn, 1) := by decide +kernel
theorem dX7_cuts_25 : decode cX7_cuts 25 = .ok (.aload 4, 2) := by decide +kernel
theorem dX7_cuts_27 : decode cX7_cuts 27 = .ok (.invokevirtual 159, 3) := by decide +kernel
theorem dX7_cuts_30 : decode cX7_cuts 30 = .ok (.ifCond .eq 8, 3) := by decide +kernel
theorem dX7_cuts_33 : decode cX7_cuts 33 = .ok (.ldc 163, 2) := by decide +kernel
theorem dX7_cuts_35 : decode cX7_cuts 35 = .ok (.goto 13, 3) := by decide +kernel
theorem dX7_cuts_38 : decode cX7_cuts 38 = .ok (.aload_n 0, 1) := by decide +kernel
theorem dX7_cuts_39 : decode cX7_cuts 39 = .ok (.getfield 37, 3) := by decide +kernel
theorem dX7_cuts_42 : decode cX7_cuts 42 = .ok (.aload_n 3, 1) := by decide +kernel
theorem dX7_cuts_43 : decode cX7_cuts 43 = .ok (.aload 4, 2) := by decide +kernel
theorem dX7_cuts_45 : decode cX7_cuts 45 = .ok (.invokevirtual 168, 3) := by decide +kernel
theorem dX7_cuts_48 : decode cX7_cuts 48 = .ok (.ireturn, 1) := by decide +kernel
theorem dX7_hand_0 : decode cX7_hand 0 = .ok (.aload_n 0, 1) := by decide +kernel
theorem dX7_hand_1 : decode cX7_hand 1 = .ok (.getfield 44, 3) := by decide +kernel
theorem dX7_hand_4 : decode cX7_hand 4 = .ok (.iload_n 1, 1) := by decide +kernel
theorem dX7_hand_5 : decode cX7_hand 5 = .ok (.iload_n 2, 1) := by decide +kernel
theorem dX7_hand_6 : decode cX7_hand 6 = .ok (.invokevirtual 171, 3) := by decide +kernel
theorem dX7_hand_9 : decode cX7_hand 9 = .ok (.ireturn, 1) := by decide +kernel
theorem dX7_strains_0 : decode cX7_strains 0 = .ok (.aload_n 0, 1) := by decide +kernel
theorem dX7_strains_1 : decode cX7_strains 1 = .ok (.iload_n 1, 1) := by decide +kernel
theorem dX7_strains_2 : decode cX7_strains 2 = .ok (.invokevirtual 99, 3) := by decide +kernel
theorem dX7_strains_5 : decode cX7_strains 5 = .ok (.astore_n 2, 1) := by decide +kernel
theorem dX7_strains_6 : decode cX7_strains 6 = .ok (.aload_n 2, 1) := by decide +kernel
theorem dX7_strains_7 : decode cX7_strains 7 = .ok (.ifnonnull 6, 3) := by decide +kernel
theorem dX7_strains_10 : decode cX7_strains 10 = .ok (.ldc 70, 2) := by decide +kernel
theorem dX7_strains_12 : decode cX7_strains 12 = .ok (.ireturn, 1) := by decide +kernel
theorem dX7_strains_13 : decode cX7_strains 13 = .ok (.aload_n 2, 1) := by decide +kernel
theorem dX7_strains_14 : decode cX7_strains 14 = .ok (.getfield 113, 3) := by decide +kernel
theorem dX7_strains_17 : decode cX7_strains 17 = .ok (.ifCond .ne 8, 3) := by decide +kernel
theorem dX7_strains_20 : decode cX7_strains 20 = .ok (.ldc 146, 2) := by decide +kernel
theorem dX7_strains_22 : decode cX7_strains 22 = .ok (.goto 11, 3) := by decide +kernel
theorem dX7_strains_25 : decode cX7_strains 25 = .ok (.aload_n 0, 1) := by decide +kernel
theorem dX7_strains_26 : decode cX7_strains 26 = .ok (.getfield 44, 3) := by decide +kernel
theorem dX7_strains_29 : decode cX7_strains 29 = .ok (.aload_n 2, 1) := by decide +kernel
theorem dX7_strains_30 : decode cX7_strains 30 = .ok (.invokevirtual 174, 3) := by decide +kernel
theorem dX7_strains_33 : decode cX7_strains 33 = .ok (.ireturn, 1) := by decide +kernel
theorem dX7_plays_0 : decode cX7_plays 0 = .ok (.aload_n 0, 1) := by decide +kernel
theorem dX7_plays_1 : decode cX7_plays 1 = .ok (.iload_n 1, 1) := by decide +kernel
theorem dX7_plays_2 : decode cX7_plays 2 = .ok (.invokevirtual 99, 3) := by decide +kernel
theorem dX7_plays_5 : decode cX7_plays 5 = .ok (.astore_n 3, 1) := by decide +kernel
theorem dX7_plays_6 : decode cX7_plays 6 = .ok (.aload_n 3, 1) := by decide +kernel
theorem dX7_plays_7 : decode cX7_plays 7 = .ok (.ifnull 7, 3) := by decide +kernel
theorem dX7_plays_10 : decode cX7_plays 10 = .ok (.iload_n 2, 1) := by decide +kernel
theorem dX7_plays_11 : decode cX7_plays 11 = .ok (.ifCond .ge 6, 3) := by decide +kernel
theorem dX7_plays_14 : decode cX7_plays 14 = .ok (.ldc 70, 2) := by decide +kernel
theorem dX7_plays_16 : decode cX7_plays 16 = .ok (.ireturn, 1) := by decide +kernel
theorem dX7_plays_17 : decode cX7_plays 17 = .ok (.aload_n 3, 1) := by decide +kernel
theorem dX7_plays_18 : decode cX7_plays 18 = .ok (.getfield 113, 3) := by decide +kernel
theorem dX7_plays_21 : decode cX7_plays 21 = .ok (.ifCond .ne 6, 3) := by decide +kernel
theorem dX7_plays_24 : decode cX7_plays 24 = .ok (.ldc 146, 2) := by decide +kernel
theorem dX7_plays_26 : decode cX7_plays 26 = .ok (.ireturn, 1) := by decide +kernel
theorem dX7_plays_27 : decode cX7_plays 27 = .ok (.iload_n 2, 1) := by decide +kernel
theorem dX7_plays_28 : decode cX7_plays 28 = .ok (.aload_n 3, 1) := by decide +kernel
theorem dX7_plays_29 : decode cX7_plays 29 = .ok (.getfield 113, 3) := by decide +kernel
theorem dX7_plays_32 : decode cX7_plays 32 = .ok (.if_icmp .lt 8, 3) := by decide +kernel
theorem dX7_plays_35 : decode cX7_plays 35 = .ok (.ldc 70, 2) := by decide +kernel
theorem dX7_plays_37 : decode cX7_plays 37 = .ok (.goto 12, 3) := by decide +kernel
theorem dX7_plays_40 : decode cX7_plays 40 = .ok (.aload_n 0, 1) := by decide +kernel
theorem dX7_plays_41 : decode cX7_plays 41 = .ok (.getfield 44, 3) := by decide +kernel
theorem dX7_plays_44 : decode cX7_plays 44 = .ok (.aload_n 3, 1) := by decide +kernel
theorem dX7_plays_45 : decode cX7_plays 45 = .ok (.iload_n 2, 1) := by decide +kernel
theorem dX7_plays_46 : decode cX7_plays 46 = .ok (.invokevirtual 177, 3) := by decide +kernel
theorem dX7_plays_49 : decode cX7_plays 49 = .ok (.ireturn, 1) := by decide +kernel
theorem dX7_join_0 : decode cX7_join 0 = .ok (.aload_n 0, 1) := by decide +kernel
theorem dX7_join_1 : decode cX7_join 1 = .ok (.iload_n 1, 1) := by decide +kernel
theorem dX7_join_2 : decode cX7_join 2 = .ok (.invokevirtual 99, 3) := by decide +kernel
theorem dX7_join_5 : decode cX7_join 5 = .ok (.astore 5, 2) := by decide +kernel
theorem dX7_join_7 : decode cX7_join 7 = .ok (.iload_n 2, 1) := by decide +kernel
theorem dX7_join_8 : decode cX7_join 8 = .ok (.invokestatic 110, 3) := by decide +kernel
theorem dX7_join_11 : decode cX7_join 11 = .ok (.istore 6, 2) := by decide +kernel
theorem dX7_join_13 : decode cX7_join 13 = .ok (.aload 5, 2) := by decide +kernel
theorem dX7_join_15 : decode cX7_join 15 = .ok (.ifnull 27, 3) := by decide +kernel
theorem dX7_join_18 : decode cX7_join 18 = .ok (.iload 6, 2) := by decide +kernel
theorem dX7_join_20 : decode cX7_join 20 = .ok (.ifCond .eq 22, 3) := by decide +kernel
theorem dX7_join_23 : decode cX7_join 23 = .ok (.iload_n 3, 1) := by decide +kernel
theorem dX7_join_24 : decode cX7_join 24 = .ok (.iconst 1, 1) := by decide +kernel
theorem dX7_join_25 : decode cX7_join 25 = .ok (.if_icmp .lt 17, 3) := by decide +kernel
theorem dX7_join_28 : decode cX7_join 28 = .ok (.iload_n 3, 1) := by decide +kernel
theorem dX7_join_29 : decode cX7_join 29 = .ok (.bipush 9, 2) := by decide +kernel
theorem dX7_join_31 : decode cX7_join 31 = .ok (.if_icmp .gt 11, 3) := by decide +kernel
theorem dX7_join_34 : decode cX7_join 34 = .ok (.iload 4, 2) := by decide +kernel
theorem dX7_join_36 : decode cX7_join 36 = .ok (.invokestatic 181, 3) := by decide +kernel
theorem dX7_join_39 : decode cX7_join 39 = .ok (.ifCond .ne 6, 3) := by decide +kernel
theorem dX7_join_42 : decode cX7_join 42 = .ok (.ldc 70, 2) := by decide +kernel
theorem dX7_join_44 : decode cX7_join 44 = .ok (.ireturn, 1) := by decide +kernel
theorem dX7_join_45 : decode cX7_join 45 = .ok (.aload 5, 2) := by decide +kernel
theorem dX7_join_47 : decode cX7_join 47 = .ok (.getfield 113, 3) := by decide +kernel
theorem dX7_join_50 : decode cX7_join 50 = .ok (.ifCond .ne 8, 3) := by decide +kernel
theorem dX7_join_53 : decode cX7_join 53 = .ok (.ldc 146, 2) := by decide +kernel
theorem dX7_join_55 : decode cX7_join 55 = .ok (.goto 22, 3) := by decide +kernel
theorem dX7_join_58 : decode cX7_join 58 = .ok (.aload_n 0, 1) := by decide +kernel
theorem dX7_join_59 : decode cX7_join 59 = .ok (.getfield 51, 3) := by decide +kernel
theorem dX7_join_62 : decode cX7_join 62 = .ok (.aload 5, 2) := by decide +kernel
theorem dX7_join_64 : decode cX7_join 64 = .ok (.getfield 113, 3) := by decide +kernel
theorem dX7_join_67 : decode cX7_join 67 = .ok (.iload 6, 2) := by decide +kernel
theorem dX7_join_69 : decode cX7_join 69 = .ok (.imul, 1) := by decide +kernel
theorem dX7_join_70 : decode cX7_join 70 = .ok (.iload_n 3, 1) := by decide +kernel
theorem dX7_join_71 : decode cX7_join 71 = .ok (.imul, 1) := by decide +kernel
theorem dX7_join_72 : decode cX7_join 72 = .ok (.iload 4, 2) := by decide +kernel
theorem dX7_join_74 : decode cX7_join 74 = .ok (.invokevirtual 184, 3) := by decide +kernel
theorem dX7_join_77 : decode cX7_join 77 = .ok (.ireturn, 1) := by decide +kernel
theorem dX7_drop_0 : decode cX7_drop 0 = .ok (.aload_n 0, 1) := by decide +kernel
theorem dX7_drop_1 : decode cX7_drop 1 = .ok (.getfield 51, 3) := by decide +kernel
theorem dX7_drop_4 : decode cX7_drop 4 = .ok (.getfield 185, 3) := by decide +kernel
theorem dX7_drop_7 : decode cX7_drop 7 = .ok (.istore_n 1, 1) := by decide +kernel
theorem dX7_drop_8 : decode cX7_drop 8 = .ok (.aload_n 0, 1) := by decide +kernel
theorem dX7_drop_9 : decode cX7_drop 9 = .ok (.getfield 51, 3) := by decide +kernel
theorem dX7_drop_12 : decode cX7_drop 12 = .ok (.iconst 0, 1) := by decide +kernel
theorem dX7_drop_13 : decode cX7_drop 13 = .ok (.putfield 185, 3) := by decide +kernel
theorem dX7_drop_16 : decode cX7_drop 16 = .ok (.iload_n 1, 1) := by decide +kernel
theorem dX7_drop_17 : decode cX7_drop 17 = .ok (.ireturn, 1) := by decide +kernel
theorem dX7_account_0 : decode cX7_account 0 = .ok (.aload_n 0, 1) := by decide +kernel
theorem dX7_account_1 : decode cX7_account 1 = .ok (.iload_n 1, 1) := by decide +kernel
theorem dX7_account_2 : decode cX7_account 2 = .ok (.invokevirtual 62, 3) := by decide +kernel
theorem dX7_account_5 : decode cX7_account 5 = .ok (.astore_n 3, 1) := by decide +kernel
theorem dX7_account_6 : decode cX7_account 6 = .ok (.aload_n 3, 1) := by decide +kernel
theorem dX7_account_7 : decode cX7_account 7 = .ok (.ifnull 18, 3) := by decide +kernel
theorem dX7_account_10 : decode cX7_account 10 = .ok (.iload_n 2, 1) := by decide +kernel
theorem dX7_account_11 : decode cX7_account 11 = .ok (.ifCond .lt 14, 3) := by decide +kernel
theorem dX7_account_14 : decode cX7_account 14 = .ok (.iload_n 2, 1) := by decide +kernel
theorem dX7_account_15 : decode cX7_account 15 = .ok (.aload_n 0, 1) := by decide +kernel
theorem dX7_account_16 : decode cX7_account 16 = .ok (.getfield 51, 3) := by decide +kernel
theorem dX7_account_19 : decode cX7_account 19 = .ok (.getfield 185, 3) := by decide +kernel
theorem dX7_account_22 : decode cX7_account 22 = .ok (.if_icmp .lt 6, 3) := by decide +kernel
theorem dX7_account_25 : decode cX7_account 25 = .ok (.ldc 70, 2) := by decide +kernel
theorem dX7_account_27 : decode cX7_account 27 = .ok (.ireturn, 1) := by decide +kernel
theorem dX7_account_28 : decode cX7_account 28 = .ok (.aload_n 3, 1) := by decide +kernel
theorem dX7_account_29 : decode cX7_account 29 = .ok (.invokevirtual 82, 3) := by decide +kernel
theorem dX7_account_32 : decode cX7_account 32 = .ok (.istore 4, 2) := by decide +kernel
theorem dX7_account_34 : decode cX7_account 34 = .ok (.iload 4, 2) := by decide +kernel
theorem dX7_account_36 : decode cX7_account 36 = .ok (.ifCond .gt 8, 3) := by decide +kernel
theorem dX7_account_39 : decode cX7_account 39 = .ok (.ldc 146, 2) := by decide +kernel
theorem dX7_account_41 : decode cX7_account 41 = .ok (.goto 14, 3) := by decide +kernel
theorem dX7_account_44 : decode cX7_account 44 = .ok (.aload_n 0, 1) := by decide +kernel
theorem dX7_account_45 : decode cX7_account 45 = .ok (.getfield 51, 3) := by decide +kernel
theorem dX7_account_48 : decode cX7_account 48 = .ok (.iload_n 2, 1) := by decide +kernel
theorem dX7_account_49 : decode cX7_account 49 = .ok (.invokevirtual 186, 3) := by decide +kernel
theorem dX7_account_52 : decode cX7_account 52 = .ok (.iload 4, 2) := by decide +kernel
theorem dX7_account_54 : decode cX7_account 54 = .ok (.irem, 1) := by decide +kernel
theorem dX7_account_55 : decode cX7_account 55 = .ok (.ireturn, 1) := by decide +kernel
theorem dX7_landings_0 : decode cX7_landings 0 = .ok (.aload_n 0, 1) := by decide +kernel
theorem dX7_landings_1 : decode cX7_landings 1 = .ok (.iload_n 1, 1) := by decide +kernel
theorem dX7_landings_2 : decode cX7_landings 2 = .ok (.invokevirtual 62, 3) := by decide +kernel
theorem dX7_landings_5 : decode cX7_landings 5 = .ok (.astore_n 2, 1) := by decide +kernel
theorem dX7_landings_6 : decode cX7_landings 6 = .ok (.aload_n 2, 1) := by decide +kernel
theorem dX7_landings_7 : decode cX7_landings 7 = .ok (.ifnonnull 6, 3) := by decide +kernel
theorem dX7_landings_10 : decode cX7_landings 10 = .ok (.ldc 70, 2) := by decide +kernel
theorem dX7_landings_12 : decode cX7_landings 12 = .ok (.ireturn, 1) := by decide +kernel
theorem dX7_landings_13 : decode cX7_landings 13 = .ok (.aload_n 2, 1) := by decide +kernel
theorem dX7_landings_14 : decode cX7_landings 14 = .ok (.invokevirtual 82, 3) := by decide +kernel
theorem dX7_landings_17 : decode cX7_landings 17 = .ok (.istore_n 3, 1) := by decide +kernel
theorem dX7_landings_18 : decode cX7_landings 18 = .ok (.iload_n 3, 1) := by decide +kernel
theorem dX7_landings_19 : decode cX7_landings 19 = .ok (.ifCond .gt 8, 3) := by decide +kernel
theorem dX7_landings_22 : decode cX7_landings 22 = .ok (.ldc 146, 2) := by decide +kernel
theorem dX7_landings_24 : decode cX7_landings 24 = .ok (.goto 11, 3) := by decide +kernel
theorem dX7_landings_27 : decode cX7_landings 27 = .ok (.aload_n 0, 1) := by decide +kernel
theorem dX7_landings_28 : decode cX7_landings 28 = .ok (.getfield 51, 3) := by decide +kernel
theorem dX7_landings_31 : decode cX7_landings 31 = .ok (.iload_n 3, 1) := by decide +kernel
theorem dX7_landings_32 : decode cX7_landings 32 = .ok (.invokevirtual 189, 3) := by decide +kernel
theorem dX7_landings_35 : decode cX7_landings 35 = .ok (.ireturn, 1) := by decide +kernel
theorem dX7_home_0 : decode cX7_home 0 = .ok (.aload_n 0, 1) := by decide +kernel
theorem dX7_home_1 : decode cX7_home 1 = .ok (.iload_n 1, 1) := by decide +kernel
theorem dX7_home_2 : decode cX7_home 2 = .ok (.invokevirtual 62, 3) := by decide +kernel
theorem dX7_home_5 : decode cX7_home 5 = .ok (.astore_n 2, 1) := by decide +kernel
theorem dX7_home_6 : decode cX7_home 6 = .ok (.aload_n 2, 1) := by decide +kernel
theorem dX7_home_7 : decode cX7_home 7 = .ok (.ifnonnull 6, 3) := by decide +kernel
theorem dX7_home_10 : decode cX7_home 10 = .ok (.ldc 70, 2) := by decide +kernel
theorem dX7_home_12 : decode cX7_home 12 = .ok (.ireturn, 1) := by decide +kernel
theorem dX7_home_13 : decode cX7_home 13 = .ok (.aload_n 2, 1) := by decide +kernel
theorem dX7_home_14 : decode cX7_home 14 = .ok (.invokevirtual 82, 3) := by decide +kernel
theorem dX7_home_17 : decode cX7_home 17 = .ok (.istore_n 3, 1) := by decide +kernel
theorem dX7_home_18 : decode cX7_home 18 = .ok (.iload_n 3, 1) := by decide +kernel
theorem dX7_home_19 : decode cX7_home 19 = .ok (.ifCond .le 13, 3) := by decide +kernel
theorem dX7_home_22 : decode cX7_home 22 = .ok (.aload_n 0, 1) := by decide +kernel
theorem dX7_home_23 : decode cX7_home 23 = .ok (.getfield 51, 3) := by decide +kernel
theorem dX7_home_26 : decode cX7_home 26 = .ok (.getfield 185, 3) := by decide +kernel
theorem dX7_home_29 : decode cX7_home 29 = .ok (.ifCond .ne 6, 3) := by decide +kernel
theorem dX7_home_32 : decode cX7_home 32 = .ok (.ldc 146, 2) := by decide +kernel
theorem dX7_home_34 : decode cX7_home 34 = .ok (.ireturn, 1) := by decide +kernel
theorem dX7_home_35 : decode cX7_home 35 = .ok (.aload_n 0, 1) := by decide +kernel
theorem dX7_home_36 : decode cX7_home 36 = .ok (.getfield 51, 3) := by decide +kernel
theorem dX7_home_39 : decode cX7_home 39 = .ok (.invokevirtual 192, 3) := by decide +kernel
theorem dX7_home_42 : decode cX7_home 42 = .ok (.ineg, 1) := by decide +kernel
theorem dX7_home_43 : decode cX7_home 43 = .ok (.iload_n 3, 1) := by decide +kernel
theorem dX7_home_44 : decode cX7_home 44 = .ok (.invokestatic 195, 3) := by decide +kernel
theorem dX7_home_47 : decode cX7_home 47 = .ok (.ireturn, 1) := by decide +kernel
theorem dX7_sheet_0 : decode cX7_sheet 0 = .ok (.aload_n 0, 1) := by decide +kernel
theorem dX7_sheet_1 : decode cX7_sheet 1 = .ok (.iload_n 1, 1) := by decide +kernel
theorem dX7_sheet_2 : decode cX7_sheet 2 = .ok (.invokevirtual 155, 3) := by decide +kernel
theorem dX7_sheet_5 : decode cX7_sheet 5 = .ok (.astore_n 3, 1) := by decide +kernel
theorem dX7_sheet_6 : decode cX7_sheet 6 = .ok (.aload_n 3, 1) := by decide +kernel
theorem dX7_sheet_7 : decode cX7_sheet 7 = .ok (.ifnull 9, 3) := by decide +kernel
theorem dX7_sheet_10 : decode cX7_sheet 10 = .ok (.iload_n 2, 1) := by decide +kernel
theorem dX7_sheet_11 : decode cX7_sheet 11 = .ok (.bipush 60, 2) := by decide +kernel
theorem dX7_sheet_13 : decode cX7_sheet 13 = .ok (.if_icmp .le 6, 3) := by decide +kernel
theorem dX7_sheet_16 : decode cX7_sheet 16 = .ok (.ldc 70, 2) := by decide +kernel
theorem dX7_sheet_18 : decode cX7_sheet 18 = .ok (.ireturn, 1) := by decide +kernel
theorem dX7_sheet_19 : decode cX7_sheet 19 = .ok (.iload_n 2, 1) := by decide +kernel
theorem dX7_sheet_20 : decode cX7_sheet 20 = .ok (.ifCond .ge 6, 3) := by decide +kernel
theorem dX7_sheet_23 : decode cX7_sheet 23 = .ok (.ldc 198, 2) := by decide +kernel
theorem dX7_sheet_25 : decode cX7_sheet 25 = .ok (.ireturn, 1) := by decide +kernel
theorem dX7_sheet_26 : decode cX7_sheet 26 = .ok (.aload_n 3, 1) := by decide +kernel
theorem dX7_sheet_27 : decode cX7_sheet 27 = .ok (.iload_n 2, 1) := by decide +kernel
theorem dX7_sheet_28 : decode cX7_sheet 28 = .ok (.invokevirtual 199, 3) := by decide +kernel
theorem dX7_sheet_31 : decode cX7_sheet 31 = .ok (.iload_n 2, 1) := by decide +kernel
theorem dX7_sheet_32 : decode cX7_sheet 32 = .ok (.ireturn, 1) := by decide +kernel
