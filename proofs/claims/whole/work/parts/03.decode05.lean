theorem dX8_doesLand_0 : decode cX8_doesLand 0 = .ok (.lload_n 2, 1) := by decide +kernel
theorem dX8_doesLand_1 : decode cX8_doesLand 1 = .ok (.aload_n 0, 1) := by decide +kernel
theorem dX8_doesLand_2 : decode cX8_doesLand 2 = .ok (.iload_n 1, 1) := by decide +kernel
theorem dX8_doesLand_3 : decode cX8_doesLand 3 = .ok (.invokevirtual 73, 3) := by decide +kernel
theorem dX8_doesLand_6 : decode cX8_doesLand 6 = .ok (.i2l, 1) := by decide +kernel
theorem dX8_doesLand_7 : decode cX8_doesLand 7 = .ok (.lrem, 1) := by decide +kernel
theorem dX8_doesLand_8 : decode cX8_doesLand 8 = .ok (.lconst 0, 1) := by decide +kernel
theorem dX8_doesLand_9 : decode cX8_doesLand 9 = .ok (.lcmp, 1) := by decide +kernel
theorem dX8_doesLand_10 : decode cX8_doesLand 10 = .ok (.ifCond .ne 7, 3) := by decide +kernel
theorem dX8_doesLand_13 : decode cX8_doesLand 13 = .ok (.iconst 1, 1) := by decide +kernel
theorem dX8_doesLand_14 : decode cX8_doesLand 14 = .ok (.goto 4, 3) := by decide +kernel
theorem dX8_doesLand_17 : decode cX8_doesLand 17 = .ok (.iconst 0, 1) := by decide +kernel
theorem dX8_doesLand_18 : decode cX8_doesLand 18 = .ok (.ireturn, 1) := by decide +kernel
theorem dX8_lands_0 : decode cX8_lands 0 = .ok (.aload_n 0, 1) := by decide +kernel
theorem dX8_lands_1 : decode cX8_lands 1 = .ok (.iload_n 1, 1) := by decide +kernel
theorem dX8_lands_2 : decode cX8_lands 2 = .ok (.iload_n 2, 1) := by decide +kernel
theorem dX8_lands_3 : decode cX8_lands 3 = .ok (.iload_n 3, 1) := by decide +kernel
theorem dX8_lands_4 : decode cX8_lands 4 = .ok (.invokevirtual 121, 3) := by decide +kernel
theorem dX8_lands_7 : decode cX8_lands 7 = .ok (.istore 6, 2) := by decide +kernel
theorem dX8_lands_9 : decode cX8_lands 9 = .ok (.iload 6, 2) := by decide +kernel
theorem dX8_lands_11 : decode cX8_lands 11 = .ok (.ldc 71, 2) := by decide +kernel
theorem dX8_lands_13 : decode cX8_lands 13 = .ok (.if_icmp .eq 19, 3) := by decide +kernel
theorem dX8_lands_16 : decode cX8_lands 16 = .ok (.iload 4, 2) := by decide +kernel
theorem dX8_lands_18 : decode cX8_lands 18 = .ok (.ifCond .lt 14, 3) := by decide +kernel
theorem dX8_lands_21 : decode cX8_lands 21 = .ok (.iload 5, 2) := by decide +kernel
theorem dX8_lands_23 : decode cX8_lands 23 = .ok (.iconst 0, 1) := by decide +kernel
theorem dX8_lands_24 : decode cX8_lands 24 = .ok (.bipush 96, 2) := by decide +kernel
theorem dX8_lands_26 : decode cX8_lands 26 = .ok (.invokestatic 63, 3) := by decide +kernel
theorem dX8_lands_29 : decode cX8_lands 29 = .ok (.ifCond .ne 6, 3) := by decide +kernel
theorem dX8_lands_32 : decode cX8_lands 32 = .ok (.ldc 71, 2) := by decide +kernel
theorem dX8_lands_34 : decode cX8_lands 34 = .ok (.ireturn, 1) := by decide +kernel
theorem dX8_lands_35 : decode cX8_lands 35 = .ok (.iload 6, 2) := by decide +kernel
theorem dX8_lands_37 : decode cX8_lands 37 = .ok (.ldc 77, 2) := by decide +kernel
theorem dX8_lands_39 : decode cX8_lands 39 = .ok (.if_icmp .ne 6, 3) := by decide +kernel
theorem dX8_lands_42 : decode cX8_lands 42 = .ok (.ldc 77, 2) := by decide +kernel
theorem dX8_lands_44 : decode cX8_lands 44 = .ok (.ireturn, 1) := by decide +kernel
theorem dX8_lands_45 : decode cX8_lands 45 = .ok (.aload_n 0, 1) := by decide +kernel
theorem dX8_lands_46 : decode cX8_lands 46 = .ok (.iload_n 1, 1) := by decide +kernel
theorem dX8_lands_47 : decode cX8_lands 47 = .ok (.iload 4, 2) := by decide +kernel
theorem dX8_lands_49 : decode cX8_lands 49 = .ok (.i2l, 1) := by decide +kernel
theorem dX8_lands_50 : decode cX8_lands 50 = .ok (.aload_n 0, 1) := by decide +kernel
theorem dX8_lands_51 : decode cX8_lands 51 = .ok (.iload_n 2, 1) := by decide +kernel
theorem dX8_lands_52 : decode cX8_lands 52 = .ok (.iload_n 3, 1) := by decide +kernel
theorem dX8_lands_53 : decode cX8_lands 53 = .ok (.iload 5, 2) := by decide +kernel
theorem dX8_lands_55 : decode cX8_lands 55 = .ok (.invokevirtual 125, 3) := by decide +kernel
theorem dX8_lands_58 : decode cX8_lands 58 = .ok (.ladd, 1) := by decide +kernel
theorem dX8_lands_59 : decode cX8_lands 59 = .ok (.invokevirtual 129, 3) := by decide +kernel
theorem dX8_lands_62 : decode cX8_lands 62 = .ok (.ifCond .eq 7, 3) := by decide +kernel
theorem dX8_lands_65 : decode cX8_lands 65 = .ok (.iconst 1, 1) := by decide +kernel
theorem dX8_lands_66 : decode cX8_lands 66 = .ok (.goto 4, 3) := by decide +kernel
theorem dX8_lands_69 : decode cX8_lands 69 = .ok (.iconst 0, 1) := by decide +kernel
theorem dX8_lands_70 : decode cX8_lands 70 = .ok (.ireturn, 1) := by decide +kernel
theorem dX8_gaps_0 : decode cX8_gaps 0 = .ok (.aload_n 0, 1) := by decide +kernel
theorem dX8_gaps_1 : decode cX8_gaps 1 = .ok (.iload_n 1, 1) := by decide +kernel
theorem dX8_gaps_2 : decode cX8_gaps 2 = .ok (.iload_n 2, 1) := by decide +kernel
theorem dX8_gaps_3 : decode cX8_gaps 3 = .ok (.iload_n 3, 1) := by decide +kernel
theorem dX8_gaps_4 : decode cX8_gaps 4 = .ok (.invokevirtual 121, 3) := by decide +kernel
theorem dX8_gaps_7 : decode cX8_gaps 7 = .ok (.istore 5, 2) := by decide +kernel
theorem dX8_gaps_9 : decode cX8_gaps 9 = .ok (.iload 5, 2) := by decide +kernel
theorem dX8_gaps_11 : decode cX8_gaps 11 = .ok (.ldc 71, 2) := by decide +kernel
theorem dX8_gaps_13 : decode cX8_gaps 13 = .ok (.if_icmp .eq 8, 3) := by decide +kernel
theorem dX8_gaps_16 : decode cX8_gaps 16 = .ok (.iload 4, 2) := by decide +kernel
theorem dX8_gaps_18 : decode cX8_gaps 18 = .ok (.ifCond .ge 6, 3) := by decide +kernel
theorem dX8_gaps_21 : decode cX8_gaps 21 = .ok (.ldc 71, 2) := by decide +kernel
theorem dX8_gaps_23 : decode cX8_gaps 23 = .ok (.ireturn, 1) := by decide +kernel
theorem dX8_gaps_24 : decode cX8_gaps 24 = .ok (.iload 5, 2) := by decide +kernel
theorem dX8_gaps_26 : decode cX8_gaps 26 = .ok (.ldc 77, 2) := by decide +kernel
theorem dX8_gaps_28 : decode cX8_gaps 28 = .ok (.if_icmp .ne 6, 3) := by decide +kernel
theorem dX8_gaps_31 : decode cX8_gaps 31 = .ok (.ldc 77, 2) := by decide +kernel
theorem dX8_gaps_33 : decode cX8_gaps 33 = .ok (.ireturn, 1) := by decide +kernel
theorem dX8_gaps_34 : decode cX8_gaps 34 = .ok (.iconst 0, 1) := by decide +kernel
theorem dX8_gaps_35 : decode cX8_gaps 35 = .ok (.istore 6, 2) := by decide +kernel
theorem dX8_gaps_37 : decode cX8_gaps 37 = .ok (.iconst 0, 1) := by decide +kernel
theorem dX8_gaps_38 : decode cX8_gaps 38 = .ok (.istore 7, 2) := by decide +kernel
theorem dX8_gaps_40 : decode cX8_gaps 40 = .ok (.iload 7, 2) := by decide +kernel
theorem dX8_gaps_42 : decode cX8_gaps 42 = .ok (.bipush 96, 2) := by decide +kernel
theorem dX8_gaps_44 : decode cX8_gaps 44 = .ok (.if_icmp .gt 45, 3) := by decide +kernel
theorem dX8_gaps_47 : decode cX8_gaps 47 = .ok (.iload 6, 2) := by decide +kernel
theorem dX8_gaps_49 : decode cX8_gaps 49 = .ok (.aload_n 0, 1) := by decide +kernel
theorem dX8_gaps_50 : decode cX8_gaps 50 = .ok (.iload_n 1, 1) := by decide +kernel
theorem dX8_gaps_51 : decode cX8_gaps 51 = .ok (.iload 4, 2) := by decide +kernel
theorem dX8_gaps_53 : decode cX8_gaps 53 = .ok (.i2l, 1) := by decide +kernel
theorem dX8_gaps_54 : decode cX8_gaps 54 = .ok (.aload_n 0, 1) := by decide +kernel
theorem dX8_gaps_55 : decode cX8_gaps 55 = .ok (.iload_n 2, 1) := by decide +kernel
theorem dX8_gaps_56 : decode cX8_gaps 56 = .ok (.iload_n 3, 1) := by decide +kernel
theorem dX8_gaps_57 : decode cX8_gaps 57 = .ok (.iload 7, 2) := by decide +kernel
theorem dX8_gaps_59 : decode cX8_gaps 59 = .ok (.invokevirtual 125, 3) := by decide +kernel
theorem dX8_gaps_62 : decode cX8_gaps 62 = .ok (.ladd, 1) := by decide +kernel
theorem dX8_gaps_63 : decode cX8_gaps 63 = .ok (.invokevirtual 129, 3) := by decide +kernel
theorem dX8_gaps_66 : decode cX8_gaps 66 = .ok (.ifCond .eq 7, 3) := by decide +kernel
theorem dX8_gaps_69 : decode cX8_gaps 69 = .ok (.iconst 1, 1) := by decide +kernel
theorem dX8_gaps_70 : decode cX8_gaps 70 = .ok (.goto 4, 3) := by decide +kernel
theorem dX8_gaps_73 : decode cX8_gaps 73 = .ok (.iconst 0, 1) := by decide +kernel
theorem dX8_gaps_74 : decode cX8_gaps 74 = .ok (.iadd, 1) := by decide +kernel
theorem dX8_gaps_75 : decode cX8_gaps 75 = .ok (.istore 6, 2) := by decide +kernel
theorem dX8_gaps_77 : decode cX8_gaps 77 = .ok (.iload 7, 2) := by decide +kernel
theorem dX8_gaps_79 : decode cX8_gaps 79 = .ok (.aload_n 0, 1) := by decide +kernel
theorem dX8_gaps_80 : decode cX8_gaps 80 = .ok (.getfield 28, 3) := by decide +kernel
theorem dX8_gaps_83 : decode cX8_gaps 83 = .ok (.iadd, 1) := by decide +kernel
theorem dX8_gaps_84 : decode cX8_gaps 84 = .ok (.istore 7, 2) := by decide +kernel
theorem dX8_gaps_86 : decode cX8_gaps 86 = .ok (.goto (-46), 3) := by decide +kernel
theorem dX8_gaps_89 : decode cX8_gaps 89 = .ok (.iload 6, 2) := by decide +kernel
theorem dX8_gaps_91 : decode cX8_gaps 91 = .ok (.ireturn, 1) := by decide +kernel
theorem dX8_gap_0 : decode cX8_gap 0 = .ok (.aload_n 0, 1) := by decide +kernel
theorem dX8_gap_1 : decode cX8_gap 1 = .ok (.iload_n 1, 1) := by decide +kernel
theorem dX8_gap_2 : decode cX8_gap 2 = .ok (.iload_n 2, 1) := by decide +kernel
theorem dX8_gap_3 : decode cX8_gap 3 = .ok (.iload_n 3, 1) := by decide +kernel
theorem dX8_gap_4 : decode cX8_gap 4 = .ok (.invokevirtual 121, 3) := by decide +kernel
theorem dX8_gap_7 : decode cX8_gap 7 = .ok (.istore 6, 2) := by decide +kernel
theorem dX8_gap_9 : decode cX8_gap 9 = .ok (.iload 6, 2) := by decide +kernel
theorem dX8_gap_11 : decode cX8_gap 11 = .ok (.ldc 71, 2) := by decide +kernel
theorem dX8_gap_13 : decode cX8_gap 13 = .ok (.if_icmp .eq 13, 3) := by decide +kernel
theorem dX8_gap_16 : decode cX8_gap 16 = .ok (.iload 4, 2) := by decide +kernel
theorem dX8_gap_18 : decode cX8_gap 18 = .ok (.ifCond .lt 8, 3) := by decide +kernel
theorem dX8_gap_21 : decode cX8_gap 21 = .ok (.iload 5, 2) := by decide +kernel
theorem dX8_gap_23 : decode cX8_gap 23 = .ok (.ifCond .ge 6, 3) := by decide +kernel
theorem dX8_gap_26 : decode cX8_gap 26 = .ok (.ldc 71, 2) := by decide +kernel
theorem dX8_gap_28 : decode cX8_gap 28 = .ok (.ireturn, 1) := by decide +kernel
theorem dX8_gap_29 : decode cX8_gap 29 = .ok (.iload 6, 2) := by decide +kernel
theorem dX8_gap_31 : decode cX8_gap 31 = .ok (.ldc 77, 2) := by decide +kernel
theorem dX8_gap_33 : decode cX8_gap 33 = .ok (.if_icmp .ne 6, 3) := by decide +kernel
theorem dX8_gap_36 : decode cX8_gap 36 = .ok (.ldc 77, 2) := by decide +kernel
theorem dX8_gap_38 : decode cX8_gap 38 = .ok (.ireturn, 1) := by decide +kernel
theorem dX8_gap_39 : decode cX8_gap 39 = .ok (.iload 5, 2) := by decide +kernel
theorem dX8_gap_41 : decode cX8_gap 41 = .ok (.istore 7, 2) := by decide +kernel
theorem dX8_gap_43 : decode cX8_gap 43 = .ok (.iconst 0, 1) := by decide +kernel
theorem dX8_gap_44 : decode cX8_gap 44 = .ok (.istore 8, 2) := by decide +kernel
theorem dX8_gap_46 : decode cX8_gap 46 = .ok (.iload 8, 2) := by decide +kernel
theorem dX8_gap_48 : decode cX8_gap 48 = .ok (.bipush 96, 2) := by decide +kernel
theorem dX8_gap_50 : decode cX8_gap 50 = .ok (.if_icmp .gt 46, 3) := by decide +kernel
theorem dX8_gap_53 : decode cX8_gap 53 = .ok (.aload_n 0, 1) := by decide +kernel
theorem dX8_gap_54 : decode cX8_gap 54 = .ok (.iload_n 1, 1) := by decide +kernel
theorem dX8_gap_55 : decode cX8_gap 55 = .ok (.iload 4, 2) := by decide +kernel
theorem dX8_gap_57 : decode cX8_gap 57 = .ok (.i2l, 1) := by decide +kernel
theorem dX8_gap_58 : decode cX8_gap 58 = .ok (.aload_n 0, 1) := by decide +kernel
theorem dX8_gap_59 : decode cX8_gap 59 = .ok (.iload_n 2, 1) := by decide +kernel
theorem dX8_gap_60 : decode cX8_gap 60 = .ok (.iload_n 3, 1) := by decide +kernel
theorem dX8_gap_61 : decode cX8_gap 61 = .ok (.iload 8, 2) := by decide +kernel
theorem dX8_gap_63 : decode cX8_gap 63 = .ok (.invokevirtual 125, 3) := by decide +kernel
theorem dX8_gap_66 : decode cX8_gap 66 = .ok (.ladd, 1) := by decide +kernel
theorem dX8_gap_67 : decode cX8_gap 67 = .ok (.invokevirtual 129, 3) := by decide +kernel
theorem dX8_gap_70 : decode cX8_gap 70 = .ok (.ifCond .eq 14, 3) := by decide +kernel
theorem dX8_gap_73 : decode cX8_gap 73 = .ok (.iload 7, 2) := by decide +kernel
theorem dX8_gap_75 : decode cX8_gap 75 = .ok (.ifCond .ne 6, 3) := by decide +kernel
theorem dX8_gap_78 : decode cX8_gap 78 = .ok (.iload 8, 2) := by decide +kernel
theorem dX8_gap_80 : decode cX8_gap 80 = .ok (.ireturn, 1) := by decide +kernel
theorem dX8_gap_81 : decode cX8_gap 81 = .ok (.iinc 7 (-1), 3) := by decide +kernel
theorem dX8_gap_84 : decode cX8_gap 84 = .ok (.iload 8, 2) := by decide +kernel
theorem dX8_gap_86 : decode cX8_gap 86 = .ok (.aload_n 0, 1) := by decide +kernel
theorem dX8_gap_87 : decode cX8_gap 87 = .ok (.getfield 28, 3) := by decide +kernel
theorem dX8_gap_90 : decode cX8_gap 90 = .ok (.iadd, 1) := by decide +kernel
theorem dX8_gap_91 : decode cX8_gap 91 = .ok (.istore 8, 2) := by decide +kernel
theorem dX8_gap_93 : decode cX8_gap 93 = .ok (.goto (-47), 3) := by decide +kernel
theorem dX8_gap_96 : decode cX8_gap 96 = .ok (.ldc 106, 2) := by decide +kernel
theorem dX8_gap_98 : decode cX8_gap 98 = .ok (.ireturn, 1) := by decide +kernel
theorem dX8_start_0 : decode cX8_start 0 = .ok (.aload_n 0, 1) := by decide +kernel
theorem dX8_start_1 : decode cX8_start 1 = .ok (.iload_n 1, 1) := by decide +kernel
theorem dX8_start_2 : decode cX8_start 2 = .ok (.iload_n 2, 1) := by decide +kernel
theorem dX8_start_3 : decode cX8_start 3 = .ok (.iload_n 3, 1) := by decide +kernel
theorem dX8_start_4 : decode cX8_start 4 = .ok (.invokevirtual 121, 3) := by decide +kernel
theorem dX8_start_7 : decode cX8_start 7 = .ok (.istore 5, 2) := by decide +kernel
theorem dX8_start_9 : decode cX8_start 9 = .ok (.iload 5, 2) := by decide +kernel
theorem dX8_start_11 : decode cX8_start 11 = .ok (.ldc 71, 2) := by decide +kernel
theorem dX8_start_13 : decode cX8_start 13 = .ok (.if_icmp .eq 14, 3) := by decide +kernel
theorem dX8_start_16 : decode cX8_start 16 = .ok (.iload 4, 2) := by decide +kernel
theorem dX8_start_18 : decode cX8_start 18 = .ok (.iconst 0, 1) := by decide +kernel
theorem dX8_start_19 : decode cX8_start 19 = .ok (.bipush 96, 2) := by decide +kernel
theorem dX8_start_21 : decode cX8_start 21 = .ok (.invokestatic 63, 3) := by decide +kernel
theorem dX8_start_24 : decode cX8_start 24 = .ok (.ifCond .ne 6, 3) := by decide +kernel
theorem dX8_start_27 : decode cX8_start 27 = .ok (.ldc 71, 2) := by decide +kernel
theorem dX8_start_29 : decode cX8_start 29 = .ok (.ireturn, 1) := by decide +kernel
theorem dX8_start_30 : decode cX8_start 30 = .ok (.iload 5, 2) := by decide +kernel
theorem dX8_start_32 : decode cX8_start 32 = .ok (.ldc 77, 2) := by decide +kernel
theorem dX8_start_34 : decode cX8_start 34 = .ok (.if_icmp .ne 6, 3) := by decide +kernel
theorem dX8_start_37 : decode cX8_start 37 = .ok (.ldc 77, 2) := by decide +kernel
theorem dX8_start_39 : decode cX8_start 39 = .ok (.ireturn, 1) := by decide +kernel
theorem dX8_start_40 : decode cX8_start 40 = .ok (.iconst 0, 1) := by decide +kernel
theorem dX8_start_41 : decode cX8_start 41 = .ok (.istore 6, 2) := by decide +kernel
theorem dX8_start_43 : decode cX8_start 43 = .ok (.aload_n 0, 1) := by decide +kernel
theorem dX8_start_44 : decode cX8_start 44 = .ok (.iload_n 1, 1) := by decide +kernel
theorem dX8_start_45 : decode cX8_start 45 = .ok (.iload 6, 2) := by decide +kernel
theorem dX8_start_47 : decode cX8_start 47 = .ok (.i2l, 1) := by decide +kernel
theorem dX8_start_48 : decode cX8_start 48 = .ok (.aload_n 0, 1) := by decide +kernel
theorem dX8_start_49 : decode cX8_start 49 = .ok (.iload_n 2, 1) := by decide +kernel
theorem dX8_start_50 : decode cX8_start 50 = .ok (.iload_n 3, 1) := by decide +kernel
theorem dX8_start_51 : decode cX8_start 51 = .ok (.iload 4, 2) := by decide +kernel
theorem dX8_start_53 : decode cX8_start 53 = .ok (.invokevirtual 125, 3) := by decide +kernel
theorem dX8_start_56 : decode cX8_start 56 = .ok (.ladd, 1) := by decide +kernel
theorem dX8_start_57 : decode cX8_start 57 = .ok (.invokevirtual 129, 3) := by decide +kernel
theorem dX8_start_60 : decode cX8_start 60 = .ok (.ifCond .ne 9, 3) := by decide +kernel
theorem dX8_start_63 : decode cX8_start 63 = .ok (.iinc 6 1, 3) := by decide +kernel
theorem dX8_start_66 : decode cX8_start 66 = .ok (.goto (-23), 3) := by decide +kernel
theorem dX8_start_69 : decode cX8_start 69 = .ok (.iload 6, 2) := by decide +kernel
theorem dX8_start_71 : decode cX8_start 71 = .ok (.ireturn, 1) := by decide +kernel
theorem dX8_doubles_0 : decode cX8_doubles 0 = .ok (.aload_n 0, 1) := by decide +kernel
theorem dX8_doubles_1 : decode cX8_doubles 1 = .ok (.iload_n 1, 1) := by decide +kernel
theorem dX8_doubles_2 : decode cX8_doubles 2 = .ok (.iload_n 2, 1) := by decide +kernel
theorem dX8_doubles_3 : decode cX8_doubles 3 = .ok (.iload_n 3, 1) := by decide +kernel
theorem dX8_doubles_4 : decode cX8_doubles 4 = .ok (.invokevirtual 121, 3) := by decide +kernel
theorem dX8_doubles_7 : decode cX8_doubles 7 = .ok (.istore 5, 2) := by decide +kernel
theorem dX8_doubles_9 : decode cX8_doubles 9 = .ok (.iload 5, 2) := by decide +kernel
theorem dX8_doubles_11 : decode cX8_doubles 11 = .ok (.ldc 71, 2) := by decide +kernel
theorem dX8_doubles_13 : decode cX8_doubles 13 = .ok (.if_icmp .eq 8, 3) := by decide +kernel
theorem dX8_doubles_16 : decode cX8_doubles 16 = .ok (.iload 4, 2) := by decide +kernel
theorem dX8_doubles_18 : decode cX8_doubles 18 = .ok (.ifCond .ge 6, 3) := by decide +kernel
theorem dX8_doubles_21 : decode cX8_doubles 21 = .ok (.ldc 71, 2) := by decide +kernel
theorem dX8_doubles_23 : decode cX8_doubles 23 = .ok (.ireturn, 1) := by decide +kernel
theorem dX8_doubles_24 : decode cX8_doubles 24 = .ok (.iload 5, 2) := by decide +kernel
theorem dX8_doubles_26 : decode cX8_doubles 26 = .ok (.ldc 77, 2) := by decide +kernel
theorem dX8_doubles_28 : decode cX8_doubles 28 = .ok (.if_icmp .ne 6, 3) := by decide +kernel
theorem dX8_doubles_31 : decode cX8_doubles 31 = .ok (.ldc 77, 2) := by decide +kernel
theorem dX8_doubles_33 : decode cX8_doubles 33 = .ok (.ireturn, 1) := by decide +kernel
theorem dX8_doubles_34 : decode cX8_doubles 34 = .ok (.iconst 0, 1) := by decide +kernel
theorem dX8_doubles_35 : decode cX8_doubles 35 = .ok (.istore 6, 2) := by decide +kernel
theorem dX8_doubles_37 : decode cX8_doubles 37 = .ok (.iconst 0, 1) := by decide +kernel
theorem dX8_doubles_38 : decode cX8_doubles 38 = .ok (.istore 7, 2) := by decide +kernel
theorem dX8_doubles_40 : decode cX8_doubles 40 = .ok (.iload 7, 2) := by decide +kernel
theorem dX8_doubles_42 : decode cX8_doubles 42 = .ok (.bipush 96, 2) := by decide +kernel
theorem dX8_doubles_44 : decode cX8_doubles 44 = .ok (.if_icmp .gt 69, 3) := by decide +kernel
theorem dX8_doubles_47 : decode cX8_doubles 47 = .ok (.iconst 0, 1) := by decide +kernel
theorem dX8_doubles_48 : decode cX8_doubles 48 = .ok (.istore 8, 2) := by decide +kernel
theorem dX8_doubles_50 : decode cX8_doubles 50 = .ok (.iload 8, 2) := by decide +kernel
theorem dX8_doubles_52 : decode cX8_doubles 52 = .ok (.bipush 96, 2) := by decide +kernel
theorem dX8_doubles_54 : decode cX8_doubles 54 = .ok (.if_icmp .gt 47, 3) := by decide +kernel
theorem dX8_doubles_57 : decode cX8_doubles 57 = .ok (.iload 6, 2) := by decide +kernel
theorem dX8_doubles_59 : decode cX8_doubles 59 = .ok (.aload_n 0, 1) := by decide +kernel
theorem dX8_doubles_60 : decode cX8_doubles 60 = .ok (.iload_n 1, 1) := by decide +kernel
theorem dX8_doubles_61 : decode cX8_doubles 61 = .ok (.iload 4, 2) := by decide +kernel
theorem dX8_doubles_63 : decode cX8_doubles 63 = .ok (.i2l, 1) := by decide +kernel
theorem dX8_doubles_64 : decode cX8_doubles 64 = .ok (.aload_n 0, 1) := by decide +kernel
theorem dX8_doubles_65 : decode cX8_doubles 65 = .ok (.iload_n 2, 1) := by decide +kernel
theorem dX8_doubles_66 : decode cX8_doubles 66 = .ok (.iload_n 3, 1) := by decide +kernel
theorem dX8_doubles_67 : decode cX8_doubles 67 = .ok (.iload 7, 2) := by decide +kernel
theorem dX8_doubles_69 : decode cX8_doubles 69 = .ok (.iload 8, 2) := by decide +kernel
theorem dX8_doubles_71 : decode cX8_doubles 71 = .ok (.invokevirtual 133, 3) := by decide +kernel
theorem dX8_doubles_74 : decode cX8_doubles 74 = .ok (.ladd, 1) := by decide +kernel
theorem dX8_doubles_75 : decode cX8_doubles 75 = .ok (.invokevirtual 129, 3) := by decide +kernel
theorem dX8_doubles_78 : decode cX8_doubles 78 = .ok (.ifCond .eq 7, 3) := by decide +kernel
theorem dX8_doubles_81 : decode cX8_doubles 81 = .ok (.iconst 1, 1) := by decide +kernel
theorem dX8_doubles_82 : decode cX8_doubles 82 = .ok (.goto 4, 3) := by decide +kernel
theorem dX8_doubles_85 : decode cX8_doubles 85 = .ok (.iconst 0, 1) := by decide +kernel
theorem dX8_doubles_86 : decode cX8_doubles 86 = .ok (.iadd, 1) := by decide +kernel
theorem dX8_doubles_87 : decode cX8_doubles 87 = .ok (.istore 6, 2) := by decide +kernel
theorem dX8_doubles_89 : decode cX8_doubles 89 = .ok (.iload 8, 2) := by decide +kernel
theorem dX8_doubles_91 : decode cX8_doubles 91 = .ok (.aload_n 0, 1) := by decide +kernel
theorem dX8_doubles_92 : decode cX8_doubles 92 = .ok (.getfield 28, 3) := by decide +kernel
theorem dX8_doubles_95 : decode cX8_doubles 95 = .ok (.iadd, 1) := by decide +kernel
theorem dX8_doubles_96 : decode cX8_doubles 96 = .ok (.istore 8, 2) := by decide +kernel
theorem dX8_doubles_98 : decode cX8_doubles 98 = .ok (.goto (-48), 3) := by decide +kernel
theorem dX8_doubles_101 : decode cX8_doubles 101 = .ok (.iload 7, 2) := by decide +kernel
theorem dX8_doubles_103 : decode cX8_doubles 103 = .ok (.aload_n 0, 1) := by decide +kernel
theorem dX8_doubles_104 : decode cX8_doubles 104 = .ok (.getfield 28, 3) := by decide +kernel
theorem dX8_doubles_107 : decode cX8_doubles 107 = .ok (.iadd, 1) := by decide +kernel
theorem dX8_doubles_108 : decode cX8_doubles 108 = .ok (.istore 7, 2) := by decide +kernel
theorem dX8_doubles_110 : decode cX8_doubles 110 = .ok (.goto (-70), 3) := by decide +kernel
theorem dX8_doubles_113 : decode cX8_doubles 113 = .ok (.iload 6, 2) := by decide +kernel
theorem dX8_doubles_115 : decode cX8_doubles 115 = .ok (.ireturn, 1) := by decide +kernel
theorem dX8_least_0 : decode cX8_least 0 = .ok (.aload_n 0, 1) := by decide +kernel
theorem dX8_least_1 : decode cX8_least 1 = .ok (.iload_n 1, 1) := by decide +kernel
theorem dX8_least_2 : decode cX8_least 2 = .ok (.iload_n 2, 1) := by decide +kernel
theorem dX8_least_3 : decode cX8_least 3 = .ok (.iload_n 3, 1) := by decide +kernel
theorem dX8_least_4 : decode cX8_least 4 = .ok (.invokevirtual 121, 3) := by decide +kernel
theorem dX8_least_7 : decode cX8_least 7 = .ok (.istore 5, 2) := by decide +kernel
theorem dX8_least_9 : decode cX8_least 9 = .ok (.iload 5, 2) := by decide +kernel
theorem dX8_least_11 : decode cX8_least 11 = .ok (.ldc 71, 2) := by decide +kernel
theorem dX8_least_13 : decode cX8_least 13 = .ok (.if_icmp .eq 8, 3) := by decide +kernel
theorem dX8_least_16 : decode cX8_least 16 = .ok (.iload 4, 2) := by decide +kernel
theorem dX8_least_18 : decode cX8_least 18 = .ok (.ifCond .ge 6, 3) := by decide +kernel
theorem dX8_least_21 : decode cX8_least 21 = .ok (.ldc 71, 2) := by decide +kernel
theorem dX8_least_23 : decode cX8_least 23 = .ok (.ireturn, 1) := by decide +kernel
theorem dX8_least_24 : decode cX8_least 24 = .ok (.iload 5, 2) := by decide +kernel
theorem dX8_least_26 : decode cX8_least 26 = .ok (.ldc 77, 2) := by decide +kernel
theorem dX8_least_28 : decode cX8_least 28 = .ok (.if_icmp .ne 6, 3) := by decide +kernel
theorem dX8_least_31 : decode cX8_least 31 = .ok (.ldc 77, 2) := by decide +kernel
theorem dX8_least_33 : decode cX8_least 33 = .ok (.ireturn, 1) := by decide +kernel
theorem dX8_least_34 : decode cX8_least 34 = .ok (.ldc 106, 2) := by decide +kernel
theorem dX8_least_36 : decode cX8_least 36 = .ok (.istore 6, 2) := by decide +kernel
theorem dX8_least_38 : decode cX8_least 38 = .ok (.iconst 0, 1) := by decide +kernel
theorem dX8_least_39 : decode cX8_least 39 = .ok (.istore 7, 2) := by decide +kernel
theorem dX8_least_41 : decode cX8_least 41 = .ok (.iconst 0, 1) := by decide +kernel
theorem dX8_least_42 : decode cX8_least 42 = .ok (.istore 8, 2) := by decide +kernel
theorem dX8_least_44 : decode cX8_least 44 = .ok (.iload 8, 2) := by decide +kernel
theorem dX8_least_46 : decode cX8_least 46 = .ok (.bipush 96, 2) := by decide +kernel
theorem dX8_least_48 : decode cX8_least 48 = .ok (.if_icmp .gt 94, 3) := by decide +kernel
theorem dX8_least_51 : decode cX8_least 51 = .ok (.iconst 0, 1) := by decide +kernel
theorem dX8_least_52 : decode cX8_least 52 = .ok (.istore 9, 2) := by decide +kernel
theorem dX8_least_54 : decode cX8_least 54 = .ok (.iload 9, 2) := by decide +kernel
theorem dX8_least_56 : decode cX8_least 56 = .ok (.bipush 96, 2) := by decide +kernel
theorem dX8_least_58 : decode cX8_least 58 = .ok (.if_icmp .gt 72, 3) := by decide +kernel
theorem dX8_least_61 : decode cX8_least 61 = .ok (.aload_n 0, 1) := by decide +kernel
theorem dX8_least_62 : decode cX8_least 62 = .ok (.iload_n 1, 1) := by decide +kernel
theorem dX8_least_63 : decode cX8_least 63 = .ok (.iload 4, 2) := by decide +kernel
theorem dX8_least_65 : decode cX8_least 65 = .ok (.i2l, 1) := by decide +kernel
theorem dX8_least_66 : decode cX8_least 66 = .ok (.aload_n 0, 1) := by decide +kernel
theorem dX8_least_67 : decode cX8_least 67 = .ok (.iload_n 2, 1) := by decide +kernel
theorem dX8_least_68 : decode cX8_least 68 = .ok (.iload_n 3, 1) := by decide +kernel
theorem dX8_least_69 : decode cX8_least 69 = .ok (.iload 8, 2) := by decide +kernel
theorem dX8_least_71 : decode cX8_least 71 = .ok (.iload 9, 2) := by decide +kernel
theorem dX8_least_73 : decode cX8_least 73 = .ok (.invokevirtual 133, 3) := by decide +kernel
theorem dX8_least_76 : decode cX8_least 76 = .ok (.ladd, 1) := by decide +kernel
theorem dX8_least_77 : decode cX8_least 77 = .ok (.invokevirtual 129, 3) := by decide +kernel
theorem dX8_least_80 : decode cX8_least 80 = .ok (.ifCond .eq 38, 3) := by decide +kernel
theorem dX8_least_83 : decode cX8_least 83 = .ok (.iload 6, 2) := by decide +kernel
theorem dX8_least_85 : decode cX8_least 85 = .ok (.ldc 106, 2) := by decide +kernel
theorem dX8_least_87 : decode cX8_least 87 = .ok (.if_icmp .eq 13, 3) := by decide +kernel
theorem dX8_least_90 : decode cX8_least 90 = .ok (.iload 8, 2) := by decide +kernel
theorem dX8_least_92 : decode cX8_least 92 = .ok (.iload 9, 2) := by decide +kernel
theorem dX8_least_94 : decode cX8_least 94 = .ok (.iadd, 1) := by decide +kernel
theorem dX8_least_95 : decode cX8_least 95 = .ok (.iload 7, 2) := by decide +kernel
theorem dX8_least_97 : decode cX8_least 97 = .ok (.if_icmp .ge 21, 3) := by decide +kernel
theorem dX8_least_100 : decode cX8_least 100 = .ok (.sipush 1000, 3) := by decide +kernel
theorem dX8_least_103 : decode cX8_least 103 = .ok (.iload 8, 2) := by decide +kernel
theorem dX8_least_105 : decode cX8_least 105 = .ok (.imul, 1) := by decide +kernel
theorem dX8_least_106 : decode cX8_least 106 = .ok (.iload 9, 2) := by decide +kernel
theorem dX8_least_108 : decode cX8_least 108 = .ok (.iadd, 1) := by decide +kernel
theorem dX8_least_109 : decode cX8_least 109 = .ok (.istore 6, 2) := by decide +kernel
theorem dX8_least_111 : decode cX8_least 111 = .ok (.iload 8, 2) := by decide +kernel
theorem dX8_least_113 : decode cX8_least 113 = .ok (.iload 9, 2) := by decide +kernel
theorem dX8_least_115 : decode cX8_least 115 = .ok (.iadd, 1) := by decide +kernel
theorem dX8_least_116 : decode cX8_least 116 = .ok (.istore 7, 2) := by decide +kernel
theorem dX8_least_118 : decode cX8_least 118 = .ok (.iload 9, 2) := by decide +kernel
theorem dX8_least_120 : decode cX8_least 120 = .ok (.aload_n 0, 1) := by decide +kernel
theorem dX8_least_121 : decode cX8_least 121 = .ok (.getfield 28, 3) := by decide +kernel
theorem dX8_least_124 : decode cX8_least 124 = .ok (.iadd, 1) := by decide +kernel
theorem dX8_least_125 : decode cX8_least 125 = .ok (.istore 9, 2) := by decide +kernel
theorem dX8_least_127 : decode cX8_least 127 = .ok (.goto (-73), 3) := by decide +kernel
theorem dX8_least_130 : decode cX8_least 130 = .ok (.iload 8, 2) := by decide +kernel
theorem dX8_least_132 : decode cX8_least 132 = .ok (.aload_n 0, 1) := by decide +kernel
theorem dX8_least_133 : decode cX8_least 133 = .ok (.getfield 28, 3) := by decide +kernel
theorem dX8_least_136 : decode cX8_least 136 = .ok (.iadd, 1) := by decide +kernel
theorem dX8_least_137 : decode cX8_least 137 = .ok (.istore 8, 2) := by decide +kernel
theorem dX8_least_139 : decode cX8_least 139 = .ok (.goto (-95), 3) := by decide +kernel
theorem dX8_least_142 : decode cX8_least 142 = .ok (.iload 6, 2) := by decide +kernel
theorem dX8_least_144 : decode cX8_least 144 = .ok (.ireturn, 1) := by decide +kernel
theorem dX8_grid_0 : decode cX8_grid 0 = .ok (.iload_n 1, 1) := by decide +kernel
theorem dX8_grid_1 : decode cX8_grid 1 = .ok (.iconst 1, 1) := by decide +kernel
theorem dX8_grid_2 : decode cX8_grid 2 = .ok (.bipush 24, 2) := by decide +kernel
theorem dX8_grid_4 : decode cX8_grid 4 = .ok (.invokestatic 63, 3) := by decide +kernel
theorem dX8_grid_7 : decode cX8_grid 7 = .ok (.ifCond .ne 6, 3) := by decide +kernel
theorem dX8_grid_10 : decode cX8_grid 10 = .ok (.ldc 71, 2) := by decide +kernel
theorem dX8_grid_12 : decode cX8_grid 12 = .ok (.ireturn, 1) := by decide +kernel
theorem dX8_grid_13 : decode cX8_grid 13 = .ok (.aload_n 0, 1) := by decide +kernel
theorem dX8_grid_14 : decode cX8_grid 14 = .ok (.getfield 28, 3) := by decide +kernel
theorem dX8_grid_17 : decode cX8_grid 17 = .ok (.istore_n 2, 1) := by decide +kernel
theorem dX8_grid_18 : decode cX8_grid 18 = .ok (.aload_n 0, 1) := by decide +kernel
theorem dX8_grid_19 : decode cX8_grid 19 = .ok (.iload_n 1, 1) := by decide +kernel
theorem dX8_grid_20 : decode cX8_grid 20 = .ok (.putfield 28, 3) := by decide +kernel
theorem dX8_grid_23 : decode cX8_grid 23 = .ok (.iload_n 2, 1) := by decide +kernel
theorem dX8_grid_24 : decode cX8_grid 24 = .ok (.ireturn, 1) := by decide +kernel
theorem dX8_rows_0 : decode cX8_rows 0 = .ok (.aload_n 0, 1) := by decide +kernel
theorem dX8_rows_1 : decode cX8_rows 1 = .ok (.getfield 19, 3) := by decide +kernel
theorem dX8_rows_4 : decode cX8_rows 4 = .ok (.iload_n 1, 1) := by decide +kernel
theorem dX8_rows_5 : decode cX8_rows 5 = .ok (.iaload, 1) := by decide +kernel
theorem dX8_rows_6 : decode cX8_rows 6 = .ok (.iload_n 2, 1) := by decide +kernel
theorem dX8_rows_7 : decode cX8_rows 7 = .ok (.iadd, 1) := by decide +kernel
theorem dX8_rows_8 : decode cX8_rows 8 = .ok (.iconst 1, 1) := by decide +kernel
theorem dX8_rows_9 : decode cX8_rows 9 = .ok (.isub, 1) := by decide +kernel
theorem dX8_rows_10 : decode cX8_rows 10 = .ok (.iload_n 2, 1) := by decide +kernel
theorem dX8_rows_11 : decode cX8_rows 11 = .ok (.idiv, 1) := by decide +kernel
theorem dX8_rows_12 : decode cX8_rows 12 = .ok (.ireturn, 1) := by decide +kernel
theorem dX8_rowOf_0 : decode cX8_rowOf 0 = .ok (.aload_n 0, 1) := by decide +kernel
theorem dX8_rowOf_1 : decode cX8_rowOf 1 = .ok (.iload_n 1, 1) := by decide +kernel
theorem dX8_rowOf_2 : decode cX8_rowOf 2 = .ok (.iload_n 2, 1) := by decide +kernel
theorem dX8_rowOf_3 : decode cX8_rowOf 3 = .ok (.invokevirtual 137, 3) := by decide +kernel
theorem dX8_rowOf_6 : decode cX8_rowOf 6 = .ok (.istore 5, 2) := by decide +kernel
theorem dX8_rowOf_8 : decode cX8_rowOf 8 = .ok (.iload_n 3, 1) := by decide +kernel
theorem dX8_rowOf_9 : decode cX8_rowOf 9 = .ok (.ifCond .ne 8, 3) := by decide +kernel
theorem dX8_rowOf_12 : decode cX8_rowOf 12 = .ok (.iload 4, 2) := by decide +kernel
theorem dX8_rowOf_14 : decode cX8_rowOf 14 = .ok (.goto 39, 3) := by decide +kernel
theorem dX8_rowOf_17 : decode cX8_rowOf 17 = .ok (.iload_n 3, 1) := by decide +kernel
theorem dX8_rowOf_18 : decode cX8_rowOf 18 = .ok (.iconst 1, 1) := by decide +kernel
theorem dX8_rowOf_19 : decode cX8_rowOf 19 = .ok (.if_icmp .ne 13, 3) := by decide +kernel
theorem dX8_rowOf_22 : decode cX8_rowOf 22 = .ok (.iload 5, 2) := by decide +kernel
theorem dX8_rowOf_24 : decode cX8_rowOf 24 = .ok (.iconst 1, 1) := by decide +kernel
theorem dX8_rowOf_25 : decode cX8_rowOf 25 = .ok (.isub, 1) := by decide +kernel
theorem dX8_rowOf_26 : decode cX8_rowOf 26 = .ok (.iload 4, 2) := by decide +kernel
theorem dX8_rowOf_28 : decode cX8_rowOf 28 = .ok (.isub, 1) := by decide +kernel
theorem dX8_rowOf_29 : decode cX8_rowOf 29 = .ok (.goto 24, 3) := by decide +kernel
theorem dX8_rowOf_32 : decode cX8_rowOf 32 = .ok (.iload 4, 2) := by decide +kernel
theorem dX8_rowOf_34 : decode cX8_rowOf 34 = .ok (.iload 5, 2) := by decide +kernel
theorem dX8_rowOf_36 : decode cX8_rowOf 36 = .ok (.if_icmp .ge 8, 3) := by decide +kernel
theorem dX8_rowOf_39 : decode cX8_rowOf 39 = .ok (.iload 4, 2) := by decide +kernel
theorem dX8_rowOf_41 : decode cX8_rowOf 41 = .ok (.goto 12, 3) := by decide +kernel
theorem dX8_rowOf_44 : decode cX8_rowOf 44 = .ok (.iconst 2, 1) := by decide +kernel
theorem dX8_rowOf_45 : decode cX8_rowOf 45 = .ok (.iload 5, 2) := by decide +kernel
theorem dX8_rowOf_47 : decode cX8_rowOf 47 = .ok (.imul, 1) := by decide +kernel
theorem dX8_rowOf_48 : decode cX8_rowOf 48 = .ok (.iconst 2, 1) := by decide +kernel
theorem dX8_rowOf_49 : decode cX8_rowOf 49 = .ok (.isub, 1) := by decide +kernel
theorem dX8_rowOf_50 : decode cX8_rowOf 50 = .ok (.iload 4, 2) := by decide +kernel
theorem dX8_rowOf_52 : decode cX8_rowOf 52 = .ok (.isub, 1) := by decide +kernel
theorem dX8_rowOf_53 : decode cX8_rowOf 53 = .ok (.ireturn, 1) := by decide +kernel
theorem dX8_rowsOf_0 : decode cX8_rowsOf 0 = .ok (.aload_n 0, 1) := by decide +kernel
theorem dX8_rowsOf_1 : decode cX8_rowsOf 1 = .ok (.iload_n 1, 1) := by decide +kernel
theorem dX8_rowsOf_2 : decode cX8_rowsOf 2 = .ok (.iload_n 2, 1) := by decide +kernel
theorem dX8_rowsOf_3 : decode cX8_rowsOf 3 = .ok (.invokevirtual 137, 3) := by decide +kernel
theorem dX8_rowsOf_6 : decode cX8_rowsOf 6 = .ok (.istore 4, 2) := by decide +kernel
theorem dX8_rowsOf_8 : decode cX8_rowsOf 8 = .ok (.iload_n 3, 1) := by decide +kernel
theorem dX8_rowsOf_9 : decode cX8_rowsOf 9 = .ok (.iconst 2, 1) := by decide +kernel
theorem dX8_rowsOf_10 : decode cX8_rowsOf 10 = .ok (.if_icmp .ne 12, 3) := by decide +kernel
theorem dX8_rowsOf_13 : decode cX8_rowsOf 13 = .ok (.iconst 2, 1) := by decide +kernel
theorem dX8_rowsOf_14 : decode cX8_rowsOf 14 = .ok (.iload 4, 2) := by decide +kernel
theorem dX8_rowsOf_16 : decode cX8_rowsOf 16 = .ok (.imul, 1) := by decide +kernel
theorem dX8_rowsOf_17 : decode cX8_rowsOf 17 = .ok (.iconst 1, 1) := by decide +kernel
theorem dX8_rowsOf_18 : decode cX8_rowsOf 18 = .ok (.isub, 1) := by decide +kernel
theorem dX8_rowsOf_19 : decode cX8_rowsOf 19 = .ok (.goto 5, 3) := by decide +kernel
theorem dX8_rowsOf_22 : decode cX8_rowsOf 22 = .ok (.iload 4, 2) := by decide +kernel
theorem dX8_rowsOf_24 : decode cX8_rowsOf 24 = .ok (.ireturn, 1) := by decide +kernel
theorem dX8_isShape_0 : decode cX8_isShape 0 = .ok (.iload_n 0, 1) := by decide +kernel
theorem dX8_isShape_1 : decode cX8_isShape 1 = .ok (.invokestatic 103, 3) := by decide +kernel
theorem dX8_isShape_4 : decode cX8_isShape 4 = .ok (.ifCond .eq 26, 3) := by decide +kernel
theorem dX8_isShape_7 : decode cX8_isShape 7 = .ok (.iload_n 1, 1) := by decide +kernel
theorem dX8_isShape_8 : decode cX8_isShape 8 = .ok (.iconst 1, 1) := by decide +kernel
theorem dX8_isShape_9 : decode cX8_isShape 9 = .ok (.bipush 9, 2) := by decide +kernel
theorem dX8_isShape_11 : decode cX8_isShape 11 = .ok (.invokestatic 63, 3) := by decide +kernel
theorem dX8_isShape_14 : decode cX8_isShape 14 = .ok (.ifCond .eq 16, 3) := by decide +kernel
theorem dX8_isShape_17 : decode cX8_isShape 17 = .ok (.iload_n 2, 1) := by decide +kernel
theorem dX8_isShape_18 : decode cX8_isShape 18 = .ok (.iconst 0, 1) := by decide +kernel
theorem dX8_isShape_19 : decode cX8_isShape 19 = .ok (.iconst 2, 1) := by decide +kernel
theorem dX8_isShape_20 : decode cX8_isShape 20 = .ok (.invokestatic 63, 3) := by decide +kernel
theorem dX8_isShape_23 : decode cX8_isShape 23 = .ok (.ifCond .eq 7, 3) := by decide +kernel
theorem dX8_isShape_26 : decode cX8_isShape 26 = .ok (.iconst 1, 1) := by decide +kernel
theorem dX8_isShape_27 : decode cX8_isShape 27 = .ok (.goto 4, 3) := by decide +kernel
theorem dX8_isShape_30 : decode cX8_isShape 30 = .ok (.iconst 0, 1) := by decide +kernel
theorem dX8_isShape_31 : decode cX8_isShape 31 = .ok (.ireturn, 1) := by decide +kernel
theorem dX8_shape_0 : decode cX8_shape 0 = .ok (.iload_n 1, 1) := by decide +kernel
theorem dX8_shape_1 : decode cX8_shape 1 = .ok (.iload_n 2, 1) := by decide +kernel
theorem dX8_shape_2 : decode cX8_shape 2 = .ok (.iload_n 3, 1) := by decide +kernel
theorem dX8_shape_3 : decode cX8_shape 3 = .ok (.invokestatic 140, 3) := by decide +kernel
theorem dX8_shape_6 : decode cX8_shape 6 = .ok (.ifCond .ne 6, 3) := by decide +kernel
theorem dX8_shape_9 : decode cX8_shape 9 = .ok (.ldc 71, 2) := by decide +kernel
theorem dX8_shape_11 : decode cX8_shape 11 = .ok (.ireturn, 1) := by decide +kernel
theorem dX8_shape_12 : decode cX8_shape 12 = .ok (.aload_n 0, 1) := by decide +kernel
theorem dX8_shape_13 : decode cX8_shape 13 = .ok (.getfield 19, 3) := by decide +kernel
theorem dX8_shape_16 : decode cX8_shape 16 = .ok (.iload_n 1, 1) := by decide +kernel
theorem dX8_shape_17 : decode cX8_shape 17 = .ok (.iaload, 1) := by decide +kernel
theorem dX8_shape_18 : decode cX8_shape 18 = .ok (.ifCond .ne 6, 3) := by decide +kernel
theorem dX8_shape_21 : decode cX8_shape 21 = .ok (.ldc 77, 2) := by decide +kernel
theorem dX8_shape_23 : decode cX8_shape 23 = .ok (.ireturn, 1) := by decide +kernel
theorem dX8_shape_24 : decode cX8_shape 24 = .ok (.iconst 0, 1) := by decide +kernel
theorem dX8_shape_25 : decode cX8_shape 25 = .ok (.istore 4, 2) := by decide +kernel
theorem dX8_shape_27 : decode cX8_shape 27 = .ok (.iconst 0, 1) := by decide +kernel
theorem dX8_shape_28 : decode cX8_shape 28 = .ok (.istore 5, 2) := by decide +kernel
theorem dX8_shape_30 : decode cX8_shape 30 = .ok (.iload 5, 2) := by decide +kernel
theorem dX8_shape_32 : decode cX8_shape 32 = .ok (.aload_n 0, 1) := by decide +kernel
theorem dX8_shape_33 : decode cX8_shape 33 = .ok (.iload_n 1, 1) := by decide +kernel
theorem dX8_shape_34 : decode cX8_shape 34 = .ok (.iload_n 2, 1) := by decide +kernel
theorem dX8_shape_35 : decode cX8_shape 35 = .ok (.iload_n 3, 1) := by decide +kernel
theorem dX8_shape_36 : decode cX8_shape 36 = .ok (.invokevirtual 143, 3) := by decide +kernel
theorem dX8_shape_39 : decode cX8_shape 39 = .ok (.if_icmp .ge 32, 3) := by decide +kernel
theorem dX8_shape_42 : decode cX8_shape 42 = .ok (.iload 4, 2) := by decide +kernel
theorem dX8_shape_44 : decode cX8_shape 44 = .ok (.aload_n 0, 1) := by decide +kernel
theorem dX8_shape_45 : decode cX8_shape 45 = .ok (.getfield 19, 3) := by decide +kernel
theorem dX8_shape_48 : decode cX8_shape 48 = .ok (.iload_n 1, 1) := by decide +kernel
theorem dX8_shape_49 : decode cX8_shape 49 = .ok (.iaload, 1) := by decide +kernel
theorem dX8_shape_50 : decode cX8_shape 50 = .ok (.iload_n 2, 1) := by decide +kernel
theorem dX8_shape_51 : decode cX8_shape 51 = .ok (.aload_n 0, 1) := by decide +kernel
theorem dX8_shape_52 : decode cX8_shape 52 = .ok (.iload_n 1, 1) := by decide +kernel
theorem dX8_shape_53 : decode cX8_shape 53 = .ok (.iload_n 2, 1) := by decide +kernel
theorem dX8_shape_54 : decode cX8_shape 54 = .ok (.iload_n 3, 1) := by decide +kernel
theorem dX8_shape_55 : decode cX8_shape 55 = .ok (.iload 5, 2) := by decide +kernel
theorem dX8_shape_57 : decode cX8_shape 57 = .ok (.invokevirtual 146, 3) := by decide +kernel
theorem dX8_shape_60 : decode cX8_shape 60 = .ok (.imul, 1) := by decide +kernel
theorem dX8_shape_61 : decode cX8_shape 61 = .ok (.isub, 1) := by decide +kernel
theorem dX8_shape_62 : decode cX8_shape 62 = .ok (.iadd, 1) := by decide +kernel
theorem dX8_shape_63 : decode cX8_shape 63 = .ok (.istore 4, 2) := by decide +kernel
theorem dX8_shape_65 : decode cX8_shape 65 = .ok (.iinc 5 1, 3) := by decide +kernel
theorem dX8_shape_68 : decode cX8_shape 68 = .ok (.goto (-38), 3) := by decide +kernel
theorem dX8_shape_71 : decode cX8_shape 71 = .ok (.iload 4, 2) := by decide +kernel
theorem dX8_shape_73 : decode cX8_shape 73 = .ok (.ireturn, 1) := by decide +kernel
theorem dX8_shaped_0 : decode cX8_shaped 0 = .ok (.iload_n 1, 1) := by decide +kernel
theorem dX8_shaped_1 : decode cX8_shaped 1 = .ok (.iload_n 2, 1) := by decide +kernel
theorem dX8_shaped_2 : decode cX8_shaped 2 = .ok (.iload_n 3, 1) := by decide +kernel
theorem dX8_shaped_3 : decode cX8_shaped 3 = .ok (.invokestatic 140, 3) := by decide +kernel
theorem dX8_shaped_6 : decode cX8_shaped 6 = .ok (.ifCond .eq 8, 3) := by decide +kernel
theorem dX8_shaped_9 : decode cX8_shaped 9 = .ok (.iload 4, 2) := by decide +kernel
theorem dX8_shaped_11 : decode cX8_shaped 11 = .ok (.ifCond .ge 6, 3) := by decide +kernel
theorem dX8_shaped_14 : decode cX8_shaped 14 = .ok (.ldc 71, 2) := by decide +kernel
theorem dX8_shaped_16 : decode cX8_shaped 16 = .ok (.ireturn, 1) := by decide +kernel
theorem dX8_shaped_17 : decode cX8_shaped 17 = .ok (.aload_n 0, 1) := by decide +kernel
theorem dX8_shaped_18 : decode cX8_shaped 18 = .ok (.getfield 19, 3) := by decide +kernel
theorem dX8_shaped_21 : decode cX8_shaped 21 = .ok (.iload_n 1, 1) := by decide +kernel
theorem dX8_shaped_22 : decode cX8_shaped 22 = .ok (.iaload, 1) := by decide +kernel
theorem dX8_shaped_23 : decode cX8_shaped 23 = .ok (.ifCond .ne 6, 3) := by decide +kernel
theorem dX8_shaped_26 : decode cX8_shaped 26 = .ok (.ldc 77, 2) := by decide +kernel
theorem dX8_shaped_28 : decode cX8_shaped 28 = .ok (.ireturn, 1) := by decide +kernel
theorem dX8_shaped_29 : decode cX8_shaped 29 = .ok (.iload 4, 2) := by decide +kernel
theorem dX8_shaped_31 : decode cX8_shaped 31 = .ok (.istore 5, 2) := by decide +kernel
theorem dX8_shaped_33 : decode cX8_shaped 33 = .ok (.iconst 0, 1) := by decide +kernel
theorem dX8_shaped_34 : decode cX8_shaped 34 = .ok (.istore 6, 2) := by decide +kernel
theorem dX8_shaped_36 : decode cX8_shaped 36 = .ok (.iload 6, 2) := by decide +kernel
theorem dX8_shaped_38 : decode cX8_shaped 38 = .ok (.aload_n 0, 1) := by decide +kernel
theorem dX8_shaped_39 : decode cX8_shaped 39 = .ok (.iload_n 1, 1) := by decide +kernel
theorem dX8_shaped_40 : decode cX8_shaped 40 = .ok (.iload_n 2, 1) := by decide +kernel
theorem dX8_shaped_41 : decode cX8_shaped 41 = .ok (.iload_n 3, 1) := by decide +kernel
theorem dX8_shaped_42 : decode cX8_shaped 42 = .ok (.invokevirtual 143, 3) := by decide +kernel
theorem dX8_shaped_45 : decode cX8_shaped 45 = .ok (.if_icmp .ge 66, 3) := by decide +kernel
theorem dX8_shaped_48 : decode cX8_shaped 48 = .ok (.iload_n 2, 1) := by decide +kernel
theorem dX8_shaped_49 : decode cX8_shaped 49 = .ok (.aload_n 0, 1) := by decide +kernel
theorem dX8_shaped_50 : decode cX8_shaped 50 = .ok (.iload_n 1, 1) := by decide +kernel
theorem dX8_shaped_51 : decode cX8_shaped 51 = .ok (.iload_n 2, 1) := by decide +kernel
theorem dX8_shaped_52 : decode cX8_shaped 52 = .ok (.iload_n 3, 1) := by decide +kernel
theorem dX8_shaped_53 : decode cX8_shaped 53 = .ok (.iload 6, 2) := by decide +kernel
theorem dX8_shaped_55 : decode cX8_shaped 55 = .ok (.invokevirtual 146, 3) := by decide +kernel
theorem dX8_shaped_58 : decode cX8_shaped 58 = .ok (.imul, 1) := by decide +kernel
theorem dX8_shaped_59 : decode cX8_shaped 59 = .ok (.istore 7, 2) := by decide +kernel
theorem dX8_shaped_61 : decode cX8_shaped 61 = .ok (.iload 5, 2) := by decide +kernel
theorem dX8_shaped_63 : decode cX8_shaped 63 = .ok (.aload_n 0, 1) := by decide +kernel
theorem dX8_shaped_64 : decode cX8_shaped 64 = .ok (.getfield 19, 3) := by decide +kernel
theorem dX8_shaped_67 : decode cX8_shaped 67 = .ok (.iload_n 1, 1) := by decide +kernel
theorem dX8_shaped_68 : decode cX8_shaped 68 = .ok (.iaload, 1) := by decide +kernel
theorem dX8_shaped_69 : decode cX8_shaped 69 = .ok (.iload 7, 2) := by decide +kernel
theorem dX8_shaped_71 : decode cX8_shaped 71 = .ok (.isub, 1) := by decide +kernel
theorem dX8_shaped_72 : decode cX8_shaped 72 = .ok (.if_icmp .ge 19, 3) := by decide +kernel
theorem dX8_shaped_75 : decode cX8_shaped 75 = .ok (.aload_n 0, 1) := by decide +kernel
theorem dX8_shaped_76 : decode cX8_shaped 76 = .ok (.getfield 22, 3) := by decide +kernel
theorem dX8_shaped_79 : decode cX8_shaped 79 = .ok (.bipush 60, 2) := by decide +kernel
theorem dX8_shaped_81 : decode cX8_shaped 81 = .ok (.iload_n 1, 1) := by decide +kernel
theorem dX8_shaped_82 : decode cX8_shaped 82 = .ok (.imul, 1) := by decide +kernel
theorem dX8_shaped_83 : decode cX8_shaped 83 = .ok (.iload 7, 2) := by decide +kernel
theorem dX8_shaped_85 : decode cX8_shaped 85 = .ok (.iadd, 1) := by decide +kernel
theorem dX8_shaped_86 : decode cX8_shaped 86 = .ok (.iload 5, 2) := by decide +kernel
theorem dX8_shaped_88 : decode cX8_shaped 88 = .ok (.iadd, 1) := by decide +kernel
theorem dX8_shaped_89 : decode cX8_shaped 89 = .ok (.iaload, 1) := by decide +kernel
theorem dX8_shaped_90 : decode cX8_shaped 90 = .ok (.ireturn, 1) := by decide +kernel
theorem dX8_shaped_91 : decode cX8_shaped 91 = .ok (.iload 5, 2) := by decide +kernel
theorem dX8_shaped_93 : decode cX8_shaped 93 = .ok (.aload_n 0, 1) := by decide +kernel
theorem dX8_shaped_94 : decode cX8_shaped 94 = .ok (.getfield 19, 3) := by decide +kernel
theorem dX8_shaped_97 : decode cX8_shaped 97 = .ok (.iload_n 1, 1) := by decide +kernel
theorem dX8_shaped_98 : decode cX8_shaped 98 = .ok (.iaload, 1) := by decide +kernel
theorem dX8_shaped_99 : decode cX8_shaped 99 = .ok (.iload 7, 2) := by decide +kernel
theorem dX8_shaped_101 : decode cX8_shaped 101 = .ok (.isub, 1) := by decide +kernel
theorem dX8_shaped_102 : decode cX8_shaped 102 = .ok (.isub, 1) := by decide +kernel
theorem dX8_shaped_103 : decode cX8_shaped 103 = .ok (.istore 5, 2) := by decide +kernel
theorem dX8_shaped_105 : decode cX8_shaped 105 = .ok (.iinc 6 1, 3) := by decide +kernel
theorem dX8_shaped_108 : decode cX8_shaped 108 = .ok (.goto (-72), 3) := by decide +kernel
theorem dX8_shaped_111 : decode cX8_shaped 111 = .ok (.ldc 106, 2) := by decide +kernel
theorem dX8_shaped_113 : decode cX8_shaped 113 = .ok (.ireturn, 1) := by decide +kernel
theorem dX8_isSheet_0 : decode cX8_isSheet 0 = .ok (.iload_n 0, 1) := by decide +kernel
theorem dX8_isSheet_1 : decode cX8_isSheet 1 = .ok (.iconst 0, 1) := by decide +kernel
theorem dX8_isSheet_2 : decode cX8_isSheet 2 = .ok (.iconst 1, 1) := by decide +kernel
theorem dX8_isSheet_3 : decode cX8_isSheet 3 = .ok (.invokestatic 63, 3) := by decide +kernel
theorem dX8_isSheet_6 : decode cX8_isSheet 6 = .ok (.ireturn, 1) := by decide +kernel
theorem dX8_standsAt_0 : decode cX8_standsAt 0 = .ok (.iconst 0, 1) := by decide +kernel
theorem dX8_standsAt_1 : decode cX8_standsAt 1 = .ok (.istore 5, 2) := by decide +kernel
theorem dX8_standsAt_3 : decode cX8_standsAt 3 = .ok (.iconst 0, 1) := by decide +kernel
theorem dX8_standsAt_4 : decode cX8_standsAt 4 = .ok (.istore 6, 2) := by decide +kernel
theorem dX8_standsAt_6 : decode cX8_standsAt 6 = .ok (.iload 6, 2) := by decide +kernel
theorem dX8_standsAt_8 : decode cX8_standsAt 8 = .ok (.iload 4, 2) := by decide +kernel
theorem dX8_standsAt_10 : decode cX8_standsAt 10 = .ok (.iadd, 1) := by decide +kernel
theorem dX8_standsAt_11 : decode cX8_standsAt 11 = .ok (.iload_n 3, 1) := by decide +kernel
theorem dX8_standsAt_12 : decode cX8_standsAt 12 = .ok (.isub, 1) := by decide +kernel
theorem dX8_standsAt_13 : decode cX8_standsAt 13 = .ok (.aload_n 0, 1) := by decide +kernel
theorem dX8_standsAt_14 : decode cX8_standsAt 14 = .ok (.getfield 19, 3) := by decide +kernel
theorem dX8_standsAt_17 : decode cX8_standsAt 17 = .ok (.iload_n 1, 1) := by decide +kernel
theorem dX8_standsAt_18 : decode cX8_standsAt 18 = .ok (.iaload, 1) := by decide +kernel
theorem dX8_standsAt_19 : decode cX8_standsAt 19 = .ok (.if_icmp .gt 87, 3) := by decide +kernel
theorem dX8_standsAt_22 : decode cX8_standsAt 22 = .ok (.iconst 1, 1) := by decide +kernel
theorem dX8_standsAt_23 : decode cX8_standsAt 23 = .ok (.istore 7, 2) := by decide +kernel
theorem dX8_standsAt_25 : decode cX8_standsAt 25 = .ok (.iload_n 3, 1) := by decide +kernel
theorem dX8_standsAt_26 : decode cX8_standsAt 26 = .ok (.istore 8, 2) := by decide +kernel
theorem dX8_standsAt_28 : decode cX8_standsAt 28 = .ok (.iload 8, 2) := by decide +kernel
theorem dX8_standsAt_30 : decode cX8_standsAt 30 = .ok (.iload 4, 2) := by decide +kernel
theorem dX8_standsAt_32 : decode cX8_standsAt 32 = .ok (.if_icmp .ge 53, 3) := by decide +kernel
theorem dX8_standsAt_35 : decode cX8_standsAt 35 = .ok (.iload 7, 2) := by decide +kernel
theorem dX8_standsAt_37 : decode cX8_standsAt 37 = .ok (.ifCond .eq 48, 3) := by decide +kernel
theorem dX8_standsAt_40 : decode cX8_standsAt 40 = .ok (.aload_n 0, 1) := by decide +kernel
theorem dX8_standsAt_41 : decode cX8_standsAt 41 = .ok (.getfield 44, 3) := by decide +kernel
theorem dX8_standsAt_44 : decode cX8_standsAt 44 = .ok (.bipush 60, 2) := by decide +kernel
theorem dX8_standsAt_46 : decode cX8_standsAt 46 = .ok (.iload_n 2, 1) := by decide +kernel
theorem dX8_standsAt_47 : decode cX8_standsAt 47 = .ok (.imul, 1) := by decide +kernel
theorem dX8_standsAt_48 : decode cX8_standsAt 48 = .ok (.iload 8, 2) := by decide +kernel
theorem dX8_standsAt_50 : decode cX8_standsAt 50 = .ok (.iadd, 1) := by decide +kernel
theorem dX8_standsAt_51 : decode cX8_standsAt 51 = .ok (.iaload, 1) := by decide +kernel
theorem dX8_standsAt_52 : decode cX8_standsAt 52 = .ok (.aload_n 0, 1) := by decide +kernel
theorem dX8_standsAt_53 : decode cX8_standsAt 53 = .ok (.getfield 22, 3) := by decide +kernel
theorem dX8_standsAt_56 : decode cX8_standsAt 56 = .ok (.bipush 60, 2) := by decide +kernel
theorem dX8_standsAt_58 : decode cX8_standsAt 58 = .ok (.iload_n 1, 1) := by decide +kernel
theorem dX8_standsAt_59 : decode cX8_standsAt 59 = .ok (.imul, 1) := by decide +kernel
theorem dX8_standsAt_60 : decode cX8_standsAt 60 = .ok (.iload 6, 2) := by decide +kernel
theorem dX8_standsAt_62 : decode cX8_standsAt 62 = .ok (.iadd, 1) := by decide +kernel
theorem dX8_standsAt_63 : decode cX8_standsAt 63 = .ok (.iload 8, 2) := by decide +kernel
theorem dX8_standsAt_65 : decode cX8_standsAt 65 = .ok (.iadd, 1) := by decide +kernel
theorem dX8_standsAt_66 : decode cX8_standsAt 66 = .ok (.iload_n 3, 1) := by decide +kernel
theorem dX8_standsAt_67 : decode cX8_standsAt 67 = .ok (.isub, 1) := by decide +kernel
theorem dX8_standsAt_68 : decode cX8_standsAt 68 = .ok (.iaload, 1) := by decide +kernel
theorem dX8_standsAt_69 : decode cX8_standsAt 69 = .ok (.if_icmp .ne 7, 3) := by decide +kernel
theorem dX8_standsAt_72 : decode cX8_standsAt 72 = .ok (.iconst 1, 1) := by decide +kernel
theorem dX8_standsAt_73 : decode cX8_standsAt 73 = .ok (.goto 4, 3) := by decide +kernel
theorem dX8_standsAt_76 : decode cX8_standsAt 76 = .ok (.iconst 0, 1) := by decide +kernel
theorem dX8_standsAt_77 : decode cX8_standsAt 77 = .ok (.istore 7, 2) := by decide +kernel
theorem dX8_standsAt_79 : decode cX8_standsAt 79 = .ok (.iinc 8 1, 3) := by decide +kernel
theorem dX8_standsAt_82 : decode cX8_standsAt 82 = .ok (.goto (-54), 3) := by decide +kernel
theorem dX8_standsAt_85 : decode cX8_standsAt 85 = .ok (.iload 5, 2) := by decide +kernel
theorem dX8_standsAt_87 : decode cX8_standsAt 87 = .ok (.iload 7, 2) := by decide +kernel
theorem dX8_standsAt_89 : decode cX8_standsAt 89 = .ok (.ifCond .eq 7, 3) := by decide +kernel
theorem dX8_standsAt_92 : decode cX8_standsAt 92 = .ok (.iconst 1, 1) := by decide +kernel
theorem dX8_standsAt_93 : decode cX8_standsAt 93 = .ok (.goto 4, 3) := by decide +kernel
theorem dX8_standsAt_96 : decode cX8_standsAt 96 = .ok (.iconst 0, 1) := by decide +kernel
theorem dX8_standsAt_97 : decode cX8_standsAt 97 = .ok (.iadd, 1) := by decide +kernel
theorem dX8_standsAt_98 : decode cX8_standsAt 98 = .ok (.istore 5, 2) := by decide +kernel
theorem dX8_standsAt_100 : decode cX8_standsAt 100 = .ok (.iinc 6 1, 3) := by decide +kernel
theorem dX8_standsAt_103 : decode cX8_standsAt 103 = .ok (.goto (-97), 3) := by decide +kernel
theorem dX8_standsAt_106 : decode cX8_standsAt 106 = .ok (.iload 5, 2) := by decide +kernel
theorem dX8_standsAt_108 : decode cX8_standsAt 108 = .ok (.ireturn, 1) := by decide +kernel
