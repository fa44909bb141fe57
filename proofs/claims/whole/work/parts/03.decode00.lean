theorem dX0_init_0 : decode cX0_init 0 = .ok (.aload_n 0, 1) := by decide +kernel
theorem dX0_init_1 : decode cX0_init 1 = .ok (.invokespecial 3, 3) := by decide +kernel
theorem dX0_init_4 : decode cX0_init 4 = .ok (.aload_n 0, 1) := by decide +kernel
theorem dX0_init_5 : decode cX0_init 5 = .ok (.bipush 12, 2) := by decide +kernel
theorem dX0_init_7 : decode cX0_init 7 = .ok (.newarray .int, 2) := by decide +kernel
theorem dX0_init_9 : decode cX0_init 9 = .ok (.putfield 11, 3) := by decide +kernel
theorem dX0_init_12 : decode cX0_init 12 = .ok (.aload_n 0, 1) := by decide +kernel
theorem dX0_init_13 : decode cX0_init 13 = .ok (.bipush 12, 2) := by decide +kernel
theorem dX0_init_15 : decode cX0_init 15 = .ok (.newarray .int, 2) := by decide +kernel
theorem dX0_init_17 : decode cX0_init 17 = .ok (.putfield 15, 3) := by decide +kernel
theorem dX0_init_20 : decode cX0_init 20 = .ok (.aload_n 0, 1) := by decide +kernel
theorem dX0_init_21 : decode cX0_init 21 = .ok (.iconst 0, 1) := by decide +kernel
theorem dX0_init_22 : decode cX0_init 22 = .ok (.putfield 18, 3) := by decide +kernel
theorem dX0_init_25 : decode cX0_init 25 = .ok (.return_, 1) := by decide +kernel
theorem dX0_isKind_0 : decode cX0_isKind 0 = .ok (.iload_n 0, 1) := by decide +kernel
theorem dX0_isKind_1 : decode cX0_isKind 1 = .ok (.ifCond .lt 12, 3) := by decide +kernel
theorem dX0_isKind_4 : decode cX0_isKind 4 = .ok (.iload_n 0, 1) := by decide +kernel
theorem dX0_isKind_5 : decode cX0_isKind 5 = .ok (.iconst 3, 1) := by decide +kernel
theorem dX0_isKind_6 : decode cX0_isKind 6 = .ok (.if_icmp .gt 7, 3) := by decide +kernel
theorem dX0_isKind_9 : decode cX0_isKind 9 = .ok (.iconst 1, 1) := by decide +kernel
theorem dX0_isKind_10 : decode cX0_isKind 10 = .ok (.goto 4, 3) := by decide +kernel
theorem dX0_isKind_13 : decode cX0_isKind 13 = .ok (.iconst 0, 1) := by decide +kernel
theorem dX0_isKind_14 : decode cX0_isKind 14 = .ok (.ireturn, 1) := by decide +kernel
theorem dX0_isUnder_0 : decode cX0_isUnder 0 = .ok (.iload_n 0, 1) := by decide +kernel
theorem dX0_isUnder_1 : decode cX0_isUnder 1 = .ok (.iload_n 1, 1) := by decide +kernel
theorem dX0_isUnder_2 : decode cX0_isUnder 2 = .ok (.if_icmp .eq 17, 3) := by decide +kernel
theorem dX0_isUnder_5 : decode cX0_isUnder 5 = .ok (.iload_n 1, 1) := by decide +kernel
theorem dX0_isUnder_6 : decode cX0_isUnder 6 = .ok (.ifCond .eq 13, 3) := by decide +kernel
theorem dX0_isUnder_9 : decode cX0_isUnder 9 = .ok (.iload_n 0, 1) := by decide +kernel
theorem dX0_isUnder_10 : decode cX0_isUnder 10 = .ok (.iconst 3, 1) := by decide +kernel
theorem dX0_isUnder_11 : decode cX0_isUnder 11 = .ok (.if_icmp .ne 12, 3) := by decide +kernel
theorem dX0_isUnder_14 : decode cX0_isUnder 14 = .ok (.iload_n 1, 1) := by decide +kernel
theorem dX0_isUnder_15 : decode cX0_isUnder 15 = .ok (.iconst 1, 1) := by decide +kernel
theorem dX0_isUnder_16 : decode cX0_isUnder 16 = .ok (.if_icmp .ne 7, 3) := by decide +kernel
theorem dX0_isUnder_19 : decode cX0_isUnder 19 = .ok (.iconst 1, 1) := by decide +kernel
theorem dX0_isUnder_20 : decode cX0_isUnder 20 = .ok (.goto 4, 3) := by decide +kernel
theorem dX0_isUnder_23 : decode cX0_isUnder 23 = .ok (.iconst 0, 1) := by decide +kernel
theorem dX0_isUnder_24 : decode cX0_isUnder 24 = .ok (.ireturn, 1) := by decide +kernel
theorem dX0_take_0 : decode cX0_take 0 = .ok (.aload_n 0, 1) := by decide +kernel
theorem dX0_take_1 : decode cX0_take 1 = .ok (.getfield 18, 3) := by decide +kernel
theorem dX0_take_4 : decode cX0_take 4 = .ok (.bipush 12, 2) := by decide +kernel
theorem dX0_take_6 : decode cX0_take 6 = .ok (.if_icmp .lt 6, 3) := by decide +kernel
theorem dX0_take_9 : decode cX0_take 9 = .ok (.ldc 22, 2) := by decide +kernel
theorem dX0_take_11 : decode cX0_take 11 = .ok (.ireturn, 1) := by decide +kernel
theorem dX0_take_12 : decode cX0_take 12 = .ok (.aload_n 0, 1) := by decide +kernel
theorem dX0_take_13 : decode cX0_take 13 = .ok (.getfield 11, 3) := by decide +kernel
theorem dX0_take_16 : decode cX0_take 16 = .ok (.aload_n 0, 1) := by decide +kernel
theorem dX0_take_17 : decode cX0_take 17 = .ok (.getfield 18, 3) := by decide +kernel
theorem dX0_take_20 : decode cX0_take 20 = .ok (.iload_n 1, 1) := by decide +kernel
theorem dX0_take_21 : decode cX0_take 21 = .ok (.iastore, 1) := by decide +kernel
theorem dX0_take_22 : decode cX0_take 22 = .ok (.aload_n 0, 1) := by decide +kernel
theorem dX0_take_23 : decode cX0_take 23 = .ok (.getfield 15, 3) := by decide +kernel
theorem dX0_take_26 : decode cX0_take 26 = .ok (.aload_n 0, 1) := by decide +kernel
theorem dX0_take_27 : decode cX0_take 27 = .ok (.getfield 18, 3) := by decide +kernel
theorem dX0_take_30 : decode cX0_take 30 = .ok (.iload_n 2, 1) := by decide +kernel
theorem dX0_take_31 : decode cX0_take 31 = .ok (.iastore, 1) := by decide +kernel
theorem dX0_take_32 : decode cX0_take 32 = .ok (.aload_n 0, 1) := by decide +kernel
theorem dX0_take_33 : decode cX0_take 33 = .ok (.dup, 1) := by decide +kernel
theorem dX0_take_34 : decode cX0_take 34 = .ok (.getfield 18, 3) := by decide +kernel
theorem dX0_take_37 : decode cX0_take 37 = .ok (.iconst 1, 1) := by decide +kernel
theorem dX0_take_38 : decode cX0_take 38 = .ok (.iadd, 1) := by decide +kernel
theorem dX0_take_39 : decode cX0_take 39 = .ok (.putfield 18, 3) := by decide +kernel
theorem dX0_take_42 : decode cX0_take 42 = .ok (.aload_n 0, 1) := by decide +kernel
theorem dX0_take_43 : decode cX0_take 43 = .ok (.getfield 18, 3) := by decide +kernel
theorem dX0_take_46 : decode cX0_take 46 = .ok (.ireturn, 1) := by decide +kernel
theorem dX0_limbIs_0 : decode cX0_limbIs 0 = .ok (.iload_n 1, 1) := by decide +kernel
theorem dX0_limbIs_1 : decode cX0_limbIs 1 = .ok (.ifCond .lt 28, 3) := by decide +kernel
theorem dX0_limbIs_4 : decode cX0_limbIs 4 = .ok (.iload_n 1, 1) := by decide +kernel
theorem dX0_limbIs_5 : decode cX0_limbIs 5 = .ok (.aload_n 0, 1) := by decide +kernel
theorem dX0_limbIs_6 : decode cX0_limbIs 6 = .ok (.getfield 18, 3) := by decide +kernel
theorem dX0_limbIs_9 : decode cX0_limbIs 9 = .ok (.if_icmp .ge 20, 3) := by decide +kernel
theorem dX0_limbIs_12 : decode cX0_limbIs 12 = .ok (.aload_n 0, 1) := by decide +kernel
theorem dX0_limbIs_13 : decode cX0_limbIs 13 = .ok (.getfield 11, 3) := by decide +kernel
theorem dX0_limbIs_16 : decode cX0_limbIs 16 = .ok (.iload_n 1, 1) := by decide +kernel
theorem dX0_limbIs_17 : decode cX0_limbIs 17 = .ok (.iaload, 1) := by decide +kernel
theorem dX0_limbIs_18 : decode cX0_limbIs 18 = .ok (.iload_n 2, 1) := by decide +kernel
theorem dX0_limbIs_19 : decode cX0_limbIs 19 = .ok (.invokestatic 23, 3) := by decide +kernel
theorem dX0_limbIs_22 : decode cX0_limbIs 22 = .ok (.ifCond .eq 7, 3) := by decide +kernel
theorem dX0_limbIs_25 : decode cX0_limbIs 25 = .ok (.iconst 1, 1) := by decide +kernel
theorem dX0_limbIs_26 : decode cX0_limbIs 26 = .ok (.goto 4, 3) := by decide +kernel
theorem dX0_limbIs_29 : decode cX0_limbIs 29 = .ok (.iconst 0, 1) := by decide +kernel
theorem dX0_limbIs_30 : decode cX0_limbIs 30 = .ok (.ireturn, 1) := by decide +kernel
theorem dX0_allTicks_0 : decode cX0_allTicks 0 = .ok (.iconst 0, 1) := by decide +kernel
theorem dX0_allTicks_1 : decode cX0_allTicks 1 = .ok (.istore_n 1, 1) := by decide +kernel
theorem dX0_allTicks_2 : decode cX0_allTicks 2 = .ok (.iconst 0, 1) := by decide +kernel
theorem dX0_allTicks_3 : decode cX0_allTicks 3 = .ok (.istore_n 2, 1) := by decide +kernel
theorem dX0_allTicks_4 : decode cX0_allTicks 4 = .ok (.iload_n 2, 1) := by decide +kernel
theorem dX0_allTicks_5 : decode cX0_allTicks 5 = .ok (.aload_n 0, 1) := by decide +kernel
theorem dX0_allTicks_6 : decode cX0_allTicks 6 = .ok (.getfield 18, 3) := by decide +kernel
theorem dX0_allTicks_9 : decode cX0_allTicks 9 = .ok (.if_icmp .ge 21, 3) := by decide +kernel
theorem dX0_allTicks_12 : decode cX0_allTicks 12 = .ok (.iload_n 1, 1) := by decide +kernel
theorem dX0_allTicks_13 : decode cX0_allTicks 13 = .ok (.aload_n 0, 1) := by decide +kernel
theorem dX0_allTicks_14 : decode cX0_allTicks 14 = .ok (.getfield 15, 3) := by decide +kernel
theorem dX0_allTicks_17 : decode cX0_allTicks 17 = .ok (.iload_n 2, 1) := by decide +kernel
theorem dX0_allTicks_18 : decode cX0_allTicks 18 = .ok (.iaload, 1) := by decide +kernel
theorem dX0_allTicks_19 : decode cX0_allTicks 19 = .ok (.bipush 12, 2) := by decide +kernel
theorem dX0_allTicks_21 : decode cX0_allTicks 21 = .ok (.imul, 1) := by decide +kernel
theorem dX0_allTicks_22 : decode cX0_allTicks 22 = .ok (.iadd, 1) := by decide +kernel
theorem dX0_allTicks_23 : decode cX0_allTicks 23 = .ok (.istore_n 1, 1) := by decide +kernel
theorem dX0_allTicks_24 : decode cX0_allTicks 24 = .ok (.iinc 2 1, 3) := by decide +kernel
theorem dX0_allTicks_27 : decode cX0_allTicks 27 = .ok (.goto (-23), 3) := by decide +kernel
theorem dX0_allTicks_30 : decode cX0_allTicks 30 = .ok (.iload_n 1, 1) := by decide +kernel
theorem dX0_allTicks_31 : decode cX0_allTicks 31 = .ok (.ireturn, 1) := by decide +kernel
theorem dX0_handlingAt_0 : decode cX0_handlingAt 0 = .ok (.aload_n 0, 1) := by decide +kernel
theorem dX0_handlingAt_1 : decode cX0_handlingAt 1 = .ok (.invokevirtual 27, 3) := by decide +kernel
theorem dX0_handlingAt_4 : decode cX0_handlingAt 4 = .ok (.istore_n 2, 1) := by decide +kernel
theorem dX0_handlingAt_5 : decode cX0_handlingAt 5 = .ok (.iload_n 2, 1) := by decide +kernel
theorem dX0_handlingAt_6 : decode cX0_handlingAt 6 = .ok (.ifCond .gt 6, 3) := by decide +kernel
theorem dX0_handlingAt_9 : decode cX0_handlingAt 9 = .ok (.ldc 31, 2) := by decide +kernel
theorem dX0_handlingAt_11 : decode cX0_handlingAt 11 = .ok (.ireturn, 1) := by decide +kernel
theorem dX0_handlingAt_12 : decode cX0_handlingAt 12 = .ok (.iload_n 1, 1) := by decide +kernel
theorem dX0_handlingAt_13 : decode cX0_handlingAt 13 = .ok (.iload_n 2, 1) := by decide +kernel
theorem dX0_handlingAt_14 : decode cX0_handlingAt 14 = .ok (.irem, 1) := by decide +kernel
theorem dX0_handlingAt_15 : decode cX0_handlingAt 15 = .ok (.istore_n 3, 1) := by decide +kernel
theorem dX0_handlingAt_16 : decode cX0_handlingAt 16 = .ok (.iconst 0, 1) := by decide +kernel
theorem dX0_handlingAt_17 : decode cX0_handlingAt 17 = .ok (.istore 4, 2) := by decide +kernel
theorem dX0_handlingAt_19 : decode cX0_handlingAt 19 = .ok (.iload 4, 2) := by decide +kernel
theorem dX0_handlingAt_21 : decode cX0_handlingAt 21 = .ok (.aload_n 0, 1) := by decide +kernel
theorem dX0_handlingAt_22 : decode cX0_handlingAt 22 = .ok (.getfield 18, 3) := by decide +kernel
theorem dX0_handlingAt_25 : decode cX0_handlingAt 25 = .ok (.if_icmp .ge 52, 3) := by decide +kernel
theorem dX0_handlingAt_28 : decode cX0_handlingAt 28 = .ok (.aload_n 0, 1) := by decide +kernel
theorem dX0_handlingAt_29 : decode cX0_handlingAt 29 = .ok (.getfield 15, 3) := by decide +kernel
theorem dX0_handlingAt_32 : decode cX0_handlingAt 32 = .ok (.iload 4, 2) := by decide +kernel
theorem dX0_handlingAt_34 : decode cX0_handlingAt 34 = .ok (.iaload, 1) := by decide +kernel
theorem dX0_handlingAt_35 : decode cX0_handlingAt 35 = .ok (.bipush 12, 2) := by decide +kernel
theorem dX0_handlingAt_37 : decode cX0_handlingAt 37 = .ok (.imul, 1) := by decide +kernel
theorem dX0_handlingAt_38 : decode cX0_handlingAt 38 = .ok (.istore 5, 2) := by decide +kernel
theorem dX0_handlingAt_40 : decode cX0_handlingAt 40 = .ok (.iload_n 3, 1) := by decide +kernel
theorem dX0_handlingAt_41 : decode cX0_handlingAt 41 = .ok (.iload 5, 2) := by decide +kernel
theorem dX0_handlingAt_43 : decode cX0_handlingAt 43 = .ok (.if_icmp .ge 23, 3) := by decide +kernel
theorem dX0_handlingAt_46 : decode cX0_handlingAt 46 = .ok (.bipush 10, 2) := by decide +kernel
theorem dX0_handlingAt_48 : decode cX0_handlingAt 48 = .ok (.iload 4, 2) := by decide +kernel
theorem dX0_handlingAt_50 : decode cX0_handlingAt 50 = .ok (.imul, 1) := by decide +kernel
theorem dX0_handlingAt_51 : decode cX0_handlingAt 51 = .ok (.aload_n 0, 1) := by decide +kernel
theorem dX0_handlingAt_52 : decode cX0_handlingAt 52 = .ok (.getfield 11, 3) := by decide +kernel
theorem dX0_handlingAt_55 : decode cX0_handlingAt 55 = .ok (.iload 4, 2) := by decide +kernel
theorem dX0_handlingAt_57 : decode cX0_handlingAt 57 = .ok (.iaload, 1) := by decide +kernel
theorem dX0_handlingAt_58 : decode cX0_handlingAt 58 = .ok (.iload_n 3, 1) := by decide +kernel
theorem dX0_handlingAt_59 : decode cX0_handlingAt 59 = .ok (.iload 5, 2) := by decide +kernel
theorem dX0_handlingAt_61 : decode cX0_handlingAt 61 = .ok (.invokestatic 32, 3) := by decide +kernel
theorem dX0_handlingAt_64 : decode cX0_handlingAt 64 = .ok (.iadd, 1) := by decide +kernel
theorem dX0_handlingAt_65 : decode cX0_handlingAt 65 = .ok (.ireturn, 1) := by decide +kernel
theorem dX0_handlingAt_66 : decode cX0_handlingAt 66 = .ok (.iload_n 3, 1) := by decide +kernel
theorem dX0_handlingAt_67 : decode cX0_handlingAt 67 = .ok (.iload 5, 2) := by decide +kernel
theorem dX0_handlingAt_69 : decode cX0_handlingAt 69 = .ok (.isub, 1) := by decide +kernel
theorem dX0_handlingAt_70 : decode cX0_handlingAt 70 = .ok (.istore_n 3, 1) := by decide +kernel
theorem dX0_handlingAt_71 : decode cX0_handlingAt 71 = .ok (.iinc 4 1, 3) := by decide +kernel
theorem dX0_handlingAt_74 : decode cX0_handlingAt 74 = .ok (.goto (-55), 3) := by decide +kernel
theorem dX0_handlingAt_77 : decode cX0_handlingAt 77 = .ok (.ldc 31, 2) := by decide +kernel
theorem dX0_handlingAt_79 : decode cX0_handlingAt 79 = .ok (.ireturn, 1) := by decide +kernel
theorem dX0_deedAt_0 : decode cX0_deedAt 0 = .ok (.iload_n 1, 1) := by decide +kernel
theorem dX0_deedAt_1 : decode cX0_deedAt 1 = .ok (.ifCond .ne 26, 3) := by decide +kernel
theorem dX0_deedAt_4 : decode cX0_deedAt 4 = .ok (.iload_n 0, 1) := by decide +kernel
theorem dX0_deedAt_5 : decode cX0_deedAt 5 = .ok (.iconst 1, 1) := by decide +kernel
theorem dX0_deedAt_6 : decode cX0_deedAt 6 = .ok (.invokestatic 23, 3) := by decide +kernel
theorem dX0_deedAt_9 : decode cX0_deedAt 9 = .ok (.ifCond .eq 7, 3) := by decide +kernel
theorem dX0_deedAt_12 : decode cX0_deedAt 12 = .ok (.iconst 1, 1) := by decide +kernel
theorem dX0_deedAt_13 : decode cX0_deedAt 13 = .ok (.goto 13, 3) := by decide +kernel
theorem dX0_deedAt_16 : decode cX0_deedAt 16 = .ok (.iload_n 0, 1) := by decide +kernel
theorem dX0_deedAt_17 : decode cX0_deedAt 17 = .ok (.iconst 2, 1) := by decide +kernel
theorem dX0_deedAt_18 : decode cX0_deedAt 18 = .ok (.if_icmp .ne 7, 3) := by decide +kernel
theorem dX0_deedAt_21 : decode cX0_deedAt 21 = .ok (.iconst 2, 1) := by decide +kernel
theorem dX0_deedAt_22 : decode cX0_deedAt 22 = .ok (.goto 4, 3) := by decide +kernel
theorem dX0_deedAt_25 : decode cX0_deedAt 25 = .ok (.iconst 0, 1) := by decide +kernel
theorem dX0_deedAt_26 : decode cX0_deedAt 26 = .ok (.ireturn, 1) := by decide +kernel
theorem dX0_deedAt_27 : decode cX0_deedAt 27 = .ok (.iload_n 1, 1) := by decide +kernel
theorem dX0_deedAt_28 : decode cX0_deedAt 28 = .ok (.bipush 24, 2) := by decide +kernel
theorem dX0_deedAt_30 : decode cX0_deedAt 30 = .ok (.irem, 1) := by decide +kernel
theorem dX0_deedAt_31 : decode cX0_deedAt 31 = .ok (.ifCond .ne 15, 3) := by decide +kernel
theorem dX0_deedAt_34 : decode cX0_deedAt 34 = .ok (.iload_n 1, 1) := by decide +kernel
theorem dX0_deedAt_35 : decode cX0_deedAt 35 = .ok (.bipush 24, 2) := by decide +kernel
theorem dX0_deedAt_37 : decode cX0_deedAt 37 = .ok (.iadd, 1) := by decide +kernel
theorem dX0_deedAt_38 : decode cX0_deedAt 38 = .ok (.iload_n 2, 1) := by decide +kernel
theorem dX0_deedAt_39 : decode cX0_deedAt 39 = .ok (.if_icmp .gt 7, 3) := by decide +kernel
theorem dX0_deedAt_42 : decode cX0_deedAt 42 = .ok (.iconst 1, 1) := by decide +kernel
theorem dX0_deedAt_43 : decode cX0_deedAt 43 = .ok (.goto 4, 3) := by decide +kernel
theorem dX0_deedAt_46 : decode cX0_deedAt 46 = .ok (.iconst 0, 1) := by decide +kernel
theorem dX0_deedAt_47 : decode cX0_deedAt 47 = .ok (.istore_n 3, 1) := by decide +kernel
theorem dX0_deedAt_48 : decode cX0_deedAt 48 = .ok (.iload_n 0, 1) := by decide +kernel
theorem dX0_deedAt_49 : decode cX0_deedAt 49 = .ok (.iconst 3, 1) := by decide +kernel
theorem dX0_deedAt_50 : decode cX0_deedAt 50 = .ok (.if_icmp .ne 11, 3) := by decide +kernel
theorem dX0_deedAt_53 : decode cX0_deedAt 53 = .ok (.iload_n 3, 1) := by decide +kernel
theorem dX0_deedAt_54 : decode cX0_deedAt 54 = .ok (.ifCond .eq 7, 3) := by decide +kernel
theorem dX0_deedAt_57 : decode cX0_deedAt 57 = .ok (.iconst 3, 1) := by decide +kernel
theorem dX0_deedAt_58 : decode cX0_deedAt 58 = .ok (.goto 4, 3) := by decide +kernel
theorem dX0_deedAt_61 : decode cX0_deedAt 61 = .ok (.iconst 0, 1) := by decide +kernel
theorem dX0_deedAt_62 : decode cX0_deedAt 62 = .ok (.ireturn, 1) := by decide +kernel
theorem dX1_init_0 : decode cX1_init 0 = .ok (.aload_n 0, 1) := by decide +kernel
theorem dX1_init_1 : decode cX1_init 1 = .ok (.invokespecial 3, 3) := by decide +kernel
theorem dX1_init_4 : decode cX1_init 4 = .ok (.aload_n 0, 1) := by decide +kernel
theorem dX1_init_5 : decode cX1_init 5 = .ok (.bipush 8, 2) := by decide +kernel
theorem dX1_init_7 : decode cX1_init 7 = .ok (.newarray .int, 2) := by decide +kernel
theorem dX1_init_9 : decode cX1_init 9 = .ok (.dup, 1) := by decide +kernel
theorem dX1_init_10 : decode cX1_init 10 = .ok (.iconst 0, 1) := by decide +kernel
theorem dX1_init_11 : decode cX1_init 11 = .ok (.iconst 3, 1) := by decide +kernel
theorem dX1_init_12 : decode cX1_init 12 = .ok (.iastore, 1) := by decide +kernel
theorem dX1_init_13 : decode cX1_init 13 = .ok (.dup, 1) := by decide +kernel
theorem dX1_init_14 : decode cX1_init 14 = .ok (.iconst 1, 1) := by decide +kernel
theorem dX1_init_15 : decode cX1_init 15 = .ok (.iconst 3, 1) := by decide +kernel
theorem dX1_init_16 : decode cX1_init 16 = .ok (.iastore, 1) := by decide +kernel
theorem dX1_init_17 : decode cX1_init 17 = .ok (.dup, 1) := by decide +kernel
theorem dX1_init_18 : decode cX1_init 18 = .ok (.iconst 2, 1) := by decide +kernel
theorem dX1_init_19 : decode cX1_init 19 = .ok (.iconst 3, 1) := by decide +kernel
theorem dX1_init_20 : decode cX1_init 20 = .ok (.iastore, 1) := by decide +kernel
theorem dX1_init_21 : decode cX1_init 21 = .ok (.dup, 1) := by decide +kernel
theorem dX1_init_22 : decode cX1_init 22 = .ok (.iconst 3, 1) := by decide +kernel
theorem dX1_init_23 : decode cX1_init 23 = .ok (.iconst 3, 1) := by decide +kernel
theorem dX1_init_24 : decode cX1_init 24 = .ok (.iastore, 1) := by decide +kernel
theorem dX1_init_25 : decode cX1_init 25 = .ok (.dup, 1) := by decide +kernel
theorem dX1_init_26 : decode cX1_init 26 = .ok (.iconst 4, 1) := by decide +kernel
theorem dX1_init_27 : decode cX1_init 27 = .ok (.iconst 3, 1) := by decide +kernel
theorem dX1_init_28 : decode cX1_init 28 = .ok (.iastore, 1) := by decide +kernel
theorem dX1_init_29 : decode cX1_init 29 = .ok (.dup, 1) := by decide +kernel
theorem dX1_init_30 : decode cX1_init 30 = .ok (.iconst 5, 1) := by decide +kernel
theorem dX1_init_31 : decode cX1_init 31 = .ok (.iconst 3, 1) := by decide +kernel
theorem dX1_init_32 : decode cX1_init 32 = .ok (.iastore, 1) := by decide +kernel
theorem dX1_init_33 : decode cX1_init 33 = .ok (.dup, 1) := by decide +kernel
theorem dX1_init_34 : decode cX1_init 34 = .ok (.bipush 6, 2) := by decide +kernel
theorem dX1_init_36 : decode cX1_init 36 = .ok (.iconst 3, 1) := by decide +kernel
theorem dX1_init_37 : decode cX1_init 37 = .ok (.iastore, 1) := by decide +kernel
theorem dX1_init_38 : decode cX1_init 38 = .ok (.dup, 1) := by decide +kernel
theorem dX1_init_39 : decode cX1_init 39 = .ok (.bipush 7, 2) := by decide +kernel
theorem dX1_init_41 : decode cX1_init 41 = .ok (.iconst 3, 1) := by decide +kernel
theorem dX1_init_42 : decode cX1_init 42 = .ok (.iastore, 1) := by decide +kernel
theorem dX1_init_43 : decode cX1_init 43 = .ok (.putfield 11, 3) := by decide +kernel
theorem dX1_init_46 : decode cX1_init 46 = .ok (.aload_n 0, 1) := by decide +kernel
theorem dX1_init_47 : decode cX1_init 47 = .ok (.bipush 60, 2) := by decide +kernel
theorem dX1_init_49 : decode cX1_init 49 = .ok (.newarray .int, 2) := by decide +kernel
theorem dX1_init_51 : decode cX1_init 51 = .ok (.putfield 17, 3) := by decide +kernel
theorem dX1_init_54 : decode cX1_init 54 = .ok (.aload_n 0, 1) := by decide +kernel
theorem dX1_init_55 : decode cX1_init 55 = .ok (.bipush 60, 2) := by decide +kernel
theorem dX1_init_57 : decode cX1_init 57 = .ok (.newarray .int, 2) := by decide +kernel
theorem dX1_init_59 : decode cX1_init 59 = .ok (.putfield 20, 3) := by decide +kernel
theorem dX1_init_62 : decode cX1_init 62 = .ok (.return_, 1) := by decide +kernel
theorem dX1_change_0 : decode cX1_change 0 = .ok (.iload_n 1, 1) := by decide +kernel
theorem dX1_change_1 : decode cX1_change 1 = .ok (.ifCond .lt 21, 3) := by decide +kernel
theorem dX1_change_4 : decode cX1_change 4 = .ok (.iload_n 1, 1) := by decide +kernel
theorem dX1_change_5 : decode cX1_change 5 = .ok (.aload_n 0, 1) := by decide +kernel
theorem dX1_change_6 : decode cX1_change 6 = .ok (.getfield 11, 3) := by decide +kernel
theorem dX1_change_9 : decode cX1_change 9 = .ok (.arraylength, 1) := by decide +kernel
theorem dX1_change_10 : decode cX1_change 10 = .ok (.if_icmp .ge 12, 3) := by decide +kernel
theorem dX1_change_13 : decode cX1_change 13 = .ok (.iload_n 2, 1) := by decide +kernel
theorem dX1_change_14 : decode cX1_change 14 = .ok (.ifCond .lt 8, 3) := by decide +kernel
theorem dX1_change_17 : decode cX1_change 17 = .ok (.iload_n 2, 1) := by decide +kernel
theorem dX1_change_18 : decode cX1_change 18 = .ok (.iconst 3, 1) := by decide +kernel
theorem dX1_change_19 : decode cX1_change 19 = .ok (.if_icmp .le 6, 3) := by decide +kernel
theorem dX1_change_22 : decode cX1_change 22 = .ok (.ldc 23, 2) := by decide +kernel
theorem dX1_change_24 : decode cX1_change 24 = .ok (.ireturn, 1) := by decide +kernel
theorem dX1_change_25 : decode cX1_change 25 = .ok (.aload_n 0, 1) := by decide +kernel
theorem dX1_change_26 : decode cX1_change 26 = .ok (.getfield 11, 3) := by decide +kernel
theorem dX1_change_29 : decode cX1_change 29 = .ok (.iload_n 1, 1) := by decide +kernel
theorem dX1_change_30 : decode cX1_change 30 = .ok (.iaload, 1) := by decide +kernel
theorem dX1_change_31 : decode cX1_change 31 = .ok (.istore_n 3, 1) := by decide +kernel
theorem dX1_change_32 : decode cX1_change 32 = .ok (.aload_n 0, 1) := by decide +kernel
theorem dX1_change_33 : decode cX1_change 33 = .ok (.getfield 11, 3) := by decide +kernel
theorem dX1_change_36 : decode cX1_change 36 = .ok (.iload_n 1, 1) := by decide +kernel
theorem dX1_change_37 : decode cX1_change 37 = .ok (.iload_n 2, 1) := by decide +kernel
theorem dX1_change_38 : decode cX1_change 38 = .ok (.iastore, 1) := by decide +kernel
theorem dX1_change_39 : decode cX1_change 39 = .ok (.iload_n 3, 1) := by decide +kernel
theorem dX1_change_40 : decode cX1_change 40 = .ok (.ireturn, 1) := by decide +kernel
theorem dX1_fewestStrains_0 : decode cX1_fewestStrains 0 = .ok (.aload_n 0, 1) := by decide +kernel
theorem dX1_fewestStrains_1 : decode cX1_fewestStrains 1 = .ok (.aload_n 1, 1) := by decide +kernel
theorem dX1_fewestStrains_2 : decode cX1_fewestStrains 2 = .ok (.invokevirtual 24, 3) := by decide +kernel
theorem dX1_fewestStrains_5 : decode cX1_fewestStrains 5 = .ok (.aload_n 0, 1) := by decide +kernel
theorem dX1_fewestStrains_6 : decode cX1_fewestStrains 6 = .ok (.getfield 17, 3) := by decide +kernel
theorem dX1_fewestStrains_9 : decode cX1_fewestStrains 9 = .ok (.iconst 0, 1) := by decide +kernel
theorem dX1_fewestStrains_10 : decode cX1_fewestStrains 10 = .ok (.iaload, 1) := by decide +kernel
theorem dX1_fewestStrains_11 : decode cX1_fewestStrains 11 = .ok (.aload_n 0, 1) := by decide +kernel
theorem dX1_fewestStrains_12 : decode cX1_fewestStrains 12 = .ok (.getfield 20, 3) := by decide +kernel
theorem dX1_fewestStrains_15 : decode cX1_fewestStrains 15 = .ok (.iconst 0, 1) := by decide +kernel
theorem dX1_fewestStrains_16 : decode cX1_fewestStrains 16 = .ok (.iaload, 1) := by decide +kernel
theorem dX1_fewestStrains_17 : decode cX1_fewestStrains 17 = .ok (.invokestatic 28, 3) := by decide +kernel
theorem dX1_fewestStrains_20 : decode cX1_fewestStrains 20 = .ok (.ireturn, 1) := by decide +kernel
theorem dX1_handAt_0 : decode cX1_handAt 0 = .ok (.aload_n 0, 1) := by decide +kernel
theorem dX1_handAt_1 : decode cX1_handAt 1 = .ok (.aload_n 1, 1) := by decide +kernel
theorem dX1_handAt_2 : decode cX1_handAt 2 = .ok (.invokevirtual 24, 3) := by decide +kernel
theorem dX1_handAt_5 : decode cX1_handAt 5 = .ok (.iconst 0, 1) := by decide +kernel
theorem dX1_handAt_6 : decode cX1_handAt 6 = .ok (.istore_n 3, 1) := by decide +kernel
theorem dX1_handAt_7 : decode cX1_handAt 7 = .ok (.iconst 0, 1) := by decide +kernel
theorem dX1_handAt_8 : decode cX1_handAt 8 = .ok (.istore 4, 2) := by decide +kernel
theorem dX1_handAt_10 : decode cX1_handAt 10 = .ok (.iload 4, 2) := by decide +kernel
theorem dX1_handAt_12 : decode cX1_handAt 12 = .ok (.iload_n 2, 1) := by decide +kernel
theorem dX1_handAt_13 : decode cX1_handAt 13 = .ok (.if_icmp .gt 85, 3) := by decide +kernel
theorem dX1_handAt_16 : decode cX1_handAt 16 = .ok (.iload 4, 2) := by decide +kernel
theorem dX1_handAt_18 : decode cX1_handAt 18 = .ok (.aload_n 1, 1) := by decide +kernel
theorem dX1_handAt_19 : decode cX1_handAt 19 = .ok (.getfield 34, 3) := by decide +kernel
theorem dX1_handAt_22 : decode cX1_handAt 22 = .ok (.if_icmp .ge 76, 3) := by decide +kernel
theorem dX1_handAt_25 : decode cX1_handAt 25 = .ok (.aload_n 0, 1) := by decide +kernel
theorem dX1_handAt_26 : decode cX1_handAt 26 = .ok (.aload_n 1, 1) := by decide +kernel
theorem dX1_handAt_27 : decode cX1_handAt 27 = .ok (.iload 4, 2) := by decide +kernel
theorem dX1_handAt_29 : decode cX1_handAt 29 = .ok (.iconst 0, 1) := by decide +kernel
theorem dX1_handAt_30 : decode cX1_handAt 30 = .ok (.invokevirtual 38, 3) := by decide +kernel
theorem dX1_handAt_33 : decode cX1_handAt 33 = .ok (.istore 5, 2) := by decide +kernel
theorem dX1_handAt_35 : decode cX1_handAt 35 = .ok (.aload_n 0, 1) := by decide +kernel
theorem dX1_handAt_36 : decode cX1_handAt 36 = .ok (.aload_n 1, 1) := by decide +kernel
theorem dX1_handAt_37 : decode cX1_handAt 37 = .ok (.iload 4, 2) := by decide +kernel
theorem dX1_handAt_39 : decode cX1_handAt 39 = .ok (.iconst 1, 1) := by decide +kernel
theorem dX1_handAt_40 : decode cX1_handAt 40 = .ok (.invokevirtual 38, 3) := by decide +kernel
theorem dX1_handAt_43 : decode cX1_handAt 43 = .ok (.istore 6, 2) := by decide +kernel
theorem dX1_handAt_45 : decode cX1_handAt 45 = .ok (.iload_n 3, 1) := by decide +kernel
theorem dX1_handAt_46 : decode cX1_handAt 46 = .ok (.iload 5, 2) := by decide +kernel
theorem dX1_handAt_48 : decode cX1_handAt 48 = .ok (.invokestatic 42, 3) := by decide +kernel
theorem dX1_handAt_51 : decode cX1_handAt 51 = .ok (.aload_n 0, 1) := by decide +kernel
theorem dX1_handAt_52 : decode cX1_handAt 52 = .ok (.getfield 17, 3) := by decide +kernel
theorem dX1_handAt_55 : decode cX1_handAt 55 = .ok (.iload 4, 2) := by decide +kernel
theorem dX1_handAt_57 : decode cX1_handAt 57 = .ok (.iaload, 1) := by decide +kernel
theorem dX1_handAt_58 : decode cX1_handAt 58 = .ok (.iadd, 1) := by decide +kernel
theorem dX1_handAt_59 : decode cX1_handAt 59 = .ok (.istore 7, 2) := by decide +kernel
theorem dX1_handAt_61 : decode cX1_handAt 61 = .ok (.iload_n 3, 1) := by decide +kernel
theorem dX1_handAt_62 : decode cX1_handAt 62 = .ok (.iload 6, 2) := by decide +kernel
theorem dX1_handAt_64 : decode cX1_handAt 64 = .ok (.invokestatic 42, 3) := by decide +kernel
theorem dX1_handAt_67 : decode cX1_handAt 67 = .ok (.aload_n 0, 1) := by decide +kernel
theorem dX1_handAt_68 : decode cX1_handAt 68 = .ok (.getfield 20, 3) := by decide +kernel
theorem dX1_handAt_71 : decode cX1_handAt 71 = .ok (.iload 4, 2) := by decide +kernel
theorem dX1_handAt_73 : decode cX1_handAt 73 = .ok (.iaload, 1) := by decide +kernel
theorem dX1_handAt_74 : decode cX1_handAt 74 = .ok (.iadd, 1) := by decide +kernel
theorem dX1_handAt_75 : decode cX1_handAt 75 = .ok (.istore 8, 2) := by decide +kernel
theorem dX1_handAt_77 : decode cX1_handAt 77 = .ok (.iload 7, 2) := by decide +kernel
theorem dX1_handAt_79 : decode cX1_handAt 79 = .ok (.iload 8, 2) := by decide +kernel
theorem dX1_handAt_81 : decode cX1_handAt 81 = .ok (.if_icmp .gt 8, 3) := by decide +kernel
theorem dX1_handAt_84 : decode cX1_handAt 84 = .ok (.iload 5, 2) := by decide +kernel
theorem dX1_handAt_86 : decode cX1_handAt 86 = .ok (.goto 5, 3) := by decide +kernel
theorem dX1_handAt_89 : decode cX1_handAt 89 = .ok (.iload 6, 2) := by decide +kernel
theorem dX1_handAt_91 : decode cX1_handAt 91 = .ok (.istore_n 3, 1) := by decide +kernel
theorem dX1_handAt_92 : decode cX1_handAt 92 = .ok (.iinc 4 1, 3) := by decide +kernel
theorem dX1_handAt_95 : decode cX1_handAt 95 = .ok (.goto (-85), 3) := by decide +kernel
theorem dX1_handAt_98 : decode cX1_handAt 98 = .ok (.iload_n 3, 1) := by decide +kernel
theorem dX1_handAt_99 : decode cX1_handAt 99 = .ok (.ifCond .ne 8, 3) := by decide +kernel
theorem dX1_handAt_102 : decode cX1_handAt 102 = .ok (.ldc 45, 2) := by decide +kernel
theorem dX1_handAt_104 : decode cX1_handAt 104 = .ok (.goto 6, 3) := by decide +kernel
theorem dX1_handAt_107 : decode cX1_handAt 107 = .ok (.iload_n 3, 1) := by decide +kernel
theorem dX1_handAt_108 : decode cX1_handAt 108 = .ok (.iconst 1, 1) := by decide +kernel
theorem dX1_handAt_109 : decode cX1_handAt 109 = .ok (.isub, 1) := by decide +kernel
theorem dX1_handAt_110 : decode cX1_handAt 110 = .ok (.ireturn, 1) := by decide +kernel
theorem dX1_weigh_0 : decode cX1_weigh 0 = .ok (.aload_n 1, 1) := by decide +kernel
theorem dX1_weigh_1 : decode cX1_weigh 1 = .ok (.getfield 34, 3) := by decide +kernel
theorem dX1_weigh_4 : decode cX1_weigh 4 = .ok (.iconst 1, 1) := by decide +kernel
theorem dX1_weigh_5 : decode cX1_weigh 5 = .ok (.isub, 1) := by decide +kernel
theorem dX1_weigh_6 : decode cX1_weigh 6 = .ok (.istore_n 2, 1) := by decide +kernel
theorem dX1_weigh_7 : decode cX1_weigh 7 = .ok (.iload_n 2, 1) := by decide +kernel
theorem dX1_weigh_8 : decode cX1_weigh 8 = .ok (.ifCond .lt 47, 3) := by decide +kernel
theorem dX1_weigh_11 : decode cX1_weigh 11 = .ok (.aload_n 0, 1) := by decide +kernel
theorem dX1_weigh_12 : decode cX1_weigh 12 = .ok (.getfield 17, 3) := by decide +kernel
theorem dX1_weigh_15 : decode cX1_weigh 15 = .ok (.iload_n 2, 1) := by decide +kernel
theorem dX1_weigh_16 : decode cX1_weigh 16 = .ok (.aload_n 0, 1) := by decide +kernel
theorem dX1_weigh_17 : decode cX1_weigh 17 = .ok (.aload_n 1, 1) := by decide +kernel
theorem dX1_weigh_18 : decode cX1_weigh 18 = .ok (.iload_n 2, 1) := by decide +kernel
theorem dX1_weigh_19 : decode cX1_weigh 19 = .ok (.aload_n 0, 1) := by decide +kernel
theorem dX1_weigh_20 : decode cX1_weigh 20 = .ok (.aload_n 1, 1) := by decide +kernel
theorem dX1_weigh_21 : decode cX1_weigh 21 = .ok (.iload_n 2, 1) := by decide +kernel
theorem dX1_weigh_22 : decode cX1_weigh 22 = .ok (.iconst 0, 1) := by decide +kernel
theorem dX1_weigh_23 : decode cX1_weigh 23 = .ok (.invokevirtual 38, 3) := by decide +kernel
theorem dX1_weigh_26 : decode cX1_weigh 26 = .ok (.invokevirtual 46, 3) := by decide +kernel
theorem dX1_weigh_29 : decode cX1_weigh 29 = .ok (.iastore, 1) := by decide +kernel
theorem dX1_weigh_30 : decode cX1_weigh 30 = .ok (.aload_n 0, 1) := by decide +kernel
theorem dX1_weigh_31 : decode cX1_weigh 31 = .ok (.getfield 20, 3) := by decide +kernel
theorem dX1_weigh_34 : decode cX1_weigh 34 = .ok (.iload_n 2, 1) := by decide +kernel
theorem dX1_weigh_35 : decode cX1_weigh 35 = .ok (.aload_n 0, 1) := by decide +kernel
theorem dX1_weigh_36 : decode cX1_weigh 36 = .ok (.aload_n 1, 1) := by decide +kernel
theorem dX1_weigh_37 : decode cX1_weigh 37 = .ok (.iload_n 2, 1) := by decide +kernel
theorem dX1_weigh_38 : decode cX1_weigh 38 = .ok (.aload_n 0, 1) := by decide +kernel
theorem dX1_weigh_39 : decode cX1_weigh 39 = .ok (.aload_n 1, 1) := by decide +kernel
theorem dX1_weigh_40 : decode cX1_weigh 40 = .ok (.iload_n 2, 1) := by decide +kernel
theorem dX1_weigh_41 : decode cX1_weigh 41 = .ok (.iconst 1, 1) := by decide +kernel
theorem dX1_weigh_42 : decode cX1_weigh 42 = .ok (.invokevirtual 38, 3) := by decide +kernel
theorem dX1_weigh_45 : decode cX1_weigh 45 = .ok (.invokevirtual 46, 3) := by decide +kernel
theorem dX1_weigh_48 : decode cX1_weigh 48 = .ok (.iastore, 1) := by decide +kernel
theorem dX1_weigh_49 : decode cX1_weigh 49 = .ok (.iinc 2 (-1), 3) := by decide +kernel
theorem dX1_weigh_52 : decode cX1_weigh 52 = .ok (.goto (-45), 3) := by decide +kernel
theorem dX1_weigh_55 : decode cX1_weigh 55 = .ok (.return_, 1) := by decide +kernel
theorem dX1_fewestBehind_0 : decode cX1_fewestBehind 0 = .ok (.iload_n 2, 1) := by decide +kernel
theorem dX1_fewestBehind_1 : decode cX1_fewestBehind 1 = .ok (.iconst 1, 1) := by decide +kernel
theorem dX1_fewestBehind_2 : decode cX1_fewestBehind 2 = .ok (.iadd, 1) := by decide +kernel
theorem dX1_fewestBehind_3 : decode cX1_fewestBehind 3 = .ok (.istore 4, 2) := by decide +kernel
theorem dX1_fewestBehind_5 : decode cX1_fewestBehind 5 = .ok (.iload 4, 2) := by decide +kernel
theorem dX1_fewestBehind_7 : decode cX1_fewestBehind 7 = .ok (.aload_n 1, 1) := by decide +kernel
theorem dX1_fewestBehind_8 : decode cX1_fewestBehind 8 = .ok (.getfield 34, 3) := by decide +kernel
theorem dX1_fewestBehind_11 : decode cX1_fewestBehind 11 = .ok (.if_icmp .lt 5, 3) := by decide +kernel
theorem dX1_fewestBehind_14 : decode cX1_fewestBehind 14 = .ok (.iconst 0, 1) := by decide +kernel
theorem dX1_fewestBehind_15 : decode cX1_fewestBehind 15 = .ok (.ireturn, 1) := by decide +kernel
theorem dX1_fewestBehind_16 : decode cX1_fewestBehind 16 = .ok (.iload_n 3, 1) := by decide +kernel
theorem dX1_fewestBehind_17 : decode cX1_fewestBehind 17 = .ok (.aload_n 0, 1) := by decide +kernel
theorem dX1_fewestBehind_18 : decode cX1_fewestBehind 18 = .ok (.aload_n 1, 1) := by decide +kernel
theorem dX1_fewestBehind_19 : decode cX1_fewestBehind 19 = .ok (.iload 4, 2) := by decide +kernel
theorem dX1_fewestBehind_21 : decode cX1_fewestBehind 21 = .ok (.iconst 0, 1) := by decide +kernel
theorem dX1_fewestBehind_22 : decode cX1_fewestBehind 22 = .ok (.invokevirtual 38, 3) := by decide +kernel
theorem dX1_fewestBehind_25 : decode cX1_fewestBehind 25 = .ok (.invokestatic 42, 3) := by decide +kernel
theorem dX1_fewestBehind_28 : decode cX1_fewestBehind 28 = .ok (.aload_n 0, 1) := by decide +kernel
theorem dX1_fewestBehind_29 : decode cX1_fewestBehind 29 = .ok (.getfield 17, 3) := by decide +kernel
theorem dX1_fewestBehind_32 : decode cX1_fewestBehind 32 = .ok (.iload 4, 2) := by decide +kernel
theorem dX1_fewestBehind_34 : decode cX1_fewestBehind 34 = .ok (.iaload, 1) := by decide +kernel
theorem dX1_fewestBehind_35 : decode cX1_fewestBehind 35 = .ok (.iadd, 1) := by decide +kernel
theorem dX1_fewestBehind_36 : decode cX1_fewestBehind 36 = .ok (.istore 5, 2) := by decide +kernel
theorem dX1_fewestBehind_38 : decode cX1_fewestBehind 38 = .ok (.iload_n 3, 1) := by decide +kernel
theorem dX1_fewestBehind_39 : decode cX1_fewestBehind 39 = .ok (.aload_n 0, 1) := by decide +kernel
theorem dX1_fewestBehind_40 : decode cX1_fewestBehind 40 = .ok (.aload_n 1, 1) := by decide +kernel
theorem dX1_fewestBehind_41 : decode cX1_fewestBehind 41 = .ok (.iload 4, 2) := by decide +kernel
theorem dX1_fewestBehind_43 : decode cX1_fewestBehind 43 = .ok (.iconst 1, 1) := by decide +kernel
theorem dX1_fewestBehind_44 : decode cX1_fewestBehind 44 = .ok (.invokevirtual 38, 3) := by decide +kernel
theorem dX1_fewestBehind_47 : decode cX1_fewestBehind 47 = .ok (.invokestatic 42, 3) := by decide +kernel
theorem dX1_fewestBehind_50 : decode cX1_fewestBehind 50 = .ok (.aload_n 0, 1) := by decide +kernel
theorem dX1_fewestBehind_51 : decode cX1_fewestBehind 51 = .ok (.getfield 20, 3) := by decide +kernel
theorem dX1_fewestBehind_54 : decode cX1_fewestBehind 54 = .ok (.iload 4, 2) := by decide +kernel
theorem dX1_fewestBehind_56 : decode cX1_fewestBehind 56 = .ok (.iaload, 1) := by decide +kernel
theorem dX1_fewestBehind_57 : decode cX1_fewestBehind 57 = .ok (.iadd, 1) := by decide +kernel
theorem dX1_fewestBehind_58 : decode cX1_fewestBehind 58 = .ok (.istore 6, 2) := by decide +kernel
theorem dX1_fewestBehind_60 : decode cX1_fewestBehind 60 = .ok (.iload 5, 2) := by decide +kernel
theorem dX1_fewestBehind_62 : decode cX1_fewestBehind 62 = .ok (.iload 6, 2) := by decide +kernel
theorem dX1_fewestBehind_64 : decode cX1_fewestBehind 64 = .ok (.invokestatic 28, 3) := by decide +kernel
theorem dX1_fewestBehind_67 : decode cX1_fewestBehind 67 = .ok (.ireturn, 1) := by decide +kernel
theorem dX1_usedAt_0 : decode cX1_usedAt 0 = .ok (.aload_n 1, 1) := by decide +kernel
theorem dX1_usedAt_1 : decode cX1_usedAt 1 = .ok (.iload_n 2, 1) := by decide +kernel
theorem dX1_usedAt_2 : decode cX1_usedAt 2 = .ok (.invokevirtual 49, 3) := by decide +kernel
theorem dX1_usedAt_5 : decode cX1_usedAt 5 = .ok (.istore 4, 2) := by decide +kernel
theorem dX1_usedAt_7 : decode cX1_usedAt 7 = .ok (.iload 4, 2) := by decide +kernel
theorem dX1_usedAt_9 : decode cX1_usedAt 9 = .ok (.ifCond .lt 13, 3) := by decide +kernel
theorem dX1_usedAt_12 : decode cX1_usedAt 12 = .ok (.iload 4, 2) := by decide +kernel
theorem dX1_usedAt_14 : decode cX1_usedAt 14 = .ok (.aload_n 0, 1) := by decide +kernel
theorem dX1_usedAt_15 : decode cX1_usedAt 15 = .ok (.getfield 11, 3) := by decide +kernel
theorem dX1_usedAt_18 : decode cX1_usedAt 18 = .ok (.arraylength, 1) := by decide +kernel
theorem dX1_usedAt_19 : decode cX1_usedAt 19 = .ok (.if_icmp .lt 5, 3) := by decide +kernel
theorem dX1_usedAt_22 : decode cX1_usedAt 22 = .ok (.iconst 0, 1) := by decide +kernel
theorem dX1_usedAt_23 : decode cX1_usedAt 23 = .ok (.ireturn, 1) := by decide +kernel
theorem dX1_usedAt_24 : decode cX1_usedAt 24 = .ok (.aload_n 0, 1) := by decide +kernel
theorem dX1_usedAt_25 : decode cX1_usedAt 25 = .ok (.getfield 11, 3) := by decide +kernel
theorem dX1_usedAt_28 : decode cX1_usedAt 28 = .ok (.iload 4, 2) := by decide +kernel
theorem dX1_usedAt_30 : decode cX1_usedAt 30 = .ok (.iaload, 1) := by decide +kernel
theorem dX1_usedAt_31 : decode cX1_usedAt 31 = .ok (.istore 5, 2) := by decide +kernel
theorem dX1_usedAt_33 : decode cX1_usedAt 33 = .ok (.iload 5, 2) := by decide +kernel
theorem dX1_usedAt_35 : decode cX1_usedAt 35 = .ok (.iconst 3, 1) := by decide +kernel
theorem dX1_usedAt_36 : decode cX1_usedAt 36 = .ok (.if_icmp .ne 7, 3) := by decide +kernel
theorem dX1_usedAt_39 : decode cX1_usedAt 39 = .ok (.iload_n 3, 1) := by decide +kernel
theorem dX1_usedAt_40 : decode cX1_usedAt 40 = .ok (.goto 5, 3) := by decide +kernel
theorem dX1_usedAt_43 : decode cX1_usedAt 43 = .ok (.iload 5, 2) := by decide +kernel
theorem dX1_usedAt_45 : decode cX1_usedAt 45 = .ok (.iconst 1, 1) := by decide +kernel
theorem dX1_usedAt_46 : decode cX1_usedAt 46 = .ok (.iadd, 1) := by decide +kernel
theorem dX1_usedAt_47 : decode cX1_usedAt 47 = .ok (.ireturn, 1) := by decide +kernel
theorem dX1_strainOf_0 : decode cX1_strainOf 0 = .ok (.iload_n 0, 1) := by decide +kernel
theorem dX1_strainOf_1 : decode cX1_strainOf 1 = .ok (.iload_n 1, 1) := by decide +kernel
theorem dX1_strainOf_2 : decode cX1_strainOf 2 = .ok (.iand, 1) := by decide +kernel
theorem dX1_strainOf_3 : decode cX1_strainOf 3 = .ok (.ifCond .eq 7, 3) := by decide +kernel
theorem dX1_strainOf_6 : decode cX1_strainOf 6 = .ok (.iconst 1, 1) := by decide +kernel
theorem dX1_strainOf_7 : decode cX1_strainOf 7 = .ok (.goto 4, 3) := by decide +kernel
theorem dX1_strainOf_10 : decode cX1_strainOf 10 = .ok (.iconst 0, 1) := by decide +kernel
theorem dX1_strainOf_11 : decode cX1_strainOf 11 = .ok (.ireturn, 1) := by decide +kernel
theorem dX2_init_0 : decode cX2_init 0 = .ok (.aload_n 0, 1) := by decide +kernel
theorem dX2_init_1 : decode cX2_init 1 = .ok (.invokespecial 3, 3) := by decide +kernel
theorem dX2_init_4 : decode cX2_init 4 = .ok (.aload_n 0, 1) := by decide +kernel
theorem dX2_init_5 : decode cX2_init 5 = .ok (.bipush 60, 2) := by decide +kernel
theorem dX2_init_7 : decode cX2_init 7 = .ok (.newarray .byte, 2) := by decide +kernel
theorem dX2_init_9 : decode cX2_init 9 = .ok (.putfield 11, 3) := by decide +kernel
theorem dX2_init_12 : decode cX2_init 12 = .ok (.aload_n 0, 1) := by decide +kernel
theorem dX2_init_13 : decode cX2_init 13 = .ok (.iconst 0, 1) := by decide +kernel
theorem dX2_init_14 : decode cX2_init 14 = .ok (.putfield 15, 3) := by decide +kernel
theorem dX2_init_17 : decode cX2_init 17 = .ok (.return_, 1) := by decide +kernel
theorem dX2_at_0 : decode cX2_at 0 = .ok (.iload_n 1, 1) := by decide +kernel
theorem dX2_at_1 : decode cX2_at 1 = .ok (.ifCond .lt 20, 3) := by decide +kernel
theorem dX2_at_4 : decode cX2_at 4 = .ok (.iload_n 1, 1) := by decide +kernel
theorem dX2_at_5 : decode cX2_at 5 = .ok (.aload_n 0, 1) := by decide +kernel
theorem dX2_at_6 : decode cX2_at 6 = .ok (.getfield 15, 3) := by decide +kernel
theorem dX2_at_9 : decode cX2_at 9 = .ok (.if_icmp .ge 12, 3) := by decide +kernel
theorem dX2_at_12 : decode cX2_at 12 = .ok (.aload_n 0, 1) := by decide +kernel
theorem dX2_at_13 : decode cX2_at 13 = .ok (.getfield 11, 3) := by decide +kernel
theorem dX2_at_16 : decode cX2_at 16 = .ok (.iload_n 1, 1) := by decide +kernel
theorem dX2_at_17 : decode cX2_at 17 = .ok (.baload, 1) := by decide +kernel
theorem dX2_at_18 : decode cX2_at 18 = .ok (.goto 5, 3) := by decide +kernel
theorem dX2_at_21 : decode cX2_at 21 = .ok (.ldc 19, 2) := by decide +kernel
theorem dX2_at_23 : decode cX2_at 23 = .ok (.ireturn, 1) := by decide +kernel
theorem dX2_rowsBy_0 : decode cX2_rowsBy 0 = .ok (.iload_n 1, 1) := by decide +kernel
theorem dX2_rowsBy_1 : decode cX2_rowsBy 1 = .ok (.ifCond .gt 7, 3) := by decide +kernel
theorem dX2_rowsBy_4 : decode cX2_rowsBy 4 = .ok (.iconst 0, 1) := by decide +kernel
theorem dX2_rowsBy_5 : decode cX2_rowsBy 5 = .ok (.goto 13, 3) := by decide +kernel
theorem dX2_rowsBy_8 : decode cX2_rowsBy 8 = .ok (.aload_n 0, 1) := by decide +kernel
theorem dX2_rowsBy_9 : decode cX2_rowsBy 9 = .ok (.getfield 15, 3) := by decide +kernel
theorem dX2_rowsBy_12 : decode cX2_rowsBy 12 = .ok (.iload_n 1, 1) := by decide +kernel
theorem dX2_rowsBy_13 : decode cX2_rowsBy 13 = .ok (.iadd, 1) := by decide +kernel
theorem dX2_rowsBy_14 : decode cX2_rowsBy 14 = .ok (.iconst 1, 1) := by decide +kernel
theorem dX2_rowsBy_15 : decode cX2_rowsBy 15 = .ok (.isub, 1) := by decide +kernel
theorem dX2_rowsBy_16 : decode cX2_rowsBy 16 = .ok (.iload_n 1, 1) := by decide +kernel
theorem dX2_rowsBy_17 : decode cX2_rowsBy 17 = .ok (.idiv, 1) := by decide +kernel
theorem dX2_rowsBy_18 : decode cX2_rowsBy 18 = .ok (.ireturn, 1) := by decide +kernel
theorem dX3_init_0 : decode cX3_init 0 = .ok (.aload_n 0, 1) := by decide +kernel
theorem dX3_init_1 : decode cX3_init 1 = .ok (.invokespecial 3, 3) := by decide +kernel
theorem dX3_init_4 : decode cX3_init 4 = .ok (.aload_n 0, 1) := by decide +kernel
theorem dX3_init_5 : decode cX3_init 5 = .ok (.bipush 60, 2) := by decide +kernel
theorem dX3_init_7 : decode cX3_init 7 = .ok (.newarray .byte, 2) := by decide +kernel
theorem dX3_init_9 : decode cX3_init 9 = .ok (.putfield 11, 3) := by decide +kernel
theorem dX3_init_12 : decode cX3_init 12 = .ok (.aload_n 0, 1) := by decide +kernel
theorem dX3_init_13 : decode cX3_init 13 = .ok (.iconst (-1), 1) := by decide +kernel
theorem dX3_init_14 : decode cX3_init 14 = .ok (.putfield 15, 3) := by decide +kernel
theorem dX3_init_17 : decode cX3_init 17 = .ok (.return_, 1) := by decide +kernel
theorem dX3_isMissing_0 : decode cX3_isMissing 0 = .ok (.aload_n 0, 1) := by decide +kernel
theorem dX3_isMissing_1 : decode cX3_isMissing 1 = .ok (.getfield 15, 3) := by decide +kernel
theorem dX3_isMissing_4 : decode cX3_isMissing 4 = .ok (.iconst (-1), 1) := by decide +kernel
theorem dX3_isMissing_5 : decode cX3_isMissing 5 = .ok (.if_icmp .ne 7, 3) := by decide +kernel
theorem dX3_isMissing_8 : decode cX3_isMissing 8 = .ok (.iconst 1, 1) := by decide +kernel
theorem dX3_isMissing_9 : decode cX3_isMissing 9 = .ok (.goto 4, 3) := by decide +kernel
theorem dX3_isMissing_12 : decode cX3_isMissing 12 = .ok (.iconst 0, 1) := by decide +kernel
theorem dX3_isMissing_13 : decode cX3_isMissing 13 = .ok (.ireturn, 1) := by decide +kernel
theorem dX3_layOut_0 : decode cX3_layOut 0 = .ok (.iconst 0, 1) := by decide +kernel
theorem dX3_layOut_1 : decode cX3_layOut 1 = .ok (.istore_n 2, 1) := by decide +kernel
theorem dX3_layOut_2 : decode cX3_layOut 2 = .ok (.iload_n 2, 1) := by decide +kernel
theorem dX3_layOut_3 : decode cX3_layOut 3 = .ok (.aload_n 0, 1) := by decide +kernel
theorem dX3_layOut_4 : decode cX3_layOut 4 = .ok (.getfield 11, 3) := by decide +kernel
theorem dX3_layOut_7 : decode cX3_layOut 7 = .ok (.arraylength, 1) := by decide +kernel
theorem dX3_layOut_8 : decode cX3_layOut 8 = .ok (.if_icmp .ge 16, 3) := by decide +kernel
theorem dX3_layOut_11 : decode cX3_layOut 11 = .ok (.aload_n 0, 1) := by decide +kernel
theorem dX3_layOut_12 : decode cX3_layOut 12 = .ok (.getfield 11, 3) := by decide +kernel
theorem dX3_layOut_15 : decode cX3_layOut 15 = .ok (.iload_n 2, 1) := by decide +kernel
theorem dX3_layOut_16 : decode cX3_layOut 16 = .ok (.iconst 0, 1) := by decide +kernel
theorem dX3_layOut_17 : decode cX3_layOut 17 = .ok (.bastore, 1) := by decide +kernel
theorem dX3_layOut_18 : decode cX3_layOut 18 = .ok (.iinc 2 1, 3) := by decide +kernel
theorem dX3_layOut_21 : decode cX3_layOut 21 = .ok (.goto (-19), 3) := by decide +kernel
theorem dX3_layOut_24 : decode cX3_layOut 24 = .ok (.aload_n 0, 1) := by decide +kernel
theorem dX3_layOut_25 : decode cX3_layOut 25 = .ok (.iload_n 1, 1) := by decide +kernel
theorem dX3_layOut_26 : decode cX3_layOut 26 = .ok (.putfield 15, 3) := by decide +kernel
theorem dX3_layOut_29 : decode cX3_layOut 29 = .ok (.return_, 1) := by decide +kernel
theorem dX3_change_0 : decode cX3_change 0 = .ok (.iload_n 1, 1) := by decide +kernel
theorem dX3_change_1 : decode cX3_change 1 = .ok (.ifCond .lt 11, 3) := by decide +kernel
theorem dX3_change_4 : decode cX3_change 4 = .ok (.iload_n 1, 1) := by decide +kernel
theorem dX3_change_5 : decode cX3_change 5 = .ok (.aload_n 0, 1) := by decide +kernel
theorem dX3_change_6 : decode cX3_change 6 = .ok (.getfield 15, 3) := by decide +kernel
theorem dX3_change_9 : decode cX3_change 9 = .ok (.if_icmp .lt 6, 3) := by decide +kernel
theorem dX3_change_12 : decode cX3_change 12 = .ok (.ldc 19, 2) := by decide +kernel
theorem dX3_change_14 : decode cX3_change 14 = .ok (.ireturn, 1) := by decide +kernel
theorem dX3_change_15 : decode cX3_change 15 = .ok (.aload_n 0, 1) := by decide +kernel
theorem dX3_change_16 : decode cX3_change 16 = .ok (.getfield 11, 3) := by decide +kernel
theorem dX3_change_19 : decode cX3_change 19 = .ok (.iload_n 1, 1) := by decide +kernel
theorem dX3_change_20 : decode cX3_change 20 = .ok (.baload, 1) := by decide +kernel
theorem dX3_change_21 : decode cX3_change 21 = .ok (.istore_n 3, 1) := by decide +kernel
theorem dX3_change_22 : decode cX3_change 22 = .ok (.aload_n 0, 1) := by decide +kernel
theorem dX3_change_23 : decode cX3_change 23 = .ok (.getfield 11, 3) := by decide +kernel
theorem dX3_change_26 : decode cX3_change 26 = .ok (.iload_n 1, 1) := by decide +kernel
theorem dX3_change_27 : decode cX3_change 27 = .ok (.iload_n 2, 1) := by decide +kernel
theorem dX3_change_28 : decode cX3_change 28 = .ok (.bastore, 1) := by decide +kernel
theorem dX3_change_29 : decode cX3_change 29 = .ok (.iload_n 3, 1) := by decide +kernel
theorem dX3_change_30 : decode cX3_change 30 = .ok (.ireturn, 1) := by decide +kernel
theorem dX4_init_0 : decode cX4_init 0 = .ok (.aload_n 0, 1) := by decide +kernel
theorem dX4_init_1 : decode cX4_init 1 = .ok (.invokespecial 3, 3) := by decide +kernel
theorem dX4_init_4 : decode cX4_init 4 = .ok (.aload_n 0, 1) := by decide +kernel
theorem dX4_init_5 : decode cX4_init 5 = .ok (.bipush 20, 2) := by decide +kernel
theorem dX4_init_7 : decode cX4_init 7 = .ok (.newarray .int, 2) := by decide +kernel
theorem dX4_init_9 : decode cX4_init 9 = .ok (.putfield 11, 3) := by decide +kernel
theorem dX4_init_12 : decode cX4_init 12 = .ok (.aload_n 0, 1) := by decide +kernel
theorem dX4_init_13 : decode cX4_init 13 = .ok (.bipush 20, 2) := by decide +kernel
theorem dX4_init_15 : decode cX4_init 15 = .ok (.newarray .int, 2) := by decide +kernel
theorem dX4_init_17 : decode cX4_init 17 = .ok (.putfield 15, 3) := by decide +kernel
theorem dX4_init_20 : decode cX4_init 20 = .ok (.aload_n 0, 1) := by decide +kernel
theorem dX4_init_21 : decode cX4_init 21 = .ok (.iconst 0, 1) := by decide +kernel
theorem dX4_init_22 : decode cX4_init 22 = .ok (.putfield 18, 3) := by decide +kernel
theorem dX4_init_25 : decode cX4_init 25 = .ok (.return_, 1) := by decide +kernel
theorem dX4_take_0 : decode cX4_take 0 = .ok (.aload_n 0, 1) := by decide +kernel
theorem dX4_take_1 : decode cX4_take 1 = .ok (.getfield 18, 3) := by decide +kernel
theorem dX4_take_4 : decode cX4_take 4 = .ok (.bipush 20, 2) := by decide +kernel
theorem dX4_take_6 : decode cX4_take 6 = .ok (.if_icmp .lt 6, 3) := by decide +kernel
theorem dX4_take_9 : decode cX4_take 9 = .ok (.ldc 22, 2) := by decide +kernel
theorem dX4_take_11 : decode cX4_take 11 = .ok (.ireturn, 1) := by decide +kernel
theorem dX4_take_12 : decode cX4_take 12 = .ok (.aload_n 0, 1) := by decide +kernel
theorem dX4_take_13 : decode cX4_take 13 = .ok (.getfield 11, 3) := by decide +kernel
theorem dX4_take_16 : decode cX4_take 16 = .ok (.aload_n 0, 1) := by decide +kernel
theorem dX4_take_17 : decode cX4_take 17 = .ok (.getfield 18, 3) := by decide +kernel
theorem dX4_take_20 : decode cX4_take 20 = .ok (.iload_n 1, 1) := by decide +kernel
theorem dX4_take_21 : decode cX4_take 21 = .ok (.iastore, 1) := by decide +kernel
theorem dX4_take_22 : decode cX4_take 22 = .ok (.aload_n 0, 1) := by decide +kernel
theorem dX4_take_23 : decode cX4_take 23 = .ok (.getfield 15, 3) := by decide +kernel
theorem dX4_take_26 : decode cX4_take 26 = .ok (.aload_n 0, 1) := by decide +kernel
theorem dX4_take_27 : decode cX4_take 27 = .ok (.getfield 18, 3) := by decide +kernel
theorem dX4_take_30 : decode cX4_take 30 = .ok (.iload_n 2, 1) := by decide +kernel
theorem dX4_take_31 : decode cX4_take 31 = .ok (.iastore, 1) := by decide +kernel
theorem dX4_take_32 : decode cX4_take 32 = .ok (.aload_n 0, 1) := by decide +kernel
theorem dX4_take_33 : decode cX4_take 33 = .ok (.dup, 1) := by decide +kernel
theorem dX4_take_34 : decode cX4_take 34 = .ok (.getfield 18, 3) := by decide +kernel
theorem dX4_take_37 : decode cX4_take 37 = .ok (.iconst 1, 1) := by decide +kernel
theorem dX4_take_38 : decode cX4_take 38 = .ok (.iadd, 1) := by decide +kernel
theorem dX4_take_39 : decode cX4_take 39 = .ok (.putfield 18, 3) := by decide +kernel
theorem dX4_take_42 : decode cX4_take 42 = .ok (.aload_n 0, 1) := by decide +kernel
theorem dX4_take_43 : decode cX4_take 43 = .ok (.getfield 18, 3) := by decide +kernel
theorem dX4_take_46 : decode cX4_take 46 = .ok (.ireturn, 1) := by decide +kernel
theorem dX4_endOf_0 : decode cX4_endOf 0 = .ok (.iconst 0, 1) := by decide +kernel
theorem dX4_endOf_1 : decode cX4_endOf 1 = .ok (.istore_n 2, 1) := by decide +kernel
theorem dX4_endOf_2 : decode cX4_endOf 2 = .ok (.iconst 0, 1) := by decide +kernel
theorem dX4_endOf_3 : decode cX4_endOf 3 = .ok (.istore_n 3, 1) := by decide +kernel
theorem dX4_endOf_4 : decode cX4_endOf 4 = .ok (.iload_n 3, 1) := by decide +kernel
theorem dX4_endOf_5 : decode cX4_endOf 5 = .ok (.iload_n 1, 1) := by decide +kernel
theorem dX4_endOf_6 : decode cX4_endOf 6 = .ok (.if_icmp .gt 33, 3) := by decide +kernel
theorem dX4_endOf_9 : decode cX4_endOf 9 = .ok (.iload_n 3, 1) := by decide +kernel
theorem dX4_endOf_10 : decode cX4_endOf 10 = .ok (.aload_n 0, 1) := by decide +kernel
theorem dX4_endOf_11 : decode cX4_endOf 11 = .ok (.getfield 18, 3) := by decide +kernel
theorem dX4_endOf_14 : decode cX4_endOf 14 = .ok (.if_icmp .ge 25, 3) := by decide +kernel
theorem dX4_endOf_17 : decode cX4_endOf 17 = .ok (.iload_n 2, 1) := by decide +kernel
theorem dX4_endOf_18 : decode cX4_endOf 18 = .ok (.aload_n 0, 1) := by decide +kernel
theorem dX4_endOf_19 : decode cX4_endOf 19 = .ok (.getfield 11, 3) := by decide +kernel
theorem dX4_endOf_22 : decode cX4_endOf 22 = .ok (.iload_n 3, 1) := by decide +kernel
theorem dX4_endOf_23 : decode cX4_endOf 23 = .ok (.iaload, 1) := by decide +kernel
theorem dX4_endOf_24 : decode cX4_endOf 24 = .ok (.aload_n 0, 1) := by decide +kernel
theorem dX4_endOf_25 : decode cX4_endOf 25 = .ok (.getfield 15, 3) := by decide +kernel
theorem dX4_endOf_28 : decode cX4_endOf 28 = .ok (.iload_n 3, 1) := by decide +kernel
theorem dX4_endOf_29 : decode cX4_endOf 29 = .ok (.iaload, 1) := by decide +kernel
theorem dX4_endOf_30 : decode cX4_endOf 30 = .ok (.iadd, 1) := by decide +kernel
theorem dX4_endOf_31 : decode cX4_endOf 31 = .ok (.iadd, 1) := by decide +kernel
theorem dX4_endOf_32 : decode cX4_endOf 32 = .ok (.istore_n 2, 1) := by decide +kernel
theorem dX4_endOf_33 : decode cX4_endOf 33 = .ok (.iinc 3 1, 3) := by decide +kernel
theorem dX4_endOf_36 : decode cX4_endOf 36 = .ok (.goto (-32), 3) := by decide +kernel
theorem dX4_endOf_39 : decode cX4_endOf 39 = .ok (.iload_n 2, 1) := by decide +kernel
theorem dX4_endOf_40 : decode cX4_endOf 40 = .ok (.ireturn, 1) := by decide +kernel
theorem dX4_endWithoutLastGap_0 : decode cX4_endWithoutLastGap 0 = .ok (.aload_n 0, 1) := by decide +kernel
theorem dX4_endWithoutLastGap_1 : decode cX4_endWithoutLastGap 1 = .ok (.getfield 18, 3) := by decide +kernel
theorem dX4_endWithoutLastGap_4 : decode cX4_endWithoutLastGap 4 = .ok (.ifCond .gt 7, 3) := by decide +kernel
theorem dX4_endWithoutLastGap_7 : decode cX4_endWithoutLastGap 7 = .ok (.iconst 0, 1) := by decide +kernel
theorem dX4_endWithoutLastGap_8 : decode cX4_endWithoutLastGap 8 = .ok (.goto 25, 3) := by decide +kernel
theorem dX4_endWithoutLastGap_11 : decode cX4_endWithoutLastGap 11 = .ok (.aload_n 0, 1) := by decide +kernel
theorem dX4_endWithoutLastGap_12 : decode cX4_endWithoutLastGap 12 = .ok (.aload_n 0, 1) := by decide +kernel
theorem dX4_endWithoutLastGap_13 : decode cX4_endWithoutLastGap 13 = .ok (.getfield 18, 3) := by decide +kernel
theorem dX4_endWithoutLastGap_16 : decode cX4_endWithoutLastGap 16 = .ok (.iconst 1, 1) := by decide +kernel
theorem dX4_endWithoutLastGap_17 : decode cX4_endWithoutLastGap 17 = .ok (.isub, 1) := by decide +kernel
theorem dX4_endWithoutLastGap_18 : decode cX4_endWithoutLastGap 18 = .ok (.invokevirtual 23, 3) := by decide +kernel
theorem dX4_endWithoutLastGap_21 : decode cX4_endWithoutLastGap 21 = .ok (.aload_n 0, 1) := by decide +kernel
theorem dX4_endWithoutLastGap_22 : decode cX4_endWithoutLastGap 22 = .ok (.getfield 15, 3) := by decide +kernel
theorem dX4_endWithoutLastGap_25 : decode cX4_endWithoutLastGap 25 = .ok (.aload_n 0, 1) := by decide +kernel
theorem dX4_endWithoutLastGap_26 : decode cX4_endWithoutLastGap 26 = .ok (.getfield 18, 3) := by decide +kernel
theorem dX4_endWithoutLastGap_29 : decode cX4_endWithoutLastGap 29 = .ok (.iconst 1, 1) := by decide +kernel
theorem dX4_endWithoutLastGap_30 : decode cX4_endWithoutLastGap 30 = .ok (.isub, 1) := by decide +kernel
theorem dX4_endWithoutLastGap_31 : decode cX4_endWithoutLastGap 31 = .ok (.iaload, 1) := by decide +kernel
theorem dX4_endWithoutLastGap_32 : decode cX4_endWithoutLastGap 32 = .ok (.isub, 1) := by decide +kernel
theorem dX4_endWithoutLastGap_33 : decode cX4_endWithoutLastGap 33 = .ok (.ireturn, 1) := by decide +kernel
theorem dX4_endsAtOne_0 : decode cX4_endsAtOne 0 = .ok (.iload_n 1, 1) := by decide +kernel
theorem dX4_endsAtOne_1 : decode cX4_endsAtOne 1 = .ok (.ifCond .gt 5, 3) := by decide +kernel
theorem dX4_endsAtOne_4 : decode cX4_endsAtOne 4 = .ok (.iconst 0, 1) := by decide +kernel
theorem dX4_endsAtOne_5 : decode cX4_endsAtOne 5 = .ok (.ireturn, 1) := by decide +kernel
theorem dX4_endsAtOne_6 : decode cX4_endsAtOne 6 = .ok (.iconst 0, 1) := by decide +kernel
theorem dX4_endsAtOne_7 : decode cX4_endsAtOne 7 = .ok (.istore_n 2, 1) := by decide +kernel
theorem dX4_endsAtOne_8 : decode cX4_endsAtOne 8 = .ok (.iconst 0, 1) := by decide +kernel
theorem dX4_endsAtOne_9 : decode cX4_endsAtOne 9 = .ok (.istore_n 3, 1) := by decide +kernel
theorem dX4_endsAtOne_10 : decode cX4_endsAtOne 10 = .ok (.iconst 0, 1) := by decide +kernel
theorem dX4_endsAtOne_11 : decode cX4_endsAtOne 11 = .ok (.istore 4, 2) := by decide +kernel
theorem dX4_endsAtOne_13 : decode cX4_endsAtOne 13 = .ok (.iload 4, 2) := by decide +kernel
theorem dX4_endsAtOne_15 : decode cX4_endsAtOne 15 = .ok (.aload_n 0, 1) := by decide +kernel
theorem dX4_endsAtOne_16 : decode cX4_endsAtOne 16 = .ok (.getfield 18, 3) := by decide +kernel
theorem dX4_endsAtOne_19 : decode cX4_endsAtOne 19 = .ok (.if_icmp .ge 36, 3) := by decide +kernel
theorem dX4_endsAtOne_22 : decode cX4_endsAtOne 22 = .ok (.iload_n 3, 1) := by decide +kernel
theorem dX4_endsAtOne_23 : decode cX4_endsAtOne 23 = .ok (.aload_n 0, 1) := by decide +kernel
theorem dX4_endsAtOne_24 : decode cX4_endsAtOne 24 = .ok (.getfield 11, 3) := by decide +kernel
theorem dX4_endsAtOne_27 : decode cX4_endsAtOne 27 = .ok (.iload 4, 2) := by decide +kernel
theorem dX4_endsAtOne_29 : decode cX4_endsAtOne 29 = .ok (.iaload, 1) := by decide +kernel
theorem dX4_endsAtOne_30 : decode cX4_endsAtOne 30 = .ok (.aload_n 0, 1) := by decide +kernel
theorem dX4_endsAtOne_31 : decode cX4_endsAtOne 31 = .ok (.getfield 15, 3) := by decide +kernel
theorem dX4_endsAtOne_34 : decode cX4_endsAtOne 34 = .ok (.iload 4, 2) := by decide +kernel
theorem dX4_endsAtOne_36 : decode cX4_endsAtOne 36 = .ok (.iaload, 1) := by decide +kernel
theorem dX4_endsAtOne_37 : decode cX4_endsAtOne 37 = .ok (.iadd, 1) := by decide +kernel
theorem dX4_endsAtOne_38 : decode cX4_endsAtOne 38 = .ok (.iadd, 1) := by decide +kernel
theorem dX4_endsAtOne_39 : decode cX4_endsAtOne 39 = .ok (.istore_n 3, 1) := by decide +kernel
theorem dX4_endsAtOne_40 : decode cX4_endsAtOne 40 = .ok (.iload_n 3, 1) := by decide +kernel
theorem dX4_endsAtOne_41 : decode cX4_endsAtOne 41 = .ok (.iload_n 1, 1) := by decide +kernel
theorem dX4_endsAtOne_42 : decode cX4_endsAtOne 42 = .ok (.irem, 1) := by decide +kernel
theorem dX4_endsAtOne_43 : decode cX4_endsAtOne 43 = .ok (.ifCond .ne 6, 3) := by decide +kernel
theorem dX4_endsAtOne_46 : decode cX4_endsAtOne 46 = .ok (.iinc 2 1, 3) := by decide +kernel
theorem dX4_endsAtOne_49 : decode cX4_endsAtOne 49 = .ok (.iinc 4 1, 3) := by decide +kernel
theorem dX4_endsAtOne_52 : decode cX4_endsAtOne 52 = .ok (.goto (-39), 3) := by decide +kernel
theorem dX4_endsAtOne_55 : decode cX4_endsAtOne 55 = .ok (.iload_n 2, 1) := by decide +kernel
theorem dX4_endsAtOne_56 : decode cX4_endsAtOne 56 = .ok (.ireturn, 1) := by decide +kernel
theorem dX5_init_0 : decode cX5_init 0 = .ok (.aload_n 0, 1) := by decide +kernel
theorem dX5_init_1 : decode cX5_init 1 = .ok (.invokespecial 3, 3) := by decide +kernel
theorem dX5_init_4 : decode cX5_init 4 = .ok (.aload_n 0, 1) := by decide +kernel
theorem dX5_init_5 : decode cX5_init 5 = .ok (.bipush 60, 2) := by decide +kernel
theorem dX5_init_7 : decode cX5_init 7 = .ok (.newarray .byte, 2) := by decide +kernel
theorem dX5_init_9 : decode cX5_init 9 = .ok (.putfield 11, 3) := by decide +kernel
theorem dX5_init_12 : decode cX5_init 12 = .ok (.aload_n 0, 1) := by decide +kernel
theorem dX5_init_13 : decode cX5_init 13 = .ok (.iconst 0, 1) := by decide +kernel
theorem dX5_init_14 : decode cX5_init 14 = .ok (.putfield 15, 3) := by decide +kernel
theorem dX5_init_17 : decode cX5_init 17 = .ok (.aload_n 0, 1) := by decide +kernel
theorem dX5_init_18 : decode cX5_init 18 = .ok (.bipush 60, 2) := by decide +kernel
theorem dX5_init_20 : decode cX5_init 20 = .ok (.newarray .byte, 2) := by decide +kernel
theorem dX5_init_22 : decode cX5_init 22 = .ok (.putfield 21, 3) := by decide +kernel
theorem dX5_init_25 : decode cX5_init 25 = .ok (.aload_n 0, 1) := by decide +kernel
theorem dX5_init_26 : decode cX5_init 26 = .ok (.bipush 6, 2) := by decide +kernel
theorem dX5_init_28 : decode cX5_init 28 = .ok (.newarray .int, 2) := by decide +kernel
theorem dX5_init_30 : decode cX5_init 30 = .ok (.putfield 24, 3) := by decide +kernel
theorem dX5_init_33 : decode cX5_init 33 = .ok (.aload_n 0, 1) := by decide +kernel
theorem dX5_init_34 : decode cX5_init 34 = .ok (.bipush 6, 2) := by decide +kernel
theorem dX5_init_36 : decode cX5_init 36 = .ok (.newarray .int, 2) := by decide +kernel
theorem dX5_init_38 : decode cX5_init 38 = .ok (.putfield 28, 3) := by decide +kernel
theorem dX5_init_41 : decode cX5_init 41 = .ok (.return_, 1) := by decide +kernel
theorem dX5_hasRoomFor_0 : decode cX5_hasRoomFor 0 = .ok (.aload_n 0, 1) := by decide +kernel
theorem dX5_hasRoomFor_1 : decode cX5_hasRoomFor 1 = .ok (.getfield 15, 3) := by decide +kernel
theorem dX5_hasRoomFor_4 : decode cX5_hasRoomFor 4 = .ok (.iload_n 1, 1) := by decide +kernel
theorem dX5_hasRoomFor_5 : decode cX5_hasRoomFor 5 = .ok (.iadd, 1) := by decide +kernel
theorem dX5_hasRoomFor_6 : decode cX5_hasRoomFor 6 = .ok (.bipush 60, 2) := by decide +kernel
theorem dX5_hasRoomFor_8 : decode cX5_hasRoomFor 8 = .ok (.if_icmp .gt 7, 3) := by decide +kernel
theorem dX5_hasRoomFor_11 : decode cX5_hasRoomFor 11 = .ok (.iconst 1, 1) := by decide +kernel
theorem dX5_hasRoomFor_12 : decode cX5_hasRoomFor 12 = .ok (.goto 4, 3) := by decide +kernel
theorem dX5_hasRoomFor_15 : decode cX5_hasRoomFor 15 = .ok (.iconst 0, 1) := by decide +kernel
theorem dX5_hasRoomFor_16 : decode cX5_hasRoomFor 16 = .ok (.ireturn, 1) := by decide +kernel
