theorem d_MacroExpandModel_set_0 : decode b_MacroExpandModel_set 0 = .ok (.aload_n 0, 1) := by decide +kernel
theorem d_MacroExpandModel_set_1 : decode b_MacroExpandModel_set 1 = .ok (.getfield 7, 3) := by decide +kernel
theorem d_MacroExpandModel_set_4 : decode b_MacroExpandModel_set 4 = .ok (.aload_n 0, 1) := by decide +kernel
theorem d_MacroExpandModel_set_5 : decode b_MacroExpandModel_set 5 = .ok (.getfield 110, 3) := by decide +kernel
theorem d_MacroExpandModel_set_8 : decode b_MacroExpandModel_set 8 = .ok (.iload_n 1, 1) := by decide +kernel
theorem d_MacroExpandModel_set_9 : decode b_MacroExpandModel_set 9 = .ok (.iadd, 1) := by decide +kernel
theorem d_MacroExpandModel_set_10 : decode b_MacroExpandModel_set 10 = .ok (.sipush 4095, 3) := by decide +kernel
theorem d_MacroExpandModel_set_13 : decode b_MacroExpandModel_set 13 = .ok (.iand, 1) := by decide +kernel
theorem d_MacroExpandModel_set_14 : decode b_MacroExpandModel_set 14 = .ok (.iload_n 2, 1) := by decide +kernel
theorem d_MacroExpandModel_set_15 : decode b_MacroExpandModel_set 15 = .ok (.iastore, 1) := by decide +kernel
theorem d_MacroExpandModel_set_16 : decode b_MacroExpandModel_set 16 = .ok (.return_, 1) := by decide +kernel
theorem d_MacroExpandModel_macroAt_0 : decode b_MacroExpandModel_macroAt 0 = .ok (.aload_n 0, 1) := by decide +kernel
theorem d_MacroExpandModel_macroAt_1 : decode b_MacroExpandModel_macroAt 1 = .ok (.iload_n 1, 1) := by decide +kernel
theorem d_MacroExpandModel_macroAt_2 : decode b_MacroExpandModel_macroAt 2 = .ok (.invokevirtual 116, 3) := by decide +kernel
theorem d_MacroExpandModel_macroAt_5 : decode b_MacroExpandModel_macroAt 5 = .ok (.invokestatic 91, 3) := by decide +kernel
theorem d_MacroExpandModel_macroAt_8 : decode b_MacroExpandModel_macroAt 8 = .ok (.ifCond .eq 20, 3) := by decide +kernel
theorem d_MacroExpandModel_macroAt_11 : decode b_MacroExpandModel_macroAt 11 = .ok (.aload_n 0, 1) := by decide +kernel
theorem d_MacroExpandModel_macroAt_12 : decode b_MacroExpandModel_macroAt 12 = .ok (.getfield 35, 3) := by decide +kernel
theorem d_MacroExpandModel_macroAt_15 : decode b_MacroExpandModel_macroAt 15 = .ok (.aload_n 0, 1) := by decide +kernel
theorem d_MacroExpandModel_macroAt_16 : decode b_MacroExpandModel_macroAt 16 = .ok (.iload_n 1, 1) := by decide +kernel
theorem d_MacroExpandModel_macroAt_17 : decode b_MacroExpandModel_macroAt 17 = .ok (.invokevirtual 116, 3) := by decide +kernel
theorem d_MacroExpandModel_macroAt_20 : decode b_MacroExpandModel_macroAt 20 = .ok (.sipush 1000, 3) := by decide +kernel
theorem d_MacroExpandModel_macroAt_23 : decode b_MacroExpandModel_macroAt 23 = .ok (.isub, 1) := by decide +kernel
theorem d_MacroExpandModel_macroAt_24 : decode b_MacroExpandModel_macroAt 24 = .ok (.iaload, 1) := by decide +kernel
theorem d_MacroExpandModel_macroAt_25 : decode b_MacroExpandModel_macroAt 25 = .ok (.goto 4, 3) := by decide +kernel
theorem d_MacroExpandModel_macroAt_28 : decode b_MacroExpandModel_macroAt 28 = .ok (.iconst (-1), 1) := by decide +kernel
theorem d_MacroExpandModel_macroAt_29 : decode b_MacroExpandModel_macroAt 29 = .ok (.ireturn, 1) := by decide +kernel
theorem d_MacroExpandModel_canBeExpanded_0 : decode b_MacroExpandModel_canBeExpanded 0 = .ok (.aload_n 0, 1) := by decide +kernel
theorem d_MacroExpandModel_canBeExpanded_1 : decode b_MacroExpandModel_canBeExpanded 1 = .ok (.iload_n 1, 1) := by decide +kernel
theorem d_MacroExpandModel_canBeExpanded_2 : decode b_MacroExpandModel_canBeExpanded 2 = .ok (.invokevirtual 120, 3) := by decide +kernel
theorem d_MacroExpandModel_canBeExpanded_5 : decode b_MacroExpandModel_canBeExpanded 5 = .ok (.ifCond .ge 20, 3) := by decide +kernel
theorem d_MacroExpandModel_canBeExpanded_8 : decode b_MacroExpandModel_canBeExpanded 8 = .ok (.aload_n 0, 1) := by decide +kernel
theorem d_MacroExpandModel_canBeExpanded_9 : decode b_MacroExpandModel_canBeExpanded 9 = .ok (.iload_n 1, 1) := by decide +kernel
theorem d_MacroExpandModel_canBeExpanded_10 : decode b_MacroExpandModel_canBeExpanded 10 = .ok (.invokevirtual 116, 3) := by decide +kernel
theorem d_MacroExpandModel_canBeExpanded_13 : decode b_MacroExpandModel_canBeExpanded 13 = .ok (.sipush 260, 3) := by decide +kernel
theorem d_MacroExpandModel_canBeExpanded_16 : decode b_MacroExpandModel_canBeExpanded 16 = .ok (.sipush 262, 3) := by decide +kernel
theorem d_MacroExpandModel_canBeExpanded_19 : decode b_MacroExpandModel_canBeExpanded 19 = .ok (.invokestatic 83, 3) := by decide +kernel
theorem d_MacroExpandModel_canBeExpanded_22 : decode b_MacroExpandModel_canBeExpanded 22 = .ok (.ifCond .eq 7, 3) := by decide +kernel
theorem d_MacroExpandModel_canBeExpanded_25 : decode b_MacroExpandModel_canBeExpanded 25 = .ok (.iconst 1, 1) := by decide +kernel
theorem d_MacroExpandModel_canBeExpanded_26 : decode b_MacroExpandModel_canBeExpanded 26 = .ok (.goto 4, 3) := by decide +kernel
theorem d_MacroExpandModel_canBeExpanded_29 : decode b_MacroExpandModel_canBeExpanded 29 = .ok (.iconst 0, 1) := by decide +kernel
theorem d_MacroExpandModel_canBeExpanded_30 : decode b_MacroExpandModel_canBeExpanded 30 = .ok (.ireturn, 1) := by decide +kernel
theorem d_MacroExpandModel_isThere_0 : decode b_MacroExpandModel_isThere 0 = .ok (.iload_n 1, 1) := by decide +kernel
theorem d_MacroExpandModel_isThere_1 : decode b_MacroExpandModel_isThere 1 = .ok (.aload_n 0, 1) := by decide +kernel
theorem d_MacroExpandModel_isThere_2 : decode b_MacroExpandModel_isThere 2 = .ok (.getfield 107, 3) := by decide +kernel
theorem d_MacroExpandModel_isThere_5 : decode b_MacroExpandModel_isThere 5 = .ok (.if_icmp .lt 10, 3) := by decide +kernel
theorem d_MacroExpandModel_isThere_8 : decode b_MacroExpandModel_isThere 8 = .ok (.aload_n 0, 1) := by decide +kernel
theorem d_MacroExpandModel_isThere_9 : decode b_MacroExpandModel_isThere 9 = .ok (.iconst 1, 1) := by decide +kernel
theorem d_MacroExpandModel_isThere_10 : decode b_MacroExpandModel_isThere 10 = .ok (.invokevirtual 123, 3) := by decide +kernel
theorem d_MacroExpandModel_isThere_13 : decode b_MacroExpandModel_isThere 13 = .ok (.iconst 0, 1) := by decide +kernel
theorem d_MacroExpandModel_isThere_14 : decode b_MacroExpandModel_isThere 14 = .ok (.ireturn, 1) := by decide +kernel
theorem d_MacroExpandModel_isThere_15 : decode b_MacroExpandModel_isThere 15 = .ok (.aload_n 0, 1) := by decide +kernel
theorem d_MacroExpandModel_isThere_16 : decode b_MacroExpandModel_isThere 16 = .ok (.iload_n 1, 1) := by decide +kernel
theorem d_MacroExpandModel_isThere_17 : decode b_MacroExpandModel_isThere 17 = .ok (.invokevirtual 120, 3) := by decide +kernel
theorem d_MacroExpandModel_isThere_20 : decode b_MacroExpandModel_isThere 20 = .ok (.istore_n 3, 1) := by decide +kernel
theorem d_MacroExpandModel_isThere_21 : decode b_MacroExpandModel_isThere 21 = .ok (.iload_n 3, 1) := by decide +kernel
theorem d_MacroExpandModel_isThere_22 : decode b_MacroExpandModel_isThere 22 = .ok (.ifCond .lt 14, 3) := by decide +kernel
theorem d_MacroExpandModel_isThere_25 : decode b_MacroExpandModel_isThere 25 = .ok (.aload_n 0, 1) := by decide +kernel
theorem d_MacroExpandModel_isThere_26 : decode b_MacroExpandModel_isThere 26 = .ok (.getfield 19, 3) := by decide +kernel
theorem d_MacroExpandModel_isThere_29 : decode b_MacroExpandModel_isThere 29 = .ok (.iload_n 3, 1) := by decide +kernel
theorem d_MacroExpandModel_isThere_30 : decode b_MacroExpandModel_isThere 30 = .ok (.iaload, 1) := by decide +kernel
theorem d_MacroExpandModel_isThere_31 : decode b_MacroExpandModel_isThere 31 = .ok (.iconst 2, 1) := by decide +kernel
theorem d_MacroExpandModel_isThere_32 : decode b_MacroExpandModel_isThere 32 = .ok (.iand, 1) := by decide +kernel
theorem d_MacroExpandModel_isThere_33 : decode b_MacroExpandModel_isThere 33 = .ok (.ifCond .ne 17, 3) := by decide +kernel
theorem d_MacroExpandModel_isThere_36 : decode b_MacroExpandModel_isThere 36 = .ok (.aload_n 0, 1) := by decide +kernel
theorem d_MacroExpandModel_isThere_37 : decode b_MacroExpandModel_isThere 37 = .ok (.iload_n 1, 1) := by decide +kernel
theorem d_MacroExpandModel_isThere_38 : decode b_MacroExpandModel_isThere 38 = .ok (.invokevirtual 116, 3) := by decide +kernel
theorem d_MacroExpandModel_isThere_41 : decode b_MacroExpandModel_isThere 41 = .ok (.bipush 10, 2) := by decide +kernel
theorem d_MacroExpandModel_isThere_43 : decode b_MacroExpandModel_isThere 43 = .ok (.if_icmp .ne 14, 3) := by decide +kernel
theorem d_MacroExpandModel_isThere_46 : decode b_MacroExpandModel_isThere 46 = .ok (.iload_n 2, 1) := by decide +kernel
theorem d_MacroExpandModel_isThere_47 : decode b_MacroExpandModel_isThere 47 = .ok (.ifCond .ne 10, 3) := by decide +kernel
theorem d_MacroExpandModel_isThere_50 : decode b_MacroExpandModel_isThere 50 = .ok (.aload_n 0, 1) := by decide +kernel
theorem d_MacroExpandModel_isThere_51 : decode b_MacroExpandModel_isThere 51 = .ok (.iconst 2, 1) := by decide +kernel
theorem d_MacroExpandModel_isThere_52 : decode b_MacroExpandModel_isThere 52 = .ok (.invokevirtual 123, 3) := by decide +kernel
theorem d_MacroExpandModel_isThere_55 : decode b_MacroExpandModel_isThere 55 = .ok (.iconst 0, 1) := by decide +kernel
theorem d_MacroExpandModel_isThere_56 : decode b_MacroExpandModel_isThere 56 = .ok (.ireturn, 1) := by decide +kernel
theorem d_MacroExpandModel_isThere_57 : decode b_MacroExpandModel_isThere 57 = .ok (.iconst 1, 1) := by decide +kernel
theorem d_MacroExpandModel_isThere_58 : decode b_MacroExpandModel_isThere 58 = .ok (.ireturn, 1) := by decide +kernel
theorem d_MacroExpandModel_rowComes_0 : decode b_MacroExpandModel_rowComes 0 = .ok (.iload_n 2, 1) := by decide +kernel
theorem d_MacroExpandModel_rowComes_1 : decode b_MacroExpandModel_rowComes 1 = .ok (.aload_n 0, 1) := by decide +kernel
theorem d_MacroExpandModel_rowComes_2 : decode b_MacroExpandModel_rowComes 2 = .ok (.getfield 28, 3) := by decide +kernel
theorem d_MacroExpandModel_rowComes_5 : decode b_MacroExpandModel_rowComes 5 = .ok (.iload_n 1, 1) := by decide +kernel
theorem d_MacroExpandModel_rowComes_6 : decode b_MacroExpandModel_rowComes 6 = .ok (.iaload, 1) := by decide +kernel
theorem d_MacroExpandModel_rowComes_7 : decode b_MacroExpandModel_rowComes 7 = .ok (.iadd, 1) := by decide +kernel
theorem d_MacroExpandModel_rowComes_8 : decode b_MacroExpandModel_rowComes 8 = .ok (.aload_n 0, 1) := by decide +kernel
theorem d_MacroExpandModel_rowComes_9 : decode b_MacroExpandModel_rowComes 9 = .ok (.getfield 107, 3) := by decide +kernel
theorem d_MacroExpandModel_rowComes_12 : decode b_MacroExpandModel_rowComes 12 = .ok (.if_icmp .gt 7, 3) := by decide +kernel
theorem d_MacroExpandModel_rowComes_15 : decode b_MacroExpandModel_rowComes 15 = .ok (.iconst 1, 1) := by decide +kernel
theorem d_MacroExpandModel_rowComes_16 : decode b_MacroExpandModel_rowComes 16 = .ok (.goto 4, 3) := by decide +kernel
theorem d_MacroExpandModel_rowComes_19 : decode b_MacroExpandModel_rowComes 19 = .ok (.iconst 0, 1) := by decide +kernel
theorem d_MacroExpandModel_rowComes_20 : decode b_MacroExpandModel_rowComes 20 = .ok (.istore_n 3, 1) := by decide +kernel
theorem d_MacroExpandModel_rowComes_21 : decode b_MacroExpandModel_rowComes 21 = .ok (.iconst 0, 1) := by decide +kernel
theorem d_MacroExpandModel_rowComes_22 : decode b_MacroExpandModel_rowComes 22 = .ok (.istore 4, 2) := by decide +kernel
theorem d_MacroExpandModel_rowComes_24 : decode b_MacroExpandModel_rowComes 24 = .ok (.iload 4, 2) := by decide +kernel
theorem d_MacroExpandModel_rowComes_26 : decode b_MacroExpandModel_rowComes 26 = .ok (.aload_n 0, 1) := by decide +kernel
theorem d_MacroExpandModel_rowComes_27 : decode b_MacroExpandModel_rowComes 27 = .ok (.getfield 28, 3) := by decide +kernel
theorem d_MacroExpandModel_rowComes_30 : decode b_MacroExpandModel_rowComes 30 = .ok (.iload_n 1, 1) := by decide +kernel
theorem d_MacroExpandModel_rowComes_31 : decode b_MacroExpandModel_rowComes 31 = .ok (.iaload, 1) := by decide +kernel
theorem d_MacroExpandModel_rowComes_32 : decode b_MacroExpandModel_rowComes 32 = .ok (.if_icmp .ge 43, 3) := by decide +kernel
theorem d_MacroExpandModel_rowComes_35 : decode b_MacroExpandModel_rowComes 35 = .ok (.iload_n 3, 1) := by decide +kernel
theorem d_MacroExpandModel_rowComes_36 : decode b_MacroExpandModel_rowComes 36 = .ok (.ifCond .eq 39, 3) := by decide +kernel
theorem d_MacroExpandModel_rowComes_39 : decode b_MacroExpandModel_rowComes 39 = .ok (.aload_n 0, 1) := by decide +kernel
theorem d_MacroExpandModel_rowComes_40 : decode b_MacroExpandModel_rowComes 40 = .ok (.iload_n 2, 1) := by decide +kernel
theorem d_MacroExpandModel_rowComes_41 : decode b_MacroExpandModel_rowComes 41 = .ok (.iload 4, 2) := by decide +kernel
theorem d_MacroExpandModel_rowComes_43 : decode b_MacroExpandModel_rowComes 43 = .ok (.iadd, 1) := by decide +kernel
theorem d_MacroExpandModel_rowComes_44 : decode b_MacroExpandModel_rowComes 44 = .ok (.invokevirtual 116, 3) := by decide +kernel
theorem d_MacroExpandModel_rowComes_47 : decode b_MacroExpandModel_rowComes 47 = .ok (.aload_n 0, 1) := by decide +kernel
theorem d_MacroExpandModel_rowComes_48 : decode b_MacroExpandModel_rowComes 48 = .ok (.getfield 32, 3) := by decide +kernel
theorem d_MacroExpandModel_rowComes_51 : decode b_MacroExpandModel_rowComes 51 = .ok (.sipush 200, 3) := by decide +kernel
theorem d_MacroExpandModel_rowComes_54 : decode b_MacroExpandModel_rowComes 54 = .ok (.iload_n 1, 1) := by decide +kernel
theorem d_MacroExpandModel_rowComes_55 : decode b_MacroExpandModel_rowComes 55 = .ok (.imul, 1) := by decide +kernel
theorem d_MacroExpandModel_rowComes_56 : decode b_MacroExpandModel_rowComes 56 = .ok (.iload 4, 2) := by decide +kernel
theorem d_MacroExpandModel_rowComes_58 : decode b_MacroExpandModel_rowComes 58 = .ok (.iadd, 1) := by decide +kernel
theorem d_MacroExpandModel_rowComes_59 : decode b_MacroExpandModel_rowComes 59 = .ok (.iaload, 1) := by decide +kernel
theorem d_MacroExpandModel_rowComes_60 : decode b_MacroExpandModel_rowComes 60 = .ok (.if_icmp .ne 7, 3) := by decide +kernel
theorem d_MacroExpandModel_rowComes_63 : decode b_MacroExpandModel_rowComes 63 = .ok (.iconst 1, 1) := by decide +kernel
theorem d_MacroExpandModel_rowComes_64 : decode b_MacroExpandModel_rowComes 64 = .ok (.goto 4, 3) := by decide +kernel
theorem d_MacroExpandModel_rowComes_67 : decode b_MacroExpandModel_rowComes 67 = .ok (.iconst 0, 1) := by decide +kernel
theorem d_MacroExpandModel_rowComes_68 : decode b_MacroExpandModel_rowComes 68 = .ok (.istore_n 3, 1) := by decide +kernel
theorem d_MacroExpandModel_rowComes_69 : decode b_MacroExpandModel_rowComes 69 = .ok (.iinc 4 1, 3) := by decide +kernel
theorem d_MacroExpandModel_rowComes_72 : decode b_MacroExpandModel_rowComes 72 = .ok (.goto (-48), 3) := by decide +kernel
theorem d_MacroExpandModel_rowComes_75 : decode b_MacroExpandModel_rowComes 75 = .ok (.iload_n 3, 1) := by decide +kernel
theorem d_MacroExpandModel_rowComes_76 : decode b_MacroExpandModel_rowComes 76 = .ok (.ireturn, 1) := by decide +kernel
theorem d_MacroExpandModel_give_0 : decode b_MacroExpandModel_give 0 = .ok (.aload_n 0, 1) := by decide +kernel
theorem d_MacroExpandModel_give_1 : decode b_MacroExpandModel_give 1 = .ok (.getfield 47, 3) := by decide +kernel
theorem d_MacroExpandModel_give_4 : decode b_MacroExpandModel_give 4 = .ok (.iload_n 1, 1) := by decide +kernel
theorem d_MacroExpandModel_give_5 : decode b_MacroExpandModel_give 5 = .ok (.iaload, 1) := by decide +kernel
theorem d_MacroExpandModel_give_6 : decode b_MacroExpandModel_give 6 = .ok (.sipush 400, 3) := by decide +kernel
theorem d_MacroExpandModel_give_9 : decode b_MacroExpandModel_give 9 = .ok (.if_icmp .ne 10, 3) := by decide +kernel
theorem d_MacroExpandModel_give_12 : decode b_MacroExpandModel_give 12 = .ok (.aload_n 0, 1) := by decide +kernel
theorem d_MacroExpandModel_give_13 : decode b_MacroExpandModel_give 13 = .ok (.bipush 8, 2) := by decide +kernel
theorem d_MacroExpandModel_give_15 : decode b_MacroExpandModel_give 15 = .ok (.invokevirtual 123, 3) := by decide +kernel
theorem d_MacroExpandModel_give_18 : decode b_MacroExpandModel_give 18 = .ok (.return_, 1) := by decide +kernel
theorem d_MacroExpandModel_give_19 : decode b_MacroExpandModel_give 19 = .ok (.aload_n 0, 1) := by decide +kernel
theorem d_MacroExpandModel_give_20 : decode b_MacroExpandModel_give 20 = .ok (.getfield 50, 3) := by decide +kernel
theorem d_MacroExpandModel_give_23 : decode b_MacroExpandModel_give 23 = .ok (.sipush 400, 3) := by decide +kernel
theorem d_MacroExpandModel_give_26 : decode b_MacroExpandModel_give 26 = .ok (.iload_n 1, 1) := by decide +kernel
theorem d_MacroExpandModel_give_27 : decode b_MacroExpandModel_give 27 = .ok (.imul, 1) := by decide +kernel
theorem d_MacroExpandModel_give_28 : decode b_MacroExpandModel_give 28 = .ok (.aload_n 0, 1) := by decide +kernel
theorem d_MacroExpandModel_give_29 : decode b_MacroExpandModel_give 29 = .ok (.getfield 47, 3) := by decide +kernel
theorem d_MacroExpandModel_give_32 : decode b_MacroExpandModel_give 32 = .ok (.iload_n 1, 1) := by decide +kernel
theorem d_MacroExpandModel_give_33 : decode b_MacroExpandModel_give 33 = .ok (.iaload, 1) := by decide +kernel
theorem d_MacroExpandModel_give_34 : decode b_MacroExpandModel_give 34 = .ok (.iadd, 1) := by decide +kernel
theorem d_MacroExpandModel_give_35 : decode b_MacroExpandModel_give 35 = .ok (.iload_n 2, 1) := by decide +kernel
theorem d_MacroExpandModel_give_36 : decode b_MacroExpandModel_give 36 = .ok (.iastore, 1) := by decide +kernel
theorem d_MacroExpandModel_give_37 : decode b_MacroExpandModel_give 37 = .ok (.aload_n 0, 1) := by decide +kernel
theorem d_MacroExpandModel_give_38 : decode b_MacroExpandModel_give 38 = .ok (.getfield 47, 3) := by decide +kernel
theorem d_MacroExpandModel_give_41 : decode b_MacroExpandModel_give 41 = .ok (.iload_n 1, 1) := by decide +kernel
theorem d_MacroExpandModel_give_42 : decode b_MacroExpandModel_give 42 = .ok (.dup2, 1) := by decide +kernel
theorem d_MacroExpandModel_give_43 : decode b_MacroExpandModel_give 43 = .ok (.iaload, 1) := by decide +kernel
theorem d_MacroExpandModel_give_44 : decode b_MacroExpandModel_give 44 = .ok (.iconst 1, 1) := by decide +kernel
theorem d_MacroExpandModel_give_45 : decode b_MacroExpandModel_give 45 = .ok (.iadd, 1) := by decide +kernel
theorem d_MacroExpandModel_give_46 : decode b_MacroExpandModel_give 46 = .ok (.iastore, 1) := by decide +kernel
theorem d_MacroExpandModel_give_47 : decode b_MacroExpandModel_give 47 = .ok (.return_, 1) := by decide +kernel
theorem d_MacroExpandModel_plain_0 : decode b_MacroExpandModel_plain 0 = .ok (.iload_n 2, 1) := by decide +kernel
theorem d_MacroExpandModel_plain_1 : decode b_MacroExpandModel_plain 1 = .ok (.istore 4, 2) := by decide +kernel
theorem d_MacroExpandModel_plain_3 : decode b_MacroExpandModel_plain 3 = .ok (.iload 4, 2) := by decide +kernel
theorem d_MacroExpandModel_plain_5 : decode b_MacroExpandModel_plain 5 = .ok (.aload_n 0, 1) := by decide +kernel
theorem d_MacroExpandModel_plain_6 : decode b_MacroExpandModel_plain 6 = .ok (.getfield 107, 3) := by decide +kernel
theorem d_MacroExpandModel_plain_9 : decode b_MacroExpandModel_plain 9 = .ok (.if_icmp .ge 21, 3) := by decide +kernel
theorem d_MacroExpandModel_plain_12 : decode b_MacroExpandModel_plain 12 = .ok (.aload_n 0, 1) := by decide +kernel
theorem d_MacroExpandModel_plain_13 : decode b_MacroExpandModel_plain 13 = .ok (.iload 4, 2) := by decide +kernel
theorem d_MacroExpandModel_plain_15 : decode b_MacroExpandModel_plain 15 = .ok (.invokevirtual 116, 3) := by decide +kernel
theorem d_MacroExpandModel_plain_18 : decode b_MacroExpandModel_plain 18 = .ok (.sipush 256, 3) := by decide +kernel
theorem d_MacroExpandModel_plain_21 : decode b_MacroExpandModel_plain 21 = .ok (.if_icmp .ne 9, 3) := by decide +kernel
theorem d_MacroExpandModel_plain_24 : decode b_MacroExpandModel_plain 24 = .ok (.iinc 4 1, 3) := by decide +kernel
theorem d_MacroExpandModel_plain_27 : decode b_MacroExpandModel_plain 27 = .ok (.goto (-24), 3) := by decide +kernel
theorem d_MacroExpandModel_plain_30 : decode b_MacroExpandModel_plain 30 = .ok (.aload_n 0, 1) := by decide +kernel
theorem d_MacroExpandModel_plain_31 : decode b_MacroExpandModel_plain 31 = .ok (.iload 4, 2) := by decide +kernel
theorem d_MacroExpandModel_plain_33 : decode b_MacroExpandModel_plain 33 = .ok (.iload_n 3, 1) := by decide +kernel
theorem d_MacroExpandModel_plain_34 : decode b_MacroExpandModel_plain 34 = .ok (.invokevirtual 127, 3) := by decide +kernel
theorem d_MacroExpandModel_plain_37 : decode b_MacroExpandModel_plain 37 = .ok (.ifCond .ne 6, 3) := by decide +kernel
theorem d_MacroExpandModel_plain_40 : decode b_MacroExpandModel_plain 40 = .ok (.iload 4, 2) := by decide +kernel
theorem d_MacroExpandModel_plain_42 : decode b_MacroExpandModel_plain 42 = .ok (.ireturn, 1) := by decide +kernel
theorem d_MacroExpandModel_plain_43 : decode b_MacroExpandModel_plain 43 = .ok (.aload_n 0, 1) := by decide +kernel
theorem d_MacroExpandModel_plain_44 : decode b_MacroExpandModel_plain 44 = .ok (.iload 4, 2) := by decide +kernel
theorem d_MacroExpandModel_plain_46 : decode b_MacroExpandModel_plain 46 = .ok (.invokevirtual 116, 3) := by decide +kernel
theorem d_MacroExpandModel_plain_49 : decode b_MacroExpandModel_plain 49 = .ok (.sipush 258, 3) := by decide +kernel
theorem d_MacroExpandModel_plain_52 : decode b_MacroExpandModel_plain 52 = .ok (.if_icmp .ne 12, 3) := by decide +kernel
theorem d_MacroExpandModel_plain_55 : decode b_MacroExpandModel_plain 55 = .ok (.aload_n 0, 1) := by decide +kernel
theorem d_MacroExpandModel_plain_56 : decode b_MacroExpandModel_plain 56 = .ok (.bipush 7, 2) := by decide +kernel
theorem d_MacroExpandModel_plain_58 : decode b_MacroExpandModel_plain 58 = .ok (.invokevirtual 123, 3) := by decide +kernel
theorem d_MacroExpandModel_plain_61 : decode b_MacroExpandModel_plain 61 = .ok (.iload 4, 2) := by decide +kernel
theorem d_MacroExpandModel_plain_63 : decode b_MacroExpandModel_plain 63 = .ok (.ireturn, 1) := by decide +kernel
theorem d_MacroExpandModel_plain_64 : decode b_MacroExpandModel_plain 64 = .ok (.aload_n 0, 1) := by decide +kernel
theorem d_MacroExpandModel_plain_65 : decode b_MacroExpandModel_plain 65 = .ok (.iload 4, 2) := by decide +kernel
theorem d_MacroExpandModel_plain_67 : decode b_MacroExpandModel_plain 67 = .ok (.invokevirtual 116, 3) := by decide +kernel
theorem d_MacroExpandModel_plain_70 : decode b_MacroExpandModel_plain 70 = .ok (.sipush 257, 3) := by decide +kernel
theorem d_MacroExpandModel_plain_73 : decode b_MacroExpandModel_plain 73 = .ok (.if_icmp .eq 19, 3) := by decide +kernel
theorem d_MacroExpandModel_plain_76 : decode b_MacroExpandModel_plain 76 = .ok (.aload_n 0, 1) := by decide +kernel
theorem d_MacroExpandModel_plain_77 : decode b_MacroExpandModel_plain 77 = .ok (.iload_n 1, 1) := by decide +kernel
theorem d_MacroExpandModel_plain_78 : decode b_MacroExpandModel_plain 78 = .ok (.aload_n 0, 1) := by decide +kernel
theorem d_MacroExpandModel_plain_79 : decode b_MacroExpandModel_plain 79 = .ok (.iload 4, 2) := by decide +kernel
theorem d_MacroExpandModel_plain_81 : decode b_MacroExpandModel_plain 81 = .ok (.invokevirtual 116, 3) := by decide +kernel
theorem d_MacroExpandModel_plain_84 : decode b_MacroExpandModel_plain 84 = .ok (.invokevirtual 131, 3) := by decide +kernel
theorem d_MacroExpandModel_plain_87 : decode b_MacroExpandModel_plain 87 = .ok (.iload 4, 2) := by decide +kernel
theorem d_MacroExpandModel_plain_89 : decode b_MacroExpandModel_plain 89 = .ok (.iconst 1, 1) := by decide +kernel
theorem d_MacroExpandModel_plain_90 : decode b_MacroExpandModel_plain 90 = .ok (.iadd, 1) := by decide +kernel
theorem d_MacroExpandModel_plain_91 : decode b_MacroExpandModel_plain 91 = .ok (.ireturn, 1) := by decide +kernel
theorem d_MacroExpandModel_plain_92 : decode b_MacroExpandModel_plain 92 = .ok (.iinc 4 1, 3) := by decide +kernel
theorem d_MacroExpandModel_plain_95 : decode b_MacroExpandModel_plain 95 = .ok (.iconst 1, 1) := by decide +kernel
theorem d_MacroExpandModel_plain_96 : decode b_MacroExpandModel_plain 96 = .ok (.istore 5, 2) := by decide +kernel
theorem d_MacroExpandModel_plain_98 : decode b_MacroExpandModel_plain 98 = .ok (.iload 5, 2) := by decide +kernel
theorem d_MacroExpandModel_plain_100 : decode b_MacroExpandModel_plain 100 = .ok (.ifCond .le 80, 3) := by decide +kernel
theorem d_MacroExpandModel_plain_103 : decode b_MacroExpandModel_plain 103 = .ok (.aload_n 0, 1) := by decide +kernel
theorem d_MacroExpandModel_plain_104 : decode b_MacroExpandModel_plain 104 = .ok (.getfield 113, 3) := by decide +kernel
theorem d_MacroExpandModel_plain_107 : decode b_MacroExpandModel_plain 107 = .ok (.ifCond .ne 73, 3) := by decide +kernel
theorem d_MacroExpandModel_plain_110 : decode b_MacroExpandModel_plain 110 = .ok (.aload_n 0, 1) := by decide +kernel
theorem d_MacroExpandModel_plain_111 : decode b_MacroExpandModel_plain 111 = .ok (.iload 4, 2) := by decide +kernel
theorem d_MacroExpandModel_plain_113 : decode b_MacroExpandModel_plain 113 = .ok (.iload_n 3, 1) := by decide +kernel
theorem d_MacroExpandModel_plain_114 : decode b_MacroExpandModel_plain 114 = .ok (.invokevirtual 127, 3) := by decide +kernel
theorem d_MacroExpandModel_plain_117 : decode b_MacroExpandModel_plain 117 = .ok (.ifCond .eq 63, 3) := by decide +kernel
theorem d_MacroExpandModel_plain_120 : decode b_MacroExpandModel_plain 120 = .ok (.iload 5, 2) := by decide +kernel
theorem d_MacroExpandModel_plain_122 : decode b_MacroExpandModel_plain 122 = .ok (.aload_n 0, 1) := by decide +kernel
theorem d_MacroExpandModel_plain_123 : decode b_MacroExpandModel_plain 123 = .ok (.iload 4, 2) := by decide +kernel
theorem d_MacroExpandModel_plain_125 : decode b_MacroExpandModel_plain 125 = .ok (.invokevirtual 116, 3) := by decide +kernel
theorem d_MacroExpandModel_plain_128 : decode b_MacroExpandModel_plain 128 = .ok (.sipush 257, 3) := by decide +kernel
theorem d_MacroExpandModel_plain_131 : decode b_MacroExpandModel_plain 131 = .ok (.if_icmp .ne 7, 3) := by decide +kernel
theorem d_MacroExpandModel_plain_134 : decode b_MacroExpandModel_plain 134 = .ok (.iconst 1, 1) := by decide +kernel
theorem d_MacroExpandModel_plain_135 : decode b_MacroExpandModel_plain 135 = .ok (.goto 20, 3) := by decide +kernel
theorem d_MacroExpandModel_plain_138 : decode b_MacroExpandModel_plain 138 = .ok (.aload_n 0, 1) := by decide +kernel
theorem d_MacroExpandModel_plain_139 : decode b_MacroExpandModel_plain 139 = .ok (.iload 4, 2) := by decide +kernel
theorem d_MacroExpandModel_plain_141 : decode b_MacroExpandModel_plain 141 = .ok (.invokevirtual 116, 3) := by decide +kernel
theorem d_MacroExpandModel_plain_144 : decode b_MacroExpandModel_plain 144 = .ok (.sipush 258, 3) := by decide +kernel
theorem d_MacroExpandModel_plain_147 : decode b_MacroExpandModel_plain 147 = .ok (.if_icmp .ne 7, 3) := by decide +kernel
theorem d_MacroExpandModel_plain_150 : decode b_MacroExpandModel_plain 150 = .ok (.iconst (-1), 1) := by decide +kernel
theorem d_MacroExpandModel_plain_151 : decode b_MacroExpandModel_plain 151 = .ok (.goto 4, 3) := by decide +kernel
theorem d_MacroExpandModel_plain_154 : decode b_MacroExpandModel_plain 154 = .ok (.iconst 0, 1) := by decide +kernel
theorem d_MacroExpandModel_plain_155 : decode b_MacroExpandModel_plain 155 = .ok (.iadd, 1) := by decide +kernel
theorem d_MacroExpandModel_plain_156 : decode b_MacroExpandModel_plain 156 = .ok (.istore 5, 2) := by decide +kernel
theorem d_MacroExpandModel_plain_158 : decode b_MacroExpandModel_plain 158 = .ok (.iload 5, 2) := by decide +kernel
theorem d_MacroExpandModel_plain_160 : decode b_MacroExpandModel_plain 160 = .ok (.ifCond .le 14, 3) := by decide +kernel
theorem d_MacroExpandModel_plain_163 : decode b_MacroExpandModel_plain 163 = .ok (.aload_n 0, 1) := by decide +kernel
theorem d_MacroExpandModel_plain_164 : decode b_MacroExpandModel_plain 164 = .ok (.iload_n 1, 1) := by decide +kernel
theorem d_MacroExpandModel_plain_165 : decode b_MacroExpandModel_plain 165 = .ok (.aload_n 0, 1) := by decide +kernel
theorem d_MacroExpandModel_plain_166 : decode b_MacroExpandModel_plain 166 = .ok (.iload 4, 2) := by decide +kernel
theorem d_MacroExpandModel_plain_168 : decode b_MacroExpandModel_plain 168 = .ok (.invokevirtual 116, 3) := by decide +kernel
theorem d_MacroExpandModel_plain_171 : decode b_MacroExpandModel_plain 171 = .ok (.invokevirtual 131, 3) := by decide +kernel
theorem d_MacroExpandModel_plain_174 : decode b_MacroExpandModel_plain 174 = .ok (.iinc 4 1, 3) := by decide +kernel
theorem d_MacroExpandModel_plain_177 : decode b_MacroExpandModel_plain 177 = .ok (.goto (-79), 3) := by decide +kernel
theorem d_MacroExpandModel_plain_180 : decode b_MacroExpandModel_plain 180 = .ok (.iload 4, 2) := by decide +kernel
theorem d_MacroExpandModel_plain_182 : decode b_MacroExpandModel_plain 182 = .ok (.ireturn, 1) := by decide +kernel
theorem d_MacroExpandModel_delimited_0 : decode b_MacroExpandModel_delimited 0 = .ok (.iload_n 3, 1) := by decide +kernel
theorem d_MacroExpandModel_delimited_1 : decode b_MacroExpandModel_delimited 1 = .ok (.istore 5, 2) := by decide +kernel
theorem d_MacroExpandModel_delimited_3 : decode b_MacroExpandModel_delimited 3 = .ok (.iconst 0, 1) := by decide +kernel
theorem d_MacroExpandModel_delimited_4 : decode b_MacroExpandModel_delimited 4 = .ok (.istore 6, 2) := by decide +kernel
theorem d_MacroExpandModel_delimited_6 : decode b_MacroExpandModel_delimited 6 = .ok (.iconst 1, 1) := by decide +kernel
theorem d_MacroExpandModel_delimited_7 : decode b_MacroExpandModel_delimited 7 = .ok (.istore 7, 2) := by decide +kernel
theorem d_MacroExpandModel_delimited_9 : decode b_MacroExpandModel_delimited 9 = .ok (.aload_n 0, 1) := by decide +kernel
theorem d_MacroExpandModel_delimited_10 : decode b_MacroExpandModel_delimited 10 = .ok (.getfield 113, 3) := by decide +kernel
theorem d_MacroExpandModel_delimited_13 : decode b_MacroExpandModel_delimited 13 = .ok (.ifCond .ne 133, 3) := by decide +kernel
theorem d_MacroExpandModel_delimited_16 : decode b_MacroExpandModel_delimited 16 = .ok (.iload 6, 2) := by decide +kernel
theorem d_MacroExpandModel_delimited_18 : decode b_MacroExpandModel_delimited 18 = .ok (.ifCond .ne 13, 3) := by decide +kernel
theorem d_MacroExpandModel_delimited_21 : decode b_MacroExpandModel_delimited 21 = .ok (.aload_n 0, 1) := by decide +kernel
theorem d_MacroExpandModel_delimited_22 : decode b_MacroExpandModel_delimited 22 = .ok (.iload_n 2, 1) := by decide +kernel
theorem d_MacroExpandModel_delimited_23 : decode b_MacroExpandModel_delimited 23 = .ok (.iload 5, 2) := by decide +kernel
theorem d_MacroExpandModel_delimited_25 : decode b_MacroExpandModel_delimited 25 = .ok (.invokevirtual 135, 3) := by decide +kernel
theorem d_MacroExpandModel_delimited_28 : decode b_MacroExpandModel_delimited 28 = .ok (.ifCond .ne 118, 3) := by decide +kernel
theorem d_MacroExpandModel_delimited_31 : decode b_MacroExpandModel_delimited 31 = .ok (.aload_n 0, 1) := by decide +kernel
theorem d_MacroExpandModel_delimited_32 : decode b_MacroExpandModel_delimited 32 = .ok (.iload 5, 2) := by decide +kernel
theorem d_MacroExpandModel_delimited_34 : decode b_MacroExpandModel_delimited 34 = .ok (.iload 4, 2) := by decide +kernel
theorem d_MacroExpandModel_delimited_36 : decode b_MacroExpandModel_delimited 36 = .ok (.invokevirtual 127, 3) := by decide +kernel
theorem d_MacroExpandModel_delimited_39 : decode b_MacroExpandModel_delimited 39 = .ok (.ifCond .eq (-30), 3) := by decide +kernel
theorem d_MacroExpandModel_delimited_42 : decode b_MacroExpandModel_delimited 42 = .ok (.aload_n 0, 1) := by decide +kernel
theorem d_MacroExpandModel_delimited_43 : decode b_MacroExpandModel_delimited 43 = .ok (.iload 5, 2) := by decide +kernel
theorem d_MacroExpandModel_delimited_45 : decode b_MacroExpandModel_delimited 45 = .ok (.invokevirtual 116, 3) := by decide +kernel
theorem d_MacroExpandModel_delimited_48 : decode b_MacroExpandModel_delimited 48 = .ok (.istore 8, 2) := by decide +kernel
theorem d_MacroExpandModel_delimited_50 : decode b_MacroExpandModel_delimited 50 = .ok (.iload 7, 2) := by decide +kernel
theorem d_MacroExpandModel_delimited_52 : decode b_MacroExpandModel_delimited 52 = .ok (.ifCond .eq 26, 3) := by decide +kernel
theorem d_MacroExpandModel_delimited_55 : decode b_MacroExpandModel_delimited 55 = .ok (.iload 6, 2) := by decide +kernel
theorem d_MacroExpandModel_delimited_57 : decode b_MacroExpandModel_delimited 57 = .ok (.ifCond .gt 17, 3) := by decide +kernel
theorem d_MacroExpandModel_delimited_60 : decode b_MacroExpandModel_delimited 60 = .ok (.iload 5, 2) := by decide +kernel
theorem d_MacroExpandModel_delimited_62 : decode b_MacroExpandModel_delimited 62 = .ok (.iload_n 3, 1) := by decide +kernel
theorem d_MacroExpandModel_delimited_63 : decode b_MacroExpandModel_delimited 63 = .ok (.if_icmp .ne 15, 3) := by decide +kernel
theorem d_MacroExpandModel_delimited_66 : decode b_MacroExpandModel_delimited 66 = .ok (.iload 8, 2) := by decide +kernel
theorem d_MacroExpandModel_delimited_68 : decode b_MacroExpandModel_delimited 68 = .ok (.sipush 257, 3) := by decide +kernel
theorem d_MacroExpandModel_delimited_71 : decode b_MacroExpandModel_delimited 71 = .ok (.if_icmp .ne 7, 3) := by decide +kernel
theorem d_MacroExpandModel_delimited_74 : decode b_MacroExpandModel_delimited 74 = .ok (.iconst 1, 1) := by decide +kernel
theorem d_MacroExpandModel_delimited_75 : decode b_MacroExpandModel_delimited 75 = .ok (.goto 4, 3) := by decide +kernel
theorem d_MacroExpandModel_delimited_78 : decode b_MacroExpandModel_delimited 78 = .ok (.iconst 0, 1) := by decide +kernel
theorem d_MacroExpandModel_delimited_79 : decode b_MacroExpandModel_delimited 79 = .ok (.istore 7, 2) := by decide +kernel
theorem d_MacroExpandModel_delimited_81 : decode b_MacroExpandModel_delimited 81 = .ok (.iload 8, 2) := by decide +kernel
theorem d_MacroExpandModel_delimited_83 : decode b_MacroExpandModel_delimited 83 = .ok (.sipush 258, 3) := by decide +kernel
theorem d_MacroExpandModel_delimited_86 : decode b_MacroExpandModel_delimited 86 = .ok (.if_icmp .ne 17, 3) := by decide +kernel
theorem d_MacroExpandModel_delimited_89 : decode b_MacroExpandModel_delimited 89 = .ok (.iload 6, 2) := by decide +kernel
theorem d_MacroExpandModel_delimited_91 : decode b_MacroExpandModel_delimited 91 = .ok (.ifCond .ne 12, 3) := by decide +kernel
theorem d_MacroExpandModel_delimited_94 : decode b_MacroExpandModel_delimited 94 = .ok (.aload_n 0, 1) := by decide +kernel
theorem d_MacroExpandModel_delimited_95 : decode b_MacroExpandModel_delimited 95 = .ok (.bipush 7, 2) := by decide +kernel
theorem d_MacroExpandModel_delimited_97 : decode b_MacroExpandModel_delimited 97 = .ok (.invokevirtual 123, 3) := by decide +kernel
theorem d_MacroExpandModel_delimited_100 : decode b_MacroExpandModel_delimited 100 = .ok (.goto 40, 3) := by decide +kernel
theorem d_MacroExpandModel_delimited_103 : decode b_MacroExpandModel_delimited 103 = .ok (.iload 6, 2) := by decide +kernel
theorem d_MacroExpandModel_delimited_105 : decode b_MacroExpandModel_delimited 105 = .ok (.iload 8, 2) := by decide +kernel
theorem d_MacroExpandModel_delimited_107 : decode b_MacroExpandModel_delimited 107 = .ok (.sipush 257, 3) := by decide +kernel
theorem d_MacroExpandModel_delimited_110 : decode b_MacroExpandModel_delimited 110 = .ok (.if_icmp .ne 7, 3) := by decide +kernel
theorem d_MacroExpandModel_delimited_113 : decode b_MacroExpandModel_delimited 113 = .ok (.iconst 1, 1) := by decide +kernel
theorem d_MacroExpandModel_delimited_114 : decode b_MacroExpandModel_delimited 114 = .ok (.goto 16, 3) := by decide +kernel
theorem d_MacroExpandModel_delimited_117 : decode b_MacroExpandModel_delimited 117 = .ok (.iload 8, 2) := by decide +kernel
theorem d_MacroExpandModel_delimited_119 : decode b_MacroExpandModel_delimited 119 = .ok (.sipush 258, 3) := by decide +kernel
theorem d_MacroExpandModel_delimited_122 : decode b_MacroExpandModel_delimited 122 = .ok (.if_icmp .ne 7, 3) := by decide +kernel
theorem d_MacroExpandModel_delimited_125 : decode b_MacroExpandModel_delimited 125 = .ok (.iconst (-1), 1) := by decide +kernel
theorem d_MacroExpandModel_delimited_126 : decode b_MacroExpandModel_delimited 126 = .ok (.goto 4, 3) := by decide +kernel
theorem d_MacroExpandModel_delimited_129 : decode b_MacroExpandModel_delimited 129 = .ok (.iconst 0, 1) := by decide +kernel
theorem d_MacroExpandModel_delimited_130 : decode b_MacroExpandModel_delimited 130 = .ok (.iadd, 1) := by decide +kernel
theorem d_MacroExpandModel_delimited_131 : decode b_MacroExpandModel_delimited 131 = .ok (.istore 6, 2) := by decide +kernel
theorem d_MacroExpandModel_delimited_133 : decode b_MacroExpandModel_delimited 133 = .ok (.aload_n 0, 1) := by decide +kernel
theorem d_MacroExpandModel_delimited_134 : decode b_MacroExpandModel_delimited 134 = .ok (.iload_n 1, 1) := by decide +kernel
theorem d_MacroExpandModel_delimited_135 : decode b_MacroExpandModel_delimited 135 = .ok (.iload 8, 2) := by decide +kernel
theorem d_MacroExpandModel_delimited_137 : decode b_MacroExpandModel_delimited 137 = .ok (.invokevirtual 131, 3) := by decide +kernel
theorem d_MacroExpandModel_delimited_140 : decode b_MacroExpandModel_delimited 140 = .ok (.iinc 5 1, 3) := by decide +kernel
theorem d_MacroExpandModel_delimited_143 : decode b_MacroExpandModel_delimited 143 = .ok (.goto (-134), 3) := by decide +kernel
theorem d_MacroExpandModel_delimited_146 : decode b_MacroExpandModel_delimited 146 = .ok (.aload_n 0, 1) := by decide +kernel
theorem d_MacroExpandModel_delimited_147 : decode b_MacroExpandModel_delimited 147 = .ok (.getfield 113, 3) := by decide +kernel
theorem d_MacroExpandModel_delimited_150 : decode b_MacroExpandModel_delimited 150 = .ok (.ifCond .ne 76, 3) := by decide +kernel
theorem d_MacroExpandModel_delimited_153 : decode b_MacroExpandModel_delimited 153 = .ok (.iload 7, 2) := by decide +kernel
theorem d_MacroExpandModel_delimited_155 : decode b_MacroExpandModel_delimited 155 = .ok (.ifCond .eq 71, 3) := by decide +kernel
theorem d_MacroExpandModel_delimited_158 : decode b_MacroExpandModel_delimited 158 = .ok (.aload_n 0, 1) := by decide +kernel
theorem d_MacroExpandModel_delimited_159 : decode b_MacroExpandModel_delimited 159 = .ok (.getfield 47, 3) := by decide +kernel
theorem d_MacroExpandModel_delimited_162 : decode b_MacroExpandModel_delimited 162 = .ok (.iload_n 1, 1) := by decide +kernel
theorem d_MacroExpandModel_delimited_163 : decode b_MacroExpandModel_delimited 163 = .ok (.iaload, 1) := by decide +kernel
theorem d_MacroExpandModel_delimited_164 : decode b_MacroExpandModel_delimited 164 = .ok (.iconst 1, 1) := by decide +kernel
theorem d_MacroExpandModel_delimited_165 : decode b_MacroExpandModel_delimited 165 = .ok (.if_icmp .le 61, 3) := by decide +kernel
theorem d_MacroExpandModel_delimited_168 : decode b_MacroExpandModel_delimited 168 = .ok (.aload_n 0, 1) := by decide +kernel
theorem d_MacroExpandModel_delimited_169 : decode b_MacroExpandModel_delimited 169 = .ok (.getfield 47, 3) := by decide +kernel
theorem d_MacroExpandModel_delimited_172 : decode b_MacroExpandModel_delimited 172 = .ok (.iload_n 1, 1) := by decide +kernel
theorem d_MacroExpandModel_delimited_173 : decode b_MacroExpandModel_delimited 173 = .ok (.dup2, 1) := by decide +kernel
theorem d_MacroExpandModel_delimited_174 : decode b_MacroExpandModel_delimited 174 = .ok (.iaload, 1) := by decide +kernel
theorem d_MacroExpandModel_delimited_175 : decode b_MacroExpandModel_delimited 175 = .ok (.iconst 2, 1) := by decide +kernel
theorem d_MacroExpandModel_delimited_176 : decode b_MacroExpandModel_delimited 176 = .ok (.isub, 1) := by decide +kernel
theorem d_MacroExpandModel_delimited_177 : decode b_MacroExpandModel_delimited 177 = .ok (.iastore, 1) := by decide +kernel
theorem d_MacroExpandModel_delimited_178 : decode b_MacroExpandModel_delimited 178 = .ok (.iconst 0, 1) := by decide +kernel
theorem d_MacroExpandModel_delimited_179 : decode b_MacroExpandModel_delimited 179 = .ok (.istore 8, 2) := by decide +kernel
theorem d_MacroExpandModel_delimited_181 : decode b_MacroExpandModel_delimited 181 = .ok (.iload 8, 2) := by decide +kernel
theorem d_MacroExpandModel_delimited_183 : decode b_MacroExpandModel_delimited 183 = .ok (.aload_n 0, 1) := by decide +kernel
theorem d_MacroExpandModel_delimited_184 : decode b_MacroExpandModel_delimited 184 = .ok (.getfield 47, 3) := by decide +kernel
theorem d_MacroExpandModel_delimited_187 : decode b_MacroExpandModel_delimited 187 = .ok (.iload_n 1, 1) := by decide +kernel
theorem d_MacroExpandModel_delimited_188 : decode b_MacroExpandModel_delimited 188 = .ok (.iaload, 1) := by decide +kernel
theorem d_MacroExpandModel_delimited_189 : decode b_MacroExpandModel_delimited 189 = .ok (.if_icmp .ge 37, 3) := by decide +kernel
theorem d_MacroExpandModel_delimited_192 : decode b_MacroExpandModel_delimited 192 = .ok (.aload_n 0, 1) := by decide +kernel
theorem d_MacroExpandModel_delimited_193 : decode b_MacroExpandModel_delimited 193 = .ok (.getfield 50, 3) := by decide +kernel
theorem d_MacroExpandModel_delimited_196 : decode b_MacroExpandModel_delimited 196 = .ok (.sipush 400, 3) := by decide +kernel
theorem d_MacroExpandModel_delimited_199 : decode b_MacroExpandModel_delimited 199 = .ok (.iload_n 1, 1) := by decide +kernel
theorem d_MacroExpandModel_delimited_200 : decode b_MacroExpandModel_delimited 200 = .ok (.imul, 1) := by decide +kernel
theorem d_MacroExpandModel_delimited_201 : decode b_MacroExpandModel_delimited 201 = .ok (.iload 8, 2) := by decide +kernel
theorem d_MacroExpandModel_delimited_203 : decode b_MacroExpandModel_delimited 203 = .ok (.iadd, 1) := by decide +kernel
theorem d_MacroExpandModel_delimited_204 : decode b_MacroExpandModel_delimited 204 = .ok (.aload_n 0, 1) := by decide +kernel
theorem d_MacroExpandModel_delimited_205 : decode b_MacroExpandModel_delimited 205 = .ok (.getfield 50, 3) := by decide +kernel
theorem d_MacroExpandModel_delimited_208 : decode b_MacroExpandModel_delimited 208 = .ok (.sipush 400, 3) := by decide +kernel
theorem d_MacroExpandModel_delimited_211 : decode b_MacroExpandModel_delimited 211 = .ok (.iload_n 1, 1) := by decide +kernel
theorem d_MacroExpandModel_delimited_212 : decode b_MacroExpandModel_delimited 212 = .ok (.imul, 1) := by decide +kernel
theorem d_MacroExpandModel_delimited_213 : decode b_MacroExpandModel_delimited 213 = .ok (.iload 8, 2) := by decide +kernel
theorem d_MacroExpandModel_delimited_215 : decode b_MacroExpandModel_delimited 215 = .ok (.iadd, 1) := by decide +kernel
theorem d_MacroExpandModel_delimited_216 : decode b_MacroExpandModel_delimited 216 = .ok (.iconst 1, 1) := by decide +kernel
theorem d_MacroExpandModel_delimited_217 : decode b_MacroExpandModel_delimited 217 = .ok (.iadd, 1) := by decide +kernel
theorem d_MacroExpandModel_delimited_218 : decode b_MacroExpandModel_delimited 218 = .ok (.iaload, 1) := by decide +kernel
theorem d_MacroExpandModel_delimited_219 : decode b_MacroExpandModel_delimited 219 = .ok (.iastore, 1) := by decide +kernel
theorem d_MacroExpandModel_delimited_220 : decode b_MacroExpandModel_delimited 220 = .ok (.iinc 8 1, 3) := by decide +kernel
theorem d_MacroExpandModel_delimited_223 : decode b_MacroExpandModel_delimited 223 = .ok (.goto (-42), 3) := by decide +kernel
theorem d_MacroExpandModel_delimited_226 : decode b_MacroExpandModel_delimited 226 = .ok (.iload 5, 2) := by decide +kernel
theorem d_MacroExpandModel_delimited_228 : decode b_MacroExpandModel_delimited 228 = .ok (.aload_n 0, 1) := by decide +kernel
theorem d_MacroExpandModel_delimited_229 : decode b_MacroExpandModel_delimited 229 = .ok (.getfield 28, 3) := by decide +kernel
theorem d_MacroExpandModel_delimited_232 : decode b_MacroExpandModel_delimited 232 = .ok (.iload_n 2, 1) := by decide +kernel
theorem d_MacroExpandModel_delimited_233 : decode b_MacroExpandModel_delimited 233 = .ok (.iaload, 1) := by decide +kernel
theorem d_MacroExpandModel_delimited_234 : decode b_MacroExpandModel_delimited 234 = .ok (.iadd, 1) := by decide +kernel
theorem d_MacroExpandModel_delimited_235 : decode b_MacroExpandModel_delimited 235 = .ok (.ireturn, 1) := by decide +kernel
