theorem d_Input_beginsWith_0 : decode b_Input_beginsWith 0 = .ok (.aload_n 1, 1) := by decide +kernel
theorem d_Input_beginsWith_1 : decode b_Input_beginsWith 1 = .ok (.getfield 19, 3) := by decide +kernel
theorem d_Input_beginsWith_4 : decode b_Input_beginsWith 4 = .ok (.aload_n 0, 1) := by decide +kernel
theorem d_Input_beginsWith_5 : decode b_Input_beginsWith 5 = .ok (.getfield 15, 3) := by decide +kernel
theorem d_Input_beginsWith_8 : decode b_Input_beginsWith 8 = .ok (.if_icmp .le 5, 3) := by decide +kernel
theorem d_Input_beginsWith_11 : decode b_Input_beginsWith 11 = .ok (.iconst 0, 1) := by decide +kernel
theorem d_Input_beginsWith_12 : decode b_Input_beginsWith 12 = .ok (.ireturn, 1) := by decide +kernel
theorem d_Input_beginsWith_13 : decode b_Input_beginsWith 13 = .ok (.iconst 0, 1) := by decide +kernel
theorem d_Input_beginsWith_14 : decode b_Input_beginsWith 14 = .ok (.istore_n 2, 1) := by decide +kernel
theorem d_Input_beginsWith_15 : decode b_Input_beginsWith 15 = .ok (.iload_n 2, 1) := by decide +kernel
theorem d_Input_beginsWith_16 : decode b_Input_beginsWith 16 = .ok (.aload_n 1, 1) := by decide +kernel
theorem d_Input_beginsWith_17 : decode b_Input_beginsWith 17 = .ok (.getfield 19, 3) := by decide +kernel
theorem d_Input_beginsWith_20 : decode b_Input_beginsWith 20 = .ok (.if_icmp .ge 24, 3) := by decide +kernel
theorem d_Input_beginsWith_23 : decode b_Input_beginsWith 23 = .ok (.aload_n 0, 1) := by decide +kernel
theorem d_Input_beginsWith_24 : decode b_Input_beginsWith 24 = .ok (.iload_n 2, 1) := by decide +kernel
theorem d_Input_beginsWith_25 : decode b_Input_beginsWith 25 = .ok (.invokevirtual 42, 3) := by decide +kernel
theorem d_Input_beginsWith_28 : decode b_Input_beginsWith 28 = .ok (.aload_n 1, 1) := by decide +kernel
theorem d_Input_beginsWith_29 : decode b_Input_beginsWith 29 = .ok (.iload_n 2, 1) := by decide +kernel
theorem d_Input_beginsWith_30 : decode b_Input_beginsWith 30 = .ok (.invokevirtual 22, 3) := by decide +kernel
theorem d_Input_beginsWith_33 : decode b_Input_beginsWith 33 = .ok (.if_icmp .eq 5, 3) := by decide +kernel
theorem d_Input_beginsWith_36 : decode b_Input_beginsWith 36 = .ok (.iconst 0, 1) := by decide +kernel
theorem d_Input_beginsWith_37 : decode b_Input_beginsWith 37 = .ok (.ireturn, 1) := by decide +kernel
theorem d_Input_beginsWith_38 : decode b_Input_beginsWith 38 = .ok (.iinc 2 1, 3) := by decide +kernel
theorem d_Input_beginsWith_41 : decode b_Input_beginsWith 41 = .ok (.goto (-26), 3) := by decide +kernel
theorem d_Input_beginsWith_44 : decode b_Input_beginsWith 44 = .ok (.iconst 1, 1) := by decide +kernel
theorem d_Input_beginsWith_45 : decode b_Input_beginsWith 45 = .ok (.ireturn, 1) := by decide +kernel
theorem d_Input_drop_0 : decode b_Input_drop 0 = .ok (.aload_n 0, 1) := by decide +kernel
theorem d_Input_drop_1 : decode b_Input_drop 1 = .ok (.iconst 0, 1) := by decide +kernel
theorem d_Input_drop_2 : decode b_Input_drop 2 = .ok (.aload_n 0, 1) := by decide +kernel
theorem d_Input_drop_3 : decode b_Input_drop 3 = .ok (.getfield 15, 3) := by decide +kernel
theorem d_Input_drop_6 : decode b_Input_drop 6 = .ok (.iconst 0, 1) := by decide +kernel
theorem d_Input_drop_7 : decode b_Input_drop 7 = .ok (.iload_n 1, 1) := by decide +kernel
theorem d_Input_drop_8 : decode b_Input_drop 8 = .ok (.invokestatic 36, 3) := by decide +kernel
theorem d_Input_drop_11 : decode b_Input_drop 11 = .ok (.isub, 1) := by decide +kernel
theorem d_Input_drop_12 : decode b_Input_drop 12 = .ok (.invokestatic 36, 3) := by decide +kernel
theorem d_Input_drop_15 : decode b_Input_drop 15 = .ok (.putfield 15, 3) := by decide +kernel
theorem d_Input_drop_18 : decode b_Input_drop 18 = .ok (.return_, 1) := by decide +kernel
theorem d_Row_leaveOutOuterPair_0 : decode b_Row_leaveOutOuterPair 0 = .ok (.aload_n 0, 1) := by decide +kernel
theorem d_Row_leaveOutOuterPair_1 : decode b_Row_leaveOutOuterPair 1 = .ok (.getfield 19, 3) := by decide +kernel
theorem d_Row_leaveOutOuterPair_4 : decode b_Row_leaveOutOuterPair 4 = .ok (.iconst 2, 1) := by decide +kernel
theorem d_Row_leaveOutOuterPair_5 : decode b_Row_leaveOutOuterPair 5 = .ok (.if_icmp .lt 30, 3) := by decide +kernel
theorem d_Row_leaveOutOuterPair_8 : decode b_Row_leaveOutOuterPair 8 = .ok (.aload_n 0, 1) := by decide +kernel
theorem d_Row_leaveOutOuterPair_9 : decode b_Row_leaveOutOuterPair 9 = .ok (.iconst 0, 1) := by decide +kernel
theorem d_Row_leaveOutOuterPair_10 : decode b_Row_leaveOutOuterPair 10 = .ok (.invokevirtual 34, 3) := by decide +kernel
theorem d_Row_leaveOutOuterPair_13 : decode b_Row_leaveOutOuterPair 13 = .ok (.sipush 257, 3) := by decide +kernel
theorem d_Row_leaveOutOuterPair_16 : decode b_Row_leaveOutOuterPair 16 = .ok (.if_icmp .ne 19, 3) := by decide +kernel
theorem d_Row_leaveOutOuterPair_19 : decode b_Row_leaveOutOuterPair 19 = .ok (.aload_n 0, 1) := by decide +kernel
theorem d_Row_leaveOutOuterPair_20 : decode b_Row_leaveOutOuterPair 20 = .ok (.aload_n 0, 1) := by decide +kernel
theorem d_Row_leaveOutOuterPair_21 : decode b_Row_leaveOutOuterPair 21 = .ok (.getfield 19, 3) := by decide +kernel
theorem d_Row_leaveOutOuterPair_24 : decode b_Row_leaveOutOuterPair 24 = .ok (.iconst 1, 1) := by decide +kernel
theorem d_Row_leaveOutOuterPair_25 : decode b_Row_leaveOutOuterPair 25 = .ok (.isub, 1) := by decide +kernel
theorem d_Row_leaveOutOuterPair_26 : decode b_Row_leaveOutOuterPair 26 = .ok (.invokevirtual 34, 3) := by decide +kernel
theorem d_Row_leaveOutOuterPair_29 : decode b_Row_leaveOutOuterPair 29 = .ok (.sipush 258, 3) := by decide +kernel
theorem d_Row_leaveOutOuterPair_32 : decode b_Row_leaveOutOuterPair 32 = .ok (.if_icmp .eq 4, 3) := by decide +kernel
theorem d_Row_leaveOutOuterPair_35 : decode b_Row_leaveOutOuterPair 35 = .ok (.return_, 1) := by decide +kernel
theorem d_Row_leaveOutOuterPair_36 : decode b_Row_leaveOutOuterPair 36 = .ok (.iconst 0, 1) := by decide +kernel
theorem d_Row_leaveOutOuterPair_37 : decode b_Row_leaveOutOuterPair 37 = .ok (.istore_n 1, 1) := by decide +kernel
theorem d_Row_leaveOutOuterPair_38 : decode b_Row_leaveOutOuterPair 38 = .ok (.iconst 0, 1) := by decide +kernel
theorem d_Row_leaveOutOuterPair_39 : decode b_Row_leaveOutOuterPair 39 = .ok (.istore_n 2, 1) := by decide +kernel
theorem d_Row_leaveOutOuterPair_40 : decode b_Row_leaveOutOuterPair 40 = .ok (.iload_n 2, 1) := by decide +kernel
theorem d_Row_leaveOutOuterPair_41 : decode b_Row_leaveOutOuterPair 41 = .ok (.aload_n 0, 1) := by decide +kernel
theorem d_Row_leaveOutOuterPair_42 : decode b_Row_leaveOutOuterPair 42 = .ok (.getfield 19, 3) := by decide +kernel
theorem d_Row_leaveOutOuterPair_45 : decode b_Row_leaveOutOuterPair 45 = .ok (.iconst 1, 1) := by decide +kernel
theorem d_Row_leaveOutOuterPair_46 : decode b_Row_leaveOutOuterPair 46 = .ok (.isub, 1) := by decide +kernel
theorem d_Row_leaveOutOuterPair_47 : decode b_Row_leaveOutOuterPair 47 = .ok (.if_icmp .ge 25, 3) := by decide +kernel
theorem d_Row_leaveOutOuterPair_50 : decode b_Row_leaveOutOuterPair 50 = .ok (.iload_n 1, 1) := by decide +kernel
theorem d_Row_leaveOutOuterPair_51 : decode b_Row_leaveOutOuterPair 51 = .ok (.aload_n 0, 1) := by decide +kernel
theorem d_Row_leaveOutOuterPair_52 : decode b_Row_leaveOutOuterPair 52 = .ok (.iload_n 2, 1) := by decide +kernel
theorem d_Row_leaveOutOuterPair_53 : decode b_Row_leaveOutOuterPair 53 = .ok (.invokevirtual 34, 3) := by decide +kernel
theorem d_Row_leaveOutOuterPair_56 : decode b_Row_leaveOutOuterPair 56 = .ok (.invokestatic 38, 3) := by decide +kernel
theorem d_Row_leaveOutOuterPair_59 : decode b_Row_leaveOutOuterPair 59 = .ok (.iadd, 1) := by decide +kernel
theorem d_Row_leaveOutOuterPair_60 : decode b_Row_leaveOutOuterPair 60 = .ok (.istore_n 1, 1) := by decide +kernel
theorem d_Row_leaveOutOuterPair_61 : decode b_Row_leaveOutOuterPair 61 = .ok (.iload_n 1, 1) := by decide +kernel
theorem d_Row_leaveOutOuterPair_62 : decode b_Row_leaveOutOuterPair 62 = .ok (.ifCond .ne 4, 3) := by decide +kernel
theorem d_Row_leaveOutOuterPair_65 : decode b_Row_leaveOutOuterPair 65 = .ok (.return_, 1) := by decide +kernel
theorem d_Row_leaveOutOuterPair_66 : decode b_Row_leaveOutOuterPair 66 = .ok (.iinc 2 1, 3) := by decide +kernel
theorem d_Row_leaveOutOuterPair_69 : decode b_Row_leaveOutOuterPair 69 = .ok (.goto (-29), 3) := by decide +kernel
theorem d_Row_leaveOutOuterPair_72 : decode b_Row_leaveOutOuterPair 72 = .ok (.aload_n 0, 1) := by decide +kernel
theorem d_Row_leaveOutOuterPair_73 : decode b_Row_leaveOutOuterPair 73 = .ok (.getfield 15, 3) := by decide +kernel
theorem d_Row_leaveOutOuterPair_76 : decode b_Row_leaveOutOuterPair 76 = .ok (.iconst 1, 1) := by decide +kernel
theorem d_Row_leaveOutOuterPair_77 : decode b_Row_leaveOutOuterPair 77 = .ok (.aload_n 0, 1) := by decide +kernel
theorem d_Row_leaveOutOuterPair_78 : decode b_Row_leaveOutOuterPair 78 = .ok (.getfield 15, 3) := by decide +kernel
theorem d_Row_leaveOutOuterPair_81 : decode b_Row_leaveOutOuterPair 81 = .ok (.iconst 0, 1) := by decide +kernel
theorem d_Row_leaveOutOuterPair_82 : decode b_Row_leaveOutOuterPair 82 = .ok (.aload_n 0, 1) := by decide +kernel
theorem d_Row_leaveOutOuterPair_83 : decode b_Row_leaveOutOuterPair 83 = .ok (.getfield 19, 3) := by decide +kernel
theorem d_Row_leaveOutOuterPair_86 : decode b_Row_leaveOutOuterPair 86 = .ok (.iconst 2, 1) := by decide +kernel
theorem d_Row_leaveOutOuterPair_87 : decode b_Row_leaveOutOuterPair 87 = .ok (.isub, 1) := by decide +kernel
theorem d_Row_leaveOutOuterPair_88 : decode b_Row_leaveOutOuterPair 88 = .ok (.invokestatic 43, 3) := by decide +kernel
theorem d_Row_leaveOutOuterPair_91 : decode b_Row_leaveOutOuterPair 91 = .ok (.aload_n 0, 1) := by decide +kernel
theorem d_Row_leaveOutOuterPair_92 : decode b_Row_leaveOutOuterPair 92 = .ok (.dup, 1) := by decide +kernel
theorem d_Row_leaveOutOuterPair_93 : decode b_Row_leaveOutOuterPair 93 = .ok (.getfield 19, 3) := by decide +kernel
theorem d_Row_leaveOutOuterPair_96 : decode b_Row_leaveOutOuterPair 96 = .ok (.iconst 2, 1) := by decide +kernel
theorem d_Row_leaveOutOuterPair_97 : decode b_Row_leaveOutOuterPair 97 = .ok (.isub, 1) := by decide +kernel
theorem d_Row_leaveOutOuterPair_98 : decode b_Row_leaveOutOuterPair 98 = .ok (.putfield 19, 3) := by decide +kernel
theorem d_Row_leaveOutOuterPair_101 : decode b_Row_leaveOutOuterPair 101 = .ok (.return_, 1) := by decide +kernel
theorem d_Arguments_readUpTo_0 : decode b_Arguments_readUpTo 0 = .ok (.aload_n 0, 1) := by decide +kernel
theorem d_Arguments_readUpTo_1 : decode b_Arguments_readUpTo 1 = .ok (.iload_n 2, 1) := by decide +kernel
theorem d_Arguments_readUpTo_2 : decode b_Arguments_readUpTo 2 = .ok (.invokevirtual 37, 3) := by decide +kernel
theorem d_Arguments_readUpTo_5 : decode b_Arguments_readUpTo 5 = .ok (.astore 4, 2) := by decide +kernel
theorem d_Arguments_readUpTo_7 : decode b_Arguments_readUpTo 7 = .ok (.aload 4, 2) := by decide +kernel
theorem d_Arguments_readUpTo_9 : decode b_Arguments_readUpTo 9 = .ok (.invokevirtual 65, 3) := by decide +kernel
theorem d_Arguments_readUpTo_12 : decode b_Arguments_readUpTo 12 = .ok (.iconst 0, 1) := by decide +kernel
theorem d_Arguments_readUpTo_13 : decode b_Arguments_readUpTo 13 = .ok (.istore 5, 2) := by decide +kernel
theorem d_Arguments_readUpTo_15 : decode b_Arguments_readUpTo 15 = .ok (.iconst 0, 1) := by decide +kernel
theorem d_Arguments_readUpTo_16 : decode b_Arguments_readUpTo 16 = .ok (.istore 6, 2) := by decide +kernel
theorem d_Arguments_readUpTo_18 : decode b_Arguments_readUpTo 18 = .ok (.iload 6, 2) := by decide +kernel
theorem d_Arguments_readUpTo_20 : decode b_Arguments_readUpTo 20 = .ok (.sipush 3000, 3) := by decide +kernel
theorem d_Arguments_readUpTo_23 : decode b_Arguments_readUpTo 23 = .ok (.if_icmp .ge 110, 3) := by decide +kernel
theorem d_Arguments_readUpTo_26 : decode b_Arguments_readUpTo 26 = .ok (.aload_n 0, 1) := by decide +kernel
theorem d_Arguments_readUpTo_27 : decode b_Arguments_readUpTo 27 = .ok (.getfield 9, 3) := by decide +kernel
theorem d_Arguments_readUpTo_30 : decode b_Arguments_readUpTo 30 = .ok (.invokevirtual 45, 3) := by decide +kernel
theorem d_Arguments_readUpTo_33 : decode b_Arguments_readUpTo 33 = .ok (.ifCond .ne 100, 3) := by decide +kernel
theorem d_Arguments_readUpTo_36 : decode b_Arguments_readUpTo 36 = .ok (.iload 5, 2) := by decide +kernel
theorem d_Arguments_readUpTo_38 : decode b_Arguments_readUpTo 38 = .ok (.ifCond .ne 32, 3) := by decide +kernel
theorem d_Arguments_readUpTo_41 : decode b_Arguments_readUpTo 41 = .ok (.aload_n 0, 1) := by decide +kernel
theorem d_Arguments_readUpTo_42 : decode b_Arguments_readUpTo 42 = .ok (.getfield 9, 3) := by decide +kernel
theorem d_Arguments_readUpTo_45 : decode b_Arguments_readUpTo 45 = .ok (.aload_n 1, 1) := by decide +kernel
theorem d_Arguments_readUpTo_46 : decode b_Arguments_readUpTo 46 = .ok (.invokevirtual 84, 3) := by decide +kernel
theorem d_Arguments_readUpTo_49 : decode b_Arguments_readUpTo 49 = .ok (.ifCond .eq 21, 3) := by decide +kernel
theorem d_Arguments_readUpTo_52 : decode b_Arguments_readUpTo 52 = .ok (.aload_n 0, 1) := by decide +kernel
theorem d_Arguments_readUpTo_53 : decode b_Arguments_readUpTo 53 = .ok (.getfield 9, 3) := by decide +kernel
theorem d_Arguments_readUpTo_56 : decode b_Arguments_readUpTo 56 = .ok (.aload_n 1, 1) := by decide +kernel
theorem d_Arguments_readUpTo_57 : decode b_Arguments_readUpTo 57 = .ok (.getfield 41, 3) := by decide +kernel
theorem d_Arguments_readUpTo_60 : decode b_Arguments_readUpTo 60 = .ok (.invokevirtual 88, 3) := by decide +kernel
theorem d_Arguments_readUpTo_63 : decode b_Arguments_readUpTo 63 = .ok (.aload 4, 2) := by decide +kernel
theorem d_Arguments_readUpTo_65 : decode b_Arguments_readUpTo 65 = .ok (.invokevirtual 91, 3) := by decide +kernel
theorem d_Arguments_readUpTo_68 : decode b_Arguments_readUpTo 68 = .ok (.iconst 0, 1) := by decide +kernel
theorem d_Arguments_readUpTo_69 : decode b_Arguments_readUpTo 69 = .ok (.ireturn, 1) := by decide +kernel
theorem d_Arguments_readUpTo_70 : decode b_Arguments_readUpTo 70 = .ok (.aload_n 0, 1) := by decide +kernel
theorem d_Arguments_readUpTo_71 : decode b_Arguments_readUpTo 71 = .ok (.getfield 9, 3) := by decide +kernel
theorem d_Arguments_readUpTo_74 : decode b_Arguments_readUpTo 74 = .ok (.invokevirtual 51, 3) := by decide +kernel
theorem d_Arguments_readUpTo_77 : decode b_Arguments_readUpTo 77 = .ok (.istore 7, 2) := by decide +kernel
theorem d_Arguments_readUpTo_79 : decode b_Arguments_readUpTo 79 = .ok (.aload_n 0, 1) := by decide +kernel
theorem d_Arguments_readUpTo_80 : decode b_Arguments_readUpTo 80 = .ok (.iload 7, 2) := by decide +kernel
theorem d_Arguments_readUpTo_82 : decode b_Arguments_readUpTo 82 = .ok (.aload_n 3, 1) := by decide +kernel
theorem d_Arguments_readUpTo_83 : decode b_Arguments_readUpTo 83 = .ok (.invokevirtual 69, 3) := by decide +kernel
theorem d_Arguments_readUpTo_86 : decode b_Arguments_readUpTo 86 = .ok (.ifCond .eq 5, 3) := by decide +kernel
theorem d_Arguments_readUpTo_89 : decode b_Arguments_readUpTo 89 = .ok (.iconst 2, 1) := by decide +kernel
theorem d_Arguments_readUpTo_90 : decode b_Arguments_readUpTo 90 = .ok (.ireturn, 1) := by decide +kernel
theorem d_Arguments_readUpTo_91 : decode b_Arguments_readUpTo 91 = .ok (.iload 5, 2) := by decide +kernel
theorem d_Arguments_readUpTo_93 : decode b_Arguments_readUpTo 93 = .ok (.iload 7, 2) := by decide +kernel
theorem d_Arguments_readUpTo_95 : decode b_Arguments_readUpTo 95 = .ok (.invokestatic 73, 3) := by decide +kernel
theorem d_Arguments_readUpTo_98 : decode b_Arguments_readUpTo 98 = .ok (.iadd, 1) := by decide +kernel
theorem d_Arguments_readUpTo_99 : decode b_Arguments_readUpTo 99 = .ok (.istore 5, 2) := by decide +kernel
theorem d_Arguments_readUpTo_101 : decode b_Arguments_readUpTo 101 = .ok (.iload 5, 2) := by decide +kernel
theorem d_Arguments_readUpTo_103 : decode b_Arguments_readUpTo 103 = .ok (.ifCond .ge 6, 3) := by decide +kernel
theorem d_Arguments_readUpTo_106 : decode b_Arguments_readUpTo 106 = .ok (.bipush 7, 2) := by decide +kernel
theorem d_Arguments_readUpTo_108 : decode b_Arguments_readUpTo 108 = .ok (.ireturn, 1) := by decide +kernel
theorem d_Arguments_readUpTo_109 : decode b_Arguments_readUpTo 109 = .ok (.aload 4, 2) := by decide +kernel
theorem d_Arguments_readUpTo_111 : decode b_Arguments_readUpTo 111 = .ok (.invokevirtual 78, 3) := by decide +kernel
theorem d_Arguments_readUpTo_114 : decode b_Arguments_readUpTo 114 = .ok (.ifCond .eq 6, 3) := by decide +kernel
theorem d_Arguments_readUpTo_117 : decode b_Arguments_readUpTo 117 = .ok (.bipush 8, 2) := by decide +kernel
theorem d_Arguments_readUpTo_119 : decode b_Arguments_readUpTo 119 = .ok (.ireturn, 1) := by decide +kernel
theorem d_Arguments_readUpTo_120 : decode b_Arguments_readUpTo 120 = .ok (.aload 4, 2) := by decide +kernel
theorem d_Arguments_readUpTo_122 : decode b_Arguments_readUpTo 122 = .ok (.iload 7, 2) := by decide +kernel
theorem d_Arguments_readUpTo_124 : decode b_Arguments_readUpTo 124 = .ok (.invokevirtual 81, 3) := by decide +kernel
theorem d_Arguments_readUpTo_127 : decode b_Arguments_readUpTo 127 = .ok (.iinc 6 1, 3) := by decide +kernel
theorem d_Arguments_readUpTo_130 : decode b_Arguments_readUpTo 130 = .ok (.goto (-112), 3) := by decide +kernel
theorem d_Arguments_readUpTo_133 : decode b_Arguments_readUpTo 133 = .ok (.iconst 1, 1) := by decide +kernel
theorem d_Arguments_readUpTo_134 : decode b_Arguments_readUpTo 134 = .ok (.ireturn, 1) := by decide +kernel
theorem d_Kind_argumentOf_0 : decode b_Kind_argumentOf 0 = .ok (.iload_n 0, 1) := by decide +kernel
theorem d_Kind_argumentOf_1 : decode b_Kind_argumentOf 1 = .ok (.sipush 310, 3) := by decide +kernel
theorem d_Kind_argumentOf_4 : decode b_Kind_argumentOf 4 = .ok (.if_icmp .le 18, 3) := by decide +kernel
theorem d_Kind_argumentOf_7 : decode b_Kind_argumentOf 7 = .ok (.iload_n 0, 1) := by decide +kernel
theorem d_Kind_argumentOf_8 : decode b_Kind_argumentOf 8 = .ok (.sipush 320, 3) := by decide +kernel
theorem d_Kind_argumentOf_11 : decode b_Kind_argumentOf 11 = .ok (.if_icmp .ge 11, 3) := by decide +kernel
theorem d_Kind_argumentOf_14 : decode b_Kind_argumentOf 14 = .ok (.iload_n 0, 1) := by decide +kernel
theorem d_Kind_argumentOf_15 : decode b_Kind_argumentOf 15 = .ok (.sipush 310, 3) := by decide +kernel
theorem d_Kind_argumentOf_18 : decode b_Kind_argumentOf 18 = .ok (.isub, 1) := by decide +kernel
theorem d_Kind_argumentOf_19 : decode b_Kind_argumentOf 19 = .ok (.goto 4, 3) := by decide +kernel
theorem d_Kind_argumentOf_22 : decode b_Kind_argumentOf 22 = .ok (.iconst 0, 1) := by decide +kernel
theorem d_Kind_argumentOf_23 : decode b_Kind_argumentOf 23 = .ok (.ireturn, 1) := by decide +kernel
theorem d_Expander_sizeOfText_0 : decode b_Expander_sizeOfText 0 = .ok (.iconst 0, 1) := by decide +kernel
theorem d_Expander_sizeOfText_1 : decode b_Expander_sizeOfText 1 = .ok (.istore_n 2, 1) := by decide +kernel
theorem d_Expander_sizeOfText_2 : decode b_Expander_sizeOfText 2 = .ok (.iconst 0, 1) := by decide +kernel
theorem d_Expander_sizeOfText_3 : decode b_Expander_sizeOfText 3 = .ok (.istore_n 3, 1) := by decide +kernel
theorem d_Expander_sizeOfText_4 : decode b_Expander_sizeOfText 4 = .ok (.iload_n 3, 1) := by decide +kernel
theorem d_Expander_sizeOfText_5 : decode b_Expander_sizeOfText 5 = .ok (.aload_n 1, 1) := by decide +kernel
theorem d_Expander_sizeOfText_6 : decode b_Expander_sizeOfText 6 = .ok (.getfield 181, 3) := by decide +kernel
theorem d_Expander_sizeOfText_9 : decode b_Expander_sizeOfText 9 = .ok (.getfield 156, 3) := by decide +kernel
theorem d_Expander_sizeOfText_12 : decode b_Expander_sizeOfText 12 = .ok (.if_icmp .ge 57, 3) := by decide +kernel
theorem d_Expander_sizeOfText_15 : decode b_Expander_sizeOfText 15 = .ok (.aload_n 1, 1) := by decide +kernel
theorem d_Expander_sizeOfText_16 : decode b_Expander_sizeOfText 16 = .ok (.getfield 181, 3) := by decide +kernel
theorem d_Expander_sizeOfText_19 : decode b_Expander_sizeOfText 19 = .ok (.iload_n 3, 1) := by decide +kernel
theorem d_Expander_sizeOfText_20 : decode b_Expander_sizeOfText 20 = .ok (.invokevirtual 185, 3) := by decide +kernel
theorem d_Expander_sizeOfText_23 : decode b_Expander_sizeOfText 23 = .ok (.invokestatic 186, 3) := by decide +kernel
theorem d_Expander_sizeOfText_26 : decode b_Expander_sizeOfText 26 = .ok (.istore 4, 2) := by decide +kernel
theorem d_Expander_sizeOfText_28 : decode b_Expander_sizeOfText 28 = .ok (.iload 4, 2) := by decide +kernel
theorem d_Expander_sizeOfText_30 : decode b_Expander_sizeOfText 30 = .ok (.ifCond .ne 9, 3) := by decide +kernel
theorem d_Expander_sizeOfText_33 : decode b_Expander_sizeOfText 33 = .ok (.iinc 2 1, 3) := by decide +kernel
theorem d_Expander_sizeOfText_36 : decode b_Expander_sizeOfText 36 = .ok (.goto 27, 3) := by decide +kernel
theorem d_Expander_sizeOfText_39 : decode b_Expander_sizeOfText 39 = .ok (.iload 4, 2) := by decide +kernel
theorem d_Expander_sizeOfText_41 : decode b_Expander_sizeOfText 41 = .ok (.aload_n 1, 1) := by decide +kernel
theorem d_Expander_sizeOfText_42 : decode b_Expander_sizeOfText 42 = .ok (.getfield 154, 3) := by decide +kernel
theorem d_Expander_sizeOfText_45 : decode b_Expander_sizeOfText 45 = .ok (.if_icmp .gt 18, 3) := by decide +kernel
theorem d_Expander_sizeOfText_48 : decode b_Expander_sizeOfText 48 = .ok (.iload_n 2, 1) := by decide +kernel
theorem d_Expander_sizeOfText_49 : decode b_Expander_sizeOfText 49 = .ok (.aload_n 0, 1) := by decide +kernel
theorem d_Expander_sizeOfText_50 : decode b_Expander_sizeOfText 50 = .ok (.getfield 39, 3) := by decide +kernel
theorem d_Expander_sizeOfText_53 : decode b_Expander_sizeOfText 53 = .ok (.iload 4, 2) := by decide +kernel
theorem d_Expander_sizeOfText_55 : decode b_Expander_sizeOfText 55 = .ok (.invokevirtual 189, 3) := by decide +kernel
theorem d_Expander_sizeOfText_58 : decode b_Expander_sizeOfText 58 = .ok (.getfield 156, 3) := by decide +kernel
theorem d_Expander_sizeOfText_61 : decode b_Expander_sizeOfText 61 = .ok (.iadd, 1) := by decide +kernel
theorem d_Expander_sizeOfText_62 : decode b_Expander_sizeOfText 62 = .ok (.istore_n 2, 1) := by decide +kernel
theorem d_Expander_sizeOfText_63 : decode b_Expander_sizeOfText 63 = .ok (.iinc 3 1, 3) := by decide +kernel
theorem d_Expander_sizeOfText_66 : decode b_Expander_sizeOfText 66 = .ok (.goto (-62), 3) := by decide +kernel
theorem d_Expander_sizeOfText_69 : decode b_Expander_sizeOfText 69 = .ok (.iload_n 2, 1) := by decide +kernel
theorem d_Expander_sizeOfText_70 : decode b_Expander_sizeOfText 70 = .ok (.ireturn, 1) := by decide +kernel
theorem d_Input_put_0 : decode b_Input_put 0 = .ok (.aload_n 0, 1) := by decide +kernel
theorem d_Input_put_1 : decode b_Input_put 1 = .ok (.getfield 15, 3) := by decide +kernel
theorem d_Input_put_4 : decode b_Input_put 4 = .ok (.sipush 3000, 3) := by decide +kernel
theorem d_Input_put_7 : decode b_Input_put 7 = .ok (.if_icmp .ge 23, 3) := by decide +kernel
theorem d_Input_put_10 : decode b_Input_put 10 = .ok (.aload_n 0, 1) := by decide +kernel
theorem d_Input_put_11 : decode b_Input_put 11 = .ok (.getfield 9, 3) := by decide +kernel
theorem d_Input_put_14 : decode b_Input_put 14 = .ok (.aload_n 0, 1) := by decide +kernel
theorem d_Input_put_15 : decode b_Input_put 15 = .ok (.getfield 15, 3) := by decide +kernel
theorem d_Input_put_18 : decode b_Input_put 18 = .ok (.iload_n 1, 1) := by decide +kernel
theorem d_Input_put_19 : decode b_Input_put 19 = .ok (.iastore, 1) := by decide +kernel
theorem d_Input_put_20 : decode b_Input_put 20 = .ok (.aload_n 0, 1) := by decide +kernel
theorem d_Input_put_21 : decode b_Input_put 21 = .ok (.dup, 1) := by decide +kernel
theorem d_Input_put_22 : decode b_Input_put 22 = .ok (.getfield 15, 3) := by decide +kernel
theorem d_Input_put_25 : decode b_Input_put 25 = .ok (.iconst 1, 1) := by decide +kernel
theorem d_Input_put_26 : decode b_Input_put 26 = .ok (.iadd, 1) := by decide +kernel
theorem d_Input_put_27 : decode b_Input_put 27 = .ok (.putfield 15, 3) := by decide +kernel
theorem d_Input_put_30 : decode b_Input_put 30 = .ok (.return_, 1) := by decide +kernel
theorem d_Input_putAll_0 : decode b_Input_putAll 0 = .ok (.aload_n 1, 1) := by decide +kernel
theorem d_Input_putAll_1 : decode b_Input_putAll 1 = .ok (.getfield 19, 3) := by decide +kernel
theorem d_Input_putAll_4 : decode b_Input_putAll 4 = .ok (.iconst 1, 1) := by decide +kernel
theorem d_Input_putAll_5 : decode b_Input_putAll 5 = .ok (.isub, 1) := by decide +kernel
theorem d_Input_putAll_6 : decode b_Input_putAll 6 = .ok (.istore_n 2, 1) := by decide +kernel
theorem d_Input_putAll_7 : decode b_Input_putAll 7 = .ok (.iload_n 2, 1) := by decide +kernel
theorem d_Input_putAll_8 : decode b_Input_putAll 8 = .ok (.ifCond .lt 18, 3) := by decide +kernel
theorem d_Input_putAll_11 : decode b_Input_putAll 11 = .ok (.aload_n 0, 1) := by decide +kernel
theorem d_Input_putAll_12 : decode b_Input_putAll 12 = .ok (.aload_n 1, 1) := by decide +kernel
theorem d_Input_putAll_13 : decode b_Input_putAll 13 = .ok (.iload_n 2, 1) := by decide +kernel
theorem d_Input_putAll_14 : decode b_Input_putAll 14 = .ok (.invokevirtual 22, 3) := by decide +kernel
theorem d_Input_putAll_17 : decode b_Input_putAll 17 = .ok (.invokevirtual 26, 3) := by decide +kernel
theorem d_Input_putAll_20 : decode b_Input_putAll 20 = .ok (.iinc 2 (-1), 3) := by decide +kernel
theorem d_Input_putAll_23 : decode b_Input_putAll 23 = .ok (.goto (-16), 3) := by decide +kernel
theorem d_Input_putAll_26 : decode b_Input_putAll 26 = .ok (.return_, 1) := by decide +kernel
theorem d_Expander_putText_0 : decode b_Expander_putText 0 = .ok (.aload_n 1, 1) := by decide +kernel
theorem d_Expander_putText_1 : decode b_Expander_putText 1 = .ok (.getfield 181, 3) := by decide +kernel
theorem d_Expander_putText_4 : decode b_Expander_putText 4 = .ok (.getfield 156, 3) := by decide +kernel
theorem d_Expander_putText_7 : decode b_Expander_putText 7 = .ok (.iconst 1, 1) := by decide +kernel
theorem d_Expander_putText_8 : decode b_Expander_putText 8 = .ok (.isub, 1) := by decide +kernel
theorem d_Expander_putText_9 : decode b_Expander_putText 9 = .ok (.istore_n 2, 1) := by decide +kernel
theorem d_Expander_putText_10 : decode b_Expander_putText 10 = .ok (.iload_n 2, 1) := by decide +kernel
theorem d_Expander_putText_11 : decode b_Expander_putText 11 = .ok (.ifCond .lt 79, 3) := by decide +kernel
theorem d_Expander_putText_14 : decode b_Expander_putText 14 = .ok (.aload_n 1, 1) := by decide +kernel
theorem d_Expander_putText_15 : decode b_Expander_putText 15 = .ok (.getfield 181, 3) := by decide +kernel
theorem d_Expander_putText_18 : decode b_Expander_putText 18 = .ok (.iload_n 2, 1) := by decide +kernel
theorem d_Expander_putText_19 : decode b_Expander_putText 19 = .ok (.invokevirtual 185, 3) := by decide +kernel
theorem d_Expander_putText_22 : decode b_Expander_putText 22 = .ok (.istore_n 3, 1) := by decide +kernel
theorem d_Expander_putText_23 : decode b_Expander_putText 23 = .ok (.iload_n 3, 1) := by decide +kernel
theorem d_Expander_putText_24 : decode b_Expander_putText 24 = .ok (.invokestatic 186, 3) := by decide +kernel
theorem d_Expander_putText_27 : decode b_Expander_putText 27 = .ok (.istore 4, 2) := by decide +kernel
theorem d_Expander_putText_29 : decode b_Expander_putText 29 = .ok (.iload 4, 2) := by decide +kernel
theorem d_Expander_putText_31 : decode b_Expander_putText 31 = .ok (.ifCond .ne 28, 3) := by decide +kernel
theorem d_Expander_putText_34 : decode b_Expander_putText 34 = .ok (.aload_n 0, 1) := by decide +kernel
theorem d_Expander_putText_35 : decode b_Expander_putText 35 = .ok (.getfield 15, 3) := by decide +kernel
theorem d_Expander_putText_38 : decode b_Expander_putText 38 = .ok (.iload_n 3, 1) := by decide +kernel
theorem d_Expander_putText_39 : decode b_Expander_putText 39 = .ok (.invokestatic 192, 3) := by decide +kernel
theorem d_Expander_putText_42 : decode b_Expander_putText 42 = .ok (.ifCond .eq 10, 3) := by decide +kernel
theorem d_Expander_putText_45 : decode b_Expander_putText 45 = .ok (.iload_n 3, 1) := by decide +kernel
theorem d_Expander_putText_46 : decode b_Expander_putText 46 = .ok (.bipush 10, 2) := by decide +kernel
theorem d_Expander_putText_48 : decode b_Expander_putText 48 = .ok (.isub, 1) := by decide +kernel
theorem d_Expander_putText_49 : decode b_Expander_putText 49 = .ok (.goto 4, 3) := by decide +kernel
theorem d_Expander_putText_52 : decode b_Expander_putText 52 = .ok (.iload_n 3, 1) := by decide +kernel
theorem d_Expander_putText_53 : decode b_Expander_putText 53 = .ok (.invokevirtual 121, 3) := by decide +kernel
theorem d_Expander_putText_56 : decode b_Expander_putText 56 = .ok (.goto 28, 3) := by decide +kernel
theorem d_Expander_putText_59 : decode b_Expander_putText 59 = .ok (.iload 4, 2) := by decide +kernel
theorem d_Expander_putText_61 : decode b_Expander_putText 61 = .ok (.aload_n 1, 1) := by decide +kernel
theorem d_Expander_putText_62 : decode b_Expander_putText 62 = .ok (.getfield 154, 3) := by decide +kernel
theorem d_Expander_putText_65 : decode b_Expander_putText 65 = .ok (.if_icmp .gt 19, 3) := by decide +kernel
theorem d_Expander_putText_68 : decode b_Expander_putText 68 = .ok (.aload_n 0, 1) := by decide +kernel
theorem d_Expander_putText_69 : decode b_Expander_putText 69 = .ok (.getfield 15, 3) := by decide +kernel
theorem d_Expander_putText_72 : decode b_Expander_putText 72 = .ok (.aload_n 0, 1) := by decide +kernel
theorem d_Expander_putText_73 : decode b_Expander_putText 73 = .ok (.getfield 39, 3) := by decide +kernel
theorem d_Expander_putText_76 : decode b_Expander_putText 76 = .ok (.iload 4, 2) := by decide +kernel
theorem d_Expander_putText_78 : decode b_Expander_putText 78 = .ok (.invokevirtual 189, 3) := by decide +kernel
theorem d_Expander_putText_81 : decode b_Expander_putText 81 = .ok (.invokevirtual 195, 3) := by decide +kernel
theorem d_Expander_putText_84 : decode b_Expander_putText 84 = .ok (.iinc 2 (-1), 3) := by decide +kernel
theorem d_Expander_putText_87 : decode b_Expander_putText 87 = .ok (.goto (-77), 3) := by decide +kernel
theorem d_Expander_putText_90 : decode b_Expander_putText 90 = .ok (.return_, 1) := by decide +kernel
theorem d_Arguments_sizeOfAll_0 : decode b_Arguments_sizeOfAll 0 = .ok (.iconst 0, 1) := by decide +kernel
theorem d_Arguments_sizeOfAll_1 : decode b_Arguments_sizeOfAll 1 = .ok (.istore_n 2, 1) := by decide +kernel
theorem d_Arguments_sizeOfAll_2 : decode b_Arguments_sizeOfAll 2 = .ok (.iconst 1, 1) := by decide +kernel
theorem d_Arguments_sizeOfAll_3 : decode b_Arguments_sizeOfAll 3 = .ok (.istore_n 3, 1) := by decide +kernel
theorem d_Arguments_sizeOfAll_4 : decode b_Arguments_sizeOfAll 4 = .ok (.iload_n 3, 1) := by decide +kernel
theorem d_Arguments_sizeOfAll_5 : decode b_Arguments_sizeOfAll 5 = .ok (.iload_n 1, 1) := by decide +kernel
theorem d_Arguments_sizeOfAll_6 : decode b_Arguments_sizeOfAll 6 = .ok (.if_icmp .gt 20, 3) := by decide +kernel
theorem d_Arguments_sizeOfAll_9 : decode b_Arguments_sizeOfAll 9 = .ok (.iload_n 2, 1) := by decide +kernel
theorem d_Arguments_sizeOfAll_10 : decode b_Arguments_sizeOfAll 10 = .ok (.aload_n 0, 1) := by decide +kernel
theorem d_Arguments_sizeOfAll_11 : decode b_Arguments_sizeOfAll 11 = .ok (.iload_n 3, 1) := by decide +kernel
theorem d_Arguments_sizeOfAll_12 : decode b_Arguments_sizeOfAll 12 = .ok (.invokevirtual 37, 3) := by decide +kernel
theorem d_Arguments_sizeOfAll_15 : decode b_Arguments_sizeOfAll 15 = .ok (.getfield 41, 3) := by decide +kernel
theorem d_Arguments_sizeOfAll_18 : decode b_Arguments_sizeOfAll 18 = .ok (.iadd, 1) := by decide +kernel
theorem d_Arguments_sizeOfAll_19 : decode b_Arguments_sizeOfAll 19 = .ok (.istore_n 2, 1) := by decide +kernel
theorem d_Arguments_sizeOfAll_20 : decode b_Arguments_sizeOfAll 20 = .ok (.iinc 3 1, 3) := by decide +kernel
theorem d_Arguments_sizeOfAll_23 : decode b_Arguments_sizeOfAll 23 = .ok (.goto (-19), 3) := by decide +kernel
theorem d_Arguments_sizeOfAll_26 : decode b_Arguments_sizeOfAll 26 = .ok (.iload_n 2, 1) := by decide +kernel
theorem d_Arguments_sizeOfAll_27 : decode b_Arguments_sizeOfAll 27 = .ok (.ireturn, 1) := by decide +kernel
theorem d_Trace_add_0 : decode b_Trace_add 0 = .ok (.aload_n 0, 1) := by decide +kernel
theorem d_Trace_add_1 : decode b_Trace_add 1 = .ok (.getfield 21, 3) := by decide +kernel
theorem d_Trace_add_4 : decode b_Trace_add 4 = .ok (.bipush 100, 2) := by decide +kernel
theorem d_Trace_add_6 : decode b_Trace_add 6 = .ok (.if_icmp .ge 43, 3) := by decide +kernel
theorem d_Trace_add_9 : decode b_Trace_add 9 = .ok (.aload_n 0, 1) := by decide +kernel
theorem d_Trace_add_10 : decode b_Trace_add 10 = .ok (.getfield 9, 3) := by decide +kernel
theorem d_Trace_add_13 : decode b_Trace_add 13 = .ok (.aload_n 0, 1) := by decide +kernel
theorem d_Trace_add_14 : decode b_Trace_add 14 = .ok (.getfield 21, 3) := by decide +kernel
theorem d_Trace_add_17 : decode b_Trace_add 17 = .ok (.iload_n 1, 1) := by decide +kernel
theorem d_Trace_add_18 : decode b_Trace_add 18 = .ok (.iastore, 1) := by decide +kernel
theorem d_Trace_add_19 : decode b_Trace_add 19 = .ok (.aload_n 0, 1) := by decide +kernel
theorem d_Trace_add_20 : decode b_Trace_add 20 = .ok (.getfield 15, 3) := by decide +kernel
theorem d_Trace_add_23 : decode b_Trace_add 23 = .ok (.aload_n 0, 1) := by decide +kernel
theorem d_Trace_add_24 : decode b_Trace_add 24 = .ok (.getfield 21, 3) := by decide +kernel
theorem d_Trace_add_27 : decode b_Trace_add 27 = .ok (.iload_n 2, 1) := by decide +kernel
theorem d_Trace_add_28 : decode b_Trace_add 28 = .ok (.iastore, 1) := by decide +kernel
theorem d_Trace_add_29 : decode b_Trace_add 29 = .ok (.aload_n 0, 1) := by decide +kernel
theorem d_Trace_add_30 : decode b_Trace_add 30 = .ok (.getfield 18, 3) := by decide +kernel
theorem d_Trace_add_33 : decode b_Trace_add 33 = .ok (.aload_n 0, 1) := by decide +kernel
theorem d_Trace_add_34 : decode b_Trace_add 34 = .ok (.getfield 21, 3) := by decide +kernel
theorem d_Trace_add_37 : decode b_Trace_add 37 = .ok (.iload_n 3, 1) := by decide +kernel
theorem d_Trace_add_38 : decode b_Trace_add 38 = .ok (.iastore, 1) := by decide +kernel
theorem d_Trace_add_39 : decode b_Trace_add 39 = .ok (.aload_n 0, 1) := by decide +kernel
theorem d_Trace_add_40 : decode b_Trace_add 40 = .ok (.dup, 1) := by decide +kernel
theorem d_Trace_add_41 : decode b_Trace_add 41 = .ok (.getfield 21, 3) := by decide +kernel
theorem d_Trace_add_44 : decode b_Trace_add 44 = .ok (.iconst 1, 1) := by decide +kernel
theorem d_Trace_add_45 : decode b_Trace_add 45 = .ok (.iadd, 1) := by decide +kernel
theorem d_Trace_add_46 : decode b_Trace_add 46 = .ok (.putfield 21, 3) := by decide +kernel
theorem d_Trace_add_49 : decode b_Trace_add 49 = .ok (.return_, 1) := by decide +kernel
