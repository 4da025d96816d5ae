theorem d_MacroExpand_define_0 : decode b_MacroExpand_define 0 = .ok (.iload_n 1, 1) := by decide +kernel
theorem d_MacroExpand_define_1 : decode b_MacroExpand_define 1 = .ok (.ifCond .lt 30, 3) := by decide +kernel
theorem d_MacroExpand_define_4 : decode b_MacroExpand_define 4 = .ok (.iload_n 1, 1) := by decide +kernel
theorem d_MacroExpand_define_5 : decode b_MacroExpand_define 5 = .ok (.sipush 200, 3) := by decide +kernel
theorem d_MacroExpand_define_8 : decode b_MacroExpand_define 8 = .ok (.if_icmp .ge 23, 3) := by decide +kernel
theorem d_MacroExpand_define_11 : decode b_MacroExpand_define 11 = .ok (.iload_n 2, 1) := by decide +kernel
theorem d_MacroExpand_define_12 : decode b_MacroExpand_define 12 = .ok (.ifCond .lt 19, 3) := by decide +kernel
theorem d_MacroExpand_define_15 : decode b_MacroExpand_define 15 = .ok (.iload_n 2, 1) := by decide +kernel
theorem d_MacroExpand_define_16 : decode b_MacroExpand_define 16 = .ok (.bipush 9, 2) := by decide +kernel
theorem d_MacroExpand_define_18 : decode b_MacroExpand_define 18 = .ok (.if_icmp .gt 13, 3) := by decide +kernel
theorem d_MacroExpand_define_21 : decode b_MacroExpand_define 21 = .ok (.iload_n 3, 1) := by decide +kernel
theorem d_MacroExpand_define_22 : decode b_MacroExpand_define 22 = .ok (.ifCond .lt 9, 3) := by decide +kernel
theorem d_MacroExpand_define_25 : decode b_MacroExpand_define 25 = .ok (.iload_n 3, 1) := by decide +kernel
theorem d_MacroExpand_define_26 : decode b_MacroExpand_define 26 = .ok (.bipush 7, 2) := by decide +kernel
theorem d_MacroExpand_define_28 : decode b_MacroExpand_define 28 = .ok (.if_icmp .le 6, 3) := by decide +kernel
theorem d_MacroExpand_define_31 : decode b_MacroExpand_define 31 = .ok (.bipush (-2), 2) := by decide +kernel
theorem d_MacroExpand_define_33 : decode b_MacroExpand_define 33 = .ok (.ireturn, 1) := by decide +kernel
theorem d_MacroExpand_define_34 : decode b_MacroExpand_define 34 = .ok (.aload_n 0, 1) := by decide +kernel
theorem d_MacroExpand_define_35 : decode b_MacroExpand_define 35 = .ok (.getfield 23, 3) := by decide +kernel
theorem d_MacroExpand_define_38 : decode b_MacroExpand_define 38 = .ok (.invokevirtual 66, 3) := by decide +kernel
theorem d_MacroExpand_define_41 : decode b_MacroExpand_define 41 = .ok (.ifCond .eq 6, 3) := by decide +kernel
theorem d_MacroExpand_define_44 : decode b_MacroExpand_define 44 = .ok (.bipush (-4), 2) := by decide +kernel
theorem d_MacroExpand_define_46 : decode b_MacroExpand_define 46 = .ok (.ireturn, 1) := by decide +kernel
theorem d_MacroExpand_define_47 : decode b_MacroExpand_define 47 = .ok (.aload_n 0, 1) := by decide +kernel
theorem d_MacroExpand_define_48 : decode b_MacroExpand_define 48 = .ok (.getfield 23, 3) := by decide +kernel
theorem d_MacroExpand_define_51 : decode b_MacroExpand_define 51 = .ok (.sipush 1000, 3) := by decide +kernel
theorem d_MacroExpand_define_54 : decode b_MacroExpand_define 54 = .ok (.iload_n 1, 1) := by decide +kernel
theorem d_MacroExpand_define_55 : decode b_MacroExpand_define 55 = .ok (.iadd, 1) := by decide +kernel
theorem d_MacroExpand_define_56 : decode b_MacroExpand_define 56 = .ok (.new 70, 3) := by decide +kernel
theorem d_MacroExpand_define_59 : decode b_MacroExpand_define 59 = .ok (.dup, 1) := by decide +kernel
theorem d_MacroExpand_define_60 : decode b_MacroExpand_define 60 = .ok (.iload_n 2, 1) := by decide +kernel
theorem d_MacroExpand_define_61 : decode b_MacroExpand_define 61 = .ok (.iload_n 3, 1) := by decide +kernel
theorem d_MacroExpand_define_62 : decode b_MacroExpand_define 62 = .ok (.invokespecial 72, 3) := by decide +kernel
theorem d_MacroExpand_define_65 : decode b_MacroExpand_define 65 = .ok (.iload_n 3, 1) := by decide +kernel
theorem d_MacroExpand_define_66 : decode b_MacroExpand_define 66 = .ok (.invokevirtual 75, 3) := by decide +kernel
theorem d_MacroExpand_define_69 : decode b_MacroExpand_define 69 = .ok (.ireturn, 1) := by decide +kernel
theorem d_Book_numbered_0 : decode b_Book_numbered 0 = .ok (.iload_n 1, 1) := by decide +kernel
theorem d_Book_numbered_1 : decode b_Book_numbered 1 = .ok (.ifCond .lt 29, 3) := by decide +kernel
theorem d_Book_numbered_4 : decode b_Book_numbered 4 = .ok (.iload_n 1, 1) := by decide +kernel
theorem d_Book_numbered_5 : decode b_Book_numbered 5 = .ok (.aload_n 0, 1) := by decide +kernel
theorem d_Book_numbered_6 : decode b_Book_numbered 6 = .ok (.getfield 32, 3) := by decide +kernel
theorem d_Book_numbered_9 : decode b_Book_numbered 9 = .ok (.if_icmp .ge 21, 3) := by decide +kernel
theorem d_Book_numbered_12 : decode b_Book_numbered 12 = .ok (.iload_n 1, 1) := by decide +kernel
theorem d_Book_numbered_13 : decode b_Book_numbered 13 = .ok (.aload_n 0, 1) := by decide +kernel
theorem d_Book_numbered_14 : decode b_Book_numbered 14 = .ok (.getfield 11, 3) := by decide +kernel
theorem d_Book_numbered_17 : decode b_Book_numbered 17 = .ok (.arraylength, 1) := by decide +kernel
theorem d_Book_numbered_18 : decode b_Book_numbered 18 = .ok (.if_icmp .ge 12, 3) := by decide +kernel
theorem d_Book_numbered_21 : decode b_Book_numbered 21 = .ok (.aload_n 0, 1) := by decide +kernel
theorem d_Book_numbered_22 : decode b_Book_numbered 22 = .ok (.getfield 11, 3) := by decide +kernel
theorem d_Book_numbered_25 : decode b_Book_numbered 25 = .ok (.iload_n 1, 1) := by decide +kernel
theorem d_Book_numbered_26 : decode b_Book_numbered 26 = .ok (.aaload, 1) := by decide +kernel
theorem d_Book_numbered_27 : decode b_Book_numbered 27 = .ok (.goto 4, 3) := by decide +kernel
theorem d_Book_numbered_30 : decode b_Book_numbered 30 = .ok (.aconst_null, 1) := by decide +kernel
theorem d_Book_numbered_31 : decode b_Book_numbered 31 = .ok (.areturn, 1) := by decide +kernel
theorem d_Kind_isParameter_0 : decode b_Kind_isParameter 0 = .ok (.iload_n 0, 1) := by decide +kernel
theorem d_Kind_isParameter_1 : decode b_Kind_isParameter 1 = .ok (.sipush 310, 3) := by decide +kernel
theorem d_Kind_isParameter_4 : decode b_Kind_isParameter 4 = .ok (.if_icmp .le 25, 3) := by decide +kernel
theorem d_Kind_isParameter_7 : decode b_Kind_isParameter 7 = .ok (.iload_n 0, 1) := by decide +kernel
theorem d_Kind_isParameter_8 : decode b_Kind_isParameter 8 = .ok (.sipush 399, 3) := by decide +kernel
theorem d_Kind_isParameter_11 : decode b_Kind_isParameter 11 = .ok (.if_icmp .gt 18, 3) := by decide +kernel
theorem d_Kind_isParameter_14 : decode b_Kind_isParameter 14 = .ok (.iload_n 0, 1) := by decide +kernel
theorem d_Kind_isParameter_15 : decode b_Kind_isParameter 15 = .ok (.sipush 310, 3) := by decide +kernel
theorem d_Kind_isParameter_18 : decode b_Kind_isParameter 18 = .ok (.isub, 1) := by decide +kernel
theorem d_Kind_isParameter_19 : decode b_Kind_isParameter 19 = .ok (.bipush 10, 2) := by decide +kernel
theorem d_Kind_isParameter_21 : decode b_Kind_isParameter 21 = .ok (.irem, 1) := by decide +kernel
theorem d_Kind_isParameter_22 : decode b_Kind_isParameter 22 = .ok (.ifCond .eq 7, 3) := by decide +kernel
theorem d_Kind_isParameter_25 : decode b_Kind_isParameter 25 = .ok (.iconst 1, 1) := by decide +kernel
theorem d_Kind_isParameter_26 : decode b_Kind_isParameter 26 = .ok (.goto 4, 3) := by decide +kernel
theorem d_Kind_isParameter_29 : decode b_Kind_isParameter 29 = .ok (.iconst 0, 1) := by decide +kernel
theorem d_Kind_isParameter_30 : decode b_Kind_isParameter 30 = .ok (.ireturn, 1) := by decide +kernel
theorem d_Kind_isName_0 : decode b_Kind_isName 0 = .ok (.iload_n 0, 1) := by decide +kernel
theorem d_Kind_isName_1 : decode b_Kind_isName 1 = .ok (.sipush 1000, 3) := by decide +kernel
theorem d_Kind_isName_4 : decode b_Kind_isName 4 = .ok (.if_icmp .lt 14, 3) := by decide +kernel
theorem d_Kind_isName_7 : decode b_Kind_isName 7 = .ok (.iload_n 0, 1) := by decide +kernel
theorem d_Kind_isName_8 : decode b_Kind_isName 8 = .ok (.sipush 1200, 3) := by decide +kernel
theorem d_Kind_isName_11 : decode b_Kind_isName 11 = .ok (.if_icmp .ge 7, 3) := by decide +kernel
theorem d_Kind_isName_14 : decode b_Kind_isName 14 = .ok (.iconst 1, 1) := by decide +kernel
theorem d_Kind_isName_15 : decode b_Kind_isName 15 = .ok (.goto 4, 3) := by decide +kernel
theorem d_Kind_isName_18 : decode b_Kind_isName 18 = .ok (.iconst 0, 1) := by decide +kernel
theorem d_Kind_isName_19 : decode b_Kind_isName 19 = .ok (.ireturn, 1) := by decide +kernel
theorem d_Kind_isToken_0 : decode b_Kind_isToken 0 = .ok (.iload_n 0, 1) := by decide +kernel
theorem d_Kind_isToken_1 : decode b_Kind_isToken 1 = .ok (.ifCond .lt 10, 3) := by decide +kernel
theorem d_Kind_isToken_4 : decode b_Kind_isToken 4 = .ok (.iload_n 0, 1) := by decide +kernel
theorem d_Kind_isToken_5 : decode b_Kind_isToken 5 = .ok (.sipush 258, 3) := by decide +kernel
theorem d_Kind_isToken_8 : decode b_Kind_isToken 8 = .ok (.if_icmp .le 31, 3) := by decide +kernel
theorem d_Kind_isToken_11 : decode b_Kind_isToken 11 = .ok (.iload_n 0, 1) := by decide +kernel
theorem d_Kind_isToken_12 : decode b_Kind_isToken 12 = .ok (.sipush 260, 3) := by decide +kernel
theorem d_Kind_isToken_15 : decode b_Kind_isToken 15 = .ok (.if_icmp .lt 10, 3) := by decide +kernel
theorem d_Kind_isToken_18 : decode b_Kind_isToken 18 = .ok (.iload_n 0, 1) := by decide +kernel
theorem d_Kind_isToken_19 : decode b_Kind_isToken 19 = .ok (.sipush 269, 3) := by decide +kernel
theorem d_Kind_isToken_22 : decode b_Kind_isToken 22 = .ok (.if_icmp .le 17, 3) := by decide +kernel
theorem d_Kind_isToken_25 : decode b_Kind_isToken 25 = .ok (.iload_n 0, 1) := by decide +kernel
theorem d_Kind_isToken_26 : decode b_Kind_isToken 26 = .ok (.invokestatic 9, 3) := by decide +kernel
theorem d_Kind_isToken_29 : decode b_Kind_isToken 29 = .ok (.ifCond .ne 10, 3) := by decide +kernel
theorem d_Kind_isToken_32 : decode b_Kind_isToken 32 = .ok (.iload_n 0, 1) := by decide +kernel
theorem d_Kind_isToken_33 : decode b_Kind_isToken 33 = .ok (.invokestatic 15, 3) := by decide +kernel
theorem d_Kind_isToken_36 : decode b_Kind_isToken 36 = .ok (.ifCond .eq 7, 3) := by decide +kernel
theorem d_Kind_isToken_39 : decode b_Kind_isToken 39 = .ok (.iconst 1, 1) := by decide +kernel
theorem d_Kind_isToken_40 : decode b_Kind_isToken 40 = .ok (.goto 4, 3) := by decide +kernel
theorem d_Kind_isToken_43 : decode b_Kind_isToken 43 = .ok (.iconst 0, 1) := by decide +kernel
theorem d_Kind_isToken_44 : decode b_Kind_isToken 44 = .ok (.ireturn, 1) := by decide +kernel
theorem d_Row_isFull_0 : decode b_Row_isFull 0 = .ok (.aload_n 0, 1) := by decide +kernel
theorem d_Row_isFull_1 : decode b_Row_isFull 1 = .ok (.getfield 19, 3) := by decide +kernel
theorem d_Row_isFull_4 : decode b_Row_isFull 4 = .ok (.aload_n 0, 1) := by decide +kernel
theorem d_Row_isFull_5 : decode b_Row_isFull 5 = .ok (.getfield 9, 3) := by decide +kernel
theorem d_Row_isFull_8 : decode b_Row_isFull 8 = .ok (.if_icmp .lt 7, 3) := by decide +kernel
theorem d_Row_isFull_11 : decode b_Row_isFull 11 = .ok (.iconst 1, 1) := by decide +kernel
theorem d_Row_isFull_12 : decode b_Row_isFull 12 = .ok (.goto 4, 3) := by decide +kernel
theorem d_Row_isFull_15 : decode b_Row_isFull 15 = .ok (.iconst 0, 1) := by decide +kernel
theorem d_Row_isFull_16 : decode b_Row_isFull 16 = .ok (.ireturn, 1) := by decide +kernel
theorem d_Row_add_0 : decode b_Row_add 0 = .ok (.aload_n 0, 1) := by decide +kernel
theorem d_Row_add_1 : decode b_Row_add 1 = .ok (.getfield 19, 3) := by decide +kernel
theorem d_Row_add_4 : decode b_Row_add 4 = .ok (.aload_n 0, 1) := by decide +kernel
theorem d_Row_add_5 : decode b_Row_add 5 = .ok (.getfield 9, 3) := by decide +kernel
theorem d_Row_add_8 : decode b_Row_add 8 = .ok (.if_icmp .lt 4, 3) := by decide +kernel
theorem d_Row_add_11 : decode b_Row_add 11 = .ok (.return_, 1) := by decide +kernel
theorem d_Row_add_12 : decode b_Row_add 12 = .ok (.aload_n 0, 1) := by decide +kernel
theorem d_Row_add_13 : decode b_Row_add 13 = .ok (.getfield 19, 3) := by decide +kernel
theorem d_Row_add_16 : decode b_Row_add 16 = .ok (.aload_n 0, 1) := by decide +kernel
theorem d_Row_add_17 : decode b_Row_add 17 = .ok (.getfield 15, 3) := by decide +kernel
theorem d_Row_add_20 : decode b_Row_add 20 = .ok (.arraylength, 1) := by decide +kernel
theorem d_Row_add_21 : decode b_Row_add 21 = .ok (.if_icmp .lt 31, 3) := by decide +kernel
theorem d_Row_add_24 : decode b_Row_add 24 = .ok (.aload_n 0, 1) := by decide +kernel
theorem d_Row_add_25 : decode b_Row_add 25 = .ok (.aload_n 0, 1) := by decide +kernel
theorem d_Row_add_26 : decode b_Row_add 26 = .ok (.getfield 15, 3) := by decide +kernel
theorem d_Row_add_29 : decode b_Row_add 29 = .ok (.aload_n 0, 1) := by decide +kernel
theorem d_Row_add_30 : decode b_Row_add 30 = .ok (.getfield 9, 3) := by decide +kernel
theorem d_Row_add_33 : decode b_Row_add 33 = .ok (.iconst 2, 1) := by decide +kernel
theorem d_Row_add_34 : decode b_Row_add 34 = .ok (.aload_n 0, 1) := by decide +kernel
theorem d_Row_add_35 : decode b_Row_add 35 = .ok (.getfield 15, 3) := by decide +kernel
theorem d_Row_add_38 : decode b_Row_add 38 = .ok (.arraylength, 1) := by decide +kernel
theorem d_Row_add_39 : decode b_Row_add 39 = .ok (.imul, 1) := by decide +kernel
theorem d_Row_add_40 : decode b_Row_add 40 = .ok (.bipush 8, 2) := by decide +kernel
theorem d_Row_add_42 : decode b_Row_add 42 = .ok (.iadd, 1) := by decide +kernel
theorem d_Row_add_43 : decode b_Row_add 43 = .ok (.invokestatic 22, 3) := by decide +kernel
theorem d_Row_add_46 : decode b_Row_add 46 = .ok (.invokestatic 28, 3) := by decide +kernel
theorem d_Row_add_49 : decode b_Row_add 49 = .ok (.putfield 15, 3) := by decide +kernel
theorem d_Row_add_52 : decode b_Row_add 52 = .ok (.aload_n 0, 1) := by decide +kernel
theorem d_Row_add_53 : decode b_Row_add 53 = .ok (.getfield 19, 3) := by decide +kernel
theorem d_Row_add_56 : decode b_Row_add 56 = .ok (.aload_n 0, 1) := by decide +kernel
theorem d_Row_add_57 : decode b_Row_add 57 = .ok (.getfield 15, 3) := by decide +kernel
theorem d_Row_add_60 : decode b_Row_add 60 = .ok (.arraylength, 1) := by decide +kernel
theorem d_Row_add_61 : decode b_Row_add 61 = .ok (.if_icmp .ge 23, 3) := by decide +kernel
theorem d_Row_add_64 : decode b_Row_add 64 = .ok (.aload_n 0, 1) := by decide +kernel
theorem d_Row_add_65 : decode b_Row_add 65 = .ok (.getfield 15, 3) := by decide +kernel
theorem d_Row_add_68 : decode b_Row_add 68 = .ok (.aload_n 0, 1) := by decide +kernel
theorem d_Row_add_69 : decode b_Row_add 69 = .ok (.getfield 19, 3) := by decide +kernel
theorem d_Row_add_72 : decode b_Row_add 72 = .ok (.iload_n 1, 1) := by decide +kernel
theorem d_Row_add_73 : decode b_Row_add 73 = .ok (.iastore, 1) := by decide +kernel
theorem d_Row_add_74 : decode b_Row_add 74 = .ok (.aload_n 0, 1) := by decide +kernel
theorem d_Row_add_75 : decode b_Row_add 75 = .ok (.dup, 1) := by decide +kernel
theorem d_Row_add_76 : decode b_Row_add 76 = .ok (.getfield 19, 3) := by decide +kernel
theorem d_Row_add_79 : decode b_Row_add 79 = .ok (.iconst 1, 1) := by decide +kernel
theorem d_Row_add_80 : decode b_Row_add 80 = .ok (.iadd, 1) := by decide +kernel
theorem d_Row_add_81 : decode b_Row_add 81 = .ok (.putfield 19, 3) := by decide +kernel
theorem d_Row_add_84 : decode b_Row_add 84 = .ok (.return_, 1) := by decide +kernel
theorem d_MacroExpand_oneMore_0 : decode b_MacroExpand_oneMore 0 = .ok (.aload_n 0, 1) := by decide +kernel
theorem d_MacroExpand_oneMore_1 : decode b_MacroExpand_oneMore 1 = .ok (.invokevirtual 175, 3) := by decide +kernel
theorem d_MacroExpand_oneMore_4 : decode b_MacroExpand_oneMore 4 = .ok (.ifCond .eq 6, 3) := by decide +kernel
theorem d_MacroExpand_oneMore_7 : decode b_MacroExpand_oneMore 7 = .ok (.bipush (-4), 2) := by decide +kernel
theorem d_MacroExpand_oneMore_9 : decode b_MacroExpand_oneMore 9 = .ok (.ireturn, 1) := by decide +kernel
theorem d_MacroExpand_oneMore_10 : decode b_MacroExpand_oneMore 10 = .ok (.aload_n 0, 1) := by decide +kernel
theorem d_MacroExpand_oneMore_11 : decode b_MacroExpand_oneMore 11 = .ok (.iload_n 1, 1) := by decide +kernel
theorem d_MacroExpand_oneMore_12 : decode b_MacroExpand_oneMore 12 = .ok (.invokevirtual 176, 3) := by decide +kernel
theorem d_MacroExpand_oneMore_15 : decode b_MacroExpand_oneMore 15 = .ok (.aload_n 0, 1) := by decide +kernel
theorem d_MacroExpand_oneMore_16 : decode b_MacroExpand_oneMore 16 = .ok (.getfield 137, 3) := by decide +kernel
theorem d_MacroExpand_oneMore_19 : decode b_MacroExpand_oneMore 19 = .ok (.ireturn, 1) := by decide +kernel
theorem d_MacroExpand_body_0 : decode b_MacroExpand_body 0 = .ok (.aload_n 0, 1) := by decide +kernel
theorem d_MacroExpand_body_1 : decode b_MacroExpand_body 1 = .ok (.getfield 23, 3) := by decide +kernel
theorem d_MacroExpand_body_4 : decode b_MacroExpand_body 4 = .ok (.iload_n 1, 1) := by decide +kernel
theorem d_MacroExpand_body_5 : decode b_MacroExpand_body 5 = .ok (.invokevirtual 79, 3) := by decide +kernel
theorem d_MacroExpand_body_8 : decode b_MacroExpand_body 8 = .ok (.astore_n 3, 1) := by decide +kernel
theorem d_MacroExpand_body_9 : decode b_MacroExpand_body 9 = .ok (.aload_n 3, 1) := by decide +kernel
theorem d_MacroExpand_body_10 : decode b_MacroExpand_body 10 = .ok (.ifnonnull 5, 3) := by decide +kernel
theorem d_MacroExpand_body_13 : decode b_MacroExpand_body 13 = .ok (.iconst (-1), 1) := by decide +kernel
theorem d_MacroExpand_body_14 : decode b_MacroExpand_body 14 = .ok (.ireturn, 1) := by decide +kernel
theorem d_MacroExpand_body_15 : decode b_MacroExpand_body 15 = .ok (.iload_n 2, 1) := by decide +kernel
theorem d_MacroExpand_body_16 : decode b_MacroExpand_body 16 = .ok (.invokestatic 83, 3) := by decide +kernel
theorem d_MacroExpand_body_19 : decode b_MacroExpand_body 19 = .ok (.ifCond .ne 6, 3) := by decide +kernel
theorem d_MacroExpand_body_22 : decode b_MacroExpand_body 22 = .ok (.bipush (-2), 2) := by decide +kernel
theorem d_MacroExpand_body_24 : decode b_MacroExpand_body 24 = .ok (.ireturn, 1) := by decide +kernel
theorem d_MacroExpand_body_25 : decode b_MacroExpand_body 25 = .ok (.aload_n 3, 1) := by decide +kernel
theorem d_MacroExpand_body_26 : decode b_MacroExpand_body 26 = .ok (.getfield 89, 3) := by decide +kernel
theorem d_MacroExpand_body_29 : decode b_MacroExpand_body 29 = .ok (.iload_n 2, 1) := by decide +kernel
theorem d_MacroExpand_body_30 : decode b_MacroExpand_body 30 = .ok (.invokestatic 93, 3) := by decide +kernel
theorem d_MacroExpand_body_33 : decode b_MacroExpand_body 33 = .ok (.ireturn, 1) := by decide +kernel
theorem d_Kind_canDelimit_0 : decode b_Kind_canDelimit 0 = .ok (.iload_n 0, 1) := by decide +kernel
theorem d_Kind_canDelimit_1 : decode b_Kind_canDelimit 1 = .ok (.invokestatic 18, 3) := by decide +kernel
theorem d_Kind_canDelimit_4 : decode b_Kind_canDelimit 4 = .ok (.ifCond .eq 28, 3) := by decide +kernel
theorem d_Kind_canDelimit_7 : decode b_Kind_canDelimit 7 = .ok (.iload_n 0, 1) := by decide +kernel
theorem d_Kind_canDelimit_8 : decode b_Kind_canDelimit 8 = .ok (.sipush 257, 3) := by decide +kernel
theorem d_Kind_canDelimit_11 : decode b_Kind_canDelimit 11 = .ok (.if_icmp .eq 21, 3) := by decide +kernel
theorem d_Kind_canDelimit_14 : decode b_Kind_canDelimit 14 = .ok (.iload_n 0, 1) := by decide +kernel
theorem d_Kind_canDelimit_15 : decode b_Kind_canDelimit 15 = .ok (.sipush 258, 3) := by decide +kernel
theorem d_Kind_canDelimit_18 : decode b_Kind_canDelimit 18 = .ok (.if_icmp .eq 14, 3) := by decide +kernel
theorem d_Kind_canDelimit_21 : decode b_Kind_canDelimit 21 = .ok (.iload_n 0, 1) := by decide +kernel
theorem d_Kind_canDelimit_22 : decode b_Kind_canDelimit 22 = .ok (.invokestatic 9, 3) := by decide +kernel
theorem d_Kind_canDelimit_25 : decode b_Kind_canDelimit 25 = .ok (.ifCond .ne 7, 3) := by decide +kernel
theorem d_Kind_canDelimit_28 : decode b_Kind_canDelimit 28 = .ok (.iconst 1, 1) := by decide +kernel
theorem d_Kind_canDelimit_29 : decode b_Kind_canDelimit 29 = .ok (.goto 4, 3) := by decide +kernel
theorem d_Kind_canDelimit_32 : decode b_Kind_canDelimit 32 = .ok (.iconst 0, 1) := by decide +kernel
theorem d_Kind_canDelimit_33 : decode b_Kind_canDelimit 33 = .ok (.ireturn, 1) := by decide +kernel
theorem d_Macro_row_0 : decode b_Macro_row 0 = .ok (.aload_n 0, 1) := by decide +kernel
theorem d_Macro_row_1 : decode b_Macro_row 1 = .ok (.getfield 33, 3) := by decide +kernel
theorem d_Macro_row_4 : decode b_Macro_row 4 = .ok (.iconst 0, 1) := by decide +kernel
theorem d_Macro_row_5 : decode b_Macro_row 5 = .ok (.iload_n 1, 1) := by decide +kernel
theorem d_Macro_row_6 : decode b_Macro_row 6 = .ok (.aload_n 0, 1) := by decide +kernel
theorem d_Macro_row_7 : decode b_Macro_row 7 = .ok (.getfield 33, 3) := by decide +kernel
theorem d_Macro_row_10 : decode b_Macro_row 10 = .ok (.arraylength, 1) := by decide +kernel
theorem d_Macro_row_11 : decode b_Macro_row 11 = .ok (.iconst 1, 1) := by decide +kernel
theorem d_Macro_row_12 : decode b_Macro_row 12 = .ok (.isub, 1) := by decide +kernel
theorem d_Macro_row_13 : decode b_Macro_row 13 = .ok (.invokestatic 9, 3) := by decide +kernel
theorem d_Macro_row_16 : decode b_Macro_row 16 = .ok (.invokestatic 15, 3) := by decide +kernel
theorem d_Macro_row_19 : decode b_Macro_row 19 = .ok (.aaload, 1) := by decide +kernel
theorem d_Macro_row_20 : decode b_Macro_row 20 = .ok (.areturn, 1) := by decide +kernel
theorem d_MacroExpand_delimiter_0 : decode b_MacroExpand_delimiter 0 = .ok (.aload_n 0, 1) := by decide +kernel
theorem d_MacroExpand_delimiter_1 : decode b_MacroExpand_delimiter 1 = .ok (.getfield 23, 3) := by decide +kernel
theorem d_MacroExpand_delimiter_4 : decode b_MacroExpand_delimiter 4 = .ok (.iload_n 1, 1) := by decide +kernel
theorem d_MacroExpand_delimiter_5 : decode b_MacroExpand_delimiter 5 = .ok (.invokevirtual 79, 3) := by decide +kernel
theorem d_MacroExpand_delimiter_8 : decode b_MacroExpand_delimiter 8 = .ok (.astore 4, 2) := by decide +kernel
theorem d_MacroExpand_delimiter_10 : decode b_MacroExpand_delimiter 10 = .ok (.aload 4, 2) := by decide +kernel
theorem d_MacroExpand_delimiter_12 : decode b_MacroExpand_delimiter 12 = .ok (.ifnonnull 5, 3) := by decide +kernel
theorem d_MacroExpand_delimiter_15 : decode b_MacroExpand_delimiter 15 = .ok (.iconst (-1), 1) := by decide +kernel
theorem d_MacroExpand_delimiter_16 : decode b_MacroExpand_delimiter 16 = .ok (.ireturn, 1) := by decide +kernel
theorem d_MacroExpand_delimiter_17 : decode b_MacroExpand_delimiter 17 = .ok (.iload_n 2, 1) := by decide +kernel
theorem d_MacroExpand_delimiter_18 : decode b_MacroExpand_delimiter 18 = .ok (.ifCond .lt 19, 3) := by decide +kernel
theorem d_MacroExpand_delimiter_21 : decode b_MacroExpand_delimiter 21 = .ok (.iload_n 2, 1) := by decide +kernel
theorem d_MacroExpand_delimiter_22 : decode b_MacroExpand_delimiter 22 = .ok (.aload 4, 2) := by decide +kernel
theorem d_MacroExpand_delimiter_24 : decode b_MacroExpand_delimiter 24 = .ok (.getfield 97, 3) := by decide +kernel
theorem d_MacroExpand_delimiter_27 : decode b_MacroExpand_delimiter 27 = .ok (.if_icmp .gt 10, 3) := by decide +kernel
theorem d_MacroExpand_delimiter_30 : decode b_MacroExpand_delimiter 30 = .ok (.iload_n 3, 1) := by decide +kernel
theorem d_MacroExpand_delimiter_31 : decode b_MacroExpand_delimiter 31 = .ok (.invokestatic 100, 3) := by decide +kernel
theorem d_MacroExpand_delimiter_34 : decode b_MacroExpand_delimiter 34 = .ok (.ifCond .ne 6, 3) := by decide +kernel
theorem d_MacroExpand_delimiter_37 : decode b_MacroExpand_delimiter 37 = .ok (.bipush (-2), 2) := by decide +kernel
theorem d_MacroExpand_delimiter_39 : decode b_MacroExpand_delimiter 39 = .ok (.ireturn, 1) := by decide +kernel
theorem d_MacroExpand_delimiter_40 : decode b_MacroExpand_delimiter 40 = .ok (.aload 4, 2) := by decide +kernel
theorem d_MacroExpand_delimiter_42 : decode b_MacroExpand_delimiter 42 = .ok (.iload_n 2, 1) := by decide +kernel
theorem d_MacroExpand_delimiter_43 : decode b_MacroExpand_delimiter 43 = .ok (.invokevirtual 103, 3) := by decide +kernel
theorem d_MacroExpand_delimiter_46 : decode b_MacroExpand_delimiter 46 = .ok (.iload_n 3, 1) := by decide +kernel
theorem d_MacroExpand_delimiter_47 : decode b_MacroExpand_delimiter 47 = .ok (.invokestatic 93, 3) := by decide +kernel
theorem d_MacroExpand_delimiter_50 : decode b_MacroExpand_delimiter 50 = .ok (.ireturn, 1) := by decide +kernel
theorem d_Input_isFull_0 : decode b_Input_isFull 0 = .ok (.aload_n 0, 1) := by decide +kernel
theorem d_Input_isFull_1 : decode b_Input_isFull 1 = .ok (.getfield 15, 3) := by decide +kernel
theorem d_Input_isFull_4 : decode b_Input_isFull 4 = .ok (.sipush 3000, 3) := by decide +kernel
theorem d_Input_isFull_7 : decode b_Input_isFull 7 = .ok (.if_icmp .lt 7, 3) := by decide +kernel
theorem d_Input_isFull_10 : decode b_Input_isFull 10 = .ok (.iconst 1, 1) := by decide +kernel
theorem d_Input_isFull_11 : decode b_Input_isFull 11 = .ok (.goto 4, 3) := by decide +kernel
theorem d_Input_isFull_14 : decode b_Input_isFull 14 = .ok (.iconst 0, 1) := by decide +kernel
theorem d_Input_isFull_15 : decode b_Input_isFull 15 = .ok (.ireturn, 1) := by decide +kernel
theorem d_Input_addLast_0 : decode b_Input_addLast 0 = .ok (.aload_n 0, 1) := by decide +kernel
theorem d_Input_addLast_1 : decode b_Input_addLast 1 = .ok (.getfield 15, 3) := by decide +kernel
theorem d_Input_addLast_4 : decode b_Input_addLast 4 = .ok (.sipush 3000, 3) := by decide +kernel
theorem d_Input_addLast_7 : decode b_Input_addLast 7 = .ok (.if_icmp .ge 37, 3) := by decide +kernel
theorem d_Input_addLast_10 : decode b_Input_addLast 10 = .ok (.aload_n 0, 1) := by decide +kernel
theorem d_Input_addLast_11 : decode b_Input_addLast 11 = .ok (.getfield 9, 3) := by decide +kernel
theorem d_Input_addLast_14 : decode b_Input_addLast 14 = .ok (.iconst 0, 1) := by decide +kernel
theorem d_Input_addLast_15 : decode b_Input_addLast 15 = .ok (.aload_n 0, 1) := by decide +kernel
theorem d_Input_addLast_16 : decode b_Input_addLast 16 = .ok (.getfield 9, 3) := by decide +kernel
theorem d_Input_addLast_19 : decode b_Input_addLast 19 = .ok (.iconst 1, 1) := by decide +kernel
theorem d_Input_addLast_20 : decode b_Input_addLast 20 = .ok (.aload_n 0, 1) := by decide +kernel
theorem d_Input_addLast_21 : decode b_Input_addLast 21 = .ok (.getfield 15, 3) := by decide +kernel
theorem d_Input_addLast_24 : decode b_Input_addLast 24 = .ok (.invokestatic 30, 3) := by decide +kernel
theorem d_Input_addLast_27 : decode b_Input_addLast 27 = .ok (.aload_n 0, 1) := by decide +kernel
theorem d_Input_addLast_28 : decode b_Input_addLast 28 = .ok (.getfield 9, 3) := by decide +kernel
theorem d_Input_addLast_31 : decode b_Input_addLast 31 = .ok (.iconst 0, 1) := by decide +kernel
theorem d_Input_addLast_32 : decode b_Input_addLast 32 = .ok (.iload_n 1, 1) := by decide +kernel
theorem d_Input_addLast_33 : decode b_Input_addLast 33 = .ok (.iastore, 1) := by decide +kernel
theorem d_Input_addLast_34 : decode b_Input_addLast 34 = .ok (.aload_n 0, 1) := by decide +kernel
theorem d_Input_addLast_35 : decode b_Input_addLast 35 = .ok (.dup, 1) := by decide +kernel
theorem d_Input_addLast_36 : decode b_Input_addLast 36 = .ok (.getfield 15, 3) := by decide +kernel
theorem d_Input_addLast_39 : decode b_Input_addLast 39 = .ok (.iconst 1, 1) := by decide +kernel
theorem d_Input_addLast_40 : decode b_Input_addLast 40 = .ok (.iadd, 1) := by decide +kernel
theorem d_Input_addLast_41 : decode b_Input_addLast 41 = .ok (.putfield 15, 3) := by decide +kernel
theorem d_Input_addLast_44 : decode b_Input_addLast 44 = .ok (.return_, 1) := by decide +kernel
theorem d_MacroExpand_token_0 : decode b_MacroExpand_token 0 = .ok (.iload_n 1, 1) := by decide +kernel
theorem d_MacroExpand_token_1 : decode b_MacroExpand_token 1 = .ok (.invokestatic 83, 3) := by decide +kernel
theorem d_MacroExpand_token_4 : decode b_MacroExpand_token 4 = .ok (.ifCond .ne 6, 3) := by decide +kernel
theorem d_MacroExpand_token_7 : decode b_MacroExpand_token 7 = .ok (.bipush (-2), 2) := by decide +kernel
theorem d_MacroExpand_token_9 : decode b_MacroExpand_token 9 = .ok (.ireturn, 1) := by decide +kernel
theorem d_MacroExpand_token_10 : decode b_MacroExpand_token 10 = .ok (.aload_n 0, 1) := by decide +kernel
theorem d_MacroExpand_token_11 : decode b_MacroExpand_token 11 = .ok (.getfield 37, 3) := by decide +kernel
theorem d_MacroExpand_token_14 : decode b_MacroExpand_token 14 = .ok (.invokevirtual 107, 3) := by decide +kernel
theorem d_MacroExpand_token_17 : decode b_MacroExpand_token 17 = .ok (.ifCond .eq 6, 3) := by decide +kernel
theorem d_MacroExpand_token_20 : decode b_MacroExpand_token 20 = .ok (.bipush (-4), 2) := by decide +kernel
theorem d_MacroExpand_token_22 : decode b_MacroExpand_token 22 = .ok (.ireturn, 1) := by decide +kernel
theorem d_MacroExpand_token_23 : decode b_MacroExpand_token 23 = .ok (.aload_n 0, 1) := by decide +kernel
theorem d_MacroExpand_token_24 : decode b_MacroExpand_token 24 = .ok (.getfield 37, 3) := by decide +kernel
theorem d_MacroExpand_token_27 : decode b_MacroExpand_token 27 = .ok (.iload_n 1, 1) := by decide +kernel
theorem d_MacroExpand_token_28 : decode b_MacroExpand_token 28 = .ok (.invokevirtual 108, 3) := by decide +kernel
theorem d_MacroExpand_token_31 : decode b_MacroExpand_token 31 = .ok (.aload_n 0, 1) := by decide +kernel
theorem d_MacroExpand_token_32 : decode b_MacroExpand_token 32 = .ok (.getfield 37, 3) := by decide +kernel
theorem d_MacroExpand_token_35 : decode b_MacroExpand_token 35 = .ok (.getfield 112, 3) := by decide +kernel
theorem d_MacroExpand_token_38 : decode b_MacroExpand_token 38 = .ok (.ireturn, 1) := by decide +kernel
theorem d_Trace_clear_0 : decode b_Trace_clear 0 = .ok (.aload_n 0, 1) := by decide +kernel
theorem d_Trace_clear_1 : decode b_Trace_clear 1 = .ok (.iconst 0, 1) := by decide +kernel
theorem d_Trace_clear_2 : decode b_Trace_clear 2 = .ok (.putfield 21, 3) := by decide +kernel
theorem d_Trace_clear_5 : decode b_Trace_clear 5 = .ok (.return_, 1) := by decide +kernel
theorem d_Expander_begin_0 : decode b_Expander_begin 0 = .ok (.aload_n 0, 1) := by decide +kernel
theorem d_Expander_begin_1 : decode b_Expander_begin 1 = .ok (.getfield 30, 3) := by decide +kernel
theorem d_Expander_begin_4 : decode b_Expander_begin 4 = .ok (.invokevirtual 53, 3) := by decide +kernel
theorem d_Expander_begin_7 : decode b_Expander_begin 7 = .ok (.aload_n 0, 1) := by decide +kernel
theorem d_Expander_begin_8 : decode b_Expander_begin 8 = .ok (.iconst 0, 1) := by decide +kernel
theorem d_Expander_begin_9 : decode b_Expander_begin 9 = .ok (.putfield 56, 3) := by decide +kernel
theorem d_Expander_begin_12 : decode b_Expander_begin 12 = .ok (.aload_n 0, 1) := by decide +kernel
theorem d_Expander_begin_13 : decode b_Expander_begin 13 = .ok (.iconst 0, 1) := by decide +kernel
theorem d_Expander_begin_14 : decode b_Expander_begin 14 = .ok (.putfield 59, 3) := by decide +kernel
theorem d_Expander_begin_17 : decode b_Expander_begin 17 = .ok (.aload_n 0, 1) := by decide +kernel
theorem d_Expander_begin_18 : decode b_Expander_begin 18 = .ok (.iconst 0, 1) := by decide +kernel
theorem d_Expander_begin_19 : decode b_Expander_begin 19 = .ok (.putfield 63, 3) := by decide +kernel
theorem d_Expander_begin_22 : decode b_Expander_begin 22 = .ok (.aload_n 0, 1) := by decide +kernel
theorem d_Expander_begin_23 : decode b_Expander_begin 23 = .ok (.iconst 0, 1) := by decide +kernel
theorem d_Expander_begin_24 : decode b_Expander_begin 24 = .ok (.putfield 66, 3) := by decide +kernel
theorem d_Expander_begin_27 : decode b_Expander_begin 27 = .ok (.aload_n 0, 1) := by decide +kernel
theorem d_Expander_begin_28 : decode b_Expander_begin 28 = .ok (.iconst 0, 1) := by decide +kernel
theorem d_Expander_begin_29 : decode b_Expander_begin 29 = .ok (.putfield 69, 3) := by decide +kernel
theorem d_Expander_begin_32 : decode b_Expander_begin 32 = .ok (.return_, 1) := by decide +kernel
theorem d_Row_clear_0 : decode b_Row_clear 0 = .ok (.aload_n 0, 1) := by decide +kernel
theorem d_Row_clear_1 : decode b_Row_clear 1 = .ok (.iconst 0, 1) := by decide +kernel
theorem d_Row_clear_2 : decode b_Row_clear 2 = .ok (.putfield 19, 3) := by decide +kernel
theorem d_Row_clear_5 : decode b_Row_clear 5 = .ok (.return_, 1) := by decide +kernel
theorem d_Definition_leave_0 : decode b_Definition_leave 0 = .ok (.aload_n 0, 1) := by decide +kernel
theorem d_Definition_leave_1 : decode b_Definition_leave 1 = .ok (.iconst 0, 1) := by decide +kernel
theorem d_Definition_leave_2 : decode b_Definition_leave 2 = .ok (.putfield 24, 3) := by decide +kernel
theorem d_Definition_leave_5 : decode b_Definition_leave 5 = .ok (.return_, 1) := by decide +kernel
theorem d_Input_isEmpty_0 : decode b_Input_isEmpty 0 = .ok (.aload_n 0, 1) := by decide +kernel
theorem d_Input_isEmpty_1 : decode b_Input_isEmpty 1 = .ok (.getfield 15, 3) := by decide +kernel
theorem d_Input_isEmpty_4 : decode b_Input_isEmpty 4 = .ok (.ifCond .gt 7, 3) := by decide +kernel
theorem d_Input_isEmpty_7 : decode b_Input_isEmpty 7 = .ok (.iconst 1, 1) := by decide +kernel
theorem d_Input_isEmpty_8 : decode b_Input_isEmpty 8 = .ok (.goto 4, 3) := by decide +kernel
theorem d_Input_isEmpty_11 : decode b_Input_isEmpty 11 = .ok (.iconst 0, 1) := by decide +kernel
theorem d_Input_isEmpty_12 : decode b_Input_isEmpty 12 = .ok (.ireturn, 1) := by decide +kernel
