theorem d_Definition_isUnderWay_0 : decode b_Definition_isUnderWay 0 = .ok (.aload_n 0, 1) := by decide +kernel
theorem d_Definition_isUnderWay_1 : decode b_Definition_isUnderWay 1 = .ok (.getfield 24, 3) := by decide +kernel
theorem d_Definition_isUnderWay_4 : decode b_Definition_isUnderWay 4 = .ok (.ifCond .eq 7, 3) := by decide +kernel
theorem d_Definition_isUnderWay_7 : decode b_Definition_isUnderWay 7 = .ok (.iconst 1, 1) := by decide +kernel
theorem d_Definition_isUnderWay_8 : decode b_Definition_isUnderWay 8 = .ok (.goto 4, 3) := by decide +kernel
theorem d_Definition_isUnderWay_11 : decode b_Definition_isUnderWay 11 = .ok (.iconst 0, 1) := by decide +kernel
theorem d_Definition_isUnderWay_12 : decode b_Definition_isUnderWay 12 = .ok (.ireturn, 1) := by decide +kernel
theorem d_Definition_takesTokensAsTheyAre_0 : decode b_Definition_takesTokensAsTheyAre 0 = .ok (.aload_n 0, 1) := by decide +kernel
theorem d_Definition_takesTokensAsTheyAre_1 : decode b_Definition_takesTokensAsTheyAre 1 = .ok (.invokevirtual 44, 3) := by decide +kernel
theorem d_Definition_takesTokensAsTheyAre_4 : decode b_Definition_takesTokensAsTheyAre 4 = .ok (.ifCond .eq 22, 3) := by decide +kernel
theorem d_Definition_takesTokensAsTheyAre_7 : decode b_Definition_takesTokensAsTheyAre 7 = .ok (.aload_n 0, 1) := by decide +kernel
theorem d_Definition_takesTokensAsTheyAre_8 : decode b_Definition_takesTokensAsTheyAre 8 = .ok (.getfield 24, 3) := by decide +kernel
theorem d_Definition_takesTokensAsTheyAre_11 : decode b_Definition_takesTokensAsTheyAre 11 = .ok (.iconst 3, 1) := by decide +kernel
theorem d_Definition_takesTokensAsTheyAre_12 : decode b_Definition_takesTokensAsTheyAre 12 = .ok (.if_icmp .ne 10, 3) := by decide +kernel
theorem d_Definition_takesTokensAsTheyAre_15 : decode b_Definition_takesTokensAsTheyAre 15 = .ok (.aload_n 0, 1) := by decide +kernel
theorem d_Definition_takesTokensAsTheyAre_16 : decode b_Definition_takesTokensAsTheyAre 16 = .ok (.getfield 31, 3) := by decide +kernel
theorem d_Definition_takesTokensAsTheyAre_19 : decode b_Definition_takesTokensAsTheyAre 19 = .ok (.ifCond .ne 7, 3) := by decide +kernel
theorem d_Definition_takesTokensAsTheyAre_22 : decode b_Definition_takesTokensAsTheyAre 22 = .ok (.iconst 1, 1) := by decide +kernel
theorem d_Definition_takesTokensAsTheyAre_23 : decode b_Definition_takesTokensAsTheyAre 23 = .ok (.goto 4, 3) := by decide +kernel
theorem d_Definition_takesTokensAsTheyAre_26 : decode b_Definition_takesTokensAsTheyAre 26 = .ok (.iconst 0, 1) := by decide +kernel
theorem d_Definition_takesTokensAsTheyAre_27 : decode b_Definition_takesTokensAsTheyAre 27 = .ok (.ireturn, 1) := by decide +kernel
theorem d_Input_get_0 : decode b_Input_get 0 = .ok (.iload_n 1, 1) := by decide +kernel
theorem d_Input_get_1 : decode b_Input_get 1 = .ok (.ifCond .lt 27, 3) := by decide +kernel
theorem d_Input_get_4 : decode b_Input_get 4 = .ok (.iload_n 1, 1) := by decide +kernel
theorem d_Input_get_5 : decode b_Input_get 5 = .ok (.aload_n 0, 1) := by decide +kernel
theorem d_Input_get_6 : decode b_Input_get 6 = .ok (.getfield 15, 3) := by decide +kernel
theorem d_Input_get_9 : decode b_Input_get 9 = .ok (.if_icmp .ge 19, 3) := by decide +kernel
theorem d_Input_get_12 : decode b_Input_get 12 = .ok (.aload_n 0, 1) := by decide +kernel
theorem d_Input_get_13 : decode b_Input_get 13 = .ok (.getfield 9, 3) := by decide +kernel
theorem d_Input_get_16 : decode b_Input_get 16 = .ok (.aload_n 0, 1) := by decide +kernel
theorem d_Input_get_17 : decode b_Input_get 17 = .ok (.getfield 15, 3) := by decide +kernel
theorem d_Input_get_20 : decode b_Input_get 20 = .ok (.iconst 1, 1) := by decide +kernel
theorem d_Input_get_21 : decode b_Input_get 21 = .ok (.isub, 1) := by decide +kernel
theorem d_Input_get_22 : decode b_Input_get 22 = .ok (.iload_n 1, 1) := by decide +kernel
theorem d_Input_get_23 : decode b_Input_get 23 = .ok (.isub, 1) := by decide +kernel
theorem d_Input_get_24 : decode b_Input_get 24 = .ok (.iaload, 1) := by decide +kernel
theorem d_Input_get_25 : decode b_Input_get 25 = .ok (.goto 4, 3) := by decide +kernel
theorem d_Input_get_28 : decode b_Input_get 28 = .ok (.iconst (-1), 1) := by decide +kernel
theorem d_Input_get_29 : decode b_Input_get 29 = .ok (.ireturn, 1) := by decide +kernel
theorem d_Book_numberOf_0 : decode b_Book_numberOf 0 = .ok (.iload_n 1, 1) := by decide +kernel
theorem d_Book_numberOf_1 : decode b_Book_numberOf 1 = .ok (.ifCond .lt 21, 3) := by decide +kernel
theorem d_Book_numberOf_4 : decode b_Book_numberOf 4 = .ok (.iload_n 1, 1) := by decide +kernel
theorem d_Book_numberOf_5 : decode b_Book_numberOf 5 = .ok (.aload_n 0, 1) := by decide +kernel
theorem d_Book_numberOf_6 : decode b_Book_numberOf 6 = .ok (.getfield 17, 3) := by decide +kernel
theorem d_Book_numberOf_9 : decode b_Book_numberOf 9 = .ok (.arraylength, 1) := by decide +kernel
theorem d_Book_numberOf_10 : decode b_Book_numberOf 10 = .ok (.if_icmp .ge 12, 3) := by decide +kernel
theorem d_Book_numberOf_13 : decode b_Book_numberOf 13 = .ok (.aload_n 0, 1) := by decide +kernel
theorem d_Book_numberOf_14 : decode b_Book_numberOf 14 = .ok (.getfield 17, 3) := by decide +kernel
theorem d_Book_numberOf_17 : decode b_Book_numberOf 17 = .ok (.iload_n 1, 1) := by decide +kernel
theorem d_Book_numberOf_18 : decode b_Book_numberOf 18 = .ok (.iaload, 1) := by decide +kernel
theorem d_Book_numberOf_19 : decode b_Book_numberOf 19 = .ok (.goto 4, 3) := by decide +kernel
theorem d_Book_numberOf_22 : decode b_Book_numberOf 22 = .ok (.iconst (-1), 1) := by decide +kernel
theorem d_Book_numberOf_23 : decode b_Book_numberOf 23 = .ok (.ireturn, 1) := by decide +kernel
theorem d_Book_macroOf_0 : decode b_Book_macroOf 0 = .ok (.aload_n 0, 1) := by decide +kernel
theorem d_Book_macroOf_1 : decode b_Book_macroOf 1 = .ok (.aload_n 0, 1) := by decide +kernel
theorem d_Book_macroOf_2 : decode b_Book_macroOf 2 = .ok (.iload_n 1, 1) := by decide +kernel
theorem d_Book_macroOf_3 : decode b_Book_macroOf 3 = .ok (.sipush 1000, 3) := by decide +kernel
theorem d_Book_macroOf_6 : decode b_Book_macroOf 6 = .ok (.isub, 1) := by decide +kernel
theorem d_Book_macroOf_7 : decode b_Book_macroOf 7 = .ok (.invokevirtual 39, 3) := by decide +kernel
theorem d_Book_macroOf_10 : decode b_Book_macroOf 10 = .ok (.invokevirtual 43, 3) := by decide +kernel
theorem d_Book_macroOf_13 : decode b_Book_macroOf 13 = .ok (.areturn, 1) := by decide +kernel
theorem d_Expander_canExpand_0 : decode b_Expander_canExpand 0 = .ok (.aload_n 0, 1) := by decide +kernel
theorem d_Expander_canExpand_1 : decode b_Expander_canExpand 1 = .ok (.getfield 15, 3) := by decide +kernel
theorem d_Expander_canExpand_4 : decode b_Expander_canExpand 4 = .ok (.iconst 0, 1) := by decide +kernel
theorem d_Expander_canExpand_5 : decode b_Expander_canExpand 5 = .ok (.invokevirtual 72, 3) := by decide +kernel
theorem d_Expander_canExpand_8 : decode b_Expander_canExpand 8 = .ok (.istore_n 1, 1) := by decide +kernel
theorem d_Expander_canExpand_9 : decode b_Expander_canExpand 9 = .ok (.aload_n 0, 1) := by decide +kernel
theorem d_Expander_canExpand_10 : decode b_Expander_canExpand 10 = .ok (.getfield 63, 3) := by decide +kernel
theorem d_Expander_canExpand_13 : decode b_Expander_canExpand 13 = .ok (.ifCond .ne 39, 3) := by decide +kernel
theorem d_Expander_canExpand_16 : decode b_Expander_canExpand 16 = .ok (.iload_n 1, 1) := by decide +kernel
theorem d_Expander_canExpand_17 : decode b_Expander_canExpand 17 = .ok (.sipush 260, 3) := by decide +kernel
theorem d_Expander_canExpand_20 : decode b_Expander_canExpand 20 = .ok (.if_icmp .eq 28, 3) := by decide +kernel
theorem d_Expander_canExpand_23 : decode b_Expander_canExpand 23 = .ok (.iload_n 1, 1) := by decide +kernel
theorem d_Expander_canExpand_24 : decode b_Expander_canExpand 24 = .ok (.sipush 261, 3) := by decide +kernel
theorem d_Expander_canExpand_27 : decode b_Expander_canExpand 27 = .ok (.if_icmp .eq 21, 3) := by decide +kernel
theorem d_Expander_canExpand_30 : decode b_Expander_canExpand 30 = .ok (.iload_n 1, 1) := by decide +kernel
theorem d_Expander_canExpand_31 : decode b_Expander_canExpand 31 = .ok (.sipush 262, 3) := by decide +kernel
theorem d_Expander_canExpand_34 : decode b_Expander_canExpand 34 = .ok (.if_icmp .eq 14, 3) := by decide +kernel
theorem d_Expander_canExpand_37 : decode b_Expander_canExpand 37 = .ok (.aload_n 0, 1) := by decide +kernel
theorem d_Expander_canExpand_38 : decode b_Expander_canExpand 38 = .ok (.getfield 19, 3) := by decide +kernel
theorem d_Expander_canExpand_41 : decode b_Expander_canExpand 41 = .ok (.iload_n 1, 1) := by decide +kernel
theorem d_Expander_canExpand_42 : decode b_Expander_canExpand 42 = .ok (.invokevirtual 78, 3) := by decide +kernel
theorem d_Expander_canExpand_45 : decode b_Expander_canExpand 45 = .ok (.ifnull 7, 3) := by decide +kernel
theorem d_Expander_canExpand_48 : decode b_Expander_canExpand 48 = .ok (.iconst 1, 1) := by decide +kernel
theorem d_Expander_canExpand_49 : decode b_Expander_canExpand 49 = .ok (.goto 4, 3) := by decide +kernel
theorem d_Expander_canExpand_52 : decode b_Expander_canExpand 52 = .ok (.iconst 0, 1) := by decide +kernel
theorem d_Expander_canExpand_53 : decode b_Expander_canExpand 53 = .ok (.ireturn, 1) := by decide +kernel
theorem d_Input_take_0 : decode b_Input_take 0 = .ok (.aload_n 0, 1) := by decide +kernel
theorem d_Input_take_1 : decode b_Input_take 1 = .ok (.getfield 15, 3) := by decide +kernel
theorem d_Input_take_4 : decode b_Input_take 4 = .ok (.ifCond .gt 5, 3) := by decide +kernel
theorem d_Input_take_7 : decode b_Input_take 7 = .ok (.iconst (-1), 1) := by decide +kernel
theorem d_Input_take_8 : decode b_Input_take 8 = .ok (.ireturn, 1) := by decide +kernel
theorem d_Input_take_9 : decode b_Input_take 9 = .ok (.aload_n 0, 1) := by decide +kernel
theorem d_Input_take_10 : decode b_Input_take 10 = .ok (.dup, 1) := by decide +kernel
theorem d_Input_take_11 : decode b_Input_take 11 = .ok (.getfield 15, 3) := by decide +kernel
theorem d_Input_take_14 : decode b_Input_take 14 = .ok (.iconst 1, 1) := by decide +kernel
theorem d_Input_take_15 : decode b_Input_take 15 = .ok (.isub, 1) := by decide +kernel
theorem d_Input_take_16 : decode b_Input_take 16 = .ok (.putfield 15, 3) := by decide +kernel
theorem d_Input_take_19 : decode b_Input_take 19 = .ok (.aload_n 0, 1) := by decide +kernel
theorem d_Input_take_20 : decode b_Input_take 20 = .ok (.getfield 9, 3) := by decide +kernel
theorem d_Input_take_23 : decode b_Input_take 23 = .ok (.aload_n 0, 1) := by decide +kernel
theorem d_Input_take_24 : decode b_Input_take 24 = .ok (.getfield 15, 3) := by decide +kernel
theorem d_Input_take_27 : decode b_Input_take 27 = .ok (.iaload, 1) := by decide +kernel
theorem d_Input_take_28 : decode b_Input_take 28 = .ok (.ireturn, 1) := by decide +kernel
theorem d_Expander_beginAfter_0 : decode b_Expander_beginAfter 0 = .ok (.aload_n 0, 1) := by decide +kernel
theorem d_Expander_beginAfter_1 : decode b_Expander_beginAfter 1 = .ok (.getfield 15, 3) := by decide +kernel
theorem d_Expander_beginAfter_4 : decode b_Expander_beginAfter 4 = .ok (.getfield 115, 3) := by decide +kernel
theorem d_Expander_beginAfter_7 : decode b_Expander_beginAfter 7 = .ok (.iconst 2, 1) := by decide +kernel
theorem d_Expander_beginAfter_8 : decode b_Expander_beginAfter 8 = .ok (.if_icmp .ge 5, 3) := by decide +kernel
theorem d_Expander_beginAfter_11 : decode b_Expander_beginAfter 11 = .ok (.iconst 1, 1) := by decide +kernel
theorem d_Expander_beginAfter_12 : decode b_Expander_beginAfter 12 = .ok (.ireturn, 1) := by decide +kernel
theorem d_Expander_beginAfter_13 : decode b_Expander_beginAfter 13 = .ok (.aload_n 0, 1) := by decide +kernel
theorem d_Expander_beginAfter_14 : decode b_Expander_beginAfter 14 = .ok (.getfield 56, 3) := by decide +kernel
theorem d_Expander_beginAfter_17 : decode b_Expander_beginAfter 17 = .ok (.bipush 50, 2) := by decide +kernel
theorem d_Expander_beginAfter_19 : decode b_Expander_beginAfter 19 = .ok (.if_icmp .lt 6, 3) := by decide +kernel
theorem d_Expander_beginAfter_22 : decode b_Expander_beginAfter 22 = .ok (.bipush 8, 2) := by decide +kernel
theorem d_Expander_beginAfter_24 : decode b_Expander_beginAfter 24 = .ok (.ireturn, 1) := by decide +kernel
theorem d_Expander_beginAfter_25 : decode b_Expander_beginAfter 25 = .ok (.aload_n 0, 1) := by decide +kernel
theorem d_Expander_beginAfter_26 : decode b_Expander_beginAfter 26 = .ok (.getfield 43, 3) := by decide +kernel
theorem d_Expander_beginAfter_29 : decode b_Expander_beginAfter 29 = .ok (.aload_n 0, 1) := by decide +kernel
theorem d_Expander_beginAfter_30 : decode b_Expander_beginAfter 30 = .ok (.getfield 56, 3) := by decide +kernel
theorem d_Expander_beginAfter_33 : decode b_Expander_beginAfter 33 = .ok (.aload_n 0, 1) := by decide +kernel
theorem d_Expander_beginAfter_34 : decode b_Expander_beginAfter 34 = .ok (.getfield 15, 3) := by decide +kernel
theorem d_Expander_beginAfter_37 : decode b_Expander_beginAfter 37 = .ok (.invokevirtual 84, 3) := by decide +kernel
theorem d_Expander_beginAfter_40 : decode b_Expander_beginAfter 40 = .ok (.iastore, 1) := by decide +kernel
theorem d_Expander_beginAfter_41 : decode b_Expander_beginAfter 41 = .ok (.aload_n 0, 1) := by decide +kernel
theorem d_Expander_beginAfter_42 : decode b_Expander_beginAfter 42 = .ok (.dup, 1) := by decide +kernel
theorem d_Expander_beginAfter_43 : decode b_Expander_beginAfter 43 = .ok (.getfield 56, 3) := by decide +kernel
theorem d_Expander_beginAfter_46 : decode b_Expander_beginAfter 46 = .ok (.iconst 1, 1) := by decide +kernel
theorem d_Expander_beginAfter_47 : decode b_Expander_beginAfter 47 = .ok (.iadd, 1) := by decide +kernel
theorem d_Expander_beginAfter_48 : decode b_Expander_beginAfter 48 = .ok (.putfield 56, 3) := by decide +kernel
theorem d_Expander_beginAfter_51 : decode b_Expander_beginAfter 51 = .ok (.aload_n 0, 1) := by decide +kernel
theorem d_Expander_beginAfter_52 : decode b_Expander_beginAfter 52 = .ok (.iconst 1, 1) := by decide +kernel
theorem d_Expander_beginAfter_53 : decode b_Expander_beginAfter 53 = .ok (.putfield 59, 3) := by decide +kernel
theorem d_Expander_beginAfter_56 : decode b_Expander_beginAfter 56 = .ok (.iconst 0, 1) := by decide +kernel
theorem d_Expander_beginAfter_57 : decode b_Expander_beginAfter 57 = .ok (.ireturn, 1) := by decide +kernel
theorem d_Expander_beginNaming_0 : decode b_Expander_beginNaming 0 = .ok (.aload_n 0, 1) := by decide +kernel
theorem d_Expander_beginNaming_1 : decode b_Expander_beginNaming 1 = .ok (.getfield 56, 3) := by decide +kernel
theorem d_Expander_beginNaming_4 : decode b_Expander_beginNaming 4 = .ok (.bipush 50, 2) := by decide +kernel
theorem d_Expander_beginNaming_6 : decode b_Expander_beginNaming 6 = .ok (.if_icmp .lt 6, 3) := by decide +kernel
theorem d_Expander_beginNaming_9 : decode b_Expander_beginNaming 9 = .ok (.bipush 8, 2) := by decide +kernel
theorem d_Expander_beginNaming_11 : decode b_Expander_beginNaming 11 = .ok (.ireturn, 1) := by decide +kernel
theorem d_Expander_beginNaming_12 : decode b_Expander_beginNaming 12 = .ok (.aload_n 0, 1) := by decide +kernel
theorem d_Expander_beginNaming_13 : decode b_Expander_beginNaming 13 = .ok (.getfield 43, 3) := by decide +kernel
theorem d_Expander_beginNaming_16 : decode b_Expander_beginNaming 16 = .ok (.aload_n 0, 1) := by decide +kernel
theorem d_Expander_beginNaming_17 : decode b_Expander_beginNaming 17 = .ok (.getfield 56, 3) := by decide +kernel
theorem d_Expander_beginNaming_20 : decode b_Expander_beginNaming 20 = .ok (.iconst (-1), 1) := by decide +kernel
theorem d_Expander_beginNaming_21 : decode b_Expander_beginNaming 21 = .ok (.iastore, 1) := by decide +kernel
theorem d_Expander_beginNaming_22 : decode b_Expander_beginNaming 22 = .ok (.aload_n 0, 1) := by decide +kernel
theorem d_Expander_beginNaming_23 : decode b_Expander_beginNaming 23 = .ok (.getfield 50, 3) := by decide +kernel
theorem d_Expander_beginNaming_26 : decode b_Expander_beginNaming 26 = .ok (.aload_n 0, 1) := by decide +kernel
theorem d_Expander_beginNaming_27 : decode b_Expander_beginNaming 27 = .ok (.getfield 56, 3) := by decide +kernel
theorem d_Expander_beginNaming_30 : decode b_Expander_beginNaming 30 = .ok (.iconst 0, 1) := by decide +kernel
theorem d_Expander_beginNaming_31 : decode b_Expander_beginNaming 31 = .ok (.iastore, 1) := by decide +kernel
theorem d_Expander_beginNaming_32 : decode b_Expander_beginNaming 32 = .ok (.aload_n 0, 1) := by decide +kernel
theorem d_Expander_beginNaming_33 : decode b_Expander_beginNaming 33 = .ok (.dup, 1) := by decide +kernel
theorem d_Expander_beginNaming_34 : decode b_Expander_beginNaming 34 = .ok (.getfield 56, 3) := by decide +kernel
theorem d_Expander_beginNaming_37 : decode b_Expander_beginNaming 37 = .ok (.iconst 1, 1) := by decide +kernel
theorem d_Expander_beginNaming_38 : decode b_Expander_beginNaming 38 = .ok (.iadd, 1) := by decide +kernel
theorem d_Expander_beginNaming_39 : decode b_Expander_beginNaming 39 = .ok (.putfield 56, 3) := by decide +kernel
theorem d_Expander_beginNaming_42 : decode b_Expander_beginNaming 42 = .ok (.iconst 0, 1) := by decide +kernel
theorem d_Expander_beginNaming_43 : decode b_Expander_beginNaming 43 = .ok (.ireturn, 1) := by decide +kernel
theorem d_Book_isOuter_0 : decode b_Book_isOuter 0 = .ok (.iload_n 1, 1) := by decide +kernel
theorem d_Book_isOuter_1 : decode b_Book_isOuter 1 = .ok (.sipush 1000, 3) := by decide +kernel
theorem d_Book_isOuter_4 : decode b_Book_isOuter 4 = .ok (.isub, 1) := by decide +kernel
theorem d_Book_isOuter_5 : decode b_Book_isOuter 5 = .ok (.istore_n 2, 1) := by decide +kernel
theorem d_Book_isOuter_6 : decode b_Book_isOuter 6 = .ok (.iload_n 2, 1) := by decide +kernel
theorem d_Book_isOuter_7 : decode b_Book_isOuter 7 = .ok (.ifCond .lt 10, 3) := by decide +kernel
theorem d_Book_isOuter_10 : decode b_Book_isOuter 10 = .ok (.iload_n 2, 1) := by decide +kernel
theorem d_Book_isOuter_11 : decode b_Book_isOuter 11 = .ok (.sipush 200, 3) := by decide +kernel
theorem d_Book_isOuter_14 : decode b_Book_isOuter 14 = .ok (.if_icmp .lt 5, 3) := by decide +kernel
theorem d_Book_isOuter_17 : decode b_Book_isOuter 17 = .ok (.iconst 0, 1) := by decide +kernel
theorem d_Book_isOuter_18 : decode b_Book_isOuter 18 = .ok (.ireturn, 1) := by decide +kernel
theorem d_Book_isOuter_19 : decode b_Book_isOuter 19 = .ok (.aload_n 0, 1) := by decide +kernel
theorem d_Book_isOuter_20 : decode b_Book_isOuter 20 = .ok (.getfield 17, 3) := by decide +kernel
theorem d_Book_isOuter_23 : decode b_Book_isOuter 23 = .ok (.iload_n 2, 1) := by decide +kernel
theorem d_Book_isOuter_24 : decode b_Book_isOuter 24 = .ok (.iaload, 1) := by decide +kernel
theorem d_Book_isOuter_25 : decode b_Book_isOuter 25 = .ok (.istore_n 3, 1) := by decide +kernel
theorem d_Book_isOuter_26 : decode b_Book_isOuter 26 = .ok (.iload_n 3, 1) := by decide +kernel
theorem d_Book_isOuter_27 : decode b_Book_isOuter 27 = .ok (.ifCond .lt 20, 3) := by decide +kernel
theorem d_Book_isOuter_30 : decode b_Book_isOuter 30 = .ok (.iload_n 3, 1) := by decide +kernel
theorem d_Book_isOuter_31 : decode b_Book_isOuter 31 = .ok (.aload_n 0, 1) := by decide +kernel
theorem d_Book_isOuter_32 : decode b_Book_isOuter 32 = .ok (.getfield 32, 3) := by decide +kernel
theorem d_Book_isOuter_35 : decode b_Book_isOuter 35 = .ok (.if_icmp .ge 12, 3) := by decide +kernel
theorem d_Book_isOuter_38 : decode b_Book_isOuter 38 = .ok (.aload_n 0, 1) := by decide +kernel
theorem d_Book_isOuter_39 : decode b_Book_isOuter 39 = .ok (.getfield 11, 3) := by decide +kernel
theorem d_Book_isOuter_42 : decode b_Book_isOuter 42 = .ok (.iload_n 3, 1) := by decide +kernel
theorem d_Book_isOuter_43 : decode b_Book_isOuter 43 = .ok (.aaload, 1) := by decide +kernel
theorem d_Book_isOuter_44 : decode b_Book_isOuter 44 = .ok (.goto 4, 3) := by decide +kernel
theorem d_Book_isOuter_47 : decode b_Book_isOuter 47 = .ok (.aconst_null, 1) := by decide +kernel
theorem d_Book_isOuter_48 : decode b_Book_isOuter 48 = .ok (.astore 4, 2) := by decide +kernel
theorem d_Book_isOuter_50 : decode b_Book_isOuter 50 = .ok (.aload 4, 2) := by decide +kernel
theorem d_Book_isOuter_52 : decode b_Book_isOuter 52 = .ok (.ifnull 15, 3) := by decide +kernel
theorem d_Book_isOuter_55 : decode b_Book_isOuter 55 = .ok (.aload 4, 2) := by decide +kernel
theorem d_Book_isOuter_57 : decode b_Book_isOuter 57 = .ok (.getfield 47, 3) := by decide +kernel
theorem d_Book_isOuter_60 : decode b_Book_isOuter 60 = .ok (.ifCond .eq 7, 3) := by decide +kernel
theorem d_Book_isOuter_63 : decode b_Book_isOuter 63 = .ok (.iconst 1, 1) := by decide +kernel
theorem d_Book_isOuter_64 : decode b_Book_isOuter 64 = .ok (.goto 4, 3) := by decide +kernel
theorem d_Book_isOuter_67 : decode b_Book_isOuter 67 = .ok (.iconst 0, 1) := by decide +kernel
theorem d_Book_isOuter_68 : decode b_Book_isOuter 68 = .ok (.ireturn, 1) := by decide +kernel
theorem d_Row_get_0 : decode b_Row_get 0 = .ok (.iload_n 1, 1) := by decide +kernel
theorem d_Row_get_1 : decode b_Row_get 1 = .ok (.ifCond .lt 29, 3) := by decide +kernel
theorem d_Row_get_4 : decode b_Row_get 4 = .ok (.iload_n 1, 1) := by decide +kernel
theorem d_Row_get_5 : decode b_Row_get 5 = .ok (.aload_n 0, 1) := by decide +kernel
theorem d_Row_get_6 : decode b_Row_get 6 = .ok (.getfield 19, 3) := by decide +kernel
theorem d_Row_get_9 : decode b_Row_get 9 = .ok (.if_icmp .ge 21, 3) := by decide +kernel
theorem d_Row_get_12 : decode b_Row_get 12 = .ok (.iload_n 1, 1) := by decide +kernel
theorem d_Row_get_13 : decode b_Row_get 13 = .ok (.aload_n 0, 1) := by decide +kernel
theorem d_Row_get_14 : decode b_Row_get 14 = .ok (.getfield 15, 3) := by decide +kernel
theorem d_Row_get_17 : decode b_Row_get 17 = .ok (.arraylength, 1) := by decide +kernel
theorem d_Row_get_18 : decode b_Row_get 18 = .ok (.if_icmp .ge 12, 3) := by decide +kernel
theorem d_Row_get_21 : decode b_Row_get 21 = .ok (.aload_n 0, 1) := by decide +kernel
theorem d_Row_get_22 : decode b_Row_get 22 = .ok (.getfield 15, 3) := by decide +kernel
theorem d_Row_get_25 : decode b_Row_get 25 = .ok (.iload_n 1, 1) := by decide +kernel
theorem d_Row_get_26 : decode b_Row_get 26 = .ok (.iaload, 1) := by decide +kernel
theorem d_Row_get_27 : decode b_Row_get 27 = .ok (.goto 4, 3) := by decide +kernel
theorem d_Row_get_30 : decode b_Row_get 30 = .ok (.iconst (-1), 1) := by decide +kernel
theorem d_Row_get_31 : decode b_Row_get 31 = .ok (.ireturn, 1) := by decide +kernel
theorem d_Arguments_readRow_0 : decode b_Arguments_readRow 0 = .ok (.iconst 0, 1) := by decide +kernel
theorem d_Arguments_readRow_1 : decode b_Arguments_readRow 1 = .ok (.istore_n 2, 1) := by decide +kernel
theorem d_Arguments_readRow_2 : decode b_Arguments_readRow 2 = .ok (.iload_n 2, 1) := by decide +kernel
theorem d_Arguments_readRow_3 : decode b_Arguments_readRow 3 = .ok (.aload_n 1, 1) := by decide +kernel
theorem d_Arguments_readRow_4 : decode b_Arguments_readRow 4 = .ok (.getfield 41, 3) := by decide +kernel
theorem d_Arguments_readRow_7 : decode b_Arguments_readRow 7 = .ok (.if_icmp .ge 53, 3) := by decide +kernel
theorem d_Arguments_readRow_10 : decode b_Arguments_readRow 10 = .ok (.aload_n 0, 1) := by decide +kernel
theorem d_Arguments_readRow_11 : decode b_Arguments_readRow 11 = .ok (.getfield 9, 3) := by decide +kernel
theorem d_Arguments_readRow_14 : decode b_Arguments_readRow 14 = .ok (.invokevirtual 45, 3) := by decide +kernel
theorem d_Arguments_readRow_17 : decode b_Arguments_readRow 17 = .ok (.ifCond .eq 5, 3) := by decide +kernel
theorem d_Arguments_readRow_20 : decode b_Arguments_readRow 20 = .ok (.iconst 1, 1) := by decide +kernel
theorem d_Arguments_readRow_21 : decode b_Arguments_readRow 21 = .ok (.ireturn, 1) := by decide +kernel
theorem d_Arguments_readRow_22 : decode b_Arguments_readRow 22 = .ok (.aload_n 0, 1) := by decide +kernel
theorem d_Arguments_readRow_23 : decode b_Arguments_readRow 23 = .ok (.getfield 9, 3) := by decide +kernel
theorem d_Arguments_readRow_26 : decode b_Arguments_readRow 26 = .ok (.invokevirtual 51, 3) := by decide +kernel
theorem d_Arguments_readRow_29 : decode b_Arguments_readRow 29 = .ok (.istore_n 3, 1) := by decide +kernel
theorem d_Arguments_readRow_30 : decode b_Arguments_readRow 30 = .ok (.aload_n 0, 1) := by decide +kernel
theorem d_Arguments_readRow_31 : decode b_Arguments_readRow 31 = .ok (.getfield 15, 3) := by decide +kernel
theorem d_Arguments_readRow_34 : decode b_Arguments_readRow 34 = .ok (.iload_n 3, 1) := by decide +kernel
theorem d_Arguments_readRow_35 : decode b_Arguments_readRow 35 = .ok (.invokevirtual 55, 3) := by decide +kernel
theorem d_Arguments_readRow_38 : decode b_Arguments_readRow 38 = .ok (.ifCond .eq 5, 3) := by decide +kernel
theorem d_Arguments_readRow_41 : decode b_Arguments_readRow 41 = .ok (.iconst 2, 1) := by decide +kernel
theorem d_Arguments_readRow_42 : decode b_Arguments_readRow 42 = .ok (.ireturn, 1) := by decide +kernel
theorem d_Arguments_readRow_43 : decode b_Arguments_readRow 43 = .ok (.iload_n 3, 1) := by decide +kernel
theorem d_Arguments_readRow_44 : decode b_Arguments_readRow 44 = .ok (.aload_n 1, 1) := by decide +kernel
theorem d_Arguments_readRow_45 : decode b_Arguments_readRow 45 = .ok (.iload_n 2, 1) := by decide +kernel
theorem d_Arguments_readRow_46 : decode b_Arguments_readRow 46 = .ok (.invokevirtual 61, 3) := by decide +kernel
theorem d_Arguments_readRow_49 : decode b_Arguments_readRow 49 = .ok (.if_icmp .eq 5, 3) := by decide +kernel
theorem d_Arguments_readRow_52 : decode b_Arguments_readRow 52 = .ok (.iconst 3, 1) := by decide +kernel
theorem d_Arguments_readRow_53 : decode b_Arguments_readRow 53 = .ok (.ireturn, 1) := by decide +kernel
theorem d_Arguments_readRow_54 : decode b_Arguments_readRow 54 = .ok (.iinc 2 1, 3) := by decide +kernel
theorem d_Arguments_readRow_57 : decode b_Arguments_readRow 57 = .ok (.goto (-55), 3) := by decide +kernel
theorem d_Arguments_readRow_60 : decode b_Arguments_readRow 60 = .ok (.iconst 0, 1) := by decide +kernel
theorem d_Arguments_readRow_61 : decode b_Arguments_readRow 61 = .ok (.ireturn, 1) := by decide +kernel
theorem d_Arguments_argument_0 : decode b_Arguments_argument 0 = .ok (.aload_n 0, 1) := by decide +kernel
theorem d_Arguments_argument_1 : decode b_Arguments_argument 1 = .ok (.getfield 21, 3) := by decide +kernel
theorem d_Arguments_argument_4 : decode b_Arguments_argument 4 = .ok (.iconst 0, 1) := by decide +kernel
theorem d_Arguments_argument_5 : decode b_Arguments_argument 5 = .ok (.iload_n 1, 1) := by decide +kernel
theorem d_Arguments_argument_6 : decode b_Arguments_argument 6 = .ok (.iconst 1, 1) := by decide +kernel
theorem d_Arguments_argument_7 : decode b_Arguments_argument 7 = .ok (.isub, 1) := by decide +kernel
theorem d_Arguments_argument_8 : decode b_Arguments_argument 8 = .ok (.aload_n 0, 1) := by decide +kernel
theorem d_Arguments_argument_9 : decode b_Arguments_argument 9 = .ok (.getfield 21, 3) := by decide +kernel
theorem d_Arguments_argument_12 : decode b_Arguments_argument 12 = .ok (.arraylength, 1) := by decide +kernel
theorem d_Arguments_argument_13 : decode b_Arguments_argument 13 = .ok (.iconst 1, 1) := by decide +kernel
theorem d_Arguments_argument_14 : decode b_Arguments_argument 14 = .ok (.isub, 1) := by decide +kernel
theorem d_Arguments_argument_15 : decode b_Arguments_argument 15 = .ok (.invokestatic 28, 3) := by decide +kernel
theorem d_Arguments_argument_18 : decode b_Arguments_argument 18 = .ok (.invokestatic 34, 3) := by decide +kernel
theorem d_Arguments_argument_21 : decode b_Arguments_argument 21 = .ok (.aaload, 1) := by decide +kernel
theorem d_Arguments_argument_22 : decode b_Arguments_argument 22 = .ok (.areturn, 1) := by decide +kernel
theorem d_Arguments_isForbidden_0 : decode b_Arguments_isForbidden 0 = .ok (.iload_n 1, 1) := by decide +kernel
theorem d_Arguments_isForbidden_1 : decode b_Arguments_isForbidden 1 = .ok (.bipush 10, 2) := by decide +kernel
theorem d_Arguments_isForbidden_3 : decode b_Arguments_isForbidden 3 = .ok (.if_icmp .ne 10, 3) := by decide +kernel
theorem d_Arguments_isForbidden_6 : decode b_Arguments_isForbidden 6 = .ok (.aload_n 2, 1) := by decide +kernel
theorem d_Arguments_isForbidden_7 : decode b_Arguments_isForbidden 7 = .ok (.getfield 94, 3) := by decide +kernel
theorem d_Arguments_isForbidden_10 : decode b_Arguments_isForbidden 10 = .ok (.ifCond .eq 14, 3) := by decide +kernel
theorem d_Arguments_isForbidden_13 : decode b_Arguments_isForbidden 13 = .ok (.aload_n 0, 1) := by decide +kernel
theorem d_Arguments_isForbidden_14 : decode b_Arguments_isForbidden 14 = .ok (.getfield 15, 3) := by decide +kernel
theorem d_Arguments_isForbidden_17 : decode b_Arguments_isForbidden 17 = .ok (.iload_n 1, 1) := by decide +kernel
theorem d_Arguments_isForbidden_18 : decode b_Arguments_isForbidden 18 = .ok (.invokevirtual 55, 3) := by decide +kernel
theorem d_Arguments_isForbidden_21 : decode b_Arguments_isForbidden 21 = .ok (.ifCond .eq 7, 3) := by decide +kernel
theorem d_Arguments_isForbidden_24 : decode b_Arguments_isForbidden 24 = .ok (.iconst 1, 1) := by decide +kernel
theorem d_Arguments_isForbidden_25 : decode b_Arguments_isForbidden 25 = .ok (.goto 4, 3) := by decide +kernel
theorem d_Arguments_isForbidden_28 : decode b_Arguments_isForbidden 28 = .ok (.iconst 0, 1) := by decide +kernel
theorem d_Arguments_isForbidden_29 : decode b_Arguments_isForbidden 29 = .ok (.ireturn, 1) := by decide +kernel
theorem d_Kind_nesting_0 : decode b_Kind_nesting 0 = .ok (.iload_n 0, 1) := by decide +kernel
theorem d_Kind_nesting_1 : decode b_Kind_nesting 1 = .ok (.sipush 257, 3) := by decide +kernel
theorem d_Kind_nesting_4 : decode b_Kind_nesting 4 = .ok (.if_icmp .ne 5, 3) := by decide +kernel
theorem d_Kind_nesting_7 : decode b_Kind_nesting 7 = .ok (.iconst 1, 1) := by decide +kernel
theorem d_Kind_nesting_8 : decode b_Kind_nesting 8 = .ok (.ireturn, 1) := by decide +kernel
theorem d_Kind_nesting_9 : decode b_Kind_nesting 9 = .ok (.iload_n 0, 1) := by decide +kernel
theorem d_Kind_nesting_10 : decode b_Kind_nesting 10 = .ok (.sipush 258, 3) := by decide +kernel
theorem d_Kind_nesting_13 : decode b_Kind_nesting 13 = .ok (.if_icmp .ne 7, 3) := by decide +kernel
theorem d_Kind_nesting_16 : decode b_Kind_nesting 16 = .ok (.iconst (-1), 1) := by decide +kernel
theorem d_Kind_nesting_17 : decode b_Kind_nesting 17 = .ok (.goto 4, 3) := by decide +kernel
theorem d_Kind_nesting_20 : decode b_Kind_nesting 20 = .ok (.iconst 0, 1) := by decide +kernel
theorem d_Kind_nesting_21 : decode b_Kind_nesting 21 = .ok (.ireturn, 1) := by decide +kernel
theorem d_Arguments_readNext_0 : decode b_Arguments_readNext 0 = .ok (.aload_n 0, 1) := by decide +kernel
theorem d_Arguments_readNext_1 : decode b_Arguments_readNext 1 = .ok (.iload_n 1, 1) := by decide +kernel
theorem d_Arguments_readNext_2 : decode b_Arguments_readNext 2 = .ok (.invokevirtual 37, 3) := by decide +kernel
theorem d_Arguments_readNext_5 : decode b_Arguments_readNext 5 = .ok (.astore_n 3, 1) := by decide +kernel
theorem d_Arguments_readNext_6 : decode b_Arguments_readNext 6 = .ok (.aload_n 3, 1) := by decide +kernel
theorem d_Arguments_readNext_7 : decode b_Arguments_readNext 7 = .ok (.invokevirtual 65, 3) := by decide +kernel
theorem d_Arguments_readNext_10 : decode b_Arguments_readNext 10 = .ok (.iconst 0, 1) := by decide +kernel
theorem d_Arguments_readNext_11 : decode b_Arguments_readNext 11 = .ok (.istore 4, 2) := by decide +kernel
theorem d_Arguments_readNext_13 : decode b_Arguments_readNext 13 = .ok (.iload 4, 2) := by decide +kernel
theorem d_Arguments_readNext_15 : decode b_Arguments_readNext 15 = .ok (.sipush 3000, 3) := by decide +kernel
theorem d_Arguments_readNext_18 : decode b_Arguments_readNext 18 = .ok (.if_icmp .ge 31, 3) := by decide +kernel
theorem d_Arguments_readNext_21 : decode b_Arguments_readNext 21 = .ok (.aload_n 0, 1) := by decide +kernel
theorem d_Arguments_readNext_22 : decode b_Arguments_readNext 22 = .ok (.getfield 9, 3) := by decide +kernel
theorem d_Arguments_readNext_25 : decode b_Arguments_readNext 25 = .ok (.iconst 0, 1) := by decide +kernel
theorem d_Arguments_readNext_26 : decode b_Arguments_readNext 26 = .ok (.invokevirtual 68, 3) := by decide +kernel
theorem d_Arguments_readNext_29 : decode b_Arguments_readNext 29 = .ok (.sipush 256, 3) := by decide +kernel
theorem d_Arguments_readNext_32 : decode b_Arguments_readNext 32 = .ok (.if_icmp .ne 17, 3) := by decide +kernel
theorem d_Arguments_readNext_35 : decode b_Arguments_readNext 35 = .ok (.aload_n 0, 1) := by decide +kernel
theorem d_Arguments_readNext_36 : decode b_Arguments_readNext 36 = .ok (.getfield 9, 3) := by decide +kernel
theorem d_Arguments_readNext_39 : decode b_Arguments_readNext 39 = .ok (.invokevirtual 51, 3) := by decide +kernel
theorem d_Arguments_readNext_42 : decode b_Arguments_readNext 42 = .ok (.pop, 1) := by decide +kernel
theorem d_Arguments_readNext_43 : decode b_Arguments_readNext 43 = .ok (.iinc 4 1, 3) := by decide +kernel
theorem d_Arguments_readNext_46 : decode b_Arguments_readNext 46 = .ok (.goto (-33), 3) := by decide +kernel
theorem d_Arguments_readNext_49 : decode b_Arguments_readNext 49 = .ok (.iconst 0, 1) := by decide +kernel
theorem d_Arguments_readNext_50 : decode b_Arguments_readNext 50 = .ok (.istore 4, 2) := by decide +kernel
theorem d_Arguments_readNext_52 : decode b_Arguments_readNext 52 = .ok (.iconst 0, 1) := by decide +kernel
theorem d_Arguments_readNext_53 : decode b_Arguments_readNext 53 = .ok (.istore 5, 2) := by decide +kernel
theorem d_Arguments_readNext_55 : decode b_Arguments_readNext 55 = .ok (.iload 5, 2) := by decide +kernel
theorem d_Arguments_readNext_57 : decode b_Arguments_readNext 57 = .ok (.sipush 3000, 3) := by decide +kernel
theorem d_Arguments_readNext_60 : decode b_Arguments_readNext 60 = .ok (.if_icmp .ge 112, 3) := by decide +kernel
theorem d_Arguments_readNext_63 : decode b_Arguments_readNext 63 = .ok (.aload_n 0, 1) := by decide +kernel
theorem d_Arguments_readNext_64 : decode b_Arguments_readNext 64 = .ok (.getfield 9, 3) := by decide +kernel
theorem d_Arguments_readNext_67 : decode b_Arguments_readNext 67 = .ok (.invokevirtual 45, 3) := by decide +kernel
theorem d_Arguments_readNext_70 : decode b_Arguments_readNext 70 = .ok (.ifCond .ne 102, 3) := by decide +kernel
theorem d_Arguments_readNext_73 : decode b_Arguments_readNext 73 = .ok (.aload_n 0, 1) := by decide +kernel
theorem d_Arguments_readNext_74 : decode b_Arguments_readNext 74 = .ok (.getfield 9, 3) := by decide +kernel
theorem d_Arguments_readNext_77 : decode b_Arguments_readNext 77 = .ok (.invokevirtual 51, 3) := by decide +kernel
theorem d_Arguments_readNext_80 : decode b_Arguments_readNext 80 = .ok (.istore 6, 2) := by decide +kernel
theorem d_Arguments_readNext_82 : decode b_Arguments_readNext 82 = .ok (.aload_n 0, 1) := by decide +kernel
theorem d_Arguments_readNext_83 : decode b_Arguments_readNext 83 = .ok (.iload 6, 2) := by decide +kernel
theorem d_Arguments_readNext_85 : decode b_Arguments_readNext 85 = .ok (.aload_n 2, 1) := by decide +kernel
theorem d_Arguments_readNext_86 : decode b_Arguments_readNext 86 = .ok (.invokevirtual 69, 3) := by decide +kernel
theorem d_Arguments_readNext_89 : decode b_Arguments_readNext 89 = .ok (.ifCond .eq 5, 3) := by decide +kernel
theorem d_Arguments_readNext_92 : decode b_Arguments_readNext 92 = .ok (.iconst 2, 1) := by decide +kernel
theorem d_Arguments_readNext_93 : decode b_Arguments_readNext 93 = .ok (.ireturn, 1) := by decide +kernel
theorem d_Arguments_readNext_94 : decode b_Arguments_readNext 94 = .ok (.iload 4, 2) := by decide +kernel
theorem d_Arguments_readNext_96 : decode b_Arguments_readNext 96 = .ok (.istore 7, 2) := by decide +kernel
theorem d_Arguments_readNext_98 : decode b_Arguments_readNext 98 = .ok (.iload 4, 2) := by decide +kernel
theorem d_Arguments_readNext_100 : decode b_Arguments_readNext 100 = .ok (.iload 6, 2) := by decide +kernel
theorem d_Arguments_readNext_102 : decode b_Arguments_readNext 102 = .ok (.invokestatic 73, 3) := by decide +kernel
theorem d_Arguments_readNext_105 : decode b_Arguments_readNext 105 = .ok (.iadd, 1) := by decide +kernel
theorem d_Arguments_readNext_106 : decode b_Arguments_readNext 106 = .ok (.istore 4, 2) := by decide +kernel
theorem d_Arguments_readNext_108 : decode b_Arguments_readNext 108 = .ok (.iload 4, 2) := by decide +kernel
theorem d_Arguments_readNext_110 : decode b_Arguments_readNext 110 = .ok (.ifCond .ge 6, 3) := by decide +kernel
theorem d_Arguments_readNext_113 : decode b_Arguments_readNext 113 = .ok (.bipush 7, 2) := by decide +kernel
theorem d_Arguments_readNext_115 : decode b_Arguments_readNext 115 = .ok (.ireturn, 1) := by decide +kernel
theorem d_Arguments_readNext_116 : decode b_Arguments_readNext 116 = .ok (.iload 7, 2) := by decide +kernel
theorem d_Arguments_readNext_118 : decode b_Arguments_readNext 118 = .ok (.ifCond .ne 12, 3) := by decide +kernel
theorem d_Arguments_readNext_121 : decode b_Arguments_readNext 121 = .ok (.iload 4, 2) := by decide +kernel
theorem d_Arguments_readNext_123 : decode b_Arguments_readNext 123 = .ok (.iconst 1, 1) := by decide +kernel
theorem d_Arguments_readNext_124 : decode b_Arguments_readNext 124 = .ok (.if_icmp .ne 6, 3) := by decide +kernel
theorem d_Arguments_readNext_127 : decode b_Arguments_readNext 127 = .ok (.goto 39, 3) := by decide +kernel
theorem d_Arguments_readNext_130 : decode b_Arguments_readNext 130 = .ok (.iload 7, 2) := by decide +kernel
theorem d_Arguments_readNext_132 : decode b_Arguments_readNext 132 = .ok (.iconst 1, 1) := by decide +kernel
theorem d_Arguments_readNext_133 : decode b_Arguments_readNext 133 = .ok (.if_icmp .ne 10, 3) := by decide +kernel
theorem d_Arguments_readNext_136 : decode b_Arguments_readNext 136 = .ok (.iload 4, 2) := by decide +kernel
theorem d_Arguments_readNext_138 : decode b_Arguments_readNext 138 = .ok (.ifCond .ne 5, 3) := by decide +kernel
theorem d_Arguments_readNext_141 : decode b_Arguments_readNext 141 = .ok (.iconst 0, 1) := by decide +kernel
theorem d_Arguments_readNext_142 : decode b_Arguments_readNext 142 = .ok (.ireturn, 1) := by decide +kernel
theorem d_Arguments_readNext_143 : decode b_Arguments_readNext 143 = .ok (.aload_n 3, 1) := by decide +kernel
theorem d_Arguments_readNext_144 : decode b_Arguments_readNext 144 = .ok (.invokevirtual 78, 3) := by decide +kernel
theorem d_Arguments_readNext_147 : decode b_Arguments_readNext 147 = .ok (.ifCond .eq 6, 3) := by decide +kernel
theorem d_Arguments_readNext_150 : decode b_Arguments_readNext 150 = .ok (.bipush 8, 2) := by decide +kernel
theorem d_Arguments_readNext_152 : decode b_Arguments_readNext 152 = .ok (.ireturn, 1) := by decide +kernel
theorem d_Arguments_readNext_153 : decode b_Arguments_readNext 153 = .ok (.aload_n 3, 1) := by decide +kernel
theorem d_Arguments_readNext_154 : decode b_Arguments_readNext 154 = .ok (.iload 6, 2) := by decide +kernel
theorem d_Arguments_readNext_156 : decode b_Arguments_readNext 156 = .ok (.invokevirtual 81, 3) := by decide +kernel
theorem d_Arguments_readNext_159 : decode b_Arguments_readNext 159 = .ok (.iload 4, 2) := by decide +kernel
theorem d_Arguments_readNext_161 : decode b_Arguments_readNext 161 = .ok (.ifCond .ne 5, 3) := by decide +kernel
theorem d_Arguments_readNext_164 : decode b_Arguments_readNext 164 = .ok (.iconst 0, 1) := by decide +kernel
theorem d_Arguments_readNext_165 : decode b_Arguments_readNext 165 = .ok (.ireturn, 1) := by decide +kernel
theorem d_Arguments_readNext_166 : decode b_Arguments_readNext 166 = .ok (.iinc 5 1, 3) := by decide +kernel
theorem d_Arguments_readNext_169 : decode b_Arguments_readNext 169 = .ok (.goto (-114), 3) := by decide +kernel
theorem d_Arguments_readNext_172 : decode b_Arguments_readNext 172 = .ok (.iconst 1, 1) := by decide +kernel
theorem d_Arguments_readNext_173 : decode b_Arguments_readNext 173 = .ok (.ireturn, 1) := by decide +kernel
