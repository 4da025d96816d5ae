theorem d_Spelling_init_0 : decode b_Spelling_init 0 = .ok (.aload_n 0, 1) := by decide +kernel
theorem d_Spelling_init_1 : decode b_Spelling_init 1 = .ok (.invokespecial 3, 3) := by decide +kernel
theorem d_Spelling_init_4 : decode b_Spelling_init 4 = .ok (.aload_n 0, 1) := by decide +kernel
theorem d_Spelling_init_5 : decode b_Spelling_init 5 = .ok (.sipush 800, 3) := by decide +kernel
theorem d_Spelling_init_8 : decode b_Spelling_init 8 = .ok (.newarray .int, 2) := by decide +kernel
theorem d_Spelling_init_10 : decode b_Spelling_init 10 = .ok (.putfield 9, 3) := by decide +kernel
theorem d_Spelling_init_13 : decode b_Spelling_init 13 = .ok (.aload_n 0, 1) := by decide +kernel
theorem d_Spelling_init_14 : decode b_Spelling_init 14 = .ok (.bipush 100, 2) := by decide +kernel
theorem d_Spelling_init_16 : decode b_Spelling_init 16 = .ok (.newarray .int, 2) := by decide +kernel
theorem d_Spelling_init_18 : decode b_Spelling_init 18 = .ok (.putfield 15, 3) := by decide +kernel
theorem d_Spelling_init_21 : decode b_Spelling_init 21 = .ok (.aload_n 0, 1) := by decide +kernel
theorem d_Spelling_init_22 : decode b_Spelling_init 22 = .ok (.iconst 0, 1) := by decide +kernel
theorem d_Spelling_init_23 : decode b_Spelling_init 23 = .ok (.putfield 18, 3) := by decide +kernel
theorem d_Spelling_init_26 : decode b_Spelling_init 26 = .ok (.return_, 1) := by decide +kernel
theorem d_Input_init_0 : decode b_Input_init 0 = .ok (.aload_n 0, 1) := by decide +kernel
theorem d_Input_init_1 : decode b_Input_init 1 = .ok (.invokespecial 3, 3) := by decide +kernel
theorem d_Input_init_4 : decode b_Input_init 4 = .ok (.aload_n 0, 1) := by decide +kernel
theorem d_Input_init_5 : decode b_Input_init 5 = .ok (.sipush 3000, 3) := by decide +kernel
theorem d_Input_init_8 : decode b_Input_init 8 = .ok (.newarray .int, 2) := by decide +kernel
theorem d_Input_init_10 : decode b_Input_init 10 = .ok (.putfield 9, 3) := by decide +kernel
theorem d_Input_init_13 : decode b_Input_init 13 = .ok (.aload_n 0, 1) := by decide +kernel
theorem d_Input_init_14 : decode b_Input_init 14 = .ok (.iconst 0, 1) := by decide +kernel
theorem d_Input_init_15 : decode b_Input_init 15 = .ok (.putfield 15, 3) := by decide +kernel
theorem d_Input_init_18 : decode b_Input_init 18 = .ok (.return_, 1) := by decide +kernel
theorem d_Trace_init_0 : decode b_Trace_init 0 = .ok (.aload_n 0, 1) := by decide +kernel
theorem d_Trace_init_1 : decode b_Trace_init 1 = .ok (.invokespecial 3, 3) := by decide +kernel
theorem d_Trace_init_4 : decode b_Trace_init 4 = .ok (.aload_n 0, 1) := by decide +kernel
theorem d_Trace_init_5 : decode b_Trace_init 5 = .ok (.bipush 100, 2) := by decide +kernel
theorem d_Trace_init_7 : decode b_Trace_init 7 = .ok (.newarray .int, 2) := by decide +kernel
theorem d_Trace_init_9 : decode b_Trace_init 9 = .ok (.putfield 9, 3) := by decide +kernel
theorem d_Trace_init_12 : decode b_Trace_init 12 = .ok (.aload_n 0, 1) := by decide +kernel
theorem d_Trace_init_13 : decode b_Trace_init 13 = .ok (.bipush 100, 2) := by decide +kernel
theorem d_Trace_init_15 : decode b_Trace_init 15 = .ok (.newarray .int, 2) := by decide +kernel
theorem d_Trace_init_17 : decode b_Trace_init 17 = .ok (.putfield 15, 3) := by decide +kernel
theorem d_Trace_init_20 : decode b_Trace_init 20 = .ok (.aload_n 0, 1) := by decide +kernel
theorem d_Trace_init_21 : decode b_Trace_init 21 = .ok (.bipush 100, 2) := by decide +kernel
theorem d_Trace_init_23 : decode b_Trace_init 23 = .ok (.newarray .int, 2) := by decide +kernel
theorem d_Trace_init_25 : decode b_Trace_init 25 = .ok (.putfield 18, 3) := by decide +kernel
theorem d_Trace_init_28 : decode b_Trace_init 28 = .ok (.aload_n 0, 1) := by decide +kernel
theorem d_Trace_init_29 : decode b_Trace_init 29 = .ok (.iconst 0, 1) := by decide +kernel
theorem d_Trace_init_30 : decode b_Trace_init 30 = .ok (.putfield 21, 3) := by decide +kernel
theorem d_Trace_init_33 : decode b_Trace_init 33 = .ok (.return_, 1) := by decide +kernel
theorem d_Row_init_0 : decode b_Row_init 0 = .ok (.aload_n 0, 1) := by decide +kernel
theorem d_Row_init_1 : decode b_Row_init 1 = .ok (.invokespecial 3, 3) := by decide +kernel
theorem d_Row_init_4 : decode b_Row_init 4 = .ok (.aload_n 0, 1) := by decide +kernel
theorem d_Row_init_5 : decode b_Row_init 5 = .ok (.iload_n 1, 1) := by decide +kernel
theorem d_Row_init_6 : decode b_Row_init 6 = .ok (.putfield 9, 3) := by decide +kernel
theorem d_Row_init_9 : decode b_Row_init 9 = .ok (.aload_n 0, 1) := by decide +kernel
theorem d_Row_init_10 : decode b_Row_init 10 = .ok (.iconst 0, 1) := by decide +kernel
theorem d_Row_init_11 : decode b_Row_init 11 = .ok (.newarray .int, 2) := by decide +kernel
theorem d_Row_init_13 : decode b_Row_init 13 = .ok (.putfield 15, 3) := by decide +kernel
theorem d_Row_init_16 : decode b_Row_init 16 = .ok (.aload_n 0, 1) := by decide +kernel
theorem d_Row_init_17 : decode b_Row_init 17 = .ok (.iconst 0, 1) := by decide +kernel
theorem d_Row_init_18 : decode b_Row_init 18 = .ok (.putfield 19, 3) := by decide +kernel
theorem d_Row_init_21 : decode b_Row_init 21 = .ok (.return_, 1) := by decide +kernel
theorem d_Arguments_init_0 : decode b_Arguments_init 0 = .ok (.aload_n 0, 1) := by decide +kernel
theorem d_Arguments_init_1 : decode b_Arguments_init 1 = .ok (.invokespecial 3, 3) := by decide +kernel
theorem d_Arguments_init_4 : decode b_Arguments_init 4 = .ok (.aload_n 0, 1) := by decide +kernel
theorem d_Arguments_init_5 : decode b_Arguments_init 5 = .ok (.aload_n 1, 1) := by decide +kernel
theorem d_Arguments_init_6 : decode b_Arguments_init 6 = .ok (.putfield 9, 3) := by decide +kernel
theorem d_Arguments_init_9 : decode b_Arguments_init 9 = .ok (.aload_n 0, 1) := by decide +kernel
theorem d_Arguments_init_10 : decode b_Arguments_init 10 = .ok (.aload_n 2, 1) := by decide +kernel
theorem d_Arguments_init_11 : decode b_Arguments_init 11 = .ok (.putfield 15, 3) := by decide +kernel
theorem d_Arguments_init_14 : decode b_Arguments_init 14 = .ok (.aload_n 0, 1) := by decide +kernel
theorem d_Arguments_init_15 : decode b_Arguments_init 15 = .ok (.bipush 9, 2) := by decide +kernel
theorem d_Arguments_init_17 : decode b_Arguments_init 17 = .ok (.anewarray 19, 3) := by decide +kernel
theorem d_Arguments_init_20 : decode b_Arguments_init 20 = .ok (.putfield 21, 3) := by decide +kernel
theorem d_Arguments_init_23 : decode b_Arguments_init 23 = .ok (.iconst 0, 1) := by decide +kernel
theorem d_Arguments_init_24 : decode b_Arguments_init 24 = .ok (.istore_n 3, 1) := by decide +kernel
theorem d_Arguments_init_25 : decode b_Arguments_init 25 = .ok (.iload_n 3, 1) := by decide +kernel
theorem d_Arguments_init_26 : decode b_Arguments_init 26 = .ok (.aload_n 0, 1) := by decide +kernel
theorem d_Arguments_init_27 : decode b_Arguments_init 27 = .ok (.getfield 21, 3) := by decide +kernel
theorem d_Arguments_init_30 : decode b_Arguments_init 30 = .ok (.arraylength, 1) := by decide +kernel
theorem d_Arguments_init_31 : decode b_Arguments_init 31 = .ok (.if_icmp .ge 25, 3) := by decide +kernel
theorem d_Arguments_init_34 : decode b_Arguments_init 34 = .ok (.aload_n 0, 1) := by decide +kernel
theorem d_Arguments_init_35 : decode b_Arguments_init 35 = .ok (.getfield 21, 3) := by decide +kernel
theorem d_Arguments_init_38 : decode b_Arguments_init 38 = .ok (.iload_n 3, 1) := by decide +kernel
theorem d_Arguments_init_39 : decode b_Arguments_init 39 = .ok (.new 19, 3) := by decide +kernel
theorem d_Arguments_init_42 : decode b_Arguments_init 42 = .ok (.dup, 1) := by decide +kernel
theorem d_Arguments_init_43 : decode b_Arguments_init 43 = .ok (.sipush 400, 3) := by decide +kernel
theorem d_Arguments_init_46 : decode b_Arguments_init 46 = .ok (.invokespecial 25, 3) := by decide +kernel
theorem d_Arguments_init_49 : decode b_Arguments_init 49 = .ok (.aastore, 1) := by decide +kernel
theorem d_Arguments_init_50 : decode b_Arguments_init 50 = .ok (.iinc 3 1, 3) := by decide +kernel
theorem d_Arguments_init_53 : decode b_Arguments_init 53 = .ok (.goto (-28), 3) := by decide +kernel
theorem d_Arguments_init_56 : decode b_Arguments_init 56 = .ok (.return_, 1) := by decide +kernel
theorem d_Expander_init_0 : decode b_Expander_init 0 = .ok (.aload_n 0, 1) := by decide +kernel
theorem d_Expander_init_1 : decode b_Expander_init 1 = .ok (.invokespecial 3, 3) := by decide +kernel
theorem d_Expander_init_4 : decode b_Expander_init 4 = .ok (.aload_n 0, 1) := by decide +kernel
theorem d_Expander_init_5 : decode b_Expander_init 5 = .ok (.iload_n 1, 1) := by decide +kernel
theorem d_Expander_init_6 : decode b_Expander_init 6 = .ok (.putfield 9, 3) := by decide +kernel
theorem d_Expander_init_9 : decode b_Expander_init 9 = .ok (.aload_n 0, 1) := by decide +kernel
theorem d_Expander_init_10 : decode b_Expander_init 10 = .ok (.aload_n 2, 1) := by decide +kernel
theorem d_Expander_init_11 : decode b_Expander_init 11 = .ok (.putfield 15, 3) := by decide +kernel
theorem d_Expander_init_14 : decode b_Expander_init 14 = .ok (.aload_n 0, 1) := by decide +kernel
theorem d_Expander_init_15 : decode b_Expander_init 15 = .ok (.aload_n 3, 1) := by decide +kernel
theorem d_Expander_init_16 : decode b_Expander_init 16 = .ok (.putfield 19, 3) := by decide +kernel
theorem d_Expander_init_19 : decode b_Expander_init 19 = .ok (.aload_n 0, 1) := by decide +kernel
theorem d_Expander_init_20 : decode b_Expander_init 20 = .ok (.aload 4, 2) := by decide +kernel
theorem d_Expander_init_22 : decode b_Expander_init 22 = .ok (.putfield 23, 3) := by decide +kernel
theorem d_Expander_init_25 : decode b_Expander_init 25 = .ok (.aload_n 0, 1) := by decide +kernel
theorem d_Expander_init_26 : decode b_Expander_init 26 = .ok (.new 27, 3) := by decide +kernel
theorem d_Expander_init_29 : decode b_Expander_init 29 = .ok (.dup, 1) := by decide +kernel
theorem d_Expander_init_30 : decode b_Expander_init 30 = .ok (.invokespecial 29, 3) := by decide +kernel
theorem d_Expander_init_33 : decode b_Expander_init 33 = .ok (.putfield 30, 3) := by decide +kernel
theorem d_Expander_init_36 : decode b_Expander_init 36 = .ok (.aload_n 0, 1) := by decide +kernel
theorem d_Expander_init_37 : decode b_Expander_init 37 = .ok (.new 34, 3) := by decide +kernel
theorem d_Expander_init_40 : decode b_Expander_init 40 = .ok (.dup, 1) := by decide +kernel
theorem d_Expander_init_41 : decode b_Expander_init 41 = .ok (.aload_n 2, 1) := by decide +kernel
theorem d_Expander_init_42 : decode b_Expander_init 42 = .ok (.aload_n 3, 1) := by decide +kernel
theorem d_Expander_init_43 : decode b_Expander_init 43 = .ok (.invokespecial 36, 3) := by decide +kernel
theorem d_Expander_init_46 : decode b_Expander_init 46 = .ok (.putfield 39, 3) := by decide +kernel
theorem d_Expander_init_49 : decode b_Expander_init 49 = .ok (.aload_n 0, 1) := by decide +kernel
theorem d_Expander_init_50 : decode b_Expander_init 50 = .ok (.bipush 50, 2) := by decide +kernel
theorem d_Expander_init_52 : decode b_Expander_init 52 = .ok (.newarray .int, 2) := by decide +kernel
theorem d_Expander_init_54 : decode b_Expander_init 54 = .ok (.putfield 43, 3) := by decide +kernel
theorem d_Expander_init_57 : decode b_Expander_init 57 = .ok (.aload_n 0, 1) := by decide +kernel
theorem d_Expander_init_58 : decode b_Expander_init 58 = .ok (.sipush 400, 3) := by decide +kernel
theorem d_Expander_init_61 : decode b_Expander_init 61 = .ok (.newarray .int, 2) := by decide +kernel
theorem d_Expander_init_63 : decode b_Expander_init 63 = .ok (.putfield 47, 3) := by decide +kernel
theorem d_Expander_init_66 : decode b_Expander_init 66 = .ok (.aload_n 0, 1) := by decide +kernel
theorem d_Expander_init_67 : decode b_Expander_init 67 = .ok (.bipush 50, 2) := by decide +kernel
theorem d_Expander_init_69 : decode b_Expander_init 69 = .ok (.newarray .int, 2) := by decide +kernel
theorem d_Expander_init_71 : decode b_Expander_init 71 = .ok (.putfield 50, 3) := by decide +kernel
theorem d_Expander_init_74 : decode b_Expander_init 74 = .ok (.return_, 1) := by decide +kernel
theorem d_Definition_init_0 : decode b_Definition_init 0 = .ok (.aload_n 0, 1) := by decide +kernel
theorem d_Definition_init_1 : decode b_Definition_init 1 = .ok (.invokespecial 3, 3) := by decide +kernel
theorem d_Definition_init_4 : decode b_Definition_init 4 = .ok (.aload_n 0, 1) := by decide +kernel
theorem d_Definition_init_5 : decode b_Definition_init 5 = .ok (.bipush 10, 2) := by decide +kernel
theorem d_Definition_init_7 : decode b_Definition_init 7 = .ok (.anewarray 9, 3) := by decide +kernel
theorem d_Definition_init_10 : decode b_Definition_init 10 = .ok (.putfield 11, 3) := by decide +kernel
theorem d_Definition_init_13 : decode b_Definition_init 13 = .ok (.iconst 0, 1) := by decide +kernel
theorem d_Definition_init_14 : decode b_Definition_init 14 = .ok (.istore_n 1, 1) := by decide +kernel
theorem d_Definition_init_15 : decode b_Definition_init 15 = .ok (.iload_n 1, 1) := by decide +kernel
theorem d_Definition_init_16 : decode b_Definition_init 16 = .ok (.aload_n 0, 1) := by decide +kernel
theorem d_Definition_init_17 : decode b_Definition_init 17 = .ok (.getfield 11, 3) := by decide +kernel
theorem d_Definition_init_20 : decode b_Definition_init 20 = .ok (.arraylength, 1) := by decide +kernel
theorem d_Definition_init_21 : decode b_Definition_init 21 = .ok (.if_icmp .ge 25, 3) := by decide +kernel
theorem d_Definition_init_24 : decode b_Definition_init 24 = .ok (.aload_n 0, 1) := by decide +kernel
theorem d_Definition_init_25 : decode b_Definition_init 25 = .ok (.getfield 11, 3) := by decide +kernel
theorem d_Definition_init_28 : decode b_Definition_init 28 = .ok (.iload_n 1, 1) := by decide +kernel
theorem d_Definition_init_29 : decode b_Definition_init 29 = .ok (.new 9, 3) := by decide +kernel
theorem d_Definition_init_32 : decode b_Definition_init 32 = .ok (.dup, 1) := by decide +kernel
theorem d_Definition_init_33 : decode b_Definition_init 33 = .ok (.sipush 200, 3) := by decide +kernel
theorem d_Definition_init_36 : decode b_Definition_init 36 = .ok (.invokespecial 17, 3) := by decide +kernel
theorem d_Definition_init_39 : decode b_Definition_init 39 = .ok (.aastore, 1) := by decide +kernel
theorem d_Definition_init_40 : decode b_Definition_init 40 = .ok (.iinc 1 1, 3) := by decide +kernel
theorem d_Definition_init_43 : decode b_Definition_init 43 = .ok (.goto (-28), 3) := by decide +kernel
theorem d_Definition_init_46 : decode b_Definition_init 46 = .ok (.aload_n 0, 1) := by decide +kernel
theorem d_Definition_init_47 : decode b_Definition_init 47 = .ok (.new 9, 3) := by decide +kernel
theorem d_Definition_init_50 : decode b_Definition_init 50 = .ok (.dup, 1) := by decide +kernel
theorem d_Definition_init_51 : decode b_Definition_init 51 = .ok (.sipush 200, 3) := by decide +kernel
theorem d_Definition_init_54 : decode b_Definition_init 54 = .ok (.invokespecial 17, 3) := by decide +kernel
theorem d_Definition_init_57 : decode b_Definition_init 57 = .ok (.putfield 20, 3) := by decide +kernel
theorem d_Definition_init_60 : decode b_Definition_init 60 = .ok (.aload_n 0, 1) := by decide +kernel
theorem d_Definition_init_61 : decode b_Definition_init 61 = .ok (.iconst 0, 1) := by decide +kernel
theorem d_Definition_init_62 : decode b_Definition_init 62 = .ok (.putfield 24, 3) := by decide +kernel
theorem d_Definition_init_65 : decode b_Definition_init 65 = .ok (.return_, 1) := by decide +kernel
theorem d_Whole_init_0 : decode b_Whole_init 0 = .ok (.aload_n 0, 1) := by decide +kernel
theorem d_Whole_init_1 : decode b_Whole_init 1 = .ok (.invokespecial 3, 3) := by decide +kernel
theorem d_Whole_init_4 : decode b_Whole_init 4 = .ok (.aload_n 0, 1) := by decide +kernel
theorem d_Whole_init_5 : decode b_Whole_init 5 = .ok (.aload_n 1, 1) := by decide +kernel
theorem d_Whole_init_6 : decode b_Whole_init 6 = .ok (.putfield 9, 3) := by decide +kernel
theorem d_Whole_init_9 : decode b_Whole_init 9 = .ok (.aload_n 0, 1) := by decide +kernel
theorem d_Whole_init_10 : decode b_Whole_init 10 = .ok (.aload_n 2, 1) := by decide +kernel
theorem d_Whole_init_11 : decode b_Whole_init 11 = .ok (.putfield 15, 3) := by decide +kernel
theorem d_Whole_init_14 : decode b_Whole_init 14 = .ok (.aload_n 0, 1) := by decide +kernel
theorem d_Whole_init_15 : decode b_Whole_init 15 = .ok (.aload_n 3, 1) := by decide +kernel
theorem d_Whole_init_16 : decode b_Whole_init 16 = .ok (.putfield 19, 3) := by decide +kernel
theorem d_Whole_init_19 : decode b_Whole_init 19 = .ok (.aload_n 0, 1) := by decide +kernel
theorem d_Whole_init_20 : decode b_Whole_init 20 = .ok (.new 23, 3) := by decide +kernel
theorem d_Whole_init_23 : decode b_Whole_init 23 = .ok (.dup, 1) := by decide +kernel
theorem d_Whole_init_24 : decode b_Whole_init 24 = .ok (.invokespecial 25, 3) := by decide +kernel
theorem d_Whole_init_27 : decode b_Whole_init 27 = .ok (.putfield 26, 3) := by decide +kernel
theorem d_Whole_init_30 : decode b_Whole_init 30 = .ok (.aload_n 0, 1) := by decide +kernel
theorem d_Whole_init_31 : decode b_Whole_init 31 = .ok (.new 30, 3) := by decide +kernel
theorem d_Whole_init_34 : decode b_Whole_init 34 = .ok (.dup, 1) := by decide +kernel
theorem d_Whole_init_35 : decode b_Whole_init 35 = .ok (.sipush 3000, 3) := by decide +kernel
theorem d_Whole_init_38 : decode b_Whole_init 38 = .ok (.invokespecial 32, 3) := by decide +kernel
theorem d_Whole_init_41 : decode b_Whole_init 41 = .ok (.putfield 35, 3) := by decide +kernel
theorem d_Whole_init_44 : decode b_Whole_init 44 = .ok (.aload_n 0, 1) := by decide +kernel
theorem d_Whole_init_45 : decode b_Whole_init 45 = .ok (.iconst 0, 1) := by decide +kernel
theorem d_Whole_init_46 : decode b_Whole_init 46 = .ok (.putfield 39, 3) := by decide +kernel
theorem d_Whole_init_49 : decode b_Whole_init 49 = .ok (.aload_n 0, 1) := by decide +kernel
theorem d_Whole_init_50 : decode b_Whole_init 50 = .ok (.iconst (-1), 1) := by decide +kernel
theorem d_Whole_init_51 : decode b_Whole_init 51 = .ok (.putfield 43, 3) := by decide +kernel
theorem d_Whole_init_54 : decode b_Whole_init 54 = .ok (.return_, 1) := by decide +kernel
theorem d_MacroExpand_init_0 : decode b_MacroExpand_init 0 = .ok (.aload_n 0, 1) := by decide +kernel
theorem d_MacroExpand_init_1 : decode b_MacroExpand_init 1 = .ok (.invokespecial 1, 3) := by decide +kernel
theorem d_MacroExpand_init_4 : decode b_MacroExpand_init 4 = .ok (.lconst 1, 1) := by decide +kernel
theorem d_MacroExpand_init_5 : decode b_MacroExpand_init 5 = .ok (.ldc2_w 9, 3) := by decide +kernel
theorem d_MacroExpand_init_8 : decode b_MacroExpand_init 8 = .ok (.lload_n 1, 1) := by decide +kernel
theorem d_MacroExpand_init_9 : decode b_MacroExpand_init 9 = .ok (.invokestatic 11, 3) := by decide +kernel
theorem d_MacroExpand_init_12 : decode b_MacroExpand_init 12 = .ok (.invokestatic 17, 3) := by decide +kernel
theorem d_MacroExpand_init_15 : decode b_MacroExpand_init 15 = .ok (.l2i, 1) := by decide +kernel
theorem d_MacroExpand_init_16 : decode b_MacroExpand_init 16 = .ok (.istore_n 3, 1) := by decide +kernel
theorem d_MacroExpand_init_17 : decode b_MacroExpand_init 17 = .ok (.aload_n 0, 1) := by decide +kernel
theorem d_MacroExpand_init_18 : decode b_MacroExpand_init 18 = .ok (.new 20, 3) := by decide +kernel
theorem d_MacroExpand_init_21 : decode b_MacroExpand_init 21 = .ok (.dup, 1) := by decide +kernel
theorem d_MacroExpand_init_22 : decode b_MacroExpand_init 22 = .ok (.invokespecial 22, 3) := by decide +kernel
theorem d_MacroExpand_init_25 : decode b_MacroExpand_init 25 = .ok (.putfield 23, 3) := by decide +kernel
theorem d_MacroExpand_init_28 : decode b_MacroExpand_init 28 = .ok (.aload_n 0, 1) := by decide +kernel
theorem d_MacroExpand_init_29 : decode b_MacroExpand_init 29 = .ok (.new 27, 3) := by decide +kernel
theorem d_MacroExpand_init_32 : decode b_MacroExpand_init 32 = .ok (.dup, 1) := by decide +kernel
theorem d_MacroExpand_init_33 : decode b_MacroExpand_init 33 = .ok (.invokespecial 29, 3) := by decide +kernel
theorem d_MacroExpand_init_36 : decode b_MacroExpand_init 36 = .ok (.putfield 30, 3) := by decide +kernel
theorem d_MacroExpand_init_39 : decode b_MacroExpand_init 39 = .ok (.aload_n 0, 1) := by decide +kernel
theorem d_MacroExpand_init_40 : decode b_MacroExpand_init 40 = .ok (.new 34, 3) := by decide +kernel
theorem d_MacroExpand_init_43 : decode b_MacroExpand_init 43 = .ok (.dup, 1) := by decide +kernel
theorem d_MacroExpand_init_44 : decode b_MacroExpand_init 44 = .ok (.invokespecial 36, 3) := by decide +kernel
theorem d_MacroExpand_init_47 : decode b_MacroExpand_init 47 = .ok (.putfield 37, 3) := by decide +kernel
theorem d_MacroExpand_init_50 : decode b_MacroExpand_init 50 = .ok (.aload_n 0, 1) := by decide +kernel
theorem d_MacroExpand_init_51 : decode b_MacroExpand_init 51 = .ok (.new 41, 3) := by decide +kernel
theorem d_MacroExpand_init_54 : decode b_MacroExpand_init 54 = .ok (.dup, 1) := by decide +kernel
theorem d_MacroExpand_init_55 : decode b_MacroExpand_init 55 = .ok (.iload_n 3, 1) := by decide +kernel
theorem d_MacroExpand_init_56 : decode b_MacroExpand_init 56 = .ok (.aload_n 0, 1) := by decide +kernel
theorem d_MacroExpand_init_57 : decode b_MacroExpand_init 57 = .ok (.getfield 37, 3) := by decide +kernel
theorem d_MacroExpand_init_60 : decode b_MacroExpand_init 60 = .ok (.aload_n 0, 1) := by decide +kernel
theorem d_MacroExpand_init_61 : decode b_MacroExpand_init 61 = .ok (.getfield 23, 3) := by decide +kernel
theorem d_MacroExpand_init_64 : decode b_MacroExpand_init 64 = .ok (.aload_n 0, 1) := by decide +kernel
theorem d_MacroExpand_init_65 : decode b_MacroExpand_init 65 = .ok (.getfield 30, 3) := by decide +kernel
theorem d_MacroExpand_init_68 : decode b_MacroExpand_init 68 = .ok (.invokespecial 43, 3) := by decide +kernel
theorem d_MacroExpand_init_71 : decode b_MacroExpand_init 71 = .ok (.putfield 46, 3) := by decide +kernel
theorem d_MacroExpand_init_74 : decode b_MacroExpand_init 74 = .ok (.aload_n 0, 1) := by decide +kernel
theorem d_MacroExpand_init_75 : decode b_MacroExpand_init 75 = .ok (.new 50, 3) := by decide +kernel
theorem d_MacroExpand_init_78 : decode b_MacroExpand_init 78 = .ok (.dup, 1) := by decide +kernel
theorem d_MacroExpand_init_79 : decode b_MacroExpand_init 79 = .ok (.aload_n 0, 1) := by decide +kernel
theorem d_MacroExpand_init_80 : decode b_MacroExpand_init 80 = .ok (.getfield 37, 3) := by decide +kernel
theorem d_MacroExpand_init_83 : decode b_MacroExpand_init 83 = .ok (.aload_n 0, 1) := by decide +kernel
theorem d_MacroExpand_init_84 : decode b_MacroExpand_init 84 = .ok (.getfield 23, 3) := by decide +kernel
theorem d_MacroExpand_init_87 : decode b_MacroExpand_init 87 = .ok (.aload_n 0, 1) := by decide +kernel
theorem d_MacroExpand_init_88 : decode b_MacroExpand_init 88 = .ok (.getfield 46, 3) := by decide +kernel
theorem d_MacroExpand_init_91 : decode b_MacroExpand_init 91 = .ok (.invokespecial 52, 3) := by decide +kernel
theorem d_MacroExpand_init_94 : decode b_MacroExpand_init 94 = .ok (.putfield 55, 3) := by decide +kernel
theorem d_MacroExpand_init_97 : decode b_MacroExpand_init 97 = .ok (.aload_n 0, 1) := by decide +kernel
theorem d_MacroExpand_init_98 : decode b_MacroExpand_init 98 = .ok (.iconst 0, 1) := by decide +kernel
theorem d_MacroExpand_init_99 : decode b_MacroExpand_init 99 = .ok (.putfield 59, 3) := by decide +kernel
theorem d_MacroExpand_init_102 : decode b_MacroExpand_init 102 = .ok (.aload_n 0, 1) := by decide +kernel
theorem d_MacroExpand_init_103 : decode b_MacroExpand_init 103 = .ok (.iconst 0, 1) := by decide +kernel
theorem d_MacroExpand_init_104 : decode b_MacroExpand_init 104 = .ok (.putfield 63, 3) := by decide +kernel
theorem d_MacroExpand_init_107 : decode b_MacroExpand_init 107 = .ok (.return_, 1) := by decide +kernel
theorem d_Book_isFull_0 : decode b_Book_isFull 0 = .ok (.aload_n 0, 1) := by decide +kernel
theorem d_Book_isFull_1 : decode b_Book_isFull 1 = .ok (.getfield 32, 3) := by decide +kernel
theorem d_Book_isFull_4 : decode b_Book_isFull 4 = .ok (.bipush 100, 2) := by decide +kernel
theorem d_Book_isFull_6 : decode b_Book_isFull 6 = .ok (.if_icmp .lt 7, 3) := by decide +kernel
theorem d_Book_isFull_9 : decode b_Book_isFull 9 = .ok (.iconst 1, 1) := by decide +kernel
theorem d_Book_isFull_10 : decode b_Book_isFull 10 = .ok (.goto 4, 3) := by decide +kernel
theorem d_Book_isFull_13 : decode b_Book_isFull 13 = .ok (.iconst 0, 1) := by decide +kernel
theorem d_Book_isFull_14 : decode b_Book_isFull 14 = .ok (.ireturn, 1) := by decide +kernel
theorem d_Macro_init_0 : decode b_Macro_init 0 = .ok (.aload_n 0, 1) := by decide +kernel
theorem d_Macro_init_1 : decode b_Macro_init 1 = .ok (.invokespecial 3, 3) := by decide +kernel
theorem d_Macro_init_4 : decode b_Macro_init 4 = .ok (.aload_n 0, 1) := by decide +kernel
theorem d_Macro_init_5 : decode b_Macro_init 5 = .ok (.iconst 0, 1) := by decide +kernel
theorem d_Macro_init_6 : decode b_Macro_init 6 = .ok (.bipush 9, 2) := by decide +kernel
theorem d_Macro_init_8 : decode b_Macro_init 8 = .ok (.iload_n 1, 1) := by decide +kernel
theorem d_Macro_init_9 : decode b_Macro_init 9 = .ok (.invokestatic 9, 3) := by decide +kernel
theorem d_Macro_init_12 : decode b_Macro_init 12 = .ok (.invokestatic 15, 3) := by decide +kernel
theorem d_Macro_init_15 : decode b_Macro_init 15 = .ok (.putfield 18, 3) := by decide +kernel
theorem d_Macro_init_18 : decode b_Macro_init 18 = .ok (.aload_n 0, 1) := by decide +kernel
theorem d_Macro_init_19 : decode b_Macro_init 19 = .ok (.iload_n 2, 1) := by decide +kernel
theorem d_Macro_init_20 : decode b_Macro_init 20 = .ok (.iconst 1, 1) := by decide +kernel
theorem d_Macro_init_21 : decode b_Macro_init 21 = .ok (.iand, 1) := by decide +kernel
theorem d_Macro_init_22 : decode b_Macro_init 22 = .ok (.ifCond .eq 7, 3) := by decide +kernel
theorem d_Macro_init_25 : decode b_Macro_init 25 = .ok (.iconst 1, 1) := by decide +kernel
theorem d_Macro_init_26 : decode b_Macro_init 26 = .ok (.goto 4, 3) := by decide +kernel
theorem d_Macro_init_29 : decode b_Macro_init 29 = .ok (.iconst 0, 1) := by decide +kernel
theorem d_Macro_init_30 : decode b_Macro_init 30 = .ok (.putfield 24, 3) := by decide +kernel
theorem d_Macro_init_33 : decode b_Macro_init 33 = .ok (.aload_n 0, 1) := by decide +kernel
theorem d_Macro_init_34 : decode b_Macro_init 34 = .ok (.iload_n 2, 1) := by decide +kernel
theorem d_Macro_init_35 : decode b_Macro_init 35 = .ok (.iconst 2, 1) := by decide +kernel
theorem d_Macro_init_36 : decode b_Macro_init 36 = .ok (.iand, 1) := by decide +kernel
theorem d_Macro_init_37 : decode b_Macro_init 37 = .ok (.ifCond .eq 7, 3) := by decide +kernel
theorem d_Macro_init_40 : decode b_Macro_init 40 = .ok (.iconst 1, 1) := by decide +kernel
theorem d_Macro_init_41 : decode b_Macro_init 41 = .ok (.goto 4, 3) := by decide +kernel
theorem d_Macro_init_44 : decode b_Macro_init 44 = .ok (.iconst 0, 1) := by decide +kernel
theorem d_Macro_init_45 : decode b_Macro_init 45 = .ok (.putfield 28, 3) := by decide +kernel
theorem d_Macro_init_48 : decode b_Macro_init 48 = .ok (.aload_n 0, 1) := by decide +kernel
theorem d_Macro_init_49 : decode b_Macro_init 49 = .ok (.aload_n 0, 1) := by decide +kernel
theorem d_Macro_init_50 : decode b_Macro_init 50 = .ok (.getfield 18, 3) := by decide +kernel
theorem d_Macro_init_53 : decode b_Macro_init 53 = .ok (.iconst 1, 1) := by decide +kernel
theorem d_Macro_init_54 : decode b_Macro_init 54 = .ok (.iadd, 1) := by decide +kernel
theorem d_Macro_init_55 : decode b_Macro_init 55 = .ok (.anewarray 31, 3) := by decide +kernel
theorem d_Macro_init_58 : decode b_Macro_init 58 = .ok (.putfield 33, 3) := by decide +kernel
theorem d_Macro_init_61 : decode b_Macro_init 61 = .ok (.iconst 0, 1) := by decide +kernel
theorem d_Macro_init_62 : decode b_Macro_init 62 = .ok (.istore_n 3, 1) := by decide +kernel
theorem d_Macro_init_63 : decode b_Macro_init 63 = .ok (.iload_n 3, 1) := by decide +kernel
theorem d_Macro_init_64 : decode b_Macro_init 64 = .ok (.aload_n 0, 1) := by decide +kernel
theorem d_Macro_init_65 : decode b_Macro_init 65 = .ok (.getfield 33, 3) := by decide +kernel
theorem d_Macro_init_68 : decode b_Macro_init 68 = .ok (.arraylength, 1) := by decide +kernel
theorem d_Macro_init_69 : decode b_Macro_init 69 = .ok (.if_icmp .ge 25, 3) := by decide +kernel
theorem d_Macro_init_72 : decode b_Macro_init 72 = .ok (.aload_n 0, 1) := by decide +kernel
theorem d_Macro_init_73 : decode b_Macro_init 73 = .ok (.getfield 33, 3) := by decide +kernel
theorem d_Macro_init_76 : decode b_Macro_init 76 = .ok (.iload_n 3, 1) := by decide +kernel
theorem d_Macro_init_77 : decode b_Macro_init 77 = .ok (.new 31, 3) := by decide +kernel
theorem d_Macro_init_80 : decode b_Macro_init 80 = .ok (.dup, 1) := by decide +kernel
theorem d_Macro_init_81 : decode b_Macro_init 81 = .ok (.sipush 200, 3) := by decide +kernel
theorem d_Macro_init_84 : decode b_Macro_init 84 = .ok (.invokespecial 37, 3) := by decide +kernel
theorem d_Macro_init_87 : decode b_Macro_init 87 = .ok (.aastore, 1) := by decide +kernel
theorem d_Macro_init_88 : decode b_Macro_init 88 = .ok (.iinc 3 1, 3) := by decide +kernel
theorem d_Macro_init_91 : decode b_Macro_init 91 = .ok (.goto (-28), 3) := by decide +kernel
theorem d_Macro_init_94 : decode b_Macro_init 94 = .ok (.aload_n 0, 1) := by decide +kernel
theorem d_Macro_init_95 : decode b_Macro_init 95 = .ok (.new 31, 3) := by decide +kernel
theorem d_Macro_init_98 : decode b_Macro_init 98 = .ok (.dup, 1) := by decide +kernel
theorem d_Macro_init_99 : decode b_Macro_init 99 = .ok (.sipush 200, 3) := by decide +kernel
theorem d_Macro_init_102 : decode b_Macro_init 102 = .ok (.invokespecial 37, 3) := by decide +kernel
theorem d_Macro_init_105 : decode b_Macro_init 105 = .ok (.putfield 40, 3) := by decide +kernel
theorem d_Macro_init_108 : decode b_Macro_init 108 = .ok (.return_, 1) := by decide +kernel
theorem d_Book_enter_0 : decode b_Book_enter 0 = .ok (.iload_n 1, 1) := by decide +kernel
theorem d_Book_enter_1 : decode b_Book_enter 1 = .ok (.sipush 1000, 3) := by decide +kernel
theorem d_Book_enter_4 : decode b_Book_enter 4 = .ok (.isub, 1) := by decide +kernel
theorem d_Book_enter_5 : decode b_Book_enter 5 = .ok (.istore 4, 2) := by decide +kernel
theorem d_Book_enter_7 : decode b_Book_enter 7 = .ok (.aload_n 0, 1) := by decide +kernel
theorem d_Book_enter_8 : decode b_Book_enter 8 = .ok (.invokevirtual 51, 3) := by decide +kernel
theorem d_Book_enter_11 : decode b_Book_enter 11 = .ok (.ifCond .ne 16, 3) := by decide +kernel
theorem d_Book_enter_14 : decode b_Book_enter 14 = .ok (.iload 4, 2) := by decide +kernel
theorem d_Book_enter_16 : decode b_Book_enter 16 = .ok (.ifCond .lt 11, 3) := by decide +kernel
theorem d_Book_enter_19 : decode b_Book_enter 19 = .ok (.iload 4, 2) := by decide +kernel
theorem d_Book_enter_21 : decode b_Book_enter 21 = .ok (.sipush 200, 3) := by decide +kernel
theorem d_Book_enter_24 : decode b_Book_enter 24 = .ok (.if_icmp .lt 5, 3) := by decide +kernel
theorem d_Book_enter_27 : decode b_Book_enter 27 = .ok (.iconst (-1), 1) := by decide +kernel
theorem d_Book_enter_28 : decode b_Book_enter 28 = .ok (.ireturn, 1) := by decide +kernel
theorem d_Book_enter_29 : decode b_Book_enter 29 = .ok (.aload_n 0, 1) := by decide +kernel
theorem d_Book_enter_30 : decode b_Book_enter 30 = .ok (.getfield 11, 3) := by decide +kernel
theorem d_Book_enter_33 : decode b_Book_enter 33 = .ok (.aload_n 0, 1) := by decide +kernel
theorem d_Book_enter_34 : decode b_Book_enter 34 = .ok (.getfield 32, 3) := by decide +kernel
theorem d_Book_enter_37 : decode b_Book_enter 37 = .ok (.aload_n 2, 1) := by decide +kernel
theorem d_Book_enter_38 : decode b_Book_enter 38 = .ok (.aastore, 1) := by decide +kernel
theorem d_Book_enter_39 : decode b_Book_enter 39 = .ok (.aload_n 0, 1) := by decide +kernel
theorem d_Book_enter_40 : decode b_Book_enter 40 = .ok (.getfield 17, 3) := by decide +kernel
theorem d_Book_enter_43 : decode b_Book_enter 43 = .ok (.iload 4, 2) := by decide +kernel
theorem d_Book_enter_45 : decode b_Book_enter 45 = .ok (.aload_n 0, 1) := by decide +kernel
theorem d_Book_enter_46 : decode b_Book_enter 46 = .ok (.getfield 32, 3) := by decide +kernel
theorem d_Book_enter_49 : decode b_Book_enter 49 = .ok (.iastore, 1) := by decide +kernel
theorem d_Book_enter_50 : decode b_Book_enter 50 = .ok (.iload_n 3, 1) := by decide +kernel
theorem d_Book_enter_51 : decode b_Book_enter 51 = .ok (.iconst 4, 1) := by decide +kernel
theorem d_Book_enter_52 : decode b_Book_enter 52 = .ok (.iand, 1) := by decide +kernel
theorem d_Book_enter_53 : decode b_Book_enter 53 = .ok (.ifCond .eq 35, 3) := by decide +kernel
theorem d_Book_enter_56 : decode b_Book_enter 56 = .ok (.iconst 0, 1) := by decide +kernel
theorem d_Book_enter_57 : decode b_Book_enter 57 = .ok (.istore 5, 2) := by decide +kernel
theorem d_Book_enter_59 : decode b_Book_enter 59 = .ok (.iload 5, 2) := by decide +kernel
theorem d_Book_enter_61 : decode b_Book_enter 61 = .ok (.aload_n 0, 1) := by decide +kernel
theorem d_Book_enter_62 : decode b_Book_enter 62 = .ok (.getfield 36, 3) := by decide +kernel
theorem d_Book_enter_65 : decode b_Book_enter 65 = .ok (.if_icmp .ge 23, 3) := by decide +kernel
theorem d_Book_enter_68 : decode b_Book_enter 68 = .ok (.aload_n 0, 1) := by decide +kernel
theorem d_Book_enter_69 : decode b_Book_enter 69 = .ok (.getfield 29, 3) := by decide +kernel
theorem d_Book_enter_72 : decode b_Book_enter 72 = .ok (.iload 5, 2) := by decide +kernel
theorem d_Book_enter_74 : decode b_Book_enter 74 = .ok (.aaload, 1) := by decide +kernel
theorem d_Book_enter_75 : decode b_Book_enter 75 = .ok (.iload 4, 2) := by decide +kernel
theorem d_Book_enter_77 : decode b_Book_enter 77 = .ok (.aload_n 0, 1) := by decide +kernel
theorem d_Book_enter_78 : decode b_Book_enter 78 = .ok (.getfield 32, 3) := by decide +kernel
theorem d_Book_enter_81 : decode b_Book_enter 81 = .ok (.iastore, 1) := by decide +kernel
theorem d_Book_enter_82 : decode b_Book_enter 82 = .ok (.iinc 5 1, 3) := by decide +kernel
theorem d_Book_enter_85 : decode b_Book_enter 85 = .ok (.goto (-26), 3) := by decide +kernel
theorem d_Book_enter_88 : decode b_Book_enter 88 = .ok (.aload_n 0, 1) := by decide +kernel
theorem d_Book_enter_89 : decode b_Book_enter 89 = .ok (.dup, 1) := by decide +kernel
theorem d_Book_enter_90 : decode b_Book_enter 90 = .ok (.getfield 32, 3) := by decide +kernel
theorem d_Book_enter_93 : decode b_Book_enter 93 = .ok (.iconst 1, 1) := by decide +kernel
theorem d_Book_enter_94 : decode b_Book_enter 94 = .ok (.iadd, 1) := by decide +kernel
theorem d_Book_enter_95 : decode b_Book_enter 95 = .ok (.putfield 32, 3) := by decide +kernel
theorem d_Book_enter_98 : decode b_Book_enter 98 = .ok (.aload_n 0, 1) := by decide +kernel
theorem d_Book_enter_99 : decode b_Book_enter 99 = .ok (.getfield 32, 3) := by decide +kernel
theorem d_Book_enter_102 : decode b_Book_enter 102 = .ok (.iconst 1, 1) := by decide +kernel
theorem d_Book_enter_103 : decode b_Book_enter 103 = .ok (.isub, 1) := by decide +kernel
theorem d_Book_enter_104 : decode b_Book_enter 104 = .ok (.ireturn, 1) := by decide +kernel
