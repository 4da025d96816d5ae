theorem d_Book_closeGroup_0 : decode b_Book_closeGroup 0 = .ok (.aload_n 0, 1) := by decide +kernel
theorem d_Book_closeGroup_1 : decode b_Book_closeGroup 1 = .ok (.getfield 36, 3) := by decide +kernel
theorem d_Book_closeGroup_4 : decode b_Book_closeGroup 4 = .ok (.ifCond .gt 5, 3) := by decide +kernel
theorem d_Book_closeGroup_7 : decode b_Book_closeGroup 7 = .ok (.iconst 0, 1) := by decide +kernel
theorem d_Book_closeGroup_8 : decode b_Book_closeGroup 8 = .ok (.ireturn, 1) := by decide +kernel
theorem d_Book_closeGroup_9 : decode b_Book_closeGroup 9 = .ok (.aload_n 0, 1) := by decide +kernel
theorem d_Book_closeGroup_10 : decode b_Book_closeGroup 10 = .ok (.dup, 1) := by decide +kernel
theorem d_Book_closeGroup_11 : decode b_Book_closeGroup 11 = .ok (.getfield 36, 3) := by decide +kernel
theorem d_Book_closeGroup_14 : decode b_Book_closeGroup 14 = .ok (.iconst 1, 1) := by decide +kernel
theorem d_Book_closeGroup_15 : decode b_Book_closeGroup 15 = .ok (.isub, 1) := by decide +kernel
theorem d_Book_closeGroup_16 : decode b_Book_closeGroup 16 = .ok (.putfield 36, 3) := by decide +kernel
theorem d_Book_closeGroup_19 : decode b_Book_closeGroup 19 = .ok (.aload_n 0, 1) := by decide +kernel
theorem d_Book_closeGroup_20 : decode b_Book_closeGroup 20 = .ok (.getfield 29, 3) := by decide +kernel
theorem d_Book_closeGroup_23 : decode b_Book_closeGroup 23 = .ok (.aload_n 0, 1) := by decide +kernel
theorem d_Book_closeGroup_24 : decode b_Book_closeGroup 24 = .ok (.getfield 36, 3) := by decide +kernel
theorem d_Book_closeGroup_27 : decode b_Book_closeGroup 27 = .ok (.aaload, 1) := by decide +kernel
theorem d_Book_closeGroup_28 : decode b_Book_closeGroup 28 = .ok (.iconst 0, 1) := by decide +kernel
theorem d_Book_closeGroup_29 : decode b_Book_closeGroup 29 = .ok (.aload_n 0, 1) := by decide +kernel
theorem d_Book_closeGroup_30 : decode b_Book_closeGroup 30 = .ok (.getfield 17, 3) := by decide +kernel
theorem d_Book_closeGroup_33 : decode b_Book_closeGroup 33 = .ok (.iconst 0, 1) := by decide +kernel
theorem d_Book_closeGroup_34 : decode b_Book_closeGroup 34 = .ok (.sipush 200, 3) := by decide +kernel
theorem d_Book_closeGroup_37 : decode b_Book_closeGroup 37 = .ok (.invokestatic 55, 3) := by decide +kernel
theorem d_Book_closeGroup_40 : decode b_Book_closeGroup 40 = .ok (.iconst 1, 1) := by decide +kernel
theorem d_Book_closeGroup_41 : decode b_Book_closeGroup 41 = .ok (.ireturn, 1) := by decide +kernel
theorem d_MacroExpand_group_0 : decode b_MacroExpand_group 0 = .ok (.iload_n 1, 1) := by decide +kernel
theorem d_MacroExpand_group_1 : decode b_MacroExpand_group 1 = .ok (.ifCond .eq 26, 3) := by decide +kernel
theorem d_MacroExpand_group_4 : decode b_MacroExpand_group 4 = .ok (.aload_n 0, 1) := by decide +kernel
theorem d_MacroExpand_group_5 : decode b_MacroExpand_group 5 = .ok (.getfield 23, 3) := by decide +kernel
theorem d_MacroExpand_group_8 : decode b_MacroExpand_group 8 = .ok (.invokevirtual 147, 3) := by decide +kernel
theorem d_MacroExpand_group_11 : decode b_MacroExpand_group 11 = .ok (.ifCond .eq 13, 3) := by decide +kernel
theorem d_MacroExpand_group_14 : decode b_MacroExpand_group 14 = .ok (.aload_n 0, 1) := by decide +kernel
theorem d_MacroExpand_group_15 : decode b_MacroExpand_group 15 = .ok (.getfield 23, 3) := by decide +kernel
theorem d_MacroExpand_group_18 : decode b_MacroExpand_group 18 = .ok (.getfield 150, 3) := by decide +kernel
theorem d_MacroExpand_group_21 : decode b_MacroExpand_group 21 = .ok (.goto 5, 3) := by decide +kernel
theorem d_MacroExpand_group_24 : decode b_MacroExpand_group 24 = .ok (.bipush (-4), 2) := by decide +kernel
theorem d_MacroExpand_group_26 : decode b_MacroExpand_group 26 = .ok (.ireturn, 1) := by decide +kernel
theorem d_MacroExpand_group_27 : decode b_MacroExpand_group 27 = .ok (.aload_n 0, 1) := by decide +kernel
theorem d_MacroExpand_group_28 : decode b_MacroExpand_group 28 = .ok (.getfield 23, 3) := by decide +kernel
theorem d_MacroExpand_group_31 : decode b_MacroExpand_group 31 = .ok (.invokevirtual 153, 3) := by decide +kernel
theorem d_MacroExpand_group_34 : decode b_MacroExpand_group 34 = .ok (.ifCond .eq 13, 3) := by decide +kernel
theorem d_MacroExpand_group_37 : decode b_MacroExpand_group 37 = .ok (.aload_n 0, 1) := by decide +kernel
theorem d_MacroExpand_group_38 : decode b_MacroExpand_group 38 = .ok (.getfield 23, 3) := by decide +kernel
theorem d_MacroExpand_group_41 : decode b_MacroExpand_group 41 = .ok (.getfield 150, 3) := by decide +kernel
theorem d_MacroExpand_group_44 : decode b_MacroExpand_group 44 = .ok (.goto 5, 3) := by decide +kernel
theorem d_MacroExpand_group_47 : decode b_MacroExpand_group 47 = .ok (.bipush (-3), 2) := by decide +kernel
theorem d_MacroExpand_group_49 : decode b_MacroExpand_group 49 = .ok (.ireturn, 1) := by decide +kernel
theorem d_Spelling_lengthOf_0 : decode b_Spelling_lengthOf 0 = .ok (.iload_n 1, 1) := by decide +kernel
theorem d_Spelling_lengthOf_1 : decode b_Spelling_lengthOf 1 = .ok (.ifCond .lt 29, 3) := by decide +kernel
theorem d_Spelling_lengthOf_4 : decode b_Spelling_lengthOf 4 = .ok (.iload_n 1, 1) := by decide +kernel
theorem d_Spelling_lengthOf_5 : decode b_Spelling_lengthOf 5 = .ok (.aload_n 0, 1) := by decide +kernel
theorem d_Spelling_lengthOf_6 : decode b_Spelling_lengthOf 6 = .ok (.getfield 18, 3) := by decide +kernel
theorem d_Spelling_lengthOf_9 : decode b_Spelling_lengthOf 9 = .ok (.if_icmp .ge 21, 3) := by decide +kernel
theorem d_Spelling_lengthOf_12 : decode b_Spelling_lengthOf 12 = .ok (.iload_n 1, 1) := by decide +kernel
theorem d_Spelling_lengthOf_13 : decode b_Spelling_lengthOf 13 = .ok (.aload_n 0, 1) := by decide +kernel
theorem d_Spelling_lengthOf_14 : decode b_Spelling_lengthOf 14 = .ok (.getfield 15, 3) := by decide +kernel
theorem d_Spelling_lengthOf_17 : decode b_Spelling_lengthOf 17 = .ok (.arraylength, 1) := by decide +kernel
theorem d_Spelling_lengthOf_18 : decode b_Spelling_lengthOf 18 = .ok (.if_icmp .ge 12, 3) := by decide +kernel
theorem d_Spelling_lengthOf_21 : decode b_Spelling_lengthOf 21 = .ok (.aload_n 0, 1) := by decide +kernel
theorem d_Spelling_lengthOf_22 : decode b_Spelling_lengthOf 22 = .ok (.getfield 15, 3) := by decide +kernel
theorem d_Spelling_lengthOf_25 : decode b_Spelling_lengthOf 25 = .ok (.iload_n 1, 1) := by decide +kernel
theorem d_Spelling_lengthOf_26 : decode b_Spelling_lengthOf 26 = .ok (.iaload, 1) := by decide +kernel
theorem d_Spelling_lengthOf_27 : decode b_Spelling_lengthOf 27 = .ok (.goto 4, 3) := by decide +kernel
theorem d_Spelling_lengthOf_30 : decode b_Spelling_lengthOf 30 = .ok (.iconst (-1), 1) := by decide +kernel
theorem d_Spelling_lengthOf_31 : decode b_Spelling_lengthOf 31 = .ok (.ireturn, 1) := by decide +kernel
theorem d_MacroExpand_named_0 : decode b_MacroExpand_named 0 = .ok (.iload_n 1, 1) := by decide +kernel
theorem d_MacroExpand_named_1 : decode b_MacroExpand_named 1 = .ok (.iconst (-1), 1) := by decide +kernel
theorem d_MacroExpand_named_2 : decode b_MacroExpand_named 2 = .ok (.if_icmp .ne 13, 3) := by decide +kernel
theorem d_MacroExpand_named_5 : decode b_MacroExpand_named 5 = .ok (.aload_n 0, 1) := by decide +kernel
theorem d_MacroExpand_named_6 : decode b_MacroExpand_named 6 = .ok (.getfield 30, 3) := by decide +kernel
theorem d_MacroExpand_named_9 : decode b_MacroExpand_named 9 = .ok (.getfield 156, 3) := by decide +kernel
theorem d_MacroExpand_named_12 : decode b_MacroExpand_named 12 = .ok (.goto 11, 3) := by decide +kernel
theorem d_MacroExpand_named_15 : decode b_MacroExpand_named 15 = .ok (.aload_n 0, 1) := by decide +kernel
theorem d_MacroExpand_named_16 : decode b_MacroExpand_named 16 = .ok (.getfield 30, 3) := by decide +kernel
theorem d_MacroExpand_named_19 : decode b_MacroExpand_named 19 = .ok (.iload_n 1, 1) := by decide +kernel
theorem d_MacroExpand_named_20 : decode b_MacroExpand_named 20 = .ok (.invokevirtual 159, 3) := by decide +kernel
theorem d_MacroExpand_named_23 : decode b_MacroExpand_named 23 = .ok (.ireturn, 1) := by decide +kernel
theorem d_Trace_get_0 : decode b_Trace_get 0 = .ok (.iload_n 1, 1) := by decide +kernel
theorem d_Trace_get_1 : decode b_Trace_get 1 = .ok (.ifCond .lt 17, 3) := by decide +kernel
theorem d_Trace_get_4 : decode b_Trace_get 4 = .ok (.iload_n 1, 1) := by decide +kernel
theorem d_Trace_get_5 : decode b_Trace_get 5 = .ok (.aload_n 0, 1) := by decide +kernel
theorem d_Trace_get_6 : decode b_Trace_get 6 = .ok (.getfield 21, 3) := by decide +kernel
theorem d_Trace_get_9 : decode b_Trace_get 9 = .ok (.if_icmp .ge 9, 3) := by decide +kernel
theorem d_Trace_get_12 : decode b_Trace_get 12 = .ok (.iload_n 1, 1) := by decide +kernel
theorem d_Trace_get_13 : decode b_Trace_get 13 = .ok (.bipush 100, 2) := by decide +kernel
theorem d_Trace_get_15 : decode b_Trace_get 15 = .ok (.if_icmp .lt 5, 3) := by decide +kernel
theorem d_Trace_get_18 : decode b_Trace_get 18 = .ok (.iconst (-1), 1) := by decide +kernel
theorem d_Trace_get_19 : decode b_Trace_get 19 = .ok (.ireturn, 1) := by decide +kernel
theorem d_Trace_get_20 : decode b_Trace_get 20 = .ok (.iload_n 2, 1) := by decide +kernel
theorem d_Trace_get_21 : decode b_Trace_get 21 = .ok (.ifCond .ne 10, 3) := by decide +kernel
theorem d_Trace_get_24 : decode b_Trace_get 24 = .ok (.aload_n 0, 1) := by decide +kernel
theorem d_Trace_get_25 : decode b_Trace_get 25 = .ok (.getfield 9, 3) := by decide +kernel
theorem d_Trace_get_28 : decode b_Trace_get 28 = .ok (.iload_n 1, 1) := by decide +kernel
theorem d_Trace_get_29 : decode b_Trace_get 29 = .ok (.iaload, 1) := by decide +kernel
theorem d_Trace_get_30 : decode b_Trace_get 30 = .ok (.ireturn, 1) := by decide +kernel
theorem d_Trace_get_31 : decode b_Trace_get 31 = .ok (.iload_n 2, 1) := by decide +kernel
theorem d_Trace_get_32 : decode b_Trace_get 32 = .ok (.iconst 1, 1) := by decide +kernel
theorem d_Trace_get_33 : decode b_Trace_get 33 = .ok (.if_icmp .ne 10, 3) := by decide +kernel
theorem d_Trace_get_36 : decode b_Trace_get 36 = .ok (.aload_n 0, 1) := by decide +kernel
theorem d_Trace_get_37 : decode b_Trace_get 37 = .ok (.getfield 15, 3) := by decide +kernel
theorem d_Trace_get_40 : decode b_Trace_get 40 = .ok (.iload_n 1, 1) := by decide +kernel
theorem d_Trace_get_41 : decode b_Trace_get 41 = .ok (.iaload, 1) := by decide +kernel
theorem d_Trace_get_42 : decode b_Trace_get 42 = .ok (.ireturn, 1) := by decide +kernel
theorem d_Trace_get_43 : decode b_Trace_get 43 = .ok (.iload_n 2, 1) := by decide +kernel
theorem d_Trace_get_44 : decode b_Trace_get 44 = .ok (.iconst 2, 1) := by decide +kernel
theorem d_Trace_get_45 : decode b_Trace_get 45 = .ok (.if_icmp .ne 12, 3) := by decide +kernel
theorem d_Trace_get_48 : decode b_Trace_get 48 = .ok (.aload_n 0, 1) := by decide +kernel
theorem d_Trace_get_49 : decode b_Trace_get 49 = .ok (.getfield 18, 3) := by decide +kernel
theorem d_Trace_get_52 : decode b_Trace_get 52 = .ok (.iload_n 1, 1) := by decide +kernel
theorem d_Trace_get_53 : decode b_Trace_get 53 = .ok (.iaload, 1) := by decide +kernel
theorem d_Trace_get_54 : decode b_Trace_get 54 = .ok (.goto 4, 3) := by decide +kernel
theorem d_Trace_get_57 : decode b_Trace_get 57 = .ok (.iconst (-1), 1) := by decide +kernel
theorem d_Trace_get_58 : decode b_Trace_get 58 = .ok (.ireturn, 1) := by decide +kernel
theorem d_MacroExpand_traced_0 : decode b_MacroExpand_traced 0 = .ok (.aload_n 0, 1) := by decide +kernel
theorem d_MacroExpand_traced_1 : decode b_MacroExpand_traced 1 = .ok (.getfield 46, 3) := by decide +kernel
theorem d_MacroExpand_traced_4 : decode b_MacroExpand_traced 4 = .ok (.getfield 162, 3) := by decide +kernel
theorem d_MacroExpand_traced_7 : decode b_MacroExpand_traced 7 = .ok (.iload_n 1, 1) := by decide +kernel
theorem d_MacroExpand_traced_8 : decode b_MacroExpand_traced 8 = .ok (.iload_n 2, 1) := by decide +kernel
theorem d_MacroExpand_traced_9 : decode b_MacroExpand_traced 9 = .ok (.invokevirtual 166, 3) := by decide +kernel
theorem d_MacroExpand_traced_12 : decode b_MacroExpand_traced 12 = .ok (.ireturn, 1) := by decide +kernel
theorem d_MacroExpand_input_0 : decode b_MacroExpand_input 0 = .ok (.aload_n 0, 1) := by decide +kernel
theorem d_MacroExpand_input_1 : decode b_MacroExpand_input 1 = .ok (.getfield 37, 3) := by decide +kernel
theorem d_MacroExpand_input_4 : decode b_MacroExpand_input 4 = .ok (.iload_n 1, 1) := by decide +kernel
theorem d_MacroExpand_input_5 : decode b_MacroExpand_input 5 = .ok (.invokevirtual 171, 3) := by decide +kernel
theorem d_MacroExpand_input_8 : decode b_MacroExpand_input 8 = .ok (.ireturn, 1) := by decide +kernel
theorem d_MacroExpand_macro_0 : decode b_MacroExpand_macro 0 = .ok (.aload_n 0, 1) := by decide +kernel
theorem d_MacroExpand_macro_1 : decode b_MacroExpand_macro 1 = .ok (.getfield 23, 3) := by decide +kernel
theorem d_MacroExpand_macro_4 : decode b_MacroExpand_macro 4 = .ok (.iload_n 1, 1) := by decide +kernel
theorem d_MacroExpand_macro_5 : decode b_MacroExpand_macro 5 = .ok (.invokevirtual 172, 3) := by decide +kernel
theorem d_MacroExpand_macro_8 : decode b_MacroExpand_macro 8 = .ok (.ireturn, 1) := by decide +kernel
theorem d_MacroExpandModel_init_0 : decode b_MacroExpandModel_init 0 = .ok (.aload_n 0, 1) := by decide +kernel
theorem d_MacroExpandModel_init_1 : decode b_MacroExpandModel_init 1 = .ok (.invokespecial 1, 3) := by decide +kernel
theorem d_MacroExpandModel_init_4 : decode b_MacroExpandModel_init 4 = .ok (.aload_n 0, 1) := by decide +kernel
theorem d_MacroExpandModel_init_5 : decode b_MacroExpandModel_init 5 = .ok (.sipush 4096, 3) := by decide +kernel
theorem d_MacroExpandModel_init_8 : decode b_MacroExpandModel_init 8 = .ok (.newarray .int, 2) := by decide +kernel
theorem d_MacroExpandModel_init_10 : decode b_MacroExpandModel_init 10 = .ok (.putfield 7, 3) := by decide +kernel
theorem d_MacroExpandModel_init_13 : decode b_MacroExpandModel_init 13 = .ok (.aload_n 0, 1) := by decide +kernel
theorem d_MacroExpandModel_init_14 : decode b_MacroExpandModel_init 14 = .ok (.sipush 3000, 3) := by decide +kernel
theorem d_MacroExpandModel_init_17 : decode b_MacroExpandModel_init 17 = .ok (.newarray .int, 2) := by decide +kernel
theorem d_MacroExpandModel_init_19 : decode b_MacroExpandModel_init 19 = .ok (.putfield 13, 3) := by decide +kernel
theorem d_MacroExpandModel_init_22 : decode b_MacroExpandModel_init 22 = .ok (.aload_n 0, 1) := by decide +kernel
theorem d_MacroExpandModel_init_23 : decode b_MacroExpandModel_init 23 = .ok (.bipush 100, 2) := by decide +kernel
theorem d_MacroExpandModel_init_25 : decode b_MacroExpandModel_init 25 = .ok (.newarray .int, 2) := by decide +kernel
theorem d_MacroExpandModel_init_27 : decode b_MacroExpandModel_init 27 = .ok (.putfield 16, 3) := by decide +kernel
theorem d_MacroExpandModel_init_30 : decode b_MacroExpandModel_init 30 = .ok (.aload_n 0, 1) := by decide +kernel
theorem d_MacroExpandModel_init_31 : decode b_MacroExpandModel_init 31 = .ok (.bipush 100, 2) := by decide +kernel
theorem d_MacroExpandModel_init_33 : decode b_MacroExpandModel_init 33 = .ok (.newarray .int, 2) := by decide +kernel
theorem d_MacroExpandModel_init_35 : decode b_MacroExpandModel_init 35 = .ok (.putfield 19, 3) := by decide +kernel
theorem d_MacroExpandModel_init_38 : decode b_MacroExpandModel_init 38 = .ok (.aload_n 0, 1) := by decide +kernel
theorem d_MacroExpandModel_init_39 : decode b_MacroExpandModel_init 39 = .ok (.bipush 100, 2) := by decide +kernel
theorem d_MacroExpandModel_init_41 : decode b_MacroExpandModel_init 41 = .ok (.newarray .int, 2) := by decide +kernel
theorem d_MacroExpandModel_init_43 : decode b_MacroExpandModel_init 43 = .ok (.putfield 22, 3) := by decide +kernel
theorem d_MacroExpandModel_init_46 : decode b_MacroExpandModel_init 46 = .ok (.aload_n 0, 1) := by decide +kernel
theorem d_MacroExpandModel_init_47 : decode b_MacroExpandModel_init 47 = .ok (.sipush 20000, 3) := by decide +kernel
theorem d_MacroExpandModel_init_50 : decode b_MacroExpandModel_init 50 = .ok (.newarray .int, 2) := by decide +kernel
theorem d_MacroExpandModel_init_52 : decode b_MacroExpandModel_init 52 = .ok (.putfield 25, 3) := by decide +kernel
theorem d_MacroExpandModel_init_55 : decode b_MacroExpandModel_init 55 = .ok (.aload_n 0, 1) := by decide +kernel
theorem d_MacroExpandModel_init_56 : decode b_MacroExpandModel_init 56 = .ok (.sipush 1000, 3) := by decide +kernel
theorem d_MacroExpandModel_init_59 : decode b_MacroExpandModel_init 59 = .ok (.newarray .int, 2) := by decide +kernel
theorem d_MacroExpandModel_init_61 : decode b_MacroExpandModel_init 61 = .ok (.putfield 28, 3) := by decide +kernel
theorem d_MacroExpandModel_init_64 : decode b_MacroExpandModel_init 64 = .ok (.aload_n 0, 1) := by decide +kernel
theorem d_MacroExpandModel_init_65 : decode b_MacroExpandModel_init 65 = .ok (.ldc 31, 2) := by decide +kernel
theorem d_MacroExpandModel_init_67 : decode b_MacroExpandModel_init 67 = .ok (.newarray .int, 2) := by decide +kernel
theorem d_MacroExpandModel_init_69 : decode b_MacroExpandModel_init 69 = .ok (.putfield 32, 3) := by decide +kernel
theorem d_MacroExpandModel_init_72 : decode b_MacroExpandModel_init 72 = .ok (.aload_n 0, 1) := by decide +kernel
theorem d_MacroExpandModel_init_73 : decode b_MacroExpandModel_init 73 = .ok (.sipush 200, 3) := by decide +kernel
theorem d_MacroExpandModel_init_76 : decode b_MacroExpandModel_init 76 = .ok (.newarray .int, 2) := by decide +kernel
theorem d_MacroExpandModel_init_78 : decode b_MacroExpandModel_init 78 = .ok (.putfield 35, 3) := by decide +kernel
theorem d_MacroExpandModel_init_81 : decode b_MacroExpandModel_init 81 = .ok (.aload_n 0, 1) := by decide +kernel
theorem d_MacroExpandModel_init_82 : decode b_MacroExpandModel_init 82 = .ok (.sipush 4000, 3) := by decide +kernel
theorem d_MacroExpandModel_init_85 : decode b_MacroExpandModel_init 85 = .ok (.newarray .int, 2) := by decide +kernel
theorem d_MacroExpandModel_init_87 : decode b_MacroExpandModel_init 87 = .ok (.putfield 38, 3) := by decide +kernel
theorem d_MacroExpandModel_init_90 : decode b_MacroExpandModel_init 90 = .ok (.aload_n 0, 1) := by decide +kernel
theorem d_MacroExpandModel_init_91 : decode b_MacroExpandModel_init 91 = .ok (.bipush 100, 2) := by decide +kernel
theorem d_MacroExpandModel_init_93 : decode b_MacroExpandModel_init 93 = .ok (.newarray .int, 2) := by decide +kernel
theorem d_MacroExpandModel_init_95 : decode b_MacroExpandModel_init 95 = .ok (.putfield 41, 3) := by decide +kernel
theorem d_MacroExpandModel_init_98 : decode b_MacroExpandModel_init 98 = .ok (.aload_n 0, 1) := by decide +kernel
theorem d_MacroExpandModel_init_99 : decode b_MacroExpandModel_init 99 = .ok (.sipush 800, 3) := by decide +kernel
theorem d_MacroExpandModel_init_102 : decode b_MacroExpandModel_init 102 = .ok (.newarray .int, 2) := by decide +kernel
theorem d_MacroExpandModel_init_104 : decode b_MacroExpandModel_init 104 = .ok (.putfield 44, 3) := by decide +kernel
theorem d_MacroExpandModel_init_107 : decode b_MacroExpandModel_init 107 = .ok (.aload_n 0, 1) := by decide +kernel
theorem d_MacroExpandModel_init_108 : decode b_MacroExpandModel_init 108 = .ok (.bipush 10, 2) := by decide +kernel
theorem d_MacroExpandModel_init_110 : decode b_MacroExpandModel_init 110 = .ok (.newarray .int, 2) := by decide +kernel
theorem d_MacroExpandModel_init_112 : decode b_MacroExpandModel_init 112 = .ok (.putfield 47, 3) := by decide +kernel
theorem d_MacroExpandModel_init_115 : decode b_MacroExpandModel_init 115 = .ok (.aload_n 0, 1) := by decide +kernel
theorem d_MacroExpandModel_init_116 : decode b_MacroExpandModel_init 116 = .ok (.sipush 4000, 3) := by decide +kernel
theorem d_MacroExpandModel_init_119 : decode b_MacroExpandModel_init 119 = .ok (.newarray .int, 2) := by decide +kernel
theorem d_MacroExpandModel_init_121 : decode b_MacroExpandModel_init 121 = .ok (.putfield 50, 3) := by decide +kernel
theorem d_MacroExpandModel_init_124 : decode b_MacroExpandModel_init 124 = .ok (.aload_n 0, 1) := by decide +kernel
theorem d_MacroExpandModel_init_125 : decode b_MacroExpandModel_init 125 = .ok (.sipush 300, 3) := by decide +kernel
theorem d_MacroExpandModel_init_128 : decode b_MacroExpandModel_init 128 = .ok (.newarray .int, 2) := by decide +kernel
theorem d_MacroExpandModel_init_130 : decode b_MacroExpandModel_init 130 = .ok (.putfield 53, 3) := by decide +kernel
theorem d_MacroExpandModel_init_133 : decode b_MacroExpandModel_init 133 = .ok (.aload_n 0, 1) := by decide +kernel
theorem d_MacroExpandModel_init_134 : decode b_MacroExpandModel_init 134 = .ok (.sipush 512, 3) := by decide +kernel
theorem d_MacroExpandModel_init_137 : decode b_MacroExpandModel_init 137 = .ok (.newarray .int, 2) := by decide +kernel
theorem d_MacroExpandModel_init_139 : decode b_MacroExpandModel_init 139 = .ok (.putfield 56, 3) := by decide +kernel
theorem d_MacroExpandModel_init_142 : decode b_MacroExpandModel_init 142 = .ok (.aload_n 0, 1) := by decide +kernel
theorem d_MacroExpandModel_init_143 : decode b_MacroExpandModel_init 143 = .ok (.bipush 51, 2) := by decide +kernel
theorem d_MacroExpandModel_init_145 : decode b_MacroExpandModel_init 145 = .ok (.newarray .int, 2) := by decide +kernel
theorem d_MacroExpandModel_init_147 : decode b_MacroExpandModel_init 147 = .ok (.putfield 59, 3) := by decide +kernel
theorem d_MacroExpandModel_init_150 : decode b_MacroExpandModel_init 150 = .ok (.aload_n 0, 1) := by decide +kernel
theorem d_MacroExpandModel_init_151 : decode b_MacroExpandModel_init 151 = .ok (.bipush 51, 2) := by decide +kernel
theorem d_MacroExpandModel_init_153 : decode b_MacroExpandModel_init 153 = .ok (.newarray .int, 2) := by decide +kernel
theorem d_MacroExpandModel_init_155 : decode b_MacroExpandModel_init 155 = .ok (.putfield 62, 3) := by decide +kernel
theorem d_MacroExpandModel_init_158 : decode b_MacroExpandModel_init 158 = .ok (.aload_n 0, 1) := by decide +kernel
theorem d_MacroExpandModel_init_159 : decode b_MacroExpandModel_init 159 = .ok (.bipush 51, 2) := by decide +kernel
theorem d_MacroExpandModel_init_161 : decode b_MacroExpandModel_init 161 = .ok (.newarray .int, 2) := by decide +kernel
theorem d_MacroExpandModel_init_163 : decode b_MacroExpandModel_init 163 = .ok (.putfield 65, 3) := by decide +kernel
theorem d_MacroExpandModel_init_166 : decode b_MacroExpandModel_init 166 = .ok (.aload_n 0, 1) := by decide +kernel
theorem d_MacroExpandModel_init_167 : decode b_MacroExpandModel_init 167 = .ok (.sipush 2000, 3) := by decide +kernel
theorem d_MacroExpandModel_init_170 : decode b_MacroExpandModel_init 170 = .ok (.newarray .int, 2) := by decide +kernel
theorem d_MacroExpandModel_init_172 : decode b_MacroExpandModel_init 172 = .ok (.putfield 68, 3) := by decide +kernel
theorem d_MacroExpandModel_init_175 : decode b_MacroExpandModel_init 175 = .ok (.aload_n 0, 1) := by decide +kernel
theorem d_MacroExpandModel_init_176 : decode b_MacroExpandModel_init 176 = .ok (.bipush 10, 2) := by decide +kernel
theorem d_MacroExpandModel_init_178 : decode b_MacroExpandModel_init 178 = .ok (.newarray .int, 2) := by decide +kernel
theorem d_MacroExpandModel_init_180 : decode b_MacroExpandModel_init 180 = .ok (.putfield 71, 3) := by decide +kernel
theorem d_MacroExpandModel_init_183 : decode b_MacroExpandModel_init 183 = .ok (.aload_n 0, 1) := by decide +kernel
theorem d_MacroExpandModel_init_184 : decode b_MacroExpandModel_init 184 = .ok (.sipush 200, 3) := by decide +kernel
theorem d_MacroExpandModel_init_187 : decode b_MacroExpandModel_init 187 = .ok (.newarray .int, 2) := by decide +kernel
theorem d_MacroExpandModel_init_189 : decode b_MacroExpandModel_init 189 = .ok (.putfield 74, 3) := by decide +kernel
theorem d_MacroExpandModel_init_192 : decode b_MacroExpandModel_init 192 = .ok (.aload_n 0, 1) := by decide +kernel
theorem d_MacroExpandModel_init_193 : decode b_MacroExpandModel_init 193 = .ok (.lload_n 1, 1) := by decide +kernel
theorem d_MacroExpandModel_init_194 : decode b_MacroExpandModel_init 194 = .ok (.lconst 1, 1) := by decide +kernel
theorem d_MacroExpandModel_init_195 : decode b_MacroExpandModel_init 195 = .ok (.lcmp, 1) := by decide +kernel
theorem d_MacroExpandModel_init_196 : decode b_MacroExpandModel_init 196 = .ok (.ifCond .ge 7, 3) := by decide +kernel
theorem d_MacroExpandModel_init_199 : decode b_MacroExpandModel_init 199 = .ok (.iconst 1, 1) := by decide +kernel
theorem d_MacroExpandModel_init_200 : decode b_MacroExpandModel_init 200 = .ok (.goto 19, 3) := by decide +kernel
theorem d_MacroExpandModel_init_203 : decode b_MacroExpandModel_init 203 = .ok (.lload_n 1, 1) := by decide +kernel
theorem d_MacroExpandModel_init_204 : decode b_MacroExpandModel_init 204 = .ok (.ldc2_w 77, 3) := by decide +kernel
theorem d_MacroExpandModel_init_207 : decode b_MacroExpandModel_init 207 = .ok (.lcmp, 1) := by decide +kernel
theorem d_MacroExpandModel_init_208 : decode b_MacroExpandModel_init 208 = .ok (.ifCond .le 9, 3) := by decide +kernel
theorem d_MacroExpandModel_init_211 : decode b_MacroExpandModel_init 211 = .ok (.sipush 20000, 3) := by decide +kernel
theorem d_MacroExpandModel_init_214 : decode b_MacroExpandModel_init 214 = .ok (.goto 5, 3) := by decide +kernel
theorem d_MacroExpandModel_init_217 : decode b_MacroExpandModel_init 217 = .ok (.lload_n 1, 1) := by decide +kernel
theorem d_MacroExpandModel_init_218 : decode b_MacroExpandModel_init 218 = .ok (.l2i, 1) := by decide +kernel
theorem d_MacroExpandModel_init_219 : decode b_MacroExpandModel_init 219 = .ok (.putfield 79, 3) := by decide +kernel
theorem d_MacroExpandModel_init_222 : decode b_MacroExpandModel_init 222 = .ok (.iconst 0, 1) := by decide +kernel
theorem d_MacroExpandModel_init_223 : decode b_MacroExpandModel_init 223 = .ok (.istore_n 3, 1) := by decide +kernel
theorem d_MacroExpandModel_init_224 : decode b_MacroExpandModel_init 224 = .ok (.iload_n 3, 1) := by decide +kernel
theorem d_MacroExpandModel_init_225 : decode b_MacroExpandModel_init 225 = .ok (.sipush 200, 3) := by decide +kernel
theorem d_MacroExpandModel_init_228 : decode b_MacroExpandModel_init 228 = .ok (.if_icmp .ge 16, 3) := by decide +kernel
theorem d_MacroExpandModel_init_231 : decode b_MacroExpandModel_init 231 = .ok (.aload_n 0, 1) := by decide +kernel
theorem d_MacroExpandModel_init_232 : decode b_MacroExpandModel_init 232 = .ok (.getfield 35, 3) := by decide +kernel
theorem d_MacroExpandModel_init_235 : decode b_MacroExpandModel_init 235 = .ok (.iload_n 3, 1) := by decide +kernel
theorem d_MacroExpandModel_init_236 : decode b_MacroExpandModel_init 236 = .ok (.iconst (-1), 1) := by decide +kernel
theorem d_MacroExpandModel_init_237 : decode b_MacroExpandModel_init 237 = .ok (.iastore, 1) := by decide +kernel
theorem d_MacroExpandModel_init_238 : decode b_MacroExpandModel_init 238 = .ok (.iinc 3 1, 3) := by decide +kernel
theorem d_MacroExpandModel_init_241 : decode b_MacroExpandModel_init 241 = .ok (.goto (-17), 3) := by decide +kernel
theorem d_MacroExpandModel_init_244 : decode b_MacroExpandModel_init 244 = .ok (.return_, 1) := by decide +kernel
theorem d_MacroExpandModel_in_0 : decode b_MacroExpandModel_in 0 = .ok (.iload_n 0, 1) := by decide +kernel
theorem d_MacroExpandModel_in_1 : decode b_MacroExpandModel_in 1 = .ok (.iload_n 1, 1) := by decide +kernel
theorem d_MacroExpandModel_in_2 : decode b_MacroExpandModel_in 2 = .ok (.if_icmp .lt 12, 3) := by decide +kernel
theorem d_MacroExpandModel_in_5 : decode b_MacroExpandModel_in 5 = .ok (.iload_n 0, 1) := by decide +kernel
theorem d_MacroExpandModel_in_6 : decode b_MacroExpandModel_in 6 = .ok (.iload_n 2, 1) := by decide +kernel
theorem d_MacroExpandModel_in_7 : decode b_MacroExpandModel_in 7 = .ok (.if_icmp .gt 7, 3) := by decide +kernel
theorem d_MacroExpandModel_in_10 : decode b_MacroExpandModel_in 10 = .ok (.iconst 1, 1) := by decide +kernel
theorem d_MacroExpandModel_in_11 : decode b_MacroExpandModel_in 11 = .ok (.goto 4, 3) := by decide +kernel
theorem d_MacroExpandModel_in_14 : decode b_MacroExpandModel_in 14 = .ok (.iconst 0, 1) := by decide +kernel
theorem d_MacroExpandModel_in_15 : decode b_MacroExpandModel_in 15 = .ok (.ireturn, 1) := by decide +kernel
theorem d_MacroExpandModel_isName_0 : decode b_MacroExpandModel_isName 0 = .ok (.iload_n 0, 1) := by decide +kernel
theorem d_MacroExpandModel_isName_1 : decode b_MacroExpandModel_isName 1 = .ok (.sipush 1000, 3) := by decide +kernel
theorem d_MacroExpandModel_isName_4 : decode b_MacroExpandModel_isName 4 = .ok (.sipush 1199, 3) := by decide +kernel
theorem d_MacroExpandModel_isName_7 : decode b_MacroExpandModel_isName 7 = .ok (.invokestatic 83, 3) := by decide +kernel
theorem d_MacroExpandModel_isName_10 : decode b_MacroExpandModel_isName 10 = .ok (.ireturn, 1) := by decide +kernel
theorem d_MacroExpandModel_isParameter_0 : decode b_MacroExpandModel_isParameter 0 = .ok (.iload_n 0, 1) := by decide +kernel
theorem d_MacroExpandModel_isParameter_1 : decode b_MacroExpandModel_isParameter 1 = .ok (.sipush 311, 3) := by decide +kernel
theorem d_MacroExpandModel_isParameter_4 : decode b_MacroExpandModel_isParameter 4 = .ok (.sipush 399, 3) := by decide +kernel
theorem d_MacroExpandModel_isParameter_7 : decode b_MacroExpandModel_isParameter 7 = .ok (.invokestatic 83, 3) := by decide +kernel
theorem d_MacroExpandModel_isParameter_10 : decode b_MacroExpandModel_isParameter 10 = .ok (.ifCond .eq 14, 3) := by decide +kernel
theorem d_MacroExpandModel_isParameter_13 : decode b_MacroExpandModel_isParameter 13 = .ok (.iload_n 0, 1) := by decide +kernel
theorem d_MacroExpandModel_isParameter_14 : decode b_MacroExpandModel_isParameter 14 = .ok (.bipush 10, 2) := by decide +kernel
theorem d_MacroExpandModel_isParameter_16 : decode b_MacroExpandModel_isParameter 16 = .ok (.irem, 1) := by decide +kernel
theorem d_MacroExpandModel_isParameter_17 : decode b_MacroExpandModel_isParameter 17 = .ok (.ifCond .eq 7, 3) := by decide +kernel
theorem d_MacroExpandModel_isParameter_20 : decode b_MacroExpandModel_isParameter 20 = .ok (.iconst 1, 1) := by decide +kernel
theorem d_MacroExpandModel_isParameter_21 : decode b_MacroExpandModel_isParameter 21 = .ok (.goto 4, 3) := by decide +kernel
theorem d_MacroExpandModel_isParameter_24 : decode b_MacroExpandModel_isParameter 24 = .ok (.iconst 0, 1) := by decide +kernel
theorem d_MacroExpandModel_isParameter_25 : decode b_MacroExpandModel_isParameter 25 = .ok (.ireturn, 1) := by decide +kernel
theorem d_MacroExpandModel_isToken_0 : decode b_MacroExpandModel_isToken 0 = .ok (.iload_n 0, 1) := by decide +kernel
theorem d_MacroExpandModel_isToken_1 : decode b_MacroExpandModel_isToken 1 = .ok (.iconst 0, 1) := by decide +kernel
theorem d_MacroExpandModel_isToken_2 : decode b_MacroExpandModel_isToken 2 = .ok (.sipush 258, 3) := by decide +kernel
theorem d_MacroExpandModel_isToken_5 : decode b_MacroExpandModel_isToken 5 = .ok (.invokestatic 83, 3) := by decide +kernel
theorem d_MacroExpandModel_isToken_8 : decode b_MacroExpandModel_isToken 8 = .ok (.ifCond .ne 30, 3) := by decide +kernel
theorem d_MacroExpandModel_isToken_11 : decode b_MacroExpandModel_isToken 11 = .ok (.iload_n 0, 1) := by decide +kernel
theorem d_MacroExpandModel_isToken_12 : decode b_MacroExpandModel_isToken 12 = .ok (.sipush 260, 3) := by decide +kernel
theorem d_MacroExpandModel_isToken_15 : decode b_MacroExpandModel_isToken 15 = .ok (.sipush 269, 3) := by decide +kernel
theorem d_MacroExpandModel_isToken_18 : decode b_MacroExpandModel_isToken 18 = .ok (.invokestatic 83, 3) := by decide +kernel
theorem d_MacroExpandModel_isToken_21 : decode b_MacroExpandModel_isToken 21 = .ok (.ifCond .ne 17, 3) := by decide +kernel
theorem d_MacroExpandModel_isToken_24 : decode b_MacroExpandModel_isToken 24 = .ok (.iload_n 0, 1) := by decide +kernel
theorem d_MacroExpandModel_isToken_25 : decode b_MacroExpandModel_isToken 25 = .ok (.invokestatic 87, 3) := by decide +kernel
theorem d_MacroExpandModel_isToken_28 : decode b_MacroExpandModel_isToken 28 = .ok (.ifCond .ne 10, 3) := by decide +kernel
theorem d_MacroExpandModel_isToken_31 : decode b_MacroExpandModel_isToken 31 = .ok (.iload_n 0, 1) := by decide +kernel
theorem d_MacroExpandModel_isToken_32 : decode b_MacroExpandModel_isToken 32 = .ok (.invokestatic 91, 3) := by decide +kernel
theorem d_MacroExpandModel_isToken_35 : decode b_MacroExpandModel_isToken 35 = .ok (.ifCond .eq 7, 3) := by decide +kernel
theorem d_MacroExpandModel_isToken_38 : decode b_MacroExpandModel_isToken 38 = .ok (.iconst 1, 1) := by decide +kernel
theorem d_MacroExpandModel_isToken_39 : decode b_MacroExpandModel_isToken 39 = .ok (.goto 4, 3) := by decide +kernel
theorem d_MacroExpandModel_isToken_42 : decode b_MacroExpandModel_isToken 42 = .ok (.iconst 0, 1) := by decide +kernel
theorem d_MacroExpandModel_isToken_43 : decode b_MacroExpandModel_isToken 43 = .ok (.ireturn, 1) := by decide +kernel
theorem d_MacroExpandModel_newMacro_0 : decode b_MacroExpandModel_newMacro 0 = .ok (.aload_n 0, 1) := by decide +kernel
theorem d_MacroExpandModel_newMacro_1 : decode b_MacroExpandModel_newMacro 1 = .ok (.getfield 94, 3) := by decide +kernel
theorem d_MacroExpandModel_newMacro_4 : decode b_MacroExpandModel_newMacro 4 = .ok (.istore 4, 2) := by decide +kernel
theorem d_MacroExpandModel_newMacro_6 : decode b_MacroExpandModel_newMacro 6 = .ok (.aload_n 0, 1) := by decide +kernel
theorem d_MacroExpandModel_newMacro_7 : decode b_MacroExpandModel_newMacro 7 = .ok (.getfield 16, 3) := by decide +kernel
theorem d_MacroExpandModel_newMacro_10 : decode b_MacroExpandModel_newMacro 10 = .ok (.iload 4, 2) := by decide +kernel
theorem d_MacroExpandModel_newMacro_12 : decode b_MacroExpandModel_newMacro 12 = .ok (.iload_n 2, 1) := by decide +kernel
theorem d_MacroExpandModel_newMacro_13 : decode b_MacroExpandModel_newMacro 13 = .ok (.iastore, 1) := by decide +kernel
theorem d_MacroExpandModel_newMacro_14 : decode b_MacroExpandModel_newMacro 14 = .ok (.aload_n 0, 1) := by decide +kernel
theorem d_MacroExpandModel_newMacro_15 : decode b_MacroExpandModel_newMacro 15 = .ok (.getfield 19, 3) := by decide +kernel
theorem d_MacroExpandModel_newMacro_18 : decode b_MacroExpandModel_newMacro 18 = .ok (.iload 4, 2) := by decide +kernel
theorem d_MacroExpandModel_newMacro_20 : decode b_MacroExpandModel_newMacro 20 = .ok (.iload_n 3, 1) := by decide +kernel
theorem d_MacroExpandModel_newMacro_21 : decode b_MacroExpandModel_newMacro 21 = .ok (.iastore, 1) := by decide +kernel
theorem d_MacroExpandModel_newMacro_22 : decode b_MacroExpandModel_newMacro 22 = .ok (.aload_n 0, 1) := by decide +kernel
theorem d_MacroExpandModel_newMacro_23 : decode b_MacroExpandModel_newMacro 23 = .ok (.getfield 22, 3) := by decide +kernel
theorem d_MacroExpandModel_newMacro_26 : decode b_MacroExpandModel_newMacro 26 = .ok (.iload 4, 2) := by decide +kernel
theorem d_MacroExpandModel_newMacro_28 : decode b_MacroExpandModel_newMacro 28 = .ok (.iconst 0, 1) := by decide +kernel
theorem d_MacroExpandModel_newMacro_29 : decode b_MacroExpandModel_newMacro 29 = .ok (.iastore, 1) := by decide +kernel
theorem d_MacroExpandModel_newMacro_30 : decode b_MacroExpandModel_newMacro 30 = .ok (.iconst 0, 1) := by decide +kernel
theorem d_MacroExpandModel_newMacro_31 : decode b_MacroExpandModel_newMacro 31 = .ok (.istore 5, 2) := by decide +kernel
theorem d_MacroExpandModel_newMacro_33 : decode b_MacroExpandModel_newMacro 33 = .ok (.iload 5, 2) := by decide +kernel
theorem d_MacroExpandModel_newMacro_35 : decode b_MacroExpandModel_newMacro 35 = .ok (.bipush 10, 2) := by decide +kernel
theorem d_MacroExpandModel_newMacro_37 : decode b_MacroExpandModel_newMacro 37 = .ok (.if_icmp .ge 23, 3) := by decide +kernel
theorem d_MacroExpandModel_newMacro_40 : decode b_MacroExpandModel_newMacro 40 = .ok (.aload_n 0, 1) := by decide +kernel
theorem d_MacroExpandModel_newMacro_41 : decode b_MacroExpandModel_newMacro 41 = .ok (.getfield 28, 3) := by decide +kernel
theorem d_MacroExpandModel_newMacro_44 : decode b_MacroExpandModel_newMacro 44 = .ok (.bipush 10, 2) := by decide +kernel
theorem d_MacroExpandModel_newMacro_46 : decode b_MacroExpandModel_newMacro 46 = .ok (.iload 4, 2) := by decide +kernel
theorem d_MacroExpandModel_newMacro_48 : decode b_MacroExpandModel_newMacro 48 = .ok (.imul, 1) := by decide +kernel
theorem d_MacroExpandModel_newMacro_49 : decode b_MacroExpandModel_newMacro 49 = .ok (.iload 5, 2) := by decide +kernel
theorem d_MacroExpandModel_newMacro_51 : decode b_MacroExpandModel_newMacro 51 = .ok (.iadd, 1) := by decide +kernel
theorem d_MacroExpandModel_newMacro_52 : decode b_MacroExpandModel_newMacro 52 = .ok (.iconst 0, 1) := by decide +kernel
theorem d_MacroExpandModel_newMacro_53 : decode b_MacroExpandModel_newMacro 53 = .ok (.iastore, 1) := by decide +kernel
theorem d_MacroExpandModel_newMacro_54 : decode b_MacroExpandModel_newMacro 54 = .ok (.iinc 5 1, 3) := by decide +kernel
theorem d_MacroExpandModel_newMacro_57 : decode b_MacroExpandModel_newMacro 57 = .ok (.goto (-24), 3) := by decide +kernel
theorem d_MacroExpandModel_newMacro_60 : decode b_MacroExpandModel_newMacro 60 = .ok (.aload_n 0, 1) := by decide +kernel
theorem d_MacroExpandModel_newMacro_61 : decode b_MacroExpandModel_newMacro 61 = .ok (.dup, 1) := by decide +kernel
theorem d_MacroExpandModel_newMacro_62 : decode b_MacroExpandModel_newMacro 62 = .ok (.getfield 94, 3) := by decide +kernel
theorem d_MacroExpandModel_newMacro_65 : decode b_MacroExpandModel_newMacro 65 = .ok (.iconst 1, 1) := by decide +kernel
theorem d_MacroExpandModel_newMacro_66 : decode b_MacroExpandModel_newMacro 66 = .ok (.iadd, 1) := by decide +kernel
theorem d_MacroExpandModel_newMacro_67 : decode b_MacroExpandModel_newMacro 67 = .ok (.putfield 94, 3) := by decide +kernel
theorem d_MacroExpandModel_newMacro_70 : decode b_MacroExpandModel_newMacro 70 = .ok (.aload_n 0, 1) := by decide +kernel
theorem d_MacroExpandModel_newMacro_71 : decode b_MacroExpandModel_newMacro 71 = .ok (.getfield 35, 3) := by decide +kernel
theorem d_MacroExpandModel_newMacro_74 : decode b_MacroExpandModel_newMacro 74 = .ok (.iload_n 1, 1) := by decide +kernel
theorem d_MacroExpandModel_newMacro_75 : decode b_MacroExpandModel_newMacro 75 = .ok (.iload 4, 2) := by decide +kernel
theorem d_MacroExpandModel_newMacro_77 : decode b_MacroExpandModel_newMacro 77 = .ok (.iastore, 1) := by decide +kernel
theorem d_MacroExpandModel_newMacro_78 : decode b_MacroExpandModel_newMacro 78 = .ok (.iconst 0, 1) := by decide +kernel
theorem d_MacroExpandModel_newMacro_79 : decode b_MacroExpandModel_newMacro 79 = .ok (.istore 5, 2) := by decide +kernel
theorem d_MacroExpandModel_newMacro_81 : decode b_MacroExpandModel_newMacro 81 = .ok (.iload 5, 2) := by decide +kernel
theorem d_MacroExpandModel_newMacro_83 : decode b_MacroExpandModel_newMacro 83 = .ok (.aload_n 0, 1) := by decide +kernel
theorem d_MacroExpandModel_newMacro_84 : decode b_MacroExpandModel_newMacro 84 = .ok (.getfield 97, 3) := by decide +kernel
theorem d_MacroExpandModel_newMacro_87 : decode b_MacroExpandModel_newMacro 87 = .ok (.if_icmp .ge 30, 3) := by decide +kernel
theorem d_MacroExpandModel_newMacro_90 : decode b_MacroExpandModel_newMacro 90 = .ok (.iload_n 3, 1) := by decide +kernel
theorem d_MacroExpandModel_newMacro_91 : decode b_MacroExpandModel_newMacro 91 = .ok (.iconst 4, 1) := by decide +kernel
theorem d_MacroExpandModel_newMacro_92 : decode b_MacroExpandModel_newMacro 92 = .ok (.iand, 1) := by decide +kernel
theorem d_MacroExpandModel_newMacro_93 : decode b_MacroExpandModel_newMacro 93 = .ok (.ifCond .eq 24, 3) := by decide +kernel
theorem d_MacroExpandModel_newMacro_96 : decode b_MacroExpandModel_newMacro 96 = .ok (.aload_n 0, 1) := by decide +kernel
theorem d_MacroExpandModel_newMacro_97 : decode b_MacroExpandModel_newMacro 97 = .ok (.getfield 38, 3) := by decide +kernel
theorem d_MacroExpandModel_newMacro_100 : decode b_MacroExpandModel_newMacro 100 = .ok (.sipush 200, 3) := by decide +kernel
theorem d_MacroExpandModel_newMacro_103 : decode b_MacroExpandModel_newMacro 103 = .ok (.iload 5, 2) := by decide +kernel
theorem d_MacroExpandModel_newMacro_105 : decode b_MacroExpandModel_newMacro 105 = .ok (.imul, 1) := by decide +kernel
theorem d_MacroExpandModel_newMacro_106 : decode b_MacroExpandModel_newMacro 106 = .ok (.iload_n 1, 1) := by decide +kernel
theorem d_MacroExpandModel_newMacro_107 : decode b_MacroExpandModel_newMacro 107 = .ok (.iadd, 1) := by decide +kernel
theorem d_MacroExpandModel_newMacro_108 : decode b_MacroExpandModel_newMacro 108 = .ok (.iload 4, 2) := by decide +kernel
theorem d_MacroExpandModel_newMacro_110 : decode b_MacroExpandModel_newMacro 110 = .ok (.iastore, 1) := by decide +kernel
theorem d_MacroExpandModel_newMacro_111 : decode b_MacroExpandModel_newMacro 111 = .ok (.iinc 5 1, 3) := by decide +kernel
theorem d_MacroExpandModel_newMacro_114 : decode b_MacroExpandModel_newMacro 114 = .ok (.goto (-33), 3) := by decide +kernel
theorem d_MacroExpandModel_newMacro_117 : decode b_MacroExpandModel_newMacro 117 = .ok (.iload 4, 2) := by decide +kernel
theorem d_MacroExpandModel_newMacro_119 : decode b_MacroExpandModel_newMacro 119 = .ok (.ireturn, 1) := by decide +kernel
