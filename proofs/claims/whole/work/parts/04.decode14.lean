theorem d_MacroExpand_named_0 : decode b_MacroExpand_named 0 = .ok (.iload_n 1, 1) := by decide +kernel
theorem d_MacroExpand_named_1 : decode b_MacroExpand_named 1 = .ok (.iconst (-1), 1) := by decide +kernel
theorem d_MacroExpand_named_2 : decode b_MacroExpand_named 2 = .ok (.if_icmp .ne 13, 3) := by decide +kernel
theorem d_MacroExpand_named_5 : decode b_MacroExpand_named 5 = .ok (.aload_n 0, 1) := by decide +kernel
theorem d_MacroExpand_named_6 : decode b_MacroExpand_named 6 = .ok (.getfield 30, 3) := by decide +kernel
theorem d_MacroExpand_named_9 : decode b_MacroExpand_named 9 = .ok (.getfield 156, 3) := by decide +kernel
theorem d_MacroExpand_named_12 : decode b_MacroExpand_named 12 = .ok (.goto 11, 3) := by decide +kernel
theorem d_MacroExpand_named_15 : decode b_MacroExpand_named 15 = .ok (.aload_n 0, 1) := by decide +kernel
theorem d_MacroExpand_named_16 : decode b_MacroExpand_named 16 = .ok (.getfield 30, 3) := by decide +kernel
theorem d_MacroExpand_named_19 : decode b_MacroExpand_named 19 = .ok (.iload_n 1, 1) := by decide +kernel
theorem d_MacroExpand_named_20 : decode b_MacroExpand_named 20 = .ok (.invokevirtual 159, 3) := by decide +kernel
theorem d_MacroExpand_named_23 : decode b_MacroExpand_named 23 = .ok (.ireturn, 1) := by decide +kernel
theorem d_Trace_get_0 : decode b_Trace_get 0 = .ok (.iload_n 1, 1) := by decide +kernel
theorem d_Trace_get_1 : decode b_Trace_get 1 = .ok (.ifCond .lt 17, 3) := by decide +kernel
theorem d_Trace_get_4 : decode b_Trace_get 4 = .ok (.iload_n 1, 1) := by decide +kernel
theorem d_Trace_get_5 : decode b_Trace_get 5 = .ok (.aload_n 0, 1) := by decide +kernel
theorem d_Trace_get_6 : decode b_Trace_get 6 = .ok (.getfield 21, 3) := by decide +kernel
theorem d_Trace_get_9 : decode b_Trace_get 9 = .ok (.if_icmp .ge 9, 3) := by decide +kernel
theorem d_Trace_get_12 : decode b_Trace_get 12 = .ok (.iload_n 1, 1) := by decide +kernel
theorem d_Trace_get_13 : decode b_Trace_get 13 = .ok (.bipush 100, 2) := by decide +kernel
theorem d_Trace_get_15 : decode b_Trace_get 15 = .ok (.if_icmp .lt 5, 3) := by decide +kernel
theorem d_Trace_get_18 : decode b_Trace_get 18 = .ok (.iconst (-1), 1) := by decide +kernel
theorem d_Trace_get_19 : decode b_Trace_get 19 = .ok (.ireturn, 1) := by decide +kernel
theorem d_Trace_get_20 : decode b_Trace_get 20 = .ok (.iload_n 2, 1) := by decide +kernel
theorem d_Trace_get_21 : decode b_Trace_get 21 = .ok (.ifCond .ne 10, 3) := by decide +kernel
theorem d_Trace_get_24 : decode b_Trace_get 24 = .ok (.aload_n 0, 1) := by decide +kernel
theorem d_Trace_get_25 : decode b_Trace_get 25 = .ok (.getfield 9, 3) := by decide +kernel
theorem d_Trace_get_28 : decode b_Trace_get 28 = .ok (.iload_n 1, 1) := by decide +kernel
theorem d_Trace_get_29 : decode b_Trace_get 29 = .ok (.iaload, 1) := by decide +kernel
theorem d_Trace_get_30 : decode b_Trace_get 30 = .ok (.ireturn, 1) := by decide +kernel
theorem d_Trace_get_31 : decode b_Trace_get 31 = .ok (.iload_n 2, 1) := by decide +kernel
theorem d_Trace_get_32 : decode b_Trace_get 32 = .ok (.iconst 1, 1) := by decide +kernel
theorem d_Trace_get_33 : decode b_Trace_get 33 = .ok (.if_icmp .ne 10, 3) := by decide +kernel
theorem d_Trace_get_36 : decode b_Trace_get 36 = .ok (.aload_n 0, 1) := by decide +kernel
theorem d_Trace_get_37 : decode b_Trace_get 37 = .ok (.getfield 15, 3) := by decide +kernel
theorem d_Trace_get_40 : decode b_Trace_get 40 = .ok (.iload_n 1, 1) := by decide +kernel
theorem d_Trace_get_41 : decode b_Trace_get 41 = .ok (.iaload, 1) := by decide +kernel
theorem d_Trace_get_42 : decode b_Trace_get 42 = .ok (.ireturn, 1) := by decide +kernel
theorem d_Trace_get_43 : decode b_Trace_get 43 = .ok (.iload_n 2, 1) := by decide +kernel
theorem d_Trace_get_44 : decode b_Trace_get 44 = .ok (.iconst 2, 1) := by decide +kernel
theorem d_Trace_get_45 : decode b_Trace_get 45 = .ok (.if_icmp .ne 12, 3) := by decide +kernel
theorem d_Trace_get_48 : decode b_Trace_get 48 = .ok (.aload_n 0, 1) := by decide +kernel
theorem d_Trace_get_49 : decode b_Trace_get 49 = .ok (.getfield 18, 3) := by decide +kernel
theorem d_Trace_get_52 : decode b_Trace_get 52 = .ok (.iload_n 1, 1) := by decide +kernel
theorem d_Trace_get_53 : decode b_Trace_get 53 = .ok (.iaload, 1) := by decide +kernel
theorem d_Trace_get_54 : decode b_Trace_get 54 = .ok (.goto 4, 3) := by decide +kernel
theorem d_Trace_get_57 : decode b_Trace_get 57 = .ok (.iconst (-1), 1) := by decide +kernel
theorem d_Trace_get_58 : decode b_Trace_get 58 = .ok (.ireturn, 1) := by decide +kernel
theorem d_MacroExpand_traced_0 : decode b_MacroExpand_traced 0 = .ok (.aload_n 0, 1) := by decide +kernel
theorem d_MacroExpand_traced_1 : decode b_MacroExpand_traced 1 = .ok (.getfield 46, 3) := by decide +kernel
theorem d_MacroExpand_traced_4 : decode b_MacroExpand_traced 4 = .ok (.getfield 162, 3) := by decide +kernel
theorem d_MacroExpand_traced_7 : decode b_MacroExpand_traced 7 = .ok (.iload_n 1, 1) := by decide +kernel
theorem d_MacroExpand_traced_8 : decode b_MacroExpand_traced 8 = .ok (.iload_n 2, 1) := by decide +kernel
theorem d_MacroExpand_traced_9 : decode b_MacroExpand_traced 9 = .ok (.invokevirtual 166, 3) := by decide +kernel
theorem d_MacroExpand_traced_12 : decode b_MacroExpand_traced 12 = .ok (.ireturn, 1) := by decide +kernel
theorem d_MacroExpand_input_0 : decode b_MacroExpand_input 0 = .ok (.aload_n 0, 1) := by decide +kernel
theorem d_MacroExpand_input_1 : decode b_MacroExpand_input 1 = .ok (.getfield 37, 3) := by decide +kernel
theorem d_MacroExpand_input_4 : decode b_MacroExpand_input 4 = .ok (.iload_n 1, 1) := by decide +kernel
theorem d_MacroExpand_input_5 : decode b_MacroExpand_input 5 = .ok (.invokevirtual 171, 3) := by decide +kernel
theorem d_MacroExpand_input_8 : decode b_MacroExpand_input 8 = .ok (.ireturn, 1) := by decide +kernel
theorem d_MacroExpand_macro_0 : decode b_MacroExpand_macro 0 = .ok (.aload_n 0, 1) := by decide +kernel
theorem d_MacroExpand_macro_1 : decode b_MacroExpand_macro 1 = .ok (.getfield 23, 3) := by decide +kernel
theorem d_MacroExpand_macro_4 : decode b_MacroExpand_macro 4 = .ok (.iload_n 1, 1) := by decide +kernel
theorem d_MacroExpand_macro_5 : decode b_MacroExpand_macro 5 = .ok (.invokevirtual 172, 3) := by decide +kernel
theorem d_MacroExpand_macro_8 : decode b_MacroExpand_macro 8 = .ok (.ireturn, 1) := by decide +kernel
