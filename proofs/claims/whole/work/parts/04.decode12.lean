theorem d_Expander_putBack_0 : decode b_Expander_putBack 0 = .ok (.aload_n 0, 1) := by decide +kernel
theorem d_Expander_putBack_1 : decode b_Expander_putBack 1 = .ok (.getfield 15, 3) := by decide +kernel
theorem d_Expander_putBack_4 : decode b_Expander_putBack 4 = .ok (.invokevirtual 118, 3) := by decide +kernel
theorem d_Expander_putBack_7 : decode b_Expander_putBack 7 = .ok (.ifCond .eq 6, 3) := by decide +kernel
theorem d_Expander_putBack_10 : decode b_Expander_putBack 10 = .ok (.bipush 8, 2) := by decide +kernel
theorem d_Expander_putBack_12 : decode b_Expander_putBack 12 = .ok (.ireturn, 1) := by decide +kernel
theorem d_Expander_putBack_13 : decode b_Expander_putBack 13 = .ok (.aload_n 0, 1) := by decide +kernel
theorem d_Expander_putBack_14 : decode b_Expander_putBack 14 = .ok (.dup, 1) := by decide +kernel
theorem d_Expander_putBack_15 : decode b_Expander_putBack 15 = .ok (.getfield 56, 3) := by decide +kernel
theorem d_Expander_putBack_18 : decode b_Expander_putBack 18 = .ok (.iconst 1, 1) := by decide +kernel
theorem d_Expander_putBack_19 : decode b_Expander_putBack 19 = .ok (.isub, 1) := by decide +kernel
theorem d_Expander_putBack_20 : decode b_Expander_putBack 20 = .ok (.putfield 56, 3) := by decide +kernel
theorem d_Expander_putBack_23 : decode b_Expander_putBack 23 = .ok (.aload_n 0, 1) := by decide +kernel
theorem d_Expander_putBack_24 : decode b_Expander_putBack 24 = .ok (.iconst 0, 1) := by decide +kernel
theorem d_Expander_putBack_25 : decode b_Expander_putBack 25 = .ok (.putfield 63, 3) := by decide +kernel
theorem d_Expander_putBack_28 : decode b_Expander_putBack 28 = .ok (.aload_n 0, 1) := by decide +kernel
theorem d_Expander_putBack_29 : decode b_Expander_putBack 29 = .ok (.getfield 15, 3) := by decide +kernel
theorem d_Expander_putBack_32 : decode b_Expander_putBack 32 = .ok (.aload_n 0, 1) := by decide +kernel
theorem d_Expander_putBack_33 : decode b_Expander_putBack 33 = .ok (.getfield 43, 3) := by decide +kernel
theorem d_Expander_putBack_36 : decode b_Expander_putBack 36 = .ok (.aload_n 0, 1) := by decide +kernel
theorem d_Expander_putBack_37 : decode b_Expander_putBack 37 = .ok (.getfield 56, 3) := by decide +kernel
theorem d_Expander_putBack_40 : decode b_Expander_putBack 40 = .ok (.iaload, 1) := by decide +kernel
theorem d_Expander_putBack_41 : decode b_Expander_putBack 41 = .ok (.invokevirtual 121, 3) := by decide +kernel
theorem d_Expander_putBack_44 : decode b_Expander_putBack 44 = .ok (.iconst 0, 1) := by decide +kernel
theorem d_Expander_putBack_45 : decode b_Expander_putBack 45 = .ok (.ireturn, 1) := by decide +kernel
theorem d_Expander_expandOnce_0 : decode b_Expander_expandOnce 0 = .ok (.aload_n 0, 1) := by decide +kernel
theorem d_Expander_expandOnce_1 : decode b_Expander_expandOnce 1 = .ok (.invokevirtual 88, 3) := by decide +kernel
theorem d_Expander_expandOnce_4 : decode b_Expander_expandOnce 4 = .ok (.istore_n 1, 1) := by decide +kernel
theorem d_Expander_expandOnce_5 : decode b_Expander_expandOnce 5 = .ok (.iconst 0, 1) := by decide +kernel
theorem d_Expander_expandOnce_6 : decode b_Expander_expandOnce 6 = .ok (.istore_n 2, 1) := by decide +kernel
theorem d_Expander_expandOnce_7 : decode b_Expander_expandOnce 7 = .ok (.iload_n 2, 1) := by decide +kernel
theorem d_Expander_expandOnce_8 : decode b_Expander_expandOnce 8 = .ok (.ldc 91, 2) := by decide +kernel
theorem d_Expander_expandOnce_10 : decode b_Expander_expandOnce 10 = .ok (.if_icmp .ge 100, 3) := by decide +kernel
theorem d_Expander_expandOnce_13 : decode b_Expander_expandOnce 13 = .ok (.iload_n 1, 1) := by decide +kernel
theorem d_Expander_expandOnce_14 : decode b_Expander_expandOnce 14 = .ok (.ifCond .ne 96, 3) := by decide +kernel
theorem d_Expander_expandOnce_17 : decode b_Expander_expandOnce 17 = .ok (.aload_n 0, 1) := by decide +kernel
theorem d_Expander_expandOnce_18 : decode b_Expander_expandOnce 18 = .ok (.getfield 56, 3) := by decide +kernel
theorem d_Expander_expandOnce_21 : decode b_Expander_expandOnce 21 = .ok (.ifCond .le 89, 3) := by decide +kernel
theorem d_Expander_expandOnce_24 : decode b_Expander_expandOnce 24 = .ok (.aload_n 0, 1) := by decide +kernel
theorem d_Expander_expandOnce_25 : decode b_Expander_expandOnce 25 = .ok (.getfield 43, 3) := by decide +kernel
theorem d_Expander_expandOnce_28 : decode b_Expander_expandOnce 28 = .ok (.aload_n 0, 1) := by decide +kernel
theorem d_Expander_expandOnce_29 : decode b_Expander_expandOnce 29 = .ok (.getfield 56, 3) := by decide +kernel
theorem d_Expander_expandOnce_32 : decode b_Expander_expandOnce 32 = .ok (.iconst 1, 1) := by decide +kernel
theorem d_Expander_expandOnce_33 : decode b_Expander_expandOnce 33 = .ok (.isub, 1) := by decide +kernel
theorem d_Expander_expandOnce_34 : decode b_Expander_expandOnce 34 = .ok (.iaload, 1) := by decide +kernel
theorem d_Expander_expandOnce_35 : decode b_Expander_expandOnce 35 = .ok (.iconst (-1), 1) := by decide +kernel
theorem d_Expander_expandOnce_36 : decode b_Expander_expandOnce 36 = .ok (.if_icmp .ne 7, 3) := by decide +kernel
theorem d_Expander_expandOnce_39 : decode b_Expander_expandOnce 39 = .ok (.iconst 1, 1) := by decide +kernel
theorem d_Expander_expandOnce_40 : decode b_Expander_expandOnce 40 = .ok (.goto 4, 3) := by decide +kernel
theorem d_Expander_expandOnce_43 : decode b_Expander_expandOnce 43 = .ok (.iconst 0, 1) := by decide +kernel
theorem d_Expander_expandOnce_44 : decode b_Expander_expandOnce 44 = .ok (.istore_n 3, 1) := by decide +kernel
theorem d_Expander_expandOnce_45 : decode b_Expander_expandOnce 45 = .ok (.iload_n 3, 1) := by decide +kernel
theorem d_Expander_expandOnce_46 : decode b_Expander_expandOnce 46 = .ok (.ifCond .ne 10, 3) := by decide +kernel
theorem d_Expander_expandOnce_49 : decode b_Expander_expandOnce 49 = .ok (.aload_n 0, 1) := by decide +kernel
theorem d_Expander_expandOnce_50 : decode b_Expander_expandOnce 50 = .ok (.getfield 59, 3) := by decide +kernel
theorem d_Expander_expandOnce_53 : decode b_Expander_expandOnce 53 = .ok (.ifCond .eq 7, 3) := by decide +kernel
theorem d_Expander_expandOnce_56 : decode b_Expander_expandOnce 56 = .ok (.iconst 1, 1) := by decide +kernel
theorem d_Expander_expandOnce_57 : decode b_Expander_expandOnce 57 = .ok (.goto 4, 3) := by decide +kernel
theorem d_Expander_expandOnce_60 : decode b_Expander_expandOnce 60 = .ok (.iconst 0, 1) := by decide +kernel
theorem d_Expander_expandOnce_61 : decode b_Expander_expandOnce 61 = .ok (.istore 4, 2) := by decide +kernel
theorem d_Expander_expandOnce_63 : decode b_Expander_expandOnce 63 = .ok (.aload_n 0, 1) := by decide +kernel
theorem d_Expander_expandOnce_64 : decode b_Expander_expandOnce 64 = .ok (.iconst 0, 1) := by decide +kernel
theorem d_Expander_expandOnce_65 : decode b_Expander_expandOnce 65 = .ok (.putfield 59, 3) := by decide +kernel
theorem d_Expander_expandOnce_68 : decode b_Expander_expandOnce 68 = .ok (.iload 4, 2) := by decide +kernel
theorem d_Expander_expandOnce_70 : decode b_Expander_expandOnce 70 = .ok (.ifCond .eq 18, 3) := by decide +kernel
theorem d_Expander_expandOnce_73 : decode b_Expander_expandOnce 73 = .ok (.aload_n 0, 1) := by decide +kernel
theorem d_Expander_expandOnce_74 : decode b_Expander_expandOnce 74 = .ok (.invokevirtual 92, 3) := by decide +kernel
theorem d_Expander_expandOnce_77 : decode b_Expander_expandOnce 77 = .ok (.ifCond .eq 11, 3) := by decide +kernel
theorem d_Expander_expandOnce_80 : decode b_Expander_expandOnce 80 = .ok (.aload_n 0, 1) := by decide +kernel
theorem d_Expander_expandOnce_81 : decode b_Expander_expandOnce 81 = .ok (.invokevirtual 88, 3) := by decide +kernel
theorem d_Expander_expandOnce_84 : decode b_Expander_expandOnce 84 = .ok (.istore_n 1, 1) := by decide +kernel
theorem d_Expander_expandOnce_85 : decode b_Expander_expandOnce 85 = .ok (.goto 19, 3) := by decide +kernel
theorem d_Expander_expandOnce_88 : decode b_Expander_expandOnce 88 = .ok (.iload_n 3, 1) := by decide +kernel
theorem d_Expander_expandOnce_89 : decode b_Expander_expandOnce 89 = .ok (.ifCond .eq 10, 3) := by decide +kernel
theorem d_Expander_expandOnce_92 : decode b_Expander_expandOnce 92 = .ok (.aload_n 0, 1) := by decide +kernel
theorem d_Expander_expandOnce_93 : decode b_Expander_expandOnce 93 = .ok (.invokevirtual 96, 3) := by decide +kernel
theorem d_Expander_expandOnce_96 : decode b_Expander_expandOnce 96 = .ok (.goto 7, 3) := by decide +kernel
theorem d_Expander_expandOnce_99 : decode b_Expander_expandOnce 99 = .ok (.aload_n 0, 1) := by decide +kernel
theorem d_Expander_expandOnce_100 : decode b_Expander_expandOnce 100 = .ok (.invokevirtual 99, 3) := by decide +kernel
theorem d_Expander_expandOnce_103 : decode b_Expander_expandOnce 103 = .ok (.istore_n 1, 1) := by decide +kernel
theorem d_Expander_expandOnce_104 : decode b_Expander_expandOnce 104 = .ok (.iinc 2 1, 3) := by decide +kernel
theorem d_Expander_expandOnce_107 : decode b_Expander_expandOnce 107 = .ok (.goto (-100), 3) := by decide +kernel
theorem d_Expander_expandOnce_110 : decode b_Expander_expandOnce 110 = .ok (.iload_n 1, 1) := by decide +kernel
theorem d_Expander_expandOnce_111 : decode b_Expander_expandOnce 111 = .ok (.ireturn, 1) := by decide +kernel
theorem d_Definition_acceptName_0 : decode b_Definition_acceptName 0 = .ok (.iload_n 1, 1) := by decide +kernel
theorem d_Definition_acceptName_1 : decode b_Definition_acceptName 1 = .ok (.invokestatic 58, 3) := by decide +kernel
theorem d_Definition_acceptName_4 : decode b_Definition_acceptName 4 = .ok (.ifCond .ne 6, 3) := by decide +kernel
theorem d_Definition_acceptName_7 : decode b_Definition_acceptName 7 = .ok (.bipush 6, 2) := by decide +kernel
theorem d_Definition_acceptName_9 : decode b_Definition_acceptName 9 = .ok (.ireturn, 1) := by decide +kernel
theorem d_Definition_acceptName_10 : decode b_Definition_acceptName 10 = .ok (.aload_n 0, 1) := by decide +kernel
theorem d_Definition_acceptName_11 : decode b_Definition_acceptName 11 = .ok (.iload_n 1, 1) := by decide +kernel
theorem d_Definition_acceptName_12 : decode b_Definition_acceptName 12 = .ok (.putfield 35, 3) := by decide +kernel
theorem d_Definition_acceptName_15 : decode b_Definition_acceptName 15 = .ok (.aload_n 0, 1) := by decide +kernel
theorem d_Definition_acceptName_16 : decode b_Definition_acceptName 16 = .ok (.iconst 2, 1) := by decide +kernel
theorem d_Definition_acceptName_17 : decode b_Definition_acceptName 17 = .ok (.putfield 24, 3) := by decide +kernel
theorem d_Definition_acceptName_20 : decode b_Definition_acceptName 20 = .ok (.iconst 0, 1) := by decide +kernel
theorem d_Definition_acceptName_21 : decode b_Definition_acceptName 21 = .ok (.ireturn, 1) := by decide +kernel
theorem d_Definition_addTo_0 : decode b_Definition_addTo 0 = .ok (.aload_n 0, 1) := by decide +kernel
theorem d_Definition_addTo_1 : decode b_Definition_addTo 1 = .ok (.invokevirtual 86, 3) := by decide +kernel
theorem d_Definition_addTo_4 : decode b_Definition_addTo 4 = .ok (.ifCond .eq 6, 3) := by decide +kernel
theorem d_Definition_addTo_7 : decode b_Definition_addTo 7 = .ok (.bipush 8, 2) := by decide +kernel
theorem d_Definition_addTo_9 : decode b_Definition_addTo 9 = .ok (.ireturn, 1) := by decide +kernel
theorem d_Definition_addTo_10 : decode b_Definition_addTo 10 = .ok (.aload_n 0, 1) := by decide +kernel
theorem d_Definition_addTo_11 : decode b_Definition_addTo 11 = .ok (.iload_n 1, 1) := by decide +kernel
theorem d_Definition_addTo_12 : decode b_Definition_addTo 12 = .ok (.invokevirtual 89, 3) := by decide +kernel
theorem d_Definition_addTo_15 : decode b_Definition_addTo 15 = .ok (.iconst 0, 1) := by decide +kernel
theorem d_Definition_addTo_16 : decode b_Definition_addTo 16 = .ok (.ireturn, 1) := by decide +kernel
theorem d_Definition_acceptInRows_0 : decode b_Definition_acceptInRows 0 = .ok (.iload_n 1, 1) := by decide +kernel
theorem d_Definition_acceptInRows_1 : decode b_Definition_acceptInRows 1 = .ok (.sipush 257, 3) := by decide +kernel
theorem d_Definition_acceptInRows_4 : decode b_Definition_acceptInRows 4 = .ok (.if_icmp .ne 10, 3) := by decide +kernel
theorem d_Definition_acceptInRows_7 : decode b_Definition_acceptInRows 7 = .ok (.aload_n 0, 1) := by decide +kernel
theorem d_Definition_acceptInRows_8 : decode b_Definition_acceptInRows 8 = .ok (.iconst 3, 1) := by decide +kernel
theorem d_Definition_acceptInRows_9 : decode b_Definition_acceptInRows 9 = .ok (.putfield 24, 3) := by decide +kernel
theorem d_Definition_acceptInRows_12 : decode b_Definition_acceptInRows 12 = .ok (.iconst 0, 1) := by decide +kernel
theorem d_Definition_acceptInRows_13 : decode b_Definition_acceptInRows 13 = .ok (.ireturn, 1) := by decide +kernel
theorem d_Definition_acceptInRows_14 : decode b_Definition_acceptInRows 14 = .ok (.iload_n 1, 1) := by decide +kernel
theorem d_Definition_acceptInRows_15 : decode b_Definition_acceptInRows 15 = .ok (.sipush 258, 3) := by decide +kernel
theorem d_Definition_acceptInRows_18 : decode b_Definition_acceptInRows 18 = .ok (.if_icmp .ne 6, 3) := by decide +kernel
theorem d_Definition_acceptInRows_21 : decode b_Definition_acceptInRows 21 = .ok (.bipush 6, 2) := by decide +kernel
theorem d_Definition_acceptInRows_23 : decode b_Definition_acceptInRows 23 = .ok (.ireturn, 1) := by decide +kernel
theorem d_Definition_acceptInRows_24 : decode b_Definition_acceptInRows 24 = .ok (.iload_n 1, 1) := by decide +kernel
theorem d_Definition_acceptInRows_25 : decode b_Definition_acceptInRows 25 = .ok (.invokestatic 64, 3) := by decide +kernel
theorem d_Definition_acceptInRows_28 : decode b_Definition_acceptInRows 28 = .ok (.ifCond .eq 31, 3) := by decide +kernel
theorem d_Definition_acceptInRows_31 : decode b_Definition_acceptInRows 31 = .ok (.iload_n 1, 1) := by decide +kernel
theorem d_Definition_acceptInRows_32 : decode b_Definition_acceptInRows 32 = .ok (.invokestatic 67, 3) := by decide +kernel
theorem d_Definition_acceptInRows_35 : decode b_Definition_acceptInRows 35 = .ok (.aload_n 0, 1) := by decide +kernel
theorem d_Definition_acceptInRows_36 : decode b_Definition_acceptInRows 36 = .ok (.getfield 38, 3) := by decide +kernel
theorem d_Definition_acceptInRows_39 : decode b_Definition_acceptInRows 39 = .ok (.iconst 1, 1) := by decide +kernel
theorem d_Definition_acceptInRows_40 : decode b_Definition_acceptInRows 40 = .ok (.iadd, 1) := by decide +kernel
theorem d_Definition_acceptInRows_41 : decode b_Definition_acceptInRows 41 = .ok (.if_icmp .eq 6, 3) := by decide +kernel
theorem d_Definition_acceptInRows_44 : decode b_Definition_acceptInRows 44 = .ok (.bipush 6, 2) := by decide +kernel
theorem d_Definition_acceptInRows_46 : decode b_Definition_acceptInRows 46 = .ok (.ireturn, 1) := by decide +kernel
theorem d_Definition_acceptInRows_47 : decode b_Definition_acceptInRows 47 = .ok (.aload_n 0, 1) := by decide +kernel
theorem d_Definition_acceptInRows_48 : decode b_Definition_acceptInRows 48 = .ok (.dup, 1) := by decide +kernel
theorem d_Definition_acceptInRows_49 : decode b_Definition_acceptInRows 49 = .ok (.getfield 38, 3) := by decide +kernel
theorem d_Definition_acceptInRows_52 : decode b_Definition_acceptInRows 52 = .ok (.iconst 1, 1) := by decide +kernel
theorem d_Definition_acceptInRows_53 : decode b_Definition_acceptInRows 53 = .ok (.iadd, 1) := by decide +kernel
theorem d_Definition_acceptInRows_54 : decode b_Definition_acceptInRows 54 = .ok (.putfield 38, 3) := by decide +kernel
theorem d_Definition_acceptInRows_57 : decode b_Definition_acceptInRows 57 = .ok (.iconst 0, 1) := by decide +kernel
theorem d_Definition_acceptInRows_58 : decode b_Definition_acceptInRows 58 = .ok (.ireturn, 1) := by decide +kernel
theorem d_Definition_acceptInRows_59 : decode b_Definition_acceptInRows 59 = .ok (.aload_n 0, 1) := by decide +kernel
theorem d_Definition_acceptInRows_60 : decode b_Definition_acceptInRows 60 = .ok (.getfield 11, 3) := by decide +kernel
theorem d_Definition_acceptInRows_63 : decode b_Definition_acceptInRows 63 = .ok (.iconst 0, 1) := by decide +kernel
theorem d_Definition_acceptInRows_64 : decode b_Definition_acceptInRows 64 = .ok (.aload_n 0, 1) := by decide +kernel
theorem d_Definition_acceptInRows_65 : decode b_Definition_acceptInRows 65 = .ok (.getfield 38, 3) := by decide +kernel
theorem d_Definition_acceptInRows_68 : decode b_Definition_acceptInRows 68 = .ok (.aload_n 0, 1) := by decide +kernel
theorem d_Definition_acceptInRows_69 : decode b_Definition_acceptInRows 69 = .ok (.getfield 11, 3) := by decide +kernel
theorem d_Definition_acceptInRows_72 : decode b_Definition_acceptInRows 72 = .ok (.arraylength, 1) := by decide +kernel
theorem d_Definition_acceptInRows_73 : decode b_Definition_acceptInRows 73 = .ok (.iconst 1, 1) := by decide +kernel
theorem d_Definition_acceptInRows_74 : decode b_Definition_acceptInRows 74 = .ok (.isub, 1) := by decide +kernel
theorem d_Definition_acceptInRows_75 : decode b_Definition_acceptInRows 75 = .ok (.invokestatic 70, 3) := by decide +kernel
theorem d_Definition_acceptInRows_78 : decode b_Definition_acceptInRows 78 = .ok (.invokestatic 76, 3) := by decide +kernel
theorem d_Definition_acceptInRows_81 : decode b_Definition_acceptInRows 81 = .ok (.aaload, 1) := by decide +kernel
theorem d_Definition_acceptInRows_82 : decode b_Definition_acceptInRows 82 = .ok (.iload_n 1, 1) := by decide +kernel
theorem d_Definition_acceptInRows_83 : decode b_Definition_acceptInRows 83 = .ok (.invokestatic 79, 3) := by decide +kernel
theorem d_Definition_acceptInRows_86 : decode b_Definition_acceptInRows 86 = .ok (.ireturn, 1) := by decide +kernel
theorem d_Definition_acceptInText_0 : decode b_Definition_acceptInText 0 = .ok (.aload_n 0, 1) := by decide +kernel
theorem d_Definition_acceptInText_1 : decode b_Definition_acceptInText 1 = .ok (.dup, 1) := by decide +kernel
theorem d_Definition_acceptInText_2 : decode b_Definition_acceptInText 2 = .ok (.getfield 41, 3) := by decide +kernel
theorem d_Definition_acceptInText_5 : decode b_Definition_acceptInText 5 = .ok (.iload_n 1, 1) := by decide +kernel
theorem d_Definition_acceptInText_6 : decode b_Definition_acceptInText 6 = .ok (.invokestatic 83, 3) := by decide +kernel
theorem d_Definition_acceptInText_9 : decode b_Definition_acceptInText 9 = .ok (.iadd, 1) := by decide +kernel
theorem d_Definition_acceptInText_10 : decode b_Definition_acceptInText 10 = .ok (.putfield 41, 3) := by decide +kernel
theorem d_Definition_acceptInText_13 : decode b_Definition_acceptInText 13 = .ok (.aload_n 0, 1) := by decide +kernel
theorem d_Definition_acceptInText_14 : decode b_Definition_acceptInText 14 = .ok (.getfield 41, 3) := by decide +kernel
theorem d_Definition_acceptInText_17 : decode b_Definition_acceptInText 17 = .ok (.ifCond .ne 10, 3) := by decide +kernel
theorem d_Definition_acceptInText_20 : decode b_Definition_acceptInText 20 = .ok (.aload_n 0, 1) := by decide +kernel
theorem d_Definition_acceptInText_21 : decode b_Definition_acceptInText 21 = .ok (.iconst 4, 1) := by decide +kernel
theorem d_Definition_acceptInText_22 : decode b_Definition_acceptInText 22 = .ok (.putfield 24, 3) := by decide +kernel
theorem d_Definition_acceptInText_25 : decode b_Definition_acceptInText 25 = .ok (.iconst 0, 1) := by decide +kernel
theorem d_Definition_acceptInText_26 : decode b_Definition_acceptInText 26 = .ok (.ireturn, 1) := by decide +kernel
theorem d_Definition_acceptInText_27 : decode b_Definition_acceptInText 27 = .ok (.iload_n 1, 1) := by decide +kernel
theorem d_Definition_acceptInText_28 : decode b_Definition_acceptInText 28 = .ok (.invokestatic 67, 3) := by decide +kernel
theorem d_Definition_acceptInText_31 : decode b_Definition_acceptInText 31 = .ok (.aload_n 0, 1) := by decide +kernel
theorem d_Definition_acceptInText_32 : decode b_Definition_acceptInText 32 = .ok (.getfield 38, 3) := by decide +kernel
theorem d_Definition_acceptInText_35 : decode b_Definition_acceptInText 35 = .ok (.if_icmp .le 6, 3) := by decide +kernel
theorem d_Definition_acceptInText_38 : decode b_Definition_acceptInText 38 = .ok (.bipush 6, 2) := by decide +kernel
theorem d_Definition_acceptInText_40 : decode b_Definition_acceptInText 40 = .ok (.ireturn, 1) := by decide +kernel
theorem d_Definition_acceptInText_41 : decode b_Definition_acceptInText 41 = .ok (.aload_n 0, 1) := by decide +kernel
theorem d_Definition_acceptInText_42 : decode b_Definition_acceptInText 42 = .ok (.getfield 20, 3) := by decide +kernel
theorem d_Definition_acceptInText_45 : decode b_Definition_acceptInText 45 = .ok (.iload_n 1, 1) := by decide +kernel
theorem d_Definition_acceptInText_46 : decode b_Definition_acceptInText 46 = .ok (.invokestatic 79, 3) := by decide +kernel
theorem d_Definition_acceptInText_49 : decode b_Definition_acceptInText 49 = .ok (.ireturn, 1) := by decide +kernel
theorem d_Definition_accept_0 : decode b_Definition_accept 0 = .ok (.aload_n 0, 1) := by decide +kernel
theorem d_Definition_accept_1 : decode b_Definition_accept 1 = .ok (.getfield 24, 3) := by decide +kernel
theorem d_Definition_accept_4 : decode b_Definition_accept 4 = .ok (.iconst 1, 1) := by decide +kernel
theorem d_Definition_accept_5 : decode b_Definition_accept 5 = .ok (.if_icmp .ne 9, 3) := by decide +kernel
theorem d_Definition_accept_8 : decode b_Definition_accept 8 = .ok (.aload_n 0, 1) := by decide +kernel
theorem d_Definition_accept_9 : decode b_Definition_accept 9 = .ok (.iload_n 1, 1) := by decide +kernel
theorem d_Definition_accept_10 : decode b_Definition_accept 10 = .ok (.invokevirtual 48, 3) := by decide +kernel
theorem d_Definition_accept_13 : decode b_Definition_accept 13 = .ok (.ireturn, 1) := by decide +kernel
theorem d_Definition_accept_14 : decode b_Definition_accept 14 = .ok (.aload_n 0, 1) := by decide +kernel
theorem d_Definition_accept_15 : decode b_Definition_accept 15 = .ok (.getfield 24, 3) := by decide +kernel
theorem d_Definition_accept_18 : decode b_Definition_accept 18 = .ok (.iconst 2, 1) := by decide +kernel
theorem d_Definition_accept_19 : decode b_Definition_accept 19 = .ok (.if_icmp .ne 11, 3) := by decide +kernel
theorem d_Definition_accept_22 : decode b_Definition_accept 22 = .ok (.aload_n 0, 1) := by decide +kernel
theorem d_Definition_accept_23 : decode b_Definition_accept 23 = .ok (.iload_n 1, 1) := by decide +kernel
theorem d_Definition_accept_24 : decode b_Definition_accept 24 = .ok (.invokevirtual 52, 3) := by decide +kernel
theorem d_Definition_accept_27 : decode b_Definition_accept 27 = .ok (.goto 8, 3) := by decide +kernel
theorem d_Definition_accept_30 : decode b_Definition_accept 30 = .ok (.aload_n 0, 1) := by decide +kernel
theorem d_Definition_accept_31 : decode b_Definition_accept 31 = .ok (.iload_n 1, 1) := by decide +kernel
theorem d_Definition_accept_32 : decode b_Definition_accept 32 = .ok (.invokevirtual 55, 3) := by decide +kernel
theorem d_Definition_accept_35 : decode b_Definition_accept 35 = .ok (.ireturn, 1) := by decide +kernel
theorem d_Definition_isRead_0 : decode b_Definition_isRead 0 = .ok (.aload_n 0, 1) := by decide +kernel
theorem d_Definition_isRead_1 : decode b_Definition_isRead 1 = .ok (.getfield 24, 3) := by decide +kernel
theorem d_Definition_isRead_4 : decode b_Definition_isRead 4 = .ok (.iconst 4, 1) := by decide +kernel
theorem d_Definition_isRead_5 : decode b_Definition_isRead 5 = .ok (.if_icmp .ne 7, 3) := by decide +kernel
theorem d_Definition_isRead_8 : decode b_Definition_isRead 8 = .ok (.iconst 1, 1) := by decide +kernel
theorem d_Definition_isRead_9 : decode b_Definition_isRead 9 = .ok (.goto 4, 3) := by decide +kernel
theorem d_Definition_isRead_12 : decode b_Definition_isRead 12 = .ok (.iconst 0, 1) := by decide +kernel
theorem d_Definition_isRead_13 : decode b_Definition_isRead 13 = .ok (.ireturn, 1) := by decide +kernel
theorem d_Row_copyFrom_0 : decode b_Row_copyFrom 0 = .ok (.aload_n 0, 1) := by decide +kernel
theorem d_Row_copyFrom_1 : decode b_Row_copyFrom 1 = .ok (.aload_n 1, 1) := by decide +kernel
theorem d_Row_copyFrom_2 : decode b_Row_copyFrom 2 = .ok (.getfield 15, 3) := by decide +kernel
theorem d_Row_copyFrom_5 : decode b_Row_copyFrom 5 = .ok (.aload_n 1, 1) := by decide +kernel
theorem d_Row_copyFrom_6 : decode b_Row_copyFrom 6 = .ok (.getfield 19, 3) := by decide +kernel
theorem d_Row_copyFrom_9 : decode b_Row_copyFrom 9 = .ok (.aload_n 0, 1) := by decide +kernel
theorem d_Row_copyFrom_10 : decode b_Row_copyFrom 10 = .ok (.getfield 9, 3) := by decide +kernel
theorem d_Row_copyFrom_13 : decode b_Row_copyFrom 13 = .ok (.invokestatic 22, 3) := by decide +kernel
theorem d_Row_copyFrom_16 : decode b_Row_copyFrom 16 = .ok (.invokestatic 28, 3) := by decide +kernel
theorem d_Row_copyFrom_19 : decode b_Row_copyFrom 19 = .ok (.putfield 15, 3) := by decide +kernel
theorem d_Row_copyFrom_22 : decode b_Row_copyFrom 22 = .ok (.aload_n 0, 1) := by decide +kernel
theorem d_Row_copyFrom_23 : decode b_Row_copyFrom 23 = .ok (.aload_n 0, 1) := by decide +kernel
theorem d_Row_copyFrom_24 : decode b_Row_copyFrom 24 = .ok (.getfield 15, 3) := by decide +kernel
theorem d_Row_copyFrom_27 : decode b_Row_copyFrom 27 = .ok (.arraylength, 1) := by decide +kernel
theorem d_Row_copyFrom_28 : decode b_Row_copyFrom 28 = .ok (.putfield 19, 3) := by decide +kernel
theorem d_Row_copyFrom_31 : decode b_Row_copyFrom 31 = .ok (.return_, 1) := by decide +kernel
theorem d_Definition_toMacro_0 : decode b_Definition_toMacro 0 = .ok (.new 92, 3) := by decide +kernel
theorem d_Definition_toMacro_3 : decode b_Definition_toMacro 3 = .ok (.dup, 1) := by decide +kernel
theorem d_Definition_toMacro_4 : decode b_Definition_toMacro 4 = .ok (.aload_n 0, 1) := by decide +kernel
theorem d_Definition_toMacro_5 : decode b_Definition_toMacro 5 = .ok (.getfield 38, 3) := by decide +kernel
theorem d_Definition_toMacro_8 : decode b_Definition_toMacro 8 = .ok (.iload_n 1, 1) := by decide +kernel
theorem d_Definition_toMacro_9 : decode b_Definition_toMacro 9 = .ok (.invokespecial 94, 3) := by decide +kernel
theorem d_Definition_toMacro_12 : decode b_Definition_toMacro 12 = .ok (.astore_n 2, 1) := by decide +kernel
theorem d_Definition_toMacro_13 : decode b_Definition_toMacro 13 = .ok (.iconst 0, 1) := by decide +kernel
theorem d_Definition_toMacro_14 : decode b_Definition_toMacro 14 = .ok (.istore_n 3, 1) := by decide +kernel
theorem d_Definition_toMacro_15 : decode b_Definition_toMacro 15 = .ok (.iload_n 3, 1) := by decide +kernel
theorem d_Definition_toMacro_16 : decode b_Definition_toMacro 16 = .ok (.aload_n 0, 1) := by decide +kernel
theorem d_Definition_toMacro_17 : decode b_Definition_toMacro 17 = .ok (.getfield 38, 3) := by decide +kernel
theorem d_Definition_toMacro_20 : decode b_Definition_toMacro 20 = .ok (.if_icmp .gt 32, 3) := by decide +kernel
theorem d_Definition_toMacro_23 : decode b_Definition_toMacro 23 = .ok (.iload_n 3, 1) := by decide +kernel
theorem d_Definition_toMacro_24 : decode b_Definition_toMacro 24 = .ok (.aload_n 0, 1) := by decide +kernel
theorem d_Definition_toMacro_25 : decode b_Definition_toMacro 25 = .ok (.getfield 11, 3) := by decide +kernel
theorem d_Definition_toMacro_28 : decode b_Definition_toMacro 28 = .ok (.arraylength, 1) := by decide +kernel
theorem d_Definition_toMacro_29 : decode b_Definition_toMacro 29 = .ok (.if_icmp .ge 23, 3) := by decide +kernel
theorem d_Definition_toMacro_32 : decode b_Definition_toMacro 32 = .ok (.aload_n 2, 1) := by decide +kernel
theorem d_Definition_toMacro_33 : decode b_Definition_toMacro 33 = .ok (.iload_n 3, 1) := by decide +kernel
theorem d_Definition_toMacro_34 : decode b_Definition_toMacro 34 = .ok (.invokevirtual 97, 3) := by decide +kernel
theorem d_Definition_toMacro_37 : decode b_Definition_toMacro 37 = .ok (.aload_n 0, 1) := by decide +kernel
theorem d_Definition_toMacro_38 : decode b_Definition_toMacro 38 = .ok (.getfield 11, 3) := by decide +kernel
theorem d_Definition_toMacro_41 : decode b_Definition_toMacro 41 = .ok (.iload_n 3, 1) := by decide +kernel
theorem d_Definition_toMacro_42 : decode b_Definition_toMacro 42 = .ok (.aaload, 1) := by decide +kernel
theorem d_Definition_toMacro_43 : decode b_Definition_toMacro 43 = .ok (.invokevirtual 101, 3) := by decide +kernel
theorem d_Definition_toMacro_46 : decode b_Definition_toMacro 46 = .ok (.iinc 3 1, 3) := by decide +kernel
theorem d_Definition_toMacro_49 : decode b_Definition_toMacro 49 = .ok (.goto (-34), 3) := by decide +kernel
theorem d_Definition_toMacro_52 : decode b_Definition_toMacro 52 = .ok (.aload_n 2, 1) := by decide +kernel
theorem d_Definition_toMacro_53 : decode b_Definition_toMacro 53 = .ok (.getfield 105, 3) := by decide +kernel
theorem d_Definition_toMacro_56 : decode b_Definition_toMacro 56 = .ok (.aload_n 0, 1) := by decide +kernel
theorem d_Definition_toMacro_57 : decode b_Definition_toMacro 57 = .ok (.getfield 20, 3) := by decide +kernel
theorem d_Definition_toMacro_60 : decode b_Definition_toMacro 60 = .ok (.invokevirtual 101, 3) := by decide +kernel
theorem d_Definition_toMacro_63 : decode b_Definition_toMacro 63 = .ok (.aload_n 2, 1) := by decide +kernel
theorem d_Definition_toMacro_64 : decode b_Definition_toMacro 64 = .ok (.areturn, 1) := by decide +kernel
theorem d_Whole_goOnDefining_0 : decode b_Whole_goOnDefining 0 = .ok (.aload_n 0, 1) := by decide +kernel
theorem d_Whole_goOnDefining_1 : decode b_Whole_goOnDefining 1 = .ok (.getfield 26, 3) := by decide +kernel
theorem d_Whole_goOnDefining_4 : decode b_Whole_goOnDefining 4 = .ok (.iload_n 1, 1) := by decide +kernel
theorem d_Whole_goOnDefining_5 : decode b_Whole_goOnDefining 5 = .ok (.invokevirtual 105, 3) := by decide +kernel
theorem d_Whole_goOnDefining_8 : decode b_Whole_goOnDefining 8 = .ok (.istore_n 2, 1) := by decide +kernel
theorem d_Whole_goOnDefining_9 : decode b_Whole_goOnDefining 9 = .ok (.aload_n 0, 1) := by decide +kernel
theorem d_Whole_goOnDefining_10 : decode b_Whole_goOnDefining 10 = .ok (.getfield 19, 3) := by decide +kernel
theorem d_Whole_goOnDefining_13 : decode b_Whole_goOnDefining 13 = .ok (.aload_n 0, 1) := by decide +kernel
theorem d_Whole_goOnDefining_14 : decode b_Whole_goOnDefining 14 = .ok (.getfield 26, 3) := by decide +kernel
theorem d_Whole_goOnDefining_17 : decode b_Whole_goOnDefining 17 = .ok (.getfield 108, 3) := by decide +kernel
theorem d_Whole_goOnDefining_20 : decode b_Whole_goOnDefining 20 = .ok (.putfield 111, 3) := by decide +kernel
theorem d_Whole_goOnDefining_23 : decode b_Whole_goOnDefining 23 = .ok (.iload_n 2, 1) := by decide +kernel
theorem d_Whole_goOnDefining_24 : decode b_Whole_goOnDefining 24 = .ok (.ifCond .ne 13, 3) := by decide +kernel
theorem d_Whole_goOnDefining_27 : decode b_Whole_goOnDefining 27 = .ok (.aload_n 0, 1) := by decide +kernel
theorem d_Whole_goOnDefining_28 : decode b_Whole_goOnDefining 28 = .ok (.getfield 26, 3) := by decide +kernel
theorem d_Whole_goOnDefining_31 : decode b_Whole_goOnDefining 31 = .ok (.invokevirtual 114, 3) := by decide +kernel
theorem d_Whole_goOnDefining_34 : decode b_Whole_goOnDefining 34 = .ok (.ifCond .ne 5, 3) := by decide +kernel
theorem d_Whole_goOnDefining_37 : decode b_Whole_goOnDefining 37 = .ok (.iload_n 2, 1) := by decide +kernel
theorem d_Whole_goOnDefining_38 : decode b_Whole_goOnDefining 38 = .ok (.ireturn, 1) := by decide +kernel
theorem d_Whole_goOnDefining_39 : decode b_Whole_goOnDefining 39 = .ok (.aload_n 0, 1) := by decide +kernel
theorem d_Whole_goOnDefining_40 : decode b_Whole_goOnDefining 40 = .ok (.getfield 15, 3) := by decide +kernel
theorem d_Whole_goOnDefining_43 : decode b_Whole_goOnDefining 43 = .ok (.invokevirtual 117, 3) := by decide +kernel
theorem d_Whole_goOnDefining_46 : decode b_Whole_goOnDefining 46 = .ok (.ifCond .eq 6, 3) := by decide +kernel
theorem d_Whole_goOnDefining_49 : decode b_Whole_goOnDefining 49 = .ok (.bipush 8, 2) := by decide +kernel
theorem d_Whole_goOnDefining_51 : decode b_Whole_goOnDefining 51 = .ok (.ireturn, 1) := by decide +kernel
theorem d_Whole_goOnDefining_52 : decode b_Whole_goOnDefining 52 = .ok (.aload_n 0, 1) := by decide +kernel
theorem d_Whole_goOnDefining_53 : decode b_Whole_goOnDefining 53 = .ok (.getfield 15, 3) := by decide +kernel
theorem d_Whole_goOnDefining_56 : decode b_Whole_goOnDefining 56 = .ok (.aload_n 0, 1) := by decide +kernel
theorem d_Whole_goOnDefining_57 : decode b_Whole_goOnDefining 57 = .ok (.getfield 26, 3) := by decide +kernel
theorem d_Whole_goOnDefining_60 : decode b_Whole_goOnDefining 60 = .ok (.getfield 108, 3) := by decide +kernel
theorem d_Whole_goOnDefining_63 : decode b_Whole_goOnDefining 63 = .ok (.aload_n 0, 1) := by decide +kernel
theorem d_Whole_goOnDefining_64 : decode b_Whole_goOnDefining 64 = .ok (.getfield 26, 3) := by decide +kernel
theorem d_Whole_goOnDefining_67 : decode b_Whole_goOnDefining 67 = .ok (.aload_n 0, 1) := by decide +kernel
theorem d_Whole_goOnDefining_68 : decode b_Whole_goOnDefining 68 = .ok (.getfield 39, 3) := by decide +kernel
theorem d_Whole_goOnDefining_71 : decode b_Whole_goOnDefining 71 = .ok (.invokevirtual 120, 3) := by decide +kernel
theorem d_Whole_goOnDefining_74 : decode b_Whole_goOnDefining 74 = .ok (.aload_n 0, 1) := by decide +kernel
theorem d_Whole_goOnDefining_75 : decode b_Whole_goOnDefining 75 = .ok (.getfield 39, 3) := by decide +kernel
theorem d_Whole_goOnDefining_78 : decode b_Whole_goOnDefining 78 = .ok (.invokevirtual 124, 3) := by decide +kernel
theorem d_Whole_goOnDefining_81 : decode b_Whole_goOnDefining 81 = .ok (.pop, 1) := by decide +kernel
theorem d_Whole_goOnDefining_82 : decode b_Whole_goOnDefining 82 = .ok (.aload_n 0, 1) := by decide +kernel
theorem d_Whole_goOnDefining_83 : decode b_Whole_goOnDefining 83 = .ok (.getfield 26, 3) := by decide +kernel
theorem d_Whole_goOnDefining_86 : decode b_Whole_goOnDefining 86 = .ok (.invokevirtual 49, 3) := by decide +kernel
theorem d_Whole_goOnDefining_89 : decode b_Whole_goOnDefining 89 = .ok (.aload_n 0, 1) := by decide +kernel
theorem d_Whole_goOnDefining_90 : decode b_Whole_goOnDefining 90 = .ok (.getfield 19, 3) := by decide +kernel
theorem d_Whole_goOnDefining_93 : decode b_Whole_goOnDefining 93 = .ok (.iconst 0, 1) := by decide +kernel
theorem d_Whole_goOnDefining_94 : decode b_Whole_goOnDefining 94 = .ok (.putfield 111, 3) := by decide +kernel
theorem d_Whole_goOnDefining_97 : decode b_Whole_goOnDefining 97 = .ok (.aload_n 0, 1) := by decide +kernel
theorem d_Whole_goOnDefining_98 : decode b_Whole_goOnDefining 98 = .ok (.iconst 0, 1) := by decide +kernel
theorem d_Whole_goOnDefining_99 : decode b_Whole_goOnDefining 99 = .ok (.putfield 39, 3) := by decide +kernel
theorem d_Whole_goOnDefining_102 : decode b_Whole_goOnDefining 102 = .ok (.aload_n 0, 1) := by decide +kernel
theorem d_Whole_goOnDefining_103 : decode b_Whole_goOnDefining 103 = .ok (.getfield 43, 3) := by decide +kernel
theorem d_Whole_goOnDefining_106 : decode b_Whole_goOnDefining 106 = .ok (.iconst (-1), 1) := by decide +kernel
theorem d_Whole_goOnDefining_107 : decode b_Whole_goOnDefining 107 = .ok (.if_icmp .eq 19, 3) := by decide +kernel
theorem d_Whole_goOnDefining_110 : decode b_Whole_goOnDefining 110 = .ok (.aload_n 0, 1) := by decide +kernel
theorem d_Whole_goOnDefining_111 : decode b_Whole_goOnDefining 111 = .ok (.getfield 9, 3) := by decide +kernel
theorem d_Whole_goOnDefining_114 : decode b_Whole_goOnDefining 114 = .ok (.aload_n 0, 1) := by decide +kernel
theorem d_Whole_goOnDefining_115 : decode b_Whole_goOnDefining 115 = .ok (.getfield 43, 3) := by decide +kernel
theorem d_Whole_goOnDefining_118 : decode b_Whole_goOnDefining 118 = .ok (.invokevirtual 128, 3) := by decide +kernel
theorem d_Whole_goOnDefining_121 : decode b_Whole_goOnDefining 121 = .ok (.aload_n 0, 1) := by decide +kernel
theorem d_Whole_goOnDefining_122 : decode b_Whole_goOnDefining 122 = .ok (.iconst (-1), 1) := by decide +kernel
theorem d_Whole_goOnDefining_123 : decode b_Whole_goOnDefining 123 = .ok (.putfield 43, 3) := by decide +kernel
theorem d_Whole_goOnDefining_126 : decode b_Whole_goOnDefining 126 = .ok (.iconst 0, 1) := by decide +kernel
theorem d_Whole_goOnDefining_127 : decode b_Whole_goOnDefining 127 = .ok (.ireturn, 1) := by decide +kernel
theorem d_Kind_markOf_0 : decode b_Kind_markOf 0 = .ok (.iload_n 0, 1) := by decide +kernel
theorem d_Kind_markOf_1 : decode b_Kind_markOf 1 = .ok (.sipush 266, 3) := by decide +kernel
theorem d_Kind_markOf_4 : decode b_Kind_markOf 4 = .ok (.if_icmp .ne 5, 3) := by decide +kernel
theorem d_Kind_markOf_7 : decode b_Kind_markOf 7 = .ok (.iconst 1, 1) := by decide +kernel
theorem d_Kind_markOf_8 : decode b_Kind_markOf 8 = .ok (.ireturn, 1) := by decide +kernel
theorem d_Kind_markOf_9 : decode b_Kind_markOf 9 = .ok (.iload_n 0, 1) := by decide +kernel
theorem d_Kind_markOf_10 : decode b_Kind_markOf 10 = .ok (.sipush 267, 3) := by decide +kernel
theorem d_Kind_markOf_13 : decode b_Kind_markOf 13 = .ok (.if_icmp .ne 5, 3) := by decide +kernel
theorem d_Kind_markOf_16 : decode b_Kind_markOf 16 = .ok (.iconst 2, 1) := by decide +kernel
theorem d_Kind_markOf_17 : decode b_Kind_markOf 17 = .ok (.ireturn, 1) := by decide +kernel
theorem d_Kind_markOf_18 : decode b_Kind_markOf 18 = .ok (.iload_n 0, 1) := by decide +kernel
theorem d_Kind_markOf_19 : decode b_Kind_markOf 19 = .ok (.sipush 268, 3) := by decide +kernel
theorem d_Kind_markOf_22 : decode b_Kind_markOf 22 = .ok (.if_icmp .ne 7, 3) := by decide +kernel
theorem d_Kind_markOf_25 : decode b_Kind_markOf 25 = .ok (.iconst 4, 1) := by decide +kernel
theorem d_Kind_markOf_26 : decode b_Kind_markOf 26 = .ok (.goto 4, 3) := by decide +kernel
theorem d_Kind_markOf_29 : decode b_Kind_markOf 29 = .ok (.iconst 0, 1) := by decide +kernel
theorem d_Kind_markOf_30 : decode b_Kind_markOf 30 = .ok (.ireturn, 1) := by decide +kernel
