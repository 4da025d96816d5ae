theorem d_MacroExpandModel_nameOf_0 : decode b_MacroExpandModel_nameOf 0 = .ok (.iconst 0, 1) := by decide +kernel
theorem d_MacroExpandModel_nameOf_1 : decode b_MacroExpandModel_nameOf 1 = .ok (.istore_n 3, 1) := by decide +kernel
theorem d_MacroExpandModel_nameOf_2 : decode b_MacroExpandModel_nameOf 2 = .ok (.iload_n 3, 1) := by decide +kernel
theorem d_MacroExpandModel_nameOf_3 : decode b_MacroExpandModel_nameOf 3 = .ok (.aload_n 0, 1) := by decide +kernel
theorem d_MacroExpandModel_nameOf_4 : decode b_MacroExpandModel_nameOf 4 = .ok (.getfield 172, 3) := by decide +kernel
theorem d_MacroExpandModel_nameOf_7 : decode b_MacroExpandModel_nameOf 7 = .ok (.if_icmp .ge 91, 3) := by decide +kernel
theorem d_MacroExpandModel_nameOf_10 : decode b_MacroExpandModel_nameOf 10 = .ok (.aload_n 0, 1) := by decide +kernel
theorem d_MacroExpandModel_nameOf_11 : decode b_MacroExpandModel_nameOf 11 = .ok (.getfield 41, 3) := by decide +kernel
theorem d_MacroExpandModel_nameOf_14 : decode b_MacroExpandModel_nameOf 14 = .ok (.iload_n 3, 1) := by decide +kernel
theorem d_MacroExpandModel_nameOf_15 : decode b_MacroExpandModel_nameOf 15 = .ok (.iaload, 1) := by decide +kernel
theorem d_MacroExpandModel_nameOf_16 : decode b_MacroExpandModel_nameOf 16 = .ok (.iload_n 2, 1) := by decide +kernel
theorem d_MacroExpandModel_nameOf_17 : decode b_MacroExpandModel_nameOf 17 = .ok (.if_icmp .ne 7, 3) := by decide +kernel
theorem d_MacroExpandModel_nameOf_20 : decode b_MacroExpandModel_nameOf 20 = .ok (.iconst 1, 1) := by decide +kernel
theorem d_MacroExpandModel_nameOf_21 : decode b_MacroExpandModel_nameOf 21 = .ok (.goto 4, 3) := by decide +kernel
theorem d_MacroExpandModel_nameOf_24 : decode b_MacroExpandModel_nameOf 24 = .ok (.iconst 0, 1) := by decide +kernel
theorem d_MacroExpandModel_nameOf_25 : decode b_MacroExpandModel_nameOf 25 = .ok (.istore 4, 2) := by decide +kernel
theorem d_MacroExpandModel_nameOf_27 : decode b_MacroExpandModel_nameOf 27 = .ok (.iconst 0, 1) := by decide +kernel
theorem d_MacroExpandModel_nameOf_28 : decode b_MacroExpandModel_nameOf 28 = .ok (.istore 5, 2) := by decide +kernel
theorem d_MacroExpandModel_nameOf_30 : decode b_MacroExpandModel_nameOf 30 = .ok (.iload 5, 2) := by decide +kernel
theorem d_MacroExpandModel_nameOf_32 : decode b_MacroExpandModel_nameOf 32 = .ok (.iload_n 2, 1) := by decide +kernel
theorem d_MacroExpandModel_nameOf_33 : decode b_MacroExpandModel_nameOf 33 = .ok (.if_icmp .ge 48, 3) := by decide +kernel
theorem d_MacroExpandModel_nameOf_36 : decode b_MacroExpandModel_nameOf 36 = .ok (.iload 4, 2) := by decide +kernel
theorem d_MacroExpandModel_nameOf_38 : decode b_MacroExpandModel_nameOf 38 = .ok (.ifCond .eq 43, 3) := by decide +kernel
theorem d_MacroExpandModel_nameOf_41 : decode b_MacroExpandModel_nameOf 41 = .ok (.aload_n 0, 1) := by decide +kernel
theorem d_MacroExpandModel_nameOf_42 : decode b_MacroExpandModel_nameOf 42 = .ok (.getfield 44, 3) := by decide +kernel
theorem d_MacroExpandModel_nameOf_45 : decode b_MacroExpandModel_nameOf 45 = .ok (.bipush 8, 2) := by decide +kernel
theorem d_MacroExpandModel_nameOf_47 : decode b_MacroExpandModel_nameOf 47 = .ok (.iload_n 3, 1) := by decide +kernel
theorem d_MacroExpandModel_nameOf_48 : decode b_MacroExpandModel_nameOf 48 = .ok (.imul, 1) := by decide +kernel
theorem d_MacroExpandModel_nameOf_49 : decode b_MacroExpandModel_nameOf 49 = .ok (.iload 5, 2) := by decide +kernel
theorem d_MacroExpandModel_nameOf_51 : decode b_MacroExpandModel_nameOf 51 = .ok (.iadd, 1) := by decide +kernel
theorem d_MacroExpandModel_nameOf_52 : decode b_MacroExpandModel_nameOf 52 = .ok (.iaload, 1) := by decide +kernel
theorem d_MacroExpandModel_nameOf_53 : decode b_MacroExpandModel_nameOf 53 = .ok (.aload_n 0, 1) := by decide +kernel
theorem d_MacroExpandModel_nameOf_54 : decode b_MacroExpandModel_nameOf 54 = .ok (.getfield 56, 3) := by decide +kernel
theorem d_MacroExpandModel_nameOf_57 : decode b_MacroExpandModel_nameOf 57 = .ok (.bipush 8, 2) := by decide +kernel
theorem d_MacroExpandModel_nameOf_59 : decode b_MacroExpandModel_nameOf 59 = .ok (.iload_n 1, 1) := by decide +kernel
theorem d_MacroExpandModel_nameOf_60 : decode b_MacroExpandModel_nameOf 60 = .ok (.imul, 1) := by decide +kernel
theorem d_MacroExpandModel_nameOf_61 : decode b_MacroExpandModel_nameOf 61 = .ok (.iload 5, 2) := by decide +kernel
theorem d_MacroExpandModel_nameOf_63 : decode b_MacroExpandModel_nameOf 63 = .ok (.iadd, 1) := by decide +kernel
theorem d_MacroExpandModel_nameOf_64 : decode b_MacroExpandModel_nameOf 64 = .ok (.iaload, 1) := by decide +kernel
theorem d_MacroExpandModel_nameOf_65 : decode b_MacroExpandModel_nameOf 65 = .ok (.if_icmp .ne 7, 3) := by decide +kernel
theorem d_MacroExpandModel_nameOf_68 : decode b_MacroExpandModel_nameOf 68 = .ok (.iconst 1, 1) := by decide +kernel
theorem d_MacroExpandModel_nameOf_69 : decode b_MacroExpandModel_nameOf 69 = .ok (.goto 4, 3) := by decide +kernel
theorem d_MacroExpandModel_nameOf_72 : decode b_MacroExpandModel_nameOf 72 = .ok (.iconst 0, 1) := by decide +kernel
theorem d_MacroExpandModel_nameOf_73 : decode b_MacroExpandModel_nameOf 73 = .ok (.istore 4, 2) := by decide +kernel
theorem d_MacroExpandModel_nameOf_75 : decode b_MacroExpandModel_nameOf 75 = .ok (.iinc 5 1, 3) := by decide +kernel
theorem d_MacroExpandModel_nameOf_78 : decode b_MacroExpandModel_nameOf 78 = .ok (.goto (-48), 3) := by decide +kernel
theorem d_MacroExpandModel_nameOf_81 : decode b_MacroExpandModel_nameOf 81 = .ok (.iload 4, 2) := by decide +kernel
theorem d_MacroExpandModel_nameOf_83 : decode b_MacroExpandModel_nameOf 83 = .ok (.ifCond .eq 9, 3) := by decide +kernel
theorem d_MacroExpandModel_nameOf_86 : decode b_MacroExpandModel_nameOf 86 = .ok (.sipush 1100, 3) := by decide +kernel
theorem d_MacroExpandModel_nameOf_89 : decode b_MacroExpandModel_nameOf 89 = .ok (.iload_n 3, 1) := by decide +kernel
theorem d_MacroExpandModel_nameOf_90 : decode b_MacroExpandModel_nameOf 90 = .ok (.iadd, 1) := by decide +kernel
theorem d_MacroExpandModel_nameOf_91 : decode b_MacroExpandModel_nameOf 91 = .ok (.ireturn, 1) := by decide +kernel
theorem d_MacroExpandModel_nameOf_92 : decode b_MacroExpandModel_nameOf 92 = .ok (.iinc 3 1, 3) := by decide +kernel
theorem d_MacroExpandModel_nameOf_95 : decode b_MacroExpandModel_nameOf 95 = .ok (.goto (-93), 3) := by decide +kernel
theorem d_MacroExpandModel_nameOf_98 : decode b_MacroExpandModel_nameOf 98 = .ok (.aload_n 0, 1) := by decide +kernel
theorem d_MacroExpandModel_nameOf_99 : decode b_MacroExpandModel_nameOf 99 = .ok (.getfield 172, 3) := by decide +kernel
theorem d_MacroExpandModel_nameOf_102 : decode b_MacroExpandModel_nameOf 102 = .ok (.bipush 100, 2) := by decide +kernel
theorem d_MacroExpandModel_nameOf_104 : decode b_MacroExpandModel_nameOf 104 = .ok (.if_icmp .ne 11, 3) := by decide +kernel
theorem d_MacroExpandModel_nameOf_107 : decode b_MacroExpandModel_nameOf 107 = .ok (.aload_n 0, 1) := by decide +kernel
theorem d_MacroExpandModel_nameOf_108 : decode b_MacroExpandModel_nameOf 108 = .ok (.bipush 8, 2) := by decide +kernel
theorem d_MacroExpandModel_nameOf_110 : decode b_MacroExpandModel_nameOf 110 = .ok (.invokevirtual 123, 3) := by decide +kernel
theorem d_MacroExpandModel_nameOf_113 : decode b_MacroExpandModel_nameOf 113 = .ok (.iconst 0, 1) := by decide +kernel
theorem d_MacroExpandModel_nameOf_114 : decode b_MacroExpandModel_nameOf 114 = .ok (.ireturn, 1) := by decide +kernel
theorem d_MacroExpandModel_nameOf_115 : decode b_MacroExpandModel_nameOf 115 = .ok (.iconst 0, 1) := by decide +kernel
theorem d_MacroExpandModel_nameOf_116 : decode b_MacroExpandModel_nameOf 116 = .ok (.istore_n 3, 1) := by decide +kernel
theorem d_MacroExpandModel_nameOf_117 : decode b_MacroExpandModel_nameOf 117 = .ok (.iload_n 3, 1) := by decide +kernel
theorem d_MacroExpandModel_nameOf_118 : decode b_MacroExpandModel_nameOf 118 = .ok (.iload_n 2, 1) := by decide +kernel
theorem d_MacroExpandModel_nameOf_119 : decode b_MacroExpandModel_nameOf 119 = .ok (.if_icmp .ge 34, 3) := by decide +kernel
theorem d_MacroExpandModel_nameOf_122 : decode b_MacroExpandModel_nameOf 122 = .ok (.aload_n 0, 1) := by decide +kernel
theorem d_MacroExpandModel_nameOf_123 : decode b_MacroExpandModel_nameOf 123 = .ok (.getfield 44, 3) := by decide +kernel
theorem d_MacroExpandModel_nameOf_126 : decode b_MacroExpandModel_nameOf 126 = .ok (.bipush 8, 2) := by decide +kernel
theorem d_MacroExpandModel_nameOf_128 : decode b_MacroExpandModel_nameOf 128 = .ok (.aload_n 0, 1) := by decide +kernel
theorem d_MacroExpandModel_nameOf_129 : decode b_MacroExpandModel_nameOf 129 = .ok (.getfield 172, 3) := by decide +kernel
theorem d_MacroExpandModel_nameOf_132 : decode b_MacroExpandModel_nameOf 132 = .ok (.imul, 1) := by decide +kernel
theorem d_MacroExpandModel_nameOf_133 : decode b_MacroExpandModel_nameOf 133 = .ok (.iload_n 3, 1) := by decide +kernel
theorem d_MacroExpandModel_nameOf_134 : decode b_MacroExpandModel_nameOf 134 = .ok (.iadd, 1) := by decide +kernel
theorem d_MacroExpandModel_nameOf_135 : decode b_MacroExpandModel_nameOf 135 = .ok (.aload_n 0, 1) := by decide +kernel
theorem d_MacroExpandModel_nameOf_136 : decode b_MacroExpandModel_nameOf 136 = .ok (.getfield 56, 3) := by decide +kernel
theorem d_MacroExpandModel_nameOf_139 : decode b_MacroExpandModel_nameOf 139 = .ok (.bipush 8, 2) := by decide +kernel
theorem d_MacroExpandModel_nameOf_141 : decode b_MacroExpandModel_nameOf 141 = .ok (.iload_n 1, 1) := by decide +kernel
theorem d_MacroExpandModel_nameOf_142 : decode b_MacroExpandModel_nameOf 142 = .ok (.imul, 1) := by decide +kernel
theorem d_MacroExpandModel_nameOf_143 : decode b_MacroExpandModel_nameOf 143 = .ok (.iload_n 3, 1) := by decide +kernel
theorem d_MacroExpandModel_nameOf_144 : decode b_MacroExpandModel_nameOf 144 = .ok (.iadd, 1) := by decide +kernel
theorem d_MacroExpandModel_nameOf_145 : decode b_MacroExpandModel_nameOf 145 = .ok (.iaload, 1) := by decide +kernel
theorem d_MacroExpandModel_nameOf_146 : decode b_MacroExpandModel_nameOf 146 = .ok (.iastore, 1) := by decide +kernel
theorem d_MacroExpandModel_nameOf_147 : decode b_MacroExpandModel_nameOf 147 = .ok (.iinc 3 1, 3) := by decide +kernel
theorem d_MacroExpandModel_nameOf_150 : decode b_MacroExpandModel_nameOf 150 = .ok (.goto (-33), 3) := by decide +kernel
theorem d_MacroExpandModel_nameOf_153 : decode b_MacroExpandModel_nameOf 153 = .ok (.aload_n 0, 1) := by decide +kernel
theorem d_MacroExpandModel_nameOf_154 : decode b_MacroExpandModel_nameOf 154 = .ok (.getfield 41, 3) := by decide +kernel
theorem d_MacroExpandModel_nameOf_157 : decode b_MacroExpandModel_nameOf 157 = .ok (.aload_n 0, 1) := by decide +kernel
theorem d_MacroExpandModel_nameOf_158 : decode b_MacroExpandModel_nameOf 158 = .ok (.getfield 172, 3) := by decide +kernel
theorem d_MacroExpandModel_nameOf_161 : decode b_MacroExpandModel_nameOf 161 = .ok (.iload_n 2, 1) := by decide +kernel
theorem d_MacroExpandModel_nameOf_162 : decode b_MacroExpandModel_nameOf 162 = .ok (.iastore, 1) := by decide +kernel
theorem d_MacroExpandModel_nameOf_163 : decode b_MacroExpandModel_nameOf 163 = .ok (.aload_n 0, 1) := by decide +kernel
theorem d_MacroExpandModel_nameOf_164 : decode b_MacroExpandModel_nameOf 164 = .ok (.dup, 1) := by decide +kernel
theorem d_MacroExpandModel_nameOf_165 : decode b_MacroExpandModel_nameOf 165 = .ok (.getfield 172, 3) := by decide +kernel
theorem d_MacroExpandModel_nameOf_168 : decode b_MacroExpandModel_nameOf 168 = .ok (.iconst 1, 1) := by decide +kernel
theorem d_MacroExpandModel_nameOf_169 : decode b_MacroExpandModel_nameOf 169 = .ok (.iadd, 1) := by decide +kernel
theorem d_MacroExpandModel_nameOf_170 : decode b_MacroExpandModel_nameOf 170 = .ok (.putfield 172, 3) := by decide +kernel
theorem d_MacroExpandModel_nameOf_173 : decode b_MacroExpandModel_nameOf 173 = .ok (.sipush 1099, 3) := by decide +kernel
theorem d_MacroExpandModel_nameOf_176 : decode b_MacroExpandModel_nameOf 176 = .ok (.aload_n 0, 1) := by decide +kernel
theorem d_MacroExpandModel_nameOf_177 : decode b_MacroExpandModel_nameOf 177 = .ok (.getfield 172, 3) := by decide +kernel
theorem d_MacroExpandModel_nameOf_180 : decode b_MacroExpandModel_nameOf 180 = .ok (.iadd, 1) := by decide +kernel
theorem d_MacroExpandModel_nameOf_181 : decode b_MacroExpandModel_nameOf 181 = .ok (.ireturn, 1) := by decide +kernel
theorem d_MacroExpandModel_pile_0 : decode b_MacroExpandModel_pile 0 = .ok (.aload_n 0, 1) := by decide +kernel
theorem d_MacroExpandModel_pile_1 : decode b_MacroExpandModel_pile 1 = .ok (.getfield 59, 3) := by decide +kernel
theorem d_MacroExpandModel_pile_4 : decode b_MacroExpandModel_pile 4 = .ok (.aload_n 0, 1) := by decide +kernel
theorem d_MacroExpandModel_pile_5 : decode b_MacroExpandModel_pile 5 = .ok (.getfield 139, 3) := by decide +kernel
theorem d_MacroExpandModel_pile_8 : decode b_MacroExpandModel_pile 8 = .ok (.iload_n 1, 1) := by decide +kernel
theorem d_MacroExpandModel_pile_9 : decode b_MacroExpandModel_pile 9 = .ok (.iastore, 1) := by decide +kernel
theorem d_MacroExpandModel_pile_10 : decode b_MacroExpandModel_pile 10 = .ok (.aload_n 0, 1) := by decide +kernel
theorem d_MacroExpandModel_pile_11 : decode b_MacroExpandModel_pile 11 = .ok (.getfield 62, 3) := by decide +kernel
theorem d_MacroExpandModel_pile_14 : decode b_MacroExpandModel_pile 14 = .ok (.aload_n 0, 1) := by decide +kernel
theorem d_MacroExpandModel_pile_15 : decode b_MacroExpandModel_pile 15 = .ok (.getfield 139, 3) := by decide +kernel
theorem d_MacroExpandModel_pile_18 : decode b_MacroExpandModel_pile 18 = .ok (.iload_n 2, 1) := by decide +kernel
theorem d_MacroExpandModel_pile_19 : decode b_MacroExpandModel_pile 19 = .ok (.iastore, 1) := by decide +kernel
theorem d_MacroExpandModel_pile_20 : decode b_MacroExpandModel_pile 20 = .ok (.aload_n 0, 1) := by decide +kernel
theorem d_MacroExpandModel_pile_21 : decode b_MacroExpandModel_pile 21 = .ok (.getfield 65, 3) := by decide +kernel
theorem d_MacroExpandModel_pile_24 : decode b_MacroExpandModel_pile 24 = .ok (.aload_n 0, 1) := by decide +kernel
theorem d_MacroExpandModel_pile_25 : decode b_MacroExpandModel_pile 25 = .ok (.getfield 139, 3) := by decide +kernel
theorem d_MacroExpandModel_pile_28 : decode b_MacroExpandModel_pile 28 = .ok (.iconst 0, 1) := by decide +kernel
theorem d_MacroExpandModel_pile_29 : decode b_MacroExpandModel_pile 29 = .ok (.iastore, 1) := by decide +kernel
theorem d_MacroExpandModel_pile_30 : decode b_MacroExpandModel_pile 30 = .ok (.aload_n 0, 1) := by decide +kernel
theorem d_MacroExpandModel_pile_31 : decode b_MacroExpandModel_pile 31 = .ok (.dup, 1) := by decide +kernel
theorem d_MacroExpandModel_pile_32 : decode b_MacroExpandModel_pile 32 = .ok (.getfield 139, 3) := by decide +kernel
theorem d_MacroExpandModel_pile_35 : decode b_MacroExpandModel_pile 35 = .ok (.iconst 1, 1) := by decide +kernel
theorem d_MacroExpandModel_pile_36 : decode b_MacroExpandModel_pile 36 = .ok (.iadd, 1) := by decide +kernel
theorem d_MacroExpandModel_pile_37 : decode b_MacroExpandModel_pile 37 = .ok (.putfield 139, 3) := by decide +kernel
theorem d_MacroExpandModel_pile_40 : decode b_MacroExpandModel_pile 40 = .ok (.return_, 1) := by decide +kernel
theorem d_MacroExpandModel_start_0 : decode b_MacroExpandModel_start 0 = .ok (.iload_n 1, 1) := by decide +kernel
theorem d_MacroExpandModel_start_1 : decode b_MacroExpandModel_start 1 = .ok (.istore_n 2, 1) := by decide +kernel
theorem d_MacroExpandModel_start_2 : decode b_MacroExpandModel_start 2 = .ok (.iconst 1, 1) := by decide +kernel
theorem d_MacroExpandModel_start_3 : decode b_MacroExpandModel_start 3 = .ok (.istore_n 3, 1) := by decide +kernel
theorem d_MacroExpandModel_start_4 : decode b_MacroExpandModel_start 4 = .ok (.iload_n 3, 1) := by decide +kernel
theorem d_MacroExpandModel_start_5 : decode b_MacroExpandModel_start 5 = .ok (.ifCond .eq 220, 3) := by decide +kernel
theorem d_MacroExpandModel_start_8 : decode b_MacroExpandModel_start 8 = .ok (.aload_n 0, 1) := by decide +kernel
theorem d_MacroExpandModel_start_9 : decode b_MacroExpandModel_start 9 = .ok (.getfield 113, 3) := by decide +kernel
theorem d_MacroExpandModel_start_12 : decode b_MacroExpandModel_start 12 = .ok (.ifCond .ne 213, 3) := by decide +kernel
theorem d_MacroExpandModel_start_15 : decode b_MacroExpandModel_start 15 = .ok (.iconst 0, 1) := by decide +kernel
theorem d_MacroExpandModel_start_16 : decode b_MacroExpandModel_start 16 = .ok (.istore_n 3, 1) := by decide +kernel
theorem d_MacroExpandModel_start_17 : decode b_MacroExpandModel_start 17 = .ok (.aload_n 0, 1) := by decide +kernel
theorem d_MacroExpandModel_start_18 : decode b_MacroExpandModel_start 18 = .ok (.getfield 175, 3) := by decide +kernel
theorem d_MacroExpandModel_start_21 : decode b_MacroExpandModel_start 21 = .ok (.aload_n 0, 1) := by decide +kernel
theorem d_MacroExpandModel_start_22 : decode b_MacroExpandModel_start 22 = .ok (.getfield 79, 3) := by decide +kernel
theorem d_MacroExpandModel_start_25 : decode b_MacroExpandModel_start 25 = .ok (.if_icmp .ne 9, 3) := by decide +kernel
theorem d_MacroExpandModel_start_28 : decode b_MacroExpandModel_start 28 = .ok (.aload_n 0, 1) := by decide +kernel
theorem d_MacroExpandModel_start_29 : decode b_MacroExpandModel_start 29 = .ok (.iconst 5, 1) := by decide +kernel
theorem d_MacroExpandModel_start_30 : decode b_MacroExpandModel_start 30 = .ok (.invokevirtual 123, 3) := by decide +kernel
theorem d_MacroExpandModel_start_33 : decode b_MacroExpandModel_start 33 = .ok (.return_, 1) := by decide +kernel
theorem d_MacroExpandModel_start_34 : decode b_MacroExpandModel_start 34 = .ok (.aload_n 0, 1) := by decide +kernel
theorem d_MacroExpandModel_start_35 : decode b_MacroExpandModel_start 35 = .ok (.dup, 1) := by decide +kernel
theorem d_MacroExpandModel_start_36 : decode b_MacroExpandModel_start 36 = .ok (.getfield 175, 3) := by decide +kernel
theorem d_MacroExpandModel_start_39 : decode b_MacroExpandModel_start 39 = .ok (.iconst 1, 1) := by decide +kernel
theorem d_MacroExpandModel_start_40 : decode b_MacroExpandModel_start 40 = .ok (.iadd, 1) := by decide +kernel
theorem d_MacroExpandModel_start_41 : decode b_MacroExpandModel_start 41 = .ok (.putfield 175, 3) := by decide +kernel
theorem d_MacroExpandModel_start_44 : decode b_MacroExpandModel_start 44 = .ok (.aload_n 0, 1) := by decide +kernel
theorem d_MacroExpandModel_start_45 : decode b_MacroExpandModel_start 45 = .ok (.iload_n 2, 1) := by decide +kernel
theorem d_MacroExpandModel_start_46 : decode b_MacroExpandModel_start 46 = .ok (.invokevirtual 116, 3) := by decide +kernel
theorem d_MacroExpandModel_start_49 : decode b_MacroExpandModel_start 49 = .ok (.istore 4, 2) := by decide +kernel
theorem d_MacroExpandModel_start_51 : decode b_MacroExpandModel_start 51 = .ok (.iload 4, 2) := by decide +kernel
theorem d_MacroExpandModel_start_53 : decode b_MacroExpandModel_start 53 = .ok (.sipush 260, 3) := by decide +kernel
theorem d_MacroExpandModel_start_56 : decode b_MacroExpandModel_start 56 = .ok (.if_icmp .ne 33, 3) := by decide +kernel
theorem d_MacroExpandModel_start_59 : decode b_MacroExpandModel_start 59 = .ok (.iload_n 2, 1) := by decide +kernel
theorem d_MacroExpandModel_start_60 : decode b_MacroExpandModel_start 60 = .ok (.iconst 1, 1) := by decide +kernel
theorem d_MacroExpandModel_start_61 : decode b_MacroExpandModel_start 61 = .ok (.iadd, 1) := by decide +kernel
theorem d_MacroExpandModel_start_62 : decode b_MacroExpandModel_start 62 = .ok (.aload_n 0, 1) := by decide +kernel
theorem d_MacroExpandModel_start_63 : decode b_MacroExpandModel_start 63 = .ok (.getfield 107, 3) := by decide +kernel
theorem d_MacroExpandModel_start_66 : decode b_MacroExpandModel_start 66 = .ok (.if_icmp .lt 9, 3) := by decide +kernel
theorem d_MacroExpandModel_start_69 : decode b_MacroExpandModel_start 69 = .ok (.aload_n 0, 1) := by decide +kernel
theorem d_MacroExpandModel_start_70 : decode b_MacroExpandModel_start 70 = .ok (.iconst 1, 1) := by decide +kernel
theorem d_MacroExpandModel_start_71 : decode b_MacroExpandModel_start 71 = .ok (.invokevirtual 123, 3) := by decide +kernel
theorem d_MacroExpandModel_start_74 : decode b_MacroExpandModel_start 74 = .ok (.return_, 1) := by decide +kernel
theorem d_MacroExpandModel_start_75 : decode b_MacroExpandModel_start 75 = .ok (.aload_n 0, 1) := by decide +kernel
theorem d_MacroExpandModel_start_76 : decode b_MacroExpandModel_start 76 = .ok (.iload_n 2, 1) := by decide +kernel
theorem d_MacroExpandModel_start_77 : decode b_MacroExpandModel_start 77 = .ok (.iconst 1, 1) := by decide +kernel
theorem d_MacroExpandModel_start_78 : decode b_MacroExpandModel_start 78 = .ok (.invokevirtual 160, 3) := by decide +kernel
theorem d_MacroExpandModel_start_81 : decode b_MacroExpandModel_start 81 = .ok (.aload_n 0, 1) := by decide +kernel
theorem d_MacroExpandModel_start_82 : decode b_MacroExpandModel_start 82 = .ok (.iconst 1, 1) := by decide +kernel
theorem d_MacroExpandModel_start_83 : decode b_MacroExpandModel_start 83 = .ok (.putfield 178, 3) := by decide +kernel
theorem d_MacroExpandModel_start_86 : decode b_MacroExpandModel_start 86 = .ok (.goto 136, 3) := by decide +kernel
theorem d_MacroExpandModel_start_89 : decode b_MacroExpandModel_start 89 = .ok (.iload 4, 2) := by decide +kernel
theorem d_MacroExpandModel_start_91 : decode b_MacroExpandModel_start 91 = .ok (.sipush 261, 3) := by decide +kernel
theorem d_MacroExpandModel_start_94 : decode b_MacroExpandModel_start 94 = .ok (.if_icmp .ne 72, 3) := by decide +kernel
theorem d_MacroExpandModel_start_97 : decode b_MacroExpandModel_start 97 = .ok (.iload_n 2, 1) := by decide +kernel
theorem d_MacroExpandModel_start_98 : decode b_MacroExpandModel_start 98 = .ok (.iconst 2, 1) := by decide +kernel
theorem d_MacroExpandModel_start_99 : decode b_MacroExpandModel_start 99 = .ok (.iadd, 1) := by decide +kernel
theorem d_MacroExpandModel_start_100 : decode b_MacroExpandModel_start 100 = .ok (.aload_n 0, 1) := by decide +kernel
theorem d_MacroExpandModel_start_101 : decode b_MacroExpandModel_start 101 = .ok (.getfield 107, 3) := by decide +kernel
theorem d_MacroExpandModel_start_104 : decode b_MacroExpandModel_start 104 = .ok (.if_icmp .lt 9, 3) := by decide +kernel
theorem d_MacroExpandModel_start_107 : decode b_MacroExpandModel_start 107 = .ok (.aload_n 0, 1) := by decide +kernel
theorem d_MacroExpandModel_start_108 : decode b_MacroExpandModel_start 108 = .ok (.iconst 1, 1) := by decide +kernel
theorem d_MacroExpandModel_start_109 : decode b_MacroExpandModel_start 109 = .ok (.invokevirtual 123, 3) := by decide +kernel
theorem d_MacroExpandModel_start_112 : decode b_MacroExpandModel_start 112 = .ok (.return_, 1) := by decide +kernel
theorem d_MacroExpandModel_start_113 : decode b_MacroExpandModel_start 113 = .ok (.aload_n 0, 1) := by decide +kernel
theorem d_MacroExpandModel_start_114 : decode b_MacroExpandModel_start 114 = .ok (.getfield 139, 3) := by decide +kernel
theorem d_MacroExpandModel_start_117 : decode b_MacroExpandModel_start 117 = .ok (.bipush 50, 2) := by decide +kernel
theorem d_MacroExpandModel_start_119 : decode b_MacroExpandModel_start 119 = .ok (.if_icmp .lt 10, 3) := by decide +kernel
theorem d_MacroExpandModel_start_122 : decode b_MacroExpandModel_start 122 = .ok (.aload_n 0, 1) := by decide +kernel
theorem d_MacroExpandModel_start_123 : decode b_MacroExpandModel_start 123 = .ok (.bipush 8, 2) := by decide +kernel
theorem d_MacroExpandModel_start_125 : decode b_MacroExpandModel_start 125 = .ok (.invokevirtual 123, 3) := by decide +kernel
theorem d_MacroExpandModel_start_128 : decode b_MacroExpandModel_start 128 = .ok (.return_, 1) := by decide +kernel
theorem d_MacroExpandModel_start_129 : decode b_MacroExpandModel_start 129 = .ok (.aload_n 0, 1) := by decide +kernel
theorem d_MacroExpandModel_start_130 : decode b_MacroExpandModel_start 130 = .ok (.iload_n 2, 1) := by decide +kernel
theorem d_MacroExpandModel_start_131 : decode b_MacroExpandModel_start 131 = .ok (.iconst 1, 1) := by decide +kernel
theorem d_MacroExpandModel_start_132 : decode b_MacroExpandModel_start 132 = .ok (.invokevirtual 160, 3) := by decide +kernel
theorem d_MacroExpandModel_start_135 : decode b_MacroExpandModel_start 135 = .ok (.aload_n 0, 1) := by decide +kernel
theorem d_MacroExpandModel_start_136 : decode b_MacroExpandModel_start 136 = .ok (.iconst 0, 1) := by decide +kernel
theorem d_MacroExpandModel_start_137 : decode b_MacroExpandModel_start 137 = .ok (.putfield 178, 3) := by decide +kernel
theorem d_MacroExpandModel_start_140 : decode b_MacroExpandModel_start 140 = .ok (.aload_n 0, 1) := by decide +kernel
theorem d_MacroExpandModel_start_141 : decode b_MacroExpandModel_start 141 = .ok (.iload_n 2, 1) := by decide +kernel
theorem d_MacroExpandModel_start_142 : decode b_MacroExpandModel_start 142 = .ok (.iconst 1, 1) := by decide +kernel
theorem d_MacroExpandModel_start_143 : decode b_MacroExpandModel_start 143 = .ok (.iadd, 1) := by decide +kernel
theorem d_MacroExpandModel_start_144 : decode b_MacroExpandModel_start 144 = .ok (.invokevirtual 182, 3) := by decide +kernel
theorem d_MacroExpandModel_start_147 : decode b_MacroExpandModel_start 147 = .ok (.istore_n 3, 1) := by decide +kernel
theorem d_MacroExpandModel_start_148 : decode b_MacroExpandModel_start 148 = .ok (.iload_n 3, 1) := by decide +kernel
theorem d_MacroExpandModel_start_149 : decode b_MacroExpandModel_start 149 = .ok (.ifCond .eq 73, 3) := by decide +kernel
theorem d_MacroExpandModel_start_152 : decode b_MacroExpandModel_start 152 = .ok (.aload_n 0, 1) := by decide +kernel
theorem d_MacroExpandModel_start_153 : decode b_MacroExpandModel_start 153 = .ok (.sipush 261, 3) := by decide +kernel
theorem d_MacroExpandModel_start_156 : decode b_MacroExpandModel_start 156 = .ok (.iload_n 2, 1) := by decide +kernel
theorem d_MacroExpandModel_start_157 : decode b_MacroExpandModel_start 157 = .ok (.invokevirtual 185, 3) := by decide +kernel
theorem d_MacroExpandModel_start_160 : decode b_MacroExpandModel_start 160 = .ok (.iinc 2 1, 3) := by decide +kernel
theorem d_MacroExpandModel_start_163 : decode b_MacroExpandModel_start 163 = .ok (.goto 59, 3) := by decide +kernel
theorem d_MacroExpandModel_start_166 : decode b_MacroExpandModel_start 166 = .ok (.iload 4, 2) := by decide +kernel
theorem d_MacroExpandModel_start_168 : decode b_MacroExpandModel_start 168 = .ok (.sipush 262, 3) := by decide +kernel
theorem d_MacroExpandModel_start_171 : decode b_MacroExpandModel_start 171 = .ok (.if_icmp .ne 41, 3) := by decide +kernel
theorem d_MacroExpandModel_start_174 : decode b_MacroExpandModel_start 174 = .ok (.aload_n 0, 1) := by decide +kernel
theorem d_MacroExpandModel_start_175 : decode b_MacroExpandModel_start 175 = .ok (.getfield 139, 3) := by decide +kernel
theorem d_MacroExpandModel_start_178 : decode b_MacroExpandModel_start 178 = .ok (.bipush 50, 2) := by decide +kernel
theorem d_MacroExpandModel_start_180 : decode b_MacroExpandModel_start 180 = .ok (.if_icmp .lt 10, 3) := by decide +kernel
theorem d_MacroExpandModel_start_183 : decode b_MacroExpandModel_start 183 = .ok (.aload_n 0, 1) := by decide +kernel
theorem d_MacroExpandModel_start_184 : decode b_MacroExpandModel_start 184 = .ok (.bipush 8, 2) := by decide +kernel
theorem d_MacroExpandModel_start_186 : decode b_MacroExpandModel_start 186 = .ok (.invokevirtual 123, 3) := by decide +kernel
theorem d_MacroExpandModel_start_189 : decode b_MacroExpandModel_start 189 = .ok (.return_, 1) := by decide +kernel
theorem d_MacroExpandModel_start_190 : decode b_MacroExpandModel_start 190 = .ok (.aload_n 0, 1) := by decide +kernel
theorem d_MacroExpandModel_start_191 : decode b_MacroExpandModel_start 191 = .ok (.iload_n 2, 1) := by decide +kernel
theorem d_MacroExpandModel_start_192 : decode b_MacroExpandModel_start 192 = .ok (.iconst 1, 1) := by decide +kernel
theorem d_MacroExpandModel_start_193 : decode b_MacroExpandModel_start 193 = .ok (.invokevirtual 160, 3) := by decide +kernel
theorem d_MacroExpandModel_start_196 : decode b_MacroExpandModel_start 196 = .ok (.aload_n 0, 1) := by decide +kernel
theorem d_MacroExpandModel_start_197 : decode b_MacroExpandModel_start 197 = .ok (.iconst 0, 1) := by decide +kernel
theorem d_MacroExpandModel_start_198 : decode b_MacroExpandModel_start 198 = .ok (.putfield 178, 3) := by decide +kernel
theorem d_MacroExpandModel_start_201 : decode b_MacroExpandModel_start 201 = .ok (.aload_n 0, 1) := by decide +kernel
theorem d_MacroExpandModel_start_202 : decode b_MacroExpandModel_start 202 = .ok (.sipush 262, 3) := by decide +kernel
theorem d_MacroExpandModel_start_205 : decode b_MacroExpandModel_start 205 = .ok (.iload_n 2, 1) := by decide +kernel
theorem d_MacroExpandModel_start_206 : decode b_MacroExpandModel_start 206 = .ok (.invokevirtual 185, 3) := by decide +kernel
theorem d_MacroExpandModel_start_209 : decode b_MacroExpandModel_start 209 = .ok (.goto 13, 3) := by decide +kernel
theorem d_MacroExpandModel_start_212 : decode b_MacroExpandModel_start 212 = .ok (.aload_n 0, 1) := by decide +kernel
theorem d_MacroExpandModel_start_213 : decode b_MacroExpandModel_start 213 = .ok (.iload_n 2, 1) := by decide +kernel
theorem d_MacroExpandModel_start_214 : decode b_MacroExpandModel_start 214 = .ok (.invokevirtual 188, 3) := by decide +kernel
theorem d_MacroExpandModel_start_217 : decode b_MacroExpandModel_start 217 = .ok (.aload_n 0, 1) := by decide +kernel
theorem d_MacroExpandModel_start_218 : decode b_MacroExpandModel_start 218 = .ok (.iconst 0, 1) := by decide +kernel
theorem d_MacroExpandModel_start_219 : decode b_MacroExpandModel_start 219 = .ok (.putfield 178, 3) := by decide +kernel
theorem d_MacroExpandModel_start_222 : decode b_MacroExpandModel_start 222 = .ok (.goto (-218), 3) := by decide +kernel
theorem d_MacroExpandModel_start_225 : decode b_MacroExpandModel_start 225 = .ok (.return_, 1) := by decide +kernel
theorem d_MacroExpandModel_goOn_0 : decode b_MacroExpandModel_goOn 0 = .ok (.aload_n 0, 1) := by decide +kernel
theorem d_MacroExpandModel_goOn_1 : decode b_MacroExpandModel_goOn 1 = .ok (.getfield 139, 3) := by decide +kernel
theorem d_MacroExpandModel_goOn_4 : decode b_MacroExpandModel_goOn 4 = .ok (.iconst 1, 1) := by decide +kernel
theorem d_MacroExpandModel_goOn_5 : decode b_MacroExpandModel_goOn 5 = .ok (.isub, 1) := by decide +kernel
theorem d_MacroExpandModel_goOn_6 : decode b_MacroExpandModel_goOn 6 = .ok (.istore_n 1, 1) := by decide +kernel
theorem d_MacroExpandModel_goOn_7 : decode b_MacroExpandModel_goOn 7 = .ok (.aload_n 0, 1) := by decide +kernel
theorem d_MacroExpandModel_goOn_8 : decode b_MacroExpandModel_goOn 8 = .ok (.getfield 59, 3) := by decide +kernel
theorem d_MacroExpandModel_goOn_11 : decode b_MacroExpandModel_goOn 11 = .ok (.iload_n 1, 1) := by decide +kernel
theorem d_MacroExpandModel_goOn_12 : decode b_MacroExpandModel_goOn 12 = .ok (.iaload, 1) := by decide +kernel
theorem d_MacroExpandModel_goOn_13 : decode b_MacroExpandModel_goOn 13 = .ok (.sipush 261, 3) := by decide +kernel
theorem d_MacroExpandModel_goOn_16 : decode b_MacroExpandModel_goOn 16 = .ok (.if_icmp .ne 40, 3) := by decide +kernel
theorem d_MacroExpandModel_goOn_19 : decode b_MacroExpandModel_goOn 19 = .ok (.aload_n 0, 1) := by decide +kernel
theorem d_MacroExpandModel_goOn_20 : decode b_MacroExpandModel_goOn 20 = .ok (.dup, 1) := by decide +kernel
theorem d_MacroExpandModel_goOn_21 : decode b_MacroExpandModel_goOn 21 = .ok (.getfield 139, 3) := by decide +kernel
theorem d_MacroExpandModel_goOn_24 : decode b_MacroExpandModel_goOn 24 = .ok (.iconst 1, 1) := by decide +kernel
theorem d_MacroExpandModel_goOn_25 : decode b_MacroExpandModel_goOn 25 = .ok (.isub, 1) := by decide +kernel
theorem d_MacroExpandModel_goOn_26 : decode b_MacroExpandModel_goOn 26 = .ok (.putfield 139, 3) := by decide +kernel
theorem d_MacroExpandModel_goOn_29 : decode b_MacroExpandModel_goOn 29 = .ok (.aload_n 0, 1) := by decide +kernel
theorem d_MacroExpandModel_goOn_30 : decode b_MacroExpandModel_goOn 30 = .ok (.iconst 0, 1) := by decide +kernel
theorem d_MacroExpandModel_goOn_31 : decode b_MacroExpandModel_goOn 31 = .ok (.putfield 178, 3) := by decide +kernel
theorem d_MacroExpandModel_goOn_34 : decode b_MacroExpandModel_goOn 34 = .ok (.aload_n 0, 1) := by decide +kernel
theorem d_MacroExpandModel_goOn_35 : decode b_MacroExpandModel_goOn 35 = .ok (.getfield 107, 3) := by decide +kernel
theorem d_MacroExpandModel_goOn_38 : decode b_MacroExpandModel_goOn 38 = .ok (.aload_n 0, 1) := by decide +kernel
theorem d_MacroExpandModel_goOn_39 : decode b_MacroExpandModel_goOn 39 = .ok (.invokevirtual 156, 3) := by decide +kernel
theorem d_MacroExpandModel_goOn_42 : decode b_MacroExpandModel_goOn 42 = .ok (.isub, 1) := by decide +kernel
theorem d_MacroExpandModel_goOn_43 : decode b_MacroExpandModel_goOn 43 = .ok (.sipush 3000, 3) := by decide +kernel
theorem d_MacroExpandModel_goOn_46 : decode b_MacroExpandModel_goOn 46 = .ok (.if_icmp .le 9, 3) := by decide +kernel
theorem d_MacroExpandModel_goOn_49 : decode b_MacroExpandModel_goOn 49 = .ok (.aload_n 0, 1) := by decide +kernel
theorem d_MacroExpandModel_goOn_50 : decode b_MacroExpandModel_goOn 50 = .ok (.bipush 8, 2) := by decide +kernel
theorem d_MacroExpandModel_goOn_52 : decode b_MacroExpandModel_goOn 52 = .ok (.invokevirtual 123, 3) := by decide +kernel
theorem d_MacroExpandModel_goOn_55 : decode b_MacroExpandModel_goOn 55 = .ok (.return_, 1) := by decide +kernel
theorem d_MacroExpandModel_goOn_56 : decode b_MacroExpandModel_goOn 56 = .ok (.aload_n 0, 1) := by decide +kernel
theorem d_MacroExpandModel_goOn_57 : decode b_MacroExpandModel_goOn 57 = .ok (.getfield 62, 3) := by decide +kernel
theorem d_MacroExpandModel_goOn_60 : decode b_MacroExpandModel_goOn 60 = .ok (.iload_n 1, 1) := by decide +kernel
theorem d_MacroExpandModel_goOn_61 : decode b_MacroExpandModel_goOn 61 = .ok (.iaload, 1) := by decide +kernel
theorem d_MacroExpandModel_goOn_62 : decode b_MacroExpandModel_goOn 62 = .ok (.istore_n 2, 1) := by decide +kernel
theorem d_MacroExpandModel_goOn_63 : decode b_MacroExpandModel_goOn 63 = .ok (.aload_n 0, 1) := by decide +kernel
theorem d_MacroExpandModel_goOn_64 : decode b_MacroExpandModel_goOn 64 = .ok (.getfield 178, 3) := by decide +kernel
theorem d_MacroExpandModel_goOn_67 : decode b_MacroExpandModel_goOn 67 = .ok (.istore_n 3, 1) := by decide +kernel
theorem d_MacroExpandModel_goOn_68 : decode b_MacroExpandModel_goOn 68 = .ok (.aload_n 0, 1) := by decide +kernel
theorem d_MacroExpandModel_goOn_69 : decode b_MacroExpandModel_goOn 69 = .ok (.iconst 0, 1) := by decide +kernel
theorem d_MacroExpandModel_goOn_70 : decode b_MacroExpandModel_goOn 70 = .ok (.putfield 178, 3) := by decide +kernel
theorem d_MacroExpandModel_goOn_73 : decode b_MacroExpandModel_goOn 73 = .ok (.iload_n 2, 1) := by decide +kernel
theorem d_MacroExpandModel_goOn_74 : decode b_MacroExpandModel_goOn 74 = .ok (.aload_n 0, 1) := by decide +kernel
theorem d_MacroExpandModel_goOn_75 : decode b_MacroExpandModel_goOn 75 = .ok (.getfield 107, 3) := by decide +kernel
theorem d_MacroExpandModel_goOn_78 : decode b_MacroExpandModel_goOn 78 = .ok (.if_icmp .lt 9, 3) := by decide +kernel
theorem d_MacroExpandModel_goOn_81 : decode b_MacroExpandModel_goOn 81 = .ok (.aload_n 0, 1) := by decide +kernel
theorem d_MacroExpandModel_goOn_82 : decode b_MacroExpandModel_goOn 82 = .ok (.iconst 1, 1) := by decide +kernel
theorem d_MacroExpandModel_goOn_83 : decode b_MacroExpandModel_goOn 83 = .ok (.invokevirtual 123, 3) := by decide +kernel
theorem d_MacroExpandModel_goOn_86 : decode b_MacroExpandModel_goOn 86 = .ok (.return_, 1) := by decide +kernel
theorem d_MacroExpandModel_goOn_87 : decode b_MacroExpandModel_goOn 87 = .ok (.iload_n 3, 1) := by decide +kernel
theorem d_MacroExpandModel_goOn_88 : decode b_MacroExpandModel_goOn 88 = .ok (.ifCond .ne 17, 3) := by decide +kernel
theorem d_MacroExpandModel_goOn_91 : decode b_MacroExpandModel_goOn 91 = .ok (.aload_n 0, 1) := by decide +kernel
theorem d_MacroExpandModel_goOn_92 : decode b_MacroExpandModel_goOn 92 = .ok (.iload_n 2, 1) := by decide +kernel
theorem d_MacroExpandModel_goOn_93 : decode b_MacroExpandModel_goOn 93 = .ok (.invokevirtual 182, 3) := by decide +kernel
theorem d_MacroExpandModel_goOn_96 : decode b_MacroExpandModel_goOn 96 = .ok (.ifCond .eq 9, 3) := by decide +kernel
theorem d_MacroExpandModel_goOn_99 : decode b_MacroExpandModel_goOn 99 = .ok (.aload_n 0, 1) := by decide +kernel
theorem d_MacroExpandModel_goOn_100 : decode b_MacroExpandModel_goOn 100 = .ok (.iload_n 2, 1) := by decide +kernel
theorem d_MacroExpandModel_goOn_101 : decode b_MacroExpandModel_goOn 101 = .ok (.invokevirtual 191, 3) := by decide +kernel
theorem d_MacroExpandModel_goOn_104 : decode b_MacroExpandModel_goOn 104 = .ok (.return_, 1) := by decide +kernel
theorem d_MacroExpandModel_goOn_105 : decode b_MacroExpandModel_goOn 105 = .ok (.aload_n 0, 1) := by decide +kernel
theorem d_MacroExpandModel_goOn_106 : decode b_MacroExpandModel_goOn 106 = .ok (.iload_n 2, 1) := by decide +kernel
theorem d_MacroExpandModel_goOn_107 : decode b_MacroExpandModel_goOn 107 = .ok (.invokevirtual 116, 3) := by decide +kernel
theorem d_MacroExpandModel_goOn_110 : decode b_MacroExpandModel_goOn 110 = .ok (.istore 4, 2) := by decide +kernel
theorem d_MacroExpandModel_goOn_112 : decode b_MacroExpandModel_goOn 112 = .ok (.aload_n 0, 1) := by decide +kernel
theorem d_MacroExpandModel_goOn_113 : decode b_MacroExpandModel_goOn 113 = .ok (.getfield 65, 3) := by decide +kernel
theorem d_MacroExpandModel_goOn_116 : decode b_MacroExpandModel_goOn 116 = .ok (.iload_n 1, 1) := by decide +kernel
theorem d_MacroExpandModel_goOn_117 : decode b_MacroExpandModel_goOn 117 = .ok (.iaload, 1) := by decide +kernel
theorem d_MacroExpandModel_goOn_118 : decode b_MacroExpandModel_goOn 118 = .ok (.istore 5, 2) := by decide +kernel
theorem d_MacroExpandModel_goOn_120 : decode b_MacroExpandModel_goOn 120 = .ok (.iload 4, 2) := by decide +kernel
theorem d_MacroExpandModel_goOn_122 : decode b_MacroExpandModel_goOn 122 = .ok (.sipush 263, 3) := by decide +kernel
theorem d_MacroExpandModel_goOn_125 : decode b_MacroExpandModel_goOn 125 = .ok (.if_icmp .ne 16, 3) := by decide +kernel
theorem d_MacroExpandModel_goOn_128 : decode b_MacroExpandModel_goOn 128 = .ok (.iload 5, 2) := by decide +kernel
theorem d_MacroExpandModel_goOn_130 : decode b_MacroExpandModel_goOn 130 = .ok (.ifCond .le 7, 3) := by decide +kernel
theorem d_MacroExpandModel_goOn_133 : decode b_MacroExpandModel_goOn 133 = .ok (.iconst 1, 1) := by decide +kernel
theorem d_MacroExpandModel_goOn_134 : decode b_MacroExpandModel_goOn 134 = .ok (.goto 31, 3) := by decide +kernel
theorem d_MacroExpandModel_goOn_137 : decode b_MacroExpandModel_goOn 137 = .ok (.iconst 0, 1) := by decide +kernel
theorem d_MacroExpandModel_goOn_138 : decode b_MacroExpandModel_goOn 138 = .ok (.goto 27, 3) := by decide +kernel
theorem d_MacroExpandModel_goOn_141 : decode b_MacroExpandModel_goOn 141 = .ok (.iload 4, 2) := by decide +kernel
theorem d_MacroExpandModel_goOn_143 : decode b_MacroExpandModel_goOn 143 = .ok (.iconst 0, 1) := by decide +kernel
theorem d_MacroExpandModel_goOn_144 : decode b_MacroExpandModel_goOn 144 = .ok (.sipush 255, 3) := by decide +kernel
theorem d_MacroExpandModel_goOn_147 : decode b_MacroExpandModel_goOn 147 = .ok (.invokestatic 83, 3) := by decide +kernel
theorem d_MacroExpandModel_goOn_150 : decode b_MacroExpandModel_goOn 150 = .ok (.ifCond .eq 14, 3) := by decide +kernel
theorem d_MacroExpandModel_goOn_153 : decode b_MacroExpandModel_goOn 153 = .ok (.iload 5, 2) := by decide +kernel
theorem d_MacroExpandModel_goOn_155 : decode b_MacroExpandModel_goOn 155 = .ok (.bipush 8, 2) := by decide +kernel
theorem d_MacroExpandModel_goOn_157 : decode b_MacroExpandModel_goOn 157 = .ok (.if_icmp .ge 7, 3) := by decide +kernel
theorem d_MacroExpandModel_goOn_160 : decode b_MacroExpandModel_goOn 160 = .ok (.iconst 1, 1) := by decide +kernel
theorem d_MacroExpandModel_goOn_161 : decode b_MacroExpandModel_goOn 161 = .ok (.goto 4, 3) := by decide +kernel
theorem d_MacroExpandModel_goOn_164 : decode b_MacroExpandModel_goOn 164 = .ok (.iconst 0, 1) := by decide +kernel
theorem d_MacroExpandModel_goOn_165 : decode b_MacroExpandModel_goOn 165 = .ok (.istore 6, 2) := by decide +kernel
theorem d_MacroExpandModel_goOn_167 : decode b_MacroExpandModel_goOn 167 = .ok (.iload 6, 2) := by decide +kernel
theorem d_MacroExpandModel_goOn_169 : decode b_MacroExpandModel_goOn 169 = .ok (.ifCond .ne 9, 3) := by decide +kernel
theorem d_MacroExpandModel_goOn_172 : decode b_MacroExpandModel_goOn 172 = .ok (.aload_n 0, 1) := by decide +kernel
theorem d_MacroExpandModel_goOn_173 : decode b_MacroExpandModel_goOn 173 = .ok (.iconst 4, 1) := by decide +kernel
theorem d_MacroExpandModel_goOn_174 : decode b_MacroExpandModel_goOn 174 = .ok (.invokevirtual 123, 3) := by decide +kernel
theorem d_MacroExpandModel_goOn_177 : decode b_MacroExpandModel_goOn 177 = .ok (.return_, 1) := by decide +kernel
theorem d_MacroExpandModel_goOn_178 : decode b_MacroExpandModel_goOn 178 = .ok (.aload_n 0, 1) := by decide +kernel
theorem d_MacroExpandModel_goOn_179 : decode b_MacroExpandModel_goOn 179 = .ok (.iload_n 2, 1) := by decide +kernel
theorem d_MacroExpandModel_goOn_180 : decode b_MacroExpandModel_goOn 180 = .ok (.iconst 1, 1) := by decide +kernel
theorem d_MacroExpandModel_goOn_181 : decode b_MacroExpandModel_goOn 181 = .ok (.invokevirtual 160, 3) := by decide +kernel
theorem d_MacroExpandModel_goOn_184 : decode b_MacroExpandModel_goOn 184 = .ok (.iload 4, 2) := by decide +kernel
theorem d_MacroExpandModel_goOn_186 : decode b_MacroExpandModel_goOn 186 = .ok (.sipush 263, 3) := by decide +kernel
theorem d_MacroExpandModel_goOn_189 : decode b_MacroExpandModel_goOn 189 = .ok (.if_icmp .eq 28, 3) := by decide +kernel
theorem d_MacroExpandModel_goOn_192 : decode b_MacroExpandModel_goOn 192 = .ok (.aload_n 0, 1) := by decide +kernel
theorem d_MacroExpandModel_goOn_193 : decode b_MacroExpandModel_goOn 193 = .ok (.getfield 56, 3) := by decide +kernel
theorem d_MacroExpandModel_goOn_196 : decode b_MacroExpandModel_goOn 196 = .ok (.bipush 8, 2) := by decide +kernel
theorem d_MacroExpandModel_goOn_198 : decode b_MacroExpandModel_goOn 198 = .ok (.iload_n 1, 1) := by decide +kernel
theorem d_MacroExpandModel_goOn_199 : decode b_MacroExpandModel_goOn 199 = .ok (.imul, 1) := by decide +kernel
theorem d_MacroExpandModel_goOn_200 : decode b_MacroExpandModel_goOn 200 = .ok (.iload 5, 2) := by decide +kernel
theorem d_MacroExpandModel_goOn_202 : decode b_MacroExpandModel_goOn 202 = .ok (.iadd, 1) := by decide +kernel
theorem d_MacroExpandModel_goOn_203 : decode b_MacroExpandModel_goOn 203 = .ok (.iload 4, 2) := by decide +kernel
theorem d_MacroExpandModel_goOn_205 : decode b_MacroExpandModel_goOn 205 = .ok (.iastore, 1) := by decide +kernel
theorem d_MacroExpandModel_goOn_206 : decode b_MacroExpandModel_goOn 206 = .ok (.aload_n 0, 1) := by decide +kernel
theorem d_MacroExpandModel_goOn_207 : decode b_MacroExpandModel_goOn 207 = .ok (.getfield 65, 3) := by decide +kernel
theorem d_MacroExpandModel_goOn_210 : decode b_MacroExpandModel_goOn 210 = .ok (.iload_n 1, 1) := by decide +kernel
theorem d_MacroExpandModel_goOn_211 : decode b_MacroExpandModel_goOn 211 = .ok (.dup2, 1) := by decide +kernel
theorem d_MacroExpandModel_goOn_212 : decode b_MacroExpandModel_goOn 212 = .ok (.iaload, 1) := by decide +kernel
theorem d_MacroExpandModel_goOn_213 : decode b_MacroExpandModel_goOn 213 = .ok (.iconst 1, 1) := by decide +kernel
theorem d_MacroExpandModel_goOn_214 : decode b_MacroExpandModel_goOn 214 = .ok (.iadd, 1) := by decide +kernel
theorem d_MacroExpandModel_goOn_215 : decode b_MacroExpandModel_goOn 215 = .ok (.iastore, 1) := by decide +kernel
theorem d_MacroExpandModel_goOn_216 : decode b_MacroExpandModel_goOn 216 = .ok (.return_, 1) := by decide +kernel
theorem d_MacroExpandModel_goOn_217 : decode b_MacroExpandModel_goOn 217 = .ok (.aload_n 0, 1) := by decide +kernel
theorem d_MacroExpandModel_goOn_218 : decode b_MacroExpandModel_goOn 218 = .ok (.iload_n 1, 1) := by decide +kernel
theorem d_MacroExpandModel_goOn_219 : decode b_MacroExpandModel_goOn 219 = .ok (.iload 5, 2) := by decide +kernel
theorem d_MacroExpandModel_goOn_221 : decode b_MacroExpandModel_goOn 221 = .ok (.invokevirtual 194, 3) := by decide +kernel
theorem d_MacroExpandModel_goOn_224 : decode b_MacroExpandModel_goOn 224 = .ok (.istore 7, 2) := by decide +kernel
theorem d_MacroExpandModel_goOn_226 : decode b_MacroExpandModel_goOn 226 = .ok (.aload_n 0, 1) := by decide +kernel
theorem d_MacroExpandModel_goOn_227 : decode b_MacroExpandModel_goOn 227 = .ok (.getfield 113, 3) := by decide +kernel
theorem d_MacroExpandModel_goOn_230 : decode b_MacroExpandModel_goOn 230 = .ok (.ifCond .ne 26, 3) := by decide +kernel
theorem d_MacroExpandModel_goOn_233 : decode b_MacroExpandModel_goOn 233 = .ok (.aload_n 0, 1) := by decide +kernel
theorem d_MacroExpandModel_goOn_234 : decode b_MacroExpandModel_goOn 234 = .ok (.iload_n 2, 1) := by decide +kernel
theorem d_MacroExpandModel_goOn_235 : decode b_MacroExpandModel_goOn 235 = .ok (.iconst 1, 1) := by decide +kernel
theorem d_MacroExpandModel_goOn_236 : decode b_MacroExpandModel_goOn 236 = .ok (.invokevirtual 163, 3) := by decide +kernel
theorem d_MacroExpandModel_goOn_239 : decode b_MacroExpandModel_goOn 239 = .ok (.aload_n 0, 1) := by decide +kernel
theorem d_MacroExpandModel_goOn_240 : decode b_MacroExpandModel_goOn 240 = .ok (.iload_n 2, 1) := by decide +kernel
theorem d_MacroExpandModel_goOn_241 : decode b_MacroExpandModel_goOn 241 = .ok (.iload 7, 2) := by decide +kernel
theorem d_MacroExpandModel_goOn_243 : decode b_MacroExpandModel_goOn 243 = .ok (.invokevirtual 166, 3) := by decide +kernel
theorem d_MacroExpandModel_goOn_246 : decode b_MacroExpandModel_goOn 246 = .ok (.aload_n 0, 1) := by decide +kernel
theorem d_MacroExpandModel_goOn_247 : decode b_MacroExpandModel_goOn 247 = .ok (.dup, 1) := by decide +kernel
theorem d_MacroExpandModel_goOn_248 : decode b_MacroExpandModel_goOn 248 = .ok (.getfield 139, 3) := by decide +kernel
theorem d_MacroExpandModel_goOn_251 : decode b_MacroExpandModel_goOn 251 = .ok (.iconst 1, 1) := by decide +kernel
theorem d_MacroExpandModel_goOn_252 : decode b_MacroExpandModel_goOn 252 = .ok (.isub, 1) := by decide +kernel
theorem d_MacroExpandModel_goOn_253 : decode b_MacroExpandModel_goOn 253 = .ok (.putfield 139, 3) := by decide +kernel
theorem d_MacroExpandModel_goOn_256 : decode b_MacroExpandModel_goOn 256 = .ok (.return_, 1) := by decide +kernel
