theorem d_MacroExpandModel_carryOut_0 : decode b_MacroExpandModel_carryOut 0 = .ok (.aload_n 0, 1) := by decide +kernel
theorem d_MacroExpandModel_carryOut_1 : decode b_MacroExpandModel_carryOut 1 = .ok (.iconst 0, 1) := by decide +kernel
theorem d_MacroExpandModel_carryOut_2 : decode b_MacroExpandModel_carryOut 2 = .ok (.invokevirtual 116, 3) := by decide +kernel
theorem d_MacroExpandModel_carryOut_5 : decode b_MacroExpandModel_carryOut 5 = .ok (.istore_n 1, 1) := by decide +kernel
theorem d_MacroExpandModel_carryOut_6 : decode b_MacroExpandModel_carryOut 6 = .ok (.iload_n 1, 1) := by decide +kernel
theorem d_MacroExpandModel_carryOut_7 : decode b_MacroExpandModel_carryOut 7 = .ok (.sipush 266, 3) := by decide +kernel
theorem d_MacroExpandModel_carryOut_10 : decode b_MacroExpandModel_carryOut 10 = .ok (.sipush 268, 3) := by decide +kernel
theorem d_MacroExpandModel_carryOut_13 : decode b_MacroExpandModel_carryOut 13 = .ok (.invokestatic 83, 3) := by decide +kernel
theorem d_MacroExpandModel_carryOut_16 : decode b_MacroExpandModel_carryOut 16 = .ok (.ifCond .eq 28, 3) := by decide +kernel
theorem d_MacroExpandModel_carryOut_19 : decode b_MacroExpandModel_carryOut 19 = .ok (.aload_n 0, 1) := by decide +kernel
theorem d_MacroExpandModel_carryOut_20 : decode b_MacroExpandModel_carryOut 20 = .ok (.dup, 1) := by decide +kernel
theorem d_MacroExpandModel_carryOut_21 : decode b_MacroExpandModel_carryOut 21 = .ok (.getfield 201, 3) := by decide +kernel
theorem d_MacroExpandModel_carryOut_24 : decode b_MacroExpandModel_carryOut 24 = .ok (.iconst 1, 1) := by decide +kernel
theorem d_MacroExpandModel_carryOut_25 : decode b_MacroExpandModel_carryOut 25 = .ok (.iload_n 1, 1) := by decide +kernel
theorem d_MacroExpandModel_carryOut_26 : decode b_MacroExpandModel_carryOut 26 = .ok (.sipush 266, 3) := by decide +kernel
theorem d_MacroExpandModel_carryOut_29 : decode b_MacroExpandModel_carryOut 29 = .ok (.isub, 1) := by decide +kernel
theorem d_MacroExpandModel_carryOut_30 : decode b_MacroExpandModel_carryOut 30 = .ok (.ishl, 1) := by decide +kernel
theorem d_MacroExpandModel_carryOut_31 : decode b_MacroExpandModel_carryOut 31 = .ok (.ior, 1) := by decide +kernel
theorem d_MacroExpandModel_carryOut_32 : decode b_MacroExpandModel_carryOut 32 = .ok (.putfield 201, 3) := by decide +kernel
theorem d_MacroExpandModel_carryOut_35 : decode b_MacroExpandModel_carryOut 35 = .ok (.aload_n 0, 1) := by decide +kernel
theorem d_MacroExpandModel_carryOut_36 : decode b_MacroExpandModel_carryOut 36 = .ok (.iconst 0, 1) := by decide +kernel
theorem d_MacroExpandModel_carryOut_37 : decode b_MacroExpandModel_carryOut 37 = .ok (.iconst 1, 1) := by decide +kernel
theorem d_MacroExpandModel_carryOut_38 : decode b_MacroExpandModel_carryOut 38 = .ok (.invokevirtual 160, 3) := by decide +kernel
theorem d_MacroExpandModel_carryOut_41 : decode b_MacroExpandModel_carryOut 41 = .ok (.goto 136, 3) := by decide +kernel
theorem d_MacroExpandModel_carryOut_44 : decode b_MacroExpandModel_carryOut 44 = .ok (.iload_n 1, 1) := by decide +kernel
theorem d_MacroExpandModel_carryOut_45 : decode b_MacroExpandModel_carryOut 45 = .ok (.sipush 264, 3) := by decide +kernel
theorem d_MacroExpandModel_carryOut_48 : decode b_MacroExpandModel_carryOut 48 = .ok (.if_icmp .eq 10, 3) := by decide +kernel
theorem d_MacroExpandModel_carryOut_51 : decode b_MacroExpandModel_carryOut 51 = .ok (.iload_n 1, 1) := by decide +kernel
theorem d_MacroExpandModel_carryOut_52 : decode b_MacroExpandModel_carryOut 52 = .ok (.sipush 265, 3) := by decide +kernel
theorem d_MacroExpandModel_carryOut_55 : decode b_MacroExpandModel_carryOut 55 = .ok (.if_icmp .ne 22, 3) := by decide +kernel
theorem d_MacroExpandModel_carryOut_58 : decode b_MacroExpandModel_carryOut 58 = .ok (.aload_n 0, 1) := by decide +kernel
theorem d_MacroExpandModel_carryOut_59 : decode b_MacroExpandModel_carryOut 59 = .ok (.iload_n 1, 1) := by decide +kernel
theorem d_MacroExpandModel_carryOut_60 : decode b_MacroExpandModel_carryOut 60 = .ok (.sipush 265, 3) := by decide +kernel
theorem d_MacroExpandModel_carryOut_63 : decode b_MacroExpandModel_carryOut 63 = .ok (.if_icmp .ne 7, 3) := by decide +kernel
theorem d_MacroExpandModel_carryOut_66 : decode b_MacroExpandModel_carryOut 66 = .ok (.iconst 1, 1) := by decide +kernel
theorem d_MacroExpandModel_carryOut_67 : decode b_MacroExpandModel_carryOut 67 = .ok (.goto 4, 3) := by decide +kernel
theorem d_MacroExpandModel_carryOut_70 : decode b_MacroExpandModel_carryOut 70 = .ok (.iconst 0, 1) := by decide +kernel
theorem d_MacroExpandModel_carryOut_71 : decode b_MacroExpandModel_carryOut 71 = .ok (.invokevirtual 210, 3) := by decide +kernel
theorem d_MacroExpandModel_carryOut_74 : decode b_MacroExpandModel_carryOut 74 = .ok (.goto 103, 3) := by decide +kernel
theorem d_MacroExpandModel_carryOut_77 : decode b_MacroExpandModel_carryOut 77 = .ok (.aload_n 0, 1) := by decide +kernel
theorem d_MacroExpandModel_carryOut_78 : decode b_MacroExpandModel_carryOut 78 = .ok (.getfield 201, 3) := by decide +kernel
theorem d_MacroExpandModel_carryOut_81 : decode b_MacroExpandModel_carryOut 81 = .ok (.ifCond .eq 12, 3) := by decide +kernel
theorem d_MacroExpandModel_carryOut_84 : decode b_MacroExpandModel_carryOut 84 = .ok (.aload_n 0, 1) := by decide +kernel
theorem d_MacroExpandModel_carryOut_85 : decode b_MacroExpandModel_carryOut 85 = .ok (.bipush 6, 2) := by decide +kernel
theorem d_MacroExpandModel_carryOut_87 : decode b_MacroExpandModel_carryOut 87 = .ok (.invokevirtual 123, 3) := by decide +kernel
theorem d_MacroExpandModel_carryOut_90 : decode b_MacroExpandModel_carryOut 90 = .ok (.goto 87, 3) := by decide +kernel
theorem d_MacroExpandModel_carryOut_93 : decode b_MacroExpandModel_carryOut 93 = .ok (.iload_n 1, 1) := by decide +kernel
theorem d_MacroExpandModel_carryOut_94 : decode b_MacroExpandModel_carryOut 94 = .ok (.sipush 269, 3) := by decide +kernel
theorem d_MacroExpandModel_carryOut_97 : decode b_MacroExpandModel_carryOut 97 = .ok (.if_icmp .ne 35, 3) := by decide +kernel
theorem d_MacroExpandModel_carryOut_100 : decode b_MacroExpandModel_carryOut 100 = .ok (.aload_n 0, 1) := by decide +kernel
theorem d_MacroExpandModel_carryOut_101 : decode b_MacroExpandModel_carryOut 101 = .ok (.getfield 107, 3) := by decide +kernel
theorem d_MacroExpandModel_carryOut_104 : decode b_MacroExpandModel_carryOut 104 = .ok (.iconst 2, 1) := by decide +kernel
theorem d_MacroExpandModel_carryOut_105 : decode b_MacroExpandModel_carryOut 105 = .ok (.if_icmp .ge 9, 3) := by decide +kernel
theorem d_MacroExpandModel_carryOut_108 : decode b_MacroExpandModel_carryOut 108 = .ok (.aload_n 0, 1) := by decide +kernel
theorem d_MacroExpandModel_carryOut_109 : decode b_MacroExpandModel_carryOut 109 = .ok (.iconst 1, 1) := by decide +kernel
theorem d_MacroExpandModel_carryOut_110 : decode b_MacroExpandModel_carryOut 110 = .ok (.invokevirtual 123, 3) := by decide +kernel
theorem d_MacroExpandModel_carryOut_113 : decode b_MacroExpandModel_carryOut 113 = .ok (.return_, 1) := by decide +kernel
theorem d_MacroExpandModel_carryOut_114 : decode b_MacroExpandModel_carryOut 114 = .ok (.aload_n 0, 1) := by decide +kernel
theorem d_MacroExpandModel_carryOut_115 : decode b_MacroExpandModel_carryOut 115 = .ok (.aload_n 0, 1) := by decide +kernel
theorem d_MacroExpandModel_carryOut_116 : decode b_MacroExpandModel_carryOut 116 = .ok (.iconst 1, 1) := by decide +kernel
theorem d_MacroExpandModel_carryOut_117 : decode b_MacroExpandModel_carryOut 117 = .ok (.invokevirtual 116, 3) := by decide +kernel
theorem d_MacroExpandModel_carryOut_120 : decode b_MacroExpandModel_carryOut 120 = .ok (.putfield 204, 3) := by decide +kernel
theorem d_MacroExpandModel_carryOut_123 : decode b_MacroExpandModel_carryOut 123 = .ok (.aload_n 0, 1) := by decide +kernel
theorem d_MacroExpandModel_carryOut_124 : decode b_MacroExpandModel_carryOut 124 = .ok (.iconst 0, 1) := by decide +kernel
theorem d_MacroExpandModel_carryOut_125 : decode b_MacroExpandModel_carryOut 125 = .ok (.iconst 2, 1) := by decide +kernel
theorem d_MacroExpandModel_carryOut_126 : decode b_MacroExpandModel_carryOut 126 = .ok (.invokevirtual 160, 3) := by decide +kernel
theorem d_MacroExpandModel_carryOut_129 : decode b_MacroExpandModel_carryOut 129 = .ok (.goto 48, 3) := by decide +kernel
theorem d_MacroExpandModel_carryOut_132 : decode b_MacroExpandModel_carryOut 132 = .ok (.aload_n 0, 1) := by decide +kernel
theorem d_MacroExpandModel_carryOut_133 : decode b_MacroExpandModel_carryOut 133 = .ok (.getfield 214, 3) := by decide +kernel
theorem d_MacroExpandModel_carryOut_136 : decode b_MacroExpandModel_carryOut 136 = .ok (.sipush 3000, 3) := by decide +kernel
theorem d_MacroExpandModel_carryOut_139 : decode b_MacroExpandModel_carryOut 139 = .ok (.if_icmp .ne 12, 3) := by decide +kernel
theorem d_MacroExpandModel_carryOut_142 : decode b_MacroExpandModel_carryOut 142 = .ok (.aload_n 0, 1) := by decide +kernel
theorem d_MacroExpandModel_carryOut_143 : decode b_MacroExpandModel_carryOut 143 = .ok (.bipush 8, 2) := by decide +kernel
theorem d_MacroExpandModel_carryOut_145 : decode b_MacroExpandModel_carryOut 145 = .ok (.invokevirtual 123, 3) := by decide +kernel
theorem d_MacroExpandModel_carryOut_148 : decode b_MacroExpandModel_carryOut 148 = .ok (.goto 29, 3) := by decide +kernel
theorem d_MacroExpandModel_carryOut_151 : decode b_MacroExpandModel_carryOut 151 = .ok (.aload_n 0, 1) := by decide +kernel
theorem d_MacroExpandModel_carryOut_152 : decode b_MacroExpandModel_carryOut 152 = .ok (.getfield 13, 3) := by decide +kernel
theorem d_MacroExpandModel_carryOut_155 : decode b_MacroExpandModel_carryOut 155 = .ok (.aload_n 0, 1) := by decide +kernel
theorem d_MacroExpandModel_carryOut_156 : decode b_MacroExpandModel_carryOut 156 = .ok (.getfield 214, 3) := by decide +kernel
theorem d_MacroExpandModel_carryOut_159 : decode b_MacroExpandModel_carryOut 159 = .ok (.iload_n 1, 1) := by decide +kernel
theorem d_MacroExpandModel_carryOut_160 : decode b_MacroExpandModel_carryOut 160 = .ok (.iastore, 1) := by decide +kernel
theorem d_MacroExpandModel_carryOut_161 : decode b_MacroExpandModel_carryOut 161 = .ok (.aload_n 0, 1) := by decide +kernel
theorem d_MacroExpandModel_carryOut_162 : decode b_MacroExpandModel_carryOut 162 = .ok (.dup, 1) := by decide +kernel
theorem d_MacroExpandModel_carryOut_163 : decode b_MacroExpandModel_carryOut 163 = .ok (.getfield 214, 3) := by decide +kernel
theorem d_MacroExpandModel_carryOut_166 : decode b_MacroExpandModel_carryOut 166 = .ok (.iconst 1, 1) := by decide +kernel
theorem d_MacroExpandModel_carryOut_167 : decode b_MacroExpandModel_carryOut 167 = .ok (.iadd, 1) := by decide +kernel
theorem d_MacroExpandModel_carryOut_168 : decode b_MacroExpandModel_carryOut 168 = .ok (.putfield 214, 3) := by decide +kernel
theorem d_MacroExpandModel_carryOut_171 : decode b_MacroExpandModel_carryOut 171 = .ok (.aload_n 0, 1) := by decide +kernel
theorem d_MacroExpandModel_carryOut_172 : decode b_MacroExpandModel_carryOut 172 = .ok (.iconst 0, 1) := by decide +kernel
theorem d_MacroExpandModel_carryOut_173 : decode b_MacroExpandModel_carryOut 173 = .ok (.iconst 1, 1) := by decide +kernel
theorem d_MacroExpandModel_carryOut_174 : decode b_MacroExpandModel_carryOut 174 = .ok (.invokevirtual 160, 3) := by decide +kernel
theorem d_MacroExpandModel_carryOut_177 : decode b_MacroExpandModel_carryOut 177 = .ok (.return_, 1) := by decide +kernel
theorem d_MacroExpandModel_ended_0 : decode b_MacroExpandModel_ended 0 = .ok (.aload_n 0, 1) := by decide +kernel
theorem d_MacroExpandModel_ended_1 : decode b_MacroExpandModel_ended 1 = .ok (.getfield 113, 3) := by decide +kernel
theorem d_MacroExpandModel_ended_4 : decode b_MacroExpandModel_ended 4 = .ok (.ifCond .ne 5, 3) := by decide +kernel
theorem d_MacroExpandModel_ended_7 : decode b_MacroExpandModel_ended 7 = .ok (.iload_n 1, 1) := by decide +kernel
theorem d_MacroExpandModel_ended_8 : decode b_MacroExpandModel_ended 8 = .ok (.ireturn, 1) := by decide +kernel
theorem d_MacroExpandModel_ended_9 : decode b_MacroExpandModel_ended 9 = .ok (.aload_n 0, 1) := by decide +kernel
theorem d_MacroExpandModel_ended_10 : decode b_MacroExpandModel_ended 10 = .ok (.iconst 0, 1) := by decide +kernel
theorem d_MacroExpandModel_ended_11 : decode b_MacroExpandModel_ended 11 = .ok (.putfield 107, 3) := by decide +kernel
theorem d_MacroExpandModel_ended_14 : decode b_MacroExpandModel_ended 14 = .ok (.aload_n 0, 1) := by decide +kernel
theorem d_MacroExpandModel_ended_15 : decode b_MacroExpandModel_ended 15 = .ok (.getfield 113, 3) := by decide +kernel
theorem d_MacroExpandModel_ended_18 : decode b_MacroExpandModel_ended 18 = .ok (.ineg, 1) := by decide +kernel
theorem d_MacroExpandModel_ended_19 : decode b_MacroExpandModel_ended 19 = .ok (.ireturn, 1) := by decide +kernel
theorem d_MacroExpandModel_expand_0 : decode b_MacroExpandModel_expand 0 = .ok (.aload_n 0, 1) := by decide +kernel
theorem d_MacroExpandModel_expand_1 : decode b_MacroExpandModel_expand 1 = .ok (.invokevirtual 217, 3) := by decide +kernel
theorem d_MacroExpandModel_expand_4 : decode b_MacroExpandModel_expand 4 = .ok (.iload_n 1, 1) := by decide +kernel
theorem d_MacroExpandModel_expand_5 : decode b_MacroExpandModel_expand 5 = .ok (.ifCond .ne 32, 3) := by decide +kernel
theorem d_MacroExpandModel_expand_8 : decode b_MacroExpandModel_expand 8 = .ok (.aload_n 0, 1) := by decide +kernel
theorem d_MacroExpandModel_expand_9 : decode b_MacroExpandModel_expand 9 = .ok (.getfield 107, 3) := by decide +kernel
theorem d_MacroExpandModel_expand_12 : decode b_MacroExpandModel_expand 12 = .ok (.ifCond .le 16, 3) := by decide +kernel
theorem d_MacroExpandModel_expand_15 : decode b_MacroExpandModel_expand 15 = .ok (.aload_n 0, 1) := by decide +kernel
theorem d_MacroExpandModel_expand_16 : decode b_MacroExpandModel_expand 16 = .ok (.iconst 0, 1) := by decide +kernel
theorem d_MacroExpandModel_expand_17 : decode b_MacroExpandModel_expand 17 = .ok (.invokevirtual 182, 3) := by decide +kernel
theorem d_MacroExpandModel_expand_20 : decode b_MacroExpandModel_expand 20 = .ok (.ifCond .eq 8, 3) := by decide +kernel
theorem d_MacroExpandModel_expand_23 : decode b_MacroExpandModel_expand 23 = .ok (.aload_n 0, 1) := by decide +kernel
theorem d_MacroExpandModel_expand_24 : decode b_MacroExpandModel_expand 24 = .ok (.iconst 0, 1) := by decide +kernel
theorem d_MacroExpandModel_expand_25 : decode b_MacroExpandModel_expand 25 = .ok (.invokevirtual 207, 3) := by decide +kernel
theorem d_MacroExpandModel_expand_28 : decode b_MacroExpandModel_expand 28 = .ok (.aload_n 0, 1) := by decide +kernel
theorem d_MacroExpandModel_expand_29 : decode b_MacroExpandModel_expand 29 = .ok (.aload_n 0, 1) := by decide +kernel
theorem d_MacroExpandModel_expand_30 : decode b_MacroExpandModel_expand 30 = .ok (.getfield 107, 3) := by decide +kernel
theorem d_MacroExpandModel_expand_33 : decode b_MacroExpandModel_expand 33 = .ok (.invokevirtual 220, 3) := by decide +kernel
theorem d_MacroExpandModel_expand_36 : decode b_MacroExpandModel_expand 36 = .ok (.ireturn, 1) := by decide +kernel
theorem d_MacroExpandModel_expand_37 : decode b_MacroExpandModel_expand 37 = .ok (.aload_n 0, 1) := by decide +kernel
theorem d_MacroExpandModel_expand_38 : decode b_MacroExpandModel_expand 38 = .ok (.iconst 0, 1) := by decide +kernel
theorem d_MacroExpandModel_expand_39 : decode b_MacroExpandModel_expand 39 = .ok (.putfield 214, 3) := by decide +kernel
theorem d_MacroExpandModel_expand_42 : decode b_MacroExpandModel_expand 42 = .ok (.aload_n 0, 1) := by decide +kernel
theorem d_MacroExpandModel_expand_43 : decode b_MacroExpandModel_expand 43 = .ok (.getfield 107, 3) := by decide +kernel
theorem d_MacroExpandModel_expand_46 : decode b_MacroExpandModel_expand 46 = .ok (.ifCond .le 47, 3) := by decide +kernel
theorem d_MacroExpandModel_expand_49 : decode b_MacroExpandModel_expand 49 = .ok (.aload_n 0, 1) := by decide +kernel
theorem d_MacroExpandModel_expand_50 : decode b_MacroExpandModel_expand 50 = .ok (.getfield 113, 3) := by decide +kernel
theorem d_MacroExpandModel_expand_53 : decode b_MacroExpandModel_expand 53 = .ok (.ifCond .ne 40, 3) := by decide +kernel
theorem d_MacroExpandModel_expand_56 : decode b_MacroExpandModel_expand 56 = .ok (.aload_n 0, 1) := by decide +kernel
theorem d_MacroExpandModel_expand_57 : decode b_MacroExpandModel_expand 57 = .ok (.getfield 178, 3) := by decide +kernel
theorem d_MacroExpandModel_expand_60 : decode b_MacroExpandModel_expand 60 = .ok (.istore_n 2, 1) := by decide +kernel
theorem d_MacroExpandModel_expand_61 : decode b_MacroExpandModel_expand 61 = .ok (.aload_n 0, 1) := by decide +kernel
theorem d_MacroExpandModel_expand_62 : decode b_MacroExpandModel_expand 62 = .ok (.iconst 0, 1) := by decide +kernel
theorem d_MacroExpandModel_expand_63 : decode b_MacroExpandModel_expand 63 = .ok (.putfield 178, 3) := by decide +kernel
theorem d_MacroExpandModel_expand_66 : decode b_MacroExpandModel_expand 66 = .ok (.iload_n 2, 1) := by decide +kernel
theorem d_MacroExpandModel_expand_67 : decode b_MacroExpandModel_expand 67 = .ok (.ifCond .ne 19, 3) := by decide +kernel
theorem d_MacroExpandModel_expand_70 : decode b_MacroExpandModel_expand 70 = .ok (.aload_n 0, 1) := by decide +kernel
theorem d_MacroExpandModel_expand_71 : decode b_MacroExpandModel_expand 71 = .ok (.iconst 0, 1) := by decide +kernel
theorem d_MacroExpandModel_expand_72 : decode b_MacroExpandModel_expand 72 = .ok (.invokevirtual 182, 3) := by decide +kernel
theorem d_MacroExpandModel_expand_75 : decode b_MacroExpandModel_expand 75 = .ok (.ifCond .eq 11, 3) := by decide +kernel
theorem d_MacroExpandModel_expand_78 : decode b_MacroExpandModel_expand 78 = .ok (.aload_n 0, 1) := by decide +kernel
theorem d_MacroExpandModel_expand_79 : decode b_MacroExpandModel_expand 79 = .ok (.iconst 0, 1) := by decide +kernel
theorem d_MacroExpandModel_expand_80 : decode b_MacroExpandModel_expand 80 = .ok (.invokevirtual 207, 3) := by decide +kernel
theorem d_MacroExpandModel_expand_83 : decode b_MacroExpandModel_expand 83 = .ok (.goto 7, 3) := by decide +kernel
theorem d_MacroExpandModel_expand_86 : decode b_MacroExpandModel_expand 86 = .ok (.aload_n 0, 1) := by decide +kernel
theorem d_MacroExpandModel_expand_87 : decode b_MacroExpandModel_expand 87 = .ok (.invokevirtual 223, 3) := by decide +kernel
theorem d_MacroExpandModel_expand_90 : decode b_MacroExpandModel_expand 90 = .ok (.goto (-48), 3) := by decide +kernel
theorem d_MacroExpandModel_expand_93 : decode b_MacroExpandModel_expand 93 = .ok (.aload_n 0, 1) := by decide +kernel
theorem d_MacroExpandModel_expand_94 : decode b_MacroExpandModel_expand 94 = .ok (.getfield 113, 3) := by decide +kernel
theorem d_MacroExpandModel_expand_97 : decode b_MacroExpandModel_expand 97 = .ok (.ifCond .ne 15, 3) := by decide +kernel
theorem d_MacroExpandModel_expand_100 : decode b_MacroExpandModel_expand 100 = .ok (.aload_n 0, 1) := by decide +kernel
theorem d_MacroExpandModel_expand_101 : decode b_MacroExpandModel_expand 101 = .ok (.getfield 201, 3) := by decide +kernel
theorem d_MacroExpandModel_expand_104 : decode b_MacroExpandModel_expand 104 = .ok (.ifCond .eq 8, 3) := by decide +kernel
theorem d_MacroExpandModel_expand_107 : decode b_MacroExpandModel_expand 107 = .ok (.aload_n 0, 1) := by decide +kernel
theorem d_MacroExpandModel_expand_108 : decode b_MacroExpandModel_expand 108 = .ok (.iconst 1, 1) := by decide +kernel
theorem d_MacroExpandModel_expand_109 : decode b_MacroExpandModel_expand 109 = .ok (.invokevirtual 123, 3) := by decide +kernel
theorem d_MacroExpandModel_expand_112 : decode b_MacroExpandModel_expand 112 = .ok (.aload_n 0, 1) := by decide +kernel
theorem d_MacroExpandModel_expand_113 : decode b_MacroExpandModel_expand 113 = .ok (.aload_n 0, 1) := by decide +kernel
theorem d_MacroExpandModel_expand_114 : decode b_MacroExpandModel_expand 114 = .ok (.getfield 214, 3) := by decide +kernel
theorem d_MacroExpandModel_expand_117 : decode b_MacroExpandModel_expand 117 = .ok (.invokevirtual 220, 3) := by decide +kernel
theorem d_MacroExpandModel_expand_120 : decode b_MacroExpandModel_expand 120 = .ok (.ireturn, 1) := by decide +kernel
theorem d_MacroExpandModel_at_0 : decode b_MacroExpandModel_at 0 = .ok (.iload_n 1, 1) := by decide +kernel
theorem d_MacroExpandModel_at_1 : decode b_MacroExpandModel_at 1 = .ok (.iconst 0, 1) := by decide +kernel
theorem d_MacroExpandModel_at_2 : decode b_MacroExpandModel_at 2 = .ok (.aload_n 0, 1) := by decide +kernel
theorem d_MacroExpandModel_at_3 : decode b_MacroExpandModel_at 3 = .ok (.getfield 214, 3) := by decide +kernel
theorem d_MacroExpandModel_at_6 : decode b_MacroExpandModel_at 6 = .ok (.iconst 1, 1) := by decide +kernel
theorem d_MacroExpandModel_at_7 : decode b_MacroExpandModel_at 7 = .ok (.isub, 1) := by decide +kernel
theorem d_MacroExpandModel_at_8 : decode b_MacroExpandModel_at 8 = .ok (.invokestatic 83, 3) := by decide +kernel
theorem d_MacroExpandModel_at_11 : decode b_MacroExpandModel_at 11 = .ok (.ifCond .eq 12, 3) := by decide +kernel
theorem d_MacroExpandModel_at_14 : decode b_MacroExpandModel_at 14 = .ok (.aload_n 0, 1) := by decide +kernel
theorem d_MacroExpandModel_at_15 : decode b_MacroExpandModel_at 15 = .ok (.getfield 13, 3) := by decide +kernel
theorem d_MacroExpandModel_at_18 : decode b_MacroExpandModel_at 18 = .ok (.iload_n 1, 1) := by decide +kernel
theorem d_MacroExpandModel_at_19 : decode b_MacroExpandModel_at 19 = .ok (.iaload, 1) := by decide +kernel
theorem d_MacroExpandModel_at_20 : decode b_MacroExpandModel_at 20 = .ok (.goto 4, 3) := by decide +kernel
theorem d_MacroExpandModel_at_23 : decode b_MacroExpandModel_at 23 = .ok (.iconst (-1), 1) := by decide +kernel
theorem d_MacroExpandModel_at_24 : decode b_MacroExpandModel_at 24 = .ok (.ireturn, 1) := by decide +kernel
theorem d_MacroExpandModel_fault_0 : decode b_MacroExpandModel_fault 0 = .ok (.iload_n 1, 1) := by decide +kernel
theorem d_MacroExpandModel_fault_1 : decode b_MacroExpandModel_fault 1 = .ok (.ifCond .ne 10, 3) := by decide +kernel
theorem d_MacroExpandModel_fault_4 : decode b_MacroExpandModel_fault 4 = .ok (.aload_n 0, 1) := by decide +kernel
theorem d_MacroExpandModel_fault_5 : decode b_MacroExpandModel_fault 5 = .ok (.getfield 113, 3) := by decide +kernel
theorem d_MacroExpandModel_fault_8 : decode b_MacroExpandModel_fault 8 = .ok (.goto 40, 3) := by decide +kernel
theorem d_MacroExpandModel_fault_11 : decode b_MacroExpandModel_fault 11 = .ok (.iload_n 1, 1) := by decide +kernel
theorem d_MacroExpandModel_fault_12 : decode b_MacroExpandModel_fault 12 = .ok (.iconst 1, 1) := by decide +kernel
theorem d_MacroExpandModel_fault_13 : decode b_MacroExpandModel_fault 13 = .ok (.if_icmp .ne 21, 3) := by decide +kernel
theorem d_MacroExpandModel_fault_16 : decode b_MacroExpandModel_fault 16 = .ok (.aload_n 0, 1) := by decide +kernel
theorem d_MacroExpandModel_fault_17 : decode b_MacroExpandModel_fault 17 = .ok (.getfield 113, 3) := by decide +kernel
theorem d_MacroExpandModel_fault_20 : decode b_MacroExpandModel_fault 20 = .ok (.ifCond .ne 7, 3) := by decide +kernel
theorem d_MacroExpandModel_fault_23 : decode b_MacroExpandModel_fault 23 = .ok (.iconst 0, 1) := by decide +kernel
theorem d_MacroExpandModel_fault_24 : decode b_MacroExpandModel_fault 24 = .ok (.goto 24, 3) := by decide +kernel
theorem d_MacroExpandModel_fault_27 : decode b_MacroExpandModel_fault 27 = .ok (.aload_n 0, 1) := by decide +kernel
theorem d_MacroExpandModel_fault_28 : decode b_MacroExpandModel_fault 28 = .ok (.getfield 142, 3) := by decide +kernel
theorem d_MacroExpandModel_fault_31 : decode b_MacroExpandModel_fault 31 = .ok (.goto 17, 3) := by decide +kernel
theorem d_MacroExpandModel_fault_34 : decode b_MacroExpandModel_fault 34 = .ok (.iload_n 1, 1) := by decide +kernel
theorem d_MacroExpandModel_fault_35 : decode b_MacroExpandModel_fault 35 = .ok (.iconst 2, 1) := by decide +kernel
theorem d_MacroExpandModel_fault_36 : decode b_MacroExpandModel_fault 36 = .ok (.if_icmp .ne 10, 3) := by decide +kernel
theorem d_MacroExpandModel_fault_39 : decode b_MacroExpandModel_fault 39 = .ok (.aload_n 0, 1) := by decide +kernel
theorem d_MacroExpandModel_fault_40 : decode b_MacroExpandModel_fault 40 = .ok (.getfield 175, 3) := by decide +kernel
theorem d_MacroExpandModel_fault_43 : decode b_MacroExpandModel_fault 43 = .ok (.goto 5, 3) := by decide +kernel
theorem d_MacroExpandModel_fault_46 : decode b_MacroExpandModel_fault 46 = .ok (.bipush (-2), 2) := by decide +kernel
theorem d_MacroExpandModel_fault_48 : decode b_MacroExpandModel_fault 48 = .ok (.ireturn, 1) := by decide +kernel
theorem d_MacroExpandModel_named_0 : decode b_MacroExpandModel_named 0 = .ok (.iload_n 1, 1) := by decide +kernel
theorem d_MacroExpandModel_named_1 : decode b_MacroExpandModel_named 1 = .ok (.iconst (-1), 1) := by decide +kernel
theorem d_MacroExpandModel_named_2 : decode b_MacroExpandModel_named 2 = .ok (.if_icmp .ne 10, 3) := by decide +kernel
theorem d_MacroExpandModel_named_5 : decode b_MacroExpandModel_named 5 = .ok (.aload_n 0, 1) := by decide +kernel
theorem d_MacroExpandModel_named_6 : decode b_MacroExpandModel_named 6 = .ok (.getfield 172, 3) := by decide +kernel
theorem d_MacroExpandModel_named_9 : decode b_MacroExpandModel_named 9 = .ok (.goto 27, 3) := by decide +kernel
theorem d_MacroExpandModel_named_12 : decode b_MacroExpandModel_named 12 = .ok (.iload_n 1, 1) := by decide +kernel
theorem d_MacroExpandModel_named_13 : decode b_MacroExpandModel_named 13 = .ok (.iconst 0, 1) := by decide +kernel
theorem d_MacroExpandModel_named_14 : decode b_MacroExpandModel_named 14 = .ok (.aload_n 0, 1) := by decide +kernel
theorem d_MacroExpandModel_named_15 : decode b_MacroExpandModel_named 15 = .ok (.getfield 172, 3) := by decide +kernel
theorem d_MacroExpandModel_named_18 : decode b_MacroExpandModel_named 18 = .ok (.iconst 1, 1) := by decide +kernel
theorem d_MacroExpandModel_named_19 : decode b_MacroExpandModel_named 19 = .ok (.isub, 1) := by decide +kernel
theorem d_MacroExpandModel_named_20 : decode b_MacroExpandModel_named 20 = .ok (.invokestatic 83, 3) := by decide +kernel
theorem d_MacroExpandModel_named_23 : decode b_MacroExpandModel_named 23 = .ok (.ifCond .eq 12, 3) := by decide +kernel
theorem d_MacroExpandModel_named_26 : decode b_MacroExpandModel_named 26 = .ok (.aload_n 0, 1) := by decide +kernel
theorem d_MacroExpandModel_named_27 : decode b_MacroExpandModel_named 27 = .ok (.getfield 41, 3) := by decide +kernel
theorem d_MacroExpandModel_named_30 : decode b_MacroExpandModel_named 30 = .ok (.iload_n 1, 1) := by decide +kernel
theorem d_MacroExpandModel_named_31 : decode b_MacroExpandModel_named 31 = .ok (.iaload, 1) := by decide +kernel
theorem d_MacroExpandModel_named_32 : decode b_MacroExpandModel_named 32 = .ok (.goto 4, 3) := by decide +kernel
theorem d_MacroExpandModel_named_35 : decode b_MacroExpandModel_named 35 = .ok (.iconst (-1), 1) := by decide +kernel
theorem d_MacroExpandModel_named_36 : decode b_MacroExpandModel_named 36 = .ok (.ireturn, 1) := by decide +kernel
theorem d_MacroExpandModel_traced_0 : decode b_MacroExpandModel_traced 0 = .ok (.iload_n 1, 1) := by decide +kernel
theorem d_MacroExpandModel_traced_1 : decode b_MacroExpandModel_traced 1 = .ok (.iconst 0, 1) := by decide +kernel
theorem d_MacroExpandModel_traced_2 : decode b_MacroExpandModel_traced 2 = .ok (.aload_n 0, 1) := by decide +kernel
theorem d_MacroExpandModel_traced_3 : decode b_MacroExpandModel_traced 3 = .ok (.getfield 169, 3) := by decide +kernel
theorem d_MacroExpandModel_traced_6 : decode b_MacroExpandModel_traced 6 = .ok (.iconst 1, 1) := by decide +kernel
theorem d_MacroExpandModel_traced_7 : decode b_MacroExpandModel_traced 7 = .ok (.isub, 1) := by decide +kernel
theorem d_MacroExpandModel_traced_8 : decode b_MacroExpandModel_traced 8 = .ok (.invokestatic 83, 3) := by decide +kernel
theorem d_MacroExpandModel_traced_11 : decode b_MacroExpandModel_traced 11 = .ok (.ifCond .eq 25, 3) := by decide +kernel
theorem d_MacroExpandModel_traced_14 : decode b_MacroExpandModel_traced 14 = .ok (.iload_n 2, 1) := by decide +kernel
theorem d_MacroExpandModel_traced_15 : decode b_MacroExpandModel_traced 15 = .ok (.iconst 0, 1) := by decide +kernel
theorem d_MacroExpandModel_traced_16 : decode b_MacroExpandModel_traced 16 = .ok (.iconst 2, 1) := by decide +kernel
theorem d_MacroExpandModel_traced_17 : decode b_MacroExpandModel_traced 17 = .ok (.invokestatic 83, 3) := by decide +kernel
theorem d_MacroExpandModel_traced_20 : decode b_MacroExpandModel_traced 20 = .ok (.ifCond .eq 16, 3) := by decide +kernel
theorem d_MacroExpandModel_traced_23 : decode b_MacroExpandModel_traced 23 = .ok (.aload_n 0, 1) := by decide +kernel
theorem d_MacroExpandModel_traced_24 : decode b_MacroExpandModel_traced 24 = .ok (.getfield 53, 3) := by decide +kernel
theorem d_MacroExpandModel_traced_27 : decode b_MacroExpandModel_traced 27 = .ok (.iconst 3, 1) := by decide +kernel
theorem d_MacroExpandModel_traced_28 : decode b_MacroExpandModel_traced 28 = .ok (.iload_n 1, 1) := by decide +kernel
theorem d_MacroExpandModel_traced_29 : decode b_MacroExpandModel_traced 29 = .ok (.imul, 1) := by decide +kernel
theorem d_MacroExpandModel_traced_30 : decode b_MacroExpandModel_traced 30 = .ok (.iload_n 2, 1) := by decide +kernel
theorem d_MacroExpandModel_traced_31 : decode b_MacroExpandModel_traced 31 = .ok (.iadd, 1) := by decide +kernel
theorem d_MacroExpandModel_traced_32 : decode b_MacroExpandModel_traced 32 = .ok (.iaload, 1) := by decide +kernel
theorem d_MacroExpandModel_traced_33 : decode b_MacroExpandModel_traced 33 = .ok (.goto 4, 3) := by decide +kernel
theorem d_MacroExpandModel_traced_36 : decode b_MacroExpandModel_traced 36 = .ok (.iconst (-1), 1) := by decide +kernel
theorem d_MacroExpandModel_traced_37 : decode b_MacroExpandModel_traced 37 = .ok (.ireturn, 1) := by decide +kernel
theorem d_MacroExpandModel_input_0 : decode b_MacroExpandModel_input 0 = .ok (.iload_n 1, 1) := by decide +kernel
theorem d_MacroExpandModel_input_1 : decode b_MacroExpandModel_input 1 = .ok (.iconst 0, 1) := by decide +kernel
theorem d_MacroExpandModel_input_2 : decode b_MacroExpandModel_input 2 = .ok (.aload_n 0, 1) := by decide +kernel
theorem d_MacroExpandModel_input_3 : decode b_MacroExpandModel_input 3 = .ok (.getfield 107, 3) := by decide +kernel
theorem d_MacroExpandModel_input_6 : decode b_MacroExpandModel_input 6 = .ok (.iconst 1, 1) := by decide +kernel
theorem d_MacroExpandModel_input_7 : decode b_MacroExpandModel_input 7 = .ok (.isub, 1) := by decide +kernel
theorem d_MacroExpandModel_input_8 : decode b_MacroExpandModel_input 8 = .ok (.invokestatic 83, 3) := by decide +kernel
theorem d_MacroExpandModel_input_11 : decode b_MacroExpandModel_input 11 = .ok (.ifCond .eq 11, 3) := by decide +kernel
theorem d_MacroExpandModel_input_14 : decode b_MacroExpandModel_input 14 = .ok (.aload_n 0, 1) := by decide +kernel
theorem d_MacroExpandModel_input_15 : decode b_MacroExpandModel_input 15 = .ok (.iload_n 1, 1) := by decide +kernel
theorem d_MacroExpandModel_input_16 : decode b_MacroExpandModel_input 16 = .ok (.invokevirtual 116, 3) := by decide +kernel
theorem d_MacroExpandModel_input_19 : decode b_MacroExpandModel_input 19 = .ok (.goto 4, 3) := by decide +kernel
theorem d_MacroExpandModel_input_22 : decode b_MacroExpandModel_input 22 = .ok (.iconst (-1), 1) := by decide +kernel
theorem d_MacroExpandModel_input_23 : decode b_MacroExpandModel_input 23 = .ok (.ireturn, 1) := by decide +kernel
theorem d_MacroExpandModel_macro_0 : decode b_MacroExpandModel_macro 0 = .ok (.iload_n 1, 1) := by decide +kernel
theorem d_MacroExpandModel_macro_1 : decode b_MacroExpandModel_macro 1 = .ok (.iconst 0, 1) := by decide +kernel
theorem d_MacroExpandModel_macro_2 : decode b_MacroExpandModel_macro 2 = .ok (.sipush 199, 3) := by decide +kernel
theorem d_MacroExpandModel_macro_5 : decode b_MacroExpandModel_macro 5 = .ok (.invokestatic 83, 3) := by decide +kernel
theorem d_MacroExpandModel_macro_8 : decode b_MacroExpandModel_macro 8 = .ok (.ifCond .eq 12, 3) := by decide +kernel
theorem d_MacroExpandModel_macro_11 : decode b_MacroExpandModel_macro 11 = .ok (.aload_n 0, 1) := by decide +kernel
theorem d_MacroExpandModel_macro_12 : decode b_MacroExpandModel_macro 12 = .ok (.getfield 35, 3) := by decide +kernel
theorem d_MacroExpandModel_macro_15 : decode b_MacroExpandModel_macro 15 = .ok (.iload_n 1, 1) := by decide +kernel
theorem d_MacroExpandModel_macro_16 : decode b_MacroExpandModel_macro 16 = .ok (.iaload, 1) := by decide +kernel
theorem d_MacroExpandModel_macro_17 : decode b_MacroExpandModel_macro 17 = .ok (.goto 4, 3) := by decide +kernel
theorem d_MacroExpandModel_macro_20 : decode b_MacroExpandModel_macro 20 = .ok (.iconst (-1), 1) := by decide +kernel
theorem d_MacroExpandModel_macro_21 : decode b_MacroExpandModel_macro 21 = .ok (.ireturn, 1) := by decide +kernel
theorem d_Arrays_fill_0 : decode b_Arrays_fill 0 = .ok (.iconst 0, 1) := by decide +kernel
theorem d_Arrays_fill_1 : decode b_Arrays_fill 1 = .ok (.istore_n 2, 1) := by decide +kernel
theorem d_Arrays_fill_2 : decode b_Arrays_fill 2 = .ok (.aload_n 0, 1) := by decide +kernel
theorem d_Arrays_fill_3 : decode b_Arrays_fill 3 = .ok (.arraylength, 1) := by decide +kernel
theorem d_Arrays_fill_4 : decode b_Arrays_fill 4 = .ok (.istore_n 3, 1) := by decide +kernel
theorem d_Arrays_fill_5 : decode b_Arrays_fill 5 = .ok (.iload_n 2, 1) := by decide +kernel
theorem d_Arrays_fill_6 : decode b_Arrays_fill 6 = .ok (.iload_n 3, 1) := by decide +kernel
theorem d_Arrays_fill_7 : decode b_Arrays_fill 7 = .ok (.if_icmp .ge 13, 3) := by decide +kernel
theorem d_Arrays_fill_10 : decode b_Arrays_fill 10 = .ok (.aload_n 0, 1) := by decide +kernel
theorem d_Arrays_fill_11 : decode b_Arrays_fill 11 = .ok (.iload_n 2, 1) := by decide +kernel
theorem d_Arrays_fill_12 : decode b_Arrays_fill 12 = .ok (.iload_n 1, 1) := by decide +kernel
theorem d_Arrays_fill_13 : decode b_Arrays_fill 13 = .ok (.iastore, 1) := by decide +kernel
theorem d_Arrays_fill_14 : decode b_Arrays_fill 14 = .ok (.iinc 2 1, 3) := by decide +kernel
theorem d_Arrays_fill_17 : decode b_Arrays_fill 17 = .ok (.goto (-12), 3) := by decide +kernel
theorem d_Arrays_fill_20 : decode b_Arrays_fill 20 = .ok (.return_, 1) := by decide +kernel
theorem d_Arrays_copyOf_0 : decode b_Arrays_copyOf 0 = .ok (.iload_n 1, 1) := by decide +kernel
theorem d_Arrays_copyOf_1 : decode b_Arrays_copyOf 1 = .ok (.aload_n 0, 1) := by decide +kernel
theorem d_Arrays_copyOf_2 : decode b_Arrays_copyOf 2 = .ok (.arraylength, 1) := by decide +kernel
theorem d_Arrays_copyOf_3 : decode b_Arrays_copyOf 3 = .ok (.if_icmp .ne 11, 3) := by decide +kernel
theorem d_Arrays_copyOf_6 : decode b_Arrays_copyOf 6 = .ok (.aload_n 0, 1) := by decide +kernel
theorem d_Arrays_copyOf_7 : decode b_Arrays_copyOf 7 = .ok (.invokevirtual 316, 3) := by decide +kernel
theorem d_Arrays_copyOf_10 : decode b_Arrays_copyOf 10 = .ok (.checkcast 317, 3) := by decide +kernel
theorem d_Arrays_copyOf_13 : decode b_Arrays_copyOf 13 = .ok (.areturn, 1) := by decide +kernel
theorem d_Arrays_copyOf_14 : decode b_Arrays_copyOf 14 = .ok (.iload_n 1, 1) := by decide +kernel
theorem d_Arrays_copyOf_15 : decode b_Arrays_copyOf 15 = .ok (.newarray .int, 2) := by decide +kernel
theorem d_Arrays_copyOf_17 : decode b_Arrays_copyOf 17 = .ok (.astore_n 2, 1) := by decide +kernel
theorem d_Arrays_copyOf_18 : decode b_Arrays_copyOf 18 = .ok (.aload_n 0, 1) := by decide +kernel
theorem d_Arrays_copyOf_19 : decode b_Arrays_copyOf 19 = .ok (.iconst 0, 1) := by decide +kernel
theorem d_Arrays_copyOf_20 : decode b_Arrays_copyOf 20 = .ok (.aload_n 2, 1) := by decide +kernel
theorem d_Arrays_copyOf_21 : decode b_Arrays_copyOf 21 = .ok (.iconst 0, 1) := by decide +kernel
theorem d_Arrays_copyOf_22 : decode b_Arrays_copyOf 22 = .ok (.aload_n 0, 1) := by decide +kernel
theorem d_Arrays_copyOf_23 : decode b_Arrays_copyOf 23 = .ok (.arraylength, 1) := by decide +kernel
theorem d_Arrays_copyOf_24 : decode b_Arrays_copyOf 24 = .ok (.iload_n 1, 1) := by decide +kernel
theorem d_Arrays_copyOf_25 : decode b_Arrays_copyOf 25 = .ok (.invokestatic 304, 3) := by decide +kernel
theorem d_Arrays_copyOf_28 : decode b_Arrays_copyOf 28 = .ok (.invokestatic 150, 3) := by decide +kernel
theorem d_Arrays_copyOf_31 : decode b_Arrays_copyOf 31 = .ok (.aload_n 2, 1) := by decide +kernel
theorem d_Arrays_copyOf_32 : decode b_Arrays_copyOf 32 = .ok (.areturn, 1) := by decide +kernel
theorem d_Book_init_0 : decode b_Book_init 0 = .ok (.aload_n 0, 1) := by decide +kernel
theorem d_Book_init_1 : decode b_Book_init 1 = .ok (.invokespecial 3, 3) := by decide +kernel
theorem d_Book_init_4 : decode b_Book_init 4 = .ok (.aload_n 0, 1) := by decide +kernel
theorem d_Book_init_5 : decode b_Book_init 5 = .ok (.bipush 100, 2) := by decide +kernel
theorem d_Book_init_7 : decode b_Book_init 7 = .ok (.anewarray 9, 3) := by decide +kernel
theorem d_Book_init_10 : decode b_Book_init 10 = .ok (.putfield 11, 3) := by decide +kernel
theorem d_Book_init_13 : decode b_Book_init 13 = .ok (.aload_n 0, 1) := by decide +kernel
theorem d_Book_init_14 : decode b_Book_init 14 = .ok (.sipush 200, 3) := by decide +kernel
theorem d_Book_init_17 : decode b_Book_init 17 = .ok (.newarray .int, 2) := by decide +kernel
theorem d_Book_init_19 : decode b_Book_init 19 = .ok (.putfield 17, 3) := by decide +kernel
theorem d_Book_init_22 : decode b_Book_init 22 = .ok (.aload_n 0, 1) := by decide +kernel
theorem d_Book_init_23 : decode b_Book_init 23 = .ok (.getfield 17, 3) := by decide +kernel
theorem d_Book_init_26 : decode b_Book_init 26 = .ok (.iconst (-1), 1) := by decide +kernel
theorem d_Book_init_27 : decode b_Book_init 27 = .ok (.invokestatic 21, 3) := by decide +kernel
theorem d_Book_init_30 : decode b_Book_init 30 = .ok (.aload_n 0, 1) := by decide +kernel
theorem d_Book_init_31 : decode b_Book_init 31 = .ok (.bipush 20, 2) := by decide +kernel
theorem d_Book_init_33 : decode b_Book_init 33 = .ok (.sipush 200, 3) := by decide +kernel
theorem d_Book_init_36 : decode b_Book_init 36 = .ok (.multianewarray 27 2, 4) := by decide +kernel
theorem d_Book_init_40 : decode b_Book_init 40 = .ok (.putfield 29, 3) := by decide +kernel
theorem d_Book_init_43 : decode b_Book_init 43 = .ok (.aload_n 0, 1) := by decide +kernel
theorem d_Book_init_44 : decode b_Book_init 44 = .ok (.iconst 0, 1) := by decide +kernel
theorem d_Book_init_45 : decode b_Book_init 45 = .ok (.putfield 32, 3) := by decide +kernel
theorem d_Book_init_48 : decode b_Book_init 48 = .ok (.aload_n 0, 1) := by decide +kernel
theorem d_Book_init_49 : decode b_Book_init 49 = .ok (.iconst 0, 1) := by decide +kernel
theorem d_Book_init_50 : decode b_Book_init 50 = .ok (.putfield 36, 3) := by decide +kernel
theorem d_Book_init_53 : decode b_Book_init 53 = .ok (.return_, 1) := by decide +kernel
