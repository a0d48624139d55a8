theorem dX12_rests_152 : decode cX12_rests 152 = .ok (.iload_n 3, 1) := by decide +kernel
theorem dX12_rests_153 : decode cX12_rests 153 = .ok (.iadd, 1) := by decide +kernel
theorem dX12_rests_154 : decode cX12_rests 154 = .ok (.iaload, 1) := by decide +kernel
theorem dX12_rests_155 : decode cX12_rests 155 = .ok (.if_icmp .gt 7, 3) := by decide +kernel
theorem dX12_rests_158 : decode cX12_rests 158 = .ok (.iconst 1, 1) := by decide +kernel
theorem dX12_rests_159 : decode cX12_rests 159 = .ok (.goto 4, 3) := by decide +kernel
theorem dX12_rests_162 : decode cX12_rests 162 = .ok (.iconst 0, 1) := by decide +kernel
theorem dX12_rests_163 : decode cX12_rests 163 = .ok (.istore 4, 2) := by decide +kernel
theorem dX12_rests_165 : decode cX12_rests 165 = .ok (.iinc 5 1, 3) := by decide +kernel
theorem dX12_rests_168 : decode cX12_rests 168 = .ok (.goto (-52), 3) := by decide +kernel
theorem dX12_rests_171 : decode cX12_rests 171 = .ok (.iload_n 1, 1) := by decide +kernel
theorem dX12_rests_172 : decode cX12_rests 172 = .ok (.iload 4, 2) := by decide +kernel
theorem dX12_rests_174 : decode cX12_rests 174 = .ok (.ifCond .eq 7, 3) := by decide +kernel
theorem dX12_rests_177 : decode cX12_rests 177 = .ok (.iconst 1, 1) := by decide +kernel
theorem dX12_rests_178 : decode cX12_rests 178 = .ok (.goto 4, 3) := by decide +kernel
theorem dX12_rests_181 : decode cX12_rests 181 = .ok (.iconst 0, 1) := by decide +kernel
theorem dX12_rests_182 : decode cX12_rests 182 = .ok (.iadd, 1) := by decide +kernel
theorem dX12_rests_183 : decode cX12_rests 183 = .ok (.istore_n 1, 1) := by decide +kernel
theorem dX12_rests_184 : decode cX12_rests 184 = .ok (.iinc 3 1, 3) := by decide +kernel
theorem dX12_rests_187 : decode cX12_rests 187 = .ok (.goto (-152), 3) := by decide +kernel
theorem dX12_rests_190 : decode cX12_rests 190 = .ok (.iinc 2 1, 3) := by decide +kernel
theorem dX12_rests_193 : decode cX12_rests 193 = .ok (.goto (-170), 3) := by decide +kernel
theorem dX12_rests_196 : decode cX12_rests 196 = .ok (.iload_n 1, 1) := by decide +kernel
theorem dX12_rests_197 : decode cX12_rests 197 = .ok (.ireturn, 1) := by decide +kernel
theorem dX12_townHas_0 : decode cX12_townHas 0 = .ok (.aload_n 0, 1) := by decide +kernel
theorem dX12_townHas_1 : decode cX12_townHas 1 = .ok (.getfield 262, 3) := by decide +kernel
theorem dX12_townHas_4 : decode cX12_townHas 4 = .ok (.ifCond .ne 16, 3) := by decide +kernel
theorem dX12_townHas_7 : decode cX12_townHas 7 = .ok (.aload_n 0, 1) := by decide +kernel
theorem dX12_townHas_8 : decode cX12_townHas 8 = .ok (.getfield 86, 3) := by decide +kernel
theorem dX12_townHas_11 : decode cX12_townHas 11 = .ok (.bipush 11, 2) := by decide +kernel
theorem dX12_townHas_13 : decode cX12_townHas 13 = .ok (.iload_n 1, 1) := by decide +kernel
theorem dX12_townHas_14 : decode cX12_townHas 14 = .ok (.imul, 1) := by decide +kernel
theorem dX12_townHas_15 : decode cX12_townHas 15 = .ok (.bipush 10, 2) := by decide +kernel
theorem dX12_townHas_17 : decode cX12_townHas 17 = .ok (.iadd, 1) := by decide +kernel
theorem dX12_townHas_18 : decode cX12_townHas 18 = .ok (.iaload, 1) := by decide +kernel
theorem dX12_townHas_19 : decode cX12_townHas 19 = .ok (.ireturn, 1) := by decide +kernel
theorem dX12_townHas_20 : decode cX12_townHas 20 = .ok (.iconst 0, 1) := by decide +kernel
theorem dX12_townHas_21 : decode cX12_townHas 21 = .ok (.istore_n 2, 1) := by decide +kernel
theorem dX12_townHas_22 : decode cX12_townHas 22 = .ok (.iconst 0, 1) := by decide +kernel
theorem dX12_townHas_23 : decode cX12_townHas 23 = .ok (.istore_n 3, 1) := by decide +kernel
theorem dX12_townHas_24 : decode cX12_townHas 24 = .ok (.iload_n 3, 1) := by decide +kernel
theorem dX12_townHas_25 : decode cX12_townHas 25 = .ok (.aload_n 0, 1) := by decide +kernel
theorem dX12_townHas_26 : decode cX12_townHas 26 = .ok (.getfield 34, 3) := by decide +kernel
theorem dX12_townHas_29 : decode cX12_townHas 29 = .ok (.iconst 1, 1) := by decide +kernel
theorem dX12_townHas_30 : decode cX12_townHas 30 = .ok (.iaload, 1) := by decide +kernel
theorem dX12_townHas_31 : decode cX12_townHas 31 = .ok (.if_icmp .ge 40, 3) := by decide +kernel
theorem dX12_townHas_34 : decode cX12_townHas 34 = .ok (.aload_n 0, 1) := by decide +kernel
theorem dX12_townHas_35 : decode cX12_townHas 35 = .ok (.getfield 86, 3) := by decide +kernel
theorem dX12_townHas_38 : decode cX12_townHas 38 = .ok (.bipush 11, 2) := by decide +kernel
theorem dX12_townHas_40 : decode cX12_townHas 40 = .ok (.iload_n 1, 1) := by decide +kernel
theorem dX12_townHas_41 : decode cX12_townHas 41 = .ok (.imul, 1) := by decide +kernel
theorem dX12_townHas_42 : decode cX12_townHas 42 = .ok (.iload_n 3, 1) := by decide +kernel
theorem dX12_townHas_43 : decode cX12_townHas 43 = .ok (.iadd, 1) := by decide +kernel
theorem dX12_townHas_44 : decode cX12_townHas 44 = .ok (.iaload, 1) := by decide +kernel
theorem dX12_townHas_45 : decode cX12_townHas 45 = .ok (.iload_n 2, 1) := by decide +kernel
theorem dX12_townHas_46 : decode cX12_townHas 46 = .ok (.if_icmp .le 17, 3) := by decide +kernel
theorem dX12_townHas_49 : decode cX12_townHas 49 = .ok (.aload_n 0, 1) := by decide +kernel
theorem dX12_townHas_50 : decode cX12_townHas 50 = .ok (.getfield 86, 3) := by decide +kernel
theorem dX12_townHas_53 : decode cX12_townHas 53 = .ok (.bipush 11, 2) := by decide +kernel
theorem dX12_townHas_55 : decode cX12_townHas 55 = .ok (.iload_n 1, 1) := by decide +kernel
theorem dX12_townHas_56 : decode cX12_townHas 56 = .ok (.imul, 1) := by decide +kernel
theorem dX12_townHas_57 : decode cX12_townHas 57 = .ok (.iload_n 3, 1) := by decide +kernel
theorem dX12_townHas_58 : decode cX12_townHas 58 = .ok (.iadd, 1) := by decide +kernel
theorem dX12_townHas_59 : decode cX12_townHas 59 = .ok (.iaload, 1) := by decide +kernel
theorem dX12_townHas_60 : decode cX12_townHas 60 = .ok (.goto 4, 3) := by decide +kernel
theorem dX12_townHas_63 : decode cX12_townHas 63 = .ok (.iload_n 2, 1) := by decide +kernel
theorem dX12_townHas_64 : decode cX12_townHas 64 = .ok (.istore_n 2, 1) := by decide +kernel
theorem dX12_townHas_65 : decode cX12_townHas 65 = .ok (.iinc 3 1, 3) := by decide +kernel
theorem dX12_townHas_68 : decode cX12_townHas 68 = .ok (.goto (-44), 3) := by decide +kernel
theorem dX12_townHas_71 : decode cX12_townHas 71 = .ok (.iload_n 2, 1) := by decide +kernel
theorem dX12_townHas_72 : decode cX12_townHas 72 = .ok (.ireturn, 1) := by decide +kernel
theorem dX12_clerk_0 : decode cX12_clerk 0 = .ok (.aload_n 0, 1) := by decide +kernel
theorem dX12_clerk_1 : decode cX12_clerk 1 = .ok (.iconst 0, 1) := by decide +kernel
theorem dX12_clerk_2 : decode cX12_clerk 2 = .ok (.putfield 92, 3) := by decide +kernel
theorem dX12_clerk_5 : decode cX12_clerk 5 = .ok (.aload_n 0, 1) := by decide +kernel
theorem dX12_clerk_6 : decode cX12_clerk 6 = .ok (.invokevirtual 311, 3) := by decide +kernel
theorem dX12_clerk_9 : decode cX12_clerk 9 = .ok (.ifCond .ne 6, 3) := by decide +kernel
theorem dX12_clerk_12 : decode cX12_clerk 12 = .ok (.bipush (-2), 2) := by decide +kernel
theorem dX12_clerk_14 : decode cX12_clerk 14 = .ok (.ireturn, 1) := by decide +kernel
theorem dX12_clerk_15 : decode cX12_clerk 15 = .ok (.aload_n 0, 1) := by decide +kernel
theorem dX12_clerk_16 : decode cX12_clerk 16 = .ok (.invokevirtual 397, 3) := by decide +kernel
theorem dX12_clerk_19 : decode cX12_clerk 19 = .ok (.iconst (-1), 1) := by decide +kernel
theorem dX12_clerk_20 : decode cX12_clerk 20 = .ok (.istore_n 1, 1) := by decide +kernel
theorem dX12_clerk_21 : decode cX12_clerk 21 = .ok (.iconst 0, 1) := by decide +kernel
theorem dX12_clerk_22 : decode cX12_clerk 22 = .ok (.istore_n 2, 1) := by decide +kernel
theorem dX12_clerk_23 : decode cX12_clerk 23 = .ok (.iload_n 2, 1) := by decide +kernel
theorem dX12_clerk_24 : decode cX12_clerk 24 = .ok (.aload_n 0, 1) := by decide +kernel
theorem dX12_clerk_25 : decode cX12_clerk 25 = .ok (.getfield 34, 3) := by decide +kernel
theorem dX12_clerk_28 : decode cX12_clerk 28 = .ok (.iconst 2, 1) := by decide +kernel
theorem dX12_clerk_29 : decode cX12_clerk 29 = .ok (.iaload, 1) := by decide +kernel
theorem dX12_clerk_30 : decode cX12_clerk 30 = .ok (.if_icmp .ge 29, 3) := by decide +kernel
theorem dX12_clerk_33 : decode cX12_clerk 33 = .ok (.iload_n 1, 1) := by decide +kernel
theorem dX12_clerk_34 : decode cX12_clerk 34 = .ok (.iconst (-1), 1) := by decide +kernel
theorem dX12_clerk_35 : decode cX12_clerk 35 = .ok (.if_icmp .eq 16, 3) := by decide +kernel
theorem dX12_clerk_38 : decode cX12_clerk 38 = .ok (.aload_n 0, 1) := by decide +kernel
theorem dX12_clerk_39 : decode cX12_clerk 39 = .ok (.iload_n 2, 1) := by decide +kernel
theorem dX12_clerk_40 : decode cX12_clerk 40 = .ok (.invokevirtual 400, 3) := by decide +kernel
theorem dX12_clerk_43 : decode cX12_clerk 43 = .ok (.aload_n 0, 1) := by decide +kernel
theorem dX12_clerk_44 : decode cX12_clerk 44 = .ok (.iload_n 1, 1) := by decide +kernel
theorem dX12_clerk_45 : decode cX12_clerk 45 = .ok (.invokevirtual 400, 3) := by decide +kernel
theorem dX12_clerk_48 : decode cX12_clerk 48 = .ok (.if_icmp .ge 5, 3) := by decide +kernel
theorem dX12_clerk_51 : decode cX12_clerk 51 = .ok (.iload_n 2, 1) := by decide +kernel
theorem dX12_clerk_52 : decode cX12_clerk 52 = .ok (.istore_n 1, 1) := by decide +kernel
theorem dX12_clerk_53 : decode cX12_clerk 53 = .ok (.iinc 2 1, 3) := by decide +kernel
theorem dX12_clerk_56 : decode cX12_clerk 56 = .ok (.goto (-33), 3) := by decide +kernel
theorem dX12_clerk_59 : decode cX12_clerk 59 = .ok (.iload_n 1, 1) := by decide +kernel
theorem dX12_clerk_60 : decode cX12_clerk 60 = .ok (.ireturn, 1) := by decide +kernel
theorem dX12_common_0 : decode cX12_common 0 = .ok (.lload_n 2, 1) := by decide +kernel
theorem dX12_common_1 : decode cX12_common 1 = .ok (.lconst 0, 1) := by decide +kernel
theorem dX12_common_2 : decode cX12_common 2 = .ok (.lcmp, 1) := by decide +kernel
theorem dX12_common_3 : decode cX12_common 3 = .ok (.ifCond .ne 7, 3) := by decide +kernel
theorem dX12_common_6 : decode cX12_common 6 = .ok (.lload_n 0, 1) := by decide +kernel
theorem dX12_common_7 : decode cX12_common 7 = .ok (.goto 10, 3) := by decide +kernel
theorem dX12_common_10 : decode cX12_common 10 = .ok (.lload_n 2, 1) := by decide +kernel
theorem dX12_common_11 : decode cX12_common 11 = .ok (.lload_n 0, 1) := by decide +kernel
theorem dX12_common_12 : decode cX12_common 12 = .ok (.lload_n 2, 1) := by decide +kernel
theorem dX12_common_13 : decode cX12_common 13 = .ok (.lrem, 1) := by decide +kernel
theorem dX12_common_14 : decode cX12_common 14 = .ok (.invokestatic 403, 3) := by decide +kernel
theorem dX12_common_17 : decode cX12_common 17 = .ok (.lreturn, 1) := by decide +kernel
theorem dX12_laysChance_0 : decode cX12_laysChance 0 = .ok (.aload_n 0, 1) := by decide +kernel
theorem dX12_laysChance_1 : decode cX12_laysChance 1 = .ok (.invokevirtual 279, 3) := by decide +kernel
theorem dX12_laysChance_4 : decode cX12_laysChance 4 = .ok (.iconst 0, 1) := by decide +kernel
theorem dX12_laysChance_5 : decode cX12_laysChance 5 = .ok (.istore_n 2, 1) := by decide +kernel
theorem dX12_laysChance_6 : decode cX12_laysChance 6 = .ok (.iload_n 2, 1) := by decide +kernel
theorem dX12_laysChance_7 : decode cX12_laysChance 7 = .ok (.sipush 1000, 3) := by decide +kernel
theorem dX12_laysChance_10 : decode cX12_laysChance 10 = .ok (.if_icmp .ge 16, 3) := by decide +kernel
theorem dX12_laysChance_13 : decode cX12_laysChance 13 = .ok (.aload_n 0, 1) := by decide +kernel
theorem dX12_laysChance_14 : decode cX12_laysChance 14 = .ok (.getfield 89, 3) := by decide +kernel
theorem dX12_laysChance_17 : decode cX12_laysChance 17 = .ok (.iload_n 2, 1) := by decide +kernel
theorem dX12_laysChance_18 : decode cX12_laysChance 18 = .ok (.lconst 0, 1) := by decide +kernel
theorem dX12_laysChance_19 : decode cX12_laysChance 19 = .ok (.lastore, 1) := by decide +kernel
theorem dX12_laysChance_20 : decode cX12_laysChance 20 = .ok (.iinc 2 1, 3) := by decide +kernel
theorem dX12_laysChance_23 : decode cX12_laysChance 23 = .ok (.goto (-17), 3) := by decide +kernel
theorem dX12_laysChance_26 : decode cX12_laysChance 26 = .ok (.aload_n 0, 1) := by decide +kernel
theorem dX12_laysChance_27 : decode cX12_laysChance 27 = .ok (.lconst 1, 1) := by decide +kernel
theorem dX12_laysChance_28 : decode cX12_laysChance 28 = .ok (.putfield 407, 3) := by decide +kernel
theorem dX12_laysChance_31 : decode cX12_laysChance 31 = .ok (.iconst 0, 1) := by decide +kernel
theorem dX12_laysChance_32 : decode cX12_laysChance 32 = .ok (.istore_n 2, 1) := by decide +kernel
theorem dX12_laysChance_33 : decode cX12_laysChance 33 = .ok (.iconst 0, 1) := by decide +kernel
theorem dX12_laysChance_34 : decode cX12_laysChance 34 = .ok (.istore_n 3, 1) := by decide +kernel
theorem dX12_laysChance_35 : decode cX12_laysChance 35 = .ok (.iload_n 3, 1) := by decide +kernel
theorem dX12_laysChance_36 : decode cX12_laysChance 36 = .ok (.aload_n 0, 1) := by decide +kernel
theorem dX12_laysChance_37 : decode cX12_laysChance 37 = .ok (.getfield 34, 3) := by decide +kernel
theorem dX12_laysChance_40 : decode cX12_laysChance 40 = .ok (.iconst 1, 1) := by decide +kernel
theorem dX12_laysChance_41 : decode cX12_laysChance 41 = .ok (.iaload, 1) := by decide +kernel
theorem dX12_laysChance_42 : decode cX12_laysChance 42 = .ok (.if_icmp .ge 41, 3) := by decide +kernel
theorem dX12_laysChance_45 : decode cX12_laysChance 45 = .ok (.aload_n 0, 1) := by decide +kernel
theorem dX12_laysChance_46 : decode cX12_laysChance 46 = .ok (.getfield 262, 3) := by decide +kernel
theorem dX12_laysChance_49 : decode cX12_laysChance 49 = .ok (.iload_n 3, 1) := by decide +kernel
theorem dX12_laysChance_50 : decode cX12_laysChance 50 = .ok (.invokestatic 265, 3) := by decide +kernel
theorem dX12_laysChance_53 : decode cX12_laysChance 53 = .ok (.ifCond .ne 6, 3) := by decide +kernel
theorem dX12_laysChance_56 : decode cX12_laysChance 56 = .ok (.goto 21, 3) := by decide +kernel
theorem dX12_laysChance_59 : decode cX12_laysChance 59 = .ok (.aload_n 0, 1) := by decide +kernel
theorem dX12_laysChance_60 : decode cX12_laysChance 60 = .ok (.dup, 1) := by decide +kernel
theorem dX12_laysChance_61 : decode cX12_laysChance 61 = .ok (.getfield 407, 3) := by decide +kernel
theorem dX12_laysChance_64 : decode cX12_laysChance 64 = .ok (.ldc2_w 410, 3) := by decide +kernel
theorem dX12_laysChance_67 : decode cX12_laysChance 67 = .ok (.lmul, 1) := by decide +kernel
theorem dX12_laysChance_68 : decode cX12_laysChance 68 = .ok (.putfield 407, 3) := by decide +kernel
theorem dX12_laysChance_71 : decode cX12_laysChance 71 = .ok (.iload_n 2, 1) := by decide +kernel
theorem dX12_laysChance_72 : decode cX12_laysChance 72 = .ok (.iconst 1, 1) := by decide +kernel
theorem dX12_laysChance_73 : decode cX12_laysChance 73 = .ok (.iload_n 3, 1) := by decide +kernel
theorem dX12_laysChance_74 : decode cX12_laysChance 74 = .ok (.ishl, 1) := by decide +kernel
theorem dX12_laysChance_75 : decode cX12_laysChance 75 = .ok (.ior, 1) := by decide +kernel
theorem dX12_laysChance_76 : decode cX12_laysChance 76 = .ok (.istore_n 2, 1) := by decide +kernel
theorem dX12_laysChance_77 : decode cX12_laysChance 77 = .ok (.iinc 3 1, 3) := by decide +kernel
theorem dX12_laysChance_80 : decode cX12_laysChance 80 = .ok (.goto (-45), 3) := by decide +kernel
theorem dX12_laysChance_83 : decode cX12_laysChance 83 = .ok (.iconst 0, 1) := by decide +kernel
theorem dX12_laysChance_84 : decode cX12_laysChance 84 = .ok (.istore_n 3, 1) := by decide +kernel
theorem dX12_laysChance_85 : decode cX12_laysChance 85 = .ok (.iload_n 3, 1) := by decide +kernel
theorem dX12_laysChance_86 : decode cX12_laysChance 86 = .ok (.iload_n 2, 1) := by decide +kernel
theorem dX12_laysChance_87 : decode cX12_laysChance 87 = .ok (.if_icmp .gt 143, 3) := by decide +kernel
theorem dX12_laysChance_90 : decode cX12_laysChance 90 = .ok (.iload_n 3, 1) := by decide +kernel
theorem dX12_laysChance_91 : decode cX12_laysChance 91 = .ok (.iload_n 2, 1) := by decide +kernel
theorem dX12_laysChance_92 : decode cX12_laysChance 92 = .ok (.iconst (-1), 1) := by decide +kernel
theorem dX12_laysChance_93 : decode cX12_laysChance 93 = .ok (.ixor, 1) := by decide +kernel
theorem dX12_laysChance_94 : decode cX12_laysChance 94 = .ok (.iand, 1) := by decide +kernel
theorem dX12_laysChance_95 : decode cX12_laysChance 95 = .ok (.ifCond .eq 6, 3) := by decide +kernel
theorem dX12_laysChance_98 : decode cX12_laysChance 98 = .ok (.goto 126, 3) := by decide +kernel
theorem dX12_laysChance_101 : decode cX12_laysChance 101 = .ok (.lconst 1, 1) := by decide +kernel
theorem dX12_laysChance_102 : decode cX12_laysChance 102 = .ok (.lstore 4, 2) := by decide +kernel
theorem dX12_laysChance_104 : decode cX12_laysChance 104 = .ok (.iconst 0, 1) := by decide +kernel
theorem dX12_laysChance_105 : decode cX12_laysChance 105 = .ok (.istore 6, 2) := by decide +kernel
theorem dX12_laysChance_107 : decode cX12_laysChance 107 = .ok (.iload 6, 2) := by decide +kernel
theorem dX12_laysChance_109 : decode cX12_laysChance 109 = .ok (.aload_n 0, 1) := by decide +kernel
theorem dX12_laysChance_110 : decode cX12_laysChance 110 = .ok (.getfield 34, 3) := by decide +kernel
theorem dX12_laysChance_113 : decode cX12_laysChance 113 = .ok (.iconst 1, 1) := by decide +kernel
theorem dX12_laysChance_114 : decode cX12_laysChance 114 = .ok (.iaload, 1) := by decide +kernel
theorem dX12_laysChance_115 : decode cX12_laysChance 115 = .ok (.if_icmp .ge 62, 3) := by decide +kernel
theorem dX12_laysChance_118 : decode cX12_laysChance 118 = .ok (.iload_n 2, 1) := by decide +kernel
theorem dX12_laysChance_119 : decode cX12_laysChance 119 = .ok (.iload 6, 2) := by decide +kernel
theorem dX12_laysChance_121 : decode cX12_laysChance 121 = .ok (.invokestatic 265, 3) := by decide +kernel
theorem dX12_laysChance_124 : decode cX12_laysChance 124 = .ok (.ifCond .eq 47, 3) := by decide +kernel
theorem dX12_laysChance_127 : decode cX12_laysChance 127 = .ok (.lload 4, 2) := by decide +kernel
theorem dX12_laysChance_129 : decode cX12_laysChance 129 = .ok (.iload_n 3, 1) := by decide +kernel
theorem dX12_laysChance_130 : decode cX12_laysChance 130 = .ok (.iload 6, 2) := by decide +kernel
theorem dX12_laysChance_132 : decode cX12_laysChance 132 = .ok (.invokestatic 265, 3) := by decide +kernel
theorem dX12_laysChance_135 : decode cX12_laysChance 135 = .ok (.ifCond .eq 18, 3) := by decide +kernel
theorem dX12_laysChance_138 : decode cX12_laysChance 138 = .ok (.aload_n 0, 1) := by decide +kernel
theorem dX12_laysChance_139 : decode cX12_laysChance 139 = .ok (.getfield 37, 3) := by decide +kernel
theorem dX12_laysChance_142 : decode cX12_laysChance 142 = .ok (.iconst 5, 1) := by decide +kernel
theorem dX12_laysChance_143 : decode cX12_laysChance 143 = .ok (.iload 6, 2) := by decide +kernel
theorem dX12_laysChance_145 : decode cX12_laysChance 145 = .ok (.imul, 1) := by decide +kernel
theorem dX12_laysChance_146 : decode cX12_laysChance 146 = .ok (.iconst 3, 1) := by decide +kernel
theorem dX12_laysChance_147 : decode cX12_laysChance 147 = .ok (.iadd, 1) := by decide +kernel
theorem dX12_laysChance_148 : decode cX12_laysChance 148 = .ok (.iaload, 1) := by decide +kernel
theorem dX12_laysChance_149 : decode cX12_laysChance 149 = .ok (.i2l, 1) := by decide +kernel
theorem dX12_laysChance_150 : decode cX12_laysChance 150 = .ok (.goto 18, 3) := by decide +kernel
theorem dX12_laysChance_153 : decode cX12_laysChance 153 = .ok (.bipush 10, 2) := by decide +kernel
theorem dX12_laysChance_155 : decode cX12_laysChance 155 = .ok (.aload_n 0, 1) := by decide +kernel
theorem dX12_laysChance_156 : decode cX12_laysChance 156 = .ok (.getfield 37, 3) := by decide +kernel
theorem dX12_laysChance_159 : decode cX12_laysChance 159 = .ok (.iconst 5, 1) := by decide +kernel
theorem dX12_laysChance_160 : decode cX12_laysChance 160 = .ok (.iload 6, 2) := by decide +kernel
theorem dX12_laysChance_162 : decode cX12_laysChance 162 = .ok (.imul, 1) := by decide +kernel
theorem dX12_laysChance_163 : decode cX12_laysChance 163 = .ok (.iconst 3, 1) := by decide +kernel
theorem dX12_laysChance_164 : decode cX12_laysChance 164 = .ok (.iadd, 1) := by decide +kernel
theorem dX12_laysChance_165 : decode cX12_laysChance 165 = .ok (.iaload, 1) := by decide +kernel
theorem dX12_laysChance_166 : decode cX12_laysChance 166 = .ok (.isub, 1) := by decide +kernel
theorem dX12_laysChance_167 : decode cX12_laysChance 167 = .ok (.i2l, 1) := by decide +kernel
theorem dX12_laysChance_168 : decode cX12_laysChance 168 = .ok (.lmul, 1) := by decide +kernel
theorem dX12_laysChance_169 : decode cX12_laysChance 169 = .ok (.lstore 4, 2) := by decide +kernel
theorem dX12_laysChance_171 : decode cX12_laysChance 171 = .ok (.iinc 6 1, 3) := by decide +kernel
theorem dX12_laysChance_174 : decode cX12_laysChance 174 = .ok (.goto (-67), 3) := by decide +kernel
theorem dX12_laysChance_177 : decode cX12_laysChance 177 = .ok (.lload 4, 2) := by decide +kernel
theorem dX12_laysChance_179 : decode cX12_laysChance 179 = .ok (.lconst 0, 1) := by decide +kernel
theorem dX12_laysChance_180 : decode cX12_laysChance 180 = .ok (.lcmp, 1) := by decide +kernel
theorem dX12_laysChance_181 : decode cX12_laysChance 181 = .ok (.ifCond .ne 6, 3) := by decide +kernel
theorem dX12_laysChance_184 : decode cX12_laysChance 184 = .ok (.goto 40, 3) := by decide +kernel
theorem dX12_laysChance_187 : decode cX12_laysChance 187 = .ok (.aload_n 0, 1) := by decide +kernel
theorem dX12_laysChance_188 : decode cX12_laysChance 188 = .ok (.aload_n 0, 1) := by decide +kernel
theorem dX12_laysChance_189 : decode cX12_laysChance 189 = .ok (.getfield 262, 3) := by decide +kernel
theorem dX12_laysChance_192 : decode cX12_laysChance 192 = .ok (.iload_n 3, 1) := by decide +kernel
theorem dX12_laysChance_193 : decode cX12_laysChance 193 = .ok (.invokevirtual 282, 3) := by decide +kernel
theorem dX12_laysChance_196 : decode cX12_laysChance 196 = .ok (.aload_n 0, 1) := by decide +kernel
theorem dX12_laysChance_197 : decode cX12_laysChance 197 = .ok (.getfield 59, 3) := by decide +kernel
theorem dX12_laysChance_200 : decode cX12_laysChance 200 = .ok (.iload_n 1, 1) := by decide +kernel
theorem dX12_laysChance_201 : decode cX12_laysChance 201 = .ok (.iaload, 1) := by decide +kernel
theorem dX12_laysChance_202 : decode cX12_laysChance 202 = .ok (.sipush 999, 3) := by decide +kernel
theorem dX12_laysChance_205 : decode cX12_laysChance 205 = .ok (.if_icmp .gt 19, 3) := by decide +kernel
theorem dX12_laysChance_208 : decode cX12_laysChance 208 = .ok (.aload_n 0, 1) := by decide +kernel
theorem dX12_laysChance_209 : decode cX12_laysChance 209 = .ok (.getfield 89, 3) := by decide +kernel
theorem dX12_laysChance_212 : decode cX12_laysChance 212 = .ok (.aload_n 0, 1) := by decide +kernel
theorem dX12_laysChance_213 : decode cX12_laysChance 213 = .ok (.getfield 59, 3) := by decide +kernel
theorem dX12_laysChance_216 : decode cX12_laysChance 216 = .ok (.iload_n 1, 1) := by decide +kernel
theorem dX12_laysChance_217 : decode cX12_laysChance 217 = .ok (.iaload, 1) := by decide +kernel
theorem dX12_laysChance_218 : decode cX12_laysChance 218 = .ok (.dup2, 1) := by decide +kernel
theorem dX12_laysChance_219 : decode cX12_laysChance 219 = .ok (.laload, 1) := by decide +kernel
theorem dX12_laysChance_220 : decode cX12_laysChance 220 = .ok (.lload 4, 2) := by decide +kernel
theorem dX12_laysChance_222 : decode cX12_laysChance 222 = .ok (.ladd, 1) := by decide +kernel
theorem dX12_laysChance_223 : decode cX12_laysChance 223 = .ok (.lastore, 1) := by decide +kernel
theorem dX12_laysChance_224 : decode cX12_laysChance 224 = .ok (.iinc 3 1, 3) := by decide +kernel
theorem dX12_laysChance_227 : decode cX12_laysChance 227 = .ok (.goto (-142), 3) := by decide +kernel
theorem dX12_laysChance_230 : decode cX12_laysChance 230 = .ok (.return_, 1) := by decide +kernel
theorem dX12_chance_0 : decode cX12_chance 0 = .ok (.aload_n 0, 1) := by decide +kernel
theorem dX12_chance_1 : decode cX12_chance 1 = .ok (.iconst 0, 1) := by decide +kernel
theorem dX12_chance_2 : decode cX12_chance 2 = .ok (.putfield 92, 3) := by decide +kernel
theorem dX12_chance_5 : decode cX12_chance 5 = .ok (.aload_n 0, 1) := by decide +kernel
theorem dX12_chance_6 : decode cX12_chance 6 = .ok (.iload_n 1, 1) := by decide +kernel
theorem dX12_chance_7 : decode cX12_chance 7 = .ok (.i2l, 1) := by decide +kernel
theorem dX12_chance_8 : decode cX12_chance 8 = .ok (.invokevirtual 299, 3) := by decide +kernel
theorem dX12_chance_11 : decode cX12_chance 11 = .ok (.ifCond .eq 17, 3) := by decide +kernel
theorem dX12_chance_14 : decode cX12_chance 14 = .ok (.iload_n 2, 1) := by decide +kernel
theorem dX12_chance_15 : decode cX12_chance 15 = .ok (.invokestatic 314, 3) := by decide +kernel
theorem dX12_chance_18 : decode cX12_chance 18 = .ok (.ifCond .eq 10, 3) := by decide +kernel
theorem dX12_chance_21 : decode cX12_chance 21 = .ok (.iload_n 3, 1) := by decide +kernel
theorem dX12_chance_22 : decode cX12_chance 22 = .ok (.invokestatic 293, 3) := by decide +kernel
theorem dX12_chance_25 : decode cX12_chance 25 = .ok (.ifCond .ne 7, 3) := by decide +kernel
theorem dX12_chance_28 : decode cX12_chance 28 = .ok (.ldc2_w 412, 3) := by decide +kernel
theorem dX12_chance_31 : decode cX12_chance 31 = .ok (.lreturn, 1) := by decide +kernel
theorem dX12_chance_32 : decode cX12_chance 32 = .ok (.aload_n 0, 1) := by decide +kernel
theorem dX12_chance_33 : decode cX12_chance 33 = .ok (.iload_n 1, 1) := by decide +kernel
theorem dX12_chance_34 : decode cX12_chance 34 = .ok (.invokevirtual 414, 3) := by decide +kernel
theorem dX12_chance_37 : decode cX12_chance 37 = .ok (.lconst 0, 1) := by decide +kernel
theorem dX12_chance_38 : decode cX12_chance 38 = .ok (.lstore 4, 2) := by decide +kernel
theorem dX12_chance_40 : decode cX12_chance 40 = .ok (.iconst 0, 1) := by decide +kernel
theorem dX12_chance_41 : decode cX12_chance 41 = .ok (.istore 6, 2) := by decide +kernel
theorem dX12_chance_43 : decode cX12_chance 43 = .ok (.iload 6, 2) := by decide +kernel
theorem dX12_chance_45 : decode cX12_chance 45 = .ok (.iload_n 2, 1) := by decide +kernel
theorem dX12_chance_46 : decode cX12_chance 46 = .ok (.if_icmp .gt 21, 3) := by decide +kernel
theorem dX12_chance_49 : decode cX12_chance 49 = .ok (.lload 4, 2) := by decide +kernel
theorem dX12_chance_51 : decode cX12_chance 51 = .ok (.aload_n 0, 1) := by decide +kernel
theorem dX12_chance_52 : decode cX12_chance 52 = .ok (.getfield 89, 3) := by decide +kernel
theorem dX12_chance_55 : decode cX12_chance 55 = .ok (.iload 6, 2) := by decide +kernel
theorem dX12_chance_57 : decode cX12_chance 57 = .ok (.laload, 1) := by decide +kernel
theorem dX12_chance_58 : decode cX12_chance 58 = .ok (.ladd, 1) := by decide +kernel
theorem dX12_chance_59 : decode cX12_chance 59 = .ok (.lstore 4, 2) := by decide +kernel
theorem dX12_chance_61 : decode cX12_chance 61 = .ok (.iinc 6 1, 3) := by decide +kernel
theorem dX12_chance_64 : decode cX12_chance 64 = .ok (.goto (-21), 3) := by decide +kernel
theorem dX12_chance_67 : decode cX12_chance 67 = .ok (.iload_n 3, 1) := by decide +kernel
theorem dX12_chance_68 : decode cX12_chance 68 = .ok (.ifCond .ne 8, 3) := by decide +kernel
theorem dX12_chance_71 : decode cX12_chance 71 = .ok (.lload 4, 2) := by decide +kernel
theorem dX12_chance_73 : decode cX12_chance 73 = .ok (.goto 7, 3) := by decide +kernel
theorem dX12_chance_76 : decode cX12_chance 76 = .ok (.aload_n 0, 1) := by decide +kernel
theorem dX12_chance_77 : decode cX12_chance 77 = .ok (.getfield 407, 3) := by decide +kernel
theorem dX12_chance_80 : decode cX12_chance 80 = .ok (.lload 4, 2) := by decide +kernel
theorem dX12_chance_82 : decode cX12_chance 82 = .ok (.aload_n 0, 1) := by decide +kernel
theorem dX12_chance_83 : decode cX12_chance 83 = .ok (.getfield 407, 3) := by decide +kernel
theorem dX12_chance_86 : decode cX12_chance 86 = .ok (.invokestatic 403, 3) := by decide +kernel
theorem dX12_chance_89 : decode cX12_chance 89 = .ok (.ldiv, 1) := by decide +kernel
theorem dX12_chance_90 : decode cX12_chance 90 = .ok (.lreturn, 1) := by decide +kernel
theorem dX12_sure_0 : decode cX12_sure 0 = .ok (.aload_n 0, 1) := by decide +kernel
theorem dX12_sure_1 : decode cX12_sure 1 = .ok (.iconst 0, 1) := by decide +kernel
theorem dX12_sure_2 : decode cX12_sure 2 = .ok (.putfield 92, 3) := by decide +kernel
theorem dX12_sure_5 : decode cX12_sure 5 = .ok (.aload_n 0, 1) := by decide +kernel
theorem dX12_sure_6 : decode cX12_sure 6 = .ok (.iload_n 1, 1) := by decide +kernel
theorem dX12_sure_7 : decode cX12_sure 7 = .ok (.i2l, 1) := by decide +kernel
theorem dX12_sure_8 : decode cX12_sure 8 = .ok (.invokevirtual 299, 3) := by decide +kernel
theorem dX12_sure_11 : decode cX12_sure 11 = .ok (.ifCond .eq 15, 3) := by decide +kernel
theorem dX12_sure_14 : decode cX12_sure 14 = .ok (.iload_n 2, 1) := by decide +kernel
theorem dX12_sure_15 : decode cX12_sure 15 = .ok (.i2l, 1) := by decide +kernel
theorem dX12_sure_16 : decode cX12_sure 16 = .ok (.lconst 0, 1) := by decide +kernel
theorem dX12_sure_17 : decode cX12_sure 17 = .ok (.ldc2_w 417, 3) := by decide +kernel
theorem dX12_sure_20 : decode cX12_sure 20 = .ok (.invokestatic 97, 3) := by decide +kernel
theorem dX12_sure_23 : decode cX12_sure 23 = .ok (.ifCond .ne 6, 3) := by decide +kernel
theorem dX12_sure_26 : decode cX12_sure 26 = .ok (.bipush (-2), 2) := by decide +kernel
theorem dX12_sure_28 : decode cX12_sure 28 = .ok (.ireturn, 1) := by decide +kernel
theorem dX12_sure_29 : decode cX12_sure 29 = .ok (.aload_n 0, 1) := by decide +kernel
theorem dX12_sure_30 : decode cX12_sure 30 = .ok (.iload_n 1, 1) := by decide +kernel
theorem dX12_sure_31 : decode cX12_sure 31 = .ok (.invokevirtual 414, 3) := by decide +kernel
theorem dX12_sure_34 : decode cX12_sure 34 = .ok (.lconst 0, 1) := by decide +kernel
theorem dX12_sure_35 : decode cX12_sure 35 = .ok (.lstore_n 3, 1) := by decide +kernel
theorem dX12_sure_36 : decode cX12_sure 36 = .ok (.iconst 0, 1) := by decide +kernel
theorem dX12_sure_37 : decode cX12_sure 37 = .ok (.istore 5, 2) := by decide +kernel
theorem dX12_sure_39 : decode cX12_sure 39 = .ok (.iload 5, 2) := by decide +kernel
theorem dX12_sure_41 : decode cX12_sure 41 = .ok (.sipush 999, 3) := by decide +kernel
theorem dX12_sure_44 : decode cX12_sure 44 = .ok (.if_icmp .gt 38, 3) := by decide +kernel
theorem dX12_sure_47 : decode cX12_sure 47 = .ok (.lload_n 3, 1) := by decide +kernel
theorem dX12_sure_48 : decode cX12_sure 48 = .ok (.aload_n 0, 1) := by decide +kernel
theorem dX12_sure_49 : decode cX12_sure 49 = .ok (.getfield 89, 3) := by decide +kernel
theorem dX12_sure_52 : decode cX12_sure 52 = .ok (.iload 5, 2) := by decide +kernel
theorem dX12_sure_54 : decode cX12_sure 54 = .ok (.laload, 1) := by decide +kernel
theorem dX12_sure_55 : decode cX12_sure 55 = .ok (.ladd, 1) := by decide +kernel
theorem dX12_sure_56 : decode cX12_sure 56 = .ok (.lstore_n 3, 1) := by decide +kernel
theorem dX12_sure_57 : decode cX12_sure 57 = .ok (.ldc2_w 417, 3) := by decide +kernel
theorem dX12_sure_60 : decode cX12_sure 60 = .ok (.lload_n 3, 1) := by decide +kernel
theorem dX12_sure_61 : decode cX12_sure 61 = .ok (.lmul, 1) := by decide +kernel
theorem dX12_sure_62 : decode cX12_sure 62 = .ok (.iload_n 2, 1) := by decide +kernel
theorem dX12_sure_63 : decode cX12_sure 63 = .ok (.i2l, 1) := by decide +kernel
theorem dX12_sure_64 : decode cX12_sure 64 = .ok (.aload_n 0, 1) := by decide +kernel
theorem dX12_sure_65 : decode cX12_sure 65 = .ok (.getfield 407, 3) := by decide +kernel
theorem dX12_sure_68 : decode cX12_sure 68 = .ok (.lmul, 1) := by decide +kernel
theorem dX12_sure_69 : decode cX12_sure 69 = .ok (.lcmp, 1) := by decide +kernel
theorem dX12_sure_70 : decode cX12_sure 70 = .ok (.ifCond .lt 6, 3) := by decide +kernel
theorem dX12_sure_73 : decode cX12_sure 73 = .ok (.iload 5, 2) := by decide +kernel
theorem dX12_sure_75 : decode cX12_sure 75 = .ok (.ireturn, 1) := by decide +kernel
theorem dX12_sure_76 : decode cX12_sure 76 = .ok (.iinc 5 1, 3) := by decide +kernel
theorem dX12_sure_79 : decode cX12_sure 79 = .ok (.goto (-40), 3) := by decide +kernel
theorem dX12_sure_82 : decode cX12_sure 82 = .ok (.iconst (-1), 1) := by decide +kernel
theorem dX12_sure_83 : decode cX12_sure 83 = .ok (.ireturn, 1) := by decide +kernel
theorem dX12_isFull_0 : decode cX12_isFull 0 = .ok (.aload_n 0, 1) := by decide +kernel
theorem dX12_isFull_1 : decode cX12_isFull 1 = .ok (.getfield 34, 3) := by decide +kernel
theorem dX12_isFull_4 : decode cX12_isFull 4 = .ok (.iconst 5, 1) := by decide +kernel
theorem dX12_isFull_5 : decode cX12_isFull 5 = .ok (.iaload, 1) := by decide +kernel
theorem dX12_isFull_6 : decode cX12_isFull 6 = .ok (.bipush 40, 2) := by decide +kernel
theorem dX12_isFull_8 : decode cX12_isFull 8 = .ok (.if_icmp .ne 7, 3) := by decide +kernel
theorem dX12_isFull_11 : decode cX12_isFull 11 = .ok (.iconst 1, 1) := by decide +kernel
theorem dX12_isFull_12 : decode cX12_isFull 12 = .ok (.goto 4, 3) := by decide +kernel
theorem dX12_isFull_15 : decode cX12_isFull 15 = .ok (.iconst 0, 1) := by decide +kernel
theorem dX12_isFull_16 : decode cX12_isFull 16 = .ok (.ireturn, 1) := by decide +kernel
theorem dX12_acts_0 : decode cX12_acts 0 = .ok (.iconst 3, 1) := by decide +kernel
theorem dX12_acts_1 : decode cX12_acts 1 = .ok (.aload_n 0, 1) := by decide +kernel
theorem dX12_acts_2 : decode cX12_acts 2 = .ok (.getfield 34, 3) := by decide +kernel
theorem dX12_acts_5 : decode cX12_acts 5 = .ok (.iconst 5, 1) := by decide +kernel
theorem dX12_acts_6 : decode cX12_acts 6 = .ok (.iaload, 1) := by decide +kernel
theorem dX12_acts_7 : decode cX12_acts 7 = .ok (.imul, 1) := by decide +kernel
theorem dX12_acts_8 : decode cX12_acts 8 = .ok (.istore 4, 2) := by decide +kernel
theorem dX12_acts_10 : decode cX12_acts 10 = .ok (.aload_n 0, 1) := by decide +kernel
theorem dX12_acts_11 : decode cX12_acts 11 = .ok (.getfield 49, 3) := by decide +kernel
theorem dX12_acts_14 : decode cX12_acts 14 = .ok (.iload 4, 2) := by decide +kernel
theorem dX12_acts_16 : decode cX12_acts 16 = .ok (.iload_n 1, 1) := by decide +kernel
theorem dX12_acts_17 : decode cX12_acts 17 = .ok (.iastore, 1) := by decide +kernel
theorem dX12_acts_18 : decode cX12_acts 18 = .ok (.aload_n 0, 1) := by decide +kernel
theorem dX12_acts_19 : decode cX12_acts 19 = .ok (.getfield 49, 3) := by decide +kernel
theorem dX12_acts_22 : decode cX12_acts 22 = .ok (.iload 4, 2) := by decide +kernel
theorem dX12_acts_24 : decode cX12_acts 24 = .ok (.iconst 1, 1) := by decide +kernel
theorem dX12_acts_25 : decode cX12_acts 25 = .ok (.iadd, 1) := by decide +kernel
theorem dX12_acts_26 : decode cX12_acts 26 = .ok (.iload_n 2, 1) := by decide +kernel
theorem dX12_acts_27 : decode cX12_acts 27 = .ok (.iastore, 1) := by decide +kernel
theorem dX12_acts_28 : decode cX12_acts 28 = .ok (.aload_n 0, 1) := by decide +kernel
theorem dX12_acts_29 : decode cX12_acts 29 = .ok (.getfield 49, 3) := by decide +kernel
theorem dX12_acts_32 : decode cX12_acts 32 = .ok (.iload 4, 2) := by decide +kernel
theorem dX12_acts_34 : decode cX12_acts 34 = .ok (.iconst 2, 1) := by decide +kernel
theorem dX12_acts_35 : decode cX12_acts 35 = .ok (.iadd, 1) := by decide +kernel
theorem dX12_acts_36 : decode cX12_acts 36 = .ok (.iload_n 3, 1) := by decide +kernel
theorem dX12_acts_37 : decode cX12_acts 37 = .ok (.iastore, 1) := by decide +kernel
theorem dX12_acts_38 : decode cX12_acts 38 = .ok (.aload_n 0, 1) := by decide +kernel
theorem dX12_acts_39 : decode cX12_acts 39 = .ok (.getfield 34, 3) := by decide +kernel
theorem dX12_acts_42 : decode cX12_acts 42 = .ok (.iconst 5, 1) := by decide +kernel
theorem dX12_acts_43 : decode cX12_acts 43 = .ok (.dup2, 1) := by decide +kernel
theorem dX12_acts_44 : decode cX12_acts 44 = .ok (.iaload, 1) := by decide +kernel
theorem dX12_acts_45 : decode cX12_acts 45 = .ok (.iconst 1, 1) := by decide +kernel
theorem dX12_acts_46 : decode cX12_acts 46 = .ok (.iadd, 1) := by decide +kernel
theorem dX12_acts_47 : decode cX12_acts 47 = .ok (.iastore, 1) := by decide +kernel
theorem dX12_acts_48 : decode cX12_acts 48 = .ok (.return_, 1) := by decide +kernel
theorem dX12_bar_0 : decode cX12_bar 0 = .ok (.aload_n 0, 1) := by decide +kernel
theorem dX12_bar_1 : decode cX12_bar 1 = .ok (.iconst 0, 1) := by decide +kernel
theorem dX12_bar_2 : decode cX12_bar 2 = .ok (.putfield 92, 3) := by decide +kernel
theorem dX12_bar_5 : decode cX12_bar 5 = .ok (.aload_n 0, 1) := by decide +kernel
theorem dX12_bar_6 : decode cX12_bar 6 = .ok (.iload_n 1, 1) := by decide +kernel
theorem dX12_bar_7 : decode cX12_bar 7 = .ok (.invokevirtual 285, 3) := by decide +kernel
theorem dX12_bar_10 : decode cX12_bar 10 = .ok (.ifCond .eq 10, 3) := by decide +kernel
theorem dX12_bar_13 : decode cX12_bar 13 = .ok (.iload_n 2, 1) := by decide +kernel
theorem dX12_bar_14 : decode cX12_bar 14 = .ok (.invokestatic 293, 3) := by decide +kernel
theorem dX12_bar_17 : decode cX12_bar 17 = .ok (.ifCond .ne 6, 3) := by decide +kernel
theorem dX12_bar_20 : decode cX12_bar 20 = .ok (.bipush (-2), 2) := by decide +kernel
theorem dX12_bar_22 : decode cX12_bar 22 = .ok (.ireturn, 1) := by decide +kernel
theorem dX12_bar_23 : decode cX12_bar 23 = .ok (.aload_n 0, 1) := by decide +kernel
theorem dX12_bar_24 : decode cX12_bar 24 = .ok (.invokevirtual 419, 3) := by decide +kernel
theorem dX12_bar_27 : decode cX12_bar 27 = .ok (.ifCond .eq 6, 3) := by decide +kernel
theorem dX12_bar_30 : decode cX12_bar 30 = .ok (.bipush (-5), 2) := by decide +kernel
theorem dX12_bar_32 : decode cX12_bar 32 = .ok (.ireturn, 1) := by decide +kernel
theorem dX12_bar_33 : decode cX12_bar 33 = .ok (.aload_n 0, 1) := by decide +kernel
theorem dX12_bar_34 : decode cX12_bar 34 = .ok (.invokevirtual 279, 3) := by decide +kernel
theorem dX12_bar_37 : decode cX12_bar 37 = .ok (.aload_n 0, 1) := by decide +kernel
theorem dX12_bar_38 : decode cX12_bar 38 = .ok (.iconst 0, 1) := by decide +kernel
theorem dX12_bar_39 : decode cX12_bar 39 = .ok (.iload_n 1, 1) := by decide +kernel
theorem dX12_bar_40 : decode cX12_bar 40 = .ok (.iload_n 2, 1) := by decide +kernel
theorem dX12_bar_41 : decode cX12_bar 41 = .ok (.invokevirtual 422, 3) := by decide +kernel
theorem dX12_bar_44 : decode cX12_bar 44 = .ok (.aload_n 0, 1) := by decide +kernel
theorem dX12_bar_45 : decode cX12_bar 45 = .ok (.getfield 262, 3) := by decide +kernel
theorem dX12_bar_48 : decode cX12_bar 48 = .ok (.iload_n 1, 1) := by decide +kernel
theorem dX12_bar_49 : decode cX12_bar 49 = .ok (.invokestatic 265, 3) := by decide +kernel
theorem dX12_bar_52 : decode cX12_bar 52 = .ok (.ifCond .eq 7, 3) := by decide +kernel
theorem dX12_bar_55 : decode cX12_bar 55 = .ok (.iconst 0, 1) := by decide +kernel
theorem dX12_bar_56 : decode cX12_bar 56 = .ok (.goto 4, 3) := by decide +kernel
theorem dX12_bar_59 : decode cX12_bar 59 = .ok (.iconst 1, 1) := by decide +kernel
theorem dX12_bar_60 : decode cX12_bar 60 = .ok (.ireturn, 1) := by decide +kernel
theorem dX12_holds_0 : decode cX12_holds 0 = .ok (.aload_n 0, 1) := by decide +kernel
theorem dX12_holds_1 : decode cX12_holds 1 = .ok (.iconst 0, 1) := by decide +kernel
theorem dX12_holds_2 : decode cX12_holds 2 = .ok (.putfield 92, 3) := by decide +kernel
theorem dX12_holds_5 : decode cX12_holds 5 = .ok (.aload_n 0, 1) := by decide +kernel
theorem dX12_holds_6 : decode cX12_holds 6 = .ok (.iload_n 1, 1) := by decide +kernel
theorem dX12_holds_7 : decode cX12_holds 7 = .ok (.invokevirtual 290, 3) := by decide +kernel
theorem dX12_holds_10 : decode cX12_holds 10 = .ok (.ifCond .eq 15, 3) := by decide +kernel
theorem dX12_holds_13 : decode cX12_holds 13 = .ok (.iload_n 2, 1) := by decide +kernel
theorem dX12_holds_14 : decode cX12_holds 14 = .ok (.i2l, 1) := by decide +kernel
theorem dX12_holds_15 : decode cX12_holds 15 = .ok (.lconst 0, 1) := by decide +kernel
theorem dX12_holds_16 : decode cX12_holds 16 = .ok (.ldc2_w 386, 3) := by decide +kernel
theorem dX12_holds_19 : decode cX12_holds 19 = .ok (.invokestatic 97, 3) := by decide +kernel
theorem dX12_holds_22 : decode cX12_holds 22 = .ok (.ifCond .ne 6, 3) := by decide +kernel
theorem dX12_holds_25 : decode cX12_holds 25 = .ok (.bipush (-2), 2) := by decide +kernel
theorem dX12_holds_27 : decode cX12_holds 27 = .ok (.ireturn, 1) := by decide +kernel
theorem dX12_holds_28 : decode cX12_holds 28 = .ok (.aload_n 0, 1) := by decide +kernel
theorem dX12_holds_29 : decode cX12_holds 29 = .ok (.invokevirtual 419, 3) := by decide +kernel
theorem dX12_holds_32 : decode cX12_holds 32 = .ok (.ifCond .eq 6, 3) := by decide +kernel
theorem dX12_holds_35 : decode cX12_holds 35 = .ok (.bipush (-5), 2) := by decide +kernel
theorem dX12_holds_37 : decode cX12_holds 37 = .ok (.ireturn, 1) := by decide +kernel
theorem dX12_holds_38 : decode cX12_holds 38 = .ok (.aload_n 0, 1) := by decide +kernel
theorem dX12_holds_39 : decode cX12_holds 39 = .ok (.invokevirtual 279, 3) := by decide +kernel
theorem dX12_holds_42 : decode cX12_holds 42 = .ok (.aload_n 0, 1) := by decide +kernel
theorem dX12_holds_43 : decode cX12_holds 43 = .ok (.iconst 1, 1) := by decide +kernel
theorem dX12_holds_44 : decode cX12_holds 44 = .ok (.iload_n 1, 1) := by decide +kernel
theorem dX12_holds_45 : decode cX12_holds 45 = .ok (.iload_n 2, 1) := by decide +kernel
theorem dX12_holds_46 : decode cX12_holds 46 = .ok (.invokevirtual 422, 3) := by decide +kernel
theorem dX12_holds_49 : decode cX12_holds 49 = .ok (.aload_n 0, 1) := by decide +kernel
theorem dX12_holds_50 : decode cX12_holds 50 = .ok (.getfield 56, 3) := by decide +kernel
theorem dX12_holds_53 : decode cX12_holds 53 = .ok (.iload_n 1, 1) := by decide +kernel
theorem dX12_holds_54 : decode cX12_holds 54 = .ok (.iaload, 1) := by decide +kernel
theorem dX12_holds_55 : decode cX12_holds 55 = .ok (.ireturn, 1) := by decide +kernel
theorem dX12_undo_0 : decode cX12_undo 0 = .ok (.aload_n 0, 1) := by decide +kernel
theorem dX12_undo_1 : decode cX12_undo 1 = .ok (.iconst 0, 1) := by decide +kernel
theorem dX12_undo_2 : decode cX12_undo 2 = .ok (.putfield 92, 3) := by decide +kernel
theorem dX12_undo_5 : decode cX12_undo 5 = .ok (.aload_n 0, 1) := by decide +kernel
theorem dX12_undo_6 : decode cX12_undo 6 = .ok (.invokevirtual 311, 3) := by decide +kernel
theorem dX12_undo_9 : decode cX12_undo 9 = .ok (.ifCond .ne 6, 3) := by decide +kernel
theorem dX12_undo_12 : decode cX12_undo 12 = .ok (.bipush (-2), 2) := by decide +kernel
theorem dX12_undo_14 : decode cX12_undo 14 = .ok (.ireturn, 1) := by decide +kernel
theorem dX12_undo_15 : decode cX12_undo 15 = .ok (.aload_n 0, 1) := by decide +kernel
theorem dX12_undo_16 : decode cX12_undo 16 = .ok (.getfield 34, 3) := by decide +kernel
theorem dX12_undo_19 : decode cX12_undo 19 = .ok (.iconst 5, 1) := by decide +kernel
theorem dX12_undo_20 : decode cX12_undo 20 = .ok (.iaload, 1) := by decide +kernel
theorem dX12_undo_21 : decode cX12_undo 21 = .ok (.ifCond .ne 6, 3) := by decide +kernel
theorem dX12_undo_24 : decode cX12_undo 24 = .ok (.bipush (-5), 2) := by decide +kernel
theorem dX12_undo_26 : decode cX12_undo 26 = .ok (.ireturn, 1) := by decide +kernel
theorem dX12_undo_27 : decode cX12_undo 27 = .ok (.aload_n 0, 1) := by decide +kernel
theorem dX12_undo_28 : decode cX12_undo 28 = .ok (.getfield 34, 3) := by decide +kernel
theorem dX12_undo_31 : decode cX12_undo 31 = .ok (.iconst 5, 1) := by decide +kernel
theorem dX12_undo_32 : decode cX12_undo 32 = .ok (.dup2, 1) := by decide +kernel
theorem dX12_undo_33 : decode cX12_undo 33 = .ok (.iaload, 1) := by decide +kernel
theorem dX12_undo_34 : decode cX12_undo 34 = .ok (.iconst 1, 1) := by decide +kernel
theorem dX12_undo_35 : decode cX12_undo 35 = .ok (.isub, 1) := by decide +kernel
theorem dX12_undo_36 : decode cX12_undo 36 = .ok (.iastore, 1) := by decide +kernel
theorem dX12_undo_37 : decode cX12_undo 37 = .ok (.aload_n 0, 1) := by decide +kernel
theorem dX12_undo_38 : decode cX12_undo 38 = .ok (.getfield 34, 3) := by decide +kernel
theorem dX12_undo_41 : decode cX12_undo 41 = .ok (.iconst 5, 1) := by decide +kernel
theorem dX12_undo_42 : decode cX12_undo 42 = .ok (.iaload, 1) := by decide +kernel
theorem dX12_undo_43 : decode cX12_undo 43 = .ok (.ireturn, 1) := by decide +kernel
theorem dX12_anew_0 : decode cX12_anew 0 = .ok (.aload_n 0, 1) := by decide +kernel
theorem dX12_anew_1 : decode cX12_anew 1 = .ok (.iconst 0, 1) := by decide +kernel
theorem dX12_anew_2 : decode cX12_anew 2 = .ok (.putfield 92, 3) := by decide +kernel
theorem dX12_anew_5 : decode cX12_anew 5 = .ok (.aload_n 0, 1) := by decide +kernel
theorem dX12_anew_6 : decode cX12_anew 6 = .ok (.invokevirtual 311, 3) := by decide +kernel
theorem dX12_anew_9 : decode cX12_anew 9 = .ok (.ifCond .ne 6, 3) := by decide +kernel
theorem dX12_anew_12 : decode cX12_anew 12 = .ok (.bipush (-2), 2) := by decide +kernel
theorem dX12_anew_14 : decode cX12_anew 14 = .ok (.ireturn, 1) := by decide +kernel
theorem dX12_anew_15 : decode cX12_anew 15 = .ok (.aload_n 0, 1) := by decide +kernel
theorem dX12_anew_16 : decode cX12_anew 16 = .ok (.getfield 34, 3) := by decide +kernel
theorem dX12_anew_19 : decode cX12_anew 19 = .ok (.iconst 5, 1) := by decide +kernel
theorem dX12_anew_20 : decode cX12_anew 20 = .ok (.iaload, 1) := by decide +kernel
theorem dX12_anew_21 : decode cX12_anew 21 = .ok (.istore_n 1, 1) := by decide +kernel
theorem dX12_anew_22 : decode cX12_anew 22 = .ok (.aload_n 0, 1) := by decide +kernel
theorem dX12_anew_23 : decode cX12_anew 23 = .ok (.getfield 34, 3) := by decide +kernel
theorem dX12_anew_26 : decode cX12_anew 26 = .ok (.iconst 5, 1) := by decide +kernel
theorem dX12_anew_27 : decode cX12_anew 27 = .ok (.iconst 0, 1) := by decide +kernel
theorem dX12_anew_28 : decode cX12_anew 28 = .ok (.iastore, 1) := by decide +kernel
theorem dX12_anew_29 : decode cX12_anew 29 = .ok (.iload_n 1, 1) := by decide +kernel
theorem dX12_anew_30 : decode cX12_anew 30 = .ok (.ireturn, 1) := by decide +kernel
theorem dX12_drawnMud_0 : decode cX12_drawnMud 0 = .ok (.lload_n 1, 1) := by decide +kernel
theorem dX12_drawnMud_1 : decode cX12_drawnMud 1 = .ok (.lstore_n 3, 1) := by decide +kernel
theorem dX12_drawnMud_2 : decode cX12_drawnMud 2 = .ok (.iconst 0, 1) := by decide +kernel
theorem dX12_drawnMud_3 : decode cX12_drawnMud 3 = .ok (.istore 5, 2) := by decide +kernel
theorem dX12_drawnMud_5 : decode cX12_drawnMud 5 = .ok (.iconst 0, 1) := by decide +kernel
theorem dX12_drawnMud_6 : decode cX12_drawnMud 6 = .ok (.istore 6, 2) := by decide +kernel
theorem dX12_drawnMud_8 : decode cX12_drawnMud 8 = .ok (.iload 6, 2) := by decide +kernel
theorem dX12_drawnMud_10 : decode cX12_drawnMud 10 = .ok (.aload_n 0, 1) := by decide +kernel
theorem dX12_drawnMud_11 : decode cX12_drawnMud 11 = .ok (.getfield 34, 3) := by decide +kernel
theorem dX12_drawnMud_14 : decode cX12_drawnMud 14 = .ok (.iconst 1, 1) := by decide +kernel
theorem dX12_drawnMud_15 : decode cX12_drawnMud 15 = .ok (.iaload, 1) := by decide +kernel
theorem dX12_drawnMud_16 : decode cX12_drawnMud 16 = .ok (.if_icmp .ge 61, 3) := by decide +kernel
theorem dX12_drawnMud_19 : decode cX12_drawnMud 19 = .ok (.ldc2_w 426, 3) := by decide +kernel
theorem dX12_drawnMud_22 : decode cX12_drawnMud 22 = .ok (.lload_n 3, 1) := by decide +kernel
theorem dX12_drawnMud_23 : decode cX12_drawnMud 23 = .ok (.lmul, 1) := by decide +kernel
theorem dX12_drawnMud_24 : decode cX12_drawnMud 24 = .ok (.ldc2_w 428, 3) := by decide +kernel
theorem dX12_drawnMud_27 : decode cX12_drawnMud 27 = .ok (.ladd, 1) := by decide +kernel
theorem dX12_drawnMud_28 : decode cX12_drawnMud 28 = .ok (.ldc2_w 430, 3) := by decide +kernel
theorem dX12_drawnMud_31 : decode cX12_drawnMud 31 = .ok (.lrem, 1) := by decide +kernel
theorem dX12_drawnMud_32 : decode cX12_drawnMud 32 = .ok (.lstore_n 3, 1) := by decide +kernel
theorem dX12_drawnMud_33 : decode cX12_drawnMud 33 = .ok (.iload 5, 2) := by decide +kernel
theorem dX12_drawnMud_35 : decode cX12_drawnMud 35 = .ok (.lload_n 3, 1) := by decide +kernel
theorem dX12_drawnMud_36 : decode cX12_drawnMud 36 = .ok (.ldc2_w 432, 3) := by decide +kernel
theorem dX12_drawnMud_39 : decode cX12_drawnMud 39 = .ok (.ldiv, 1) := by decide +kernel
theorem dX12_drawnMud_40 : decode cX12_drawnMud 40 = .ok (.ldc2_w 410, 3) := by decide +kernel
theorem dX12_drawnMud_43 : decode cX12_drawnMud 43 = .ok (.lrem, 1) := by decide +kernel
theorem dX12_drawnMud_44 : decode cX12_drawnMud 44 = .ok (.aload_n 0, 1) := by decide +kernel
theorem dX12_drawnMud_45 : decode cX12_drawnMud 45 = .ok (.getfield 37, 3) := by decide +kernel
theorem dX12_drawnMud_48 : decode cX12_drawnMud 48 = .ok (.iconst 5, 1) := by decide +kernel
theorem dX12_drawnMud_49 : decode cX12_drawnMud 49 = .ok (.iload 6, 2) := by decide +kernel
theorem dX12_drawnMud_51 : decode cX12_drawnMud 51 = .ok (.imul, 1) := by decide +kernel
theorem dX12_drawnMud_52 : decode cX12_drawnMud 52 = .ok (.iconst 3, 1) := by decide +kernel
theorem dX12_drawnMud_53 : decode cX12_drawnMud 53 = .ok (.iadd, 1) := by decide +kernel
theorem dX12_drawnMud_54 : decode cX12_drawnMud 54 = .ok (.iaload, 1) := by decide +kernel
theorem dX12_drawnMud_55 : decode cX12_drawnMud 55 = .ok (.i2l, 1) := by decide +kernel
theorem dX12_drawnMud_56 : decode cX12_drawnMud 56 = .ok (.lcmp, 1) := by decide +kernel
theorem dX12_drawnMud_57 : decode cX12_drawnMud 57 = .ok (.ifCond .ge 10, 3) := by decide +kernel
theorem dX12_drawnMud_60 : decode cX12_drawnMud 60 = .ok (.iconst 1, 1) := by decide +kernel
theorem dX12_drawnMud_61 : decode cX12_drawnMud 61 = .ok (.iload 6, 2) := by decide +kernel
theorem dX12_drawnMud_63 : decode cX12_drawnMud 63 = .ok (.ishl, 1) := by decide +kernel
theorem dX12_drawnMud_64 : decode cX12_drawnMud 64 = .ok (.goto 4, 3) := by decide +kernel
theorem dX12_drawnMud_67 : decode cX12_drawnMud 67 = .ok (.iconst 0, 1) := by decide +kernel
theorem dX12_drawnMud_68 : decode cX12_drawnMud 68 = .ok (.ior, 1) := by decide +kernel
theorem dX12_drawnMud_69 : decode cX12_drawnMud 69 = .ok (.istore 5, 2) := by decide +kernel
theorem dX12_drawnMud_71 : decode cX12_drawnMud 71 = .ok (.iinc 6 1, 3) := by decide +kernel
theorem dX12_drawnMud_74 : decode cX12_drawnMud 74 = .ok (.goto (-66), 3) := by decide +kernel
theorem dX12_drawnMud_77 : decode cX12_drawnMud 77 = .ok (.iload 5, 2) := by decide +kernel
theorem dX12_drawnMud_79 : decode cX12_drawnMud 79 = .ok (.ireturn, 1) := by decide +kernel
theorem dX12_isSeed_0 : decode cX12_isSeed 0 = .ok (.aload_n 0, 1) := by decide +kernel
theorem dX12_isSeed_1 : decode cX12_isSeed 1 = .ok (.invokevirtual 311, 3) := by decide +kernel
theorem dX12_isSeed_4 : decode cX12_isSeed 4 = .ok (.ifCond .eq 19, 3) := by decide +kernel
theorem dX12_isSeed_7 : decode cX12_isSeed 7 = .ok (.iload_n 1, 1) := by decide +kernel
theorem dX12_isSeed_8 : decode cX12_isSeed 8 = .ok (.i2l, 1) := by decide +kernel
theorem dX12_isSeed_9 : decode cX12_isSeed 9 = .ok (.lconst 0, 1) := by decide +kernel
theorem dX12_isSeed_10 : decode cX12_isSeed 10 = .ok (.ldc2_w 434, 3) := by decide +kernel
theorem dX12_isSeed_13 : decode cX12_isSeed 13 = .ok (.invokestatic 97, 3) := by decide +kernel
theorem dX12_isSeed_16 : decode cX12_isSeed 16 = .ok (.ifCond .eq 7, 3) := by decide +kernel
theorem dX12_isSeed_19 : decode cX12_isSeed 19 = .ok (.iconst 1, 1) := by decide +kernel
theorem dX12_isSeed_20 : decode cX12_isSeed 20 = .ok (.goto 4, 3) := by decide +kernel
theorem dX12_isSeed_23 : decode cX12_isSeed 23 = .ok (.iconst 0, 1) := by decide +kernel
theorem dX12_isSeed_24 : decode cX12_isSeed 24 = .ok (.ireturn, 1) := by decide +kernel
theorem dX12_drawn_0 : decode cX12_drawn 0 = .ok (.aload_n 0, 1) := by decide +kernel
theorem dX12_drawn_1 : decode cX12_drawn 1 = .ok (.iconst 0, 1) := by decide +kernel
theorem dX12_drawn_2 : decode cX12_drawn 2 = .ok (.putfield 92, 3) := by decide +kernel
theorem dX12_drawn_5 : decode cX12_drawn 5 = .ok (.aload_n 0, 1) := by decide +kernel
theorem dX12_drawn_6 : decode cX12_drawn 6 = .ok (.iload_n 1, 1) := by decide +kernel
theorem dX12_drawn_7 : decode cX12_drawn 7 = .ok (.invokevirtual 436, 3) := by decide +kernel
theorem dX12_drawn_10 : decode cX12_drawn 10 = .ok (.ifCond .eq 10, 3) := by decide +kernel
theorem dX12_drawn_13 : decode cX12_drawn 13 = .ok (.iload_n 2, 1) := by decide +kernel
theorem dX12_drawn_14 : decode cX12_drawn 14 = .ok (.invokestatic 293, 3) := by decide +kernel
theorem dX12_drawn_17 : decode cX12_drawn 17 = .ok (.ifCond .ne 6, 3) := by decide +kernel
theorem dX12_drawn_20 : decode cX12_drawn 20 = .ok (.bipush (-2), 2) := by decide +kernel
theorem dX12_drawn_22 : decode cX12_drawn 22 = .ok (.ireturn, 1) := by decide +kernel
theorem dX12_drawn_23 : decode cX12_drawn 23 = .ok (.aload_n 0, 1) := by decide +kernel
theorem dX12_drawn_24 : decode cX12_drawn 24 = .ok (.iload_n 1, 1) := by decide +kernel
theorem dX12_drawn_25 : decode cX12_drawn 25 = .ok (.i2l, 1) := by decide +kernel
theorem dX12_drawn_26 : decode cX12_drawn 26 = .ok (.invokevirtual 439, 3) := by decide +kernel
theorem dX12_drawn_29 : decode cX12_drawn 29 = .ok (.istore_n 3, 1) := by decide +kernel
theorem dX12_drawn_30 : decode cX12_drawn 30 = .ok (.iload_n 2, 1) := by decide +kernel
theorem dX12_drawn_31 : decode cX12_drawn 31 = .ok (.ifCond .ne 5, 3) := by decide +kernel
theorem dX12_drawn_34 : decode cX12_drawn 34 = .ok (.iload_n 3, 1) := by decide +kernel
theorem dX12_drawn_35 : decode cX12_drawn 35 = .ok (.ireturn, 1) := by decide +kernel
theorem dX12_drawn_36 : decode cX12_drawn 36 = .ok (.aload_n 0, 1) := by decide +kernel
theorem dX12_drawn_37 : decode cX12_drawn 37 = .ok (.invokevirtual 279, 3) := by decide +kernel
theorem dX12_drawn_40 : decode cX12_drawn 40 = .ok (.aload_n 0, 1) := by decide +kernel
theorem dX12_drawn_41 : decode cX12_drawn 41 = .ok (.aload_n 0, 1) := by decide +kernel
theorem dX12_drawn_42 : decode cX12_drawn 42 = .ok (.getfield 262, 3) := by decide +kernel
theorem dX12_drawn_45 : decode cX12_drawn 45 = .ok (.iload_n 3, 1) := by decide +kernel
theorem dX12_drawn_46 : decode cX12_drawn 46 = .ok (.invokevirtual 282, 3) := by decide +kernel
theorem dX12_drawn_49 : decode cX12_drawn 49 = .ok (.aload_n 0, 1) := by decide +kernel
theorem dX12_drawn_50 : decode cX12_drawn 50 = .ok (.invokevirtual 317, 3) := by decide +kernel
theorem dX12_drawn_53 : decode cX12_drawn 53 = .ok (.ireturn, 1) := by decide +kernel
theorem dX12_luck_0 : decode cX12_luck 0 = .ok (.aload_n 0, 1) := by decide +kernel
theorem dX12_luck_1 : decode cX12_luck 1 = .ok (.iconst 0, 1) := by decide +kernel
theorem dX12_luck_2 : decode cX12_luck 2 = .ok (.putfield 92, 3) := by decide +kernel
theorem dX12_luck_5 : decode cX12_luck 5 = .ok (.aload_n 0, 1) := by decide +kernel
theorem dX12_luck_6 : decode cX12_luck 6 = .ok (.iload_n 1, 1) := by decide +kernel
theorem dX12_luck_7 : decode cX12_luck 7 = .ok (.invokevirtual 436, 3) := by decide +kernel
theorem dX12_luck_10 : decode cX12_luck 10 = .ok (.ifCond .eq 32, 3) := by decide +kernel
theorem dX12_luck_13 : decode cX12_luck 13 = .ok (.iload_n 2, 1) := by decide +kernel
theorem dX12_luck_14 : decode cX12_luck 14 = .ok (.i2l, 1) := by decide +kernel
theorem dX12_luck_15 : decode cX12_luck 15 = .ok (.lconst 1, 1) := by decide +kernel
theorem dX12_luck_16 : decode cX12_luck 16 = .ok (.ldc2_w 443, 3) := by decide +kernel
theorem dX12_luck_19 : decode cX12_luck 19 = .ok (.invokestatic 97, 3) := by decide +kernel
theorem dX12_luck_22 : decode cX12_luck 22 = .ok (.ifCond .eq 20, 3) := by decide +kernel
theorem dX12_luck_25 : decode cX12_luck 25 = .ok (.aload_n 0, 1) := by decide +kernel
theorem dX12_luck_26 : decode cX12_luck 26 = .ok (.iload_n 3, 1) := by decide +kernel
theorem dX12_luck_27 : decode cX12_luck 27 = .ok (.i2l, 1) := by decide +kernel
theorem dX12_luck_28 : decode cX12_luck 28 = .ok (.invokevirtual 299, 3) := by decide +kernel
theorem dX12_luck_31 : decode cX12_luck 31 = .ok (.ifCond .eq 11, 3) := by decide +kernel
theorem dX12_luck_34 : decode cX12_luck 34 = .ok (.iload 4, 2) := by decide +kernel
theorem dX12_luck_36 : decode cX12_luck 36 = .ok (.invokestatic 314, 3) := by decide +kernel
theorem dX12_luck_39 : decode cX12_luck 39 = .ok (.ifCond .ne 6, 3) := by decide +kernel
theorem dX12_luck_42 : decode cX12_luck 42 = .ok (.bipush (-2), 2) := by decide +kernel
theorem dX12_luck_44 : decode cX12_luck 44 = .ok (.ireturn, 1) := by decide +kernel
theorem dX12_luck_45 : decode cX12_luck 45 = .ok (.aload_n 0, 1) := by decide +kernel
theorem dX12_luck_46 : decode cX12_luck 46 = .ok (.invokevirtual 279, 3) := by decide +kernel
theorem dX12_luck_49 : decode cX12_luck 49 = .ok (.iconst 0, 1) := by decide +kernel
theorem dX12_luck_50 : decode cX12_luck 50 = .ok (.istore 5, 2) := by decide +kernel
theorem dX12_luck_52 : decode cX12_luck 52 = .ok (.iconst 0, 1) := by decide +kernel
theorem dX12_luck_53 : decode cX12_luck 53 = .ok (.istore 6, 2) := by decide +kernel
theorem dX12_luck_55 : decode cX12_luck 55 = .ok (.iload 6, 2) := by decide +kernel
theorem dX12_luck_57 : decode cX12_luck 57 = .ok (.iload_n 2, 1) := by decide +kernel
theorem dX12_luck_58 : decode cX12_luck 58 = .ok (.if_icmp .ge 48, 3) := by decide +kernel
theorem dX12_luck_61 : decode cX12_luck 61 = .ok (.aload_n 0, 1) := by decide +kernel
theorem dX12_luck_62 : decode cX12_luck 62 = .ok (.aload_n 0, 1) := by decide +kernel
theorem dX12_luck_63 : decode cX12_luck 63 = .ok (.getfield 262, 3) := by decide +kernel
theorem dX12_luck_66 : decode cX12_luck 66 = .ok (.aload_n 0, 1) := by decide +kernel
theorem dX12_luck_67 : decode cX12_luck 67 = .ok (.iload_n 1, 1) := by decide +kernel
theorem dX12_luck_68 : decode cX12_luck 68 = .ok (.i2l, 1) := by decide +kernel
theorem dX12_luck_69 : decode cX12_luck 69 = .ok (.iload 6, 2) := by decide +kernel
theorem dX12_luck_71 : decode cX12_luck 71 = .ok (.i2l, 1) := by decide +kernel
theorem dX12_luck_72 : decode cX12_luck 72 = .ok (.ladd, 1) := by decide +kernel
theorem dX12_luck_73 : decode cX12_luck 73 = .ok (.invokevirtual 439, 3) := by decide +kernel
theorem dX12_luck_76 : decode cX12_luck 76 = .ok (.invokevirtual 282, 3) := by decide +kernel
theorem dX12_luck_79 : decode cX12_luck 79 = .ok (.iload 5, 2) := by decide +kernel
theorem dX12_luck_81 : decode cX12_luck 81 = .ok (.aload_n 0, 1) := by decide +kernel
theorem dX12_luck_82 : decode cX12_luck 82 = .ok (.getfield 59, 3) := by decide +kernel
theorem dX12_luck_85 : decode cX12_luck 85 = .ok (.iload_n 3, 1) := by decide +kernel
theorem dX12_luck_86 : decode cX12_luck 86 = .ok (.iaload, 1) := by decide +kernel
theorem dX12_luck_87 : decode cX12_luck 87 = .ok (.iload 4, 2) := by decide +kernel
theorem dX12_luck_89 : decode cX12_luck 89 = .ok (.if_icmp .gt 7, 3) := by decide +kernel
theorem dX12_luck_92 : decode cX12_luck 92 = .ok (.iconst 1, 1) := by decide +kernel
theorem dX12_luck_93 : decode cX12_luck 93 = .ok (.goto 4, 3) := by decide +kernel
theorem dX12_luck_96 : decode cX12_luck 96 = .ok (.iconst 0, 1) := by decide +kernel
theorem dX12_luck_97 : decode cX12_luck 97 = .ok (.iadd, 1) := by decide +kernel
theorem dX12_luck_98 : decode cX12_luck 98 = .ok (.istore 5, 2) := by decide +kernel
theorem dX12_luck_100 : decode cX12_luck 100 = .ok (.iinc 6 1, 3) := by decide +kernel
theorem dX12_luck_103 : decode cX12_luck 103 = .ok (.goto (-48), 3) := by decide +kernel
theorem dX12_luck_106 : decode cX12_luck 106 = .ok (.iload 5, 2) := by decide +kernel
theorem dX12_luck_108 : decode cX12_luck 108 = .ok (.ireturn, 1) := by decide +kernel
theorem dX12_tell_0 : decode cX12_tell 0 = .ok (.aload_n 0, 1) := by decide +kernel
theorem dX12_tell_1 : decode cX12_tell 1 = .ok (.iconst 0, 1) := by decide +kernel
theorem dX12_tell_2 : decode cX12_tell 2 = .ok (.putfield 92, 3) := by decide +kernel
theorem dX12_tell_5 : decode cX12_tell 5 = .ok (.aload_n 0, 1) := by decide +kernel
theorem dX12_tell_6 : decode cX12_tell 6 = .ok (.iload_n 1, 1) := by decide +kernel
theorem dX12_tell_7 : decode cX12_tell 7 = .ok (.invokevirtual 296, 3) := by decide +kernel
theorem dX12_tell_10 : decode cX12_tell 10 = .ok (.ifCond .eq 27, 3) := by decide +kernel
theorem dX12_tell_13 : decode cX12_tell 13 = .ok (.iload_n 2, 1) := by decide +kernel
theorem dX12_tell_14 : decode cX12_tell 14 = .ok (.i2l, 1) := by decide +kernel
theorem dX12_tell_15 : decode cX12_tell 15 = .ok (.lconst 1, 1) := by decide +kernel
theorem dX12_tell_16 : decode cX12_tell 16 = .ok (.ldc2_w 445, 3) := by decide +kernel
theorem dX12_tell_19 : decode cX12_tell 19 = .ok (.invokestatic 97, 3) := by decide +kernel
theorem dX12_tell_22 : decode cX12_tell 22 = .ok (.ifCond .eq 15, 3) := by decide +kernel
theorem dX12_tell_25 : decode cX12_tell 25 = .ok (.iload_n 3, 1) := by decide +kernel
theorem dX12_tell_26 : decode cX12_tell 26 = .ok (.i2l, 1) := by decide +kernel
theorem dX12_tell_27 : decode cX12_tell 27 = .ok (.lconst 0, 1) := by decide +kernel
theorem dX12_tell_28 : decode cX12_tell 28 = .ok (.ldc2_w 260, 3) := by decide +kernel
theorem dX12_tell_31 : decode cX12_tell 31 = .ok (.invokestatic 97, 3) := by decide +kernel
theorem dX12_tell_34 : decode cX12_tell 34 = .ok (.ifCond .ne 6, 3) := by decide +kernel
theorem dX12_tell_37 : decode cX12_tell 37 = .ok (.bipush (-2), 2) := by decide +kernel
theorem dX12_tell_39 : decode cX12_tell 39 = .ok (.ireturn, 1) := by decide +kernel
theorem dX12_tell_40 : decode cX12_tell 40 = .ok (.aload_n 0, 1) := by decide +kernel
theorem dX12_tell_41 : decode cX12_tell 41 = .ok (.getfield 34, 3) := by decide +kernel
theorem dX12_tell_44 : decode cX12_tell 44 = .ok (.iconst 5, 1) := by decide +kernel
theorem dX12_tell_45 : decode cX12_tell 45 = .ok (.iaload, 1) := by decide +kernel
theorem dX12_tell_46 : decode cX12_tell 46 = .ok (.ifCond .le 6, 3) := by decide +kernel
theorem dX12_tell_49 : decode cX12_tell 49 = .ok (.bipush (-5), 2) := by decide +kernel
theorem dX12_tell_51 : decode cX12_tell 51 = .ok (.ireturn, 1) := by decide +kernel
theorem dX12_tell_52 : decode cX12_tell 52 = .ok (.aload_n 0, 1) := by decide +kernel
theorem dX12_tell_53 : decode cX12_tell 53 = .ok (.getfield 43, 3) := by decide +kernel
theorem dX12_tell_56 : decode cX12_tell 56 = .ok (.iconst 4, 1) := by decide +kernel
theorem dX12_tell_57 : decode cX12_tell 57 = .ok (.iload_n 1, 1) := by decide +kernel
theorem dX12_tell_58 : decode cX12_tell 58 = .ok (.imul, 1) := by decide +kernel
theorem dX12_tell_59 : decode cX12_tell 59 = .ok (.iload_n 2, 1) := by decide +kernel
theorem dX12_tell_60 : decode cX12_tell 60 = .ok (.iadd, 1) := by decide +kernel
theorem dX12_tell_61 : decode cX12_tell 61 = .ok (.iaload, 1) := by decide +kernel
theorem dX12_tell_62 : decode cX12_tell 62 = .ok (.istore 4, 2) := by decide +kernel
theorem dX12_tell_64 : decode cX12_tell 64 = .ok (.aload_n 0, 1) := by decide +kernel
theorem dX12_tell_65 : decode cX12_tell 65 = .ok (.getfield 43, 3) := by decide +kernel
theorem dX12_tell_68 : decode cX12_tell 68 = .ok (.iconst 4, 1) := by decide +kernel
theorem dX12_tell_69 : decode cX12_tell 69 = .ok (.iload_n 1, 1) := by decide +kernel
theorem dX12_tell_70 : decode cX12_tell 70 = .ok (.imul, 1) := by decide +kernel
theorem dX12_tell_71 : decode cX12_tell 71 = .ok (.iload_n 2, 1) := by decide +kernel
theorem dX12_tell_72 : decode cX12_tell 72 = .ok (.iadd, 1) := by decide +kernel
theorem dX12_tell_73 : decode cX12_tell 73 = .ok (.iload_n 3, 1) := by decide +kernel
theorem dX12_tell_74 : decode cX12_tell 74 = .ok (.iastore, 1) := by decide +kernel
theorem dX12_tell_75 : decode cX12_tell 75 = .ok (.iload 4, 2) := by decide +kernel
theorem dX12_tell_77 : decode cX12_tell 77 = .ok (.ireturn, 1) := by decide +kernel
theorem dX12_count_0 : decode cX12_count 0 = .ok (.aload_n 0, 1) := by decide +kernel
theorem dX12_count_1 : decode cX12_count 1 = .ok (.iconst 0, 1) := by decide +kernel
theorem dX12_count_2 : decode cX12_count 2 = .ok (.putfield 92, 3) := by decide +kernel
theorem dX12_count_5 : decode cX12_count 5 = .ok (.iload_n 1, 1) := by decide +kernel
theorem dX12_count_6 : decode cX12_count 6 = .ok (.i2l, 1) := by decide +kernel
theorem dX12_count_7 : decode cX12_count 7 = .ok (.lconst 0, 1) := by decide +kernel
theorem dX12_count_8 : decode cX12_count 8 = .ok (.ldc2_w 447, 3) := by decide +kernel
theorem dX12_count_11 : decode cX12_count 11 = .ok (.invokestatic 97, 3) := by decide +kernel
theorem dX12_count_14 : decode cX12_count 14 = .ok (.ifCond .eq 10, 3) := by decide +kernel
theorem dX12_count_17 : decode cX12_count 17 = .ok (.aload_n 0, 1) := by decide +kernel
theorem dX12_count_18 : decode cX12_count 18 = .ok (.getfield 34, 3) := by decide +kernel
theorem dX12_count_21 : decode cX12_count 21 = .ok (.iload_n 1, 1) := by decide +kernel
theorem dX12_count_22 : decode cX12_count 22 = .ok (.iaload, 1) := by decide +kernel
theorem dX12_count_23 : decode cX12_count 23 = .ok (.ireturn, 1) := by decide +kernel
theorem dX12_count_24 : decode cX12_count 24 = .ok (.iconst 0, 1) := by decide +kernel
theorem dX12_count_25 : decode cX12_count 25 = .ok (.istore_n 2, 1) := by decide +kernel
theorem dX12_count_26 : decode cX12_count 26 = .ok (.iload_n 1, 1) := by decide +kernel
theorem dX12_count_27 : decode cX12_count 27 = .ok (.tableswitch 70 6 8 #[25, 32, 37], 25) := by decide +kernel
theorem dX12_count_52 : decode cX12_count 52 = .ok (.aload_n 0, 1) := by decide +kernel
theorem dX12_count_53 : decode cX12_count 53 = .ok (.getfield 31, 3) := by decide +kernel
theorem dX12_count_56 : decode cX12_count 56 = .ok (.iconst 0, 1) := by decide +kernel
theorem dX12_count_57 : decode cX12_count 57 = .ok (.iaload, 1) := by decide +kernel
theorem dX12_count_58 : decode cX12_count 58 = .ok (.ireturn, 1) := by decide +kernel
theorem dX12_count_59 : decode cX12_count 59 = .ok (.aload_n 0, 1) := by decide +kernel
theorem dX12_count_60 : decode cX12_count 60 = .ok (.getfield 109, 3) := by decide +kernel
theorem dX12_count_63 : decode cX12_count 63 = .ok (.ireturn, 1) := by decide +kernel
theorem dX12_count_64 : decode cX12_count 64 = .ok (.iconst 0, 1) := by decide +kernel
theorem dX12_count_65 : decode cX12_count 65 = .ok (.istore_n 3, 1) := by decide +kernel
theorem dX12_count_66 : decode cX12_count 66 = .ok (.iload_n 3, 1) := by decide +kernel
theorem dX12_count_67 : decode cX12_count 67 = .ok (.iconst 4, 1) := by decide +kernel
theorem dX12_count_68 : decode cX12_count 68 = .ok (.if_icmp .ge 27, 3) := by decide +kernel
theorem dX12_count_71 : decode cX12_count 71 = .ok (.iload_n 2, 1) := by decide +kernel
theorem dX12_count_72 : decode cX12_count 72 = .ok (.aload_n 0, 1) := by decide +kernel
theorem dX12_count_73 : decode cX12_count 73 = .ok (.getfield 7, 3) := by decide +kernel
theorem dX12_count_76 : decode cX12_count 76 = .ok (.iload_n 3, 1) := by decide +kernel
theorem dX12_count_77 : decode cX12_count 77 = .ok (.iaload, 1) := by decide +kernel
theorem dX12_count_78 : decode cX12_count 78 = .ok (.iconst (-1), 1) := by decide +kernel
theorem dX12_count_79 : decode cX12_count 79 = .ok (.if_icmp .ne 7, 3) := by decide +kernel
theorem dX12_count_82 : decode cX12_count 82 = .ok (.iconst 0, 1) := by decide +kernel
theorem dX12_count_83 : decode cX12_count 83 = .ok (.goto 4, 3) := by decide +kernel
theorem dX12_count_86 : decode cX12_count 86 = .ok (.iconst 1, 1) := by decide +kernel
theorem dX12_count_87 : decode cX12_count 87 = .ok (.iadd, 1) := by decide +kernel
theorem dX12_count_88 : decode cX12_count 88 = .ok (.istore_n 2, 1) := by decide +kernel
theorem dX12_count_89 : decode cX12_count 89 = .ok (.iinc 3 1, 3) := by decide +kernel
theorem dX12_count_92 : decode cX12_count 92 = .ok (.goto (-26), 3) := by decide +kernel
theorem dX12_count_95 : decode cX12_count 95 = .ok (.iload_n 2, 1) := by decide +kernel
theorem dX12_count_96 : decode cX12_count 96 = .ok (.ireturn, 1) := by decide +kernel
theorem dX12_count_97 : decode cX12_count 97 = .ok (.iconst (-1), 1) := by decide +kernel
theorem dX12_count_98 : decode cX12_count 98 = .ok (.ireturn, 1) := by decide +kernel
theorem dX12_image_0 : decode cX12_image 0 = .ok (.aload_n 0, 1) := by decide +kernel
theorem dX12_image_1 : decode cX12_image 1 = .ok (.iconst 0, 1) := by decide +kernel
theorem dX12_image_2 : decode cX12_image 2 = .ok (.putfield 92, 3) := by decide +kernel
theorem dX12_image_5 : decode cX12_image 5 = .ok (.iload_n 1, 1) := by decide +kernel
theorem dX12_image_6 : decode cX12_image 6 = .ok (.i2l, 1) := by decide +kernel
theorem dX12_image_7 : decode cX12_image 7 = .ok (.lconst 0, 1) := by decide +kernel
theorem dX12_image_8 : decode cX12_image 8 = .ok (.ldc2_w 445, 3) := by decide +kernel
theorem dX12_image_11 : decode cX12_image 11 = .ok (.invokestatic 97, 3) := by decide +kernel
theorem dX12_image_14 : decode cX12_image 14 = .ok (.ifCond .ne 6, 3) := by decide +kernel
theorem dX12_image_17 : decode cX12_image 17 = .ok (.bipush (-2), 2) := by decide +kernel
theorem dX12_image_19 : decode cX12_image 19 = .ok (.ireturn, 1) := by decide +kernel
theorem dX12_image_20 : decode cX12_image 20 = .ok (.aload_n 0, 1) := by decide +kernel
theorem dX12_image_21 : decode cX12_image 21 = .ok (.iconst 0, 1) := by decide +kernel
theorem dX12_image_22 : decode cX12_image 22 = .ok (.iconst 1, 1) := by decide +kernel
theorem dX12_image_23 : decode cX12_image 23 = .ok (.iload_n 1, 1) := by decide +kernel
theorem dX12_image_24 : decode cX12_image 24 = .ok (.iadd, 1) := by decide +kernel
theorem dX12_image_25 : decode cX12_image 25 = .ok (.invokevirtual 253, 3) := by decide +kernel
theorem dX12_image_28 : decode cX12_image 28 = .ok (.aload_n 0, 1) := by decide +kernel
theorem dX12_image_29 : decode cX12_image 29 = .ok (.getfield 52, 3) := by decide +kernel
theorem dX12_image_32 : decode cX12_image 32 = .ok (.iload_n 1, 1) := by decide +kernel
theorem dX12_image_33 : decode cX12_image 33 = .ok (.iconst 1, 1) := by decide +kernel
theorem dX12_image_34 : decode cX12_image 34 = .ok (.bastore, 1) := by decide +kernel
theorem dX12_image_35 : decode cX12_image 35 = .ok (.iconst 0, 1) := by decide +kernel
theorem dX12_image_36 : decode cX12_image 36 = .ok (.ireturn, 1) := by decide +kernel
theorem dX12_back_0 : decode cX12_back 0 = .ok (.aload_n 0, 1) := by decide +kernel
theorem dX12_back_1 : decode cX12_back 1 = .ok (.iconst 0, 1) := by decide +kernel
theorem dX12_back_2 : decode cX12_back 2 = .ok (.putfield 92, 3) := by decide +kernel
theorem dX12_back_5 : decode cX12_back 5 = .ok (.iload_n 1, 1) := by decide +kernel
theorem dX12_back_6 : decode cX12_back 6 = .ok (.i2l, 1) := by decide +kernel
theorem dX12_back_7 : decode cX12_back 7 = .ok (.lconst 0, 1) := by decide +kernel
theorem dX12_back_8 : decode cX12_back 8 = .ok (.ldc2_w 445, 3) := by decide +kernel
theorem dX12_back_11 : decode cX12_back 11 = .ok (.invokestatic 97, 3) := by decide +kernel
theorem dX12_back_14 : decode cX12_back 14 = .ok (.ifCond .ne 6, 3) := by decide +kernel
theorem dX12_back_17 : decode cX12_back 17 = .ok (.bipush (-2), 2) := by decide +kernel
theorem dX12_back_19 : decode cX12_back 19 = .ok (.ireturn, 1) := by decide +kernel
theorem dX12_back_20 : decode cX12_back 20 = .ok (.aload_n 0, 1) := by decide +kernel
theorem dX12_back_21 : decode cX12_back 21 = .ok (.getfield 52, 3) := by decide +kernel
theorem dX12_back_24 : decode cX12_back 24 = .ok (.iload_n 1, 1) := by decide +kernel
theorem dX12_back_25 : decode cX12_back 25 = .ok (.baload, 1) := by decide +kernel
theorem dX12_back_26 : decode cX12_back 26 = .ok (.ifCond .ne 6, 3) := by decide +kernel
theorem dX12_back_29 : decode cX12_back 29 = .ok (.bipush (-6), 2) := by decide +kernel
theorem dX12_back_31 : decode cX12_back 31 = .ok (.ireturn, 1) := by decide +kernel
theorem dX12_back_32 : decode cX12_back 32 = .ok (.aload_n 0, 1) := by decide +kernel
theorem dX12_back_33 : decode cX12_back 33 = .ok (.iconst 1, 1) := by decide +kernel
theorem dX12_back_34 : decode cX12_back 34 = .ok (.iload_n 1, 1) := by decide +kernel
theorem dX12_back_35 : decode cX12_back 35 = .ok (.iadd, 1) := by decide +kernel
