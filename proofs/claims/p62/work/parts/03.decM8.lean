theorem dX12_line_32 : decode cX12_line 32 = .ok (.aload_n 0, 1) := by decide +kernel
theorem dX12_line_33 : decode cX12_line 33 = .ok (.ldc2_w 217, 3) := by decide +kernel
theorem dX12_line_36 : decode cX12_line 36 = .ok (.invokevirtual 150, 3) := by decide +kernel
theorem dX12_line_39 : decode cX12_line 39 = .ok (.iconst 2, 1) := by decide +kernel
theorem dX12_line_40 : decode cX12_line 40 = .ok (.iconst 4, 1) := by decide +kernel
theorem dX12_line_41 : decode cX12_line 41 = .ok (.invokevirtual 210, 3) := by decide +kernel
theorem dX12_line_44 : decode cX12_line 44 = .ok (.ifCond .eq 57, 3) := by decide +kernel
theorem dX12_line_47 : decode cX12_line 47 = .ok (.iconst 2, 1) := by decide +kernel
theorem dX12_line_48 : decode cX12_line 48 = .ok (.bipush 16, 2) := by decide +kernel
theorem dX12_line_50 : decode cX12_line 50 = .ok (.aload_n 0, 1) := by decide +kernel
theorem dX12_line_51 : decode cX12_line 51 = .ok (.iconst 2, 1) := by decide +kernel
theorem dX12_line_52 : decode cX12_line 52 = .ok (.invokevirtual 174, 3) := by decide +kernel
theorem dX12_line_55 : decode cX12_line 55 = .ok (.iadd, 1) := by decide +kernel
theorem dX12_line_56 : decode cX12_line 56 = .ok (.imul, 1) := by decide +kernel
theorem dX12_line_57 : decode cX12_line 57 = .ok (.istore_n 1, 1) := by decide +kernel
theorem dX12_line_58 : decode cX12_line 58 = .ok (.aload_n 0, 1) := by decide +kernel
theorem dX12_line_59 : decode cX12_line 59 = .ok (.getfield 40, 3) := by decide +kernel
theorem dX12_line_62 : decode cX12_line 62 = .ok (.iload_n 1, 1) := by decide +kernel
theorem dX12_line_63 : decode cX12_line 63 = .ok (.aload_n 0, 1) := by decide +kernel
theorem dX12_line_64 : decode cX12_line 64 = .ok (.invokevirtual 199, 3) := by decide +kernel
theorem dX12_line_67 : decode cX12_line 67 = .ok (.iastore, 1) := by decide +kernel
theorem dX12_line_68 : decode cX12_line 68 = .ok (.aload_n 0, 1) := by decide +kernel
theorem dX12_line_69 : decode cX12_line 69 = .ok (.getfield 40, 3) := by decide +kernel
theorem dX12_line_72 : decode cX12_line 72 = .ok (.iload_n 1, 1) := by decide +kernel
theorem dX12_line_73 : decode cX12_line 73 = .ok (.iconst 1, 1) := by decide +kernel
theorem dX12_line_74 : decode cX12_line 74 = .ok (.iadd, 1) := by decide +kernel
theorem dX12_line_75 : decode cX12_line 75 = .ok (.aload_n 0, 1) := by decide +kernel
theorem dX12_line_76 : decode cX12_line 76 = .ok (.ldc2_w 219, 3) := by decide +kernel
theorem dX12_line_79 : decode cX12_line 79 = .ok (.iconst 0, 1) := by decide +kernel
theorem dX12_line_80 : decode cX12_line 80 = .ok (.bipush 99, 2) := by decide +kernel
theorem dX12_line_82 : decode cX12_line 82 = .ok (.invokevirtual 188, 3) := by decide +kernel
theorem dX12_line_85 : decode cX12_line 85 = .ok (.iastore, 1) := by decide +kernel
theorem dX12_line_86 : decode cX12_line 86 = .ok (.aload_n 0, 1) := by decide +kernel
theorem dX12_line_87 : decode cX12_line 87 = .ok (.iconst 2, 1) := by decide +kernel
theorem dX12_line_88 : decode cX12_line 88 = .ok (.aload_n 0, 1) := by decide +kernel
theorem dX12_line_89 : decode cX12_line 89 = .ok (.iconst 2, 1) := by decide +kernel
theorem dX12_line_90 : decode cX12_line 90 = .ok (.invokevirtual 174, 3) := by decide +kernel
theorem dX12_line_93 : decode cX12_line 93 = .ok (.iconst 1, 1) := by decide +kernel
theorem dX12_line_94 : decode cX12_line 94 = .ok (.iadd, 1) := by decide +kernel
theorem dX12_line_95 : decode cX12_line 95 = .ok (.invokevirtual 195, 3) := by decide +kernel
theorem dX12_line_98 : decode cX12_line 98 = .ok (.goto 124, 3) := by decide +kernel
theorem dX12_line_101 : decode cX12_line 101 = .ok (.aload_n 0, 1) := by decide +kernel
theorem dX12_line_102 : decode cX12_line 102 = .ok (.getfield 144, 3) := by decide +kernel
theorem dX12_line_105 : decode cX12_line 105 = .ok (.ifCond .ne 27, 3) := by decide +kernel
theorem dX12_line_108 : decode cX12_line 108 = .ok (.aload_n 0, 1) := by decide +kernel
theorem dX12_line_109 : decode cX12_line 109 = .ok (.aload_n 0, 1) := by decide +kernel
theorem dX12_line_110 : decode cX12_line 110 = .ok (.ldc2_w 221, 3) := by decide +kernel
theorem dX12_line_113 : decode cX12_line 113 = .ok (.invokevirtual 150, 3) := by decide +kernel
theorem dX12_line_116 : decode cX12_line 116 = .ok (.iconst 3, 1) := by decide +kernel
theorem dX12_line_117 : decode cX12_line 117 = .ok (.bipush 6, 2) := by decide +kernel
theorem dX12_line_119 : decode cX12_line 119 = .ok (.invokevirtual 210, 3) := by decide +kernel
theorem dX12_line_122 : decode cX12_line 122 = .ok (.ifCond .eq 10, 3) := by decide +kernel
theorem dX12_line_125 : decode cX12_line 125 = .ok (.aload_n 0, 1) := by decide +kernel
theorem dX12_line_126 : decode cX12_line 126 = .ok (.invokevirtual 223, 3) := by decide +kernel
theorem dX12_line_129 : decode cX12_line 129 = .ok (.goto 93, 3) := by decide +kernel
theorem dX12_line_132 : decode cX12_line 132 = .ok (.aload_n 0, 1) := by decide +kernel
theorem dX12_line_133 : decode cX12_line 133 = .ok (.getfield 144, 3) := by decide +kernel
theorem dX12_line_136 : decode cX12_line 136 = .ok (.ifCond .ne 74, 3) := by decide +kernel
theorem dX12_line_139 : decode cX12_line 139 = .ok (.aload_n 0, 1) := by decide +kernel
theorem dX12_line_140 : decode cX12_line 140 = .ok (.aload_n 0, 1) := by decide +kernel
theorem dX12_line_141 : decode cX12_line 141 = .ok (.ldc2_w 226, 3) := by decide +kernel
theorem dX12_line_144 : decode cX12_line 144 = .ok (.invokevirtual 150, 3) := by decide +kernel
theorem dX12_line_147 : decode cX12_line 147 = .ok (.iconst 4, 1) := by decide +kernel
theorem dX12_line_148 : decode cX12_line 148 = .ok (.iconst 2, 1) := by decide +kernel
theorem dX12_line_149 : decode cX12_line 149 = .ok (.invokevirtual 210, 3) := by decide +kernel
theorem dX12_line_152 : decode cX12_line 152 = .ok (.ifCond .eq 58, 3) := by decide +kernel
theorem dX12_line_155 : decode cX12_line 155 = .ok (.iconst 2, 1) := by decide +kernel
theorem dX12_line_156 : decode cX12_line 156 = .ok (.bipush 8, 2) := by decide +kernel
theorem dX12_line_158 : decode cX12_line 158 = .ok (.aload_n 0, 1) := by decide +kernel
theorem dX12_line_159 : decode cX12_line 159 = .ok (.iconst 4, 1) := by decide +kernel
theorem dX12_line_160 : decode cX12_line 160 = .ok (.invokevirtual 174, 3) := by decide +kernel
theorem dX12_line_163 : decode cX12_line 163 = .ok (.iadd, 1) := by decide +kernel
theorem dX12_line_164 : decode cX12_line 164 = .ok (.imul, 1) := by decide +kernel
theorem dX12_line_165 : decode cX12_line 165 = .ok (.istore_n 1, 1) := by decide +kernel
theorem dX12_line_166 : decode cX12_line 166 = .ok (.aload_n 0, 1) := by decide +kernel
theorem dX12_line_167 : decode cX12_line 167 = .ok (.getfield 46, 3) := by decide +kernel
theorem dX12_line_170 : decode cX12_line 170 = .ok (.iload_n 1, 1) := by decide +kernel
theorem dX12_line_171 : decode cX12_line 171 = .ok (.aload_n 0, 1) := by decide +kernel
theorem dX12_line_172 : decode cX12_line 172 = .ok (.invokevirtual 199, 3) := by decide +kernel
theorem dX12_line_175 : decode cX12_line 175 = .ok (.iastore, 1) := by decide +kernel
theorem dX12_line_176 : decode cX12_line 176 = .ok (.aload_n 0, 1) := by decide +kernel
theorem dX12_line_177 : decode cX12_line 177 = .ok (.getfield 46, 3) := by decide +kernel
theorem dX12_line_180 : decode cX12_line 180 = .ok (.iload_n 1, 1) := by decide +kernel
theorem dX12_line_181 : decode cX12_line 181 = .ok (.iconst 1, 1) := by decide +kernel
theorem dX12_line_182 : decode cX12_line 182 = .ok (.iadd, 1) := by decide +kernel
theorem dX12_line_183 : decode cX12_line 183 = .ok (.aload_n 0, 1) := by decide +kernel
theorem dX12_line_184 : decode cX12_line 184 = .ok (.ldc2_w 228, 3) := by decide +kernel
theorem dX12_line_187 : decode cX12_line 187 = .ok (.iconst 0, 1) := by decide +kernel
theorem dX12_line_188 : decode cX12_line 188 = .ok (.sipush 999, 3) := by decide +kernel
theorem dX12_line_191 : decode cX12_line 191 = .ok (.invokevirtual 188, 3) := by decide +kernel
theorem dX12_line_194 : decode cX12_line 194 = .ok (.iastore, 1) := by decide +kernel
theorem dX12_line_195 : decode cX12_line 195 = .ok (.aload_n 0, 1) := by decide +kernel
theorem dX12_line_196 : decode cX12_line 196 = .ok (.iconst 4, 1) := by decide +kernel
theorem dX12_line_197 : decode cX12_line 197 = .ok (.aload_n 0, 1) := by decide +kernel
theorem dX12_line_198 : decode cX12_line 198 = .ok (.iconst 4, 1) := by decide +kernel
theorem dX12_line_199 : decode cX12_line 199 = .ok (.invokevirtual 174, 3) := by decide +kernel
theorem dX12_line_202 : decode cX12_line 202 = .ok (.iconst 1, 1) := by decide +kernel
theorem dX12_line_203 : decode cX12_line 203 = .ok (.iadd, 1) := by decide +kernel
theorem dX12_line_204 : decode cX12_line 204 = .ok (.invokevirtual 195, 3) := by decide +kernel
theorem dX12_line_207 : decode cX12_line 207 = .ok (.goto 15, 3) := by decide +kernel
theorem dX12_line_210 : decode cX12_line 210 = .ok (.aload_n 0, 1) := by decide +kernel
theorem dX12_line_211 : decode cX12_line 211 = .ok (.getfield 144, 3) := by decide +kernel
theorem dX12_line_214 : decode cX12_line 214 = .ok (.ifCond .ne 8, 3) := by decide +kernel
theorem dX12_line_217 : decode cX12_line 217 = .ok (.aload_n 0, 1) := by decide +kernel
theorem dX12_line_218 : decode cX12_line 218 = .ok (.iconst 1, 1) := by decide +kernel
theorem dX12_line_219 : decode cX12_line 219 = .ok (.invokevirtual 160, 3) := by decide +kernel
theorem dX12_line_222 : decode cX12_line 222 = .ok (.return_, 1) := by decide +kernel
theorem dX12_clears_0 : decode cX12_clears 0 = .ok (.aload_n 0, 1) := by decide +kernel
theorem dX12_clears_1 : decode cX12_clears 1 = .ok (.getfield 31, 3) := by decide +kernel
theorem dX12_clears_4 : decode cX12_clears 4 = .ok (.iconst 4, 1) := by decide +kernel
theorem dX12_clears_5 : decode cX12_clears 5 = .ok (.iconst 0, 1) := by decide +kernel
theorem dX12_clears_6 : decode cX12_clears 6 = .ok (.iastore, 1) := by decide +kernel
theorem dX12_clears_7 : decode cX12_clears 7 = .ok (.iconst 0, 1) := by decide +kernel
theorem dX12_clears_8 : decode cX12_clears 8 = .ok (.istore_n 1, 1) := by decide +kernel
theorem dX12_clears_9 : decode cX12_clears 9 = .ok (.iload_n 1, 1) := by decide +kernel
theorem dX12_clears_10 : decode cX12_clears 10 = .ok (.bipush 6, 2) := by decide +kernel
theorem dX12_clears_12 : decode cX12_clears 12 = .ok (.if_icmp .ge 15, 3) := by decide +kernel
theorem dX12_clears_15 : decode cX12_clears 15 = .ok (.aload_n 0, 1) := by decide +kernel
theorem dX12_clears_16 : decode cX12_clears 16 = .ok (.iload_n 1, 1) := by decide +kernel
theorem dX12_clears_17 : decode cX12_clears 17 = .ok (.iconst 0, 1) := by decide +kernel
theorem dX12_clears_18 : decode cX12_clears 18 = .ok (.invokevirtual 195, 3) := by decide +kernel
theorem dX12_clears_21 : decode cX12_clears 21 = .ok (.iinc 1 1, 3) := by decide +kernel
theorem dX12_clears_24 : decode cX12_clears 24 = .ok (.goto (-15), 3) := by decide +kernel
theorem dX12_clears_27 : decode cX12_clears 27 = .ok (.return_, 1) := by decide +kernel
theorem dX12_town_0 : decode cX12_town 0 = .ok (.aload_n 0, 1) := by decide +kernel
theorem dX12_town_1 : decode cX12_town 1 = .ok (.iconst 0, 1) := by decide +kernel
theorem dX12_town_2 : decode cX12_town 2 = .ok (.putfield 92, 3) := by decide +kernel
theorem dX12_town_5 : decode cX12_town 5 = .ok (.aload_n 0, 1) := by decide +kernel
theorem dX12_town_6 : decode cX12_town 6 = .ok (.invokevirtual 230, 3) := by decide +kernel
theorem dX12_town_9 : decode cX12_town 9 = .ok (.aload_n 0, 1) := by decide +kernel
theorem dX12_town_10 : decode cX12_town 10 = .ok (.invokevirtual 233, 3) := by decide +kernel
theorem dX12_town_13 : decode cX12_town 13 = .ok (.aload_n 0, 1) := by decide +kernel
theorem dX12_town_14 : decode cX12_town 14 = .ok (.invokevirtual 236, 3) := by decide +kernel
theorem dX12_town_17 : decode cX12_town 17 = .ok (.ifCond .eq 72, 3) := by decide +kernel
theorem dX12_town_20 : decode cX12_town 20 = .ok (.aload_n 0, 1) := by decide +kernel
theorem dX12_town_21 : decode cX12_town 21 = .ok (.getfield 133, 3) := by decide +kernel
theorem dX12_town_24 : decode cX12_town 24 = .ok (.ifCond .eq 65, 3) := by decide +kernel
theorem dX12_town_27 : decode cX12_town 27 = .ok (.aload_n 0, 1) := by decide +kernel
theorem dX12_town_28 : decode cX12_town 28 = .ok (.getfield 31, 3) := by decide +kernel
theorem dX12_town_31 : decode cX12_town 31 = .ok (.iconst 4, 1) := by decide +kernel
theorem dX12_town_32 : decode cX12_town 32 = .ok (.iaload, 1) := by decide +kernel
theorem dX12_town_33 : decode cX12_town 33 = .ok (.ifCond .ne 28, 3) := by decide +kernel
theorem dX12_town_36 : decode cX12_town 36 = .ok (.aload_n 0, 1) := by decide +kernel
theorem dX12_town_37 : decode cX12_town 37 = .ok (.ldc2_w 240, 3) := by decide +kernel
theorem dX12_town_40 : decode cX12_town 40 = .ok (.invokevirtual 163, 3) := by decide +kernel
theorem dX12_town_43 : decode cX12_town 43 = .ok (.aload_n 0, 1) := by decide +kernel
theorem dX12_town_44 : decode cX12_town 44 = .ok (.iconst 0, 1) := by decide +kernel
theorem dX12_town_45 : decode cX12_town 45 = .ok (.aload_n 0, 1) := by decide +kernel
theorem dX12_town_46 : decode cX12_town 46 = .ok (.ldc2_w 242, 3) := by decide +kernel
theorem dX12_town_49 : decode cX12_town 49 = .ok (.iconst 2, 1) := by decide +kernel
theorem dX12_town_50 : decode cX12_town 50 = .ok (.bipush 8, 2) := by decide +kernel
theorem dX12_town_52 : decode cX12_town 52 = .ok (.invokevirtual 188, 3) := by decide +kernel
theorem dX12_town_55 : decode cX12_town 55 = .ok (.invokevirtual 195, 3) := by decide +kernel
theorem dX12_town_58 : decode cX12_town 58 = .ok (.goto 7, 3) := by decide +kernel
theorem dX12_town_61 : decode cX12_town 61 = .ok (.aload_n 0, 1) := by decide +kernel
theorem dX12_town_62 : decode cX12_town 62 = .ok (.invokevirtual 244, 3) := by decide +kernel
theorem dX12_town_65 : decode cX12_town 65 = .ok (.aload_n 0, 1) := by decide +kernel
theorem dX12_town_66 : decode cX12_town 66 = .ok (.invokevirtual 236, 3) := by decide +kernel
theorem dX12_town_69 : decode cX12_town 69 = .ok (.ifCond .eq 7, 3) := by decide +kernel
theorem dX12_town_72 : decode cX12_town 72 = .ok (.aload_n 0, 1) := by decide +kernel
theorem dX12_town_73 : decode cX12_town 73 = .ok (.invokevirtual 247, 3) := by decide +kernel
theorem dX12_town_76 : decode cX12_town 76 = .ok (.aload_n 0, 1) := by decide +kernel
theorem dX12_town_77 : decode cX12_town 77 = .ok (.getfield 31, 3) := by decide +kernel
theorem dX12_town_80 : decode cX12_town 80 = .ok (.iconst 4, 1) := by decide +kernel
theorem dX12_town_81 : decode cX12_town 81 = .ok (.dup2, 1) := by decide +kernel
theorem dX12_town_82 : decode cX12_town 82 = .ok (.iaload, 1) := by decide +kernel
theorem dX12_town_83 : decode cX12_town 83 = .ok (.iconst 1, 1) := by decide +kernel
theorem dX12_town_84 : decode cX12_town 84 = .ok (.iadd, 1) := by decide +kernel
theorem dX12_town_85 : decode cX12_town 85 = .ok (.iastore, 1) := by decide +kernel
theorem dX12_town_86 : decode cX12_town 86 = .ok (.goto (-73), 3) := by decide +kernel
theorem dX12_town_89 : decode cX12_town 89 = .ok (.aload_n 0, 1) := by decide +kernel
theorem dX12_town_90 : decode cX12_town 90 = .ok (.invokevirtual 250, 3) := by decide +kernel
theorem dX12_town_93 : decode cX12_town 93 = .ok (.aload_n 0, 1) := by decide +kernel
theorem dX12_town_94 : decode cX12_town 94 = .ok (.getfield 144, 3) := by decide +kernel
theorem dX12_town_97 : decode cX12_town 97 = .ok (.ifCond .eq 6, 3) := by decide +kernel
theorem dX12_town_100 : decode cX12_town 100 = .ok (.bipush (-4), 2) := by decide +kernel
theorem dX12_town_102 : decode cX12_town 102 = .ok (.ireturn, 1) := by decide +kernel
theorem dX12_town_103 : decode cX12_town 103 = .ok (.aload_n 0, 1) := by decide +kernel
theorem dX12_town_104 : decode cX12_town 104 = .ok (.iconst 4, 1) := by decide +kernel
theorem dX12_town_105 : decode cX12_town 105 = .ok (.iconst 0, 1) := by decide +kernel
theorem dX12_town_106 : decode cX12_town 106 = .ok (.invokevirtual 253, 3) := by decide +kernel
theorem dX12_town_109 : decode cX12_town 109 = .ok (.aload_n 0, 1) := by decide +kernel
theorem dX12_town_110 : decode cX12_town 110 = .ok (.getfield 31, 3) := by decide +kernel
theorem dX12_town_113 : decode cX12_town 113 = .ok (.iconst 0, 1) := by decide +kernel
theorem dX12_town_114 : decode cX12_town 114 = .ok (.iaload, 1) := by decide +kernel
theorem dX12_town_115 : decode cX12_town 115 = .ok (.ireturn, 1) := by decide +kernel
theorem dX12_copyRow_0 : decode cX12_copyRow 0 = .ok (.iconst 0, 1) := by decide +kernel
theorem dX12_copyRow_1 : decode cX12_copyRow 1 = .ok (.istore 4, 2) := by decide +kernel
theorem dX12_copyRow_3 : decode cX12_copyRow 3 = .ok (.iload 4, 2) := by decide +kernel
theorem dX12_copyRow_5 : decode cX12_copyRow 5 = .ok (.iload_n 1, 1) := by decide +kernel
theorem dX12_copyRow_6 : decode cX12_copyRow 6 = .ok (.if_icmp .ge 25, 3) := by decide +kernel
theorem dX12_copyRow_9 : decode cX12_copyRow 9 = .ok (.aload_n 0, 1) := by decide +kernel
theorem dX12_copyRow_10 : decode cX12_copyRow 10 = .ok (.iload_n 1, 1) := by decide +kernel
theorem dX12_copyRow_11 : decode cX12_copyRow 11 = .ok (.iload_n 3, 1) := by decide +kernel
theorem dX12_copyRow_12 : decode cX12_copyRow 12 = .ok (.imul, 1) := by decide +kernel
theorem dX12_copyRow_13 : decode cX12_copyRow 13 = .ok (.iload 4, 2) := by decide +kernel
theorem dX12_copyRow_15 : decode cX12_copyRow 15 = .ok (.iadd, 1) := by decide +kernel
theorem dX12_copyRow_16 : decode cX12_copyRow 16 = .ok (.aload_n 0, 1) := by decide +kernel
theorem dX12_copyRow_17 : decode cX12_copyRow 17 = .ok (.iload_n 1, 1) := by decide +kernel
theorem dX12_copyRow_18 : decode cX12_copyRow 18 = .ok (.iload_n 2, 1) := by decide +kernel
theorem dX12_copyRow_19 : decode cX12_copyRow 19 = .ok (.imul, 1) := by decide +kernel
theorem dX12_copyRow_20 : decode cX12_copyRow 20 = .ok (.iload 4, 2) := by decide +kernel
theorem dX12_copyRow_22 : decode cX12_copyRow 22 = .ok (.iadd, 1) := by decide +kernel
theorem dX12_copyRow_23 : decode cX12_copyRow 23 = .ok (.iaload, 1) := by decide +kernel
theorem dX12_copyRow_24 : decode cX12_copyRow 24 = .ok (.iastore, 1) := by decide +kernel
theorem dX12_copyRow_25 : decode cX12_copyRow 25 = .ok (.iinc 4 1, 3) := by decide +kernel
theorem dX12_copyRow_28 : decode cX12_copyRow 28 = .ok (.goto (-25), 3) := by decide +kernel
theorem dX12_copyRow_31 : decode cX12_copyRow 31 = .ok (.return_, 1) := by decide +kernel
theorem dX12_copyTown_0 : decode cX12_copyTown 0 = .ok (.aload_n 0, 1) := by decide +kernel
theorem dX12_copyTown_1 : decode cX12_copyTown 1 = .ok (.getfield 31, 3) := by decide +kernel
theorem dX12_copyTown_4 : decode cX12_copyTown 4 = .ok (.iconst 1, 1) := by decide +kernel
theorem dX12_copyTown_5 : decode cX12_copyTown 5 = .ok (.iload_n 1, 1) := by decide +kernel
theorem dX12_copyTown_6 : decode cX12_copyTown 6 = .ok (.iload_n 2, 1) := by decide +kernel
theorem dX12_copyTown_7 : decode cX12_copyTown 7 = .ok (.invokestatic 256, 3) := by decide +kernel
theorem dX12_copyTown_10 : decode cX12_copyTown 10 = .ok (.aload_n 0, 1) := by decide +kernel
theorem dX12_copyTown_11 : decode cX12_copyTown 11 = .ok (.getfield 34, 3) := by decide +kernel
theorem dX12_copyTown_14 : decode cX12_copyTown 14 = .ok (.bipush 6, 2) := by decide +kernel
theorem dX12_copyTown_16 : decode cX12_copyTown 16 = .ok (.iload_n 1, 1) := by decide +kernel
theorem dX12_copyTown_17 : decode cX12_copyTown 17 = .ok (.iload_n 2, 1) := by decide +kernel
theorem dX12_copyTown_18 : decode cX12_copyTown 18 = .ok (.invokestatic 256, 3) := by decide +kernel
theorem dX12_copyTown_21 : decode cX12_copyTown 21 = .ok (.aload_n 0, 1) := by decide +kernel
theorem dX12_copyTown_22 : decode cX12_copyTown 22 = .ok (.getfield 37, 3) := by decide +kernel
theorem dX12_copyTown_25 : decode cX12_copyTown 25 = .ok (.bipush 50, 2) := by decide +kernel
theorem dX12_copyTown_27 : decode cX12_copyTown 27 = .ok (.iload_n 1, 1) := by decide +kernel
theorem dX12_copyTown_28 : decode cX12_copyTown 28 = .ok (.iload_n 2, 1) := by decide +kernel
theorem dX12_copyTown_29 : decode cX12_copyTown 29 = .ok (.invokestatic 256, 3) := by decide +kernel
theorem dX12_copyTown_32 : decode cX12_copyTown 32 = .ok (.aload_n 0, 1) := by decide +kernel
theorem dX12_copyTown_33 : decode cX12_copyTown 33 = .ok (.getfield 40, 3) := by decide +kernel
theorem dX12_copyTown_36 : decode cX12_copyTown 36 = .ok (.bipush 8, 2) := by decide +kernel
theorem dX12_copyTown_38 : decode cX12_copyTown 38 = .ok (.iload_n 1, 1) := by decide +kernel
theorem dX12_copyTown_39 : decode cX12_copyTown 39 = .ok (.iload_n 2, 1) := by decide +kernel
theorem dX12_copyTown_40 : decode cX12_copyTown 40 = .ok (.invokestatic 256, 3) := by decide +kernel
theorem dX12_copyTown_43 : decode cX12_copyTown 43 = .ok (.aload_n 0, 1) := by decide +kernel
theorem dX12_copyTown_44 : decode cX12_copyTown 44 = .ok (.getfield 43, 3) := by decide +kernel
theorem dX12_copyTown_47 : decode cX12_copyTown 47 = .ok (.bipush 24, 2) := by decide +kernel
theorem dX12_copyTown_49 : decode cX12_copyTown 49 = .ok (.iload_n 1, 1) := by decide +kernel
theorem dX12_copyTown_50 : decode cX12_copyTown 50 = .ok (.iload_n 2, 1) := by decide +kernel
theorem dX12_copyTown_51 : decode cX12_copyTown 51 = .ok (.invokestatic 256, 3) := by decide +kernel
theorem dX12_copyTown_54 : decode cX12_copyTown 54 = .ok (.aload_n 0, 1) := by decide +kernel
theorem dX12_copyTown_55 : decode cX12_copyTown 55 = .ok (.getfield 46, 3) := by decide +kernel
theorem dX12_copyTown_58 : decode cX12_copyTown 58 = .ok (.iconst 4, 1) := by decide +kernel
theorem dX12_copyTown_59 : decode cX12_copyTown 59 = .ok (.iload_n 1, 1) := by decide +kernel
theorem dX12_copyTown_60 : decode cX12_copyTown 60 = .ok (.iload_n 2, 1) := by decide +kernel
theorem dX12_copyTown_61 : decode cX12_copyTown 61 = .ok (.invokestatic 256, 3) := by decide +kernel
theorem dX12_copyTown_64 : decode cX12_copyTown 64 = .ok (.aload_n 0, 1) := by decide +kernel
theorem dX12_copyTown_65 : decode cX12_copyTown 65 = .ok (.getfield 49, 3) := by decide +kernel
theorem dX12_copyTown_68 : decode cX12_copyTown 68 = .ok (.bipush 120, 2) := by decide +kernel
theorem dX12_copyTown_70 : decode cX12_copyTown 70 = .ok (.iload_n 1, 1) := by decide +kernel
theorem dX12_copyTown_71 : decode cX12_copyTown 71 = .ok (.iload_n 2, 1) := by decide +kernel
theorem dX12_copyTown_72 : decode cX12_copyTown 72 = .ok (.invokestatic 256, 3) := by decide +kernel
theorem dX12_copyTown_75 : decode cX12_copyTown 75 = .ok (.return_, 1) := by decide +kernel
theorem dX12_isTown_0 : decode cX12_isTown 0 = .ok (.aload_n 0, 1) := by decide +kernel
theorem dX12_isTown_1 : decode cX12_isTown 1 = .ok (.getfield 31, 3) := by decide +kernel
theorem dX12_isTown_4 : decode cX12_isTown 4 = .ok (.iconst 0, 1) := by decide +kernel
theorem dX12_isTown_5 : decode cX12_isTown 5 = .ok (.iaload, 1) := by decide +kernel
theorem dX12_isTown_6 : decode cX12_isTown 6 = .ok (.ifCond .le 7, 3) := by decide +kernel
theorem dX12_isTown_9 : decode cX12_isTown 9 = .ok (.iconst 1, 1) := by decide +kernel
theorem dX12_isTown_10 : decode cX12_isTown 10 = .ok (.goto 4, 3) := by decide +kernel
theorem dX12_isTown_13 : decode cX12_isTown 13 = .ok (.iconst 0, 1) := by decide +kernel
theorem dX12_isTown_14 : decode cX12_isTown 14 = .ok (.ireturn, 1) := by decide +kernel
theorem dX12_isStreet_0 : decode cX12_isStreet 0 = .ok (.lload_n 1, 1) := by decide +kernel
theorem dX12_isStreet_1 : decode cX12_isStreet 1 = .ok (.lconst 0, 1) := by decide +kernel
theorem dX12_isStreet_2 : decode cX12_isStreet 2 = .ok (.aload_n 0, 1) := by decide +kernel
theorem dX12_isStreet_3 : decode cX12_isStreet 3 = .ok (.getfield 34, 3) := by decide +kernel
theorem dX12_isStreet_6 : decode cX12_isStreet 6 = .ok (.iconst 0, 1) := by decide +kernel
theorem dX12_isStreet_7 : decode cX12_isStreet 7 = .ok (.iaload, 1) := by decide +kernel
theorem dX12_isStreet_8 : decode cX12_isStreet 8 = .ok (.i2l, 1) := by decide +kernel
theorem dX12_isStreet_9 : decode cX12_isStreet 9 = .ok (.lconst 1, 1) := by decide +kernel
theorem dX12_isStreet_10 : decode cX12_isStreet 10 = .ok (.lsub, 1) := by decide +kernel
theorem dX12_isStreet_11 : decode cX12_isStreet 11 = .ok (.invokestatic 97, 3) := by decide +kernel
theorem dX12_isStreet_14 : decode cX12_isStreet 14 = .ok (.ireturn, 1) := by decide +kernel
theorem dX12_isLane_0 : decode cX12_isLane 0 = .ok (.iload_n 1, 1) := by decide +kernel
theorem dX12_isLane_1 : decode cX12_isLane 1 = .ok (.i2l, 1) := by decide +kernel
theorem dX12_isLane_2 : decode cX12_isLane 2 = .ok (.lconst 0, 1) := by decide +kernel
theorem dX12_isLane_3 : decode cX12_isLane 3 = .ok (.aload_n 0, 1) := by decide +kernel
theorem dX12_isLane_4 : decode cX12_isLane 4 = .ok (.getfield 34, 3) := by decide +kernel
theorem dX12_isLane_7 : decode cX12_isLane 7 = .ok (.iconst 1, 1) := by decide +kernel
theorem dX12_isLane_8 : decode cX12_isLane 8 = .ok (.iaload, 1) := by decide +kernel
theorem dX12_isLane_9 : decode cX12_isLane 9 = .ok (.iconst 1, 1) := by decide +kernel
theorem dX12_isLane_10 : decode cX12_isLane 10 = .ok (.isub, 1) := by decide +kernel
theorem dX12_isLane_11 : decode cX12_isLane 11 = .ok (.i2l, 1) := by decide +kernel
theorem dX12_isLane_12 : decode cX12_isLane 12 = .ok (.invokestatic 97, 3) := by decide +kernel
theorem dX12_isLane_15 : decode cX12_isLane 15 = .ok (.ireturn, 1) := by decide +kernel
theorem dX12_isGate_0 : decode cX12_isGate 0 = .ok (.iload_n 1, 1) := by decide +kernel
theorem dX12_isGate_1 : decode cX12_isGate 1 = .ok (.i2l, 1) := by decide +kernel
theorem dX12_isGate_2 : decode cX12_isGate 2 = .ok (.lconst 0, 1) := by decide +kernel
theorem dX12_isGate_3 : decode cX12_isGate 3 = .ok (.aload_n 0, 1) := by decide +kernel
theorem dX12_isGate_4 : decode cX12_isGate 4 = .ok (.getfield 34, 3) := by decide +kernel
theorem dX12_isGate_7 : decode cX12_isGate 7 = .ok (.iconst 2, 1) := by decide +kernel
theorem dX12_isGate_8 : decode cX12_isGate 8 = .ok (.iaload, 1) := by decide +kernel
theorem dX12_isGate_9 : decode cX12_isGate 9 = .ok (.iconst 1, 1) := by decide +kernel
theorem dX12_isGate_10 : decode cX12_isGate 10 = .ok (.isub, 1) := by decide +kernel
theorem dX12_isGate_11 : decode cX12_isGate 11 = .ok (.i2l, 1) := by decide +kernel
theorem dX12_isGate_12 : decode cX12_isGate 12 = .ok (.invokestatic 97, 3) := by decide +kernel
theorem dX12_isGate_15 : decode cX12_isGate 15 = .ok (.ireturn, 1) := by decide +kernel
theorem dX12_isHouse_0 : decode cX12_isHouse 0 = .ok (.iload_n 1, 1) := by decide +kernel
theorem dX12_isHouse_1 : decode cX12_isHouse 1 = .ok (.i2l, 1) := by decide +kernel
theorem dX12_isHouse_2 : decode cX12_isHouse 2 = .ok (.lconst 0, 1) := by decide +kernel
theorem dX12_isHouse_3 : decode cX12_isHouse 3 = .ok (.aload_n 0, 1) := by decide +kernel
theorem dX12_isHouse_4 : decode cX12_isHouse 4 = .ok (.getfield 34, 3) := by decide +kernel
theorem dX12_isHouse_7 : decode cX12_isHouse 7 = .ok (.iconst 3, 1) := by decide +kernel
theorem dX12_isHouse_8 : decode cX12_isHouse 8 = .ok (.iaload, 1) := by decide +kernel
theorem dX12_isHouse_9 : decode cX12_isHouse 9 = .ok (.iconst 1, 1) := by decide +kernel
theorem dX12_isHouse_10 : decode cX12_isHouse 10 = .ok (.isub, 1) := by decide +kernel
theorem dX12_isHouse_11 : decode cX12_isHouse 11 = .ok (.i2l, 1) := by decide +kernel
theorem dX12_isHouse_12 : decode cX12_isHouse 12 = .ok (.invokestatic 97, 3) := by decide +kernel
theorem dX12_isHouse_15 : decode cX12_isHouse 15 = .ok (.ireturn, 1) := by decide +kernel
theorem dX12_isMinute_0 : decode cX12_isMinute 0 = .ok (.iload_n 0, 1) := by decide +kernel
theorem dX12_isMinute_1 : decode cX12_isMinute 1 = .ok (.i2l, 1) := by decide +kernel
theorem dX12_isMinute_2 : decode cX12_isMinute 2 = .ok (.lconst 0, 1) := by decide +kernel
theorem dX12_isMinute_3 : decode cX12_isMinute 3 = .ok (.ldc2_w 260, 3) := by decide +kernel
theorem dX12_isMinute_6 : decode cX12_isMinute 6 = .ok (.invokestatic 97, 3) := by decide +kernel
theorem dX12_isMinute_9 : decode cX12_isMinute 9 = .ok (.ireturn, 1) := by decide +kernel
theorem dX12_isHalf_0 : decode cX12_isHalf 0 = .ok (.iload_n 0, 1) := by decide +kernel
theorem dX12_isHalf_1 : decode cX12_isHalf 1 = .ok (.i2l, 1) := by decide +kernel
theorem dX12_isHalf_2 : decode cX12_isHalf 2 = .ok (.lconst 0, 1) := by decide +kernel
theorem dX12_isHalf_3 : decode cX12_isHalf 3 = .ok (.lconst 1, 1) := by decide +kernel
theorem dX12_isHalf_4 : decode cX12_isHalf 4 = .ok (.invokestatic 97, 3) := by decide +kernel
theorem dX12_isHalf_7 : decode cX12_isHalf 7 = .ok (.ireturn, 1) := by decide +kernel
theorem dX12_isBit_0 : decode cX12_isBit 0 = .ok (.iload_n 0, 1) := by decide +kernel
theorem dX12_isBit_1 : decode cX12_isBit 1 = .ok (.iload_n 1, 1) := by decide +kernel
theorem dX12_isBit_2 : decode cX12_isBit 2 = .ok (.ishr, 1) := by decide +kernel
theorem dX12_isBit_3 : decode cX12_isBit 3 = .ok (.iconst 1, 1) := by decide +kernel
theorem dX12_isBit_4 : decode cX12_isBit 4 = .ok (.iand, 1) := by decide +kernel
theorem dX12_isBit_5 : decode cX12_isBit 5 = .ok (.iconst 1, 1) := by decide +kernel
theorem dX12_isBit_6 : decode cX12_isBit 6 = .ok (.if_icmp .ne 7, 3) := by decide +kernel
theorem dX12_isBit_9 : decode cX12_isBit 9 = .ok (.iconst 1, 1) := by decide +kernel
theorem dX12_isBit_10 : decode cX12_isBit 10 = .ok (.goto 4, 3) := by decide +kernel
theorem dX12_isBit_13 : decode cX12_isBit 13 = .ok (.iconst 0, 1) := by decide +kernel
theorem dX12_isBit_14 : decode cX12_isBit 14 = .ok (.ireturn, 1) := by decide +kernel
theorem dX12_sizeOf_0 : decode cX12_sizeOf 0 = .ok (.iconst 0, 1) := by decide +kernel
theorem dX12_sizeOf_1 : decode cX12_sizeOf 1 = .ok (.istore_n 1, 1) := by decide +kernel
theorem dX12_sizeOf_2 : decode cX12_sizeOf 2 = .ok (.iload_n 0, 1) := by decide +kernel
theorem dX12_sizeOf_3 : decode cX12_sizeOf 3 = .ok (.istore_n 2, 1) := by decide +kernel
theorem dX12_sizeOf_4 : decode cX12_sizeOf 4 = .ok (.iload_n 2, 1) := by decide +kernel
theorem dX12_sizeOf_5 : decode cX12_sizeOf 5 = .ok (.ifCond .eq 15, 3) := by decide +kernel
theorem dX12_sizeOf_8 : decode cX12_sizeOf 8 = .ok (.iinc 1 1, 3) := by decide +kernel
theorem dX12_sizeOf_11 : decode cX12_sizeOf 11 = .ok (.iload_n 2, 1) := by decide +kernel
theorem dX12_sizeOf_12 : decode cX12_sizeOf 12 = .ok (.iload_n 2, 1) := by decide +kernel
theorem dX12_sizeOf_13 : decode cX12_sizeOf 13 = .ok (.iconst 1, 1) := by decide +kernel
theorem dX12_sizeOf_14 : decode cX12_sizeOf 14 = .ok (.isub, 1) := by decide +kernel
theorem dX12_sizeOf_15 : decode cX12_sizeOf 15 = .ok (.iand, 1) := by decide +kernel
theorem dX12_sizeOf_16 : decode cX12_sizeOf 16 = .ok (.istore_n 2, 1) := by decide +kernel
theorem dX12_sizeOf_17 : decode cX12_sizeOf 17 = .ok (.goto (-13), 3) := by decide +kernel
theorem dX12_sizeOf_20 : decode cX12_sizeOf 20 = .ok (.iload_n 1, 1) := by decide +kernel
theorem dX12_sizeOf_21 : decode cX12_sizeOf 21 = .ok (.ireturn, 1) := by decide +kernel
theorem dX12_lays_0 : decode cX12_lays 0 = .ok (.aload_n 0, 1) := by decide +kernel
theorem dX12_lays_1 : decode cX12_lays 1 = .ok (.iconst 0, 1) := by decide +kernel
theorem dX12_lays_2 : decode cX12_lays 2 = .ok (.putfield 262, 3) := by decide +kernel
theorem dX12_lays_5 : decode cX12_lays 5 = .ok (.iconst 0, 1) := by decide +kernel
theorem dX12_lays_6 : decode cX12_lays 6 = .ok (.istore_n 1, 1) := by decide +kernel
theorem dX12_lays_7 : decode cX12_lays 7 = .ok (.iload_n 1, 1) := by decide +kernel
theorem dX12_lays_8 : decode cX12_lays 8 = .ok (.aload_n 0, 1) := by decide +kernel
theorem dX12_lays_9 : decode cX12_lays 9 = .ok (.getfield 34, 3) := by decide +kernel
theorem dX12_lays_12 : decode cX12_lays 12 = .ok (.iconst 1, 1) := by decide +kernel
theorem dX12_lays_13 : decode cX12_lays 13 = .ok (.iaload, 1) := by decide +kernel
theorem dX12_lays_14 : decode cX12_lays 14 = .ok (.if_icmp .ge 38, 3) := by decide +kernel
theorem dX12_lays_17 : decode cX12_lays 17 = .ok (.aload_n 0, 1) := by decide +kernel
theorem dX12_lays_18 : decode cX12_lays 18 = .ok (.dup, 1) := by decide +kernel
theorem dX12_lays_19 : decode cX12_lays 19 = .ok (.getfield 262, 3) := by decide +kernel
theorem dX12_lays_22 : decode cX12_lays 22 = .ok (.aload_n 0, 1) := by decide +kernel
theorem dX12_lays_23 : decode cX12_lays 23 = .ok (.getfield 37, 3) := by decide +kernel
theorem dX12_lays_26 : decode cX12_lays 26 = .ok (.iconst 5, 1) := by decide +kernel
theorem dX12_lays_27 : decode cX12_lays 27 = .ok (.iload_n 1, 1) := by decide +kernel
theorem dX12_lays_28 : decode cX12_lays 28 = .ok (.imul, 1) := by decide +kernel
theorem dX12_lays_29 : decode cX12_lays 29 = .ok (.iconst 4, 1) := by decide +kernel
theorem dX12_lays_30 : decode cX12_lays 30 = .ok (.iadd, 1) := by decide +kernel
theorem dX12_lays_31 : decode cX12_lays 31 = .ok (.iaload, 1) := by decide +kernel
theorem dX12_lays_32 : decode cX12_lays 32 = .ok (.ifCond .ne 9, 3) := by decide +kernel
theorem dX12_lays_35 : decode cX12_lays 35 = .ok (.iconst 1, 1) := by decide +kernel
theorem dX12_lays_36 : decode cX12_lays 36 = .ok (.iload_n 1, 1) := by decide +kernel
theorem dX12_lays_37 : decode cX12_lays 37 = .ok (.ishl, 1) := by decide +kernel
theorem dX12_lays_38 : decode cX12_lays 38 = .ok (.goto 4, 3) := by decide +kernel
theorem dX12_lays_41 : decode cX12_lays 41 = .ok (.iconst 0, 1) := by decide +kernel
theorem dX12_lays_42 : decode cX12_lays 42 = .ok (.ior, 1) := by decide +kernel
theorem dX12_lays_43 : decode cX12_lays 43 = .ok (.putfield 262, 3) := by decide +kernel
theorem dX12_lays_46 : decode cX12_lays 46 = .ok (.iinc 1 1, 3) := by decide +kernel
theorem dX12_lays_49 : decode cX12_lays 49 = .ok (.goto (-42), 3) := by decide +kernel
theorem dX12_lays_52 : decode cX12_lays 52 = .ok (.iconst 0, 1) := by decide +kernel
theorem dX12_lays_53 : decode cX12_lays 53 = .ok (.istore_n 1, 1) := by decide +kernel
theorem dX12_lays_54 : decode cX12_lays 54 = .ok (.iload_n 1, 1) := by decide +kernel
theorem dX12_lays_55 : decode cX12_lays 55 = .ok (.aload_n 0, 1) := by decide +kernel
theorem dX12_lays_56 : decode cX12_lays 56 = .ok (.getfield 34, 3) := by decide +kernel
theorem dX12_lays_59 : decode cX12_lays 59 = .ok (.iconst 2, 1) := by decide +kernel
theorem dX12_lays_60 : decode cX12_lays 60 = .ok (.iaload, 1) := by decide +kernel
theorem dX12_lays_61 : decode cX12_lays 61 = .ok (.if_icmp .ge 25, 3) := by decide +kernel
theorem dX12_lays_64 : decode cX12_lays 64 = .ok (.aload_n 0, 1) := by decide +kernel
theorem dX12_lays_65 : decode cX12_lays 65 = .ok (.getfield 56, 3) := by decide +kernel
theorem dX12_lays_68 : decode cX12_lays 68 = .ok (.iload_n 1, 1) := by decide +kernel
theorem dX12_lays_69 : decode cX12_lays 69 = .ok (.aload_n 0, 1) := by decide +kernel
theorem dX12_lays_70 : decode cX12_lays 70 = .ok (.getfield 40, 3) := by decide +kernel
theorem dX12_lays_73 : decode cX12_lays 73 = .ok (.iconst 2, 1) := by decide +kernel
theorem dX12_lays_74 : decode cX12_lays 74 = .ok (.iload_n 1, 1) := by decide +kernel
theorem dX12_lays_75 : decode cX12_lays 75 = .ok (.imul, 1) := by decide +kernel
theorem dX12_lays_76 : decode cX12_lays 76 = .ok (.iconst 1, 1) := by decide +kernel
theorem dX12_lays_77 : decode cX12_lays 77 = .ok (.iadd, 1) := by decide +kernel
theorem dX12_lays_78 : decode cX12_lays 78 = .ok (.iaload, 1) := by decide +kernel
theorem dX12_lays_79 : decode cX12_lays 79 = .ok (.iastore, 1) := by decide +kernel
theorem dX12_lays_80 : decode cX12_lays 80 = .ok (.iinc 1 1, 3) := by decide +kernel
theorem dX12_lays_83 : decode cX12_lays 83 = .ok (.goto (-29), 3) := by decide +kernel
theorem dX12_lays_86 : decode cX12_lays 86 = .ok (.iconst 0, 1) := by decide +kernel
theorem dX12_lays_87 : decode cX12_lays 87 = .ok (.istore_n 1, 1) := by decide +kernel
theorem dX12_lays_88 : decode cX12_lays 88 = .ok (.iload_n 1, 1) := by decide +kernel
theorem dX12_lays_89 : decode cX12_lays 89 = .ok (.aload_n 0, 1) := by decide +kernel
theorem dX12_lays_90 : decode cX12_lays 90 = .ok (.getfield 34, 3) := by decide +kernel
theorem dX12_lays_93 : decode cX12_lays 93 = .ok (.iconst 5, 1) := by decide +kernel
theorem dX12_lays_94 : decode cX12_lays 94 = .ok (.iaload, 1) := by decide +kernel
theorem dX12_lays_95 : decode cX12_lays 95 = .ok (.if_icmp .ge 83, 3) := by decide +kernel
theorem dX12_lays_98 : decode cX12_lays 98 = .ok (.aload_n 0, 1) := by decide +kernel
theorem dX12_lays_99 : decode cX12_lays 99 = .ok (.getfield 49, 3) := by decide +kernel
theorem dX12_lays_102 : decode cX12_lays 102 = .ok (.iconst 3, 1) := by decide +kernel
theorem dX12_lays_103 : decode cX12_lays 103 = .ok (.iload_n 1, 1) := by decide +kernel
theorem dX12_lays_104 : decode cX12_lays 104 = .ok (.imul, 1) := by decide +kernel
theorem dX12_lays_105 : decode cX12_lays 105 = .ok (.iconst 1, 1) := by decide +kernel
theorem dX12_lays_106 : decode cX12_lays 106 = .ok (.iadd, 1) := by decide +kernel
theorem dX12_lays_107 : decode cX12_lays 107 = .ok (.iaload, 1) := by decide +kernel
theorem dX12_lays_108 : decode cX12_lays 108 = .ok (.istore_n 2, 1) := by decide +kernel
theorem dX12_lays_109 : decode cX12_lays 109 = .ok (.aload_n 0, 1) := by decide +kernel
theorem dX12_lays_110 : decode cX12_lays 110 = .ok (.getfield 49, 3) := by decide +kernel
theorem dX12_lays_113 : decode cX12_lays 113 = .ok (.iconst 3, 1) := by decide +kernel
theorem dX12_lays_114 : decode cX12_lays 114 = .ok (.iload_n 1, 1) := by decide +kernel
theorem dX12_lays_115 : decode cX12_lays 115 = .ok (.imul, 1) := by decide +kernel
theorem dX12_lays_116 : decode cX12_lays 116 = .ok (.iconst 2, 1) := by decide +kernel
theorem dX12_lays_117 : decode cX12_lays 117 = .ok (.iadd, 1) := by decide +kernel
theorem dX12_lays_118 : decode cX12_lays 118 = .ok (.iaload, 1) := by decide +kernel
theorem dX12_lays_119 : decode cX12_lays 119 = .ok (.istore_n 3, 1) := by decide +kernel
theorem dX12_lays_120 : decode cX12_lays 120 = .ok (.aload_n 0, 1) := by decide +kernel
theorem dX12_lays_121 : decode cX12_lays 121 = .ok (.getfield 49, 3) := by decide +kernel
theorem dX12_lays_124 : decode cX12_lays 124 = .ok (.iconst 3, 1) := by decide +kernel
theorem dX12_lays_125 : decode cX12_lays 125 = .ok (.iload_n 1, 1) := by decide +kernel
theorem dX12_lays_126 : decode cX12_lays 126 = .ok (.imul, 1) := by decide +kernel
theorem dX12_lays_127 : decode cX12_lays 127 = .ok (.iaload, 1) := by decide +kernel
theorem dX12_lays_128 : decode cX12_lays 128 = .ok (.iconst 1, 1) := by decide +kernel
theorem dX12_lays_129 : decode cX12_lays 129 = .ok (.if_icmp .ne 13, 3) := by decide +kernel
theorem dX12_lays_132 : decode cX12_lays 132 = .ok (.aload_n 0, 1) := by decide +kernel
theorem dX12_lays_133 : decode cX12_lays 133 = .ok (.getfield 56, 3) := by decide +kernel
theorem dX12_lays_136 : decode cX12_lays 136 = .ok (.iload_n 2, 1) := by decide +kernel
theorem dX12_lays_137 : decode cX12_lays 137 = .ok (.iload_n 3, 1) := by decide +kernel
theorem dX12_lays_138 : decode cX12_lays 138 = .ok (.iastore, 1) := by decide +kernel
theorem dX12_lays_139 : decode cX12_lays 139 = .ok (.goto 33, 3) := by decide +kernel
theorem dX12_lays_142 : decode cX12_lays 142 = .ok (.aload_n 0, 1) := by decide +kernel
theorem dX12_lays_143 : decode cX12_lays 143 = .ok (.iload_n 3, 1) := by decide +kernel
theorem dX12_lays_144 : decode cX12_lays 144 = .ok (.iconst 1, 1) := by decide +kernel
theorem dX12_lays_145 : decode cX12_lays 145 = .ok (.if_icmp .ne 16, 3) := by decide +kernel
theorem dX12_lays_148 : decode cX12_lays 148 = .ok (.aload_n 0, 1) := by decide +kernel
theorem dX12_lays_149 : decode cX12_lays 149 = .ok (.getfield 262, 3) := by decide +kernel
theorem dX12_lays_152 : decode cX12_lays 152 = .ok (.iconst 1, 1) := by decide +kernel
theorem dX12_lays_153 : decode cX12_lays 153 = .ok (.iload_n 2, 1) := by decide +kernel
theorem dX12_lays_154 : decode cX12_lays 154 = .ok (.ishl, 1) := by decide +kernel
theorem dX12_lays_155 : decode cX12_lays 155 = .ok (.iconst (-1), 1) := by decide +kernel
theorem dX12_lays_156 : decode cX12_lays 156 = .ok (.ixor, 1) := by decide +kernel
theorem dX12_lays_157 : decode cX12_lays 157 = .ok (.iand, 1) := by decide +kernel
theorem dX12_lays_158 : decode cX12_lays 158 = .ok (.goto 11, 3) := by decide +kernel
theorem dX12_lays_161 : decode cX12_lays 161 = .ok (.aload_n 0, 1) := by decide +kernel
theorem dX12_lays_162 : decode cX12_lays 162 = .ok (.getfield 262, 3) := by decide +kernel
theorem dX12_lays_165 : decode cX12_lays 165 = .ok (.iconst 1, 1) := by decide +kernel
theorem dX12_lays_166 : decode cX12_lays 166 = .ok (.iload_n 2, 1) := by decide +kernel
theorem dX12_lays_167 : decode cX12_lays 167 = .ok (.ishl, 1) := by decide +kernel
theorem dX12_lays_168 : decode cX12_lays 168 = .ok (.ior, 1) := by decide +kernel
theorem dX12_lays_169 : decode cX12_lays 169 = .ok (.putfield 262, 3) := by decide +kernel
theorem dX12_lays_172 : decode cX12_lays 172 = .ok (.iinc 1 1, 3) := by decide +kernel
theorem dX12_lays_175 : decode cX12_lays 175 = .ok (.goto (-87), 3) := by decide +kernel
theorem dX12_lays_178 : decode cX12_lays 178 = .ok (.return_, 1) := by decide +kernel
theorem dX12_takes__0 : decode cX12_takes_ 0 = .ok (.aload_n 0, 1) := by decide +kernel
theorem dX12_takes__1 : decode cX12_takes_ 1 = .ok (.getfield 37, 3) := by decide +kernel
theorem dX12_takes__4 : decode cX12_takes_ 4 = .ok (.iconst 5, 1) := by decide +kernel
theorem dX12_takes__5 : decode cX12_takes_ 5 = .ok (.iload_n 1, 1) := by decide +kernel
theorem dX12_takes__6 : decode cX12_takes_ 6 = .ok (.imul, 1) := by decide +kernel
theorem dX12_takes__7 : decode cX12_takes_ 7 = .ok (.iconst 2, 1) := by decide +kernel
theorem dX12_takes__8 : decode cX12_takes_ 8 = .ok (.iadd, 1) := by decide +kernel
theorem dX12_takes__9 : decode cX12_takes_ 9 = .ok (.iaload, 1) := by decide +kernel
theorem dX12_takes__10 : decode cX12_takes_ 10 = .ok (.iload_n 2, 1) := by decide +kernel
theorem dX12_takes__11 : decode cX12_takes_ 11 = .ok (.iload_n 1, 1) := by decide +kernel
theorem dX12_takes__12 : decode cX12_takes_ 12 = .ok (.invokestatic 265, 3) := by decide +kernel
theorem dX12_takes__15 : decode cX12_takes_ 15 = .ok (.ifCond .eq 8, 3) := by decide +kernel
theorem dX12_takes__18 : decode cX12_takes_ 18 = .ok (.bipush 10, 2) := by decide +kernel
theorem dX12_takes__20 : decode cX12_takes_ 20 = .ok (.goto 4, 3) := by decide +kernel
theorem dX12_takes__23 : decode cX12_takes_ 23 = .ok (.iconst 0, 1) := by decide +kernel
theorem dX12_takes__24 : decode cX12_takes_ 24 = .ok (.iadd, 1) := by decide +kernel
theorem dX12_takes__25 : decode cX12_takes_ 25 = .ok (.ireturn, 1) := by decide +kernel
theorem dX12_lowers_0 : decode cX12_lowers 0 = .ok (.iconst 0, 1) := by decide +kernel
theorem dX12_lowers_1 : decode cX12_lowers 1 = .ok (.istore_n 3, 1) := by decide +kernel
theorem dX12_lowers_2 : decode cX12_lowers 2 = .ok (.iload_n 3, 1) := by decide +kernel
theorem dX12_lowers_3 : decode cX12_lowers 3 = .ok (.aload_n 0, 1) := by decide +kernel
theorem dX12_lowers_4 : decode cX12_lowers 4 = .ok (.getfield 34, 3) := by decide +kernel
theorem dX12_lowers_7 : decode cX12_lowers 7 = .ok (.iconst 0, 1) := by decide +kernel
theorem dX12_lowers_8 : decode cX12_lowers 8 = .ok (.iaload, 1) := by decide +kernel
theorem dX12_lowers_9 : decode cX12_lowers 9 = .ok (.if_icmp .ge 159, 3) := by decide +kernel
theorem dX12_lowers_12 : decode cX12_lowers 12 = .ok (.iconst 0, 1) := by decide +kernel
theorem dX12_lowers_13 : decode cX12_lowers 13 = .ok (.istore 4, 2) := by decide +kernel
theorem dX12_lowers_15 : decode cX12_lowers 15 = .ok (.iload 4, 2) := by decide +kernel
theorem dX12_lowers_17 : decode cX12_lowers 17 = .ok (.aload_n 0, 1) := by decide +kernel
theorem dX12_lowers_18 : decode cX12_lowers 18 = .ok (.getfield 34, 3) := by decide +kernel
theorem dX12_lowers_21 : decode cX12_lowers 21 = .ok (.iconst 1, 1) := by decide +kernel
theorem dX12_lowers_22 : decode cX12_lowers 22 = .ok (.iaload, 1) := by decide +kernel
theorem dX12_lowers_23 : decode cX12_lowers 23 = .ok (.if_icmp .ge 139, 3) := by decide +kernel
theorem dX12_lowers_26 : decode cX12_lowers 26 = .ok (.iload_n 1, 1) := by decide +kernel
theorem dX12_lowers_27 : decode cX12_lowers 27 = .ok (.iload 4, 2) := by decide +kernel
theorem dX12_lowers_29 : decode cX12_lowers 29 = .ok (.invokestatic 265, 3) := by decide +kernel
theorem dX12_lowers_32 : decode cX12_lowers 32 = .ok (.ifCond .ne 6, 3) := by decide +kernel
theorem dX12_lowers_35 : decode cX12_lowers 35 = .ok (.goto 121, 3) := by decide +kernel
theorem dX12_lowers_38 : decode cX12_lowers 38 = .ok (.aload_n 0, 1) := by decide +kernel
theorem dX12_lowers_39 : decode cX12_lowers 39 = .ok (.getfield 37, 3) := by decide +kernel
theorem dX12_lowers_42 : decode cX12_lowers 42 = .ok (.iconst 5, 1) := by decide +kernel
theorem dX12_lowers_43 : decode cX12_lowers 43 = .ok (.iload 4, 2) := by decide +kernel
theorem dX12_lowers_45 : decode cX12_lowers 45 = .ok (.imul, 1) := by decide +kernel
theorem dX12_lowers_46 : decode cX12_lowers 46 = .ok (.iaload, 1) := by decide +kernel
theorem dX12_lowers_47 : decode cX12_lowers 47 = .ok (.istore 5, 2) := by decide +kernel
theorem dX12_lowers_49 : decode cX12_lowers 49 = .ok (.aload_n 0, 1) := by decide +kernel
theorem dX12_lowers_50 : decode cX12_lowers 50 = .ok (.getfield 37, 3) := by decide +kernel
theorem dX12_lowers_53 : decode cX12_lowers 53 = .ok (.iconst 5, 1) := by decide +kernel
theorem dX12_lowers_54 : decode cX12_lowers 54 = .ok (.iload 4, 2) := by decide +kernel
theorem dX12_lowers_56 : decode cX12_lowers 56 = .ok (.imul, 1) := by decide +kernel
theorem dX12_lowers_57 : decode cX12_lowers 57 = .ok (.iconst 1, 1) := by decide +kernel
theorem dX12_lowers_58 : decode cX12_lowers 58 = .ok (.iadd, 1) := by decide +kernel
theorem dX12_lowers_59 : decode cX12_lowers 59 = .ok (.iaload, 1) := by decide +kernel
theorem dX12_lowers_60 : decode cX12_lowers 60 = .ok (.istore 6, 2) := by decide +kernel
theorem dX12_lowers_62 : decode cX12_lowers 62 = .ok (.aload_n 0, 1) := by decide +kernel
theorem dX12_lowers_63 : decode cX12_lowers 63 = .ok (.getfield 59, 3) := by decide +kernel
theorem dX12_lowers_66 : decode cX12_lowers 66 = .ok (.iload 5, 2) := by decide +kernel
theorem dX12_lowers_68 : decode cX12_lowers 68 = .ok (.iaload, 1) := by decide +kernel
theorem dX12_lowers_69 : decode cX12_lowers 69 = .ok (.aload_n 0, 1) := by decide +kernel
theorem dX12_lowers_70 : decode cX12_lowers 70 = .ok (.iload 4, 2) := by decide +kernel
theorem dX12_lowers_72 : decode cX12_lowers 72 = .ok (.iload_n 2, 1) := by decide +kernel
theorem dX12_lowers_73 : decode cX12_lowers 73 = .ok (.invokevirtual 269, 3) := by decide +kernel
theorem dX12_lowers_76 : decode cX12_lowers 76 = .ok (.iadd, 1) := by decide +kernel
theorem dX12_lowers_77 : decode cX12_lowers 77 = .ok (.aload_n 0, 1) := by decide +kernel
theorem dX12_lowers_78 : decode cX12_lowers 78 = .ok (.getfield 59, 3) := by decide +kernel
theorem dX12_lowers_81 : decode cX12_lowers 81 = .ok (.iload 6, 2) := by decide +kernel
theorem dX12_lowers_83 : decode cX12_lowers 83 = .ok (.iaload, 1) := by decide +kernel
theorem dX12_lowers_84 : decode cX12_lowers 84 = .ok (.if_icmp .ge 25, 3) := by decide +kernel
theorem dX12_lowers_87 : decode cX12_lowers 87 = .ok (.aload_n 0, 1) := by decide +kernel
theorem dX12_lowers_88 : decode cX12_lowers 88 = .ok (.getfield 59, 3) := by decide +kernel
theorem dX12_lowers_91 : decode cX12_lowers 91 = .ok (.iload 6, 2) := by decide +kernel
theorem dX12_lowers_93 : decode cX12_lowers 93 = .ok (.aload_n 0, 1) := by decide +kernel
theorem dX12_lowers_94 : decode cX12_lowers 94 = .ok (.getfield 59, 3) := by decide +kernel
theorem dX12_lowers_97 : decode cX12_lowers 97 = .ok (.iload 5, 2) := by decide +kernel
theorem dX12_lowers_99 : decode cX12_lowers 99 = .ok (.iaload, 1) := by decide +kernel
theorem dX12_lowers_100 : decode cX12_lowers 100 = .ok (.aload_n 0, 1) := by decide +kernel
theorem dX12_lowers_101 : decode cX12_lowers 101 = .ok (.iload 4, 2) := by decide +kernel
theorem dX12_lowers_103 : decode cX12_lowers 103 = .ok (.iload_n 2, 1) := by decide +kernel
theorem dX12_lowers_104 : decode cX12_lowers 104 = .ok (.invokevirtual 269, 3) := by decide +kernel
theorem dX12_lowers_107 : decode cX12_lowers 107 = .ok (.iadd, 1) := by decide +kernel
theorem dX12_lowers_108 : decode cX12_lowers 108 = .ok (.iastore, 1) := by decide +kernel
theorem dX12_lowers_109 : decode cX12_lowers 109 = .ok (.aload_n 0, 1) := by decide +kernel
theorem dX12_lowers_110 : decode cX12_lowers 110 = .ok (.getfield 59, 3) := by decide +kernel
theorem dX12_lowers_113 : decode cX12_lowers 113 = .ok (.iload 6, 2) := by decide +kernel
theorem dX12_lowers_115 : decode cX12_lowers 115 = .ok (.iaload, 1) := by decide +kernel
theorem dX12_lowers_116 : decode cX12_lowers 116 = .ok (.aload_n 0, 1) := by decide +kernel
theorem dX12_lowers_117 : decode cX12_lowers 117 = .ok (.iload 4, 2) := by decide +kernel
theorem dX12_lowers_119 : decode cX12_lowers 119 = .ok (.iload_n 2, 1) := by decide +kernel
theorem dX12_lowers_120 : decode cX12_lowers 120 = .ok (.invokevirtual 269, 3) := by decide +kernel
theorem dX12_lowers_123 : decode cX12_lowers 123 = .ok (.iadd, 1) := by decide +kernel
theorem dX12_lowers_124 : decode cX12_lowers 124 = .ok (.aload_n 0, 1) := by decide +kernel
theorem dX12_lowers_125 : decode cX12_lowers 125 = .ok (.getfield 59, 3) := by decide +kernel
theorem dX12_lowers_128 : decode cX12_lowers 128 = .ok (.iload 5, 2) := by decide +kernel
theorem dX12_lowers_130 : decode cX12_lowers 130 = .ok (.iaload, 1) := by decide +kernel
theorem dX12_lowers_131 : decode cX12_lowers 131 = .ok (.if_icmp .ge 25, 3) := by decide +kernel
theorem dX12_lowers_134 : decode cX12_lowers 134 = .ok (.aload_n 0, 1) := by decide +kernel
theorem dX12_lowers_135 : decode cX12_lowers 135 = .ok (.getfield 59, 3) := by decide +kernel
theorem dX12_lowers_138 : decode cX12_lowers 138 = .ok (.iload 5, 2) := by decide +kernel
theorem dX12_lowers_140 : decode cX12_lowers 140 = .ok (.aload_n 0, 1) := by decide +kernel
theorem dX12_lowers_141 : decode cX12_lowers 141 = .ok (.getfield 59, 3) := by decide +kernel
theorem dX12_lowers_144 : decode cX12_lowers 144 = .ok (.iload 6, 2) := by decide +kernel
theorem dX12_lowers_146 : decode cX12_lowers 146 = .ok (.iaload, 1) := by decide +kernel
theorem dX12_lowers_147 : decode cX12_lowers 147 = .ok (.aload_n 0, 1) := by decide +kernel
theorem dX12_lowers_148 : decode cX12_lowers 148 = .ok (.iload 4, 2) := by decide +kernel
theorem dX12_lowers_150 : decode cX12_lowers 150 = .ok (.iload_n 2, 1) := by decide +kernel
theorem dX12_lowers_151 : decode cX12_lowers 151 = .ok (.invokevirtual 269, 3) := by decide +kernel
theorem dX12_lowers_154 : decode cX12_lowers 154 = .ok (.iadd, 1) := by decide +kernel
theorem dX12_lowers_155 : decode cX12_lowers 155 = .ok (.iastore, 1) := by decide +kernel
theorem dX12_lowers_156 : decode cX12_lowers 156 = .ok (.iinc 4 1, 3) := by decide +kernel
theorem dX12_lowers_159 : decode cX12_lowers 159 = .ok (.goto (-144), 3) := by decide +kernel
theorem dX12_lowers_162 : decode cX12_lowers 162 = .ok (.iinc 3 1, 3) := by decide +kernel
theorem dX12_lowers_165 : decode cX12_lowers 165 = .ok (.goto (-163), 3) := by decide +kernel
theorem dX12_lowers_168 : decode cX12_lowers 168 = .ok (.return_, 1) := by decide +kernel
theorem dX12_begins__0 : decode cX12_begins_ 0 = .ok (.iload_n 2, 1) := by decide +kernel
theorem dX12_begins__1 : decode cX12_begins_ 1 = .ok (.aload_n 0, 1) := by decide +kernel
theorem dX12_begins__2 : decode cX12_begins_ 2 = .ok (.getfield 59, 3) := by decide +kernel
theorem dX12_begins__5 : decode cX12_begins_ 5 = .ok (.iload_n 1, 1) := by decide +kernel
theorem dX12_begins__6 : decode cX12_begins_ 6 = .ok (.iaload, 1) := by decide +kernel
theorem dX12_begins__7 : decode cX12_begins_ 7 = .ok (.if_icmp .ge 10, 3) := by decide +kernel
theorem dX12_begins__10 : decode cX12_begins_ 10 = .ok (.aload_n 0, 1) := by decide +kernel
theorem dX12_begins__11 : decode cX12_begins_ 11 = .ok (.getfield 59, 3) := by decide +kernel
theorem dX12_begins__14 : decode cX12_begins_ 14 = .ok (.iload_n 1, 1) := by decide +kernel
theorem dX12_begins__15 : decode cX12_begins_ 15 = .ok (.iload_n 2, 1) := by decide +kernel
theorem dX12_begins__16 : decode cX12_begins_ 16 = .ok (.iastore, 1) := by decide +kernel
theorem dX12_begins__17 : decode cX12_begins_ 17 = .ok (.return_, 1) := by decide +kernel
theorem dX12_never_0 : decode cX12_never 0 = .ok (.iconst 0, 1) := by decide +kernel
theorem dX12_never_1 : decode cX12_never 1 = .ok (.istore_n 1, 1) := by decide +kernel
theorem dX12_never_2 : decode cX12_never 2 = .ok (.iload_n 1, 1) := by decide +kernel
theorem dX12_never_3 : decode cX12_never 3 = .ok (.bipush 8, 2) := by decide +kernel
theorem dX12_never_5 : decode cX12_never 5 = .ok (.if_icmp .ge 17, 3) := by decide +kernel
theorem dX12_never_8 : decode cX12_never 8 = .ok (.aload_n 0, 1) := by decide +kernel
theorem dX12_never_9 : decode cX12_never 9 = .ok (.getfield 59, 3) := by decide +kernel
theorem dX12_never_12 : decode cX12_never 12 = .ok (.iload_n 1, 1) := by decide +kernel
theorem dX12_never_13 : decode cX12_never 13 = .ok (.ldc 142, 2) := by decide +kernel
theorem dX12_never_15 : decode cX12_never 15 = .ok (.iastore, 1) := by decide +kernel
theorem dX12_never_16 : decode cX12_never 16 = .ok (.iinc 1 1, 3) := by decide +kernel
theorem dX12_never_19 : decode cX12_never 19 = .ok (.goto (-17), 3) := by decide +kernel
theorem dX12_never_22 : decode cX12_never 22 = .ok (.return_, 1) := by decide +kernel
theorem dX12_darkens_0 : decode cX12_darkens 0 = .ok (.aload_n 0, 1) := by decide +kernel
theorem dX12_darkens_1 : decode cX12_darkens 1 = .ok (.invokevirtual 271, 3) := by decide +kernel
theorem dX12_darkens_4 : decode cX12_darkens 4 = .ok (.iconst 0, 1) := by decide +kernel
theorem dX12_darkens_5 : decode cX12_darkens 5 = .ok (.istore_n 3, 1) := by decide +kernel
theorem dX12_darkens_6 : decode cX12_darkens 6 = .ok (.iload_n 3, 1) := by decide +kernel
theorem dX12_darkens_7 : decode cX12_darkens 7 = .ok (.aload_n 0, 1) := by decide +kernel
theorem dX12_darkens_8 : decode cX12_darkens 8 = .ok (.getfield 34, 3) := by decide +kernel
theorem dX12_darkens_11 : decode cX12_darkens 11 = .ok (.iconst 2, 1) := by decide +kernel
theorem dX12_darkens_12 : decode cX12_darkens 12 = .ok (.iaload, 1) := by decide +kernel
theorem dX12_darkens_13 : decode cX12_darkens 13 = .ok (.if_icmp .ge 27, 3) := by decide +kernel
theorem dX12_darkens_16 : decode cX12_darkens 16 = .ok (.aload_n 0, 1) := by decide +kernel
theorem dX12_darkens_17 : decode cX12_darkens 17 = .ok (.aload_n 0, 1) := by decide +kernel
theorem dX12_darkens_18 : decode cX12_darkens 18 = .ok (.getfield 40, 3) := by decide +kernel
theorem dX12_darkens_21 : decode cX12_darkens 21 = .ok (.iconst 2, 1) := by decide +kernel
theorem dX12_darkens_22 : decode cX12_darkens 22 = .ok (.iload_n 3, 1) := by decide +kernel
theorem dX12_darkens_23 : decode cX12_darkens 23 = .ok (.imul, 1) := by decide +kernel
theorem dX12_darkens_24 : decode cX12_darkens 24 = .ok (.iaload, 1) := by decide +kernel
theorem dX12_darkens_25 : decode cX12_darkens 25 = .ok (.aload_n 0, 1) := by decide +kernel
theorem dX12_darkens_26 : decode cX12_darkens 26 = .ok (.getfield 56, 3) := by decide +kernel
theorem dX12_darkens_29 : decode cX12_darkens 29 = .ok (.iload_n 3, 1) := by decide +kernel
theorem dX12_darkens_30 : decode cX12_darkens 30 = .ok (.iaload, 1) := by decide +kernel
theorem dX12_darkens_31 : decode cX12_darkens 31 = .ok (.invokevirtual 274, 3) := by decide +kernel
theorem dX12_darkens_34 : decode cX12_darkens 34 = .ok (.iinc 3 1, 3) := by decide +kernel
theorem dX12_darkens_37 : decode cX12_darkens 37 = .ok (.goto (-31), 3) := by decide +kernel
theorem dX12_darkens_40 : decode cX12_darkens 40 = .ok (.aload_n 0, 1) := by decide +kernel
theorem dX12_darkens_41 : decode cX12_darkens 41 = .ok (.iload_n 1, 1) := by decide +kernel
theorem dX12_darkens_42 : decode cX12_darkens 42 = .ok (.iload_n 2, 1) := by decide +kernel
theorem dX12_darkens_43 : decode cX12_darkens 43 = .ok (.invokevirtual 276, 3) := by decide +kernel
theorem dX12_darkens_46 : decode cX12_darkens 46 = .ok (.return_, 1) := by decide +kernel
theorem dX12_comesTo_0 : decode cX12_comesTo 0 = .ok (.aload_n 0, 1) := by decide +kernel
theorem dX12_comesTo_1 : decode cX12_comesTo 1 = .ok (.getfield 59, 3) := by decide +kernel
theorem dX12_comesTo_4 : decode cX12_comesTo 4 = .ok (.iload_n 1, 1) := by decide +kernel
theorem dX12_comesTo_5 : decode cX12_comesTo 5 = .ok (.iaload, 1) := by decide +kernel
theorem dX12_comesTo_6 : decode cX12_comesTo 6 = .ok (.ldc 142, 2) := by decide +kernel
theorem dX12_comesTo_8 : decode cX12_comesTo 8 = .ok (.if_icmp .lt 7, 3) := by decide +kernel
theorem dX12_comesTo_11 : decode cX12_comesTo 11 = .ok (.iconst (-1), 1) := by decide +kernel
theorem dX12_comesTo_12 : decode cX12_comesTo 12 = .ok (.goto 9, 3) := by decide +kernel
theorem dX12_comesTo_15 : decode cX12_comesTo 15 = .ok (.aload_n 0, 1) := by decide +kernel
theorem dX12_comesTo_16 : decode cX12_comesTo 16 = .ok (.getfield 59, 3) := by decide +kernel
theorem dX12_comesTo_19 : decode cX12_comesTo 19 = .ok (.iload_n 1, 1) := by decide +kernel
theorem dX12_comesTo_20 : decode cX12_comesTo 20 = .ok (.iaload, 1) := by decide +kernel
theorem dX12_comesTo_21 : decode cX12_comesTo 21 = .ok (.ireturn, 1) := by decide +kernel
theorem dX12_now_0 : decode cX12_now 0 = .ok (.aload_n 0, 1) := by decide +kernel
theorem dX12_now_1 : decode cX12_now 1 = .ok (.invokevirtual 279, 3) := by decide +kernel
theorem dX12_now_4 : decode cX12_now 4 = .ok (.aload_n 0, 1) := by decide +kernel
theorem dX12_now_5 : decode cX12_now 5 = .ok (.aload_n 0, 1) := by decide +kernel
theorem dX12_now_6 : decode cX12_now 6 = .ok (.getfield 262, 3) := by decide +kernel
theorem dX12_now_9 : decode cX12_now 9 = .ok (.iconst 0, 1) := by decide +kernel
theorem dX12_now_10 : decode cX12_now 10 = .ok (.invokevirtual 282, 3) := by decide +kernel
theorem dX12_now_13 : decode cX12_now 13 = .ok (.return_, 1) := by decide +kernel
theorem dX12_lane_0 : decode cX12_lane 0 = .ok (.aload_n 0, 1) := by decide +kernel
theorem dX12_lane_1 : decode cX12_lane 1 = .ok (.iconst 0, 1) := by decide +kernel
theorem dX12_lane_2 : decode cX12_lane 2 = .ok (.putfield 92, 3) := by decide +kernel
theorem dX12_lane_5 : decode cX12_lane 5 = .ok (.aload_n 0, 1) := by decide +kernel
theorem dX12_lane_6 : decode cX12_lane 6 = .ok (.iload_n 1, 1) := by decide +kernel
theorem dX12_lane_7 : decode cX12_lane 7 = .ok (.invokevirtual 285, 3) := by decide +kernel
theorem dX12_lane_10 : decode cX12_lane 10 = .ok (.ifCond .eq 15, 3) := by decide +kernel
theorem dX12_lane_13 : decode cX12_lane 13 = .ok (.iload_n 2, 1) := by decide +kernel
theorem dX12_lane_14 : decode cX12_lane 14 = .ok (.i2l, 1) := by decide +kernel
theorem dX12_lane_15 : decode cX12_lane 15 = .ok (.lconst 0, 1) := by decide +kernel
theorem dX12_lane_16 : decode cX12_lane 16 = .ok (.ldc2_w 288, 3) := by decide +kernel
theorem dX12_lane_19 : decode cX12_lane 19 = .ok (.invokestatic 97, 3) := by decide +kernel
theorem dX12_lane_22 : decode cX12_lane 22 = .ok (.ifCond .ne 6, 3) := by decide +kernel
theorem dX12_lane_25 : decode cX12_lane 25 = .ok (.bipush (-2), 2) := by decide +kernel
theorem dX12_lane_27 : decode cX12_lane 27 = .ok (.ireturn, 1) := by decide +kernel
theorem dX12_lane_28 : decode cX12_lane 28 = .ok (.aload_n 0, 1) := by decide +kernel
theorem dX12_lane_29 : decode cX12_lane 29 = .ok (.invokevirtual 279, 3) := by decide +kernel
theorem dX12_lane_32 : decode cX12_lane 32 = .ok (.iload_n 2, 1) := by decide +kernel
theorem dX12_lane_33 : decode cX12_lane 33 = .ok (.iconst 4, 1) := by decide +kernel
theorem dX12_lane_34 : decode cX12_lane 34 = .ok (.if_icmp .ge 16, 3) := by decide +kernel
theorem dX12_lane_37 : decode cX12_lane 37 = .ok (.aload_n 0, 1) := by decide +kernel
theorem dX12_lane_38 : decode cX12_lane 38 = .ok (.getfield 37, 3) := by decide +kernel
theorem dX12_lane_41 : decode cX12_lane 41 = .ok (.iconst 5, 1) := by decide +kernel
theorem dX12_lane_42 : decode cX12_lane 42 = .ok (.iload_n 1, 1) := by decide +kernel
theorem dX12_lane_43 : decode cX12_lane 43 = .ok (.imul, 1) := by decide +kernel
theorem dX12_lane_44 : decode cX12_lane 44 = .ok (.iload_n 2, 1) := by decide +kernel
theorem dX12_lane_45 : decode cX12_lane 45 = .ok (.iadd, 1) := by decide +kernel
theorem dX12_lane_46 : decode cX12_lane 46 = .ok (.iaload, 1) := by decide +kernel
theorem dX12_lane_47 : decode cX12_lane 47 = .ok (.goto 19, 3) := by decide +kernel
theorem dX12_lane_50 : decode cX12_lane 50 = .ok (.aload_n 0, 1) := by decide +kernel
theorem dX12_lane_51 : decode cX12_lane 51 = .ok (.getfield 262, 3) := by decide +kernel
theorem dX12_lane_54 : decode cX12_lane 54 = .ok (.iload_n 1, 1) := by decide +kernel
theorem dX12_lane_55 : decode cX12_lane 55 = .ok (.invokestatic 265, 3) := by decide +kernel
theorem dX12_lane_58 : decode cX12_lane 58 = .ok (.ifCond .eq 7, 3) := by decide +kernel
theorem dX12_lane_61 : decode cX12_lane 61 = .ok (.iconst 0, 1) := by decide +kernel
theorem dX12_lane_62 : decode cX12_lane 62 = .ok (.goto 4, 3) := by decide +kernel
theorem dX12_lane_65 : decode cX12_lane 65 = .ok (.iconst 1, 1) := by decide +kernel
theorem dX12_lane_66 : decode cX12_lane 66 = .ok (.ireturn, 1) := by decide +kernel
theorem dX12_gate_0 : decode cX12_gate 0 = .ok (.aload_n 0, 1) := by decide +kernel
theorem dX12_gate_1 : decode cX12_gate 1 = .ok (.iconst 0, 1) := by decide +kernel
theorem dX12_gate_2 : decode cX12_gate 2 = .ok (.putfield 92, 3) := by decide +kernel
theorem dX12_gate_5 : decode cX12_gate 5 = .ok (.aload_n 0, 1) := by decide +kernel
theorem dX12_gate_6 : decode cX12_gate 6 = .ok (.iload_n 1, 1) := by decide +kernel
theorem dX12_gate_7 : decode cX12_gate 7 = .ok (.invokevirtual 290, 3) := by decide +kernel
theorem dX12_gate_10 : decode cX12_gate 10 = .ok (.ifCond .eq 10, 3) := by decide +kernel
theorem dX12_gate_13 : decode cX12_gate 13 = .ok (.iload_n 2, 1) := by decide +kernel
theorem dX12_gate_14 : decode cX12_gate 14 = .ok (.invokestatic 293, 3) := by decide +kernel
theorem dX12_gate_17 : decode cX12_gate 17 = .ok (.ifCond .ne 6, 3) := by decide +kernel
theorem dX12_gate_20 : decode cX12_gate 20 = .ok (.bipush (-2), 2) := by decide +kernel
theorem dX12_gate_22 : decode cX12_gate 22 = .ok (.ireturn, 1) := by decide +kernel
theorem dX12_gate_23 : decode cX12_gate 23 = .ok (.aload_n 0, 1) := by decide +kernel
theorem dX12_gate_24 : decode cX12_gate 24 = .ok (.invokevirtual 279, 3) := by decide +kernel
theorem dX12_gate_27 : decode cX12_gate 27 = .ok (.iload_n 2, 1) := by decide +kernel
theorem dX12_gate_28 : decode cX12_gate 28 = .ok (.ifCond .ne 14, 3) := by decide +kernel
theorem dX12_gate_31 : decode cX12_gate 31 = .ok (.aload_n 0, 1) := by decide +kernel
theorem dX12_gate_32 : decode cX12_gate 32 = .ok (.getfield 40, 3) := by decide +kernel
theorem dX12_gate_35 : decode cX12_gate 35 = .ok (.iconst 2, 1) := by decide +kernel
theorem dX12_gate_36 : decode cX12_gate 36 = .ok (.iload_n 1, 1) := by decide +kernel
theorem dX12_gate_37 : decode cX12_gate 37 = .ok (.imul, 1) := by decide +kernel
theorem dX12_gate_38 : decode cX12_gate 38 = .ok (.iaload, 1) := by decide +kernel
theorem dX12_gate_39 : decode cX12_gate 39 = .ok (.goto 9, 3) := by decide +kernel
theorem dX12_gate_42 : decode cX12_gate 42 = .ok (.aload_n 0, 1) := by decide +kernel
theorem dX12_gate_43 : decode cX12_gate 43 = .ok (.getfield 56, 3) := by decide +kernel
theorem dX12_gate_46 : decode cX12_gate 46 = .ok (.iload_n 1, 1) := by decide +kernel
theorem dX12_gate_47 : decode cX12_gate 47 = .ok (.iaload, 1) := by decide +kernel
theorem dX12_gate_48 : decode cX12_gate 48 = .ok (.ireturn, 1) := by decide +kernel
theorem dX12_house_0 : decode cX12_house 0 = .ok (.aload_n 0, 1) := by decide +kernel
theorem dX12_house_1 : decode cX12_house 1 = .ok (.iconst 0, 1) := by decide +kernel
theorem dX12_house_2 : decode cX12_house 2 = .ok (.putfield 92, 3) := by decide +kernel
theorem dX12_house_5 : decode cX12_house 5 = .ok (.aload_n 0, 1) := by decide +kernel
theorem dX12_house_6 : decode cX12_house 6 = .ok (.iload_n 1, 1) := by decide +kernel
theorem dX12_house_7 : decode cX12_house 7 = .ok (.invokevirtual 296, 3) := by decide +kernel
theorem dX12_house_10 : decode cX12_house 10 = .ok (.ifCond .eq 28, 3) := by decide +kernel
theorem dX12_house_13 : decode cX12_house 13 = .ok (.iload_n 2, 1) := by decide +kernel
theorem dX12_house_14 : decode cX12_house 14 = .ok (.i2l, 1) := by decide +kernel
theorem dX12_house_15 : decode cX12_house 15 = .ok (.lconst 0, 1) := by decide +kernel
theorem dX12_house_16 : decode cX12_house 16 = .ok (.ldc2_w 95, 3) := by decide +kernel
theorem dX12_house_19 : decode cX12_house 19 = .ok (.invokestatic 97, 3) := by decide +kernel
theorem dX12_house_22 : decode cX12_house 22 = .ok (.ifCond .eq 16, 3) := by decide +kernel
theorem dX12_house_25 : decode cX12_house 25 = .ok (.aload_n 0, 1) := by decide +kernel
theorem dX12_house_26 : decode cX12_house 26 = .ok (.getfield 43, 3) := by decide +kernel
theorem dX12_house_29 : decode cX12_house 29 = .ok (.iconst 4, 1) := by decide +kernel
theorem dX12_house_30 : decode cX12_house 30 = .ok (.iload_n 1, 1) := by decide +kernel
theorem dX12_house_31 : decode cX12_house 31 = .ok (.imul, 1) := by decide +kernel
theorem dX12_house_32 : decode cX12_house 32 = .ok (.iload_n 2, 1) := by decide +kernel
theorem dX12_house_33 : decode cX12_house 33 = .ok (.iadd, 1) := by decide +kernel
theorem dX12_house_34 : decode cX12_house 34 = .ok (.iaload, 1) := by decide +kernel
theorem dX12_house_35 : decode cX12_house 35 = .ok (.goto 5, 3) := by decide +kernel
theorem dX12_house_38 : decode cX12_house 38 = .ok (.bipush (-2), 2) := by decide +kernel
theorem dX12_house_40 : decode cX12_house 40 = .ok (.ireturn, 1) := by decide +kernel
theorem dX12_comes_0 : decode cX12_comes 0 = .ok (.aload_n 0, 1) := by decide +kernel
theorem dX12_comes_1 : decode cX12_comes 1 = .ok (.iconst 0, 1) := by decide +kernel
theorem dX12_comes_2 : decode cX12_comes 2 = .ok (.putfield 92, 3) := by decide +kernel
theorem dX12_comes_5 : decode cX12_comes 5 = .ok (.aload_n 0, 1) := by decide +kernel
theorem dX12_comes_6 : decode cX12_comes 6 = .ok (.iload_n 1, 1) := by decide +kernel
theorem dX12_comes_7 : decode cX12_comes 7 = .ok (.i2l, 1) := by decide +kernel
theorem dX12_comes_8 : decode cX12_comes 8 = .ok (.invokevirtual 299, 3) := by decide +kernel
theorem dX12_comes_11 : decode cX12_comes 11 = .ok (.ifCond .ne 6, 3) := by decide +kernel
theorem dX12_comes_14 : decode cX12_comes 14 = .ok (.bipush (-2), 2) := by decide +kernel
theorem dX12_comes_16 : decode cX12_comes 16 = .ok (.ireturn, 1) := by decide +kernel
theorem dX12_comes_17 : decode cX12_comes 17 = .ok (.aload_n 0, 1) := by decide +kernel
theorem dX12_comes_18 : decode cX12_comes 18 = .ok (.invokevirtual 302, 3) := by decide +kernel
theorem dX12_comes_21 : decode cX12_comes 21 = .ok (.aload_n 0, 1) := by decide +kernel
theorem dX12_comes_22 : decode cX12_comes 22 = .ok (.iload_n 1, 1) := by decide +kernel
theorem dX12_comes_23 : decode cX12_comes 23 = .ok (.invokevirtual 305, 3) := by decide +kernel
theorem dX12_comes_26 : decode cX12_comes 26 = .ok (.ireturn, 1) := by decide +kernel
theorem dX12_from_0 : decode cX12_from 0 = .ok (.aload_n 0, 1) := by decide +kernel
theorem dX12_from_1 : decode cX12_from 1 = .ok (.iconst 0, 1) := by decide +kernel
theorem dX12_from_2 : decode cX12_from 2 = .ok (.putfield 92, 3) := by decide +kernel
theorem dX12_from_5 : decode cX12_from 5 = .ok (.aload_n 0, 1) := by decide +kernel
theorem dX12_from_6 : decode cX12_from 6 = .ok (.iload_n 1, 1) := by decide +kernel
theorem dX12_from_7 : decode cX12_from 7 = .ok (.i2l, 1) := by decide +kernel
theorem dX12_from_8 : decode cX12_from 8 = .ok (.invokevirtual 299, 3) := by decide +kernel
theorem dX12_from_11 : decode cX12_from 11 = .ok (.ifCond .ne 6, 3) := by decide +kernel
theorem dX12_from_14 : decode cX12_from 14 = .ok (.bipush (-2), 2) := by decide +kernel
theorem dX12_from_16 : decode cX12_from 16 = .ok (.ireturn, 1) := by decide +kernel
theorem dX12_from_17 : decode cX12_from 17 = .ok (.aload_n 0, 1) := by decide +kernel
theorem dX12_from_18 : decode cX12_from 18 = .ok (.invokevirtual 302, 3) := by decide +kernel
theorem dX12_from_21 : decode cX12_from 21 = .ok (.aload_n 0, 1) := by decide +kernel
theorem dX12_from_22 : decode cX12_from 22 = .ok (.getfield 59, 3) := by decide +kernel
theorem dX12_from_25 : decode cX12_from 25 = .ok (.iload_n 1, 1) := by decide +kernel
theorem dX12_from_26 : decode cX12_from 26 = .ok (.iaload, 1) := by decide +kernel
theorem dX12_from_27 : decode cX12_from 27 = .ok (.istore_n 2, 1) := by decide +kernel
theorem dX12_from_28 : decode cX12_from 28 = .ok (.iload_n 2, 1) := by decide +kernel
theorem dX12_from_29 : decode cX12_from 29 = .ok (.ldc 142, 2) := by decide +kernel
theorem dX12_from_31 : decode cX12_from 31 = .ok (.if_icmp .lt 5, 3) := by decide +kernel
theorem dX12_from_34 : decode cX12_from 34 = .ok (.iconst (-1), 1) := by decide +kernel
theorem dX12_from_35 : decode cX12_from 35 = .ok (.ireturn, 1) := by decide +kernel
theorem dX12_from_36 : decode cX12_from 36 = .ok (.iconst 0, 1) := by decide +kernel
theorem dX12_from_37 : decode cX12_from 37 = .ok (.istore_n 3, 1) := by decide +kernel
theorem dX12_from_38 : decode cX12_from 38 = .ok (.iload_n 3, 1) := by decide +kernel
theorem dX12_from_39 : decode cX12_from 39 = .ok (.aload_n 0, 1) := by decide +kernel
theorem dX12_from_40 : decode cX12_from 40 = .ok (.getfield 34, 3) := by decide +kernel
theorem dX12_from_43 : decode cX12_from 43 = .ok (.iconst 2, 1) := by decide +kernel
theorem dX12_from_44 : decode cX12_from 44 = .ok (.iaload, 1) := by decide +kernel
theorem dX12_from_45 : decode cX12_from 45 = .ok (.if_icmp .ge 52, 3) := by decide +kernel
theorem dX12_from_48 : decode cX12_from 48 = .ok (.aload_n 0, 1) := by decide +kernel
theorem dX12_from_49 : decode cX12_from 49 = .ok (.invokevirtual 271, 3) := by decide +kernel
theorem dX12_from_52 : decode cX12_from 52 = .ok (.aload_n 0, 1) := by decide +kernel
theorem dX12_from_53 : decode cX12_from 53 = .ok (.aload_n 0, 1) := by decide +kernel
theorem dX12_from_54 : decode cX12_from 54 = .ok (.getfield 40, 3) := by decide +kernel
theorem dX12_from_57 : decode cX12_from 57 = .ok (.iconst 2, 1) := by decide +kernel
theorem dX12_from_58 : decode cX12_from 58 = .ok (.iload_n 3, 1) := by decide +kernel
theorem dX12_from_59 : decode cX12_from 59 = .ok (.imul, 1) := by decide +kernel
theorem dX12_from_60 : decode cX12_from 60 = .ok (.iaload, 1) := by decide +kernel
theorem dX12_from_61 : decode cX12_from 61 = .ok (.aload_n 0, 1) := by decide +kernel
theorem dX12_from_62 : decode cX12_from 62 = .ok (.getfield 56, 3) := by decide +kernel
theorem dX12_from_65 : decode cX12_from 65 = .ok (.iload_n 3, 1) := by decide +kernel
theorem dX12_from_66 : decode cX12_from 66 = .ok (.iaload, 1) := by decide +kernel
