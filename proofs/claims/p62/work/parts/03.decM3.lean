theorem dX9_readsLine_94 : decode cX9_readsLine 94 = .ok (.aload_n 0, 1) := by decide +kernel
theorem dX9_readsLine_95 : decode cX9_readsLine 95 = .ok (.getfield 24, 3) := by decide +kernel
theorem dX9_readsLine_98 : decode cX9_readsLine 98 = .ok (.getfield 83, 3) := by decide +kernel
theorem dX9_readsLine_101 : decode cX9_readsLine 101 = .ok (.iconst 4, 1) := by decide +kernel
theorem dX9_readsLine_102 : decode cX9_readsLine 102 = .ok (.if_icmp .ge 17, 3) := by decide +kernel
theorem dX9_readsLine_105 : decode cX9_readsLine 105 = .ok (.aload_n 0, 1) := by decide +kernel
theorem dX9_readsLine_106 : decode cX9_readsLine 106 = .ok (.aload_n 0, 1) := by decide +kernel
theorem dX9_readsLine_107 : decode cX9_readsLine 107 = .ok (.getfield 24, 3) := by decide +kernel
theorem dX9_readsLine_110 : decode cX9_readsLine 110 = .ok (.getfield 83, 3) := by decide +kernel
theorem dX9_readsLine_113 : decode cX9_readsLine 113 = .ok (.invokevirtual 86, 3) := by decide +kernel
theorem dX9_readsLine_116 : decode cX9_readsLine 116 = .ok (.goto 8, 3) := by decide +kernel
theorem dX9_readsLine_119 : decode cX9_readsLine 119 = .ok (.aload_n 0, 1) := by decide +kernel
theorem dX9_readsLine_120 : decode cX9_readsLine 120 = .ok (.iconst 3, 1) := by decide +kernel
theorem dX9_readsLine_121 : decode cX9_readsLine 121 = .ok (.invokevirtual 57, 3) := by decide +kernel
theorem dX9_readsLine_124 : decode cX9_readsLine 124 = .ok (.ireturn, 1) := by decide +kernel
theorem dX9_readsLine_125 : decode cX9_readsLine 125 = .ok (.aload_n 0, 1) := by decide +kernel
theorem dX9_readsLine_126 : decode cX9_readsLine 126 = .ok (.ldc 89, 2) := by decide +kernel
theorem dX9_readsLine_128 : decode cX9_readsLine 128 = .ok (.invokevirtual 63, 3) := by decide +kernel
theorem dX9_readsLine_131 : decode cX9_readsLine 131 = .ok (.ifCond .eq 35, 3) := by decide +kernel
theorem dX9_readsLine_134 : decode cX9_readsLine 134 = .ok (.aload_n 0, 1) := by decide +kernel
theorem dX9_readsLine_135 : decode cX9_readsLine 135 = .ok (.getfield 24, 3) := by decide +kernel
theorem dX9_readsLine_138 : decode cX9_readsLine 138 = .ok (.getfield 91, 3) := by decide +kernel
theorem dX9_readsLine_141 : decode cX9_readsLine 141 = .ok (.bipush 6, 2) := by decide +kernel
theorem dX9_readsLine_143 : decode cX9_readsLine 143 = .ok (.if_icmp .ge 17, 3) := by decide +kernel
theorem dX9_readsLine_146 : decode cX9_readsLine 146 = .ok (.aload_n 0, 1) := by decide +kernel
theorem dX9_readsLine_147 : decode cX9_readsLine 147 = .ok (.aload_n 0, 1) := by decide +kernel
theorem dX9_readsLine_148 : decode cX9_readsLine 148 = .ok (.getfield 24, 3) := by decide +kernel
theorem dX9_readsLine_151 : decode cX9_readsLine 151 = .ok (.getfield 91, 3) := by decide +kernel
theorem dX9_readsLine_154 : decode cX9_readsLine 154 = .ok (.invokevirtual 94, 3) := by decide +kernel
theorem dX9_readsLine_157 : decode cX9_readsLine 157 = .ok (.goto 8, 3) := by decide +kernel
theorem dX9_readsLine_160 : decode cX9_readsLine 160 = .ok (.aload_n 0, 1) := by decide +kernel
theorem dX9_readsLine_161 : decode cX9_readsLine 161 = .ok (.iconst 3, 1) := by decide +kernel
theorem dX9_readsLine_162 : decode cX9_readsLine 162 = .ok (.invokevirtual 57, 3) := by decide +kernel
theorem dX9_readsLine_165 : decode cX9_readsLine 165 = .ok (.ireturn, 1) := by decide +kernel
theorem dX9_readsLine_166 : decode cX9_readsLine 166 = .ok (.aload_n 0, 1) := by decide +kernel
theorem dX9_readsLine_167 : decode cX9_readsLine 167 = .ok (.ldc 97, 2) := by decide +kernel
theorem dX9_readsLine_169 : decode cX9_readsLine 169 = .ok (.invokevirtual 63, 3) := by decide +kernel
theorem dX9_readsLine_172 : decode cX9_readsLine 172 = .ok (.ifCond .eq 34, 3) := by decide +kernel
theorem dX9_readsLine_175 : decode cX9_readsLine 175 = .ok (.aload_n 0, 1) := by decide +kernel
theorem dX9_readsLine_176 : decode cX9_readsLine 176 = .ok (.getfield 24, 3) := by decide +kernel
theorem dX9_readsLine_179 : decode cX9_readsLine 179 = .ok (.getfield 99, 3) := by decide +kernel
theorem dX9_readsLine_182 : decode cX9_readsLine 182 = .ok (.iconst 2, 1) := by decide +kernel
theorem dX9_readsLine_183 : decode cX9_readsLine 183 = .ok (.if_icmp .ge 17, 3) := by decide +kernel
theorem dX9_readsLine_186 : decode cX9_readsLine 186 = .ok (.aload_n 0, 1) := by decide +kernel
theorem dX9_readsLine_187 : decode cX9_readsLine 187 = .ok (.aload_n 0, 1) := by decide +kernel
theorem dX9_readsLine_188 : decode cX9_readsLine 188 = .ok (.getfield 24, 3) := by decide +kernel
theorem dX9_readsLine_191 : decode cX9_readsLine 191 = .ok (.getfield 99, 3) := by decide +kernel
theorem dX9_readsLine_194 : decode cX9_readsLine 194 = .ok (.invokevirtual 102, 3) := by decide +kernel
theorem dX9_readsLine_197 : decode cX9_readsLine 197 = .ok (.goto 8, 3) := by decide +kernel
theorem dX9_readsLine_200 : decode cX9_readsLine 200 = .ok (.aload_n 0, 1) := by decide +kernel
theorem dX9_readsLine_201 : decode cX9_readsLine 201 = .ok (.iconst 3, 1) := by decide +kernel
theorem dX9_readsLine_202 : decode cX9_readsLine 202 = .ok (.invokevirtual 57, 3) := by decide +kernel
theorem dX9_readsLine_205 : decode cX9_readsLine 205 = .ok (.ireturn, 1) := by decide +kernel
theorem dX9_readsLine_206 : decode cX9_readsLine 206 = .ok (.aload_n 0, 1) := by decide +kernel
theorem dX9_readsLine_207 : decode cX9_readsLine 207 = .ok (.iconst 1, 1) := by decide +kernel
theorem dX9_readsLine_208 : decode cX9_readsLine 208 = .ok (.invokevirtual 57, 3) := by decide +kernel
theorem dX9_readsLine_211 : decode cX9_readsLine 211 = .ok (.ireturn, 1) := by decide +kernel
theorem dX9_readsTown_0 : decode cX9_readsTown 0 = .ok (.aload_n 0, 1) := by decide +kernel
theorem dX9_readsTown_1 : decode cX9_readsTown 1 = .ok (.ldc 105, 2) := by decide +kernel
theorem dX9_readsTown_3 : decode cX9_readsTown 3 = .ok (.invokevirtual 107, 3) := by decide +kernel
theorem dX9_readsTown_6 : decode cX9_readsTown 6 = .ok (.ifCond .eq 13, 3) := by decide +kernel
theorem dX9_readsTown_9 : decode cX9_readsTown 9 = .ok (.aload_n 0, 1) := by decide +kernel
theorem dX9_readsTown_10 : decode cX9_readsTown 10 = .ok (.iconst 2, 1) := by decide +kernel
theorem dX9_readsTown_11 : decode cX9_readsTown 11 = .ok (.bipush 8, 2) := by decide +kernel
theorem dX9_readsTown_13 : decode cX9_readsTown 13 = .ok (.invokevirtual 110, 3) := by decide +kernel
theorem dX9_readsTown_16 : decode cX9_readsTown 16 = .ok (.ifCond .ne 5, 3) := by decide +kernel
theorem dX9_readsTown_19 : decode cX9_readsTown 19 = .ok (.iconst 0, 1) := by decide +kernel
theorem dX9_readsTown_20 : decode cX9_readsTown 20 = .ok (.ireturn, 1) := by decide +kernel
theorem dX9_readsTown_21 : decode cX9_readsTown 21 = .ok (.aload_n 0, 1) := by decide +kernel
theorem dX9_readsTown_22 : decode cX9_readsTown 22 = .ok (.getfield 24, 3) := by decide +kernel
theorem dX9_readsTown_25 : decode cX9_readsTown 25 = .ok (.aload_n 0, 1) := by decide +kernel
theorem dX9_readsTown_26 : decode cX9_readsTown 26 = .ok (.getfield 41, 3) := by decide +kernel
theorem dX9_readsTown_29 : decode cX9_readsTown 29 = .ok (.putfield 114, 3) := by decide +kernel
theorem dX9_readsTown_32 : decode cX9_readsTown 32 = .ok (.aload_n 0, 1) := by decide +kernel
theorem dX9_readsTown_33 : decode cX9_readsTown 33 = .ok (.invokevirtual 116, 3) := by decide +kernel
theorem dX9_readsTown_36 : decode cX9_readsTown 36 = .ok (.ireturn, 1) := by decide +kernel
theorem dX9_readsLane_0 : decode cX9_readsLane 0 = .ok (.aload_n 0, 1) := by decide +kernel
theorem dX9_readsLane_1 : decode cX9_readsLane 1 = .ok (.iconst 0, 1) := by decide +kernel
theorem dX9_readsLane_2 : decode cX9_readsLane 2 = .ok (.aload_n 0, 1) := by decide +kernel
theorem dX9_readsLane_3 : decode cX9_readsLane 3 = .ok (.getfield 24, 3) := by decide +kernel
theorem dX9_readsLane_6 : decode cX9_readsLane 6 = .ok (.getfield 114, 3) := by decide +kernel
theorem dX9_readsLane_9 : decode cX9_readsLane 9 = .ok (.iconst 1, 1) := by decide +kernel
theorem dX9_readsLane_10 : decode cX9_readsLane 10 = .ok (.isub, 1) := by decide +kernel
theorem dX9_readsLane_11 : decode cX9_readsLane 11 = .ok (.invokevirtual 110, 3) := by decide +kernel
theorem dX9_readsLane_14 : decode cX9_readsLane 14 = .ok (.ifCond .ne 5, 3) := by decide +kernel
theorem dX9_readsLane_17 : decode cX9_readsLane 17 = .ok (.iconst 0, 1) := by decide +kernel
theorem dX9_readsLane_18 : decode cX9_readsLane 18 = .ok (.ireturn, 1) := by decide +kernel
theorem dX9_readsLane_19 : decode cX9_readsLane 19 = .ok (.aload_n 0, 1) := by decide +kernel
theorem dX9_readsLane_20 : decode cX9_readsLane 20 = .ok (.getfield 24, 3) := by decide +kernel
theorem dX9_readsLane_23 : decode cX9_readsLane 23 = .ok (.getfield 119, 3) := by decide +kernel
theorem dX9_readsLane_26 : decode cX9_readsLane 26 = .ok (.iload_n 1, 1) := by decide +kernel
theorem dX9_readsLane_27 : decode cX9_readsLane 27 = .ok (.aload_n 0, 1) := by decide +kernel
theorem dX9_readsLane_28 : decode cX9_readsLane 28 = .ok (.getfield 41, 3) := by decide +kernel
theorem dX9_readsLane_31 : decode cX9_readsLane 31 = .ok (.iastore, 1) := by decide +kernel
theorem dX9_readsLane_32 : decode cX9_readsLane 32 = .ok (.aload_n 0, 1) := by decide +kernel
theorem dX9_readsLane_33 : decode cX9_readsLane 33 = .ok (.ldc 123, 2) := by decide +kernel
theorem dX9_readsLane_35 : decode cX9_readsLane 35 = .ok (.invokevirtual 107, 3) := by decide +kernel
theorem dX9_readsLane_38 : decode cX9_readsLane 38 = .ok (.ifCond .eq 20, 3) := by decide +kernel
theorem dX9_readsLane_41 : decode cX9_readsLane 41 = .ok (.aload_n 0, 1) := by decide +kernel
theorem dX9_readsLane_42 : decode cX9_readsLane 42 = .ok (.iconst 0, 1) := by decide +kernel
theorem dX9_readsLane_43 : decode cX9_readsLane 43 = .ok (.aload_n 0, 1) := by decide +kernel
theorem dX9_readsLane_44 : decode cX9_readsLane 44 = .ok (.getfield 24, 3) := by decide +kernel
theorem dX9_readsLane_47 : decode cX9_readsLane 47 = .ok (.getfield 114, 3) := by decide +kernel
theorem dX9_readsLane_50 : decode cX9_readsLane 50 = .ok (.iconst 1, 1) := by decide +kernel
theorem dX9_readsLane_51 : decode cX9_readsLane 51 = .ok (.isub, 1) := by decide +kernel
theorem dX9_readsLane_52 : decode cX9_readsLane 52 = .ok (.invokevirtual 110, 3) := by decide +kernel
theorem dX9_readsLane_55 : decode cX9_readsLane 55 = .ok (.ifCond .ne 5, 3) := by decide +kernel
theorem dX9_readsLane_58 : decode cX9_readsLane 58 = .ok (.iconst 0, 1) := by decide +kernel
theorem dX9_readsLane_59 : decode cX9_readsLane 59 = .ok (.ireturn, 1) := by decide +kernel
theorem dX9_readsLane_60 : decode cX9_readsLane 60 = .ok (.aload_n 0, 1) := by decide +kernel
theorem dX9_readsLane_61 : decode cX9_readsLane 61 = .ok (.getfield 41, 3) := by decide +kernel
theorem dX9_readsLane_64 : decode cX9_readsLane 64 = .ok (.aload_n 0, 1) := by decide +kernel
theorem dX9_readsLane_65 : decode cX9_readsLane 65 = .ok (.getfield 24, 3) := by decide +kernel
theorem dX9_readsLane_68 : decode cX9_readsLane 68 = .ok (.getfield 119, 3) := by decide +kernel
theorem dX9_readsLane_71 : decode cX9_readsLane 71 = .ok (.iload_n 1, 1) := by decide +kernel
theorem dX9_readsLane_72 : decode cX9_readsLane 72 = .ok (.iaload, 1) := by decide +kernel
theorem dX9_readsLane_73 : decode cX9_readsLane 73 = .ok (.if_icmp .ne 9, 3) := by decide +kernel
theorem dX9_readsLane_76 : decode cX9_readsLane 76 = .ok (.aload_n 0, 1) := by decide +kernel
theorem dX9_readsLane_77 : decode cX9_readsLane 77 = .ok (.iconst 2, 1) := by decide +kernel
theorem dX9_readsLane_78 : decode cX9_readsLane 78 = .ok (.invokevirtual 57, 3) := by decide +kernel
theorem dX9_readsLane_81 : decode cX9_readsLane 81 = .ok (.ireturn, 1) := by decide +kernel
theorem dX9_readsLane_82 : decode cX9_readsLane 82 = .ok (.aload_n 0, 1) := by decide +kernel
theorem dX9_readsLane_83 : decode cX9_readsLane 83 = .ok (.getfield 24, 3) := by decide +kernel
theorem dX9_readsLane_86 : decode cX9_readsLane 86 = .ok (.getfield 125, 3) := by decide +kernel
theorem dX9_readsLane_89 : decode cX9_readsLane 89 = .ok (.iload_n 1, 1) := by decide +kernel
theorem dX9_readsLane_90 : decode cX9_readsLane 90 = .ok (.aload_n 0, 1) := by decide +kernel
theorem dX9_readsLane_91 : decode cX9_readsLane 91 = .ok (.getfield 41, 3) := by decide +kernel
theorem dX9_readsLane_94 : decode cX9_readsLane 94 = .ok (.iastore, 1) := by decide +kernel
theorem dX9_readsLane_95 : decode cX9_readsLane 95 = .ok (.aload_n 0, 1) := by decide +kernel
theorem dX9_readsLane_96 : decode cX9_readsLane 96 = .ok (.ldc 128, 2) := by decide +kernel
theorem dX9_readsLane_98 : decode cX9_readsLane 98 = .ok (.invokevirtual 107, 3) := by decide +kernel
theorem dX9_readsLane_101 : decode cX9_readsLane 101 = .ok (.ifCond .eq 13, 3) := by decide +kernel
theorem dX9_readsLane_104 : decode cX9_readsLane 104 = .ok (.aload_n 0, 1) := by decide +kernel
theorem dX9_readsLane_105 : decode cX9_readsLane 105 = .ok (.iconst 1, 1) := by decide +kernel
theorem dX9_readsLane_106 : decode cX9_readsLane 106 = .ok (.bipush 60, 2) := by decide +kernel
theorem dX9_readsLane_108 : decode cX9_readsLane 108 = .ok (.invokevirtual 110, 3) := by decide +kernel
theorem dX9_readsLane_111 : decode cX9_readsLane 111 = .ok (.ifCond .ne 5, 3) := by decide +kernel
theorem dX9_readsLane_114 : decode cX9_readsLane 114 = .ok (.iconst 0, 1) := by decide +kernel
theorem dX9_readsLane_115 : decode cX9_readsLane 115 = .ok (.ireturn, 1) := by decide +kernel
theorem dX9_readsLane_116 : decode cX9_readsLane 116 = .ok (.aload_n 0, 1) := by decide +kernel
theorem dX9_readsLane_117 : decode cX9_readsLane 117 = .ok (.getfield 24, 3) := by decide +kernel
theorem dX9_readsLane_120 : decode cX9_readsLane 120 = .ok (.getfield 130, 3) := by decide +kernel
theorem dX9_readsLane_123 : decode cX9_readsLane 123 = .ok (.iload_n 1, 1) := by decide +kernel
theorem dX9_readsLane_124 : decode cX9_readsLane 124 = .ok (.aload_n 0, 1) := by decide +kernel
theorem dX9_readsLane_125 : decode cX9_readsLane 125 = .ok (.getfield 41, 3) := by decide +kernel
theorem dX9_readsLane_128 : decode cX9_readsLane 128 = .ok (.iastore, 1) := by decide +kernel
theorem dX9_readsLane_129 : decode cX9_readsLane 129 = .ok (.aload_n 0, 1) := by decide +kernel
theorem dX9_readsLane_130 : decode cX9_readsLane 130 = .ok (.getfield 24, 3) := by decide +kernel
theorem dX9_readsLane_133 : decode cX9_readsLane 133 = .ok (.getfield 132, 3) := by decide +kernel
theorem dX9_readsLane_136 : decode cX9_readsLane 136 = .ok (.iload_n 1, 1) := by decide +kernel
theorem dX9_readsLane_137 : decode cX9_readsLane 137 = .ok (.iconst 0, 1) := by decide +kernel
theorem dX9_readsLane_138 : decode cX9_readsLane 138 = .ok (.iastore, 1) := by decide +kernel
theorem dX9_readsLane_139 : decode cX9_readsLane 139 = .ok (.aload_n 0, 1) := by decide +kernel
theorem dX9_readsLane_140 : decode cX9_readsLane 140 = .ok (.getfield 24, 3) := by decide +kernel
theorem dX9_readsLane_143 : decode cX9_readsLane 143 = .ok (.dup, 1) := by decide +kernel
theorem dX9_readsLane_144 : decode cX9_readsLane 144 = .ok (.getfield 72, 3) := by decide +kernel
theorem dX9_readsLane_147 : decode cX9_readsLane 147 = .ok (.iconst 1, 1) := by decide +kernel
theorem dX9_readsLane_148 : decode cX9_readsLane 148 = .ok (.iadd, 1) := by decide +kernel
theorem dX9_readsLane_149 : decode cX9_readsLane 149 = .ok (.putfield 72, 3) := by decide +kernel
theorem dX9_readsLane_152 : decode cX9_readsLane 152 = .ok (.iconst 1, 1) := by decide +kernel
theorem dX9_readsLane_153 : decode cX9_readsLane 153 = .ok (.ireturn, 1) := by decide +kernel
theorem dX9_readsLaneState_0 : decode cX9_readsLaneState 0 = .ok (.aload_n 0, 1) := by decide +kernel
theorem dX9_readsLaneState_1 : decode cX9_readsLaneState 1 = .ok (.invokevirtual 47, 3) := by decide +kernel
theorem dX9_readsLaneState_4 : decode cX9_readsLaneState 4 = .ok (.aload_n 0, 1) := by decide +kernel
theorem dX9_readsLaneState_5 : decode cX9_readsLaneState 5 = .ok (.ldc 135, 2) := by decide +kernel
theorem dX9_readsLaneState_7 : decode cX9_readsLaneState 7 = .ok (.invokevirtual 63, 3) := by decide +kernel
theorem dX9_readsLaneState_10 : decode cX9_readsLaneState 10 = .ok (.ifCond .eq 32, 3) := by decide +kernel
theorem dX9_readsLaneState_13 : decode cX9_readsLaneState 13 = .ok (.aload_n 0, 1) := by decide +kernel
theorem dX9_readsLaneState_14 : decode cX9_readsLaneState 14 = .ok (.iconst 0, 1) := by decide +kernel
theorem dX9_readsLaneState_15 : decode cX9_readsLaneState 15 = .ok (.bipush 10, 2) := by decide +kernel
theorem dX9_readsLaneState_17 : decode cX9_readsLaneState 17 = .ok (.invokevirtual 110, 3) := by decide +kernel
theorem dX9_readsLaneState_20 : decode cX9_readsLaneState 20 = .ok (.ifCond .ne 5, 3) := by decide +kernel
theorem dX9_readsLaneState_23 : decode cX9_readsLaneState 23 = .ok (.iconst 0, 1) := by decide +kernel
theorem dX9_readsLaneState_24 : decode cX9_readsLaneState 24 = .ok (.ireturn, 1) := by decide +kernel
theorem dX9_readsLaneState_25 : decode cX9_readsLaneState 25 = .ok (.aload_n 0, 1) := by decide +kernel
theorem dX9_readsLaneState_26 : decode cX9_readsLaneState 26 = .ok (.getfield 24, 3) := by decide +kernel
theorem dX9_readsLaneState_29 : decode cX9_readsLaneState 29 = .ok (.getfield 132, 3) := by decide +kernel
theorem dX9_readsLaneState_32 : decode cX9_readsLaneState 32 = .ok (.iload_n 1, 1) := by decide +kernel
theorem dX9_readsLaneState_33 : decode cX9_readsLaneState 33 = .ok (.aload_n 0, 1) := by decide +kernel
theorem dX9_readsLaneState_34 : decode cX9_readsLaneState 34 = .ok (.getfield 41, 3) := by decide +kernel
theorem dX9_readsLaneState_37 : decode cX9_readsLaneState 37 = .ok (.iastore, 1) := by decide +kernel
theorem dX9_readsLaneState_38 : decode cX9_readsLaneState 38 = .ok (.aload_n 0, 1) := by decide +kernel
theorem dX9_readsLaneState_39 : decode cX9_readsLaneState 39 = .ok (.invokevirtual 47, 3) := by decide +kernel
theorem dX9_readsLaneState_42 : decode cX9_readsLaneState 42 = .ok (.aload_n 0, 1) := by decide +kernel
theorem dX9_readsLaneState_43 : decode cX9_readsLaneState 43 = .ok (.ldc 136, 2) := by decide +kernel
theorem dX9_readsLaneState_45 : decode cX9_readsLaneState 45 = .ok (.invokevirtual 63, 3) := by decide +kernel
theorem dX9_readsLaneState_48 : decode cX9_readsLaneState 48 = .ok (.ifCond .eq 16, 3) := by decide +kernel
theorem dX9_readsLaneState_51 : decode cX9_readsLaneState 51 = .ok (.aload_n 0, 1) := by decide +kernel
theorem dX9_readsLaneState_52 : decode cX9_readsLaneState 52 = .ok (.getfield 24, 3) := by decide +kernel
theorem dX9_readsLaneState_55 : decode cX9_readsLaneState 55 = .ok (.iload_n 1, 1) := by decide +kernel
theorem dX9_readsLaneState_56 : decode cX9_readsLaneState 56 = .ok (.iconst 1, 1) := by decide +kernel
theorem dX9_readsLaneState_57 : decode cX9_readsLaneState 57 = .ok (.invokevirtual 138, 3) := by decide +kernel
theorem dX9_readsLaneState_60 : decode cX9_readsLaneState 60 = .ok (.aload_n 0, 1) := by decide +kernel
theorem dX9_readsLaneState_61 : decode cX9_readsLaneState 61 = .ok (.invokevirtual 47, 3) := by decide +kernel
theorem dX9_readsLaneState_64 : decode cX9_readsLaneState 64 = .ok (.aload_n 0, 1) := by decide +kernel
theorem dX9_readsLaneState_65 : decode cX9_readsLaneState 65 = .ok (.invokevirtual 142, 3) := by decide +kernel
theorem dX9_readsLaneState_68 : decode cX9_readsLaneState 68 = .ok (.ireturn, 1) := by decide +kernel
theorem dX9_readsGate_0 : decode cX9_readsGate 0 = .ok (.aload_n 0, 1) := by decide +kernel
theorem dX9_readsGate_1 : decode cX9_readsGate 1 = .ok (.ldc 145, 2) := by decide +kernel
theorem dX9_readsGate_3 : decode cX9_readsGate 3 = .ok (.invokevirtual 107, 3) := by decide +kernel
theorem dX9_readsGate_6 : decode cX9_readsGate 6 = .ok (.ifCond .eq 20, 3) := by decide +kernel
theorem dX9_readsGate_9 : decode cX9_readsGate 9 = .ok (.aload_n 0, 1) := by decide +kernel
theorem dX9_readsGate_10 : decode cX9_readsGate 10 = .ok (.iconst 0, 1) := by decide +kernel
theorem dX9_readsGate_11 : decode cX9_readsGate 11 = .ok (.aload_n 0, 1) := by decide +kernel
theorem dX9_readsGate_12 : decode cX9_readsGate 12 = .ok (.getfield 24, 3) := by decide +kernel
theorem dX9_readsGate_15 : decode cX9_readsGate 15 = .ok (.getfield 114, 3) := by decide +kernel
theorem dX9_readsGate_18 : decode cX9_readsGate 18 = .ok (.iconst 1, 1) := by decide +kernel
theorem dX9_readsGate_19 : decode cX9_readsGate 19 = .ok (.isub, 1) := by decide +kernel
theorem dX9_readsGate_20 : decode cX9_readsGate 20 = .ok (.invokevirtual 110, 3) := by decide +kernel
theorem dX9_readsGate_23 : decode cX9_readsGate 23 = .ok (.ifCond .ne 5, 3) := by decide +kernel
theorem dX9_readsGate_26 : decode cX9_readsGate 26 = .ok (.iconst 0, 1) := by decide +kernel
theorem dX9_readsGate_27 : decode cX9_readsGate 27 = .ok (.ireturn, 1) := by decide +kernel
theorem dX9_readsGate_28 : decode cX9_readsGate 28 = .ok (.aload_n 0, 1) := by decide +kernel
theorem dX9_readsGate_29 : decode cX9_readsGate 29 = .ok (.getfield 24, 3) := by decide +kernel
theorem dX9_readsGate_32 : decode cX9_readsGate 32 = .ok (.getfield 147, 3) := by decide +kernel
theorem dX9_readsGate_35 : decode cX9_readsGate 35 = .ok (.iload_n 1, 1) := by decide +kernel
theorem dX9_readsGate_36 : decode cX9_readsGate 36 = .ok (.aload_n 0, 1) := by decide +kernel
theorem dX9_readsGate_37 : decode cX9_readsGate 37 = .ok (.getfield 41, 3) := by decide +kernel
theorem dX9_readsGate_40 : decode cX9_readsGate 40 = .ok (.iastore, 1) := by decide +kernel
theorem dX9_readsGate_41 : decode cX9_readsGate 41 = .ok (.aload_n 0, 1) := by decide +kernel
theorem dX9_readsGate_42 : decode cX9_readsGate 42 = .ok (.ldc 150, 2) := by decide +kernel
theorem dX9_readsGate_44 : decode cX9_readsGate 44 = .ok (.invokevirtual 107, 3) := by decide +kernel
theorem dX9_readsGate_47 : decode cX9_readsGate 47 = .ok (.ifCond .eq 13, 3) := by decide +kernel
theorem dX9_readsGate_50 : decode cX9_readsGate 50 = .ok (.aload_n 0, 1) := by decide +kernel
theorem dX9_readsGate_51 : decode cX9_readsGate 51 = .ok (.iconst 0, 1) := by decide +kernel
theorem dX9_readsGate_52 : decode cX9_readsGate 52 = .ok (.bipush 99, 2) := by decide +kernel
theorem dX9_readsGate_54 : decode cX9_readsGate 54 = .ok (.invokevirtual 110, 3) := by decide +kernel
theorem dX9_readsGate_57 : decode cX9_readsGate 57 = .ok (.ifCond .ne 5, 3) := by decide +kernel
theorem dX9_readsGate_60 : decode cX9_readsGate 60 = .ok (.iconst 0, 1) := by decide +kernel
theorem dX9_readsGate_61 : decode cX9_readsGate 61 = .ok (.ireturn, 1) := by decide +kernel
theorem dX9_readsGate_62 : decode cX9_readsGate 62 = .ok (.aload_n 0, 1) := by decide +kernel
theorem dX9_readsGate_63 : decode cX9_readsGate 63 = .ok (.getfield 24, 3) := by decide +kernel
theorem dX9_readsGate_66 : decode cX9_readsGate 66 = .ok (.getfield 152, 3) := by decide +kernel
theorem dX9_readsGate_69 : decode cX9_readsGate 69 = .ok (.iload_n 1, 1) := by decide +kernel
theorem dX9_readsGate_70 : decode cX9_readsGate 70 = .ok (.aload_n 0, 1) := by decide +kernel
theorem dX9_readsGate_71 : decode cX9_readsGate 71 = .ok (.getfield 41, 3) := by decide +kernel
theorem dX9_readsGate_74 : decode cX9_readsGate 74 = .ok (.iastore, 1) := by decide +kernel
theorem dX9_readsGate_75 : decode cX9_readsGate 75 = .ok (.aload_n 0, 1) := by decide +kernel
theorem dX9_readsGate_76 : decode cX9_readsGate 76 = .ok (.getfield 24, 3) := by decide +kernel
theorem dX9_readsGate_79 : decode cX9_readsGate 79 = .ok (.dup, 1) := by decide +kernel
theorem dX9_readsGate_80 : decode cX9_readsGate 80 = .ok (.getfield 83, 3) := by decide +kernel
theorem dX9_readsGate_83 : decode cX9_readsGate 83 = .ok (.iconst 1, 1) := by decide +kernel
theorem dX9_readsGate_84 : decode cX9_readsGate 84 = .ok (.iadd, 1) := by decide +kernel
theorem dX9_readsGate_85 : decode cX9_readsGate 85 = .ok (.putfield 83, 3) := by decide +kernel
theorem dX9_readsGate_88 : decode cX9_readsGate 88 = .ok (.aload_n 0, 1) := by decide +kernel
theorem dX9_readsGate_89 : decode cX9_readsGate 89 = .ok (.invokevirtual 116, 3) := by decide +kernel
theorem dX9_readsGate_92 : decode cX9_readsGate 92 = .ok (.ireturn, 1) := by decide +kernel
theorem dX9_readsHouse_0 : decode cX9_readsHouse 0 = .ok (.aload_n 0, 1) := by decide +kernel
theorem dX9_readsHouse_1 : decode cX9_readsHouse 1 = .ok (.ldc 145, 2) := by decide +kernel
theorem dX9_readsHouse_3 : decode cX9_readsHouse 3 = .ok (.invokevirtual 107, 3) := by decide +kernel
theorem dX9_readsHouse_6 : decode cX9_readsHouse 6 = .ok (.ifCond .eq 20, 3) := by decide +kernel
theorem dX9_readsHouse_9 : decode cX9_readsHouse 9 = .ok (.aload_n 0, 1) := by decide +kernel
theorem dX9_readsHouse_10 : decode cX9_readsHouse 10 = .ok (.iconst 0, 1) := by decide +kernel
theorem dX9_readsHouse_11 : decode cX9_readsHouse 11 = .ok (.aload_n 0, 1) := by decide +kernel
theorem dX9_readsHouse_12 : decode cX9_readsHouse 12 = .ok (.getfield 24, 3) := by decide +kernel
theorem dX9_readsHouse_15 : decode cX9_readsHouse 15 = .ok (.getfield 114, 3) := by decide +kernel
theorem dX9_readsHouse_18 : decode cX9_readsHouse 18 = .ok (.iconst 1, 1) := by decide +kernel
theorem dX9_readsHouse_19 : decode cX9_readsHouse 19 = .ok (.isub, 1) := by decide +kernel
theorem dX9_readsHouse_20 : decode cX9_readsHouse 20 = .ok (.invokevirtual 110, 3) := by decide +kernel
theorem dX9_readsHouse_23 : decode cX9_readsHouse 23 = .ok (.ifCond .ne 5, 3) := by decide +kernel
theorem dX9_readsHouse_26 : decode cX9_readsHouse 26 = .ok (.iconst 0, 1) := by decide +kernel
theorem dX9_readsHouse_27 : decode cX9_readsHouse 27 = .ok (.ireturn, 1) := by decide +kernel
theorem dX9_readsHouse_28 : decode cX9_readsHouse 28 = .ok (.aload_n 0, 1) := by decide +kernel
theorem dX9_readsHouse_29 : decode cX9_readsHouse 29 = .ok (.getfield 24, 3) := by decide +kernel
theorem dX9_readsHouse_32 : decode cX9_readsHouse 32 = .ok (.getfield 155, 3) := by decide +kernel
theorem dX9_readsHouse_35 : decode cX9_readsHouse 35 = .ok (.iload_n 1, 1) := by decide +kernel
theorem dX9_readsHouse_36 : decode cX9_readsHouse 36 = .ok (.aload_n 0, 1) := by decide +kernel
theorem dX9_readsHouse_37 : decode cX9_readsHouse 37 = .ok (.getfield 41, 3) := by decide +kernel
theorem dX9_readsHouse_40 : decode cX9_readsHouse 40 = .ok (.iastore, 1) := by decide +kernel
theorem dX9_readsHouse_41 : decode cX9_readsHouse 41 = .ok (.aload_n 0, 1) := by decide +kernel
theorem dX9_readsHouse_42 : decode cX9_readsHouse 42 = .ok (.ldc 158, 2) := by decide +kernel
theorem dX9_readsHouse_44 : decode cX9_readsHouse 44 = .ok (.invokevirtual 107, 3) := by decide +kernel
theorem dX9_readsHouse_47 : decode cX9_readsHouse 47 = .ok (.ifCond .eq 14, 3) := by decide +kernel
theorem dX9_readsHouse_50 : decode cX9_readsHouse 50 = .ok (.aload_n 0, 1) := by decide +kernel
theorem dX9_readsHouse_51 : decode cX9_readsHouse 51 = .ok (.iconst 0, 1) := by decide +kernel
theorem dX9_readsHouse_52 : decode cX9_readsHouse 52 = .ok (.sipush 999, 3) := by decide +kernel
theorem dX9_readsHouse_55 : decode cX9_readsHouse 55 = .ok (.invokevirtual 110, 3) := by decide +kernel
theorem dX9_readsHouse_58 : decode cX9_readsHouse 58 = .ok (.ifCond .ne 5, 3) := by decide +kernel
theorem dX9_readsHouse_61 : decode cX9_readsHouse 61 = .ok (.iconst 0, 1) := by decide +kernel
theorem dX9_readsHouse_62 : decode cX9_readsHouse 62 = .ok (.ireturn, 1) := by decide +kernel
theorem dX9_readsHouse_63 : decode cX9_readsHouse 63 = .ok (.aload_n 0, 1) := by decide +kernel
theorem dX9_readsHouse_64 : decode cX9_readsHouse 64 = .ok (.getfield 24, 3) := by decide +kernel
theorem dX9_readsHouse_67 : decode cX9_readsHouse 67 = .ok (.getfield 160, 3) := by decide +kernel
theorem dX9_readsHouse_70 : decode cX9_readsHouse 70 = .ok (.iload_n 1, 1) := by decide +kernel
theorem dX9_readsHouse_71 : decode cX9_readsHouse 71 = .ok (.aload_n 0, 1) := by decide +kernel
theorem dX9_readsHouse_72 : decode cX9_readsHouse 72 = .ok (.getfield 41, 3) := by decide +kernel
theorem dX9_readsHouse_75 : decode cX9_readsHouse 75 = .ok (.iastore, 1) := by decide +kernel
theorem dX9_readsHouse_76 : decode cX9_readsHouse 76 = .ok (.aload_n 0, 1) := by decide +kernel
theorem dX9_readsHouse_77 : decode cX9_readsHouse 77 = .ok (.ldc 162, 2) := by decide +kernel
theorem dX9_readsHouse_79 : decode cX9_readsHouse 79 = .ok (.invokevirtual 107, 3) := by decide +kernel
theorem dX9_readsHouse_82 : decode cX9_readsHouse 82 = .ok (.ifCond .eq 14, 3) := by decide +kernel
theorem dX9_readsHouse_85 : decode cX9_readsHouse 85 = .ok (.aload_n 0, 1) := by decide +kernel
theorem dX9_readsHouse_86 : decode cX9_readsHouse 86 = .ok (.iconst 0, 1) := by decide +kernel
theorem dX9_readsHouse_87 : decode cX9_readsHouse 87 = .ok (.sipush 999, 3) := by decide +kernel
theorem dX9_readsHouse_90 : decode cX9_readsHouse 90 = .ok (.invokevirtual 110, 3) := by decide +kernel
theorem dX9_readsHouse_93 : decode cX9_readsHouse 93 = .ok (.ifCond .ne 5, 3) := by decide +kernel
theorem dX9_readsHouse_96 : decode cX9_readsHouse 96 = .ok (.iconst 0, 1) := by decide +kernel
theorem dX9_readsHouse_97 : decode cX9_readsHouse 97 = .ok (.ireturn, 1) := by decide +kernel
theorem dX9_readsHouse_98 : decode cX9_readsHouse 98 = .ok (.aload_n 0, 1) := by decide +kernel
theorem dX9_readsHouse_99 : decode cX9_readsHouse 99 = .ok (.getfield 24, 3) := by decide +kernel
theorem dX9_readsHouse_102 : decode cX9_readsHouse 102 = .ok (.getfield 164, 3) := by decide +kernel
theorem dX9_readsHouse_105 : decode cX9_readsHouse 105 = .ok (.iload_n 1, 1) := by decide +kernel
theorem dX9_readsHouse_106 : decode cX9_readsHouse 106 = .ok (.aload_n 0, 1) := by decide +kernel
theorem dX9_readsHouse_107 : decode cX9_readsHouse 107 = .ok (.getfield 41, 3) := by decide +kernel
theorem dX9_readsHouse_110 : decode cX9_readsHouse 110 = .ok (.iastore, 1) := by decide +kernel
theorem dX9_readsHouse_111 : decode cX9_readsHouse 111 = .ok (.aload_n 0, 1) := by decide +kernel
theorem dX9_readsHouse_112 : decode cX9_readsHouse 112 = .ok (.ldc 166, 2) := by decide +kernel
theorem dX9_readsHouse_114 : decode cX9_readsHouse 114 = .ok (.invokevirtual 107, 3) := by decide +kernel
theorem dX9_readsHouse_117 : decode cX9_readsHouse 117 = .ok (.ifCond .eq 13, 3) := by decide +kernel
theorem dX9_readsHouse_120 : decode cX9_readsHouse 120 = .ok (.aload_n 0, 1) := by decide +kernel
theorem dX9_readsHouse_121 : decode cX9_readsHouse 121 = .ok (.iconst 0, 1) := by decide +kernel
theorem dX9_readsHouse_122 : decode cX9_readsHouse 122 = .ok (.bipush 99, 2) := by decide +kernel
theorem dX9_readsHouse_124 : decode cX9_readsHouse 124 = .ok (.invokevirtual 110, 3) := by decide +kernel
theorem dX9_readsHouse_127 : decode cX9_readsHouse 127 = .ok (.ifCond .ne 5, 3) := by decide +kernel
theorem dX9_readsHouse_130 : decode cX9_readsHouse 130 = .ok (.iconst 0, 1) := by decide +kernel
theorem dX9_readsHouse_131 : decode cX9_readsHouse 131 = .ok (.ireturn, 1) := by decide +kernel
theorem dX9_readsHouse_132 : decode cX9_readsHouse 132 = .ok (.aload_n 0, 1) := by decide +kernel
theorem dX9_readsHouse_133 : decode cX9_readsHouse 133 = .ok (.getfield 24, 3) := by decide +kernel
theorem dX9_readsHouse_136 : decode cX9_readsHouse 136 = .ok (.getfield 168, 3) := by decide +kernel
theorem dX9_readsHouse_139 : decode cX9_readsHouse 139 = .ok (.iload_n 1, 1) := by decide +kernel
theorem dX9_readsHouse_140 : decode cX9_readsHouse 140 = .ok (.aload_n 0, 1) := by decide +kernel
theorem dX9_readsHouse_141 : decode cX9_readsHouse 141 = .ok (.getfield 41, 3) := by decide +kernel
theorem dX9_readsHouse_144 : decode cX9_readsHouse 144 = .ok (.iastore, 1) := by decide +kernel
theorem dX9_readsHouse_145 : decode cX9_readsHouse 145 = .ok (.aload_n 0, 1) := by decide +kernel
theorem dX9_readsHouse_146 : decode cX9_readsHouse 146 = .ok (.getfield 24, 3) := by decide +kernel
theorem dX9_readsHouse_149 : decode cX9_readsHouse 149 = .ok (.dup, 1) := by decide +kernel
theorem dX9_readsHouse_150 : decode cX9_readsHouse 150 = .ok (.getfield 91, 3) := by decide +kernel
theorem dX9_readsHouse_153 : decode cX9_readsHouse 153 = .ok (.iconst 1, 1) := by decide +kernel
theorem dX9_readsHouse_154 : decode cX9_readsHouse 154 = .ok (.iadd, 1) := by decide +kernel
theorem dX9_readsHouse_155 : decode cX9_readsHouse 155 = .ok (.putfield 91, 3) := by decide +kernel
theorem dX9_readsHouse_158 : decode cX9_readsHouse 158 = .ok (.aload_n 0, 1) := by decide +kernel
theorem dX9_readsHouse_159 : decode cX9_readsHouse 159 = .ok (.invokevirtual 116, 3) := by decide +kernel
theorem dX9_readsHouse_162 : decode cX9_readsHouse 162 = .ok (.ireturn, 1) := by decide +kernel
theorem dX9_readsStranger_0 : decode cX9_readsStranger 0 = .ok (.aload_n 0, 1) := by decide +kernel
theorem dX9_readsStranger_1 : decode cX9_readsStranger 1 = .ok (.ldc 145, 2) := by decide +kernel
theorem dX9_readsStranger_3 : decode cX9_readsStranger 3 = .ok (.invokevirtual 107, 3) := by decide +kernel
theorem dX9_readsStranger_6 : decode cX9_readsStranger 6 = .ok (.ifCond .eq 20, 3) := by decide +kernel
theorem dX9_readsStranger_9 : decode cX9_readsStranger 9 = .ok (.aload_n 0, 1) := by decide +kernel
theorem dX9_readsStranger_10 : decode cX9_readsStranger 10 = .ok (.iconst 0, 1) := by decide +kernel
theorem dX9_readsStranger_11 : decode cX9_readsStranger 11 = .ok (.aload_n 0, 1) := by decide +kernel
theorem dX9_readsStranger_12 : decode cX9_readsStranger 12 = .ok (.getfield 24, 3) := by decide +kernel
theorem dX9_readsStranger_15 : decode cX9_readsStranger 15 = .ok (.getfield 114, 3) := by decide +kernel
theorem dX9_readsStranger_18 : decode cX9_readsStranger 18 = .ok (.iconst 1, 1) := by decide +kernel
theorem dX9_readsStranger_19 : decode cX9_readsStranger 19 = .ok (.isub, 1) := by decide +kernel
theorem dX9_readsStranger_20 : decode cX9_readsStranger 20 = .ok (.invokevirtual 110, 3) := by decide +kernel
theorem dX9_readsStranger_23 : decode cX9_readsStranger 23 = .ok (.ifCond .ne 5, 3) := by decide +kernel
theorem dX9_readsStranger_26 : decode cX9_readsStranger 26 = .ok (.iconst 0, 1) := by decide +kernel
theorem dX9_readsStranger_27 : decode cX9_readsStranger 27 = .ok (.ireturn, 1) := by decide +kernel
theorem dX9_readsStranger_28 : decode cX9_readsStranger 28 = .ok (.aload_n 0, 1) := by decide +kernel
theorem dX9_readsStranger_29 : decode cX9_readsStranger 29 = .ok (.getfield 24, 3) := by decide +kernel
theorem dX9_readsStranger_32 : decode cX9_readsStranger 32 = .ok (.getfield 170, 3) := by decide +kernel
theorem dX9_readsStranger_35 : decode cX9_readsStranger 35 = .ok (.iload_n 1, 1) := by decide +kernel
theorem dX9_readsStranger_36 : decode cX9_readsStranger 36 = .ok (.aload_n 0, 1) := by decide +kernel
theorem dX9_readsStranger_37 : decode cX9_readsStranger 37 = .ok (.getfield 41, 3) := by decide +kernel
theorem dX9_readsStranger_40 : decode cX9_readsStranger 40 = .ok (.iastore, 1) := by decide +kernel
theorem dX9_readsStranger_41 : decode cX9_readsStranger 41 = .ok (.aload_n 0, 1) := by decide +kernel
theorem dX9_readsStranger_42 : decode cX9_readsStranger 42 = .ok (.ldc 173, 2) := by decide +kernel
theorem dX9_readsStranger_44 : decode cX9_readsStranger 44 = .ok (.invokevirtual 107, 3) := by decide +kernel
theorem dX9_readsStranger_47 : decode cX9_readsStranger 47 = .ok (.ifCond .eq 14, 3) := by decide +kernel
theorem dX9_readsStranger_50 : decode cX9_readsStranger 50 = .ok (.aload_n 0, 1) := by decide +kernel
theorem dX9_readsStranger_51 : decode cX9_readsStranger 51 = .ok (.iconst 0, 1) := by decide +kernel
theorem dX9_readsStranger_52 : decode cX9_readsStranger 52 = .ok (.sipush 999, 3) := by decide +kernel
theorem dX9_readsStranger_55 : decode cX9_readsStranger 55 = .ok (.invokevirtual 110, 3) := by decide +kernel
theorem dX9_readsStranger_58 : decode cX9_readsStranger 58 = .ok (.ifCond .ne 5, 3) := by decide +kernel
theorem dX9_readsStranger_61 : decode cX9_readsStranger 61 = .ok (.iconst 0, 1) := by decide +kernel
theorem dX9_readsStranger_62 : decode cX9_readsStranger 62 = .ok (.ireturn, 1) := by decide +kernel
theorem dX9_readsStranger_63 : decode cX9_readsStranger 63 = .ok (.aload_n 0, 1) := by decide +kernel
theorem dX9_readsStranger_64 : decode cX9_readsStranger 64 = .ok (.getfield 24, 3) := by decide +kernel
theorem dX9_readsStranger_67 : decode cX9_readsStranger 67 = .ok (.getfield 175, 3) := by decide +kernel
theorem dX9_readsStranger_70 : decode cX9_readsStranger 70 = .ok (.iload_n 1, 1) := by decide +kernel
theorem dX9_readsStranger_71 : decode cX9_readsStranger 71 = .ok (.aload_n 0, 1) := by decide +kernel
theorem dX9_readsStranger_72 : decode cX9_readsStranger 72 = .ok (.getfield 41, 3) := by decide +kernel
theorem dX9_readsStranger_75 : decode cX9_readsStranger 75 = .ok (.iastore, 1) := by decide +kernel
theorem dX9_readsStranger_76 : decode cX9_readsStranger 76 = .ok (.aload_n 0, 1) := by decide +kernel
theorem dX9_readsStranger_77 : decode cX9_readsStranger 77 = .ok (.getfield 24, 3) := by decide +kernel
theorem dX9_readsStranger_80 : decode cX9_readsStranger 80 = .ok (.dup, 1) := by decide +kernel
theorem dX9_readsStranger_81 : decode cX9_readsStranger 81 = .ok (.getfield 99, 3) := by decide +kernel
theorem dX9_readsStranger_84 : decode cX9_readsStranger 84 = .ok (.iconst 1, 1) := by decide +kernel
theorem dX9_readsStranger_85 : decode cX9_readsStranger 85 = .ok (.iadd, 1) := by decide +kernel
theorem dX9_readsStranger_86 : decode cX9_readsStranger 86 = .ok (.putfield 99, 3) := by decide +kernel
theorem dX9_readsStranger_89 : decode cX9_readsStranger 89 = .ok (.aload_n 0, 1) := by decide +kernel
theorem dX9_readsStranger_90 : decode cX9_readsStranger 90 = .ok (.invokevirtual 116, 3) := by decide +kernel
theorem dX9_readsStranger_93 : decode cX9_readsStranger 93 = .ok (.ireturn, 1) := by decide +kernel
theorem dX9_takesWord_0 : decode cX9_takesWord 0 = .ok (.aload_n 0, 1) := by decide +kernel
theorem dX9_takesWord_1 : decode cX9_takesWord 1 = .ok (.invokevirtual 47, 3) := by decide +kernel
theorem dX9_takesWord_4 : decode cX9_takesWord 4 = .ok (.aload_n 0, 1) := by decide +kernel
theorem dX9_takesWord_5 : decode cX9_takesWord 5 = .ok (.aload_n 1, 1) := by decide +kernel
theorem dX9_takesWord_6 : decode cX9_takesWord 6 = .ok (.invokevirtual 63, 3) := by decide +kernel
theorem dX9_takesWord_9 : decode cX9_takesWord 9 = .ok (.ifCond .ne 11, 3) := by decide +kernel
theorem dX9_takesWord_12 : decode cX9_takesWord 12 = .ok (.aload_n 0, 1) := by decide +kernel
theorem dX9_takesWord_13 : decode cX9_takesWord 13 = .ok (.iconst 1, 1) := by decide +kernel
theorem dX9_takesWord_14 : decode cX9_takesWord 14 = .ok (.invokevirtual 57, 3) := by decide +kernel
theorem dX9_takesWord_17 : decode cX9_takesWord 17 = .ok (.ifCond .eq 7, 3) := by decide +kernel
theorem dX9_takesWord_20 : decode cX9_takesWord 20 = .ok (.iconst 1, 1) := by decide +kernel
theorem dX9_takesWord_21 : decode cX9_takesWord 21 = .ok (.goto 4, 3) := by decide +kernel
theorem dX9_takesWord_24 : decode cX9_takesWord 24 = .ok (.iconst 0, 1) := by decide +kernel
theorem dX9_takesWord_25 : decode cX9_takesWord 25 = .ok (.ireturn, 1) := by decide +kernel
theorem dX9_takesNumber_0 : decode cX9_takesNumber 0 = .ok (.aload_n 0, 1) := by decide +kernel
theorem dX9_takesNumber_1 : decode cX9_takesNumber 1 = .ok (.invokevirtual 47, 3) := by decide +kernel
theorem dX9_takesNumber_4 : decode cX9_takesNumber 4 = .ok (.aload_n 0, 1) := by decide +kernel
theorem dX9_takesNumber_5 : decode cX9_takesNumber 5 = .ok (.getfield 32, 3) := by decide +kernel
theorem dX9_takesNumber_8 : decode cX9_takesNumber 8 = .ok (.iconst 2, 1) := by decide +kernel
theorem dX9_takesNumber_9 : decode cX9_takesNumber 9 = .ok (.if_icmp .eq 9, 3) := by decide +kernel
theorem dX9_takesNumber_12 : decode cX9_takesNumber 12 = .ok (.aload_n 0, 1) := by decide +kernel
theorem dX9_takesNumber_13 : decode cX9_takesNumber 13 = .ok (.iconst 1, 1) := by decide +kernel
theorem dX9_takesNumber_14 : decode cX9_takesNumber 14 = .ok (.invokevirtual 57, 3) := by decide +kernel
theorem dX9_takesNumber_17 : decode cX9_takesNumber 17 = .ok (.ireturn, 1) := by decide +kernel
theorem dX9_takesNumber_18 : decode cX9_takesNumber 18 = .ok (.aload_n 0, 1) := by decide +kernel
theorem dX9_takesNumber_19 : decode cX9_takesNumber 19 = .ok (.getfield 41, 3) := by decide +kernel
theorem dX9_takesNumber_22 : decode cX9_takesNumber 22 = .ok (.iload_n 1, 1) := by decide +kernel
theorem dX9_takesNumber_23 : decode cX9_takesNumber 23 = .ok (.if_icmp .lt 11, 3) := by decide +kernel
theorem dX9_takesNumber_26 : decode cX9_takesNumber 26 = .ok (.aload_n 0, 1) := by decide +kernel
theorem dX9_takesNumber_27 : decode cX9_takesNumber 27 = .ok (.getfield 41, 3) := by decide +kernel
theorem dX9_takesNumber_30 : decode cX9_takesNumber 30 = .ok (.iload_n 2, 1) := by decide +kernel
theorem dX9_takesNumber_31 : decode cX9_takesNumber 31 = .ok (.if_icmp .le 11, 3) := by decide +kernel
theorem dX9_takesNumber_34 : decode cX9_takesNumber 34 = .ok (.aload_n 0, 1) := by decide +kernel
theorem dX9_takesNumber_35 : decode cX9_takesNumber 35 = .ok (.iconst 2, 1) := by decide +kernel
theorem dX9_takesNumber_36 : decode cX9_takesNumber 36 = .ok (.invokevirtual 57, 3) := by decide +kernel
theorem dX9_takesNumber_39 : decode cX9_takesNumber 39 = .ok (.ifCond .eq 7, 3) := by decide +kernel
theorem dX9_takesNumber_42 : decode cX9_takesNumber 42 = .ok (.iconst 1, 1) := by decide +kernel
theorem dX9_takesNumber_43 : decode cX9_takesNumber 43 = .ok (.goto 4, 3) := by decide +kernel
theorem dX9_takesNumber_46 : decode cX9_takesNumber 46 = .ok (.iconst 0, 1) := by decide +kernel
theorem dX9_takesNumber_47 : decode cX9_takesNumber 47 = .ok (.ireturn, 1) := by decide +kernel
theorem dX9_takesSign_0 : decode cX9_takesSign 0 = .ok (.aload_n 0, 1) := by decide +kernel
theorem dX9_takesSign_1 : decode cX9_takesSign 1 = .ok (.invokevirtual 47, 3) := by decide +kernel
theorem dX9_takesSign_4 : decode cX9_takesSign 4 = .ok (.aload_n 0, 1) := by decide +kernel
theorem dX9_takesSign_5 : decode cX9_takesSign 5 = .ok (.invokevirtual 142, 3) := by decide +kernel
theorem dX9_takesSign_8 : decode cX9_takesSign 8 = .ok (.ireturn, 1) := by decide +kernel
theorem dX9_isSign_0 : decode cX9_isSign 0 = .ok (.aload_n 0, 1) := by decide +kernel
theorem dX9_isSign_1 : decode cX9_isSign 1 = .ok (.getfield 32, 3) := by decide +kernel
theorem dX9_isSign_4 : decode cX9_isSign 4 = .ok (.iconst 3, 1) := by decide +kernel
theorem dX9_isSign_5 : decode cX9_isSign 5 = .ok (.if_icmp .eq 11, 3) := by decide +kernel
theorem dX9_isSign_8 : decode cX9_isSign 8 = .ok (.aload_n 0, 1) := by decide +kernel
theorem dX9_isSign_9 : decode cX9_isSign 9 = .ok (.iconst 1, 1) := by decide +kernel
theorem dX9_isSign_10 : decode cX9_isSign 10 = .ok (.invokevirtual 57, 3) := by decide +kernel
theorem dX9_isSign_13 : decode cX9_isSign 13 = .ok (.ifCond .eq 7, 3) := by decide +kernel
theorem dX9_isSign_16 : decode cX9_isSign 16 = .ok (.iconst 1, 1) := by decide +kernel
theorem dX9_isSign_17 : decode cX9_isSign 17 = .ok (.goto 4, 3) := by decide +kernel
theorem dX9_isSign_20 : decode cX9_isSign 20 = .ok (.iconst 0, 1) := by decide +kernel
theorem dX9_isSign_21 : decode cX9_isSign 21 = .ok (.ireturn, 1) := by decide +kernel
theorem dX9_isWord_0 : decode cX9_isWord 0 = .ok (.aload_n 0, 1) := by decide +kernel
theorem dX9_isWord_1 : decode cX9_isWord 1 = .ok (.getfield 32, 3) := by decide +kernel
theorem dX9_isWord_4 : decode cX9_isWord 4 = .ok (.iconst 1, 1) := by decide +kernel
theorem dX9_isWord_5 : decode cX9_isWord 5 = .ok (.if_icmp .ne 19, 3) := by decide +kernel
theorem dX9_isWord_8 : decode cX9_isWord 8 = .ok (.aload_n 0, 1) := by decide +kernel
theorem dX9_isWord_9 : decode cX9_isWord 9 = .ok (.getfield 38, 3) := by decide +kernel
theorem dX9_isWord_12 : decode cX9_isWord 12 = .ok (.aload_n 0, 1) := by decide +kernel
theorem dX9_isWord_13 : decode cX9_isWord 13 = .ok (.getfield 35, 3) := by decide +kernel
theorem dX9_isWord_16 : decode cX9_isWord 16 = .ok (.isub, 1) := by decide +kernel
theorem dX9_isWord_17 : decode cX9_isWord 17 = .ok (.aload_n 1, 1) := by decide +kernel
theorem dX9_isWord_18 : decode cX9_isWord 18 = .ok (.invokevirtual 178, 3) := by decide +kernel
theorem dX9_isWord_21 : decode cX9_isWord 21 = .ok (.if_icmp .eq 5, 3) := by decide +kernel
theorem dX9_isWord_24 : decode cX9_isWord 24 = .ok (.iconst 0, 1) := by decide +kernel
theorem dX9_isWord_25 : decode cX9_isWord 25 = .ok (.ireturn, 1) := by decide +kernel
theorem dX9_isWord_26 : decode cX9_isWord 26 = .ok (.iconst 0, 1) := by decide +kernel
theorem dX9_isWord_27 : decode cX9_isWord 27 = .ok (.istore_n 2, 1) := by decide +kernel
theorem dX9_isWord_28 : decode cX9_isWord 28 = .ok (.iload_n 2, 1) := by decide +kernel
theorem dX9_isWord_29 : decode cX9_isWord 29 = .ok (.aload_n 1, 1) := by decide +kernel
theorem dX9_isWord_30 : decode cX9_isWord 30 = .ok (.invokevirtual 178, 3) := by decide +kernel
theorem dX9_isWord_33 : decode cX9_isWord 33 = .ok (.if_icmp .ge 29, 3) := by decide +kernel
theorem dX9_isWord_36 : decode cX9_isWord 36 = .ok (.aload_n 0, 1) := by decide +kernel
theorem dX9_isWord_37 : decode cX9_isWord 37 = .ok (.aload_n 0, 1) := by decide +kernel
theorem dX9_isWord_38 : decode cX9_isWord 38 = .ok (.getfield 35, 3) := by decide +kernel
theorem dX9_isWord_41 : decode cX9_isWord 41 = .ok (.iload_n 2, 1) := by decide +kernel
theorem dX9_isWord_42 : decode cX9_isWord 42 = .ok (.iadd, 1) := by decide +kernel
theorem dX9_isWord_43 : decode cX9_isWord 43 = .ok (.invokevirtual 184, 3) := by decide +kernel
theorem dX9_isWord_46 : decode cX9_isWord 46 = .ok (.aload_n 1, 1) := by decide +kernel
theorem dX9_isWord_47 : decode cX9_isWord 47 = .ok (.iload_n 2, 1) := by decide +kernel
theorem dX9_isWord_48 : decode cX9_isWord 48 = .ok (.invokevirtual 188, 3) := by decide +kernel
theorem dX9_isWord_51 : decode cX9_isWord 51 = .ok (.if_icmp .eq 5, 3) := by decide +kernel
theorem dX9_isWord_54 : decode cX9_isWord 54 = .ok (.iconst 0, 1) := by decide +kernel
theorem dX9_isWord_55 : decode cX9_isWord 55 = .ok (.ireturn, 1) := by decide +kernel
theorem dX9_isWord_56 : decode cX9_isWord 56 = .ok (.iinc 2 1, 3) := by decide +kernel
theorem dX9_isWord_59 : decode cX9_isWord 59 = .ok (.goto (-31), 3) := by decide +kernel
theorem dX9_isWord_62 : decode cX9_isWord 62 = .ok (.iconst 1, 1) := by decide +kernel
theorem dX9_isWord_63 : decode cX9_isWord 63 = .ok (.ireturn, 1) := by decide +kernel
theorem dX9_byteAt_0 : decode cX9_byteAt 0 = .ok (.iload_n 1, 1) := by decide +kernel
theorem dX9_byteAt_1 : decode cX9_byteAt 1 = .ok (.ifCond .lt 27, 3) := by decide +kernel
theorem dX9_byteAt_4 : decode cX9_byteAt 4 = .ok (.iload_n 1, 1) := by decide +kernel
theorem dX9_byteAt_5 : decode cX9_byteAt 5 = .ok (.aload_n 0, 1) := by decide +kernel
theorem dX9_byteAt_6 : decode cX9_byteAt 6 = .ok (.getfield 9, 3) := by decide +kernel
theorem dX9_byteAt_9 : decode cX9_byteAt 9 = .ok (.if_icmp .ge 19, 3) := by decide +kernel
theorem dX9_byteAt_12 : decode cX9_byteAt 12 = .ok (.iload_n 1, 1) := by decide +kernel
theorem dX9_byteAt_13 : decode cX9_byteAt 13 = .ok (.sipush 1000, 3) := by decide +kernel
theorem dX9_byteAt_16 : decode cX9_byteAt 16 = .ok (.if_icmp .ge 12, 3) := by decide +kernel
theorem dX9_byteAt_19 : decode cX9_byteAt 19 = .ok (.aload_n 0, 1) := by decide +kernel
theorem dX9_byteAt_20 : decode cX9_byteAt 20 = .ok (.getfield 28, 3) := by decide +kernel
theorem dX9_byteAt_23 : decode cX9_byteAt 23 = .ok (.iload_n 1, 1) := by decide +kernel
theorem dX9_byteAt_24 : decode cX9_byteAt 24 = .ok (.baload, 1) := by decide +kernel
theorem dX9_byteAt_25 : decode cX9_byteAt 25 = .ok (.goto 4, 3) := by decide +kernel
theorem dX9_byteAt_28 : decode cX9_byteAt 28 = .ok (.iconst 0, 1) := by decide +kernel
theorem dX9_byteAt_29 : decode cX9_byteAt 29 = .ok (.ireturn, 1) := by decide +kernel
theorem dX9_isBlank_0 : decode cX9_isBlank 0 = .ok (.iload_n 0, 1) := by decide +kernel
theorem dX9_isBlank_1 : decode cX9_isBlank 1 = .ok (.bipush 32, 2) := by decide +kernel
theorem dX9_isBlank_3 : decode cX9_isBlank 3 = .ok (.if_icmp .eq 9, 3) := by decide +kernel
theorem dX9_isBlank_6 : decode cX9_isBlank 6 = .ok (.iload_n 0, 1) := by decide +kernel
theorem dX9_isBlank_7 : decode cX9_isBlank 7 = .ok (.bipush 10, 2) := by decide +kernel
theorem dX9_isBlank_9 : decode cX9_isBlank 9 = .ok (.if_icmp .ne 7, 3) := by decide +kernel
theorem dX9_isBlank_12 : decode cX9_isBlank 12 = .ok (.iconst 1, 1) := by decide +kernel
theorem dX9_isBlank_13 : decode cX9_isBlank 13 = .ok (.goto 4, 3) := by decide +kernel
theorem dX9_isBlank_16 : decode cX9_isBlank 16 = .ok (.iconst 0, 1) := by decide +kernel
theorem dX9_isBlank_17 : decode cX9_isBlank 17 = .ok (.ireturn, 1) := by decide +kernel
theorem dX9_isLetter_0 : decode cX9_isLetter 0 = .ok (.iload_n 0, 1) := by decide +kernel
theorem dX9_isLetter_1 : decode cX9_isLetter 1 = .ok (.bipush 97, 2) := by decide +kernel
theorem dX9_isLetter_3 : decode cX9_isLetter 3 = .ok (.if_icmp .lt 13, 3) := by decide +kernel
theorem dX9_isLetter_6 : decode cX9_isLetter 6 = .ok (.iload_n 0, 1) := by decide +kernel
theorem dX9_isLetter_7 : decode cX9_isLetter 7 = .ok (.bipush 122, 2) := by decide +kernel
theorem dX9_isLetter_9 : decode cX9_isLetter 9 = .ok (.if_icmp .gt 7, 3) := by decide +kernel
theorem dX9_isLetter_12 : decode cX9_isLetter 12 = .ok (.iconst 1, 1) := by decide +kernel
theorem dX9_isLetter_13 : decode cX9_isLetter 13 = .ok (.goto 4, 3) := by decide +kernel
theorem dX9_isLetter_16 : decode cX9_isLetter 16 = .ok (.iconst 0, 1) := by decide +kernel
theorem dX9_isLetter_17 : decode cX9_isLetter 17 = .ok (.ireturn, 1) := by decide +kernel
theorem dX9_isDigit_0 : decode cX9_isDigit 0 = .ok (.iload_n 0, 1) := by decide +kernel
theorem dX9_isDigit_1 : decode cX9_isDigit 1 = .ok (.bipush 48, 2) := by decide +kernel
theorem dX9_isDigit_3 : decode cX9_isDigit 3 = .ok (.if_icmp .lt 13, 3) := by decide +kernel
theorem dX9_isDigit_6 : decode cX9_isDigit 6 = .ok (.iload_n 0, 1) := by decide +kernel
theorem dX9_isDigit_7 : decode cX9_isDigit 7 = .ok (.bipush 57, 2) := by decide +kernel
theorem dX9_isDigit_9 : decode cX9_isDigit 9 = .ok (.if_icmp .gt 7, 3) := by decide +kernel
theorem dX9_isDigit_12 : decode cX9_isDigit 12 = .ok (.iconst 1, 1) := by decide +kernel
theorem dX9_isDigit_13 : decode cX9_isDigit 13 = .ok (.goto 4, 3) := by decide +kernel
theorem dX9_isDigit_16 : decode cX9_isDigit 16 = .ok (.iconst 0, 1) := by decide +kernel
theorem dX9_isDigit_17 : decode cX9_isDigit 17 = .ok (.ireturn, 1) := by decide +kernel
theorem dX9_advance_0 : decode cX9_advance 0 = .ok (.aload_n 0, 1) := by decide +kernel
theorem dX9_advance_1 : decode cX9_advance 1 = .ok (.aload_n 0, 1) := by decide +kernel
theorem dX9_advance_2 : decode cX9_advance 2 = .ok (.getfield 38, 3) := by decide +kernel
theorem dX9_advance_5 : decode cX9_advance 5 = .ok (.putfield 35, 3) := by decide +kernel
theorem dX9_advance_8 : decode cX9_advance 8 = .ok (.aload_n 0, 1) := by decide +kernel
theorem dX9_advance_9 : decode cX9_advance 9 = .ok (.getfield 35, 3) := by decide +kernel
theorem dX9_advance_12 : decode cX9_advance 12 = .ok (.aload_n 0, 1) := by decide +kernel
theorem dX9_advance_13 : decode cX9_advance 13 = .ok (.getfield 9, 3) := by decide +kernel
theorem dX9_advance_16 : decode cX9_advance 16 = .ok (.if_icmp .ge 30, 3) := by decide +kernel
theorem dX9_advance_19 : decode cX9_advance 19 = .ok (.aload_n 0, 1) := by decide +kernel
theorem dX9_advance_20 : decode cX9_advance 20 = .ok (.aload_n 0, 1) := by decide +kernel
theorem dX9_advance_21 : decode cX9_advance 21 = .ok (.getfield 35, 3) := by decide +kernel
theorem dX9_advance_24 : decode cX9_advance 24 = .ok (.invokevirtual 184, 3) := by decide +kernel
theorem dX9_advance_27 : decode cX9_advance 27 = .ok (.invokestatic 192, 3) := by decide +kernel
theorem dX9_advance_30 : decode cX9_advance 30 = .ok (.ifCond .eq 16, 3) := by decide +kernel
theorem dX9_advance_33 : decode cX9_advance 33 = .ok (.aload_n 0, 1) := by decide +kernel
theorem dX9_advance_34 : decode cX9_advance 34 = .ok (.dup, 1) := by decide +kernel
theorem dX9_advance_35 : decode cX9_advance 35 = .ok (.getfield 35, 3) := by decide +kernel
theorem dX9_advance_38 : decode cX9_advance 38 = .ok (.iconst 1, 1) := by decide +kernel
theorem dX9_advance_39 : decode cX9_advance 39 = .ok (.iadd, 1) := by decide +kernel
theorem dX9_advance_40 : decode cX9_advance 40 = .ok (.putfield 35, 3) := by decide +kernel
theorem dX9_advance_43 : decode cX9_advance 43 = .ok (.goto (-35), 3) := by decide +kernel
theorem dX9_advance_46 : decode cX9_advance 46 = .ok (.aload_n 0, 1) := by decide +kernel
theorem dX9_advance_47 : decode cX9_advance 47 = .ok (.aload_n 0, 1) := by decide +kernel
theorem dX9_advance_48 : decode cX9_advance 48 = .ok (.getfield 35, 3) := by decide +kernel
theorem dX9_advance_51 : decode cX9_advance 51 = .ok (.putfield 38, 3) := by decide +kernel
theorem dX9_advance_54 : decode cX9_advance 54 = .ok (.aload_n 0, 1) := by decide +kernel
theorem dX9_advance_55 : decode cX9_advance 55 = .ok (.iconst 0, 1) := by decide +kernel
theorem dX9_advance_56 : decode cX9_advance 56 = .ok (.putfield 41, 3) := by decide +kernel
theorem dX9_advance_59 : decode cX9_advance 59 = .ok (.aload_n 0, 1) := by decide +kernel
theorem dX9_advance_60 : decode cX9_advance 60 = .ok (.getfield 35, 3) := by decide +kernel
theorem dX9_advance_63 : decode cX9_advance 63 = .ok (.aload_n 0, 1) := by decide +kernel
theorem dX9_advance_64 : decode cX9_advance 64 = .ok (.getfield 9, 3) := by decide +kernel
theorem dX9_advance_67 : decode cX9_advance 67 = .ok (.if_icmp .lt 11, 3) := by decide +kernel
theorem dX9_advance_70 : decode cX9_advance 70 = .ok (.aload_n 0, 1) := by decide +kernel
theorem dX9_advance_71 : decode cX9_advance 71 = .ok (.iconst 0, 1) := by decide +kernel
theorem dX9_advance_72 : decode cX9_advance 72 = .ok (.putfield 32, 3) := by decide +kernel
theorem dX9_advance_75 : decode cX9_advance 75 = .ok (.goto 177, 3) := by decide +kernel
theorem dX9_advance_78 : decode cX9_advance 78 = .ok (.aload_n 0, 1) := by decide +kernel
theorem dX9_advance_79 : decode cX9_advance 79 = .ok (.aload_n 0, 1) := by decide +kernel
theorem dX9_advance_80 : decode cX9_advance 80 = .ok (.getfield 35, 3) := by decide +kernel
theorem dX9_advance_83 : decode cX9_advance 83 = .ok (.invokevirtual 184, 3) := by decide +kernel
theorem dX9_advance_86 : decode cX9_advance 86 = .ok (.invokestatic 195, 3) := by decide +kernel
theorem dX9_advance_89 : decode cX9_advance 89 = .ok (.ifCond .eq 46, 3) := by decide +kernel
theorem dX9_advance_92 : decode cX9_advance 92 = .ok (.aload_n 0, 1) := by decide +kernel
theorem dX9_advance_93 : decode cX9_advance 93 = .ok (.iconst 1, 1) := by decide +kernel
theorem dX9_advance_94 : decode cX9_advance 94 = .ok (.putfield 32, 3) := by decide +kernel
theorem dX9_advance_97 : decode cX9_advance 97 = .ok (.aload_n 0, 1) := by decide +kernel
theorem dX9_advance_98 : decode cX9_advance 98 = .ok (.getfield 38, 3) := by decide +kernel
theorem dX9_advance_101 : decode cX9_advance 101 = .ok (.aload_n 0, 1) := by decide +kernel
theorem dX9_advance_102 : decode cX9_advance 102 = .ok (.getfield 9, 3) := by decide +kernel
theorem dX9_advance_105 : decode cX9_advance 105 = .ok (.if_icmp .ge 147, 3) := by decide +kernel
theorem dX9_advance_108 : decode cX9_advance 108 = .ok (.aload_n 0, 1) := by decide +kernel
theorem dX9_advance_109 : decode cX9_advance 109 = .ok (.aload_n 0, 1) := by decide +kernel
theorem dX9_advance_110 : decode cX9_advance 110 = .ok (.getfield 38, 3) := by decide +kernel
theorem dX9_advance_113 : decode cX9_advance 113 = .ok (.invokevirtual 184, 3) := by decide +kernel
theorem dX9_advance_116 : decode cX9_advance 116 = .ok (.invokestatic 195, 3) := by decide +kernel
theorem dX9_advance_119 : decode cX9_advance 119 = .ok (.ifCond .eq 133, 3) := by decide +kernel
theorem dX9_advance_122 : decode cX9_advance 122 = .ok (.aload_n 0, 1) := by decide +kernel
theorem dX9_advance_123 : decode cX9_advance 123 = .ok (.dup, 1) := by decide +kernel
theorem dX9_advance_124 : decode cX9_advance 124 = .ok (.getfield 38, 3) := by decide +kernel
theorem dX9_advance_127 : decode cX9_advance 127 = .ok (.iconst 1, 1) := by decide +kernel
theorem dX9_advance_128 : decode cX9_advance 128 = .ok (.iadd, 1) := by decide +kernel
theorem dX9_advance_129 : decode cX9_advance 129 = .ok (.putfield 38, 3) := by decide +kernel
theorem dX9_advance_132 : decode cX9_advance 132 = .ok (.goto (-35), 3) := by decide +kernel
theorem dX9_advance_135 : decode cX9_advance 135 = .ok (.aload_n 0, 1) := by decide +kernel
theorem dX9_advance_136 : decode cX9_advance 136 = .ok (.aload_n 0, 1) := by decide +kernel
theorem dX9_advance_137 : decode cX9_advance 137 = .ok (.getfield 35, 3) := by decide +kernel
theorem dX9_advance_140 : decode cX9_advance 140 = .ok (.invokevirtual 184, 3) := by decide +kernel
theorem dX9_advance_143 : decode cX9_advance 143 = .ok (.invokestatic 198, 3) := by decide +kernel
theorem dX9_advance_146 : decode cX9_advance 146 = .ok (.ifCond .eq 74, 3) := by decide +kernel
theorem dX9_advance_149 : decode cX9_advance 149 = .ok (.aload_n 0, 1) := by decide +kernel
theorem dX9_advance_150 : decode cX9_advance 150 = .ok (.iconst 2, 1) := by decide +kernel
theorem dX9_advance_151 : decode cX9_advance 151 = .ok (.putfield 32, 3) := by decide +kernel
theorem dX9_advance_154 : decode cX9_advance 154 = .ok (.aload_n 0, 1) := by decide +kernel
theorem dX9_advance_155 : decode cX9_advance 155 = .ok (.getfield 38, 3) := by decide +kernel
theorem dX9_advance_158 : decode cX9_advance 158 = .ok (.aload_n 0, 1) := by decide +kernel
theorem dX9_advance_159 : decode cX9_advance 159 = .ok (.getfield 9, 3) := by decide +kernel
theorem dX9_advance_162 : decode cX9_advance 162 = .ok (.if_icmp .ge 90, 3) := by decide +kernel
theorem dX9_advance_165 : decode cX9_advance 165 = .ok (.aload_n 0, 1) := by decide +kernel
theorem dX9_advance_166 : decode cX9_advance 166 = .ok (.aload_n 0, 1) := by decide +kernel
theorem dX9_advance_167 : decode cX9_advance 167 = .ok (.getfield 38, 3) := by decide +kernel
theorem dX9_advance_170 : decode cX9_advance 170 = .ok (.invokevirtual 184, 3) := by decide +kernel
theorem dX9_advance_173 : decode cX9_advance 173 = .ok (.invokestatic 198, 3) := by decide +kernel
theorem dX9_advance_176 : decode cX9_advance 176 = .ok (.ifCond .eq 76, 3) := by decide +kernel
theorem dX9_advance_179 : decode cX9_advance 179 = .ok (.aload_n 0, 1) := by decide +kernel
theorem dX9_advance_180 : decode cX9_advance 180 = .ok (.aload_n 0, 1) := by decide +kernel
theorem dX9_advance_181 : decode cX9_advance 181 = .ok (.getfield 41, 3) := by decide +kernel
theorem dX9_advance_184 : decode cX9_advance 184 = .ok (.bipush 10, 2) := by decide +kernel
theorem dX9_advance_186 : decode cX9_advance 186 = .ok (.imul, 1) := by decide +kernel
theorem dX9_advance_187 : decode cX9_advance 187 = .ok (.aload_n 0, 1) := by decide +kernel
theorem dX9_advance_188 : decode cX9_advance 188 = .ok (.aload_n 0, 1) := by decide +kernel
theorem dX9_advance_189 : decode cX9_advance 189 = .ok (.getfield 38, 3) := by decide +kernel
theorem dX9_advance_192 : decode cX9_advance 192 = .ok (.invokevirtual 184, 3) := by decide +kernel
theorem dX9_advance_195 : decode cX9_advance 195 = .ok (.iadd, 1) := by decide +kernel
theorem dX9_advance_196 : decode cX9_advance 196 = .ok (.bipush 48, 2) := by decide +kernel
theorem dX9_advance_198 : decode cX9_advance 198 = .ok (.isub, 1) := by decide +kernel
theorem dX9_advance_199 : decode cX9_advance 199 = .ok (.ldc 201, 2) := by decide +kernel
theorem dX9_advance_201 : decode cX9_advance 201 = .ok (.invokestatic 202, 3) := by decide +kernel
theorem dX9_advance_204 : decode cX9_advance 204 = .ok (.putfield 41, 3) := by decide +kernel
theorem dX9_advance_207 : decode cX9_advance 207 = .ok (.aload_n 0, 1) := by decide +kernel
theorem dX9_advance_208 : decode cX9_advance 208 = .ok (.dup, 1) := by decide +kernel
theorem dX9_advance_209 : decode cX9_advance 209 = .ok (.getfield 38, 3) := by decide +kernel
theorem dX9_advance_212 : decode cX9_advance 212 = .ok (.iconst 1, 1) := by decide +kernel
theorem dX9_advance_213 : decode cX9_advance 213 = .ok (.iadd, 1) := by decide +kernel
theorem dX9_advance_214 : decode cX9_advance 214 = .ok (.putfield 38, 3) := by decide +kernel
theorem dX9_advance_217 : decode cX9_advance 217 = .ok (.goto (-63), 3) := by decide +kernel
theorem dX9_advance_220 : decode cX9_advance 220 = .ok (.aload_n 0, 1) := by decide +kernel
theorem dX9_advance_221 : decode cX9_advance 221 = .ok (.aload_n 0, 1) := by decide +kernel
theorem dX9_advance_222 : decode cX9_advance 222 = .ok (.aload_n 0, 1) := by decide +kernel
theorem dX9_advance_223 : decode cX9_advance 223 = .ok (.getfield 35, 3) := by decide +kernel
theorem dX9_advance_226 : decode cX9_advance 226 = .ok (.invokevirtual 184, 3) := by decide +kernel
theorem dX9_advance_229 : decode cX9_advance 229 = .ok (.bipush 59, 2) := by decide +kernel
theorem dX9_advance_231 : decode cX9_advance 231 = .ok (.if_icmp .ne 7, 3) := by decide +kernel
theorem dX9_advance_234 : decode cX9_advance 234 = .ok (.iconst 3, 1) := by decide +kernel
theorem dX9_advance_235 : decode cX9_advance 235 = .ok (.goto 4, 3) := by decide +kernel
theorem dX9_advance_238 : decode cX9_advance 238 = .ok (.iconst 4, 1) := by decide +kernel
theorem dX9_advance_239 : decode cX9_advance 239 = .ok (.putfield 32, 3) := by decide +kernel
theorem dX9_advance_242 : decode cX9_advance 242 = .ok (.aload_n 0, 1) := by decide +kernel
theorem dX9_advance_243 : decode cX9_advance 243 = .ok (.aload_n 0, 1) := by decide +kernel
theorem dX9_advance_244 : decode cX9_advance 244 = .ok (.getfield 35, 3) := by decide +kernel
theorem dX9_advance_247 : decode cX9_advance 247 = .ok (.iconst 1, 1) := by decide +kernel
theorem dX9_advance_248 : decode cX9_advance 248 = .ok (.iadd, 1) := by decide +kernel
theorem dX9_advance_249 : decode cX9_advance 249 = .ok (.putfield 38, 3) := by decide +kernel
theorem dX9_advance_252 : decode cX9_advance 252 = .ok (.return_, 1) := by decide +kernel
theorem dX10_init_0 : decode cX10_init 0 = .ok (.aload_n 0, 1) := by decide +kernel
theorem dX10_init_1 : decode cX10_init 1 = .ok (.invokespecial 3, 3) := by decide +kernel
theorem dX10_init_4 : decode cX10_init 4 = .ok (.aload_n 0, 1) := by decide +kernel
theorem dX10_init_5 : decode cX10_init 5 = .ok (.iconst 0, 1) := by decide +kernel
theorem dX10_init_6 : decode cX10_init 6 = .ok (.putfield 9, 3) := by decide +kernel
theorem dX10_init_9 : decode cX10_init 9 = .ok (.aload_n 0, 1) := by decide +kernel
theorem dX10_init_10 : decode cX10_init 10 = .ok (.iconst 0, 1) := by decide +kernel
theorem dX10_init_11 : decode cX10_init 11 = .ok (.putfield 15, 3) := by decide +kernel
theorem dX10_init_14 : decode cX10_init 14 = .ok (.aload_n 0, 1) := by decide +kernel
theorem dX10_init_15 : decode cX10_init 15 = .ok (.iconst 0, 1) := by decide +kernel
theorem dX10_init_16 : decode cX10_init 16 = .ok (.putfield 18, 3) := by decide +kernel
theorem dX10_init_19 : decode cX10_init 19 = .ok (.aload_n 0, 1) := by decide +kernel
theorem dX10_init_20 : decode cX10_init 20 = .ok (.bipush 10, 2) := by decide +kernel
theorem dX10_init_22 : decode cX10_init 22 = .ok (.newarray .int, 2) := by decide +kernel
theorem dX10_init_24 : decode cX10_init 24 = .ok (.putfield 21, 3) := by decide +kernel
theorem dX10_init_27 : decode cX10_init 27 = .ok (.aload_n 0, 1) := by decide +kernel
theorem dX10_init_28 : decode cX10_init 28 = .ok (.bipush 10, 2) := by decide +kernel
theorem dX10_init_30 : decode cX10_init 30 = .ok (.newarray .int, 2) := by decide +kernel
theorem dX10_init_32 : decode cX10_init 32 = .ok (.putfield 25, 3) := by decide +kernel
theorem dX10_init_35 : decode cX10_init 35 = .ok (.aload_n 0, 1) := by decide +kernel
theorem dX10_init_36 : decode cX10_init 36 = .ok (.bipush 10, 2) := by decide +kernel
theorem dX10_init_38 : decode cX10_init 38 = .ok (.newarray .int, 2) := by decide +kernel
theorem dX10_init_40 : decode cX10_init 40 = .ok (.putfield 28, 3) := by decide +kernel
theorem dX10_init_43 : decode cX10_init 43 = .ok (.aload_n 0, 1) := by decide +kernel
theorem dX10_init_44 : decode cX10_init 44 = .ok (.bipush 10, 2) := by decide +kernel
theorem dX10_init_46 : decode cX10_init 46 = .ok (.newarray .int, 2) := by decide +kernel
theorem dX10_init_48 : decode cX10_init 48 = .ok (.putfield 31, 3) := by decide +kernel
theorem dX10_init_51 : decode cX10_init 51 = .ok (.aload_n 0, 1) := by decide +kernel
theorem dX10_init_52 : decode cX10_init 52 = .ok (.iconst 0, 1) := by decide +kernel
theorem dX10_init_53 : decode cX10_init 53 = .ok (.putfield 34, 3) := by decide +kernel
theorem dX10_init_56 : decode cX10_init 56 = .ok (.aload_n 0, 1) := by decide +kernel
theorem dX10_init_57 : decode cX10_init 57 = .ok (.iconst 0, 1) := by decide +kernel
theorem dX10_init_58 : decode cX10_init 58 = .ok (.putfield 37, 3) := by decide +kernel
theorem dX10_init_61 : decode cX10_init 61 = .ok (.aload_n 0, 1) := by decide +kernel
theorem dX10_init_62 : decode cX10_init 62 = .ok (.iconst 4, 1) := by decide +kernel
theorem dX10_init_63 : decode cX10_init 63 = .ok (.newarray .int, 2) := by decide +kernel
theorem dX10_init_65 : decode cX10_init 65 = .ok (.putfield 40, 3) := by decide +kernel
theorem dX10_init_68 : decode cX10_init 68 = .ok (.aload_n 0, 1) := by decide +kernel
theorem dX10_init_69 : decode cX10_init 69 = .ok (.iconst 4, 1) := by decide +kernel
theorem dX10_init_70 : decode cX10_init 70 = .ok (.newarray .int, 2) := by decide +kernel
theorem dX10_init_72 : decode cX10_init 72 = .ok (.putfield 43, 3) := by decide +kernel
theorem dX10_init_75 : decode cX10_init 75 = .ok (.aload_n 0, 1) := by decide +kernel
theorem dX10_init_76 : decode cX10_init 76 = .ok (.iconst 0, 1) := by decide +kernel
theorem dX10_init_77 : decode cX10_init 77 = .ok (.putfield 46, 3) := by decide +kernel
theorem dX10_init_80 : decode cX10_init 80 = .ok (.aload_n 0, 1) := by decide +kernel
theorem dX10_init_81 : decode cX10_init 81 = .ok (.bipush 6, 2) := by decide +kernel
theorem dX10_init_83 : decode cX10_init 83 = .ok (.newarray .int, 2) := by decide +kernel
theorem dX10_init_85 : decode cX10_init 85 = .ok (.putfield 49, 3) := by decide +kernel
theorem dX10_init_88 : decode cX10_init 88 = .ok (.aload_n 0, 1) := by decide +kernel
theorem dX10_init_89 : decode cX10_init 89 = .ok (.bipush 6, 2) := by decide +kernel
theorem dX10_init_91 : decode cX10_init 91 = .ok (.newarray .int, 2) := by decide +kernel
theorem dX10_init_93 : decode cX10_init 93 = .ok (.putfield 52, 3) := by decide +kernel
theorem dX10_init_96 : decode cX10_init 96 = .ok (.aload_n 0, 1) := by decide +kernel
theorem dX10_init_97 : decode cX10_init 97 = .ok (.bipush 6, 2) := by decide +kernel
theorem dX10_init_99 : decode cX10_init 99 = .ok (.newarray .int, 2) := by decide +kernel
theorem dX10_init_101 : decode cX10_init 101 = .ok (.putfield 55, 3) := by decide +kernel
theorem dX10_init_104 : decode cX10_init 104 = .ok (.aload_n 0, 1) := by decide +kernel
theorem dX10_init_105 : decode cX10_init 105 = .ok (.bipush 6, 2) := by decide +kernel
theorem dX10_init_107 : decode cX10_init 107 = .ok (.newarray .int, 2) := by decide +kernel
theorem dX10_init_109 : decode cX10_init 109 = .ok (.putfield 58, 3) := by decide +kernel
theorem dX10_init_112 : decode cX10_init 112 = .ok (.aload_n 0, 1) := by decide +kernel
theorem dX10_init_113 : decode cX10_init 113 = .ok (.iconst 0, 1) := by decide +kernel
theorem dX10_init_114 : decode cX10_init 114 = .ok (.putfield 61, 3) := by decide +kernel
theorem dX10_init_117 : decode cX10_init 117 = .ok (.aload_n 0, 1) := by decide +kernel
theorem dX10_init_118 : decode cX10_init 118 = .ok (.iconst 2, 1) := by decide +kernel
theorem dX10_init_119 : decode cX10_init 119 = .ok (.newarray .int, 2) := by decide +kernel
theorem dX10_init_121 : decode cX10_init 121 = .ok (.putfield 64, 3) := by decide +kernel
theorem dX10_init_124 : decode cX10_init 124 = .ok (.aload_n 0, 1) := by decide +kernel
theorem dX10_init_125 : decode cX10_init 125 = .ok (.iconst 2, 1) := by decide +kernel
theorem dX10_init_126 : decode cX10_init 126 = .ok (.newarray .int, 2) := by decide +kernel
theorem dX10_init_128 : decode cX10_init 128 = .ok (.putfield 67, 3) := by decide +kernel
theorem dX10_init_131 : decode cX10_init 131 = .ok (.aload_n 0, 1) := by decide +kernel
theorem dX10_init_132 : decode cX10_init 132 = .ok (.new 70, 3) := by decide +kernel
theorem dX10_init_135 : decode cX10_init 135 = .ok (.dup, 1) := by decide +kernel
theorem dX10_init_136 : decode cX10_init 136 = .ok (.invokespecial 72, 3) := by decide +kernel
theorem dX10_init_139 : decode cX10_init 139 = .ok (.putfield 73, 3) := by decide +kernel
theorem dX10_init_142 : decode cX10_init 142 = .ok (.return_, 1) := by decide +kernel
theorem dX10_clear_0 : decode cX10_clear 0 = .ok (.aload_n 0, 1) := by decide +kernel
theorem dX10_clear_1 : decode cX10_clear 1 = .ok (.iconst 0, 1) := by decide +kernel
theorem dX10_clear_2 : decode cX10_clear 2 = .ok (.putfield 9, 3) := by decide +kernel
theorem dX10_clear_5 : decode cX10_clear 5 = .ok (.aload_n 0, 1) := by decide +kernel
theorem dX10_clear_6 : decode cX10_clear 6 = .ok (.iconst 0, 1) := by decide +kernel
theorem dX10_clear_7 : decode cX10_clear 7 = .ok (.putfield 15, 3) := by decide +kernel
theorem dX10_clear_10 : decode cX10_clear 10 = .ok (.aload_n 0, 1) := by decide +kernel
theorem dX10_clear_11 : decode cX10_clear 11 = .ok (.iconst 0, 1) := by decide +kernel
theorem dX10_clear_12 : decode cX10_clear 12 = .ok (.putfield 18, 3) := by decide +kernel
theorem dX10_clear_15 : decode cX10_clear 15 = .ok (.aload_n 0, 1) := by decide +kernel
theorem dX10_clear_16 : decode cX10_clear 16 = .ok (.iconst 0, 1) := by decide +kernel
theorem dX10_clear_17 : decode cX10_clear 17 = .ok (.putfield 34, 3) := by decide +kernel
theorem dX10_clear_20 : decode cX10_clear 20 = .ok (.aload_n 0, 1) := by decide +kernel
theorem dX10_clear_21 : decode cX10_clear 21 = .ok (.iconst 0, 1) := by decide +kernel
theorem dX10_clear_22 : decode cX10_clear 22 = .ok (.putfield 37, 3) := by decide +kernel
theorem dX10_clear_25 : decode cX10_clear 25 = .ok (.aload_n 0, 1) := by decide +kernel
theorem dX10_clear_26 : decode cX10_clear 26 = .ok (.iconst 0, 1) := by decide +kernel
theorem dX10_clear_27 : decode cX10_clear 27 = .ok (.putfield 46, 3) := by decide +kernel
theorem dX10_clear_30 : decode cX10_clear 30 = .ok (.aload_n 0, 1) := by decide +kernel
theorem dX10_clear_31 : decode cX10_clear 31 = .ok (.iconst 0, 1) := by decide +kernel
theorem dX10_clear_32 : decode cX10_clear 32 = .ok (.putfield 61, 3) := by decide +kernel
theorem dX10_clear_35 : decode cX10_clear 35 = .ok (.aload_n 0, 1) := by decide +kernel
theorem dX10_clear_36 : decode cX10_clear 36 = .ok (.getfield 73, 3) := by decide +kernel
theorem dX10_clear_39 : decode cX10_clear 39 = .ok (.iconst 0, 1) := by decide +kernel
theorem dX10_clear_40 : decode cX10_clear 40 = .ok (.putfield 77, 3) := by decide +kernel
theorem dX10_clear_43 : decode cX10_clear 43 = .ok (.return_, 1) := by decide +kernel
theorem dX10_become_0 : decode cX10_become 0 = .ok (.aload_n 0, 1) := by decide +kernel
theorem dX10_become_1 : decode cX10_become 1 = .ok (.aload_n 1, 1) := by decide +kernel
theorem dX10_become_2 : decode cX10_become 2 = .ok (.getfield 9, 3) := by decide +kernel
theorem dX10_become_5 : decode cX10_become 5 = .ok (.putfield 9, 3) := by decide +kernel
theorem dX10_become_8 : decode cX10_become 8 = .ok (.aload_n 0, 1) := by decide +kernel
theorem dX10_become_9 : decode cX10_become 9 = .ok (.aload_n 1, 1) := by decide +kernel
theorem dX10_become_10 : decode cX10_become 10 = .ok (.getfield 15, 3) := by decide +kernel
theorem dX10_become_13 : decode cX10_become 13 = .ok (.putfield 15, 3) := by decide +kernel
theorem dX10_become_16 : decode cX10_become 16 = .ok (.aload_n 0, 1) := by decide +kernel
theorem dX10_become_17 : decode cX10_become 17 = .ok (.aload_n 1, 1) := by decide +kernel
theorem dX10_become_18 : decode cX10_become 18 = .ok (.getfield 18, 3) := by decide +kernel
theorem dX10_become_21 : decode cX10_become 21 = .ok (.putfield 18, 3) := by decide +kernel
theorem dX10_become_24 : decode cX10_become 24 = .ok (.aload_n 1, 1) := by decide +kernel
theorem dX10_become_25 : decode cX10_become 25 = .ok (.getfield 21, 3) := by decide +kernel
theorem dX10_become_28 : decode cX10_become 28 = .ok (.iconst 0, 1) := by decide +kernel
theorem dX10_become_29 : decode cX10_become 29 = .ok (.aload_n 0, 1) := by decide +kernel
theorem dX10_become_30 : decode cX10_become 30 = .ok (.getfield 21, 3) := by decide +kernel
theorem dX10_become_33 : decode cX10_become 33 = .ok (.iconst 0, 1) := by decide +kernel
theorem dX10_become_34 : decode cX10_become 34 = .ok (.bipush 10, 2) := by decide +kernel
theorem dX10_become_36 : decode cX10_become 36 = .ok (.invokestatic 80, 3) := by decide +kernel
theorem dX10_become_39 : decode cX10_become 39 = .ok (.aload_n 1, 1) := by decide +kernel
theorem dX10_become_40 : decode cX10_become 40 = .ok (.getfield 25, 3) := by decide +kernel
theorem dX10_become_43 : decode cX10_become 43 = .ok (.iconst 0, 1) := by decide +kernel
theorem dX10_become_44 : decode cX10_become 44 = .ok (.aload_n 0, 1) := by decide +kernel
theorem dX10_become_45 : decode cX10_become 45 = .ok (.getfield 25, 3) := by decide +kernel
theorem dX10_become_48 : decode cX10_become 48 = .ok (.iconst 0, 1) := by decide +kernel
theorem dX10_become_49 : decode cX10_become 49 = .ok (.bipush 10, 2) := by decide +kernel
theorem dX10_become_51 : decode cX10_become 51 = .ok (.invokestatic 80, 3) := by decide +kernel
theorem dX10_become_54 : decode cX10_become 54 = .ok (.aload_n 1, 1) := by decide +kernel
theorem dX10_become_55 : decode cX10_become 55 = .ok (.getfield 28, 3) := by decide +kernel
theorem dX10_become_58 : decode cX10_become 58 = .ok (.iconst 0, 1) := by decide +kernel
theorem dX10_become_59 : decode cX10_become 59 = .ok (.aload_n 0, 1) := by decide +kernel
theorem dX10_become_60 : decode cX10_become 60 = .ok (.getfield 28, 3) := by decide +kernel
theorem dX10_become_63 : decode cX10_become 63 = .ok (.iconst 0, 1) := by decide +kernel
theorem dX10_become_64 : decode cX10_become 64 = .ok (.bipush 10, 2) := by decide +kernel
theorem dX10_become_66 : decode cX10_become 66 = .ok (.invokestatic 80, 3) := by decide +kernel
theorem dX10_become_69 : decode cX10_become 69 = .ok (.aload_n 1, 1) := by decide +kernel
theorem dX10_become_70 : decode cX10_become 70 = .ok (.getfield 31, 3) := by decide +kernel
theorem dX10_become_73 : decode cX10_become 73 = .ok (.iconst 0, 1) := by decide +kernel
theorem dX10_become_74 : decode cX10_become 74 = .ok (.aload_n 0, 1) := by decide +kernel
theorem dX10_become_75 : decode cX10_become 75 = .ok (.getfield 31, 3) := by decide +kernel
theorem dX10_become_78 : decode cX10_become 78 = .ok (.iconst 0, 1) := by decide +kernel
theorem dX10_become_79 : decode cX10_become 79 = .ok (.bipush 10, 2) := by decide +kernel
theorem dX10_become_81 : decode cX10_become 81 = .ok (.invokestatic 80, 3) := by decide +kernel
theorem dX10_become_84 : decode cX10_become 84 = .ok (.aload_n 0, 1) := by decide +kernel
theorem dX10_become_85 : decode cX10_become 85 = .ok (.aload_n 1, 1) := by decide +kernel
theorem dX10_become_86 : decode cX10_become 86 = .ok (.getfield 34, 3) := by decide +kernel
theorem dX10_become_89 : decode cX10_become 89 = .ok (.putfield 34, 3) := by decide +kernel
theorem dX10_become_92 : decode cX10_become 92 = .ok (.aload_n 0, 1) := by decide +kernel
theorem dX10_become_93 : decode cX10_become 93 = .ok (.aload_n 1, 1) := by decide +kernel
