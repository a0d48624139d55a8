theorem dX10_become_94 : decode cX10_become 94 = .ok (.getfield 37, 3) := by decide +kernel
theorem dX10_become_97 : decode cX10_become 97 = .ok (.putfield 37, 3) := by decide +kernel
theorem dX10_become_100 : decode cX10_become 100 = .ok (.aload_n 1, 1) := by decide +kernel
theorem dX10_become_101 : decode cX10_become 101 = .ok (.getfield 40, 3) := by decide +kernel
theorem dX10_become_104 : decode cX10_become 104 = .ok (.iconst 0, 1) := by decide +kernel
theorem dX10_become_105 : decode cX10_become 105 = .ok (.aload_n 0, 1) := by decide +kernel
theorem dX10_become_106 : decode cX10_become 106 = .ok (.getfield 40, 3) := by decide +kernel
theorem dX10_become_109 : decode cX10_become 109 = .ok (.iconst 0, 1) := by decide +kernel
theorem dX10_become_110 : decode cX10_become 110 = .ok (.iconst 4, 1) := by decide +kernel
theorem dX10_become_111 : decode cX10_become 111 = .ok (.invokestatic 80, 3) := by decide +kernel
theorem dX10_become_114 : decode cX10_become 114 = .ok (.aload_n 1, 1) := by decide +kernel
theorem dX10_become_115 : decode cX10_become 115 = .ok (.getfield 43, 3) := by decide +kernel
theorem dX10_become_118 : decode cX10_become 118 = .ok (.iconst 0, 1) := by decide +kernel
theorem dX10_become_119 : decode cX10_become 119 = .ok (.aload_n 0, 1) := by decide +kernel
theorem dX10_become_120 : decode cX10_become 120 = .ok (.getfield 43, 3) := by decide +kernel
theorem dX10_become_123 : decode cX10_become 123 = .ok (.iconst 0, 1) := by decide +kernel
theorem dX10_become_124 : decode cX10_become 124 = .ok (.iconst 4, 1) := by decide +kernel
theorem dX10_become_125 : decode cX10_become 125 = .ok (.invokestatic 80, 3) := by decide +kernel
theorem dX10_become_128 : decode cX10_become 128 = .ok (.aload_n 0, 1) := by decide +kernel
theorem dX10_become_129 : decode cX10_become 129 = .ok (.aload_n 1, 1) := by decide +kernel
theorem dX10_become_130 : decode cX10_become 130 = .ok (.getfield 46, 3) := by decide +kernel
theorem dX10_become_133 : decode cX10_become 133 = .ok (.putfield 46, 3) := by decide +kernel
theorem dX10_become_136 : decode cX10_become 136 = .ok (.aload_n 1, 1) := by decide +kernel
theorem dX10_become_137 : decode cX10_become 137 = .ok (.getfield 49, 3) := by decide +kernel
theorem dX10_become_140 : decode cX10_become 140 = .ok (.iconst 0, 1) := by decide +kernel
theorem dX10_become_141 : decode cX10_become 141 = .ok (.aload_n 0, 1) := by decide +kernel
theorem dX10_become_142 : decode cX10_become 142 = .ok (.getfield 49, 3) := by decide +kernel
theorem dX10_become_145 : decode cX10_become 145 = .ok (.iconst 0, 1) := by decide +kernel
theorem dX10_become_146 : decode cX10_become 146 = .ok (.bipush 6, 2) := by decide +kernel
theorem dX10_become_148 : decode cX10_become 148 = .ok (.invokestatic 80, 3) := by decide +kernel
theorem dX10_become_151 : decode cX10_become 151 = .ok (.aload_n 1, 1) := by decide +kernel
theorem dX10_become_152 : decode cX10_become 152 = .ok (.getfield 52, 3) := by decide +kernel
theorem dX10_become_155 : decode cX10_become 155 = .ok (.iconst 0, 1) := by decide +kernel
theorem dX10_become_156 : decode cX10_become 156 = .ok (.aload_n 0, 1) := by decide +kernel
theorem dX10_become_157 : decode cX10_become 157 = .ok (.getfield 52, 3) := by decide +kernel
theorem dX10_become_160 : decode cX10_become 160 = .ok (.iconst 0, 1) := by decide +kernel
theorem dX10_become_161 : decode cX10_become 161 = .ok (.bipush 6, 2) := by decide +kernel
theorem dX10_become_163 : decode cX10_become 163 = .ok (.invokestatic 80, 3) := by decide +kernel
theorem dX10_become_166 : decode cX10_become 166 = .ok (.aload_n 1, 1) := by decide +kernel
theorem dX10_become_167 : decode cX10_become 167 = .ok (.getfield 55, 3) := by decide +kernel
theorem dX10_become_170 : decode cX10_become 170 = .ok (.iconst 0, 1) := by decide +kernel
theorem dX10_become_171 : decode cX10_become 171 = .ok (.aload_n 0, 1) := by decide +kernel
theorem dX10_become_172 : decode cX10_become 172 = .ok (.getfield 55, 3) := by decide +kernel
theorem dX10_become_175 : decode cX10_become 175 = .ok (.iconst 0, 1) := by decide +kernel
theorem dX10_become_176 : decode cX10_become 176 = .ok (.bipush 6, 2) := by decide +kernel
theorem dX10_become_178 : decode cX10_become 178 = .ok (.invokestatic 80, 3) := by decide +kernel
theorem dX10_become_181 : decode cX10_become 181 = .ok (.aload_n 1, 1) := by decide +kernel
theorem dX10_become_182 : decode cX10_become 182 = .ok (.getfield 58, 3) := by decide +kernel
theorem dX10_become_185 : decode cX10_become 185 = .ok (.iconst 0, 1) := by decide +kernel
theorem dX10_become_186 : decode cX10_become 186 = .ok (.aload_n 0, 1) := by decide +kernel
theorem dX10_become_187 : decode cX10_become 187 = .ok (.getfield 58, 3) := by decide +kernel
theorem dX10_become_190 : decode cX10_become 190 = .ok (.iconst 0, 1) := by decide +kernel
theorem dX10_become_191 : decode cX10_become 191 = .ok (.bipush 6, 2) := by decide +kernel
theorem dX10_become_193 : decode cX10_become 193 = .ok (.invokestatic 80, 3) := by decide +kernel
theorem dX10_become_196 : decode cX10_become 196 = .ok (.aload_n 0, 1) := by decide +kernel
theorem dX10_become_197 : decode cX10_become 197 = .ok (.aload_n 1, 1) := by decide +kernel
theorem dX10_become_198 : decode cX10_become 198 = .ok (.getfield 61, 3) := by decide +kernel
theorem dX10_become_201 : decode cX10_become 201 = .ok (.putfield 61, 3) := by decide +kernel
theorem dX10_become_204 : decode cX10_become 204 = .ok (.aload_n 1, 1) := by decide +kernel
theorem dX10_become_205 : decode cX10_become 205 = .ok (.getfield 64, 3) := by decide +kernel
theorem dX10_become_208 : decode cX10_become 208 = .ok (.iconst 0, 1) := by decide +kernel
theorem dX10_become_209 : decode cX10_become 209 = .ok (.aload_n 0, 1) := by decide +kernel
theorem dX10_become_210 : decode cX10_become 210 = .ok (.getfield 64, 3) := by decide +kernel
theorem dX10_become_213 : decode cX10_become 213 = .ok (.iconst 0, 1) := by decide +kernel
theorem dX10_become_214 : decode cX10_become 214 = .ok (.iconst 2, 1) := by decide +kernel
theorem dX10_become_215 : decode cX10_become 215 = .ok (.invokestatic 80, 3) := by decide +kernel
theorem dX10_become_218 : decode cX10_become 218 = .ok (.aload_n 1, 1) := by decide +kernel
theorem dX10_become_219 : decode cX10_become 219 = .ok (.getfield 67, 3) := by decide +kernel
theorem dX10_become_222 : decode cX10_become 222 = .ok (.iconst 0, 1) := by decide +kernel
theorem dX10_become_223 : decode cX10_become 223 = .ok (.aload_n 0, 1) := by decide +kernel
theorem dX10_become_224 : decode cX10_become 224 = .ok (.getfield 67, 3) := by decide +kernel
theorem dX10_become_227 : decode cX10_become 227 = .ok (.iconst 0, 1) := by decide +kernel
theorem dX10_become_228 : decode cX10_become 228 = .ok (.iconst 2, 1) := by decide +kernel
theorem dX10_become_229 : decode cX10_become 229 = .ok (.invokestatic 80, 3) := by decide +kernel
theorem dX10_become_232 : decode cX10_become 232 = .ok (.aload_n 0, 1) := by decide +kernel
theorem dX10_become_233 : decode cX10_become 233 = .ok (.getfield 73, 3) := by decide +kernel
theorem dX10_become_236 : decode cX10_become 236 = .ok (.aload_n 1, 1) := by decide +kernel
theorem dX10_become_237 : decode cX10_become 237 = .ok (.getfield 73, 3) := by decide +kernel
theorem dX10_become_240 : decode cX10_become 240 = .ok (.invokevirtual 86, 3) := by decide +kernel
theorem dX10_become_243 : decode cX10_become 243 = .ok (.return_, 1) := by decide +kernel
theorem dX10_openLanes_0 : decode cX10_openLanes 0 = .ok (.iconst 1, 1) := by decide +kernel
theorem dX10_openLanes_1 : decode cX10_openLanes 1 = .ok (.aload_n 0, 1) := by decide +kernel
theorem dX10_openLanes_2 : decode cX10_openLanes 2 = .ok (.getfield 18, 3) := by decide +kernel
theorem dX10_openLanes_5 : decode cX10_openLanes 5 = .ok (.ishl, 1) := by decide +kernel
theorem dX10_openLanes_6 : decode cX10_openLanes 6 = .ok (.iconst 1, 1) := by decide +kernel
theorem dX10_openLanes_7 : decode cX10_openLanes 7 = .ok (.isub, 1) := by decide +kernel
theorem dX10_openLanes_8 : decode cX10_openLanes 8 = .ok (.aload_n 0, 1) := by decide +kernel
theorem dX10_openLanes_9 : decode cX10_openLanes 9 = .ok (.getfield 34, 3) := by decide +kernel
theorem dX10_openLanes_12 : decode cX10_openLanes 12 = .ok (.iconst (-1), 1) := by decide +kernel
theorem dX10_openLanes_13 : decode cX10_openLanes 13 = .ok (.ixor, 1) := by decide +kernel
theorem dX10_openLanes_14 : decode cX10_openLanes 14 = .ok (.iand, 1) := by decide +kernel
theorem dX10_openLanes_15 : decode cX10_openLanes 15 = .ok (.ireturn, 1) := by decide +kernel
theorem dX10_setBarred_0 : decode cX10_setBarred 0 = .ok (.aload_n 0, 1) := by decide +kernel
theorem dX10_setBarred_1 : decode cX10_setBarred 1 = .ok (.iload_n 2, 1) := by decide +kernel
theorem dX10_setBarred_2 : decode cX10_setBarred 2 = .ok (.iconst 1, 1) := by decide +kernel
theorem dX10_setBarred_3 : decode cX10_setBarred 3 = .ok (.if_icmp .ne 14, 3) := by decide +kernel
theorem dX10_setBarred_6 : decode cX10_setBarred 6 = .ok (.aload_n 0, 1) := by decide +kernel
theorem dX10_setBarred_7 : decode cX10_setBarred 7 = .ok (.getfield 34, 3) := by decide +kernel
theorem dX10_setBarred_10 : decode cX10_setBarred 10 = .ok (.iconst 1, 1) := by decide +kernel
theorem dX10_setBarred_11 : decode cX10_setBarred 11 = .ok (.iload_n 1, 1) := by decide +kernel
theorem dX10_setBarred_12 : decode cX10_setBarred 12 = .ok (.ishl, 1) := by decide +kernel
theorem dX10_setBarred_13 : decode cX10_setBarred 13 = .ok (.ior, 1) := by decide +kernel
theorem dX10_setBarred_14 : decode cX10_setBarred 14 = .ok (.goto 13, 3) := by decide +kernel
theorem dX10_setBarred_17 : decode cX10_setBarred 17 = .ok (.aload_n 0, 1) := by decide +kernel
theorem dX10_setBarred_18 : decode cX10_setBarred 18 = .ok (.getfield 34, 3) := by decide +kernel
theorem dX10_setBarred_21 : decode cX10_setBarred 21 = .ok (.iconst 1, 1) := by decide +kernel
theorem dX10_setBarred_22 : decode cX10_setBarred 22 = .ok (.iload_n 1, 1) := by decide +kernel
theorem dX10_setBarred_23 : decode cX10_setBarred 23 = .ok (.ishl, 1) := by decide +kernel
theorem dX10_setBarred_24 : decode cX10_setBarred 24 = .ok (.iconst (-1), 1) := by decide +kernel
theorem dX10_setBarred_25 : decode cX10_setBarred 25 = .ok (.ixor, 1) := by decide +kernel
theorem dX10_setBarred_26 : decode cX10_setBarred 26 = .ok (.iand, 1) := by decide +kernel
theorem dX10_setBarred_27 : decode cX10_setBarred 27 = .ok (.putfield 34, 3) := by decide +kernel
theorem dX10_setBarred_30 : decode cX10_setBarred 30 = .ok (.return_, 1) := by decide +kernel
theorem dX10_takeBack_0 : decode cX10_takeBack 0 = .ok (.aload_n 0, 1) := by decide +kernel
theorem dX10_takeBack_1 : decode cX10_takeBack 1 = .ok (.getfield 73, 3) := by decide +kernel
theorem dX10_takeBack_4 : decode cX10_takeBack 4 = .ok (.getfield 77, 3) := by decide +kernel
theorem dX10_takeBack_7 : decode cX10_takeBack 7 = .ok (.ifCond .gt 4, 3) := by decide +kernel
theorem dX10_takeBack_10 : decode cX10_takeBack 10 = .ok (.return_, 1) := by decide +kernel
theorem dX10_takeBack_11 : decode cX10_takeBack 11 = .ok (.aload_n 0, 1) := by decide +kernel
theorem dX10_takeBack_12 : decode cX10_takeBack 12 = .ok (.getfield 73, 3) := by decide +kernel
theorem dX10_takeBack_15 : decode cX10_takeBack 15 = .ok (.dup, 1) := by decide +kernel
theorem dX10_takeBack_16 : decode cX10_takeBack 16 = .ok (.getfield 77, 3) := by decide +kernel
theorem dX10_takeBack_19 : decode cX10_takeBack 19 = .ok (.iconst 1, 1) := by decide +kernel
theorem dX10_takeBack_20 : decode cX10_takeBack 20 = .ok (.isub, 1) := by decide +kernel
theorem dX10_takeBack_21 : decode cX10_takeBack 21 = .ok (.putfield 77, 3) := by decide +kernel
theorem dX10_takeBack_24 : decode cX10_takeBack 24 = .ok (.aload_n 0, 1) := by decide +kernel
theorem dX10_takeBack_25 : decode cX10_takeBack 25 = .ok (.getfield 73, 3) := by decide +kernel
theorem dX10_takeBack_28 : decode cX10_takeBack 28 = .ok (.getfield 90, 3) := by decide +kernel
theorem dX10_takeBack_31 : decode cX10_takeBack 31 = .ok (.aload_n 0, 1) := by decide +kernel
theorem dX10_takeBack_32 : decode cX10_takeBack 32 = .ok (.getfield 73, 3) := by decide +kernel
theorem dX10_takeBack_35 : decode cX10_takeBack 35 = .ok (.getfield 77, 3) := by decide +kernel
theorem dX10_takeBack_38 : decode cX10_takeBack 38 = .ok (.iaload, 1) := by decide +kernel
theorem dX10_takeBack_39 : decode cX10_takeBack 39 = .ok (.istore_n 1, 1) := by decide +kernel
theorem dX10_takeBack_40 : decode cX10_takeBack 40 = .ok (.aload_n 0, 1) := by decide +kernel
theorem dX10_takeBack_41 : decode cX10_takeBack 41 = .ok (.getfield 73, 3) := by decide +kernel
theorem dX10_takeBack_44 : decode cX10_takeBack 44 = .ok (.getfield 93, 3) := by decide +kernel
theorem dX10_takeBack_47 : decode cX10_takeBack 47 = .ok (.aload_n 0, 1) := by decide +kernel
theorem dX10_takeBack_48 : decode cX10_takeBack 48 = .ok (.getfield 73, 3) := by decide +kernel
theorem dX10_takeBack_51 : decode cX10_takeBack 51 = .ok (.getfield 77, 3) := by decide +kernel
theorem dX10_takeBack_54 : decode cX10_takeBack 54 = .ok (.iaload, 1) := by decide +kernel
theorem dX10_takeBack_55 : decode cX10_takeBack 55 = .ok (.istore_n 2, 1) := by decide +kernel
theorem dX10_takeBack_56 : decode cX10_takeBack 56 = .ok (.aload_n 0, 1) := by decide +kernel
theorem dX10_takeBack_57 : decode cX10_takeBack 57 = .ok (.getfield 73, 3) := by decide +kernel
theorem dX10_takeBack_60 : decode cX10_takeBack 60 = .ok (.getfield 96, 3) := by decide +kernel
theorem dX10_takeBack_63 : decode cX10_takeBack 63 = .ok (.aload_n 0, 1) := by decide +kernel
theorem dX10_takeBack_64 : decode cX10_takeBack 64 = .ok (.getfield 73, 3) := by decide +kernel
theorem dX10_takeBack_67 : decode cX10_takeBack 67 = .ok (.getfield 77, 3) := by decide +kernel
theorem dX10_takeBack_70 : decode cX10_takeBack 70 = .ok (.iaload, 1) := by decide +kernel
theorem dX10_takeBack_71 : decode cX10_takeBack 71 = .ok (.ifCond .ne 12, 3) := by decide +kernel
theorem dX10_takeBack_74 : decode cX10_takeBack 74 = .ok (.aload_n 0, 1) := by decide +kernel
theorem dX10_takeBack_75 : decode cX10_takeBack 75 = .ok (.iload_n 1, 1) := by decide +kernel
theorem dX10_takeBack_76 : decode cX10_takeBack 76 = .ok (.iload_n 2, 1) := by decide +kernel
theorem dX10_takeBack_77 : decode cX10_takeBack 77 = .ok (.invokevirtual 99, 3) := by decide +kernel
theorem dX10_takeBack_80 : decode cX10_takeBack 80 = .ok (.goto 22, 3) := by decide +kernel
theorem dX10_takeBack_83 : decode cX10_takeBack 83 = .ok (.iload_n 1, 1) := by decide +kernel
theorem dX10_takeBack_84 : decode cX10_takeBack 84 = .ok (.ifCond .lt 18, 3) := by decide +kernel
theorem dX10_takeBack_87 : decode cX10_takeBack 87 = .ok (.iload_n 1, 1) := by decide +kernel
theorem dX10_takeBack_88 : decode cX10_takeBack 88 = .ok (.aload_n 0, 1) := by decide +kernel
theorem dX10_takeBack_89 : decode cX10_takeBack 89 = .ok (.getfield 37, 3) := by decide +kernel
theorem dX10_takeBack_92 : decode cX10_takeBack 92 = .ok (.if_icmp .ge 10, 3) := by decide +kernel
theorem dX10_takeBack_95 : decode cX10_takeBack 95 = .ok (.aload_n 0, 1) := by decide +kernel
theorem dX10_takeBack_96 : decode cX10_takeBack 96 = .ok (.getfield 43, 3) := by decide +kernel
theorem dX10_takeBack_99 : decode cX10_takeBack 99 = .ok (.iload_n 1, 1) := by decide +kernel
theorem dX10_takeBack_100 : decode cX10_takeBack 100 = .ok (.iload_n 2, 1) := by decide +kernel
theorem dX10_takeBack_101 : decode cX10_takeBack 101 = .ok (.iastore, 1) := by decide +kernel
theorem dX10_takeBack_102 : decode cX10_takeBack 102 = .ok (.return_, 1) := by decide +kernel
theorem dX10_dearestBut_0 : decode cX10_dearestBut 0 = .ok (.iconst (-1), 1) := by decide +kernel
theorem dX10_dearestBut_1 : decode cX10_dearestBut 1 = .ok (.istore_n 2, 1) := by decide +kernel
theorem dX10_dearestBut_2 : decode cX10_dearestBut 2 = .ok (.iconst (-1), 1) := by decide +kernel
theorem dX10_dearestBut_3 : decode cX10_dearestBut 3 = .ok (.istore_n 3, 1) := by decide +kernel
theorem dX10_dearestBut_4 : decode cX10_dearestBut 4 = .ok (.iconst 0, 1) := by decide +kernel
theorem dX10_dearestBut_5 : decode cX10_dearestBut 5 = .ok (.istore 4, 2) := by decide +kernel
theorem dX10_dearestBut_7 : decode cX10_dearestBut 7 = .ok (.iload 4, 2) := by decide +kernel
theorem dX10_dearestBut_9 : decode cX10_dearestBut 9 = .ok (.aload_n 0, 1) := by decide +kernel
theorem dX10_dearestBut_10 : decode cX10_dearestBut 10 = .ok (.getfield 46, 3) := by decide +kernel
theorem dX10_dearestBut_13 : decode cX10_dearestBut 13 = .ok (.if_icmp .ge 37, 3) := by decide +kernel
theorem dX10_dearestBut_16 : decode cX10_dearestBut 16 = .ok (.iload 4, 2) := by decide +kernel
theorem dX10_dearestBut_18 : decode cX10_dearestBut 18 = .ok (.iload_n 1, 1) := by decide +kernel
theorem dX10_dearestBut_19 : decode cX10_dearestBut 19 = .ok (.if_icmp .eq 25, 3) := by decide +kernel
theorem dX10_dearestBut_22 : decode cX10_dearestBut 22 = .ok (.aload_n 0, 1) := by decide +kernel
theorem dX10_dearestBut_23 : decode cX10_dearestBut 23 = .ok (.getfield 55, 3) := by decide +kernel
theorem dX10_dearestBut_26 : decode cX10_dearestBut 26 = .ok (.iload 4, 2) := by decide +kernel
theorem dX10_dearestBut_28 : decode cX10_dearestBut 28 = .ok (.iaload, 1) := by decide +kernel
theorem dX10_dearestBut_29 : decode cX10_dearestBut 29 = .ok (.iload_n 3, 1) := by decide +kernel
theorem dX10_dearestBut_30 : decode cX10_dearestBut 30 = .ok (.if_icmp .le 14, 3) := by decide +kernel
theorem dX10_dearestBut_33 : decode cX10_dearestBut 33 = .ok (.aload_n 0, 1) := by decide +kernel
theorem dX10_dearestBut_34 : decode cX10_dearestBut 34 = .ok (.getfield 55, 3) := by decide +kernel
theorem dX10_dearestBut_37 : decode cX10_dearestBut 37 = .ok (.iload 4, 2) := by decide +kernel
theorem dX10_dearestBut_39 : decode cX10_dearestBut 39 = .ok (.iaload, 1) := by decide +kernel
theorem dX10_dearestBut_40 : decode cX10_dearestBut 40 = .ok (.istore_n 3, 1) := by decide +kernel
theorem dX10_dearestBut_41 : decode cX10_dearestBut 41 = .ok (.iload 4, 2) := by decide +kernel
theorem dX10_dearestBut_43 : decode cX10_dearestBut 43 = .ok (.istore_n 2, 1) := by decide +kernel
theorem dX10_dearestBut_44 : decode cX10_dearestBut 44 = .ok (.iinc 4 1, 3) := by decide +kernel
theorem dX10_dearestBut_47 : decode cX10_dearestBut 47 = .ok (.goto (-40), 3) := by decide +kernel
theorem dX10_dearestBut_50 : decode cX10_dearestBut 50 = .ok (.iload_n 2, 1) := by decide +kernel
theorem dX10_dearestBut_51 : decode cX10_dearestBut 51 = .ok (.ireturn, 1) := by decide +kernel
theorem dX11_init_0 : decode cX11_init 0 = .ok (.aload_n 0, 1) := by decide +kernel
theorem dX11_init_1 : decode cX11_init 1 = .ok (.invokespecial 3, 3) := by decide +kernel
theorem dX11_init_4 : decode cX11_init 4 = .ok (.aload_n 0, 1) := by decide +kernel
theorem dX11_init_5 : decode cX11_init 5 = .ok (.new 9, 3) := by decide +kernel
theorem dX11_init_8 : decode cX11_init 8 = .ok (.dup, 1) := by decide +kernel
theorem dX11_init_9 : decode cX11_init 9 = .ok (.invokespecial 11, 3) := by decide +kernel
theorem dX11_init_12 : decode cX11_init 12 = .ok (.putfield 12, 3) := by decide +kernel
theorem dX11_init_15 : decode cX11_init 15 = .ok (.aload_n 0, 1) := by decide +kernel
theorem dX11_init_16 : decode cX11_init 16 = .ok (.new 16, 3) := by decide +kernel
theorem dX11_init_19 : decode cX11_init 19 = .ok (.dup, 1) := by decide +kernel
theorem dX11_init_20 : decode cX11_init 20 = .ok (.invokespecial 18, 3) := by decide +kernel
theorem dX11_init_23 : decode cX11_init 23 = .ok (.putfield 19, 3) := by decide +kernel
theorem dX11_init_26 : decode cX11_init 26 = .ok (.aload_n 0, 1) := by decide +kernel
theorem dX11_init_27 : decode cX11_init 27 = .ok (.iconst 3, 1) := by decide +kernel
theorem dX11_init_28 : decode cX11_init 28 = .ok (.anewarray 16, 3) := by decide +kernel
theorem dX11_init_31 : decode cX11_init 31 = .ok (.dup, 1) := by decide +kernel
theorem dX11_init_32 : decode cX11_init 32 = .ok (.iconst 0, 1) := by decide +kernel
theorem dX11_init_33 : decode cX11_init 33 = .ok (.new 16, 3) := by decide +kernel
theorem dX11_init_36 : decode cX11_init 36 = .ok (.dup, 1) := by decide +kernel
theorem dX11_init_37 : decode cX11_init 37 = .ok (.invokespecial 18, 3) := by decide +kernel
theorem dX11_init_40 : decode cX11_init 40 = .ok (.aastore, 1) := by decide +kernel
theorem dX11_init_41 : decode cX11_init 41 = .ok (.dup, 1) := by decide +kernel
theorem dX11_init_42 : decode cX11_init 42 = .ok (.iconst 1, 1) := by decide +kernel
theorem dX11_init_43 : decode cX11_init 43 = .ok (.new 16, 3) := by decide +kernel
theorem dX11_init_46 : decode cX11_init 46 = .ok (.dup, 1) := by decide +kernel
theorem dX11_init_47 : decode cX11_init 47 = .ok (.invokespecial 18, 3) := by decide +kernel
theorem dX11_init_50 : decode cX11_init 50 = .ok (.aastore, 1) := by decide +kernel
theorem dX11_init_51 : decode cX11_init 51 = .ok (.dup, 1) := by decide +kernel
theorem dX11_init_52 : decode cX11_init 52 = .ok (.iconst 2, 1) := by decide +kernel
theorem dX11_init_53 : decode cX11_init 53 = .ok (.new 16, 3) := by decide +kernel
theorem dX11_init_56 : decode cX11_init 56 = .ok (.dup, 1) := by decide +kernel
theorem dX11_init_57 : decode cX11_init 57 = .ok (.invokespecial 18, 3) := by decide +kernel
theorem dX11_init_60 : decode cX11_init 60 = .ok (.aastore, 1) := by decide +kernel
theorem dX11_init_61 : decode cX11_init 61 = .ok (.putfield 23, 3) := by decide +kernel
theorem dX11_init_64 : decode cX11_init 64 = .ok (.aload_n 0, 1) := by decide +kernel
theorem dX11_init_65 : decode cX11_init 65 = .ok (.iconst 0, 1) := by decide +kernel
theorem dX11_init_66 : decode cX11_init 66 = .ok (.putfield 27, 3) := by decide +kernel
theorem dX11_init_69 : decode cX11_init 69 = .ok (.aload_n 0, 1) := by decide +kernel
theorem dX11_init_70 : decode cX11_init 70 = .ok (.new 31, 3) := by decide +kernel
theorem dX11_init_73 : decode cX11_init 73 = .ok (.dup, 1) := by decide +kernel
theorem dX11_init_74 : decode cX11_init 74 = .ok (.invokespecial 33, 3) := by decide +kernel
theorem dX11_init_77 : decode cX11_init 77 = .ok (.putfield 34, 3) := by decide +kernel
theorem dX11_init_80 : decode cX11_init 80 = .ok (.aload_n 0, 1) := by decide +kernel
theorem dX11_init_81 : decode cX11_init 81 = .ok (.new 38, 3) := by decide +kernel
theorem dX11_init_84 : decode cX11_init 84 = .ok (.dup, 1) := by decide +kernel
theorem dX11_init_85 : decode cX11_init 85 = .ok (.invokespecial 40, 3) := by decide +kernel
theorem dX11_init_88 : decode cX11_init 88 = .ok (.putfield 41, 3) := by decide +kernel
theorem dX11_init_91 : decode cX11_init 91 = .ok (.aload_n 0, 1) := by decide +kernel
theorem dX11_init_92 : decode cX11_init 92 = .ok (.new 38, 3) := by decide +kernel
theorem dX11_init_95 : decode cX11_init 95 = .ok (.dup, 1) := by decide +kernel
theorem dX11_init_96 : decode cX11_init 96 = .ok (.invokespecial 40, 3) := by decide +kernel
theorem dX11_init_99 : decode cX11_init 99 = .ok (.putfield 45, 3) := by decide +kernel
theorem dX11_init_102 : decode cX11_init 102 = .ok (.aload_n 0, 1) := by decide +kernel
theorem dX11_init_103 : decode cX11_init 103 = .ok (.new 48, 3) := by decide +kernel
theorem dX11_init_106 : decode cX11_init 106 = .ok (.dup, 1) := by decide +kernel
theorem dX11_init_107 : decode cX11_init 107 = .ok (.invokespecial 50, 3) := by decide +kernel
theorem dX11_init_110 : decode cX11_init 110 = .ok (.putfield 51, 3) := by decide +kernel
theorem dX11_init_113 : decode cX11_init 113 = .ok (.aload_n 0, 1) := by decide +kernel
theorem dX11_init_114 : decode cX11_init 114 = .ok (.new 55, 3) := by decide +kernel
theorem dX11_init_117 : decode cX11_init 117 = .ok (.dup, 1) := by decide +kernel
theorem dX11_init_118 : decode cX11_init 118 = .ok (.invokespecial 57, 3) := by decide +kernel
theorem dX11_init_121 : decode cX11_init 121 = .ok (.putfield 58, 3) := by decide +kernel
theorem dX11_init_124 : decode cX11_init 124 = .ok (.aload_n 0, 1) := by decide +kernel
theorem dX11_init_125 : decode cX11_init 125 = .ok (.new 62, 3) := by decide +kernel
theorem dX11_init_128 : decode cX11_init 128 = .ok (.dup, 1) := by decide +kernel
theorem dX11_init_129 : decode cX11_init 129 = .ok (.invokespecial 64, 3) := by decide +kernel
theorem dX11_init_132 : decode cX11_init 132 = .ok (.putfield 65, 3) := by decide +kernel
theorem dX11_init_135 : decode cX11_init 135 = .ok (.aload_n 0, 1) := by decide +kernel
theorem dX11_init_136 : decode cX11_init 136 = .ok (.new 69, 3) := by decide +kernel
theorem dX11_init_139 : decode cX11_init 139 = .ok (.dup, 1) := by decide +kernel
theorem dX11_init_140 : decode cX11_init 140 = .ok (.invokespecial 71, 3) := by decide +kernel
theorem dX11_init_143 : decode cX11_init 143 = .ok (.putfield 72, 3) := by decide +kernel
theorem dX11_init_146 : decode cX11_init 146 = .ok (.aload_n 0, 1) := by decide +kernel
theorem dX11_init_147 : decode cX11_init 147 = .ok (.new 76, 3) := by decide +kernel
theorem dX11_init_150 : decode cX11_init 150 = .ok (.dup, 1) := by decide +kernel
theorem dX11_init_151 : decode cX11_init 151 = .ok (.invokespecial 78, 3) := by decide +kernel
theorem dX11_init_154 : decode cX11_init 154 = .ok (.putfield 79, 3) := by decide +kernel
theorem dX11_init_157 : decode cX11_init 157 = .ok (.aload_n 0, 1) := by decide +kernel
theorem dX11_init_158 : decode cX11_init 158 = .ok (.new 83, 3) := by decide +kernel
theorem dX11_init_161 : decode cX11_init 161 = .ok (.dup, 1) := by decide +kernel
theorem dX11_init_162 : decode cX11_init 162 = .ok (.invokespecial 85, 3) := by decide +kernel
theorem dX11_init_165 : decode cX11_init 165 = .ok (.putfield 86, 3) := by decide +kernel
theorem dX11_init_168 : decode cX11_init 168 = .ok (.return_, 1) := by decide +kernel
theorem dX11_feed_0 : decode cX11_feed 0 = .ok (.aload_n 0, 1) := by decide +kernel
theorem dX11_feed_1 : decode cX11_feed 1 = .ok (.getfield 12, 3) := by decide +kernel
theorem dX11_feed_4 : decode cX11_feed 4 = .ok (.invokevirtual 90, 3) := by decide +kernel
theorem dX11_feed_7 : decode cX11_feed 7 = .ok (.ifCond .ne 5, 3) := by decide +kernel
theorem dX11_feed_10 : decode cX11_feed 10 = .ok (.iconst (-1), 1) := by decide +kernel
theorem dX11_feed_11 : decode cX11_feed 11 = .ok (.ireturn, 1) := by decide +kernel
theorem dX11_feed_12 : decode cX11_feed 12 = .ok (.aload_n 0, 1) := by decide +kernel
theorem dX11_feed_13 : decode cX11_feed 13 = .ok (.getfield 12, 3) := by decide +kernel
theorem dX11_feed_16 : decode cX11_feed 16 = .ok (.iload_n 1, 1) := by decide +kernel
theorem dX11_feed_17 : decode cX11_feed 17 = .ok (.invokevirtual 94, 3) := by decide +kernel
theorem dX11_feed_20 : decode cX11_feed 20 = .ok (.aload_n 0, 1) := by decide +kernel
theorem dX11_feed_21 : decode cX11_feed 21 = .ok (.getfield 12, 3) := by decide +kernel
theorem dX11_feed_24 : decode cX11_feed 24 = .ok (.iload_n 2, 1) := by decide +kernel
theorem dX11_feed_25 : decode cX11_feed 25 = .ok (.invokevirtual 94, 3) := by decide +kernel
theorem dX11_feed_28 : decode cX11_feed 28 = .ok (.aload_n 0, 1) := by decide +kernel
theorem dX11_feed_29 : decode cX11_feed 29 = .ok (.getfield 12, 3) := by decide +kernel
theorem dX11_feed_32 : decode cX11_feed 32 = .ok (.iload_n 3, 1) := by decide +kernel
theorem dX11_feed_33 : decode cX11_feed 33 = .ok (.invokevirtual 94, 3) := by decide +kernel
theorem dX11_feed_36 : decode cX11_feed 36 = .ok (.aload_n 0, 1) := by decide +kernel
theorem dX11_feed_37 : decode cX11_feed 37 = .ok (.getfield 12, 3) := by decide +kernel
theorem dX11_feed_40 : decode cX11_feed 40 = .ok (.iload 4, 2) := by decide +kernel
theorem dX11_feed_42 : decode cX11_feed 42 = .ok (.invokevirtual 94, 3) := by decide +kernel
theorem dX11_feed_45 : decode cX11_feed 45 = .ok (.aload_n 0, 1) := by decide +kernel
theorem dX11_feed_46 : decode cX11_feed 46 = .ok (.getfield 12, 3) := by decide +kernel
theorem dX11_feed_49 : decode cX11_feed 49 = .ok (.iload 5, 2) := by decide +kernel
theorem dX11_feed_51 : decode cX11_feed 51 = .ok (.invokevirtual 94, 3) := by decide +kernel
theorem dX11_feed_54 : decode cX11_feed 54 = .ok (.aload_n 0, 1) := by decide +kernel
theorem dX11_feed_55 : decode cX11_feed 55 = .ok (.getfield 12, 3) := by decide +kernel
theorem dX11_feed_58 : decode cX11_feed 58 = .ok (.getfield 98, 3) := by decide +kernel
theorem dX11_feed_61 : decode cX11_feed 61 = .ok (.ireturn, 1) := by decide +kernel
theorem dX11_end_0 : decode cX11_end 0 = .ok (.iload_n 1, 1) := by decide +kernel
theorem dX11_end_1 : decode cX11_end 1 = .ok (.ifCond .lt 14, 3) := by decide +kernel
theorem dX11_end_4 : decode cX11_end 4 = .ok (.iload_n 1, 1) := by decide +kernel
theorem dX11_end_5 : decode cX11_end 5 = .ok (.aload_n 0, 1) := by decide +kernel
theorem dX11_end_6 : decode cX11_end 6 = .ok (.getfield 12, 3) := by decide +kernel
theorem dX11_end_9 : decode cX11_end 9 = .ok (.getfield 98, 3) := by decide +kernel
theorem dX11_end_12 : decode cX11_end 12 = .ok (.if_icmp .le 5, 3) := by decide +kernel
theorem dX11_end_15 : decode cX11_end 15 = .ok (.iconst (-1), 1) := by decide +kernel
theorem dX11_end_16 : decode cX11_end 16 = .ok (.ireturn, 1) := by decide +kernel
theorem dX11_end_17 : decode cX11_end 17 = .ok (.aload_n 0, 1) := by decide +kernel
theorem dX11_end_18 : decode cX11_end 18 = .ok (.getfield 12, 3) := by decide +kernel
theorem dX11_end_21 : decode cX11_end 21 = .ok (.iload_n 1, 1) := by decide +kernel
theorem dX11_end_22 : decode cX11_end 22 = .ok (.putfield 98, 3) := by decide +kernel
theorem dX11_end_25 : decode cX11_end 25 = .ok (.iload_n 1, 1) := by decide +kernel
theorem dX11_end_26 : decode cX11_end 26 = .ok (.ireturn, 1) := by decide +kernel
theorem dX11_town_0 : decode cX11_town 0 = .ok (.aload_n 0, 1) := by decide +kernel
theorem dX11_town_1 : decode cX11_town 1 = .ok (.getfield 12, 3) := by decide +kernel
theorem dX11_town_4 : decode cX11_town 4 = .ok (.invokevirtual 101, 3) := by decide +kernel
theorem dX11_town_7 : decode cX11_town 7 = .ok (.ifCond .ne 6, 3) := by decide +kernel
theorem dX11_town_10 : decode cX11_town 10 = .ok (.bipush (-4), 2) := by decide +kernel
theorem dX11_town_12 : decode cX11_town 12 = .ok (.ireturn, 1) := by decide +kernel
theorem dX11_town_13 : decode cX11_town 13 = .ok (.aload_n 0, 1) := by decide +kernel
theorem dX11_town_14 : decode cX11_town 14 = .ok (.getfield 19, 3) := by decide +kernel
theorem dX11_town_17 : decode cX11_town 17 = .ok (.astore_n 1, 1) := by decide +kernel
theorem dX11_town_18 : decode cX11_town 18 = .ok (.aload_n 0, 1) := by decide +kernel
theorem dX11_town_19 : decode cX11_town 19 = .ok (.aload_n 0, 1) := by decide +kernel
theorem dX11_town_20 : decode cX11_town 20 = .ok (.getfield 12, 3) := by decide +kernel
theorem dX11_town_23 : decode cX11_town 23 = .ok (.getfield 104, 3) := by decide +kernel
theorem dX11_town_26 : decode cX11_town 26 = .ok (.putfield 19, 3) := by decide +kernel
theorem dX11_town_29 : decode cX11_town 29 = .ok (.aload_n 0, 1) := by decide +kernel
theorem dX11_town_30 : decode cX11_town 30 = .ok (.getfield 12, 3) := by decide +kernel
theorem dX11_town_33 : decode cX11_town 33 = .ok (.aload_n 1, 1) := by decide +kernel
theorem dX11_town_34 : decode cX11_town 34 = .ok (.putfield 104, 3) := by decide +kernel
theorem dX11_town_37 : decode cX11_town 37 = .ok (.aload_n 0, 1) := by decide +kernel
theorem dX11_town_38 : decode cX11_town 38 = .ok (.getfield 12, 3) := by decide +kernel
theorem dX11_town_41 : decode cX11_town 41 = .ok (.iconst 0, 1) := by decide +kernel
theorem dX11_town_42 : decode cX11_town 42 = .ok (.putfield 98, 3) := by decide +kernel
theorem dX11_town_45 : decode cX11_town 45 = .ok (.aload_n 0, 1) := by decide +kernel
theorem dX11_town_46 : decode cX11_town 46 = .ok (.getfield 19, 3) := by decide +kernel
theorem dX11_town_49 : decode cX11_town 49 = .ok (.getfield 107, 3) := by decide +kernel
theorem dX11_town_52 : decode cX11_town 52 = .ok (.ireturn, 1) := by decide +kernel
theorem dX11_fault_0 : decode cX11_fault 0 = .ok (.iload_n 1, 1) := by decide +kernel
theorem dX11_fault_1 : decode cX11_fault 1 = .ok (.ifCond .ne 13, 3) := by decide +kernel
theorem dX11_fault_4 : decode cX11_fault 4 = .ok (.aload_n 0, 1) := by decide +kernel
theorem dX11_fault_5 : decode cX11_fault 5 = .ok (.getfield 12, 3) := by decide +kernel
theorem dX11_fault_8 : decode cX11_fault 8 = .ok (.getfield 110, 3) := by decide +kernel
theorem dX11_fault_11 : decode cX11_fault 11 = .ok (.goto 19, 3) := by decide +kernel
theorem dX11_fault_14 : decode cX11_fault 14 = .ok (.iload_n 1, 1) := by decide +kernel
theorem dX11_fault_15 : decode cX11_fault 15 = .ok (.iconst 1, 1) := by decide +kernel
theorem dX11_fault_16 : decode cX11_fault 16 = .ok (.if_icmp .ne 13, 3) := by decide +kernel
theorem dX11_fault_19 : decode cX11_fault 19 = .ok (.aload_n 0, 1) := by decide +kernel
theorem dX11_fault_20 : decode cX11_fault 20 = .ok (.getfield 12, 3) := by decide +kernel
theorem dX11_fault_23 : decode cX11_fault 23 = .ok (.getfield 113, 3) := by decide +kernel
theorem dX11_fault_26 : decode cX11_fault 26 = .ok (.goto 4, 3) := by decide +kernel
theorem dX11_fault_29 : decode cX11_fault 29 = .ok (.iconst (-1), 1) := by decide +kernel
theorem dX11_fault_30 : decode cX11_fault 30 = .ok (.ireturn, 1) := by decide +kernel
theorem dX11_lane_0 : decode cX11_lane 0 = .ok (.aload_n 0, 1) := by decide +kernel
theorem dX11_lane_1 : decode cX11_lane 1 = .ok (.iload_n 1, 1) := by decide +kernel
theorem dX11_lane_2 : decode cX11_lane 2 = .ok (.invokevirtual 116, 3) := by decide +kernel
theorem dX11_lane_5 : decode cX11_lane 5 = .ok (.ifCond .ne 6, 3) := by decide +kernel
theorem dX11_lane_8 : decode cX11_lane 8 = .ok (.bipush (-2), 2) := by decide +kernel
theorem dX11_lane_10 : decode cX11_lane 10 = .ok (.ireturn, 1) := by decide +kernel
theorem dX11_lane_11 : decode cX11_lane 11 = .ok (.iload_n 2, 1) := by decide +kernel
theorem dX11_lane_12 : decode cX11_lane 12 = .ok (.tableswitch 88 0 4 #[36, 46, 56, 66, 76], 36) := by decide +kernel
theorem dX11_lane_48 : decode cX11_lane 48 = .ok (.aload_n 0, 1) := by decide +kernel
theorem dX11_lane_49 : decode cX11_lane 49 = .ok (.getfield 19, 3) := by decide +kernel
theorem dX11_lane_52 : decode cX11_lane 52 = .ok (.getfield 120, 3) := by decide +kernel
theorem dX11_lane_55 : decode cX11_lane 55 = .ok (.iload_n 1, 1) := by decide +kernel
theorem dX11_lane_56 : decode cX11_lane 56 = .ok (.iaload, 1) := by decide +kernel
theorem dX11_lane_57 : decode cX11_lane 57 = .ok (.ireturn, 1) := by decide +kernel
theorem dX11_lane_58 : decode cX11_lane 58 = .ok (.aload_n 0, 1) := by decide +kernel
theorem dX11_lane_59 : decode cX11_lane 59 = .ok (.getfield 19, 3) := by decide +kernel
theorem dX11_lane_62 : decode cX11_lane 62 = .ok (.getfield 124, 3) := by decide +kernel
theorem dX11_lane_65 : decode cX11_lane 65 = .ok (.iload_n 1, 1) := by decide +kernel
theorem dX11_lane_66 : decode cX11_lane 66 = .ok (.iaload, 1) := by decide +kernel
theorem dX11_lane_67 : decode cX11_lane 67 = .ok (.ireturn, 1) := by decide +kernel
theorem dX11_lane_68 : decode cX11_lane 68 = .ok (.aload_n 0, 1) := by decide +kernel
theorem dX11_lane_69 : decode cX11_lane 69 = .ok (.getfield 19, 3) := by decide +kernel
theorem dX11_lane_72 : decode cX11_lane 72 = .ok (.getfield 127, 3) := by decide +kernel
theorem dX11_lane_75 : decode cX11_lane 75 = .ok (.iload_n 1, 1) := by decide +kernel
theorem dX11_lane_76 : decode cX11_lane 76 = .ok (.iaload, 1) := by decide +kernel
theorem dX11_lane_77 : decode cX11_lane 77 = .ok (.ireturn, 1) := by decide +kernel
theorem dX11_lane_78 : decode cX11_lane 78 = .ok (.aload_n 0, 1) := by decide +kernel
theorem dX11_lane_79 : decode cX11_lane 79 = .ok (.getfield 19, 3) := by decide +kernel
theorem dX11_lane_82 : decode cX11_lane 82 = .ok (.getfield 130, 3) := by decide +kernel
theorem dX11_lane_85 : decode cX11_lane 85 = .ok (.iload_n 1, 1) := by decide +kernel
theorem dX11_lane_86 : decode cX11_lane 86 = .ok (.iaload, 1) := by decide +kernel
theorem dX11_lane_87 : decode cX11_lane 87 = .ok (.ireturn, 1) := by decide +kernel
theorem dX11_lane_88 : decode cX11_lane 88 = .ok (.aload_n 0, 1) := by decide +kernel
theorem dX11_lane_89 : decode cX11_lane 89 = .ok (.getfield 19, 3) := by decide +kernel
theorem dX11_lane_92 : decode cX11_lane 92 = .ok (.getfield 133, 3) := by decide +kernel
theorem dX11_lane_95 : decode cX11_lane 95 = .ok (.iload_n 1, 1) := by decide +kernel
theorem dX11_lane_96 : decode cX11_lane 96 = .ok (.ishr, 1) := by decide +kernel
theorem dX11_lane_97 : decode cX11_lane 97 = .ok (.iconst 1, 1) := by decide +kernel
theorem dX11_lane_98 : decode cX11_lane 98 = .ok (.iand, 1) := by decide +kernel
theorem dX11_lane_99 : decode cX11_lane 99 = .ok (.ireturn, 1) := by decide +kernel
theorem dX11_lane_100 : decode cX11_lane 100 = .ok (.bipush (-2), 2) := by decide +kernel
theorem dX11_lane_102 : decode cX11_lane 102 = .ok (.ireturn, 1) := by decide +kernel
theorem dX11_gate_0 : decode cX11_gate 0 = .ok (.aload_n 0, 1) := by decide +kernel
theorem dX11_gate_1 : decode cX11_gate 1 = .ok (.iload_n 1, 1) := by decide +kernel
theorem dX11_gate_2 : decode cX11_gate 2 = .ok (.invokevirtual 136, 3) := by decide +kernel
theorem dX11_gate_5 : decode cX11_gate 5 = .ok (.ifCond .ne 6, 3) := by decide +kernel
theorem dX11_gate_8 : decode cX11_gate 8 = .ok (.bipush (-2), 2) := by decide +kernel
theorem dX11_gate_10 : decode cX11_gate 10 = .ok (.ireturn, 1) := by decide +kernel
theorem dX11_gate_11 : decode cX11_gate 11 = .ok (.iload_n 2, 1) := by decide +kernel
theorem dX11_gate_12 : decode cX11_gate 12 = .ok (.ifCond .ne 15, 3) := by decide +kernel
theorem dX11_gate_15 : decode cX11_gate 15 = .ok (.aload_n 0, 1) := by decide +kernel
theorem dX11_gate_16 : decode cX11_gate 16 = .ok (.getfield 19, 3) := by decide +kernel
theorem dX11_gate_19 : decode cX11_gate 19 = .ok (.getfield 139, 3) := by decide +kernel
theorem dX11_gate_22 : decode cX11_gate 22 = .ok (.iload_n 1, 1) := by decide +kernel
theorem dX11_gate_23 : decode cX11_gate 23 = .ok (.iaload, 1) := by decide +kernel
theorem dX11_gate_24 : decode cX11_gate 24 = .ok (.goto 22, 3) := by decide +kernel
theorem dX11_gate_27 : decode cX11_gate 27 = .ok (.iload_n 2, 1) := by decide +kernel
theorem dX11_gate_28 : decode cX11_gate 28 = .ok (.iconst 1, 1) := by decide +kernel
theorem dX11_gate_29 : decode cX11_gate 29 = .ok (.if_icmp .ne 15, 3) := by decide +kernel
theorem dX11_gate_32 : decode cX11_gate 32 = .ok (.aload_n 0, 1) := by decide +kernel
theorem dX11_gate_33 : decode cX11_gate 33 = .ok (.getfield 19, 3) := by decide +kernel
theorem dX11_gate_36 : decode cX11_gate 36 = .ok (.getfield 142, 3) := by decide +kernel
theorem dX11_gate_39 : decode cX11_gate 39 = .ok (.iload_n 1, 1) := by decide +kernel
theorem dX11_gate_40 : decode cX11_gate 40 = .ok (.iaload, 1) := by decide +kernel
theorem dX11_gate_41 : decode cX11_gate 41 = .ok (.goto 5, 3) := by decide +kernel
theorem dX11_gate_44 : decode cX11_gate 44 = .ok (.bipush (-2), 2) := by decide +kernel
theorem dX11_gate_46 : decode cX11_gate 46 = .ok (.ireturn, 1) := by decide +kernel
theorem dX11_house_0 : decode cX11_house 0 = .ok (.aload_n 0, 1) := by decide +kernel
theorem dX11_house_1 : decode cX11_house 1 = .ok (.iload_n 1, 1) := by decide +kernel
theorem dX11_house_2 : decode cX11_house 2 = .ok (.invokevirtual 145, 3) := by decide +kernel
theorem dX11_house_5 : decode cX11_house 5 = .ok (.ifCond .ne 6, 3) := by decide +kernel
theorem dX11_house_8 : decode cX11_house 8 = .ok (.bipush (-2), 2) := by decide +kernel
theorem dX11_house_10 : decode cX11_house 10 = .ok (.ireturn, 1) := by decide +kernel
theorem dX11_house_11 : decode cX11_house 11 = .ok (.iload_n 2, 1) := by decide +kernel
theorem dX11_house_12 : decode cX11_house 12 = .ok (.tableswitch 72 0 3 #[32, 42, 52, 62], 32) := by decide +kernel
theorem dX11_house_44 : decode cX11_house 44 = .ok (.aload_n 0, 1) := by decide +kernel
theorem dX11_house_45 : decode cX11_house 45 = .ok (.getfield 19, 3) := by decide +kernel
theorem dX11_house_48 : decode cX11_house 48 = .ok (.getfield 148, 3) := by decide +kernel
theorem dX11_house_51 : decode cX11_house 51 = .ok (.iload_n 1, 1) := by decide +kernel
theorem dX11_house_52 : decode cX11_house 52 = .ok (.iaload, 1) := by decide +kernel
theorem dX11_house_53 : decode cX11_house 53 = .ok (.ireturn, 1) := by decide +kernel
theorem dX11_house_54 : decode cX11_house 54 = .ok (.aload_n 0, 1) := by decide +kernel
theorem dX11_house_55 : decode cX11_house 55 = .ok (.getfield 19, 3) := by decide +kernel
theorem dX11_house_58 : decode cX11_house 58 = .ok (.getfield 151, 3) := by decide +kernel
theorem dX11_house_61 : decode cX11_house 61 = .ok (.iload_n 1, 1) := by decide +kernel
theorem dX11_house_62 : decode cX11_house 62 = .ok (.iaload, 1) := by decide +kernel
theorem dX11_house_63 : decode cX11_house 63 = .ok (.ireturn, 1) := by decide +kernel
theorem dX11_house_64 : decode cX11_house 64 = .ok (.aload_n 0, 1) := by decide +kernel
theorem dX11_house_65 : decode cX11_house 65 = .ok (.getfield 19, 3) := by decide +kernel
theorem dX11_house_68 : decode cX11_house 68 = .ok (.getfield 154, 3) := by decide +kernel
theorem dX11_house_71 : decode cX11_house 71 = .ok (.iload_n 1, 1) := by decide +kernel
theorem dX11_house_72 : decode cX11_house 72 = .ok (.iaload, 1) := by decide +kernel
theorem dX11_house_73 : decode cX11_house 73 = .ok (.ireturn, 1) := by decide +kernel
theorem dX11_house_74 : decode cX11_house 74 = .ok (.aload_n 0, 1) := by decide +kernel
theorem dX11_house_75 : decode cX11_house 75 = .ok (.getfield 19, 3) := by decide +kernel
theorem dX11_house_78 : decode cX11_house 78 = .ok (.getfield 157, 3) := by decide +kernel
theorem dX11_house_81 : decode cX11_house 81 = .ok (.iload_n 1, 1) := by decide +kernel
theorem dX11_house_82 : decode cX11_house 82 = .ok (.iaload, 1) := by decide +kernel
theorem dX11_house_83 : decode cX11_house 83 = .ok (.ireturn, 1) := by decide +kernel
theorem dX11_house_84 : decode cX11_house 84 = .ok (.bipush (-2), 2) := by decide +kernel
theorem dX11_house_86 : decode cX11_house 86 = .ok (.ireturn, 1) := by decide +kernel
theorem dX11_comes_0 : decode cX11_comes 0 = .ok (.aload_n 0, 1) := by decide +kernel
theorem dX11_comes_1 : decode cX11_comes 1 = .ok (.iload_n 1, 1) := by decide +kernel
theorem dX11_comes_2 : decode cX11_comes 2 = .ok (.invokevirtual 160, 3) := by decide +kernel
theorem dX11_comes_5 : decode cX11_comes 5 = .ok (.ifCond .ne 6, 3) := by decide +kernel
theorem dX11_comes_8 : decode cX11_comes 8 = .ok (.bipush (-2), 2) := by decide +kernel
theorem dX11_comes_10 : decode cX11_comes 10 = .ok (.ireturn, 1) := by decide +kernel
theorem dX11_comes_11 : decode cX11_comes 11 = .ok (.aload_n 0, 1) := by decide +kernel
theorem dX11_comes_12 : decode cX11_comes 12 = .ok (.getfield 41, 3) := by decide +kernel
theorem dX11_comes_15 : decode cX11_comes 15 = .ok (.aload_n 0, 1) := by decide +kernel
theorem dX11_comes_16 : decode cX11_comes 16 = .ok (.getfield 19, 3) := by decide +kernel
theorem dX11_comes_19 : decode cX11_comes 19 = .ok (.invokevirtual 163, 3) := by decide +kernel
theorem dX11_comes_22 : decode cX11_comes 22 = .ok (.aload_n 0, 1) := by decide +kernel
theorem dX11_comes_23 : decode cX11_comes 23 = .ok (.getfield 41, 3) := by decide +kernel
theorem dX11_comes_26 : decode cX11_comes 26 = .ok (.getfield 167, 3) := by decide +kernel
theorem dX11_comes_29 : decode cX11_comes 29 = .ok (.iload_n 1, 1) := by decide +kernel
theorem dX11_comes_30 : decode cX11_comes 30 = .ok (.iaload, 1) := by decide +kernel
theorem dX11_comes_31 : decode cX11_comes 31 = .ok (.invokestatic 170, 3) := by decide +kernel
theorem dX11_comes_34 : decode cX11_comes 34 = .ok (.ireturn, 1) := by decide +kernel
theorem dX11_from_0 : decode cX11_from 0 = .ok (.aload_n 0, 1) := by decide +kernel
theorem dX11_from_1 : decode cX11_from 1 = .ok (.iload_n 1, 1) := by decide +kernel
theorem dX11_from_2 : decode cX11_from 2 = .ok (.invokevirtual 160, 3) := by decide +kernel
theorem dX11_from_5 : decode cX11_from 5 = .ok (.ifCond .ne 6, 3) := by decide +kernel
theorem dX11_from_8 : decode cX11_from 8 = .ok (.bipush (-2), 2) := by decide +kernel
theorem dX11_from_10 : decode cX11_from 10 = .ok (.ireturn, 1) := by decide +kernel
theorem dX11_from_11 : decode cX11_from 11 = .ok (.aload_n 0, 1) := by decide +kernel
theorem dX11_from_12 : decode cX11_from 12 = .ok (.getfield 41, 3) := by decide +kernel
theorem dX11_from_15 : decode cX11_from 15 = .ok (.aload_n 0, 1) := by decide +kernel
theorem dX11_from_16 : decode cX11_from 16 = .ok (.getfield 19, 3) := by decide +kernel
theorem dX11_from_19 : decode cX11_from 19 = .ok (.invokevirtual 163, 3) := by decide +kernel
theorem dX11_from_22 : decode cX11_from 22 = .ok (.aload_n 0, 1) := by decide +kernel
theorem dX11_from_23 : decode cX11_from 23 = .ok (.getfield 41, 3) := by decide +kernel
theorem dX11_from_26 : decode cX11_from 26 = .ok (.getfield 167, 3) := by decide +kernel
theorem dX11_from_29 : decode cX11_from 29 = .ok (.iload_n 1, 1) := by decide +kernel
theorem dX11_from_30 : decode cX11_from 30 = .ok (.iaload, 1) := by decide +kernel
theorem dX11_from_31 : decode cX11_from 31 = .ok (.istore_n 2, 1) := by decide +kernel
theorem dX11_from_32 : decode cX11_from 32 = .ok (.iload_n 2, 1) := by decide +kernel
theorem dX11_from_33 : decode cX11_from 33 = .ok (.ldc 174, 2) := by decide +kernel
theorem dX11_from_35 : decode cX11_from 35 = .ok (.if_icmp .lt 5, 3) := by decide +kernel
theorem dX11_from_38 : decode cX11_from 38 = .ok (.iconst (-1), 1) := by decide +kernel
theorem dX11_from_39 : decode cX11_from 39 = .ok (.ireturn, 1) := by decide +kernel
theorem dX11_from_40 : decode cX11_from 40 = .ok (.iconst 0, 1) := by decide +kernel
theorem dX11_from_41 : decode cX11_from 41 = .ok (.istore_n 3, 1) := by decide +kernel
theorem dX11_from_42 : decode cX11_from 42 = .ok (.iload_n 3, 1) := by decide +kernel
theorem dX11_from_43 : decode cX11_from 43 = .ok (.aload_n 0, 1) := by decide +kernel
theorem dX11_from_44 : decode cX11_from 44 = .ok (.getfield 19, 3) := by decide +kernel
theorem dX11_from_47 : decode cX11_from 47 = .ok (.getfield 175, 3) := by decide +kernel
theorem dX11_from_50 : decode cX11_from 50 = .ok (.if_icmp .ge 53, 3) := by decide +kernel
theorem dX11_from_53 : decode cX11_from 53 = .ok (.aload_n 0, 1) := by decide +kernel
theorem dX11_from_54 : decode cX11_from 54 = .ok (.getfield 45, 3) := by decide +kernel
theorem dX11_from_57 : decode cX11_from 57 = .ok (.aload_n 0, 1) := by decide +kernel
theorem dX11_from_58 : decode cX11_from 58 = .ok (.getfield 19, 3) := by decide +kernel
theorem dX11_from_61 : decode cX11_from 61 = .ok (.aload_n 0, 1) := by decide +kernel
theorem dX11_from_62 : decode cX11_from 62 = .ok (.getfield 19, 3) := by decide +kernel
theorem dX11_from_65 : decode cX11_from 65 = .ok (.getfield 139, 3) := by decide +kernel
theorem dX11_from_68 : decode cX11_from 68 = .ok (.iload_n 3, 1) := by decide +kernel
theorem dX11_from_69 : decode cX11_from 69 = .ok (.iaload, 1) := by decide +kernel
theorem dX11_from_70 : decode cX11_from 70 = .ok (.aload_n 0, 1) := by decide +kernel
theorem dX11_from_71 : decode cX11_from 71 = .ok (.getfield 19, 3) := by decide +kernel
theorem dX11_from_74 : decode cX11_from 74 = .ok (.getfield 142, 3) := by decide +kernel
theorem dX11_from_77 : decode cX11_from 77 = .ok (.iload_n 3, 1) := by decide +kernel
theorem dX11_from_78 : decode cX11_from 78 = .ok (.iaload, 1) := by decide +kernel
theorem dX11_from_79 : decode cX11_from 79 = .ok (.invokevirtual 178, 3) := by decide +kernel
theorem dX11_from_82 : decode cX11_from 82 = .ok (.aload_n 0, 1) := by decide +kernel
theorem dX11_from_83 : decode cX11_from 83 = .ok (.getfield 45, 3) := by decide +kernel
theorem dX11_from_86 : decode cX11_from 86 = .ok (.getfield 167, 3) := by decide +kernel
theorem dX11_from_89 : decode cX11_from 89 = .ok (.iload_n 1, 1) := by decide +kernel
theorem dX11_from_90 : decode cX11_from 90 = .ok (.iaload, 1) := by decide +kernel
theorem dX11_from_91 : decode cX11_from 91 = .ok (.iload_n 2, 1) := by decide +kernel
theorem dX11_from_92 : decode cX11_from 92 = .ok (.if_icmp .ne 5, 3) := by decide +kernel
theorem dX11_from_95 : decode cX11_from 95 = .ok (.iload_n 3, 1) := by decide +kernel
theorem dX11_from_96 : decode cX11_from 96 = .ok (.ireturn, 1) := by decide +kernel
theorem dX11_from_97 : decode cX11_from 97 = .ok (.iinc 3 1, 3) := by decide +kernel
theorem dX11_from_100 : decode cX11_from 100 = .ok (.goto (-58), 3) := by decide +kernel
theorem dX11_from_103 : decode cX11_from 103 = .ok (.iconst (-1), 1) := by decide +kernel
theorem dX11_from_104 : decode cX11_from 104 = .ok (.ireturn, 1) := by decide +kernel
theorem dX11_by_0 : decode cX11_by 0 = .ok (.aload_n 0, 1) := by decide +kernel
theorem dX11_by_1 : decode cX11_by 1 = .ok (.iload_n 1, 1) := by decide +kernel
theorem dX11_by_2 : decode cX11_by 2 = .ok (.invokevirtual 160, 3) := by decide +kernel
theorem dX11_by_5 : decode cX11_by 5 = .ok (.ifCond .ne 6, 3) := by decide +kernel
theorem dX11_by_8 : decode cX11_by 8 = .ok (.bipush (-2), 2) := by decide +kernel
theorem dX11_by_10 : decode cX11_by 10 = .ok (.ireturn, 1) := by decide +kernel
theorem dX11_by_11 : decode cX11_by 11 = .ok (.aload_n 0, 1) := by decide +kernel
theorem dX11_by_12 : decode cX11_by 12 = .ok (.getfield 41, 3) := by decide +kernel
theorem dX11_by_15 : decode cX11_by 15 = .ok (.aload_n 0, 1) := by decide +kernel
theorem dX11_by_16 : decode cX11_by 16 = .ok (.getfield 19, 3) := by decide +kernel
theorem dX11_by_19 : decode cX11_by 19 = .ok (.invokevirtual 163, 3) := by decide +kernel
theorem dX11_by_22 : decode cX11_by 22 = .ok (.aload_n 0, 1) := by decide +kernel
theorem dX11_by_23 : decode cX11_by 23 = .ok (.getfield 41, 3) := by decide +kernel
theorem dX11_by_26 : decode cX11_by 26 = .ok (.aload_n 0, 1) := by decide +kernel
theorem dX11_by_27 : decode cX11_by 27 = .ok (.getfield 19, 3) := by decide +kernel
theorem dX11_by_30 : decode cX11_by 30 = .ok (.iload_n 1, 1) := by decide +kernel
theorem dX11_by_31 : decode cX11_by 31 = .ok (.invokevirtual 182, 3) := by decide +kernel
theorem dX11_by_34 : decode cX11_by 34 = .ok (.ireturn, 1) := by decide +kernel
theorem dX11_light_0 : decode cX11_light 0 = .ok (.aload_n 0, 1) := by decide +kernel
theorem dX11_light_1 : decode cX11_light 1 = .ok (.invokevirtual 186, 3) := by decide +kernel
theorem dX11_light_4 : decode cX11_light 4 = .ok (.ifCond .ne 10, 3) := by decide +kernel
theorem dX11_light_7 : decode cX11_light 7 = .ok (.iload_n 1, 1) := by decide +kernel
theorem dX11_light_8 : decode cX11_light 8 = .ok (.invokestatic 189, 3) := by decide +kernel
theorem dX11_light_11 : decode cX11_light 11 = .ok (.ifCond .ne 6, 3) := by decide +kernel
theorem dX11_light_14 : decode cX11_light 14 = .ok (.bipush (-2), 2) := by decide +kernel
theorem dX11_light_16 : decode cX11_light 16 = .ok (.ireturn, 1) := by decide +kernel
theorem dX11_light_17 : decode cX11_light 17 = .ok (.aload_n 0, 1) := by decide +kernel
theorem dX11_light_18 : decode cX11_light 18 = .ok (.getfield 41, 3) := by decide +kernel
theorem dX11_light_21 : decode cX11_light 21 = .ok (.aload_n 0, 1) := by decide +kernel
theorem dX11_light_22 : decode cX11_light 22 = .ok (.getfield 19, 3) := by decide +kernel
theorem dX11_light_25 : decode cX11_light 25 = .ok (.invokevirtual 163, 3) := by decide +kernel
theorem dX11_light_28 : decode cX11_light 28 = .ok (.iconst 0, 1) := by decide +kernel
theorem dX11_light_29 : decode cX11_light 29 = .ok (.istore_n 2, 1) := by decide +kernel
theorem dX11_light_30 : decode cX11_light 30 = .ok (.iconst 0, 1) := by decide +kernel
theorem dX11_light_31 : decode cX11_light 31 = .ok (.istore_n 3, 1) := by decide +kernel
theorem dX11_light_32 : decode cX11_light 32 = .ok (.iload_n 3, 1) := by decide +kernel
theorem dX11_light_33 : decode cX11_light 33 = .ok (.aload_n 0, 1) := by decide +kernel
theorem dX11_light_34 : decode cX11_light 34 = .ok (.getfield 19, 3) := by decide +kernel
theorem dX11_light_37 : decode cX11_light 37 = .ok (.getfield 192, 3) := by decide +kernel
theorem dX11_light_40 : decode cX11_light 40 = .ok (.if_icmp .ge 28, 3) := by decide +kernel
theorem dX11_light_43 : decode cX11_light 43 = .ok (.aload_n 0, 1) := by decide +kernel
theorem dX11_light_44 : decode cX11_light 44 = .ok (.getfield 41, 3) := by decide +kernel
theorem dX11_light_47 : decode cX11_light 47 = .ok (.getfield 167, 3) := by decide +kernel
theorem dX11_light_50 : decode cX11_light 50 = .ok (.iload_n 3, 1) := by decide +kernel
theorem dX11_light_51 : decode cX11_light 51 = .ok (.iaload, 1) := by decide +kernel
theorem dX11_light_52 : decode cX11_light 52 = .ok (.iload_n 1, 1) := by decide +kernel
theorem dX11_light_53 : decode cX11_light 53 = .ok (.if_icmp .le 9, 3) := by decide +kernel
theorem dX11_light_56 : decode cX11_light 56 = .ok (.iload_n 2, 1) := by decide +kernel
theorem dX11_light_57 : decode cX11_light 57 = .ok (.iconst 1, 1) := by decide +kernel
theorem dX11_light_58 : decode cX11_light 58 = .ok (.iload_n 3, 1) := by decide +kernel
theorem dX11_light_59 : decode cX11_light 59 = .ok (.ishl, 1) := by decide +kernel
theorem dX11_light_60 : decode cX11_light 60 = .ok (.ior, 1) := by decide +kernel
theorem dX11_light_61 : decode cX11_light 61 = .ok (.istore_n 2, 1) := by decide +kernel
theorem dX11_light_62 : decode cX11_light 62 = .ok (.iinc 3 1, 3) := by decide +kernel
theorem dX11_light_65 : decode cX11_light 65 = .ok (.goto (-33), 3) := by decide +kernel
theorem dX11_light_68 : decode cX11_light 68 = .ok (.iload_n 2, 1) := by decide +kernel
theorem dX11_light_69 : decode cX11_light 69 = .ok (.ireturn, 1) := by decide +kernel
theorem dX11_full_0 : decode cX11_full 0 = .ok (.aload_n 0, 1) := by decide +kernel
theorem dX11_full_1 : decode cX11_full 1 = .ok (.invokevirtual 186, 3) := by decide +kernel
theorem dX11_full_4 : decode cX11_full 4 = .ok (.ifCond .eq 6, 3) := by decide +kernel
theorem dX11_full_7 : decode cX11_full 7 = .ok (.bipush (-2), 2) := by decide +kernel
theorem dX11_full_9 : decode cX11_full 9 = .ok (.ireturn, 1) := by decide +kernel
theorem dX11_full_10 : decode cX11_full 10 = .ok (.aload_n 0, 1) := by decide +kernel
theorem dX11_full_11 : decode cX11_full 11 = .ok (.getfield 41, 3) := by decide +kernel
theorem dX11_full_14 : decode cX11_full 14 = .ok (.aload_n 0, 1) := by decide +kernel
theorem dX11_full_15 : decode cX11_full 15 = .ok (.getfield 19, 3) := by decide +kernel
theorem dX11_full_18 : decode cX11_full 18 = .ok (.invokevirtual 163, 3) := by decide +kernel
theorem dX11_full_21 : decode cX11_full 21 = .ok (.aload_n 0, 1) := by decide +kernel
theorem dX11_full_22 : decode cX11_full 22 = .ok (.getfield 41, 3) := by decide +kernel
theorem dX11_full_25 : decode cX11_full 25 = .ok (.aload_n 0, 1) := by decide +kernel
theorem dX11_full_26 : decode cX11_full 26 = .ok (.getfield 19, 3) := by decide +kernel
theorem dX11_full_29 : decode cX11_full 29 = .ok (.invokevirtual 195, 3) := by decide +kernel
theorem dX11_full_32 : decode cX11_full 32 = .ok (.invokestatic 170, 3) := by decide +kernel
theorem dX11_full_35 : decode cX11_full 35 = .ok (.ireturn, 1) := by decide +kernel
theorem dX11_last_0 : decode cX11_last 0 = .ok (.aload_n 0, 1) := by decide +kernel
theorem dX11_last_1 : decode cX11_last 1 = .ok (.invokevirtual 186, 3) := by decide +kernel
theorem dX11_last_4 : decode cX11_last 4 = .ok (.ifCond .eq 6, 3) := by decide +kernel
theorem dX11_last_7 : decode cX11_last 7 = .ok (.bipush (-2), 2) := by decide +kernel
theorem dX11_last_9 : decode cX11_last 9 = .ok (.ireturn, 1) := by decide +kernel
theorem dX11_last_10 : decode cX11_last 10 = .ok (.aload_n 0, 1) := by decide +kernel
theorem dX11_last_11 : decode cX11_last 11 = .ok (.getfield 41, 3) := by decide +kernel
theorem dX11_last_14 : decode cX11_last 14 = .ok (.aload_n 0, 1) := by decide +kernel
theorem dX11_last_15 : decode cX11_last 15 = .ok (.getfield 19, 3) := by decide +kernel
theorem dX11_last_18 : decode cX11_last 18 = .ok (.invokevirtual 163, 3) := by decide +kernel
theorem dX11_last_21 : decode cX11_last 21 = .ok (.iconst (-1), 1) := by decide +kernel
theorem dX11_last_22 : decode cX11_last 22 = .ok (.istore_n 1, 1) := by decide +kernel
theorem dX11_last_23 : decode cX11_last 23 = .ok (.iconst (-1), 1) := by decide +kernel
theorem dX11_last_24 : decode cX11_last 24 = .ok (.istore_n 2, 1) := by decide +kernel
theorem dX11_last_25 : decode cX11_last 25 = .ok (.iconst 0, 1) := by decide +kernel
theorem dX11_last_26 : decode cX11_last 26 = .ok (.istore_n 3, 1) := by decide +kernel
theorem dX11_last_27 : decode cX11_last 27 = .ok (.iload_n 3, 1) := by decide +kernel
theorem dX11_last_28 : decode cX11_last 28 = .ok (.aload_n 0, 1) := by decide +kernel
theorem dX11_last_29 : decode cX11_last 29 = .ok (.getfield 19, 3) := by decide +kernel
theorem dX11_last_32 : decode cX11_last 32 = .ok (.getfield 192, 3) := by decide +kernel
theorem dX11_last_35 : decode cX11_last 35 = .ok (.if_icmp .ge 38, 3) := by decide +kernel
theorem dX11_last_38 : decode cX11_last 38 = .ok (.aload_n 0, 1) := by decide +kernel
theorem dX11_last_39 : decode cX11_last 39 = .ok (.getfield 41, 3) := by decide +kernel
theorem dX11_last_42 : decode cX11_last 42 = .ok (.getfield 167, 3) := by decide +kernel
theorem dX11_last_45 : decode cX11_last 45 = .ok (.iload_n 3, 1) := by decide +kernel
theorem dX11_last_46 : decode cX11_last 46 = .ok (.iaload, 1) := by decide +kernel
theorem dX11_last_47 : decode cX11_last 47 = .ok (.istore 4, 2) := by decide +kernel
theorem dX11_last_49 : decode cX11_last 49 = .ok (.iload 4, 2) := by decide +kernel
theorem dX11_last_51 : decode cX11_last 51 = .ok (.ldc 174, 2) := by decide +kernel
theorem dX11_last_53 : decode cX11_last 53 = .ok (.if_icmp .ge 14, 3) := by decide +kernel
theorem dX11_last_56 : decode cX11_last 56 = .ok (.iload 4, 2) := by decide +kernel
theorem dX11_last_58 : decode cX11_last 58 = .ok (.iload_n 2, 1) := by decide +kernel
theorem dX11_last_59 : decode cX11_last 59 = .ok (.if_icmp .le 8, 3) := by decide +kernel
theorem dX11_last_62 : decode cX11_last 62 = .ok (.iload 4, 2) := by decide +kernel
theorem dX11_last_64 : decode cX11_last 64 = .ok (.istore_n 2, 1) := by decide +kernel
theorem dX11_last_65 : decode cX11_last 65 = .ok (.iload_n 3, 1) := by decide +kernel
theorem dX11_last_66 : decode cX11_last 66 = .ok (.istore_n 1, 1) := by decide +kernel
theorem dX11_last_67 : decode cX11_last 67 = .ok (.iinc 3 1, 3) := by decide +kernel
theorem dX11_last_70 : decode cX11_last 70 = .ok (.goto (-43), 3) := by decide +kernel
theorem dX11_last_73 : decode cX11_last 73 = .ok (.iload_n 1, 1) := by decide +kernel
theorem dX11_last_74 : decode cX11_last 74 = .ok (.ireturn, 1) := by decide +kernel
theorem dX11_idle_0 : decode cX11_idle 0 = .ok (.aload_n 0, 1) := by decide +kernel
theorem dX11_idle_1 : decode cX11_idle 1 = .ok (.invokevirtual 186, 3) := by decide +kernel
theorem dX11_idle_4 : decode cX11_idle 4 = .ok (.ifCond .eq 6, 3) := by decide +kernel
theorem dX11_idle_7 : decode cX11_idle 7 = .ok (.bipush (-2), 2) := by decide +kernel
theorem dX11_idle_9 : decode cX11_idle 9 = .ok (.ireturn, 1) := by decide +kernel
theorem dX11_idle_10 : decode cX11_idle 10 = .ok (.aload_n 0, 1) := by decide +kernel
theorem dX11_idle_11 : decode cX11_idle 11 = .ok (.getfield 41, 3) := by decide +kernel
theorem dX11_idle_14 : decode cX11_idle 14 = .ok (.aload_n 0, 1) := by decide +kernel
theorem dX11_idle_15 : decode cX11_idle 15 = .ok (.getfield 19, 3) := by decide +kernel
theorem dX11_idle_18 : decode cX11_idle 18 = .ok (.invokevirtual 163, 3) := by decide +kernel
theorem dX11_idle_21 : decode cX11_idle 21 = .ok (.iconst 0, 1) := by decide +kernel
theorem dX11_idle_22 : decode cX11_idle 22 = .ok (.istore_n 1, 1) := by decide +kernel
theorem dX11_idle_23 : decode cX11_idle 23 = .ok (.iconst 0, 1) := by decide +kernel
theorem dX11_idle_24 : decode cX11_idle 24 = .ok (.istore_n 2, 1) := by decide +kernel
theorem dX11_idle_25 : decode cX11_idle 25 = .ok (.iload_n 2, 1) := by decide +kernel
theorem dX11_idle_26 : decode cX11_idle 26 = .ok (.aload_n 0, 1) := by decide +kernel
theorem dX11_idle_27 : decode cX11_idle 27 = .ok (.getfield 19, 3) := by decide +kernel
theorem dX11_idle_30 : decode cX11_idle 30 = .ok (.getfield 199, 3) := by decide +kernel
theorem dX11_idle_33 : decode cX11_idle 33 = .ok (.if_icmp .ge 73, 3) := by decide +kernel
theorem dX11_idle_36 : decode cX11_idle 36 = .ok (.aload_n 0, 1) := by decide +kernel
theorem dX11_idle_37 : decode cX11_idle 37 = .ok (.iload_n 2, 1) := by decide +kernel
theorem dX11_idle_38 : decode cX11_idle 38 = .ok (.invokevirtual 202, 3) := by decide +kernel
theorem dX11_idle_41 : decode cX11_idle 41 = .ok (.ifCond .eq 59, 3) := by decide +kernel
theorem dX11_idle_44 : decode cX11_idle 44 = .ok (.aload_n 0, 1) := by decide +kernel
theorem dX11_idle_45 : decode cX11_idle 45 = .ok (.getfield 45, 3) := by decide +kernel
theorem dX11_idle_48 : decode cX11_idle 48 = .ok (.aload_n 0, 1) := by decide +kernel
theorem dX11_idle_49 : decode cX11_idle 49 = .ok (.getfield 19, 3) := by decide +kernel
theorem dX11_idle_52 : decode cX11_idle 52 = .ok (.aload_n 0, 1) := by decide +kernel
theorem dX11_idle_53 : decode cX11_idle 53 = .ok (.getfield 19, 3) := by decide +kernel
theorem dX11_idle_56 : decode cX11_idle 56 = .ok (.invokevirtual 205, 3) := by decide +kernel
theorem dX11_idle_59 : decode cX11_idle 59 = .ok (.iconst 1, 1) := by decide +kernel
theorem dX11_idle_60 : decode cX11_idle 60 = .ok (.iload_n 2, 1) := by decide +kernel
theorem dX11_idle_61 : decode cX11_idle 61 = .ok (.ishl, 1) := by decide +kernel
theorem dX11_idle_62 : decode cX11_idle 62 = .ok (.iconst (-1), 1) := by decide +kernel
theorem dX11_idle_63 : decode cX11_idle 63 = .ok (.ixor, 1) := by decide +kernel
theorem dX11_idle_64 : decode cX11_idle 64 = .ok (.iand, 1) := by decide +kernel
theorem dX11_idle_65 : decode cX11_idle 65 = .ok (.iconst 0, 1) := by decide +kernel
theorem dX11_idle_66 : decode cX11_idle 66 = .ok (.invokevirtual 209, 3) := by decide +kernel
theorem dX11_idle_69 : decode cX11_idle 69 = .ok (.iload_n 1, 1) := by decide +kernel
theorem dX11_idle_70 : decode cX11_idle 70 = .ok (.aload_n 0, 1) := by decide +kernel
theorem dX11_idle_71 : decode cX11_idle 71 = .ok (.getfield 45, 3) := by decide +kernel
theorem dX11_idle_74 : decode cX11_idle 74 = .ok (.aload_n 0, 1) := by decide +kernel
theorem dX11_idle_75 : decode cX11_idle 75 = .ok (.getfield 41, 3) := by decide +kernel
theorem dX11_idle_78 : decode cX11_idle 78 = .ok (.aload_n 0, 1) := by decide +kernel
theorem dX11_idle_79 : decode cX11_idle 79 = .ok (.getfield 19, 3) := by decide +kernel
theorem dX11_idle_82 : decode cX11_idle 82 = .ok (.getfield 192, 3) := by decide +kernel
theorem dX11_idle_85 : decode cX11_idle 85 = .ok (.invokevirtual 212, 3) := by decide +kernel
theorem dX11_idle_88 : decode cX11_idle 88 = .ok (.ifCond .eq 9, 3) := by decide +kernel
theorem dX11_idle_91 : decode cX11_idle 91 = .ok (.iconst 1, 1) := by decide +kernel
theorem dX11_idle_92 : decode cX11_idle 92 = .ok (.iload_n 2, 1) := by decide +kernel
theorem dX11_idle_93 : decode cX11_idle 93 = .ok (.ishl, 1) := by decide +kernel
theorem dX11_idle_94 : decode cX11_idle 94 = .ok (.goto 4, 3) := by decide +kernel
theorem dX11_idle_97 : decode cX11_idle 97 = .ok (.iconst 0, 1) := by decide +kernel
theorem dX11_idle_98 : decode cX11_idle 98 = .ok (.ior, 1) := by decide +kernel
theorem dX11_idle_99 : decode cX11_idle 99 = .ok (.istore_n 1, 1) := by decide +kernel
theorem dX11_idle_100 : decode cX11_idle 100 = .ok (.iinc 2 1, 3) := by decide +kernel
theorem dX11_idle_103 : decode cX11_idle 103 = .ok (.goto (-78), 3) := by decide +kernel
theorem dX11_idle_106 : decode cX11_idle 106 = .ok (.iload_n 1, 1) := by decide +kernel
theorem dX11_idle_107 : decode cX11_idle 107 = .ok (.ireturn, 1) := by decide +kernel
theorem dX11_harm_0 : decode cX11_harm 0 = .ok (.aload_n 0, 1) := by decide +kernel
theorem dX11_harm_1 : decode cX11_harm 1 = .ok (.iload_n 1, 1) := by decide +kernel
theorem dX11_harm_2 : decode cX11_harm 2 = .ok (.invokevirtual 116, 3) := by decide +kernel
theorem dX11_harm_5 : decode cX11_harm 5 = .ok (.ifCond .eq 11, 3) := by decide +kernel
theorem dX11_harm_8 : decode cX11_harm 8 = .ok (.aload_n 0, 1) := by decide +kernel
theorem dX11_harm_9 : decode cX11_harm 9 = .ok (.iload_n 1, 1) := by decide +kernel
theorem dX11_harm_10 : decode cX11_harm 10 = .ok (.invokevirtual 202, 3) := by decide +kernel
theorem dX11_harm_13 : decode cX11_harm 13 = .ok (.ifCond .ne 6, 3) := by decide +kernel
theorem dX11_harm_16 : decode cX11_harm 16 = .ok (.bipush (-2), 2) := by decide +kernel
theorem dX11_harm_18 : decode cX11_harm 18 = .ok (.ireturn, 1) := by decide +kernel
theorem dX11_harm_19 : decode cX11_harm 19 = .ok (.aload_n 0, 1) := by decide +kernel
theorem dX11_harm_20 : decode cX11_harm 20 = .ok (.getfield 41, 3) := by decide +kernel
theorem dX11_harm_23 : decode cX11_harm 23 = .ok (.aload_n 0, 1) := by decide +kernel
theorem dX11_harm_24 : decode cX11_harm 24 = .ok (.getfield 19, 3) := by decide +kernel
theorem dX11_harm_27 : decode cX11_harm 27 = .ok (.invokevirtual 163, 3) := by decide +kernel
theorem dX11_harm_30 : decode cX11_harm 30 = .ok (.aload_n 0, 1) := by decide +kernel
theorem dX11_harm_31 : decode cX11_harm 31 = .ok (.getfield 45, 3) := by decide +kernel
theorem dX11_harm_34 : decode cX11_harm 34 = .ok (.aload_n 0, 1) := by decide +kernel
theorem dX11_harm_35 : decode cX11_harm 35 = .ok (.getfield 19, 3) := by decide +kernel
theorem dX11_harm_38 : decode cX11_harm 38 = .ok (.aload_n 0, 1) := by decide +kernel
theorem dX11_harm_39 : decode cX11_harm 39 = .ok (.getfield 19, 3) := by decide +kernel
theorem dX11_harm_42 : decode cX11_harm 42 = .ok (.invokevirtual 205, 3) := by decide +kernel
theorem dX11_harm_45 : decode cX11_harm 45 = .ok (.iconst 1, 1) := by decide +kernel
theorem dX11_harm_46 : decode cX11_harm 46 = .ok (.iload_n 1, 1) := by decide +kernel
theorem dX11_harm_47 : decode cX11_harm 47 = .ok (.ishl, 1) := by decide +kernel
theorem dX11_harm_48 : decode cX11_harm 48 = .ok (.iconst (-1), 1) := by decide +kernel
theorem dX11_harm_49 : decode cX11_harm 49 = .ok (.ixor, 1) := by decide +kernel
theorem dX11_harm_50 : decode cX11_harm 50 = .ok (.iand, 1) := by decide +kernel
theorem dX11_harm_51 : decode cX11_harm 51 = .ok (.iconst 0, 1) := by decide +kernel
theorem dX11_harm_52 : decode cX11_harm 52 = .ok (.invokevirtual 209, 3) := by decide +kernel
theorem dX11_harm_55 : decode cX11_harm 55 = .ok (.iconst 0, 1) := by decide +kernel
theorem dX11_harm_56 : decode cX11_harm 56 = .ok (.istore_n 2, 1) := by decide +kernel
theorem dX11_harm_57 : decode cX11_harm 57 = .ok (.iconst 0, 1) := by decide +kernel
theorem dX11_harm_58 : decode cX11_harm 58 = .ok (.istore_n 3, 1) := by decide +kernel
theorem dX11_harm_59 : decode cX11_harm 59 = .ok (.iload_n 3, 1) := by decide +kernel
theorem dX11_harm_60 : decode cX11_harm 60 = .ok (.aload_n 0, 1) := by decide +kernel
theorem dX11_harm_61 : decode cX11_harm 61 = .ok (.getfield 19, 3) := by decide +kernel
theorem dX11_harm_64 : decode cX11_harm 64 = .ok (.getfield 192, 3) := by decide +kernel
theorem dX11_harm_67 : decode cX11_harm 67 = .ok (.if_icmp .ge 51, 3) := by decide +kernel
theorem dX11_harm_70 : decode cX11_harm 70 = .ok (.aload_n 0, 1) := by decide +kernel
theorem dX11_harm_71 : decode cX11_harm 71 = .ok (.getfield 41, 3) := by decide +kernel
theorem dX11_harm_74 : decode cX11_harm 74 = .ok (.getfield 167, 3) := by decide +kernel
theorem dX11_harm_77 : decode cX11_harm 77 = .ok (.iload_n 3, 1) := by decide +kernel
theorem dX11_harm_78 : decode cX11_harm 78 = .ok (.iaload, 1) := by decide +kernel
theorem dX11_harm_79 : decode cX11_harm 79 = .ok (.ldc 174, 2) := by decide +kernel
theorem dX11_harm_81 : decode cX11_harm 81 = .ok (.if_icmp .ge 31, 3) := by decide +kernel
theorem dX11_harm_84 : decode cX11_harm 84 = .ok (.iload_n 2, 1) := by decide +kernel
theorem dX11_harm_85 : decode cX11_harm 85 = .ok (.aload_n 0, 1) := by decide +kernel
theorem dX11_harm_86 : decode cX11_harm 86 = .ok (.getfield 45, 3) := by decide +kernel
theorem dX11_harm_89 : decode cX11_harm 89 = .ok (.getfield 167, 3) := by decide +kernel
theorem dX11_harm_92 : decode cX11_harm 92 = .ok (.iload_n 3, 1) := by decide +kernel
theorem dX11_harm_93 : decode cX11_harm 93 = .ok (.iaload, 1) := by decide +kernel
theorem dX11_harm_94 : decode cX11_harm 94 = .ok (.sipush 1000, 3) := by decide +kernel
theorem dX11_harm_97 : decode cX11_harm 97 = .ok (.invokestatic 216, 3) := by decide +kernel
theorem dX11_harm_100 : decode cX11_harm 100 = .ok (.aload_n 0, 1) := by decide +kernel
theorem dX11_harm_101 : decode cX11_harm 101 = .ok (.getfield 41, 3) := by decide +kernel
theorem dX11_harm_104 : decode cX11_harm 104 = .ok (.getfield 167, 3) := by decide +kernel
theorem dX11_harm_107 : decode cX11_harm 107 = .ok (.iload_n 3, 1) := by decide +kernel
theorem dX11_harm_108 : decode cX11_harm 108 = .ok (.iaload, 1) := by decide +kernel
theorem dX11_harm_109 : decode cX11_harm 109 = .ok (.isub, 1) := by decide +kernel
theorem dX11_harm_110 : decode cX11_harm 110 = .ok (.iadd, 1) := by decide +kernel
theorem dX11_harm_111 : decode cX11_harm 111 = .ok (.istore_n 2, 1) := by decide +kernel
theorem dX11_harm_112 : decode cX11_harm 112 = .ok (.iinc 3 1, 3) := by decide +kernel
theorem dX11_harm_115 : decode cX11_harm 115 = .ok (.goto (-56), 3) := by decide +kernel
theorem dX11_harm_118 : decode cX11_harm 118 = .ok (.iload_n 2, 1) := by decide +kernel
theorem dX11_harm_119 : decode cX11_harm 119 = .ok (.ireturn, 1) := by decide +kernel
theorem dX11_whose_0 : decode cX11_whose 0 = .ok (.aload_n 0, 1) := by decide +kernel
theorem dX11_whose_1 : decode cX11_whose 1 = .ok (.iload_n 1, 1) := by decide +kernel
theorem dX11_whose_2 : decode cX11_whose 2 = .ok (.invokevirtual 160, 3) := by decide +kernel
theorem dX11_whose_5 : decode cX11_whose 5 = .ok (.ifCond .ne 6, 3) := by decide +kernel
theorem dX11_whose_8 : decode cX11_whose 8 = .ok (.bipush (-2), 2) := by decide +kernel
theorem dX11_whose_10 : decode cX11_whose 10 = .ok (.ireturn, 1) := by decide +kernel
theorem dX11_whose_11 : decode cX11_whose 11 = .ok (.aload_n 0, 1) := by decide +kernel
theorem dX11_whose_12 : decode cX11_whose 12 = .ok (.getfield 51, 3) := by decide +kernel
theorem dX11_whose_15 : decode cX11_whose 15 = .ok (.aload_n 0, 1) := by decide +kernel
theorem dX11_whose_16 : decode cX11_whose 16 = .ok (.getfield 19, 3) := by decide +kernel
theorem dX11_whose_19 : decode cX11_whose 19 = .ok (.invokevirtual 222, 3) := by decide +kernel
theorem dX11_whose_22 : decode cX11_whose 22 = .ok (.aload_n 0, 1) := by decide +kernel
theorem dX11_whose_23 : decode cX11_whose 23 = .ok (.getfield 51, 3) := by decide +kernel
theorem dX11_whose_26 : decode cX11_whose 26 = .ok (.getfield 225, 3) := by decide +kernel
theorem dX11_whose_29 : decode cX11_whose 29 = .ok (.iload_n 1, 1) := by decide +kernel
theorem dX11_whose_30 : decode cX11_whose 30 = .ok (.iaload, 1) := by decide +kernel
theorem dX11_whose_31 : decode cX11_whose 31 = .ok (.ireturn, 1) := by decide +kernel
theorem dX11_owns_0 : decode cX11_owns 0 = .ok (.aload_n 0, 1) := by decide +kernel
theorem dX11_owns_1 : decode cX11_owns 1 = .ok (.invokevirtual 186, 3) := by decide +kernel
