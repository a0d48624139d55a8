theorem dX12_from_67 : decode cX12_from 67 = .ok (.invokevirtual 274, 3) := by decide +kernel
theorem dX12_from_70 : decode cX12_from 70 = .ok (.aload_n 0, 1) := by decide +kernel
theorem dX12_from_71 : decode cX12_from 71 = .ok (.aload_n 0, 1) := by decide +kernel
theorem dX12_from_72 : decode cX12_from 72 = .ok (.getfield 262, 3) := by decide +kernel
theorem dX12_from_75 : decode cX12_from 75 = .ok (.iconst 0, 1) := by decide +kernel
theorem dX12_from_76 : decode cX12_from 76 = .ok (.invokevirtual 276, 3) := by decide +kernel
theorem dX12_from_79 : decode cX12_from 79 = .ok (.aload_n 0, 1) := by decide +kernel
theorem dX12_from_80 : decode cX12_from 80 = .ok (.getfield 59, 3) := by decide +kernel
theorem dX12_from_83 : decode cX12_from 83 = .ok (.iload_n 1, 1) := by decide +kernel
theorem dX12_from_84 : decode cX12_from 84 = .ok (.iaload, 1) := by decide +kernel
theorem dX12_from_85 : decode cX12_from 85 = .ok (.iload_n 2, 1) := by decide +kernel
theorem dX12_from_86 : decode cX12_from 86 = .ok (.if_icmp .ne 5, 3) := by decide +kernel
theorem dX12_from_89 : decode cX12_from 89 = .ok (.iload_n 3, 1) := by decide +kernel
theorem dX12_from_90 : decode cX12_from 90 = .ok (.ireturn, 1) := by decide +kernel
theorem dX12_from_91 : decode cX12_from 91 = .ok (.iinc 3 1, 3) := by decide +kernel
theorem dX12_from_94 : decode cX12_from 94 = .ok (.goto (-56), 3) := by decide +kernel
theorem dX12_from_97 : decode cX12_from 97 = .ok (.iconst (-1), 1) := by decide +kernel
theorem dX12_from_98 : decode cX12_from 98 = .ok (.ireturn, 1) := by decide +kernel
theorem dX12_by_0 : decode cX12_by 0 = .ok (.aload_n 0, 1) := by decide +kernel
theorem dX12_by_1 : decode cX12_by 1 = .ok (.iconst 0, 1) := by decide +kernel
theorem dX12_by_2 : decode cX12_by 2 = .ok (.putfield 92, 3) := by decide +kernel
theorem dX12_by_5 : decode cX12_by 5 = .ok (.aload_n 0, 1) := by decide +kernel
theorem dX12_by_6 : decode cX12_by 6 = .ok (.iload_n 1, 1) := by decide +kernel
theorem dX12_by_7 : decode cX12_by 7 = .ok (.i2l, 1) := by decide +kernel
theorem dX12_by_8 : decode cX12_by 8 = .ok (.invokevirtual 299, 3) := by decide +kernel
theorem dX12_by_11 : decode cX12_by 11 = .ok (.ifCond .ne 6, 3) := by decide +kernel
theorem dX12_by_14 : decode cX12_by 14 = .ok (.bipush (-2), 2) := by decide +kernel
theorem dX12_by_16 : decode cX12_by 16 = .ok (.ireturn, 1) := by decide +kernel
theorem dX12_by_17 : decode cX12_by 17 = .ok (.aload_n 0, 1) := by decide +kernel
theorem dX12_by_18 : decode cX12_by 18 = .ok (.invokevirtual 302, 3) := by decide +kernel
theorem dX12_by_21 : decode cX12_by 21 = .ok (.aload_n 0, 1) := by decide +kernel
theorem dX12_by_22 : decode cX12_by 22 = .ok (.iload_n 1, 1) := by decide +kernel
theorem dX12_by_23 : decode cX12_by 23 = .ok (.invokevirtual 308, 3) := by decide +kernel
theorem dX12_by_26 : decode cX12_by 26 = .ok (.ireturn, 1) := by decide +kernel
theorem dX12_laneOf_0 : decode cX12_laneOf 0 = .ok (.aload_n 0, 1) := by decide +kernel
theorem dX12_laneOf_1 : decode cX12_laneOf 1 = .ok (.getfield 59, 3) := by decide +kernel
theorem dX12_laneOf_4 : decode cX12_laneOf 4 = .ok (.iload_n 1, 1) := by decide +kernel
theorem dX12_laneOf_5 : decode cX12_laneOf 5 = .ok (.iaload, 1) := by decide +kernel
theorem dX12_laneOf_6 : decode cX12_laneOf 6 = .ok (.ldc 142, 2) := by decide +kernel
theorem dX12_laneOf_8 : decode cX12_laneOf 8 = .ok (.if_icmp .lt 5, 3) := by decide +kernel
theorem dX12_laneOf_11 : decode cX12_laneOf 11 = .ok (.iconst (-1), 1) := by decide +kernel
theorem dX12_laneOf_12 : decode cX12_laneOf 12 = .ok (.ireturn, 1) := by decide +kernel
theorem dX12_laneOf_13 : decode cX12_laneOf 13 = .ok (.iconst 0, 1) := by decide +kernel
theorem dX12_laneOf_14 : decode cX12_laneOf 14 = .ok (.istore_n 2, 1) := by decide +kernel
theorem dX12_laneOf_15 : decode cX12_laneOf 15 = .ok (.iload_n 2, 1) := by decide +kernel
theorem dX12_laneOf_16 : decode cX12_laneOf 16 = .ok (.aload_n 0, 1) := by decide +kernel
theorem dX12_laneOf_17 : decode cX12_laneOf 17 = .ok (.getfield 34, 3) := by decide +kernel
theorem dX12_laneOf_20 : decode cX12_laneOf 20 = .ok (.iconst 2, 1) := by decide +kernel
theorem dX12_laneOf_21 : decode cX12_laneOf 21 = .ok (.iaload, 1) := by decide +kernel
theorem dX12_laneOf_22 : decode cX12_laneOf 22 = .ok (.if_icmp .ge 38, 3) := by decide +kernel
theorem dX12_laneOf_25 : decode cX12_laneOf 25 = .ok (.aload_n 0, 1) := by decide +kernel
theorem dX12_laneOf_26 : decode cX12_laneOf 26 = .ok (.getfield 40, 3) := by decide +kernel
theorem dX12_laneOf_29 : decode cX12_laneOf 29 = .ok (.iconst 2, 1) := by decide +kernel
theorem dX12_laneOf_30 : decode cX12_laneOf 30 = .ok (.iload_n 2, 1) := by decide +kernel
theorem dX12_laneOf_31 : decode cX12_laneOf 31 = .ok (.imul, 1) := by decide +kernel
theorem dX12_laneOf_32 : decode cX12_laneOf 32 = .ok (.iaload, 1) := by decide +kernel
theorem dX12_laneOf_33 : decode cX12_laneOf 33 = .ok (.iload_n 1, 1) := by decide +kernel
theorem dX12_laneOf_34 : decode cX12_laneOf 34 = .ok (.if_icmp .ne 20, 3) := by decide +kernel
theorem dX12_laneOf_37 : decode cX12_laneOf 37 = .ok (.aload_n 0, 1) := by decide +kernel
theorem dX12_laneOf_38 : decode cX12_laneOf 38 = .ok (.getfield 56, 3) := by decide +kernel
theorem dX12_laneOf_41 : decode cX12_laneOf 41 = .ok (.iload_n 2, 1) := by decide +kernel
theorem dX12_laneOf_42 : decode cX12_laneOf 42 = .ok (.iaload, 1) := by decide +kernel
theorem dX12_laneOf_43 : decode cX12_laneOf 43 = .ok (.aload_n 0, 1) := by decide +kernel
theorem dX12_laneOf_44 : decode cX12_laneOf 44 = .ok (.getfield 59, 3) := by decide +kernel
theorem dX12_laneOf_47 : decode cX12_laneOf 47 = .ok (.iload_n 1, 1) := by decide +kernel
theorem dX12_laneOf_48 : decode cX12_laneOf 48 = .ok (.iaload, 1) := by decide +kernel
theorem dX12_laneOf_49 : decode cX12_laneOf 49 = .ok (.if_icmp .ne 5, 3) := by decide +kernel
theorem dX12_laneOf_52 : decode cX12_laneOf 52 = .ok (.iconst (-1), 1) := by decide +kernel
theorem dX12_laneOf_53 : decode cX12_laneOf 53 = .ok (.ireturn, 1) := by decide +kernel
theorem dX12_laneOf_54 : decode cX12_laneOf 54 = .ok (.iinc 2 1, 3) := by decide +kernel
theorem dX12_laneOf_57 : decode cX12_laneOf 57 = .ok (.goto (-42), 3) := by decide +kernel
theorem dX12_laneOf_60 : decode cX12_laneOf 60 = .ok (.iconst 0, 1) := by decide +kernel
theorem dX12_laneOf_61 : decode cX12_laneOf 61 = .ok (.istore_n 2, 1) := by decide +kernel
theorem dX12_laneOf_62 : decode cX12_laneOf 62 = .ok (.iload_n 2, 1) := by decide +kernel
theorem dX12_laneOf_63 : decode cX12_laneOf 63 = .ok (.aload_n 0, 1) := by decide +kernel
theorem dX12_laneOf_64 : decode cX12_laneOf 64 = .ok (.getfield 34, 3) := by decide +kernel
theorem dX12_laneOf_67 : decode cX12_laneOf 67 = .ok (.iconst 1, 1) := by decide +kernel
theorem dX12_laneOf_68 : decode cX12_laneOf 68 = .ok (.iaload, 1) := by decide +kernel
theorem dX12_laneOf_69 : decode cX12_laneOf 69 = .ok (.if_icmp .ge 107, 3) := by decide +kernel
theorem dX12_laneOf_72 : decode cX12_laneOf 72 = .ok (.aload_n 0, 1) := by decide +kernel
theorem dX12_laneOf_73 : decode cX12_laneOf 73 = .ok (.getfield 262, 3) := by decide +kernel
theorem dX12_laneOf_76 : decode cX12_laneOf 76 = .ok (.iload_n 2, 1) := by decide +kernel
theorem dX12_laneOf_77 : decode cX12_laneOf 77 = .ok (.invokestatic 265, 3) := by decide +kernel
theorem dX12_laneOf_80 : decode cX12_laneOf 80 = .ok (.ifCond .eq 90, 3) := by decide +kernel
theorem dX12_laneOf_83 : decode cX12_laneOf 83 = .ok (.aload_n 0, 1) := by decide +kernel
theorem dX12_laneOf_84 : decode cX12_laneOf 84 = .ok (.getfield 37, 3) := by decide +kernel
theorem dX12_laneOf_87 : decode cX12_laneOf 87 = .ok (.iconst 5, 1) := by decide +kernel
theorem dX12_laneOf_88 : decode cX12_laneOf 88 = .ok (.iload_n 2, 1) := by decide +kernel
theorem dX12_laneOf_89 : decode cX12_laneOf 89 = .ok (.imul, 1) := by decide +kernel
theorem dX12_laneOf_90 : decode cX12_laneOf 90 = .ok (.iaload, 1) := by decide +kernel
theorem dX12_laneOf_91 : decode cX12_laneOf 91 = .ok (.iload_n 1, 1) := by decide +kernel
theorem dX12_laneOf_92 : decode cX12_laneOf 92 = .ok (.if_icmp .eq 20, 3) := by decide +kernel
theorem dX12_laneOf_95 : decode cX12_laneOf 95 = .ok (.aload_n 0, 1) := by decide +kernel
theorem dX12_laneOf_96 : decode cX12_laneOf 96 = .ok (.getfield 37, 3) := by decide +kernel
theorem dX12_laneOf_99 : decode cX12_laneOf 99 = .ok (.iconst 5, 1) := by decide +kernel
theorem dX12_laneOf_100 : decode cX12_laneOf 100 = .ok (.iload_n 2, 1) := by decide +kernel
theorem dX12_laneOf_101 : decode cX12_laneOf 101 = .ok (.imul, 1) := by decide +kernel
theorem dX12_laneOf_102 : decode cX12_laneOf 102 = .ok (.iconst 1, 1) := by decide +kernel
theorem dX12_laneOf_103 : decode cX12_laneOf 103 = .ok (.iadd, 1) := by decide +kernel
theorem dX12_laneOf_104 : decode cX12_laneOf 104 = .ok (.iaload, 1) := by decide +kernel
theorem dX12_laneOf_105 : decode cX12_laneOf 105 = .ok (.iload_n 1, 1) := by decide +kernel
theorem dX12_laneOf_106 : decode cX12_laneOf 106 = .ok (.if_icmp .eq 6, 3) := by decide +kernel
theorem dX12_laneOf_109 : decode cX12_laneOf 109 = .ok (.goto 61, 3) := by decide +kernel
theorem dX12_laneOf_112 : decode cX12_laneOf 112 = .ok (.aload_n 0, 1) := by decide +kernel
theorem dX12_laneOf_113 : decode cX12_laneOf 113 = .ok (.getfield 37, 3) := by decide +kernel
theorem dX12_laneOf_116 : decode cX12_laneOf 116 = .ok (.iconst 5, 1) := by decide +kernel
theorem dX12_laneOf_117 : decode cX12_laneOf 117 = .ok (.iload_n 2, 1) := by decide +kernel
theorem dX12_laneOf_118 : decode cX12_laneOf 118 = .ok (.imul, 1) := by decide +kernel
theorem dX12_laneOf_119 : decode cX12_laneOf 119 = .ok (.iaload, 1) := by decide +kernel
theorem dX12_laneOf_120 : decode cX12_laneOf 120 = .ok (.iload_n 1, 1) := by decide +kernel
theorem dX12_laneOf_121 : decode cX12_laneOf 121 = .ok (.if_icmp .ne 16, 3) := by decide +kernel
theorem dX12_laneOf_124 : decode cX12_laneOf 124 = .ok (.aload_n 0, 1) := by decide +kernel
theorem dX12_laneOf_125 : decode cX12_laneOf 125 = .ok (.getfield 37, 3) := by decide +kernel
theorem dX12_laneOf_128 : decode cX12_laneOf 128 = .ok (.iconst 5, 1) := by decide +kernel
theorem dX12_laneOf_129 : decode cX12_laneOf 129 = .ok (.iload_n 2, 1) := by decide +kernel
theorem dX12_laneOf_130 : decode cX12_laneOf 130 = .ok (.imul, 1) := by decide +kernel
theorem dX12_laneOf_131 : decode cX12_laneOf 131 = .ok (.iconst 1, 1) := by decide +kernel
theorem dX12_laneOf_132 : decode cX12_laneOf 132 = .ok (.iadd, 1) := by decide +kernel
theorem dX12_laneOf_133 : decode cX12_laneOf 133 = .ok (.iaload, 1) := by decide +kernel
theorem dX12_laneOf_134 : decode cX12_laneOf 134 = .ok (.goto 11, 3) := by decide +kernel
theorem dX12_laneOf_137 : decode cX12_laneOf 137 = .ok (.aload_n 0, 1) := by decide +kernel
theorem dX12_laneOf_138 : decode cX12_laneOf 138 = .ok (.getfield 37, 3) := by decide +kernel
theorem dX12_laneOf_141 : decode cX12_laneOf 141 = .ok (.iconst 5, 1) := by decide +kernel
theorem dX12_laneOf_142 : decode cX12_laneOf 142 = .ok (.iload_n 2, 1) := by decide +kernel
theorem dX12_laneOf_143 : decode cX12_laneOf 143 = .ok (.imul, 1) := by decide +kernel
theorem dX12_laneOf_144 : decode cX12_laneOf 144 = .ok (.iaload, 1) := by decide +kernel
theorem dX12_laneOf_145 : decode cX12_laneOf 145 = .ok (.istore_n 3, 1) := by decide +kernel
theorem dX12_laneOf_146 : decode cX12_laneOf 146 = .ok (.aload_n 0, 1) := by decide +kernel
theorem dX12_laneOf_147 : decode cX12_laneOf 147 = .ok (.getfield 59, 3) := by decide +kernel
theorem dX12_laneOf_150 : decode cX12_laneOf 150 = .ok (.iload_n 3, 1) := by decide +kernel
theorem dX12_laneOf_151 : decode cX12_laneOf 151 = .ok (.iaload, 1) := by decide +kernel
theorem dX12_laneOf_152 : decode cX12_laneOf 152 = .ok (.aload_n 0, 1) := by decide +kernel
theorem dX12_laneOf_153 : decode cX12_laneOf 153 = .ok (.iload_n 2, 1) := by decide +kernel
theorem dX12_laneOf_154 : decode cX12_laneOf 154 = .ok (.iconst 0, 1) := by decide +kernel
theorem dX12_laneOf_155 : decode cX12_laneOf 155 = .ok (.invokevirtual 269, 3) := by decide +kernel
theorem dX12_laneOf_158 : decode cX12_laneOf 158 = .ok (.iadd, 1) := by decide +kernel
theorem dX12_laneOf_159 : decode cX12_laneOf 159 = .ok (.aload_n 0, 1) := by decide +kernel
theorem dX12_laneOf_160 : decode cX12_laneOf 160 = .ok (.getfield 59, 3) := by decide +kernel
theorem dX12_laneOf_163 : decode cX12_laneOf 163 = .ok (.iload_n 1, 1) := by decide +kernel
theorem dX12_laneOf_164 : decode cX12_laneOf 164 = .ok (.iaload, 1) := by decide +kernel
theorem dX12_laneOf_165 : decode cX12_laneOf 165 = .ok (.if_icmp .ne 5, 3) := by decide +kernel
theorem dX12_laneOf_168 : decode cX12_laneOf 168 = .ok (.iload_n 2, 1) := by decide +kernel
theorem dX12_laneOf_169 : decode cX12_laneOf 169 = .ok (.ireturn, 1) := by decide +kernel
theorem dX12_laneOf_170 : decode cX12_laneOf 170 = .ok (.iinc 2 1, 3) := by decide +kernel
theorem dX12_laneOf_173 : decode cX12_laneOf 173 = .ok (.goto (-111), 3) := by decide +kernel
theorem dX12_laneOf_176 : decode cX12_laneOf 176 = .ok (.iconst (-1), 1) := by decide +kernel
theorem dX12_laneOf_177 : decode cX12_laneOf 177 = .ok (.ireturn, 1) := by decide +kernel
theorem dX12_light_0 : decode cX12_light 0 = .ok (.aload_n 0, 1) := by decide +kernel
theorem dX12_light_1 : decode cX12_light 1 = .ok (.iconst 0, 1) := by decide +kernel
theorem dX12_light_2 : decode cX12_light 2 = .ok (.putfield 92, 3) := by decide +kernel
theorem dX12_light_5 : decode cX12_light 5 = .ok (.aload_n 0, 1) := by decide +kernel
theorem dX12_light_6 : decode cX12_light 6 = .ok (.invokevirtual 311, 3) := by decide +kernel
theorem dX12_light_9 : decode cX12_light 9 = .ok (.ifCond .eq 10, 3) := by decide +kernel
theorem dX12_light_12 : decode cX12_light 12 = .ok (.iload_n 1, 1) := by decide +kernel
theorem dX12_light_13 : decode cX12_light 13 = .ok (.invokestatic 314, 3) := by decide +kernel
theorem dX12_light_16 : decode cX12_light 16 = .ok (.ifCond .ne 6, 3) := by decide +kernel
theorem dX12_light_19 : decode cX12_light 19 = .ok (.bipush (-2), 2) := by decide +kernel
theorem dX12_light_21 : decode cX12_light 21 = .ok (.ireturn, 1) := by decide +kernel
theorem dX12_light_22 : decode cX12_light 22 = .ok (.aload_n 0, 1) := by decide +kernel
theorem dX12_light_23 : decode cX12_light 23 = .ok (.invokevirtual 302, 3) := by decide +kernel
theorem dX12_light_26 : decode cX12_light 26 = .ok (.iconst 0, 1) := by decide +kernel
theorem dX12_light_27 : decode cX12_light 27 = .ok (.istore_n 2, 1) := by decide +kernel
theorem dX12_light_28 : decode cX12_light 28 = .ok (.iconst 0, 1) := by decide +kernel
theorem dX12_light_29 : decode cX12_light 29 = .ok (.istore_n 3, 1) := by decide +kernel
theorem dX12_light_30 : decode cX12_light 30 = .ok (.iload_n 3, 1) := by decide +kernel
theorem dX12_light_31 : decode cX12_light 31 = .ok (.aload_n 0, 1) := by decide +kernel
theorem dX12_light_32 : decode cX12_light 32 = .ok (.getfield 34, 3) := by decide +kernel
theorem dX12_light_35 : decode cX12_light 35 = .ok (.iconst 0, 1) := by decide +kernel
theorem dX12_light_36 : decode cX12_light 36 = .ok (.iaload, 1) := by decide +kernel
theorem dX12_light_37 : decode cX12_light 37 = .ok (.if_icmp .ge 29, 3) := by decide +kernel
theorem dX12_light_40 : decode cX12_light 40 = .ok (.iload_n 2, 1) := by decide +kernel
theorem dX12_light_41 : decode cX12_light 41 = .ok (.aload_n 0, 1) := by decide +kernel
theorem dX12_light_42 : decode cX12_light 42 = .ok (.getfield 59, 3) := by decide +kernel
theorem dX12_light_45 : decode cX12_light 45 = .ok (.iload_n 3, 1) := by decide +kernel
theorem dX12_light_46 : decode cX12_light 46 = .ok (.iaload, 1) := by decide +kernel
theorem dX12_light_47 : decode cX12_light 47 = .ok (.iload_n 1, 1) := by decide +kernel
theorem dX12_light_48 : decode cX12_light 48 = .ok (.if_icmp .le 9, 3) := by decide +kernel
theorem dX12_light_51 : decode cX12_light 51 = .ok (.iconst 1, 1) := by decide +kernel
theorem dX12_light_52 : decode cX12_light 52 = .ok (.iload_n 3, 1) := by decide +kernel
theorem dX12_light_53 : decode cX12_light 53 = .ok (.ishl, 1) := by decide +kernel
theorem dX12_light_54 : decode cX12_light 54 = .ok (.goto 4, 3) := by decide +kernel
theorem dX12_light_57 : decode cX12_light 57 = .ok (.iconst 0, 1) := by decide +kernel
theorem dX12_light_58 : decode cX12_light 58 = .ok (.ior, 1) := by decide +kernel
theorem dX12_light_59 : decode cX12_light 59 = .ok (.istore_n 2, 1) := by decide +kernel
theorem dX12_light_60 : decode cX12_light 60 = .ok (.iinc 3 1, 3) := by decide +kernel
theorem dX12_light_63 : decode cX12_light 63 = .ok (.goto (-33), 3) := by decide +kernel
theorem dX12_light_66 : decode cX12_light 66 = .ok (.iload_n 2, 1) := by decide +kernel
theorem dX12_light_67 : decode cX12_light 67 = .ok (.ireturn, 1) := by decide +kernel
theorem dX12_fullOf_0 : decode cX12_fullOf 0 = .ok (.iconst 0, 1) := by decide +kernel
theorem dX12_fullOf_1 : decode cX12_fullOf 1 = .ok (.istore_n 1, 1) := by decide +kernel
theorem dX12_fullOf_2 : decode cX12_fullOf 2 = .ok (.iconst 0, 1) := by decide +kernel
theorem dX12_fullOf_3 : decode cX12_fullOf 3 = .ok (.istore_n 2, 1) := by decide +kernel
theorem dX12_fullOf_4 : decode cX12_fullOf 4 = .ok (.iload_n 2, 1) := by decide +kernel
theorem dX12_fullOf_5 : decode cX12_fullOf 5 = .ok (.aload_n 0, 1) := by decide +kernel
theorem dX12_fullOf_6 : decode cX12_fullOf 6 = .ok (.getfield 34, 3) := by decide +kernel
theorem dX12_fullOf_9 : decode cX12_fullOf 9 = .ok (.iconst 0, 1) := by decide +kernel
theorem dX12_fullOf_10 : decode cX12_fullOf 10 = .ok (.iaload, 1) := by decide +kernel
theorem dX12_fullOf_11 : decode cX12_fullOf 11 = .ok (.if_icmp .ge 30, 3) := by decide +kernel
theorem dX12_fullOf_14 : decode cX12_fullOf 14 = .ok (.aload_n 0, 1) := by decide +kernel
theorem dX12_fullOf_15 : decode cX12_fullOf 15 = .ok (.getfield 59, 3) := by decide +kernel
theorem dX12_fullOf_18 : decode cX12_fullOf 18 = .ok (.iload_n 2, 1) := by decide +kernel
theorem dX12_fullOf_19 : decode cX12_fullOf 19 = .ok (.iaload, 1) := by decide +kernel
theorem dX12_fullOf_20 : decode cX12_fullOf 20 = .ok (.iload_n 1, 1) := by decide +kernel
theorem dX12_fullOf_21 : decode cX12_fullOf 21 = .ok (.if_icmp .le 12, 3) := by decide +kernel
theorem dX12_fullOf_24 : decode cX12_fullOf 24 = .ok (.aload_n 0, 1) := by decide +kernel
theorem dX12_fullOf_25 : decode cX12_fullOf 25 = .ok (.getfield 59, 3) := by decide +kernel
theorem dX12_fullOf_28 : decode cX12_fullOf 28 = .ok (.iload_n 2, 1) := by decide +kernel
theorem dX12_fullOf_29 : decode cX12_fullOf 29 = .ok (.iaload, 1) := by decide +kernel
theorem dX12_fullOf_30 : decode cX12_fullOf 30 = .ok (.goto 4, 3) := by decide +kernel
theorem dX12_fullOf_33 : decode cX12_fullOf 33 = .ok (.iload_n 1, 1) := by decide +kernel
theorem dX12_fullOf_34 : decode cX12_fullOf 34 = .ok (.istore_n 1, 1) := by decide +kernel
theorem dX12_fullOf_35 : decode cX12_fullOf 35 = .ok (.iinc 2 1, 3) := by decide +kernel
theorem dX12_fullOf_38 : decode cX12_fullOf 38 = .ok (.goto (-34), 3) := by decide +kernel
theorem dX12_fullOf_41 : decode cX12_fullOf 41 = .ok (.iload_n 1, 1) := by decide +kernel
theorem dX12_fullOf_42 : decode cX12_fullOf 42 = .ok (.ldc 142, 2) := by decide +kernel
theorem dX12_fullOf_44 : decode cX12_fullOf 44 = .ok (.if_icmp .lt 7, 3) := by decide +kernel
theorem dX12_fullOf_47 : decode cX12_fullOf 47 = .ok (.iconst (-1), 1) := by decide +kernel
theorem dX12_fullOf_48 : decode cX12_fullOf 48 = .ok (.goto 4, 3) := by decide +kernel
theorem dX12_fullOf_51 : decode cX12_fullOf 51 = .ok (.iload_n 1, 1) := by decide +kernel
theorem dX12_fullOf_52 : decode cX12_fullOf 52 = .ok (.ireturn, 1) := by decide +kernel
theorem dX12_full_0 : decode cX12_full 0 = .ok (.aload_n 0, 1) := by decide +kernel
theorem dX12_full_1 : decode cX12_full 1 = .ok (.iconst 0, 1) := by decide +kernel
theorem dX12_full_2 : decode cX12_full 2 = .ok (.putfield 92, 3) := by decide +kernel
theorem dX12_full_5 : decode cX12_full 5 = .ok (.aload_n 0, 1) := by decide +kernel
theorem dX12_full_6 : decode cX12_full 6 = .ok (.invokevirtual 311, 3) := by decide +kernel
theorem dX12_full_9 : decode cX12_full 9 = .ok (.ifCond .ne 6, 3) := by decide +kernel
theorem dX12_full_12 : decode cX12_full 12 = .ok (.bipush (-2), 2) := by decide +kernel
theorem dX12_full_14 : decode cX12_full 14 = .ok (.ireturn, 1) := by decide +kernel
theorem dX12_full_15 : decode cX12_full 15 = .ok (.aload_n 0, 1) := by decide +kernel
theorem dX12_full_16 : decode cX12_full 16 = .ok (.invokevirtual 302, 3) := by decide +kernel
theorem dX12_full_19 : decode cX12_full 19 = .ok (.aload_n 0, 1) := by decide +kernel
theorem dX12_full_20 : decode cX12_full 20 = .ok (.invokevirtual 317, 3) := by decide +kernel
theorem dX12_full_23 : decode cX12_full 23 = .ok (.ireturn, 1) := by decide +kernel
theorem dX12_last_0 : decode cX12_last 0 = .ok (.aload_n 0, 1) := by decide +kernel
theorem dX12_last_1 : decode cX12_last 1 = .ok (.iconst 0, 1) := by decide +kernel
theorem dX12_last_2 : decode cX12_last 2 = .ok (.putfield 92, 3) := by decide +kernel
theorem dX12_last_5 : decode cX12_last 5 = .ok (.aload_n 0, 1) := by decide +kernel
theorem dX12_last_6 : decode cX12_last 6 = .ok (.invokevirtual 311, 3) := by decide +kernel
theorem dX12_last_9 : decode cX12_last 9 = .ok (.ifCond .ne 6, 3) := by decide +kernel
theorem dX12_last_12 : decode cX12_last 12 = .ok (.bipush (-2), 2) := by decide +kernel
theorem dX12_last_14 : decode cX12_last 14 = .ok (.ireturn, 1) := by decide +kernel
theorem dX12_last_15 : decode cX12_last 15 = .ok (.aload_n 0, 1) := by decide +kernel
theorem dX12_last_16 : decode cX12_last 16 = .ok (.invokevirtual 302, 3) := by decide +kernel
theorem dX12_last_19 : decode cX12_last 19 = .ok (.iconst (-1), 1) := by decide +kernel
theorem dX12_last_20 : decode cX12_last 20 = .ok (.istore_n 1, 1) := by decide +kernel
theorem dX12_last_21 : decode cX12_last 21 = .ok (.iconst 0, 1) := by decide +kernel
theorem dX12_last_22 : decode cX12_last 22 = .ok (.istore_n 2, 1) := by decide +kernel
theorem dX12_last_23 : decode cX12_last 23 = .ok (.iload_n 2, 1) := by decide +kernel
theorem dX12_last_24 : decode cX12_last 24 = .ok (.aload_n 0, 1) := by decide +kernel
theorem dX12_last_25 : decode cX12_last 25 = .ok (.getfield 34, 3) := by decide +kernel
theorem dX12_last_28 : decode cX12_last 28 = .ok (.iconst 0, 1) := by decide +kernel
theorem dX12_last_29 : decode cX12_last 29 = .ok (.iaload, 1) := by decide +kernel
theorem dX12_last_30 : decode cX12_last 30 = .ok (.if_icmp .ge 42, 3) := by decide +kernel
theorem dX12_last_33 : decode cX12_last 33 = .ok (.aload_n 0, 1) := by decide +kernel
theorem dX12_last_34 : decode cX12_last 34 = .ok (.getfield 59, 3) := by decide +kernel
theorem dX12_last_37 : decode cX12_last 37 = .ok (.iload_n 2, 1) := by decide +kernel
theorem dX12_last_38 : decode cX12_last 38 = .ok (.iaload, 1) := by decide +kernel
theorem dX12_last_39 : decode cX12_last 39 = .ok (.ldc 142, 2) := by decide +kernel
theorem dX12_last_41 : decode cX12_last 41 = .ok (.if_icmp .ge 25, 3) := by decide +kernel
theorem dX12_last_44 : decode cX12_last 44 = .ok (.iload_n 1, 1) := by decide +kernel
theorem dX12_last_45 : decode cX12_last 45 = .ok (.iconst (-1), 1) := by decide +kernel
theorem dX12_last_46 : decode cX12_last 46 = .ok (.if_icmp .eq 18, 3) := by decide +kernel
theorem dX12_last_49 : decode cX12_last 49 = .ok (.aload_n 0, 1) := by decide +kernel
theorem dX12_last_50 : decode cX12_last 50 = .ok (.getfield 59, 3) := by decide +kernel
theorem dX12_last_53 : decode cX12_last 53 = .ok (.iload_n 2, 1) := by decide +kernel
theorem dX12_last_54 : decode cX12_last 54 = .ok (.iaload, 1) := by decide +kernel
theorem dX12_last_55 : decode cX12_last 55 = .ok (.aload_n 0, 1) := by decide +kernel
theorem dX12_last_56 : decode cX12_last 56 = .ok (.getfield 59, 3) := by decide +kernel
theorem dX12_last_59 : decode cX12_last 59 = .ok (.iload_n 1, 1) := by decide +kernel
theorem dX12_last_60 : decode cX12_last 60 = .ok (.iaload, 1) := by decide +kernel
theorem dX12_last_61 : decode cX12_last 61 = .ok (.if_icmp .le 5, 3) := by decide +kernel
theorem dX12_last_64 : decode cX12_last 64 = .ok (.iload_n 2, 1) := by decide +kernel
theorem dX12_last_65 : decode cX12_last 65 = .ok (.istore_n 1, 1) := by decide +kernel
theorem dX12_last_66 : decode cX12_last 66 = .ok (.iinc 2 1, 3) := by decide +kernel
theorem dX12_last_69 : decode cX12_last 69 = .ok (.goto (-46), 3) := by decide +kernel
theorem dX12_last_72 : decode cX12_last 72 = .ok (.iload_n 1, 1) := by decide +kernel
theorem dX12_last_73 : decode cX12_last 73 = .ok (.ireturn, 1) := by decide +kernel
theorem dX12_steps_0 : decode cX12_steps 0 = .ok (.aload_n 0, 1) := by decide +kernel
theorem dX12_steps_1 : decode cX12_steps 1 = .ok (.iconst 0, 1) := by decide +kernel
theorem dX12_steps_2 : decode cX12_steps 2 = .ok (.putfield 92, 3) := by decide +kernel
theorem dX12_steps_5 : decode cX12_steps 5 = .ok (.aload_n 0, 1) := by decide +kernel
theorem dX12_steps_6 : decode cX12_steps 6 = .ok (.iload_n 1, 1) := by decide +kernel
theorem dX12_steps_7 : decode cX12_steps 7 = .ok (.i2l, 1) := by decide +kernel
theorem dX12_steps_8 : decode cX12_steps 8 = .ok (.invokevirtual 299, 3) := by decide +kernel
theorem dX12_steps_11 : decode cX12_steps 11 = .ok (.ifCond .ne 6, 3) := by decide +kernel
theorem dX12_steps_14 : decode cX12_steps 14 = .ok (.bipush (-2), 2) := by decide +kernel
theorem dX12_steps_16 : decode cX12_steps 16 = .ok (.ireturn, 1) := by decide +kernel
theorem dX12_steps_17 : decode cX12_steps 17 = .ok (.aload_n 0, 1) := by decide +kernel
theorem dX12_steps_18 : decode cX12_steps 18 = .ok (.invokevirtual 302, 3) := by decide +kernel
theorem dX12_steps_21 : decode cX12_steps 21 = .ok (.aload_n 0, 1) := by decide +kernel
theorem dX12_steps_22 : decode cX12_steps 22 = .ok (.getfield 59, 3) := by decide +kernel
theorem dX12_steps_25 : decode cX12_steps 25 = .ok (.iload_n 1, 1) := by decide +kernel
theorem dX12_steps_26 : decode cX12_steps 26 = .ok (.iaload, 1) := by decide +kernel
theorem dX12_steps_27 : decode cX12_steps 27 = .ok (.ldc 142, 2) := by decide +kernel
theorem dX12_steps_29 : decode cX12_steps 29 = .ok (.if_icmp .lt 5, 3) := by decide +kernel
theorem dX12_steps_32 : decode cX12_steps 32 = .ok (.iconst (-1), 1) := by decide +kernel
theorem dX12_steps_33 : decode cX12_steps 33 = .ok (.ireturn, 1) := by decide +kernel
theorem dX12_steps_34 : decode cX12_steps 34 = .ok (.iconst 0, 1) := by decide +kernel
theorem dX12_steps_35 : decode cX12_steps 35 = .ok (.istore_n 2, 1) := by decide +kernel
theorem dX12_steps_36 : decode cX12_steps 36 = .ok (.iload_n 1, 1) := by decide +kernel
theorem dX12_steps_37 : decode cX12_steps 37 = .ok (.istore_n 3, 1) := by decide +kernel
theorem dX12_steps_38 : decode cX12_steps 38 = .ok (.aload_n 0, 1) := by decide +kernel
theorem dX12_steps_39 : decode cX12_steps 39 = .ok (.iload_n 3, 1) := by decide +kernel
theorem dX12_steps_40 : decode cX12_steps 40 = .ok (.invokevirtual 308, 3) := by decide +kernel
theorem dX12_steps_43 : decode cX12_steps 43 = .ok (.istore 4, 2) := by decide +kernel
theorem dX12_steps_45 : decode cX12_steps 45 = .ok (.iload 4, 2) := by decide +kernel
theorem dX12_steps_47 : decode cX12_steps 47 = .ok (.iconst (-1), 1) := by decide +kernel
theorem dX12_steps_48 : decode cX12_steps 48 = .ok (.if_icmp .eq 53, 3) := by decide +kernel
theorem dX12_steps_51 : decode cX12_steps 51 = .ok (.aload_n 0, 1) := by decide +kernel
theorem dX12_steps_52 : decode cX12_steps 52 = .ok (.getfield 37, 3) := by decide +kernel
theorem dX12_steps_55 : decode cX12_steps 55 = .ok (.iconst 5, 1) := by decide +kernel
theorem dX12_steps_56 : decode cX12_steps 56 = .ok (.iload 4, 2) := by decide +kernel
theorem dX12_steps_58 : decode cX12_steps 58 = .ok (.imul, 1) := by decide +kernel
theorem dX12_steps_59 : decode cX12_steps 59 = .ok (.iaload, 1) := by decide +kernel
theorem dX12_steps_60 : decode cX12_steps 60 = .ok (.iload_n 3, 1) := by decide +kernel
theorem dX12_steps_61 : decode cX12_steps 61 = .ok (.if_icmp .ne 17, 3) := by decide +kernel
theorem dX12_steps_64 : decode cX12_steps 64 = .ok (.aload_n 0, 1) := by decide +kernel
theorem dX12_steps_65 : decode cX12_steps 65 = .ok (.getfield 37, 3) := by decide +kernel
theorem dX12_steps_68 : decode cX12_steps 68 = .ok (.iconst 5, 1) := by decide +kernel
theorem dX12_steps_69 : decode cX12_steps 69 = .ok (.iload 4, 2) := by decide +kernel
theorem dX12_steps_71 : decode cX12_steps 71 = .ok (.imul, 1) := by decide +kernel
theorem dX12_steps_72 : decode cX12_steps 72 = .ok (.iconst 1, 1) := by decide +kernel
theorem dX12_steps_73 : decode cX12_steps 73 = .ok (.iadd, 1) := by decide +kernel
theorem dX12_steps_74 : decode cX12_steps 74 = .ok (.iaload, 1) := by decide +kernel
theorem dX12_steps_75 : decode cX12_steps 75 = .ok (.goto 12, 3) := by decide +kernel
theorem dX12_steps_78 : decode cX12_steps 78 = .ok (.aload_n 0, 1) := by decide +kernel
theorem dX12_steps_79 : decode cX12_steps 79 = .ok (.getfield 37, 3) := by decide +kernel
theorem dX12_steps_82 : decode cX12_steps 82 = .ok (.iconst 5, 1) := by decide +kernel
theorem dX12_steps_83 : decode cX12_steps 83 = .ok (.iload 4, 2) := by decide +kernel
theorem dX12_steps_85 : decode cX12_steps 85 = .ok (.imul, 1) := by decide +kernel
theorem dX12_steps_86 : decode cX12_steps 86 = .ok (.iaload, 1) := by decide +kernel
theorem dX12_steps_87 : decode cX12_steps 87 = .ok (.istore_n 3, 1) := by decide +kernel
theorem dX12_steps_88 : decode cX12_steps 88 = .ok (.iinc 2 1, 3) := by decide +kernel
theorem dX12_steps_91 : decode cX12_steps 91 = .ok (.aload_n 0, 1) := by decide +kernel
theorem dX12_steps_92 : decode cX12_steps 92 = .ok (.iload_n 3, 1) := by decide +kernel
theorem dX12_steps_93 : decode cX12_steps 93 = .ok (.invokevirtual 308, 3) := by decide +kernel
theorem dX12_steps_96 : decode cX12_steps 96 = .ok (.istore 4, 2) := by decide +kernel
theorem dX12_steps_98 : decode cX12_steps 98 = .ok (.goto (-53), 3) := by decide +kernel
theorem dX12_steps_101 : decode cX12_steps 101 = .ok (.iload_n 2, 1) := by decide +kernel
theorem dX12_steps_102 : decode cX12_steps 102 = .ok (.ireturn, 1) := by decide +kernel
theorem dX12_have_0 : decode cX12_have 0 = .ok (.aload_n 0, 1) := by decide +kernel
theorem dX12_have_1 : decode cX12_have 1 = .ok (.iconst 0, 1) := by decide +kernel
theorem dX12_have_2 : decode cX12_have 2 = .ok (.putfield 92, 3) := by decide +kernel
theorem dX12_have_5 : decode cX12_have 5 = .ok (.aload_n 0, 1) := by decide +kernel
theorem dX12_have_6 : decode cX12_have 6 = .ok (.invokevirtual 311, 3) := by decide +kernel
theorem dX12_have_9 : decode cX12_have 9 = .ok (.ifCond .eq 10, 3) := by decide +kernel
theorem dX12_have_12 : decode cX12_have 12 = .ok (.iload_n 1, 1) := by decide +kernel
theorem dX12_have_13 : decode cX12_have 13 = .ok (.invokestatic 314, 3) := by decide +kernel
theorem dX12_have_16 : decode cX12_have 16 = .ok (.ifCond .ne 6, 3) := by decide +kernel
theorem dX12_have_19 : decode cX12_have 19 = .ok (.bipush (-2), 2) := by decide +kernel
theorem dX12_have_21 : decode cX12_have 21 = .ok (.ireturn, 1) := by decide +kernel
theorem dX12_have_22 : decode cX12_have 22 = .ok (.aload_n 0, 1) := by decide +kernel
theorem dX12_have_23 : decode cX12_have 23 = .ok (.invokevirtual 302, 3) := by decide +kernel
theorem dX12_have_26 : decode cX12_have 26 = .ok (.iconst 0, 1) := by decide +kernel
theorem dX12_have_27 : decode cX12_have 27 = .ok (.istore_n 2, 1) := by decide +kernel
theorem dX12_have_28 : decode cX12_have 28 = .ok (.iconst 0, 1) := by decide +kernel
theorem dX12_have_29 : decode cX12_have 29 = .ok (.istore_n 3, 1) := by decide +kernel
theorem dX12_have_30 : decode cX12_have 30 = .ok (.iload_n 3, 1) := by decide +kernel
theorem dX12_have_31 : decode cX12_have 31 = .ok (.aload_n 0, 1) := by decide +kernel
theorem dX12_have_32 : decode cX12_have 32 = .ok (.getfield 34, 3) := by decide +kernel
theorem dX12_have_35 : decode cX12_have 35 = .ok (.iconst 3, 1) := by decide +kernel
theorem dX12_have_36 : decode cX12_have 36 = .ok (.iaload, 1) := by decide +kernel
theorem dX12_have_37 : decode cX12_have 37 = .ok (.if_icmp .ge 36, 3) := by decide +kernel
theorem dX12_have_40 : decode cX12_have 40 = .ok (.iload_n 2, 1) := by decide +kernel
theorem dX12_have_41 : decode cX12_have 41 = .ok (.aload_n 0, 1) := by decide +kernel
theorem dX12_have_42 : decode cX12_have 42 = .ok (.getfield 59, 3) := by decide +kernel
theorem dX12_have_45 : decode cX12_have 45 = .ok (.aload_n 0, 1) := by decide +kernel
theorem dX12_have_46 : decode cX12_have 46 = .ok (.getfield 43, 3) := by decide +kernel
theorem dX12_have_49 : decode cX12_have 49 = .ok (.iconst 4, 1) := by decide +kernel
theorem dX12_have_50 : decode cX12_have 50 = .ok (.iload_n 3, 1) := by decide +kernel
theorem dX12_have_51 : decode cX12_have 51 = .ok (.imul, 1) := by decide +kernel
theorem dX12_have_52 : decode cX12_have 52 = .ok (.iaload, 1) := by decide +kernel
theorem dX12_have_53 : decode cX12_have 53 = .ok (.iaload, 1) := by decide +kernel
theorem dX12_have_54 : decode cX12_have 54 = .ok (.iload_n 1, 1) := by decide +kernel
theorem dX12_have_55 : decode cX12_have 55 = .ok (.if_icmp .gt 9, 3) := by decide +kernel
theorem dX12_have_58 : decode cX12_have 58 = .ok (.iconst 1, 1) := by decide +kernel
theorem dX12_have_59 : decode cX12_have 59 = .ok (.iload_n 3, 1) := by decide +kernel
theorem dX12_have_60 : decode cX12_have 60 = .ok (.ishl, 1) := by decide +kernel
theorem dX12_have_61 : decode cX12_have 61 = .ok (.goto 4, 3) := by decide +kernel
theorem dX12_have_64 : decode cX12_have 64 = .ok (.iconst 0, 1) := by decide +kernel
theorem dX12_have_65 : decode cX12_have 65 = .ok (.ior, 1) := by decide +kernel
theorem dX12_have_66 : decode cX12_have 66 = .ok (.istore_n 2, 1) := by decide +kernel
theorem dX12_have_67 : decode cX12_have 67 = .ok (.iinc 3 1, 3) := by decide +kernel
theorem dX12_have_70 : decode cX12_have 70 = .ok (.goto (-40), 3) := by decide +kernel
theorem dX12_have_73 : decode cX12_have 73 = .ok (.iload_n 2, 1) := by decide +kernel
theorem dX12_have_74 : decode cX12_have 74 = .ok (.ireturn, 1) := by decide +kernel
theorem dX12_keeps_0 : decode cX12_keeps 0 = .ok (.iconst 0, 1) := by decide +kernel
theorem dX12_keeps_1 : decode cX12_keeps 1 = .ok (.istore_n 1, 1) := by decide +kernel
theorem dX12_keeps_2 : decode cX12_keeps 2 = .ok (.iload_n 1, 1) := by decide +kernel
theorem dX12_keeps_3 : decode cX12_keeps 3 = .ok (.bipush 8, 2) := by decide +kernel
theorem dX12_keeps_5 : decode cX12_keeps 5 = .ok (.if_icmp .ge 21, 3) := by decide +kernel
theorem dX12_keeps_8 : decode cX12_keeps 8 = .ok (.aload_n 0, 1) := by decide +kernel
theorem dX12_keeps_9 : decode cX12_keeps 9 = .ok (.getfield 62, 3) := by decide +kernel
theorem dX12_keeps_12 : decode cX12_keeps 12 = .ok (.iload_n 1, 1) := by decide +kernel
theorem dX12_keeps_13 : decode cX12_keeps 13 = .ok (.aload_n 0, 1) := by decide +kernel
theorem dX12_keeps_14 : decode cX12_keeps 14 = .ok (.getfield 59, 3) := by decide +kernel
theorem dX12_keeps_17 : decode cX12_keeps 17 = .ok (.iload_n 1, 1) := by decide +kernel
theorem dX12_keeps_18 : decode cX12_keeps 18 = .ok (.iaload, 1) := by decide +kernel
theorem dX12_keeps_19 : decode cX12_keeps 19 = .ok (.iastore, 1) := by decide +kernel
theorem dX12_keeps_20 : decode cX12_keeps 20 = .ok (.iinc 1 1, 3) := by decide +kernel
theorem dX12_keeps_23 : decode cX12_keeps 23 = .ok (.goto (-21), 3) := by decide +kernel
theorem dX12_keeps_26 : decode cX12_keeps 26 = .ok (.return_, 1) := by decide +kernel
theorem dX12_later_0 : decode cX12_later 0 = .ok (.iconst 0, 1) := by decide +kernel
theorem dX12_later_1 : decode cX12_later 1 = .ok (.istore_n 1, 1) := by decide +kernel
theorem dX12_later_2 : decode cX12_later 2 = .ok (.iconst 0, 1) := by decide +kernel
theorem dX12_later_3 : decode cX12_later 3 = .ok (.istore_n 2, 1) := by decide +kernel
theorem dX12_later_4 : decode cX12_later 4 = .ok (.iload_n 2, 1) := by decide +kernel
theorem dX12_later_5 : decode cX12_later 5 = .ok (.aload_n 0, 1) := by decide +kernel
theorem dX12_later_6 : decode cX12_later 6 = .ok (.getfield 34, 3) := by decide +kernel
theorem dX12_later_9 : decode cX12_later 9 = .ok (.iconst 0, 1) := by decide +kernel
theorem dX12_later_10 : decode cX12_later 10 = .ok (.iaload, 1) := by decide +kernel
theorem dX12_later_11 : decode cX12_later 11 = .ok (.if_icmp .ge 64, 3) := by decide +kernel
theorem dX12_later_14 : decode cX12_later 14 = .ok (.iload_n 1, 1) := by decide +kernel
theorem dX12_later_15 : decode cX12_later 15 = .ok (.aload_n 0, 1) := by decide +kernel
theorem dX12_later_16 : decode cX12_later 16 = .ok (.getfield 62, 3) := by decide +kernel
theorem dX12_later_19 : decode cX12_later 19 = .ok (.iload_n 2, 1) := by decide +kernel
theorem dX12_later_20 : decode cX12_later 20 = .ok (.iaload, 1) := by decide +kernel
theorem dX12_later_21 : decode cX12_later 21 = .ok (.ldc 142, 2) := by decide +kernel
theorem dX12_later_23 : decode cX12_later 23 = .ok (.if_icmp .lt 7, 3) := by decide +kernel
theorem dX12_later_26 : decode cX12_later 26 = .ok (.iconst 0, 1) := by decide +kernel
theorem dX12_later_27 : decode cX12_later 27 = .ok (.goto 40, 3) := by decide +kernel
theorem dX12_later_30 : decode cX12_later 30 = .ok (.aload_n 0, 1) := by decide +kernel
theorem dX12_later_31 : decode cX12_later 31 = .ok (.getfield 59, 3) := by decide +kernel
theorem dX12_later_34 : decode cX12_later 34 = .ok (.iload_n 2, 1) := by decide +kernel
theorem dX12_later_35 : decode cX12_later 35 = .ok (.iaload, 1) := by decide +kernel
theorem dX12_later_36 : decode cX12_later 36 = .ok (.ldc 142, 2) := by decide +kernel
theorem dX12_later_38 : decode cX12_later 38 = .ok (.if_icmp .lt 16, 3) := by decide +kernel
theorem dX12_later_41 : decode cX12_later 41 = .ok (.sipush 1000, 3) := by decide +kernel
theorem dX12_later_44 : decode cX12_later 44 = .ok (.aload_n 0, 1) := by decide +kernel
theorem dX12_later_45 : decode cX12_later 45 = .ok (.getfield 62, 3) := by decide +kernel
theorem dX12_later_48 : decode cX12_later 48 = .ok (.iload_n 2, 1) := by decide +kernel
theorem dX12_later_49 : decode cX12_later 49 = .ok (.iaload, 1) := by decide +kernel
theorem dX12_later_50 : decode cX12_later 50 = .ok (.isub, 1) := by decide +kernel
theorem dX12_later_51 : decode cX12_later 51 = .ok (.goto 16, 3) := by decide +kernel
theorem dX12_later_54 : decode cX12_later 54 = .ok (.aload_n 0, 1) := by decide +kernel
theorem dX12_later_55 : decode cX12_later 55 = .ok (.getfield 59, 3) := by decide +kernel
theorem dX12_later_58 : decode cX12_later 58 = .ok (.iload_n 2, 1) := by decide +kernel
theorem dX12_later_59 : decode cX12_later 59 = .ok (.iaload, 1) := by decide +kernel
theorem dX12_later_60 : decode cX12_later 60 = .ok (.aload_n 0, 1) := by decide +kernel
theorem dX12_later_61 : decode cX12_later 61 = .ok (.getfield 62, 3) := by decide +kernel
theorem dX12_later_64 : decode cX12_later 64 = .ok (.iload_n 2, 1) := by decide +kernel
theorem dX12_later_65 : decode cX12_later 65 = .ok (.iaload, 1) := by decide +kernel
theorem dX12_later_66 : decode cX12_later 66 = .ok (.isub, 1) := by decide +kernel
theorem dX12_later_67 : decode cX12_later 67 = .ok (.iadd, 1) := by decide +kernel
theorem dX12_later_68 : decode cX12_later 68 = .ok (.istore_n 1, 1) := by decide +kernel
theorem dX12_later_69 : decode cX12_later 69 = .ok (.iinc 2 1, 3) := by decide +kernel
theorem dX12_later_72 : decode cX12_later 72 = .ok (.goto (-68), 3) := by decide +kernel
theorem dX12_later_75 : decode cX12_later 75 = .ok (.iload_n 1, 1) := by decide +kernel
theorem dX12_later_76 : decode cX12_later 76 = .ok (.ireturn, 1) := by decide +kernel
theorem dX12_idle_0 : decode cX12_idle 0 = .ok (.aload_n 0, 1) := by decide +kernel
theorem dX12_idle_1 : decode cX12_idle 1 = .ok (.iconst 0, 1) := by decide +kernel
theorem dX12_idle_2 : decode cX12_idle 2 = .ok (.putfield 92, 3) := by decide +kernel
theorem dX12_idle_5 : decode cX12_idle 5 = .ok (.aload_n 0, 1) := by decide +kernel
theorem dX12_idle_6 : decode cX12_idle 6 = .ok (.invokevirtual 311, 3) := by decide +kernel
theorem dX12_idle_9 : decode cX12_idle 9 = .ok (.ifCond .ne 6, 3) := by decide +kernel
theorem dX12_idle_12 : decode cX12_idle 12 = .ok (.bipush (-2), 2) := by decide +kernel
theorem dX12_idle_14 : decode cX12_idle 14 = .ok (.ireturn, 1) := by decide +kernel
theorem dX12_idle_15 : decode cX12_idle 15 = .ok (.aload_n 0, 1) := by decide +kernel
theorem dX12_idle_16 : decode cX12_idle 16 = .ok (.invokevirtual 302, 3) := by decide +kernel
theorem dX12_idle_19 : decode cX12_idle 19 = .ok (.aload_n 0, 1) := by decide +kernel
theorem dX12_idle_20 : decode cX12_idle 20 = .ok (.invokevirtual 320, 3) := by decide +kernel
theorem dX12_idle_23 : decode cX12_idle 23 = .ok (.iconst 0, 1) := by decide +kernel
theorem dX12_idle_24 : decode cX12_idle 24 = .ok (.istore_n 1, 1) := by decide +kernel
theorem dX12_idle_25 : decode cX12_idle 25 = .ok (.iconst 0, 1) := by decide +kernel
theorem dX12_idle_26 : decode cX12_idle 26 = .ok (.istore_n 2, 1) := by decide +kernel
theorem dX12_idle_27 : decode cX12_idle 27 = .ok (.iload_n 2, 1) := by decide +kernel
theorem dX12_idle_28 : decode cX12_idle 28 = .ok (.aload_n 0, 1) := by decide +kernel
theorem dX12_idle_29 : decode cX12_idle 29 = .ok (.getfield 34, 3) := by decide +kernel
theorem dX12_idle_32 : decode cX12_idle 32 = .ok (.iconst 1, 1) := by decide +kernel
theorem dX12_idle_33 : decode cX12_idle 33 = .ok (.iaload, 1) := by decide +kernel
theorem dX12_idle_34 : decode cX12_idle 34 = .ok (.if_icmp .ge 99, 3) := by decide +kernel
theorem dX12_idle_37 : decode cX12_idle 37 = .ok (.aload_n 0, 1) := by decide +kernel
theorem dX12_idle_38 : decode cX12_idle 38 = .ok (.getfield 262, 3) := by decide +kernel
theorem dX12_idle_41 : decode cX12_idle 41 = .ok (.iload_n 2, 1) := by decide +kernel
theorem dX12_idle_42 : decode cX12_idle 42 = .ok (.invokestatic 265, 3) := by decide +kernel
theorem dX12_idle_45 : decode cX12_idle 45 = .ok (.ifCond .ne 6, 3) := by decide +kernel
theorem dX12_idle_48 : decode cX12_idle 48 = .ok (.goto 79, 3) := by decide +kernel
theorem dX12_idle_51 : decode cX12_idle 51 = .ok (.aload_n 0, 1) := by decide +kernel
theorem dX12_idle_52 : decode cX12_idle 52 = .ok (.aload_n 0, 1) := by decide +kernel
theorem dX12_idle_53 : decode cX12_idle 53 = .ok (.getfield 262, 3) := by decide +kernel
theorem dX12_idle_56 : decode cX12_idle 56 = .ok (.iconst 1, 1) := by decide +kernel
theorem dX12_idle_57 : decode cX12_idle 57 = .ok (.iload_n 2, 1) := by decide +kernel
theorem dX12_idle_58 : decode cX12_idle 58 = .ok (.ishl, 1) := by decide +kernel
theorem dX12_idle_59 : decode cX12_idle 59 = .ok (.iconst (-1), 1) := by decide +kernel
theorem dX12_idle_60 : decode cX12_idle 60 = .ok (.ixor, 1) := by decide +kernel
theorem dX12_idle_61 : decode cX12_idle 61 = .ok (.iand, 1) := by decide +kernel
theorem dX12_idle_62 : decode cX12_idle 62 = .ok (.iconst 0, 1) := by decide +kernel
theorem dX12_idle_63 : decode cX12_idle 63 = .ok (.invokevirtual 282, 3) := by decide +kernel
theorem dX12_idle_66 : decode cX12_idle 66 = .ok (.iconst 1, 1) := by decide +kernel
theorem dX12_idle_67 : decode cX12_idle 67 = .ok (.istore_n 3, 1) := by decide +kernel
theorem dX12_idle_68 : decode cX12_idle 68 = .ok (.iconst 0, 1) := by decide +kernel
theorem dX12_idle_69 : decode cX12_idle 69 = .ok (.istore 4, 2) := by decide +kernel
theorem dX12_idle_71 : decode cX12_idle 71 = .ok (.iload 4, 2) := by decide +kernel
theorem dX12_idle_73 : decode cX12_idle 73 = .ok (.aload_n 0, 1) := by decide +kernel
theorem dX12_idle_74 : decode cX12_idle 74 = .ok (.getfield 34, 3) := by decide +kernel
theorem dX12_idle_77 : decode cX12_idle 77 = .ok (.iconst 0, 1) := by decide +kernel
theorem dX12_idle_78 : decode cX12_idle 78 = .ok (.iaload, 1) := by decide +kernel
theorem dX12_idle_79 : decode cX12_idle 79 = .ok (.if_icmp .ge 34, 3) := by decide +kernel
theorem dX12_idle_82 : decode cX12_idle 82 = .ok (.iload_n 3, 1) := by decide +kernel
theorem dX12_idle_83 : decode cX12_idle 83 = .ok (.aload_n 0, 1) := by decide +kernel
theorem dX12_idle_84 : decode cX12_idle 84 = .ok (.getfield 59, 3) := by decide +kernel
theorem dX12_idle_87 : decode cX12_idle 87 = .ok (.iload 4, 2) := by decide +kernel
theorem dX12_idle_89 : decode cX12_idle 89 = .ok (.iaload, 1) := by decide +kernel
theorem dX12_idle_90 : decode cX12_idle 90 = .ok (.aload_n 0, 1) := by decide +kernel
theorem dX12_idle_91 : decode cX12_idle 91 = .ok (.getfield 62, 3) := by decide +kernel
theorem dX12_idle_94 : decode cX12_idle 94 = .ok (.iload 4, 2) := by decide +kernel
theorem dX12_idle_96 : decode cX12_idle 96 = .ok (.iaload, 1) := by decide +kernel
theorem dX12_idle_97 : decode cX12_idle 97 = .ok (.if_icmp .ne 7, 3) := by decide +kernel
theorem dX12_idle_100 : decode cX12_idle 100 = .ok (.iconst 1, 1) := by decide +kernel
theorem dX12_idle_101 : decode cX12_idle 101 = .ok (.goto 4, 3) := by decide +kernel
theorem dX12_idle_104 : decode cX12_idle 104 = .ok (.iconst 0, 1) := by decide +kernel
theorem dX12_idle_105 : decode cX12_idle 105 = .ok (.iand, 1) := by decide +kernel
theorem dX12_idle_106 : decode cX12_idle 106 = .ok (.istore_n 3, 1) := by decide +kernel
theorem dX12_idle_107 : decode cX12_idle 107 = .ok (.iinc 4 1, 3) := by decide +kernel
theorem dX12_idle_110 : decode cX12_idle 110 = .ok (.goto (-39), 3) := by decide +kernel
theorem dX12_idle_113 : decode cX12_idle 113 = .ok (.iload_n 1, 1) := by decide +kernel
theorem dX12_idle_114 : decode cX12_idle 114 = .ok (.iload_n 3, 1) := by decide +kernel
theorem dX12_idle_115 : decode cX12_idle 115 = .ok (.ifCond .eq 9, 3) := by decide +kernel
theorem dX12_idle_118 : decode cX12_idle 118 = .ok (.iconst 1, 1) := by decide +kernel
theorem dX12_idle_119 : decode cX12_idle 119 = .ok (.iload_n 2, 1) := by decide +kernel
theorem dX12_idle_120 : decode cX12_idle 120 = .ok (.ishl, 1) := by decide +kernel
theorem dX12_idle_121 : decode cX12_idle 121 = .ok (.goto 4, 3) := by decide +kernel
theorem dX12_idle_124 : decode cX12_idle 124 = .ok (.iconst 0, 1) := by decide +kernel
theorem dX12_idle_125 : decode cX12_idle 125 = .ok (.ior, 1) := by decide +kernel
theorem dX12_idle_126 : decode cX12_idle 126 = .ok (.istore_n 1, 1) := by decide +kernel
theorem dX12_idle_127 : decode cX12_idle 127 = .ok (.iinc 2 1, 3) := by decide +kernel
theorem dX12_idle_130 : decode cX12_idle 130 = .ok (.goto (-103), 3) := by decide +kernel
theorem dX12_idle_133 : decode cX12_idle 133 = .ok (.iload_n 1, 1) := by decide +kernel
theorem dX12_idle_134 : decode cX12_idle 134 = .ok (.ireturn, 1) := by decide +kernel
theorem dX12_harm_0 : decode cX12_harm 0 = .ok (.aload_n 0, 1) := by decide +kernel
theorem dX12_harm_1 : decode cX12_harm 1 = .ok (.iconst 0, 1) := by decide +kernel
theorem dX12_harm_2 : decode cX12_harm 2 = .ok (.putfield 92, 3) := by decide +kernel
theorem dX12_harm_5 : decode cX12_harm 5 = .ok (.aload_n 0, 1) := by decide +kernel
theorem dX12_harm_6 : decode cX12_harm 6 = .ok (.iload_n 1, 1) := by decide +kernel
theorem dX12_harm_7 : decode cX12_harm 7 = .ok (.invokevirtual 285, 3) := by decide +kernel
theorem dX12_harm_10 : decode cX12_harm 10 = .ok (.ifCond .ne 6, 3) := by decide +kernel
theorem dX12_harm_13 : decode cX12_harm 13 = .ok (.bipush (-2), 2) := by decide +kernel
theorem dX12_harm_15 : decode cX12_harm 15 = .ok (.ireturn, 1) := by decide +kernel
theorem dX12_harm_16 : decode cX12_harm 16 = .ok (.aload_n 0, 1) := by decide +kernel
theorem dX12_harm_17 : decode cX12_harm 17 = .ok (.invokevirtual 302, 3) := by decide +kernel
theorem dX12_harm_20 : decode cX12_harm 20 = .ok (.aload_n 0, 1) := by decide +kernel
theorem dX12_harm_21 : decode cX12_harm 21 = .ok (.getfield 262, 3) := by decide +kernel
theorem dX12_harm_24 : decode cX12_harm 24 = .ok (.iload_n 1, 1) := by decide +kernel
theorem dX12_harm_25 : decode cX12_harm 25 = .ok (.invokestatic 265, 3) := by decide +kernel
theorem dX12_harm_28 : decode cX12_harm 28 = .ok (.ifCond .ne 6, 3) := by decide +kernel
theorem dX12_harm_31 : decode cX12_harm 31 = .ok (.bipush (-2), 2) := by decide +kernel
theorem dX12_harm_33 : decode cX12_harm 33 = .ok (.ireturn, 1) := by decide +kernel
theorem dX12_harm_34 : decode cX12_harm 34 = .ok (.aload_n 0, 1) := by decide +kernel
theorem dX12_harm_35 : decode cX12_harm 35 = .ok (.invokevirtual 320, 3) := by decide +kernel
theorem dX12_harm_38 : decode cX12_harm 38 = .ok (.aload_n 0, 1) := by decide +kernel
theorem dX12_harm_39 : decode cX12_harm 39 = .ok (.aload_n 0, 1) := by decide +kernel
theorem dX12_harm_40 : decode cX12_harm 40 = .ok (.getfield 262, 3) := by decide +kernel
theorem dX12_harm_43 : decode cX12_harm 43 = .ok (.iconst 1, 1) := by decide +kernel
theorem dX12_harm_44 : decode cX12_harm 44 = .ok (.iload_n 1, 1) := by decide +kernel
theorem dX12_harm_45 : decode cX12_harm 45 = .ok (.ishl, 1) := by decide +kernel
theorem dX12_harm_46 : decode cX12_harm 46 = .ok (.iconst (-1), 1) := by decide +kernel
theorem dX12_harm_47 : decode cX12_harm 47 = .ok (.ixor, 1) := by decide +kernel
theorem dX12_harm_48 : decode cX12_harm 48 = .ok (.iand, 1) := by decide +kernel
theorem dX12_harm_49 : decode cX12_harm 49 = .ok (.iconst 0, 1) := by decide +kernel
theorem dX12_harm_50 : decode cX12_harm 50 = .ok (.invokevirtual 282, 3) := by decide +kernel
theorem dX12_harm_53 : decode cX12_harm 53 = .ok (.aload_n 0, 1) := by decide +kernel
theorem dX12_harm_54 : decode cX12_harm 54 = .ok (.invokevirtual 323, 3) := by decide +kernel
theorem dX12_harm_57 : decode cX12_harm 57 = .ok (.ireturn, 1) := by decide +kernel
theorem dX12_laysOwners_0 : decode cX12_laysOwners 0 = .ok (.aload_n 0, 1) := by decide +kernel
theorem dX12_laysOwners_1 : decode cX12_laysOwners 1 = .ok (.invokevirtual 302, 3) := by decide +kernel
theorem dX12_laysOwners_4 : decode cX12_laysOwners 4 = .ok (.aload_n 0, 1) := by decide +kernel
theorem dX12_laysOwners_5 : decode cX12_laysOwners 5 = .ok (.invokevirtual 320, 3) := by decide +kernel
theorem dX12_laysOwners_8 : decode cX12_laysOwners 8 = .ok (.iconst 0, 1) := by decide +kernel
theorem dX12_laysOwners_9 : decode cX12_laysOwners 9 = .ok (.istore_n 1, 1) := by decide +kernel
theorem dX12_laysOwners_10 : decode cX12_laysOwners 10 = .ok (.iload_n 1, 1) := by decide +kernel
theorem dX12_laysOwners_11 : decode cX12_laysOwners 11 = .ok (.bipush 8, 2) := by decide +kernel
theorem dX12_laysOwners_13 : decode cX12_laysOwners 13 = .ok (.if_icmp .ge 39, 3) := by decide +kernel
theorem dX12_laysOwners_16 : decode cX12_laysOwners 16 = .ok (.aload_n 0, 1) := by decide +kernel
theorem dX12_laysOwners_17 : decode cX12_laysOwners 17 = .ok (.getfield 65, 3) := by decide +kernel
theorem dX12_laysOwners_20 : decode cX12_laysOwners 20 = .ok (.iload_n 1, 1) := by decide +kernel
theorem dX12_laysOwners_21 : decode cX12_laysOwners 21 = .ok (.aload_n 0, 1) := by decide +kernel
theorem dX12_laysOwners_22 : decode cX12_laysOwners 22 = .ok (.getfield 62, 3) := by decide +kernel
theorem dX12_laysOwners_25 : decode cX12_laysOwners 25 = .ok (.iload_n 1, 1) := by decide +kernel
theorem dX12_laysOwners_26 : decode cX12_laysOwners 26 = .ok (.iaload, 1) := by decide +kernel
theorem dX12_laysOwners_27 : decode cX12_laysOwners 27 = .ok (.ldc 142, 2) := by decide +kernel
theorem dX12_laysOwners_29 : decode cX12_laysOwners 29 = .ok (.if_icmp .lt 7, 3) := by decide +kernel
theorem dX12_laysOwners_32 : decode cX12_laysOwners 32 = .ok (.iconst (-1), 1) := by decide +kernel
theorem dX12_laysOwners_33 : decode cX12_laysOwners 33 = .ok (.goto 4, 3) := by decide +kernel
theorem dX12_laysOwners_36 : decode cX12_laysOwners 36 = .ok (.iconst 0, 1) := by decide +kernel
theorem dX12_laysOwners_37 : decode cX12_laysOwners 37 = .ok (.iastore, 1) := by decide +kernel
theorem dX12_laysOwners_38 : decode cX12_laysOwners 38 = .ok (.aload_n 0, 1) := by decide +kernel
theorem dX12_laysOwners_39 : decode cX12_laysOwners 39 = .ok (.getfield 68, 3) := by decide +kernel
theorem dX12_laysOwners_42 : decode cX12_laysOwners 42 = .ok (.iload_n 1, 1) := by decide +kernel
theorem dX12_laysOwners_43 : decode cX12_laysOwners 43 = .ok (.ldc 142, 2) := by decide +kernel
theorem dX12_laysOwners_45 : decode cX12_laysOwners 45 = .ok (.iastore, 1) := by decide +kernel
theorem dX12_laysOwners_46 : decode cX12_laysOwners 46 = .ok (.iinc 1 1, 3) := by decide +kernel
theorem dX12_laysOwners_49 : decode cX12_laysOwners 49 = .ok (.goto (-39), 3) := by decide +kernel
theorem dX12_laysOwners_52 : decode cX12_laysOwners 52 = .ok (.iconst 0, 1) := by decide +kernel
theorem dX12_laysOwners_53 : decode cX12_laysOwners 53 = .ok (.istore_n 1, 1) := by decide +kernel
theorem dX12_laysOwners_54 : decode cX12_laysOwners 54 = .ok (.iload_n 1, 1) := by decide +kernel
theorem dX12_laysOwners_55 : decode cX12_laysOwners 55 = .ok (.aload_n 0, 1) := by decide +kernel
theorem dX12_laysOwners_56 : decode cX12_laysOwners 56 = .ok (.getfield 34, 3) := by decide +kernel
theorem dX12_laysOwners_59 : decode cX12_laysOwners 59 = .ok (.iconst 4, 1) := by decide +kernel
theorem dX12_laysOwners_60 : decode cX12_laysOwners 60 = .ok (.iaload, 1) := by decide +kernel
theorem dX12_laysOwners_61 : decode cX12_laysOwners 61 = .ok (.if_icmp .ge 135, 3) := by decide +kernel
theorem dX12_laysOwners_64 : decode cX12_laysOwners 64 = .ok (.aload_n 0, 1) := by decide +kernel
theorem dX12_laysOwners_65 : decode cX12_laysOwners 65 = .ok (.invokevirtual 271, 3) := by decide +kernel
theorem dX12_laysOwners_68 : decode cX12_laysOwners 68 = .ok (.aload_n 0, 1) := by decide +kernel
theorem dX12_laysOwners_69 : decode cX12_laysOwners 69 = .ok (.aload_n 0, 1) := by decide +kernel
theorem dX12_laysOwners_70 : decode cX12_laysOwners 70 = .ok (.getfield 46, 3) := by decide +kernel
theorem dX12_laysOwners_73 : decode cX12_laysOwners 73 = .ok (.iconst 2, 1) := by decide +kernel
theorem dX12_laysOwners_74 : decode cX12_laysOwners 74 = .ok (.iload_n 1, 1) := by decide +kernel
theorem dX12_laysOwners_75 : decode cX12_laysOwners 75 = .ok (.imul, 1) := by decide +kernel
theorem dX12_laysOwners_76 : decode cX12_laysOwners 76 = .ok (.iaload, 1) := by decide +kernel
theorem dX12_laysOwners_77 : decode cX12_laysOwners 77 = .ok (.aload_n 0, 1) := by decide +kernel
theorem dX12_laysOwners_78 : decode cX12_laysOwners 78 = .ok (.getfield 46, 3) := by decide +kernel
theorem dX12_laysOwners_81 : decode cX12_laysOwners 81 = .ok (.iconst 2, 1) := by decide +kernel
theorem dX12_laysOwners_82 : decode cX12_laysOwners 82 = .ok (.iload_n 1, 1) := by decide +kernel
theorem dX12_laysOwners_83 : decode cX12_laysOwners 83 = .ok (.imul, 1) := by decide +kernel
theorem dX12_laysOwners_84 : decode cX12_laysOwners 84 = .ok (.iconst 1, 1) := by decide +kernel
theorem dX12_laysOwners_85 : decode cX12_laysOwners 85 = .ok (.iadd, 1) := by decide +kernel
theorem dX12_laysOwners_86 : decode cX12_laysOwners 86 = .ok (.iaload, 1) := by decide +kernel
theorem dX12_laysOwners_87 : decode cX12_laysOwners 87 = .ok (.invokevirtual 274, 3) := by decide +kernel
theorem dX12_laysOwners_90 : decode cX12_laysOwners 90 = .ok (.aload_n 0, 1) := by decide +kernel
theorem dX12_laysOwners_91 : decode cX12_laysOwners 91 = .ok (.aload_n 0, 1) := by decide +kernel
theorem dX12_laysOwners_92 : decode cX12_laysOwners 92 = .ok (.getfield 262, 3) := by decide +kernel
theorem dX12_laysOwners_95 : decode cX12_laysOwners 95 = .ok (.iconst 0, 1) := by decide +kernel
theorem dX12_laysOwners_96 : decode cX12_laysOwners 96 = .ok (.invokevirtual 276, 3) := by decide +kernel
theorem dX12_laysOwners_99 : decode cX12_laysOwners 99 = .ok (.iconst 0, 1) := by decide +kernel
theorem dX12_laysOwners_100 : decode cX12_laysOwners 100 = .ok (.istore_n 2, 1) := by decide +kernel
theorem dX12_laysOwners_101 : decode cX12_laysOwners 101 = .ok (.iload_n 2, 1) := by decide +kernel
theorem dX12_laysOwners_102 : decode cX12_laysOwners 102 = .ok (.bipush 8, 2) := by decide +kernel
theorem dX12_laysOwners_104 : decode cX12_laysOwners 104 = .ok (.if_icmp .ge 86, 3) := by decide +kernel
theorem dX12_laysOwners_107 : decode cX12_laysOwners 107 = .ok (.aload_n 0, 1) := by decide +kernel
theorem dX12_laysOwners_108 : decode cX12_laysOwners 108 = .ok (.getfield 62, 3) := by decide +kernel
theorem dX12_laysOwners_111 : decode cX12_laysOwners 111 = .ok (.iload_n 2, 1) := by decide +kernel
theorem dX12_laysOwners_112 : decode cX12_laysOwners 112 = .ok (.iaload, 1) := by decide +kernel
theorem dX12_laysOwners_113 : decode cX12_laysOwners 113 = .ok (.aload_n 0, 1) := by decide +kernel
theorem dX12_laysOwners_114 : decode cX12_laysOwners 114 = .ok (.getfield 68, 3) := by decide +kernel
theorem dX12_laysOwners_117 : decode cX12_laysOwners 117 = .ok (.iload_n 2, 1) := by decide +kernel
theorem dX12_laysOwners_118 : decode cX12_laysOwners 118 = .ok (.iaload, 1) := by decide +kernel
theorem dX12_laysOwners_119 : decode cX12_laysOwners 119 = .ok (.if_icmp .ge 12, 3) := by decide +kernel
theorem dX12_laysOwners_122 : decode cX12_laysOwners 122 = .ok (.aload_n 0, 1) := by decide +kernel
theorem dX12_laysOwners_123 : decode cX12_laysOwners 123 = .ok (.getfield 62, 3) := by decide +kernel
theorem dX12_laysOwners_126 : decode cX12_laysOwners 126 = .ok (.iload_n 2, 1) := by decide +kernel
theorem dX12_laysOwners_127 : decode cX12_laysOwners 127 = .ok (.iaload, 1) := by decide +kernel
theorem dX12_laysOwners_128 : decode cX12_laysOwners 128 = .ok (.goto 9, 3) := by decide +kernel
theorem dX12_laysOwners_131 : decode cX12_laysOwners 131 = .ok (.aload_n 0, 1) := by decide +kernel
theorem dX12_laysOwners_132 : decode cX12_laysOwners 132 = .ok (.getfield 68, 3) := by decide +kernel
theorem dX12_laysOwners_135 : decode cX12_laysOwners 135 = .ok (.iload_n 2, 1) := by decide +kernel
theorem dX12_laysOwners_136 : decode cX12_laysOwners 136 = .ok (.iaload, 1) := by decide +kernel
theorem dX12_laysOwners_137 : decode cX12_laysOwners 137 = .ok (.istore_n 3, 1) := by decide +kernel
theorem dX12_laysOwners_138 : decode cX12_laysOwners 138 = .ok (.aload_n 0, 1) := by decide +kernel
theorem dX12_laysOwners_139 : decode cX12_laysOwners 139 = .ok (.getfield 59, 3) := by decide +kernel
theorem dX12_laysOwners_142 : decode cX12_laysOwners 142 = .ok (.iload_n 2, 1) := by decide +kernel
theorem dX12_laysOwners_143 : decode cX12_laysOwners 143 = .ok (.iaload, 1) := by decide +kernel
theorem dX12_laysOwners_144 : decode cX12_laysOwners 144 = .ok (.iload_n 3, 1) := by decide +kernel
theorem dX12_laysOwners_145 : decode cX12_laysOwners 145 = .ok (.if_icmp .ge 12, 3) := by decide +kernel
theorem dX12_laysOwners_148 : decode cX12_laysOwners 148 = .ok (.aload_n 0, 1) := by decide +kernel
theorem dX12_laysOwners_149 : decode cX12_laysOwners 149 = .ok (.getfield 65, 3) := by decide +kernel
theorem dX12_laysOwners_152 : decode cX12_laysOwners 152 = .ok (.iload_n 2, 1) := by decide +kernel
theorem dX12_laysOwners_153 : decode cX12_laysOwners 153 = .ok (.iload_n 1, 1) := by decide +kernel
theorem dX12_laysOwners_154 : decode cX12_laysOwners 154 = .ok (.iconst 1, 1) := by decide +kernel
theorem dX12_laysOwners_155 : decode cX12_laysOwners 155 = .ok (.iadd, 1) := by decide +kernel
theorem dX12_laysOwners_156 : decode cX12_laysOwners 156 = .ok (.iastore, 1) := by decide +kernel
theorem dX12_laysOwners_157 : decode cX12_laysOwners 157 = .ok (.aload_n 0, 1) := by decide +kernel
theorem dX12_laysOwners_158 : decode cX12_laysOwners 158 = .ok (.getfield 59, 3) := by decide +kernel
theorem dX12_laysOwners_161 : decode cX12_laysOwners 161 = .ok (.iload_n 2, 1) := by decide +kernel
theorem dX12_laysOwners_162 : decode cX12_laysOwners 162 = .ok (.iaload, 1) := by decide +kernel
theorem dX12_laysOwners_163 : decode cX12_laysOwners 163 = .ok (.aload_n 0, 1) := by decide +kernel
theorem dX12_laysOwners_164 : decode cX12_laysOwners 164 = .ok (.getfield 68, 3) := by decide +kernel
theorem dX12_laysOwners_167 : decode cX12_laysOwners 167 = .ok (.iload_n 2, 1) := by decide +kernel
theorem dX12_laysOwners_168 : decode cX12_laysOwners 168 = .ok (.iaload, 1) := by decide +kernel
theorem dX12_laysOwners_169 : decode cX12_laysOwners 169 = .ok (.if_icmp .ge 15, 3) := by decide +kernel
theorem dX12_laysOwners_172 : decode cX12_laysOwners 172 = .ok (.aload_n 0, 1) := by decide +kernel
theorem dX12_laysOwners_173 : decode cX12_laysOwners 173 = .ok (.getfield 68, 3) := by decide +kernel
theorem dX12_laysOwners_176 : decode cX12_laysOwners 176 = .ok (.iload_n 2, 1) := by decide +kernel
theorem dX12_laysOwners_177 : decode cX12_laysOwners 177 = .ok (.aload_n 0, 1) := by decide +kernel
theorem dX12_laysOwners_178 : decode cX12_laysOwners 178 = .ok (.getfield 59, 3) := by decide +kernel
theorem dX12_laysOwners_181 : decode cX12_laysOwners 181 = .ok (.iload_n 2, 1) := by decide +kernel
theorem dX12_laysOwners_182 : decode cX12_laysOwners 182 = .ok (.iaload, 1) := by decide +kernel
theorem dX12_laysOwners_183 : decode cX12_laysOwners 183 = .ok (.iastore, 1) := by decide +kernel
theorem dX12_laysOwners_184 : decode cX12_laysOwners 184 = .ok (.iinc 2 1, 3) := by decide +kernel
theorem dX12_laysOwners_187 : decode cX12_laysOwners 187 = .ok (.goto (-86), 3) := by decide +kernel
theorem dX12_laysOwners_190 : decode cX12_laysOwners 190 = .ok (.iinc 1 1, 3) := by decide +kernel
theorem dX12_laysOwners_193 : decode cX12_laysOwners 193 = .ok (.goto (-139), 3) := by decide +kernel
theorem dX12_laysOwners_196 : decode cX12_laysOwners 196 = .ok (.return_, 1) := by decide +kernel
theorem dX12_whose_0 : decode cX12_whose 0 = .ok (.aload_n 0, 1) := by decide +kernel
theorem dX12_whose_1 : decode cX12_whose 1 = .ok (.iconst 0, 1) := by decide +kernel
theorem dX12_whose_2 : decode cX12_whose 2 = .ok (.putfield 92, 3) := by decide +kernel
theorem dX12_whose_5 : decode cX12_whose 5 = .ok (.aload_n 0, 1) := by decide +kernel
theorem dX12_whose_6 : decode cX12_whose 6 = .ok (.iload_n 1, 1) := by decide +kernel
theorem dX12_whose_7 : decode cX12_whose 7 = .ok (.i2l, 1) := by decide +kernel
theorem dX12_whose_8 : decode cX12_whose 8 = .ok (.invokevirtual 299, 3) := by decide +kernel
theorem dX12_whose_11 : decode cX12_whose 11 = .ok (.ifCond .ne 6, 3) := by decide +kernel
theorem dX12_whose_14 : decode cX12_whose 14 = .ok (.bipush (-2), 2) := by decide +kernel
theorem dX12_whose_16 : decode cX12_whose 16 = .ok (.ireturn, 1) := by decide +kernel
theorem dX12_whose_17 : decode cX12_whose 17 = .ok (.aload_n 0, 1) := by decide +kernel
theorem dX12_whose_18 : decode cX12_whose 18 = .ok (.invokevirtual 326, 3) := by decide +kernel
theorem dX12_whose_21 : decode cX12_whose 21 = .ok (.aload_n 0, 1) := by decide +kernel
theorem dX12_whose_22 : decode cX12_whose 22 = .ok (.getfield 65, 3) := by decide +kernel
theorem dX12_whose_25 : decode cX12_whose 25 = .ok (.iload_n 1, 1) := by decide +kernel
theorem dX12_whose_26 : decode cX12_whose 26 = .ok (.iaload, 1) := by decide +kernel
theorem dX12_whose_27 : decode cX12_whose 27 = .ok (.ireturn, 1) := by decide +kernel
theorem dX12_owns_0 : decode cX12_owns 0 = .ok (.aload_n 0, 1) := by decide +kernel
theorem dX12_owns_1 : decode cX12_owns 1 = .ok (.iconst 0, 1) := by decide +kernel
theorem dX12_owns_2 : decode cX12_owns 2 = .ok (.putfield 92, 3) := by decide +kernel
theorem dX12_owns_5 : decode cX12_owns 5 = .ok (.aload_n 0, 1) := by decide +kernel
theorem dX12_owns_6 : decode cX12_owns 6 = .ok (.invokevirtual 311, 3) := by decide +kernel
theorem dX12_owns_9 : decode cX12_owns 9 = .ok (.ifCond .eq 19, 3) := by decide +kernel
theorem dX12_owns_12 : decode cX12_owns 12 = .ok (.iload_n 1, 1) := by decide +kernel
theorem dX12_owns_13 : decode cX12_owns 13 = .ok (.i2l, 1) := by decide +kernel
theorem dX12_owns_14 : decode cX12_owns 14 = .ok (.lconst 0, 1) := by decide +kernel
theorem dX12_owns_15 : decode cX12_owns 15 = .ok (.aload_n 0, 1) := by decide +kernel
theorem dX12_owns_16 : decode cX12_owns 16 = .ok (.getfield 34, 3) := by decide +kernel
theorem dX12_owns_19 : decode cX12_owns 19 = .ok (.iconst 4, 1) := by decide +kernel
theorem dX12_owns_20 : decode cX12_owns 20 = .ok (.iaload, 1) := by decide +kernel
theorem dX12_owns_21 : decode cX12_owns 21 = .ok (.i2l, 1) := by decide +kernel
theorem dX12_owns_22 : decode cX12_owns 22 = .ok (.invokestatic 97, 3) := by decide +kernel
theorem dX12_owns_25 : decode cX12_owns 25 = .ok (.ifCond .ne 6, 3) := by decide +kernel
theorem dX12_owns_28 : decode cX12_owns 28 = .ok (.bipush (-2), 2) := by decide +kernel
theorem dX12_owns_30 : decode cX12_owns 30 = .ok (.ireturn, 1) := by decide +kernel
theorem dX12_owns_31 : decode cX12_owns 31 = .ok (.aload_n 0, 1) := by decide +kernel
theorem dX12_owns_32 : decode cX12_owns 32 = .ok (.invokevirtual 326, 3) := by decide +kernel
theorem dX12_owns_35 : decode cX12_owns 35 = .ok (.iconst 0, 1) := by decide +kernel
theorem dX12_owns_36 : decode cX12_owns 36 = .ok (.istore_n 2, 1) := by decide +kernel
theorem dX12_owns_37 : decode cX12_owns 37 = .ok (.iconst 0, 1) := by decide +kernel
theorem dX12_owns_38 : decode cX12_owns 38 = .ok (.istore_n 3, 1) := by decide +kernel
theorem dX12_owns_39 : decode cX12_owns 39 = .ok (.iload_n 3, 1) := by decide +kernel
theorem dX12_owns_40 : decode cX12_owns 40 = .ok (.aload_n 0, 1) := by decide +kernel
theorem dX12_owns_41 : decode cX12_owns 41 = .ok (.getfield 34, 3) := by decide +kernel
theorem dX12_owns_44 : decode cX12_owns 44 = .ok (.iconst 0, 1) := by decide +kernel
theorem dX12_owns_45 : decode cX12_owns 45 = .ok (.iaload, 1) := by decide +kernel
theorem dX12_owns_46 : decode cX12_owns 46 = .ok (.if_icmp .ge 29, 3) := by decide +kernel
theorem dX12_owns_49 : decode cX12_owns 49 = .ok (.iload_n 2, 1) := by decide +kernel
theorem dX12_owns_50 : decode cX12_owns 50 = .ok (.aload_n 0, 1) := by decide +kernel
theorem dX12_owns_51 : decode cX12_owns 51 = .ok (.getfield 65, 3) := by decide +kernel
theorem dX12_owns_54 : decode cX12_owns 54 = .ok (.iload_n 3, 1) := by decide +kernel
theorem dX12_owns_55 : decode cX12_owns 55 = .ok (.iaload, 1) := by decide +kernel
theorem dX12_owns_56 : decode cX12_owns 56 = .ok (.iload_n 1, 1) := by decide +kernel
theorem dX12_owns_57 : decode cX12_owns 57 = .ok (.if_icmp .ne 9, 3) := by decide +kernel
theorem dX12_owns_60 : decode cX12_owns 60 = .ok (.iconst 1, 1) := by decide +kernel
theorem dX12_owns_61 : decode cX12_owns 61 = .ok (.iload_n 3, 1) := by decide +kernel
theorem dX12_owns_62 : decode cX12_owns 62 = .ok (.ishl, 1) := by decide +kernel
theorem dX12_owns_63 : decode cX12_owns 63 = .ok (.goto 4, 3) := by decide +kernel
theorem dX12_owns_66 : decode cX12_owns 66 = .ok (.iconst 0, 1) := by decide +kernel
theorem dX12_owns_67 : decode cX12_owns 67 = .ok (.ior, 1) := by decide +kernel
theorem dX12_owns_68 : decode cX12_owns 68 = .ok (.istore_n 2, 1) := by decide +kernel
theorem dX12_owns_69 : decode cX12_owns 69 = .ok (.iinc 3 1, 3) := by decide +kernel
theorem dX12_owns_72 : decode cX12_owns 72 = .ok (.goto (-33), 3) := by decide +kernel
theorem dX12_owns_75 : decode cX12_owns 75 = .ok (.iload_n 2, 1) := by decide +kernel
theorem dX12_owns_76 : decode cX12_owns 76 = .ok (.ireturn, 1) := by decide +kernel
theorem dX12_front_0 : decode cX12_front 0 = .ok (.aload_n 0, 1) := by decide +kernel
theorem dX12_front_1 : decode cX12_front 1 = .ok (.iconst 0, 1) := by decide +kernel
theorem dX12_front_2 : decode cX12_front 2 = .ok (.putfield 92, 3) := by decide +kernel
theorem dX12_front_5 : decode cX12_front 5 = .ok (.aload_n 0, 1) := by decide +kernel
theorem dX12_front_6 : decode cX12_front 6 = .ok (.invokevirtual 311, 3) := by decide +kernel
theorem dX12_front_9 : decode cX12_front 9 = .ok (.ifCond .ne 6, 3) := by decide +kernel
theorem dX12_front_12 : decode cX12_front 12 = .ok (.bipush (-2), 2) := by decide +kernel
theorem dX12_front_14 : decode cX12_front 14 = .ok (.ireturn, 1) := by decide +kernel
theorem dX12_front_15 : decode cX12_front 15 = .ok (.aload_n 0, 1) := by decide +kernel
theorem dX12_front_16 : decode cX12_front 16 = .ok (.invokevirtual 326, 3) := by decide +kernel
theorem dX12_front_19 : decode cX12_front 19 = .ok (.iconst 0, 1) := by decide +kernel
theorem dX12_front_20 : decode cX12_front 20 = .ok (.istore_n 1, 1) := by decide +kernel
theorem dX12_front_21 : decode cX12_front 21 = .ok (.iconst 0, 1) := by decide +kernel
theorem dX12_front_22 : decode cX12_front 22 = .ok (.istore_n 2, 1) := by decide +kernel
theorem dX12_front_23 : decode cX12_front 23 = .ok (.iload_n 2, 1) := by decide +kernel
theorem dX12_front_24 : decode cX12_front 24 = .ok (.aload_n 0, 1) := by decide +kernel
theorem dX12_front_25 : decode cX12_front 25 = .ok (.getfield 34, 3) := by decide +kernel
theorem dX12_front_28 : decode cX12_front 28 = .ok (.iconst 1, 1) := by decide +kernel
theorem dX12_front_29 : decode cX12_front 29 = .ok (.iaload, 1) := by decide +kernel
theorem dX12_front_30 : decode cX12_front 30 = .ok (.if_icmp .ge 78, 3) := by decide +kernel
theorem dX12_front_33 : decode cX12_front 33 = .ok (.aload_n 0, 1) := by decide +kernel
theorem dX12_front_34 : decode cX12_front 34 = .ok (.getfield 65, 3) := by decide +kernel
theorem dX12_front_37 : decode cX12_front 37 = .ok (.aload_n 0, 1) := by decide +kernel
theorem dX12_front_38 : decode cX12_front 38 = .ok (.getfield 37, 3) := by decide +kernel
theorem dX12_front_41 : decode cX12_front 41 = .ok (.iconst 5, 1) := by decide +kernel
theorem dX12_front_42 : decode cX12_front 42 = .ok (.iload_n 2, 1) := by decide +kernel
theorem dX12_front_43 : decode cX12_front 43 = .ok (.imul, 1) := by decide +kernel
theorem dX12_front_44 : decode cX12_front 44 = .ok (.iaload, 1) := by decide +kernel
theorem dX12_front_45 : decode cX12_front 45 = .ok (.iaload, 1) := by decide +kernel
theorem dX12_front_46 : decode cX12_front 46 = .ok (.istore_n 3, 1) := by decide +kernel
theorem dX12_front_47 : decode cX12_front 47 = .ok (.aload_n 0, 1) := by decide +kernel
theorem dX12_front_48 : decode cX12_front 48 = .ok (.getfield 65, 3) := by decide +kernel
theorem dX12_front_51 : decode cX12_front 51 = .ok (.aload_n 0, 1) := by decide +kernel
theorem dX12_front_52 : decode cX12_front 52 = .ok (.getfield 37, 3) := by decide +kernel
theorem dX12_front_55 : decode cX12_front 55 = .ok (.iconst 5, 1) := by decide +kernel
theorem dX12_front_56 : decode cX12_front 56 = .ok (.iload_n 2, 1) := by decide +kernel
theorem dX12_front_57 : decode cX12_front 57 = .ok (.imul, 1) := by decide +kernel
theorem dX12_front_58 : decode cX12_front 58 = .ok (.iconst 1, 1) := by decide +kernel
theorem dX12_front_59 : decode cX12_front 59 = .ok (.iadd, 1) := by decide +kernel
theorem dX12_front_60 : decode cX12_front 60 = .ok (.iaload, 1) := by decide +kernel
theorem dX12_front_61 : decode cX12_front 61 = .ok (.iaload, 1) := by decide +kernel
theorem dX12_front_62 : decode cX12_front 62 = .ok (.istore 4, 2) := by decide +kernel
theorem dX12_front_64 : decode cX12_front 64 = .ok (.iload_n 1, 1) := by decide +kernel
theorem dX12_front_65 : decode cX12_front 65 = .ok (.aload_n 0, 1) := by decide +kernel
theorem dX12_front_66 : decode cX12_front 66 = .ok (.getfield 262, 3) := by decide +kernel
theorem dX12_front_69 : decode cX12_front 69 = .ok (.iload_n 2, 1) := by decide +kernel
theorem dX12_front_70 : decode cX12_front 70 = .ok (.invokestatic 265, 3) := by decide +kernel
theorem dX12_front_73 : decode cX12_front 73 = .ok (.ifCond .eq 26, 3) := by decide +kernel
theorem dX12_front_76 : decode cX12_front 76 = .ok (.iload_n 3, 1) := by decide +kernel
theorem dX12_front_77 : decode cX12_front 77 = .ok (.iconst (-1), 1) := by decide +kernel
theorem dX12_front_78 : decode cX12_front 78 = .ok (.if_icmp .eq 21, 3) := by decide +kernel
theorem dX12_front_81 : decode cX12_front 81 = .ok (.iload 4, 2) := by decide +kernel
theorem dX12_front_83 : decode cX12_front 83 = .ok (.iconst (-1), 1) := by decide +kernel
