theorem dX12_held_60 : decode cX12_held 60 = .ok (.goto 4, 3) := by decide +kernel
theorem dX12_held_63 : decode cX12_held 63 = .ok (.iconst 0, 1) := by decide +kernel
theorem dX12_held_64 : decode cX12_held 64 = .ok (.ior, 1) := by decide +kernel
theorem dX12_held_65 : decode cX12_held 65 = .ok (.istore_n 3, 1) := by decide +kernel
theorem dX12_held_66 : decode cX12_held 66 = .ok (.iinc 4 1, 3) := by decide +kernel
theorem dX12_held_69 : decode cX12_held 69 = .ok (.goto (-41), 3) := by decide +kernel
theorem dX12_held_72 : decode cX12_held 72 = .ok (.iload_n 3, 1) := by decide +kernel
theorem dX12_held_73 : decode cX12_held 73 = .ok (.ireturn, 1) := by decide +kernel
theorem dX12_fit_0 : decode cX12_fit 0 = .ok (.aload_n 0, 1) := by decide +kernel
theorem dX12_fit_1 : decode cX12_fit 1 = .ok (.iconst 0, 1) := by decide +kernel
theorem dX12_fit_2 : decode cX12_fit 2 = .ok (.putfield 92, 3) := by decide +kernel
theorem dX12_fit_5 : decode cX12_fit 5 = .ok (.aload_n 0, 1) := by decide +kernel
theorem dX12_fit_6 : decode cX12_fit 6 = .ok (.iload_n 2, 1) := by decide +kernel
theorem dX12_fit_7 : decode cX12_fit 7 = .ok (.invokevirtual 290, 3) := by decide +kernel
theorem dX12_fit_10 : decode cX12_fit 10 = .ok (.ifCond .eq 11, 3) := by decide +kernel
theorem dX12_fit_13 : decode cX12_fit 13 = .ok (.aload_n 0, 1) := by decide +kernel
theorem dX12_fit_14 : decode cX12_fit 14 = .ok (.iload_n 1, 1) := by decide +kernel
theorem dX12_fit_15 : decode cX12_fit 15 = .ok (.invokevirtual 358, 3) := by decide +kernel
theorem dX12_fit_18 : decode cX12_fit 18 = .ok (.goto 5, 3) := by decide +kernel
theorem dX12_fit_21 : decode cX12_fit 21 = .ok (.bipush (-2), 2) := by decide +kernel
theorem dX12_fit_23 : decode cX12_fit 23 = .ok (.istore_n 3, 1) := by decide +kernel
theorem dX12_fit_24 : decode cX12_fit 24 = .ok (.iload_n 3, 1) := by decide +kernel
theorem dX12_fit_25 : decode cX12_fit 25 = .ok (.ifCond .eq 5, 3) := by decide +kernel
theorem dX12_fit_28 : decode cX12_fit 28 = .ok (.iload_n 3, 1) := by decide +kernel
theorem dX12_fit_29 : decode cX12_fit 29 = .ok (.ireturn, 1) := by decide +kernel
theorem dX12_fit_30 : decode cX12_fit 30 = .ok (.aload_n 0, 1) := by decide +kernel
theorem dX12_fit_31 : decode cX12_fit 31 = .ok (.iload_n 1, 1) := by decide +kernel
theorem dX12_fit_32 : decode cX12_fit 32 = .ok (.invokevirtual 361, 3) := by decide +kernel
theorem dX12_fit_35 : decode cX12_fit 35 = .ok (.pop, 1) := by decide +kernel
theorem dX12_fit_36 : decode cX12_fit 36 = .ok (.iconst 0, 1) := by decide +kernel
theorem dX12_fit_37 : decode cX12_fit 37 = .ok (.istore 4, 2) := by decide +kernel
theorem dX12_fit_39 : decode cX12_fit 39 = .ok (.iload 4, 2) := by decide +kernel
theorem dX12_fit_41 : decode cX12_fit 41 = .ok (.bipush 99, 2) := by decide +kernel
theorem dX12_fit_43 : decode cX12_fit 43 = .ok (.if_icmp .gt 27, 3) := by decide +kernel
theorem dX12_fit_46 : decode cX12_fit 46 = .ok (.aload_n 0, 1) := by decide +kernel
theorem dX12_fit_47 : decode cX12_fit 47 = .ok (.getfield 71, 3) := by decide +kernel
theorem dX12_fit_50 : decode cX12_fit 50 = .ok (.bipush 100, 2) := by decide +kernel
theorem dX12_fit_52 : decode cX12_fit 52 = .ok (.iload_n 2, 1) := by decide +kernel
theorem dX12_fit_53 : decode cX12_fit 53 = .ok (.imul, 1) := by decide +kernel
theorem dX12_fit_54 : decode cX12_fit 54 = .ok (.iload 4, 2) := by decide +kernel
theorem dX12_fit_56 : decode cX12_fit 56 = .ok (.iadd, 1) := by decide +kernel
theorem dX12_fit_57 : decode cX12_fit 57 = .ok (.baload, 1) := by decide +kernel
theorem dX12_fit_58 : decode cX12_fit 58 = .ok (.ifCond .eq 6, 3) := by decide +kernel
theorem dX12_fit_61 : decode cX12_fit 61 = .ok (.iload 4, 2) := by decide +kernel
theorem dX12_fit_63 : decode cX12_fit 63 = .ok (.ireturn, 1) := by decide +kernel
theorem dX12_fit_64 : decode cX12_fit 64 = .ok (.iinc 4 1, 3) := by decide +kernel
theorem dX12_fit_67 : decode cX12_fit 67 = .ok (.goto (-28), 3) := by decide +kernel
theorem dX12_fit_70 : decode cX12_fit 70 = .ok (.iconst (-1), 1) := by decide +kernel
theorem dX12_fit_71 : decode cX12_fit 71 = .ok (.ireturn, 1) := by decide +kernel
theorem dX12_laysAsk_0 : decode cX12_laysAsk 0 = .ok (.aload_n 0, 1) := by decide +kernel
theorem dX12_laysAsk_1 : decode cX12_laysAsk 1 = .ok (.aload_n 0, 1) := by decide +kernel
theorem dX12_laysAsk_2 : decode cX12_laysAsk 2 = .ok (.iload_n 1, 1) := by decide +kernel
theorem dX12_laysAsk_3 : decode cX12_laysAsk 3 = .ok (.invokevirtual 361, 3) := by decide +kernel
theorem dX12_laysAsk_6 : decode cX12_laysAsk 6 = .ok (.putfield 364, 3) := by decide +kernel
theorem dX12_laysAsk_9 : decode cX12_laysAsk 9 = .ok (.aload_n 0, 1) := by decide +kernel
theorem dX12_laysAsk_10 : decode cX12_laysAsk 10 = .ok (.iconst (-1), 1) := by decide +kernel
theorem dX12_laysAsk_11 : decode cX12_laysAsk 11 = .ok (.putfield 367, 3) := by decide +kernel
theorem dX12_laysAsk_14 : decode cX12_laysAsk 14 = .ok (.iconst 0, 1) := by decide +kernel
theorem dX12_laysAsk_15 : decode cX12_laysAsk 15 = .ok (.istore_n 2, 1) := by decide +kernel
theorem dX12_laysAsk_16 : decode cX12_laysAsk 16 = .ok (.iload_n 2, 1) := by decide +kernel
theorem dX12_laysAsk_17 : decode cX12_laysAsk 17 = .ok (.aload_n 0, 1) := by decide +kernel
theorem dX12_laysAsk_18 : decode cX12_laysAsk 18 = .ok (.getfield 34, 3) := by decide +kernel
theorem dX12_laysAsk_21 : decode cX12_laysAsk 21 = .ok (.iconst 0, 1) := by decide +kernel
theorem dX12_laysAsk_22 : decode cX12_laysAsk 22 = .ok (.iaload, 1) := by decide +kernel
theorem dX12_laysAsk_23 : decode cX12_laysAsk 23 = .ok (.if_icmp .ge 140, 3) := by decide +kernel
theorem dX12_laysAsk_26 : decode cX12_laysAsk 26 = .ok (.iconst 0, 1) := by decide +kernel
theorem dX12_laysAsk_27 : decode cX12_laysAsk 27 = .ok (.istore_n 3, 1) := by decide +kernel
theorem dX12_laysAsk_28 : decode cX12_laysAsk 28 = .ok (.iload_n 3, 1) := by decide +kernel
theorem dX12_laysAsk_29 : decode cX12_laysAsk 29 = .ok (.sipush 1000, 3) := by decide +kernel
theorem dX12_laysAsk_32 : decode cX12_laysAsk 32 = .ok (.if_icmp .gt 16, 3) := by decide +kernel
theorem dX12_laysAsk_35 : decode cX12_laysAsk 35 = .ok (.aload_n 0, 1) := by decide +kernel
theorem dX12_laysAsk_36 : decode cX12_laysAsk 36 = .ok (.getfield 77, 3) := by decide +kernel
theorem dX12_laysAsk_39 : decode cX12_laysAsk 39 = .ok (.iload_n 3, 1) := by decide +kernel
theorem dX12_laysAsk_40 : decode cX12_laysAsk 40 = .ok (.iconst 0, 1) := by decide +kernel
theorem dX12_laysAsk_41 : decode cX12_laysAsk 41 = .ok (.iastore, 1) := by decide +kernel
theorem dX12_laysAsk_42 : decode cX12_laysAsk 42 = .ok (.iinc 3 1, 3) := by decide +kernel
theorem dX12_laysAsk_45 : decode cX12_laysAsk 45 = .ok (.goto (-17), 3) := by decide +kernel
theorem dX12_laysAsk_48 : decode cX12_laysAsk 48 = .ok (.iconst 0, 1) := by decide +kernel
theorem dX12_laysAsk_49 : decode cX12_laysAsk 49 = .ok (.istore_n 3, 1) := by decide +kernel
theorem dX12_laysAsk_50 : decode cX12_laysAsk 50 = .ok (.iconst 0, 1) := by decide +kernel
theorem dX12_laysAsk_51 : decode cX12_laysAsk 51 = .ok (.istore 4, 2) := by decide +kernel
theorem dX12_laysAsk_53 : decode cX12_laysAsk 53 = .ok (.iload 4, 2) := by decide +kernel
theorem dX12_laysAsk_55 : decode cX12_laysAsk 55 = .ok (.bipush 100, 2) := by decide +kernel
theorem dX12_laysAsk_57 : decode cX12_laysAsk 57 = .ok (.aload_n 0, 1) := by decide +kernel
theorem dX12_laysAsk_58 : decode cX12_laysAsk 58 = .ok (.getfield 34, 3) := by decide +kernel
theorem dX12_laysAsk_61 : decode cX12_laysAsk 61 = .ok (.iconst 2, 1) := by decide +kernel
theorem dX12_laysAsk_62 : decode cX12_laysAsk 62 = .ok (.iaload, 1) := by decide +kernel
theorem dX12_laysAsk_63 : decode cX12_laysAsk 63 = .ok (.imul, 1) := by decide +kernel
theorem dX12_laysAsk_64 : decode cX12_laysAsk 64 = .ok (.if_icmp .ge 72, 3) := by decide +kernel
theorem dX12_laysAsk_67 : decode cX12_laysAsk 67 = .ok (.aload_n 0, 1) := by decide +kernel
theorem dX12_laysAsk_68 : decode cX12_laysAsk 68 = .ok (.getfield 71, 3) := by decide +kernel
theorem dX12_laysAsk_71 : decode cX12_laysAsk 71 = .ok (.iload 4, 2) := by decide +kernel
theorem dX12_laysAsk_73 : decode cX12_laysAsk 73 = .ok (.baload, 1) := by decide +kernel
theorem dX12_laysAsk_74 : decode cX12_laysAsk 74 = .ok (.ifCond .ne 6, 3) := by decide +kernel
theorem dX12_laysAsk_77 : decode cX12_laysAsk 77 = .ok (.goto 53, 3) := by decide +kernel
theorem dX12_laysAsk_80 : decode cX12_laysAsk 80 = .ok (.iconst 1, 1) := by decide +kernel
theorem dX12_laysAsk_81 : decode cX12_laysAsk 81 = .ok (.aload_n 0, 1) := by decide +kernel
theorem dX12_laysAsk_82 : decode cX12_laysAsk 82 = .ok (.getfield 74, 3) := by decide +kernel
theorem dX12_laysAsk_85 : decode cX12_laysAsk 85 = .ok (.bipush 8, 2) := by decide +kernel
theorem dX12_laysAsk_87 : decode cX12_laysAsk 87 = .ok (.iload 4, 2) := by decide +kernel
theorem dX12_laysAsk_89 : decode cX12_laysAsk 89 = .ok (.imul, 1) := by decide +kernel
theorem dX12_laysAsk_90 : decode cX12_laysAsk 90 = .ok (.iload_n 2, 1) := by decide +kernel
theorem dX12_laysAsk_91 : decode cX12_laysAsk 91 = .ok (.iadd, 1) := by decide +kernel
theorem dX12_laysAsk_92 : decode cX12_laysAsk 92 = .ok (.iaload, 1) := by decide +kernel
theorem dX12_laysAsk_93 : decode cX12_laysAsk 93 = .ok (.iadd, 1) := by decide +kernel
theorem dX12_laysAsk_94 : decode cX12_laysAsk 94 = .ok (.istore 5, 2) := by decide +kernel
theorem dX12_laysAsk_96 : decode cX12_laysAsk 96 = .ok (.aload_n 0, 1) := by decide +kernel
theorem dX12_laysAsk_97 : decode cX12_laysAsk 97 = .ok (.getfield 77, 3) := by decide +kernel
theorem dX12_laysAsk_100 : decode cX12_laysAsk 100 = .ok (.iload 5, 2) := by decide +kernel
theorem dX12_laysAsk_102 : decode cX12_laysAsk 102 = .ok (.dup2, 1) := by decide +kernel
theorem dX12_laysAsk_103 : decode cX12_laysAsk 103 = .ok (.iaload, 1) := by decide +kernel
theorem dX12_laysAsk_104 : decode cX12_laysAsk 104 = .ok (.iconst 1, 1) := by decide +kernel
theorem dX12_laysAsk_105 : decode cX12_laysAsk 105 = .ok (.iadd, 1) := by decide +kernel
theorem dX12_laysAsk_106 : decode cX12_laysAsk 106 = .ok (.iastore, 1) := by decide +kernel
theorem dX12_laysAsk_107 : decode cX12_laysAsk 107 = .ok (.aload_n 0, 1) := by decide +kernel
theorem dX12_laysAsk_108 : decode cX12_laysAsk 108 = .ok (.getfield 77, 3) := by decide +kernel
theorem dX12_laysAsk_111 : decode cX12_laysAsk 111 = .ok (.iload 5, 2) := by decide +kernel
theorem dX12_laysAsk_113 : decode cX12_laysAsk 113 = .ok (.iaload, 1) := by decide +kernel
theorem dX12_laysAsk_114 : decode cX12_laysAsk 114 = .ok (.iload_n 3, 1) := by decide +kernel
theorem dX12_laysAsk_115 : decode cX12_laysAsk 115 = .ok (.if_icmp .le 13, 3) := by decide +kernel
theorem dX12_laysAsk_118 : decode cX12_laysAsk 118 = .ok (.aload_n 0, 1) := by decide +kernel
theorem dX12_laysAsk_119 : decode cX12_laysAsk 119 = .ok (.getfield 77, 3) := by decide +kernel
theorem dX12_laysAsk_122 : decode cX12_laysAsk 122 = .ok (.iload 5, 2) := by decide +kernel
theorem dX12_laysAsk_124 : decode cX12_laysAsk 124 = .ok (.iaload, 1) := by decide +kernel
theorem dX12_laysAsk_125 : decode cX12_laysAsk 125 = .ok (.goto 4, 3) := by decide +kernel
theorem dX12_laysAsk_128 : decode cX12_laysAsk 128 = .ok (.iload_n 3, 1) := by decide +kernel
theorem dX12_laysAsk_129 : decode cX12_laysAsk 129 = .ok (.istore_n 3, 1) := by decide +kernel
theorem dX12_laysAsk_130 : decode cX12_laysAsk 130 = .ok (.iinc 4 1, 3) := by decide +kernel
theorem dX12_laysAsk_133 : decode cX12_laysAsk 133 = .ok (.goto (-80), 3) := by decide +kernel
theorem dX12_laysAsk_136 : decode cX12_laysAsk 136 = .ok (.iload_n 3, 1) := by decide +kernel
theorem dX12_laysAsk_137 : decode cX12_laysAsk 137 = .ok (.aload_n 0, 1) := by decide +kernel
theorem dX12_laysAsk_138 : decode cX12_laysAsk 138 = .ok (.getfield 364, 3) := by decide +kernel
theorem dX12_laysAsk_141 : decode cX12_laysAsk 141 = .ok (.if_icmp .lt 6, 3) := by decide +kernel
theorem dX12_laysAsk_144 : decode cX12_laysAsk 144 = .ok (.goto 13, 3) := by decide +kernel
theorem dX12_laysAsk_147 : decode cX12_laysAsk 147 = .ok (.aload_n 0, 1) := by decide +kernel
theorem dX12_laysAsk_148 : decode cX12_laysAsk 148 = .ok (.iload_n 2, 1) := by decide +kernel
theorem dX12_laysAsk_149 : decode cX12_laysAsk 149 = .ok (.putfield 367, 3) := by decide +kernel
theorem dX12_laysAsk_152 : decode cX12_laysAsk 152 = .ok (.aload_n 0, 1) := by decide +kernel
theorem dX12_laysAsk_153 : decode cX12_laysAsk 153 = .ok (.iload_n 3, 1) := by decide +kernel
theorem dX12_laysAsk_154 : decode cX12_laysAsk 154 = .ok (.putfield 364, 3) := by decide +kernel
theorem dX12_laysAsk_157 : decode cX12_laysAsk 157 = .ok (.iinc 2 1, 3) := by decide +kernel
theorem dX12_laysAsk_160 : decode cX12_laysAsk 160 = .ok (.goto (-144), 3) := by decide +kernel
theorem dX12_laysAsk_163 : decode cX12_laysAsk 163 = .ok (.return_, 1) := by decide +kernel
theorem dX12_ask_0 : decode cX12_ask 0 = .ok (.aload_n 0, 1) := by decide +kernel
theorem dX12_ask_1 : decode cX12_ask 1 = .ok (.iconst 0, 1) := by decide +kernel
theorem dX12_ask_2 : decode cX12_ask 2 = .ok (.putfield 92, 3) := by decide +kernel
theorem dX12_ask_5 : decode cX12_ask 5 = .ok (.aload_n 0, 1) := by decide +kernel
theorem dX12_ask_6 : decode cX12_ask 6 = .ok (.iload_n 1, 1) := by decide +kernel
theorem dX12_ask_7 : decode cX12_ask 7 = .ok (.invokevirtual 358, 3) := by decide +kernel
theorem dX12_ask_10 : decode cX12_ask 10 = .ok (.istore_n 2, 1) := by decide +kernel
theorem dX12_ask_11 : decode cX12_ask 11 = .ok (.iload_n 2, 1) := by decide +kernel
theorem dX12_ask_12 : decode cX12_ask 12 = .ok (.ifCond .eq 5, 3) := by decide +kernel
theorem dX12_ask_15 : decode cX12_ask 15 = .ok (.iload_n 2, 1) := by decide +kernel
theorem dX12_ask_16 : decode cX12_ask 16 = .ok (.ireturn, 1) := by decide +kernel
theorem dX12_ask_17 : decode cX12_ask 17 = .ok (.aload_n 0, 1) := by decide +kernel
theorem dX12_ask_18 : decode cX12_ask 18 = .ok (.iload_n 1, 1) := by decide +kernel
theorem dX12_ask_19 : decode cX12_ask 19 = .ok (.invokevirtual 370, 3) := by decide +kernel
theorem dX12_ask_22 : decode cX12_ask 22 = .ok (.aload_n 0, 1) := by decide +kernel
theorem dX12_ask_23 : decode cX12_ask 23 = .ok (.getfield 367, 3) := by decide +kernel
theorem dX12_ask_26 : decode cX12_ask 26 = .ok (.ireturn, 1) := by decide +kernel
theorem dX12_leaves_0 : decode cX12_leaves 0 = .ok (.aload_n 0, 1) := by decide +kernel
theorem dX12_leaves_1 : decode cX12_leaves 1 = .ok (.iconst 0, 1) := by decide +kernel
theorem dX12_leaves_2 : decode cX12_leaves 2 = .ok (.putfield 92, 3) := by decide +kernel
theorem dX12_leaves_5 : decode cX12_leaves 5 = .ok (.aload_n 0, 1) := by decide +kernel
theorem dX12_leaves_6 : decode cX12_leaves 6 = .ok (.iload_n 1, 1) := by decide +kernel
theorem dX12_leaves_7 : decode cX12_leaves 7 = .ok (.invokevirtual 358, 3) := by decide +kernel
theorem dX12_leaves_10 : decode cX12_leaves 10 = .ok (.istore_n 2, 1) := by decide +kernel
theorem dX12_leaves_11 : decode cX12_leaves 11 = .ok (.iload_n 2, 1) := by decide +kernel
theorem dX12_leaves_12 : decode cX12_leaves 12 = .ok (.ifCond .eq 5, 3) := by decide +kernel
theorem dX12_leaves_15 : decode cX12_leaves 15 = .ok (.iload_n 2, 1) := by decide +kernel
theorem dX12_leaves_16 : decode cX12_leaves 16 = .ok (.ireturn, 1) := by decide +kernel
theorem dX12_leaves_17 : decode cX12_leaves 17 = .ok (.aload_n 0, 1) := by decide +kernel
theorem dX12_leaves_18 : decode cX12_leaves 18 = .ok (.iload_n 1, 1) := by decide +kernel
theorem dX12_leaves_19 : decode cX12_leaves 19 = .ok (.invokevirtual 370, 3) := by decide +kernel
theorem dX12_leaves_22 : decode cX12_leaves 22 = .ok (.aload_n 0, 1) := by decide +kernel
theorem dX12_leaves_23 : decode cX12_leaves 23 = .ok (.getfield 364, 3) := by decide +kernel
theorem dX12_leaves_26 : decode cX12_leaves 26 = .ok (.ireturn, 1) := by decide +kernel
theorem dX12_placesOf_0 : decode cX12_placesOf 0 = .ok (.aload_n 0, 1) := by decide +kernel
theorem dX12_placesOf_1 : decode cX12_placesOf 1 = .ok (.invokevirtual 279, 3) := by decide +kernel
theorem dX12_placesOf_4 : decode cX12_placesOf 4 = .ok (.iload_n 1, 1) := by decide +kernel
theorem dX12_placesOf_5 : decode cX12_placesOf 5 = .ok (.aload_n 0, 1) := by decide +kernel
theorem dX12_placesOf_6 : decode cX12_placesOf 6 = .ok (.getfield 34, 3) := by decide +kernel
theorem dX12_placesOf_9 : decode cX12_placesOf 9 = .ok (.iconst 0, 1) := by decide +kernel
theorem dX12_placesOf_10 : decode cX12_placesOf 10 = .ok (.iaload, 1) := by decide +kernel
theorem dX12_placesOf_11 : decode cX12_placesOf 11 = .ok (.if_icmp .ge 7, 3) := by decide +kernel
theorem dX12_placesOf_14 : decode cX12_placesOf 14 = .ok (.iload_n 1, 1) := by decide +kernel
theorem dX12_placesOf_15 : decode cX12_placesOf 15 = .ok (.goto 9, 3) := by decide +kernel
theorem dX12_placesOf_18 : decode cX12_placesOf 18 = .ok (.aload_n 0, 1) := by decide +kernel
theorem dX12_placesOf_19 : decode cX12_placesOf 19 = .ok (.getfield 34, 3) := by decide +kernel
theorem dX12_placesOf_22 : decode cX12_placesOf 22 = .ok (.iconst 0, 1) := by decide +kernel
theorem dX12_placesOf_23 : decode cX12_placesOf 23 = .ok (.iaload, 1) := by decide +kernel
theorem dX12_placesOf_24 : decode cX12_placesOf 24 = .ok (.istore_n 3, 1) := by decide +kernel
theorem dX12_placesOf_25 : decode cX12_placesOf 25 = .ok (.iconst (-1), 1) := by decide +kernel
theorem dX12_placesOf_26 : decode cX12_placesOf 26 = .ok (.istore 4, 2) := by decide +kernel
theorem dX12_placesOf_28 : decode cX12_placesOf 28 = .ok (.aload_n 0, 1) := by decide +kernel
theorem dX12_placesOf_29 : decode cX12_placesOf 29 = .ok (.iconst (-1), 1) := by decide +kernel
theorem dX12_placesOf_30 : decode cX12_placesOf 30 = .ok (.putfield 373, 3) := by decide +kernel
theorem dX12_placesOf_33 : decode cX12_placesOf 33 = .ok (.iconst 0, 1) := by decide +kernel
theorem dX12_placesOf_34 : decode cX12_placesOf 34 = .ok (.istore 5, 2) := by decide +kernel
theorem dX12_placesOf_36 : decode cX12_placesOf 36 = .ok (.iload 5, 2) := by decide +kernel
theorem dX12_placesOf_38 : decode cX12_placesOf 38 = .ok (.iconst 1, 1) := by decide +kernel
theorem dX12_placesOf_39 : decode cX12_placesOf 39 = .ok (.aload_n 0, 1) := by decide +kernel
theorem dX12_placesOf_40 : decode cX12_placesOf 40 = .ok (.getfield 34, 3) := by decide +kernel
theorem dX12_placesOf_43 : decode cX12_placesOf 43 = .ok (.iconst 0, 1) := by decide +kernel
theorem dX12_placesOf_44 : decode cX12_placesOf 44 = .ok (.iaload, 1) := by decide +kernel
theorem dX12_placesOf_45 : decode cX12_placesOf 45 = .ok (.ishl, 1) := by decide +kernel
theorem dX12_placesOf_46 : decode cX12_placesOf 46 = .ok (.if_icmp .ge 153, 3) := by decide +kernel
theorem dX12_placesOf_49 : decode cX12_placesOf 49 = .ok (.iload 5, 2) := by decide +kernel
theorem dX12_placesOf_51 : decode cX12_placesOf 51 = .ok (.invokestatic 341, 3) := by decide +kernel
theorem dX12_placesOf_54 : decode cX12_placesOf 54 = .ok (.iload_n 3, 1) := by decide +kernel
theorem dX12_placesOf_55 : decode cX12_placesOf 55 = .ok (.if_icmp .eq 6, 3) := by decide +kernel
theorem dX12_placesOf_58 : decode cX12_placesOf 58 = .ok (.goto 135, 3) := by decide +kernel
theorem dX12_placesOf_61 : decode cX12_placesOf 61 = .ok (.aload_n 0, 1) := by decide +kernel
theorem dX12_placesOf_62 : decode cX12_placesOf 62 = .ok (.invokevirtual 271, 3) := by decide +kernel
theorem dX12_placesOf_65 : decode cX12_placesOf 65 = .ok (.iconst 0, 1) := by decide +kernel
theorem dX12_placesOf_66 : decode cX12_placesOf 66 = .ok (.istore 6, 2) := by decide +kernel
theorem dX12_placesOf_68 : decode cX12_placesOf 68 = .ok (.iload 6, 2) := by decide +kernel
theorem dX12_placesOf_70 : decode cX12_placesOf 70 = .ok (.aload_n 0, 1) := by decide +kernel
theorem dX12_placesOf_71 : decode cX12_placesOf 71 = .ok (.getfield 34, 3) := by decide +kernel
theorem dX12_placesOf_74 : decode cX12_placesOf 74 = .ok (.iconst 0, 1) := by decide +kernel
theorem dX12_placesOf_75 : decode cX12_placesOf 75 = .ok (.iaload, 1) := by decide +kernel
theorem dX12_placesOf_76 : decode cX12_placesOf 76 = .ok (.if_icmp .ge 26, 3) := by decide +kernel
theorem dX12_placesOf_79 : decode cX12_placesOf 79 = .ok (.iload 5, 2) := by decide +kernel
theorem dX12_placesOf_81 : decode cX12_placesOf 81 = .ok (.iload 6, 2) := by decide +kernel
theorem dX12_placesOf_83 : decode cX12_placesOf 83 = .ok (.invokestatic 265, 3) := by decide +kernel
theorem dX12_placesOf_86 : decode cX12_placesOf 86 = .ok (.ifCond .eq 10, 3) := by decide +kernel
theorem dX12_placesOf_89 : decode cX12_placesOf 89 = .ok (.aload_n 0, 1) := by decide +kernel
theorem dX12_placesOf_90 : decode cX12_placesOf 90 = .ok (.iload 6, 2) := by decide +kernel
theorem dX12_placesOf_92 : decode cX12_placesOf 92 = .ok (.iconst 0, 1) := by decide +kernel
theorem dX12_placesOf_93 : decode cX12_placesOf 93 = .ok (.invokevirtual 274, 3) := by decide +kernel
theorem dX12_placesOf_96 : decode cX12_placesOf 96 = .ok (.iinc 6 1, 3) := by decide +kernel
theorem dX12_placesOf_99 : decode cX12_placesOf 99 = .ok (.goto (-31), 3) := by decide +kernel
theorem dX12_placesOf_102 : decode cX12_placesOf 102 = .ok (.aload_n 0, 1) := by decide +kernel
theorem dX12_placesOf_103 : decode cX12_placesOf 103 = .ok (.aload_n 0, 1) := by decide +kernel
theorem dX12_placesOf_104 : decode cX12_placesOf 104 = .ok (.getfield 262, 3) := by decide +kernel
theorem dX12_placesOf_107 : decode cX12_placesOf 107 = .ok (.iconst 0, 1) := by decide +kernel
theorem dX12_placesOf_108 : decode cX12_placesOf 108 = .ok (.invokevirtual 276, 3) := by decide +kernel
theorem dX12_placesOf_111 : decode cX12_placesOf 111 = .ok (.aload_n 0, 1) := by decide +kernel
theorem dX12_placesOf_112 : decode cX12_placesOf 112 = .ok (.invokevirtual 317, 3) := by decide +kernel
theorem dX12_placesOf_115 : decode cX12_placesOf 115 = .ok (.istore 6, 2) := by decide +kernel
theorem dX12_placesOf_117 : decode cX12_placesOf 117 = .ok (.iload 6, 2) := by decide +kernel
theorem dX12_placesOf_119 : decode cX12_placesOf 119 = .ok (.iconst (-1), 1) := by decide +kernel
theorem dX12_placesOf_120 : decode cX12_placesOf 120 = .ok (.if_icmp .ne 6, 3) := by decide +kernel
theorem dX12_placesOf_123 : decode cX12_placesOf 123 = .ok (.goto 70, 3) := by decide +kernel
theorem dX12_placesOf_126 : decode cX12_placesOf 126 = .ok (.iload_n 2, 1) := by decide +kernel
theorem dX12_placesOf_127 : decode cX12_placesOf 127 = .ok (.ifCond .eq 38, 3) := by decide +kernel
theorem dX12_placesOf_130 : decode cX12_placesOf 130 = .ok (.iconst 0, 1) := by decide +kernel
theorem dX12_placesOf_131 : decode cX12_placesOf 131 = .ok (.istore 6, 2) := by decide +kernel
theorem dX12_placesOf_133 : decode cX12_placesOf 133 = .ok (.iconst 0, 1) := by decide +kernel
theorem dX12_placesOf_134 : decode cX12_placesOf 134 = .ok (.istore 7, 2) := by decide +kernel
theorem dX12_placesOf_136 : decode cX12_placesOf 136 = .ok (.iload 7, 2) := by decide +kernel
theorem dX12_placesOf_138 : decode cX12_placesOf 138 = .ok (.aload_n 0, 1) := by decide +kernel
theorem dX12_placesOf_139 : decode cX12_placesOf 139 = .ok (.getfield 34, 3) := by decide +kernel
theorem dX12_placesOf_142 : decode cX12_placesOf 142 = .ok (.iconst 0, 1) := by decide +kernel
theorem dX12_placesOf_143 : decode cX12_placesOf 143 = .ok (.iaload, 1) := by decide +kernel
theorem dX12_placesOf_144 : decode cX12_placesOf 144 = .ok (.if_icmp .ge 21, 3) := by decide +kernel
theorem dX12_placesOf_147 : decode cX12_placesOf 147 = .ok (.iload 6, 2) := by decide +kernel
theorem dX12_placesOf_149 : decode cX12_placesOf 149 = .ok (.aload_n 0, 1) := by decide +kernel
theorem dX12_placesOf_150 : decode cX12_placesOf 150 = .ok (.getfield 59, 3) := by decide +kernel
theorem dX12_placesOf_153 : decode cX12_placesOf 153 = .ok (.iload 7, 2) := by decide +kernel
theorem dX12_placesOf_155 : decode cX12_placesOf 155 = .ok (.iaload, 1) := by decide +kernel
theorem dX12_placesOf_156 : decode cX12_placesOf 156 = .ok (.iadd, 1) := by decide +kernel
theorem dX12_placesOf_157 : decode cX12_placesOf 157 = .ok (.istore 6, 2) := by decide +kernel
theorem dX12_placesOf_159 : decode cX12_placesOf 159 = .ok (.iinc 7 1, 3) := by decide +kernel
theorem dX12_placesOf_162 : decode cX12_placesOf 162 = .ok (.goto (-26), 3) := by decide +kernel
theorem dX12_placesOf_165 : decode cX12_placesOf 165 = .ok (.iload 4, 2) := by decide +kernel
theorem dX12_placesOf_167 : decode cX12_placesOf 167 = .ok (.iconst (-1), 1) := by decide +kernel
theorem dX12_placesOf_168 : decode cX12_placesOf 168 = .ok (.if_icmp .eq 15, 3) := by decide +kernel
theorem dX12_placesOf_171 : decode cX12_placesOf 171 = .ok (.iload 6, 2) := by decide +kernel
theorem dX12_placesOf_173 : decode cX12_placesOf 173 = .ok (.aload_n 0, 1) := by decide +kernel
theorem dX12_placesOf_174 : decode cX12_placesOf 174 = .ok (.getfield 373, 3) := by decide +kernel
theorem dX12_placesOf_177 : decode cX12_placesOf 177 = .ok (.if_icmp .lt 6, 3) := by decide +kernel
theorem dX12_placesOf_180 : decode cX12_placesOf 180 = .ok (.goto 13, 3) := by decide +kernel
theorem dX12_placesOf_183 : decode cX12_placesOf 183 = .ok (.iload 5, 2) := by decide +kernel
theorem dX12_placesOf_185 : decode cX12_placesOf 185 = .ok (.istore 4, 2) := by decide +kernel
theorem dX12_placesOf_187 : decode cX12_placesOf 187 = .ok (.aload_n 0, 1) := by decide +kernel
theorem dX12_placesOf_188 : decode cX12_placesOf 188 = .ok (.iload 6, 2) := by decide +kernel
theorem dX12_placesOf_190 : decode cX12_placesOf 190 = .ok (.putfield 373, 3) := by decide +kernel
theorem dX12_placesOf_193 : decode cX12_placesOf 193 = .ok (.iinc 5 1, 3) := by decide +kernel
theorem dX12_placesOf_196 : decode cX12_placesOf 196 = .ok (.goto (-160), 3) := by decide +kernel
theorem dX12_placesOf_199 : decode cX12_placesOf 199 = .ok (.iload 4, 2) := by decide +kernel
theorem dX12_placesOf_201 : decode cX12_placesOf 201 = .ok (.ireturn, 1) := by decide +kernel
theorem dX12_isPlace_0 : decode cX12_isPlace 0 = .ok (.aload_n 0, 1) := by decide +kernel
theorem dX12_isPlace_1 : decode cX12_isPlace 1 = .ok (.invokevirtual 311, 3) := by decide +kernel
theorem dX12_isPlace_4 : decode cX12_isPlace 4 = .ok (.ifCond .eq 19, 3) := by decide +kernel
theorem dX12_isPlace_7 : decode cX12_isPlace 7 = .ok (.iload_n 1, 1) := by decide +kernel
theorem dX12_isPlace_8 : decode cX12_isPlace 8 = .ok (.i2l, 1) := by decide +kernel
theorem dX12_isPlace_9 : decode cX12_isPlace 9 = .ok (.lconst 1, 1) := by decide +kernel
theorem dX12_isPlace_10 : decode cX12_isPlace 10 = .ok (.ldc2_w 288, 3) := by decide +kernel
theorem dX12_isPlace_13 : decode cX12_isPlace 13 = .ok (.invokestatic 97, 3) := by decide +kernel
theorem dX12_isPlace_16 : decode cX12_isPlace 16 = .ok (.ifCond .eq 7, 3) := by decide +kernel
theorem dX12_isPlace_19 : decode cX12_isPlace 19 = .ok (.iconst 1, 1) := by decide +kernel
theorem dX12_isPlace_20 : decode cX12_isPlace 20 = .ok (.goto 4, 3) := by decide +kernel
theorem dX12_isPlace_23 : decode cX12_isPlace 23 = .ok (.iconst 0, 1) := by decide +kernel
theorem dX12_isPlace_24 : decode cX12_isPlace 24 = .ok (.ireturn, 1) := by decide +kernel
theorem dX12_place_0 : decode cX12_place 0 = .ok (.aload_n 0, 1) := by decide +kernel
theorem dX12_place_1 : decode cX12_place 1 = .ok (.iconst 0, 1) := by decide +kernel
theorem dX12_place_2 : decode cX12_place 2 = .ok (.putfield 92, 3) := by decide +kernel
theorem dX12_place_5 : decode cX12_place 5 = .ok (.aload_n 0, 1) := by decide +kernel
theorem dX12_place_6 : decode cX12_place 6 = .ok (.iload_n 1, 1) := by decide +kernel
theorem dX12_place_7 : decode cX12_place 7 = .ok (.invokevirtual 376, 3) := by decide +kernel
theorem dX12_place_10 : decode cX12_place 10 = .ok (.ifCond .ne 6, 3) := by decide +kernel
theorem dX12_place_13 : decode cX12_place 13 = .ok (.bipush (-2), 2) := by decide +kernel
theorem dX12_place_15 : decode cX12_place 15 = .ok (.ireturn, 1) := by decide +kernel
theorem dX12_place_16 : decode cX12_place 16 = .ok (.aload_n 0, 1) := by decide +kernel
theorem dX12_place_17 : decode cX12_place 17 = .ok (.iload_n 1, 1) := by decide +kernel
theorem dX12_place_18 : decode cX12_place 18 = .ok (.iconst 0, 1) := by decide +kernel
theorem dX12_place_19 : decode cX12_place 19 = .ok (.invokevirtual 379, 3) := by decide +kernel
theorem dX12_place_22 : decode cX12_place 22 = .ok (.pop, 1) := by decide +kernel
theorem dX12_place_23 : decode cX12_place 23 = .ok (.aload_n 0, 1) := by decide +kernel
theorem dX12_place_24 : decode cX12_place 24 = .ok (.getfield 373, 3) := by decide +kernel
theorem dX12_place_27 : decode cX12_place 27 = .ok (.ireturn, 1) := by decide +kernel
theorem dX12_places_0 : decode cX12_places 0 = .ok (.aload_n 0, 1) := by decide +kernel
theorem dX12_places_1 : decode cX12_places 1 = .ok (.iconst 0, 1) := by decide +kernel
theorem dX12_places_2 : decode cX12_places 2 = .ok (.putfield 92, 3) := by decide +kernel
theorem dX12_places_5 : decode cX12_places 5 = .ok (.aload_n 0, 1) := by decide +kernel
theorem dX12_places_6 : decode cX12_places 6 = .ok (.iload_n 1, 1) := by decide +kernel
theorem dX12_places_7 : decode cX12_places 7 = .ok (.invokevirtual 376, 3) := by decide +kernel
theorem dX12_places_10 : decode cX12_places 10 = .ok (.ifCond .eq 12, 3) := by decide +kernel
theorem dX12_places_13 : decode cX12_places 13 = .ok (.aload_n 0, 1) := by decide +kernel
theorem dX12_places_14 : decode cX12_places 14 = .ok (.iload_n 1, 1) := by decide +kernel
theorem dX12_places_15 : decode cX12_places 15 = .ok (.iconst 0, 1) := by decide +kernel
theorem dX12_places_16 : decode cX12_places 16 = .ok (.invokevirtual 379, 3) := by decide +kernel
theorem dX12_places_19 : decode cX12_places 19 = .ok (.goto 5, 3) := by decide +kernel
theorem dX12_places_22 : decode cX12_places 22 = .ok (.bipush (-2), 2) := by decide +kernel
theorem dX12_places_24 : decode cX12_places 24 = .ok (.ireturn, 1) := by decide +kernel
theorem dX12_soon_0 : decode cX12_soon 0 = .ok (.aload_n 0, 1) := by decide +kernel
theorem dX12_soon_1 : decode cX12_soon 1 = .ok (.iconst 0, 1) := by decide +kernel
theorem dX12_soon_2 : decode cX12_soon 2 = .ok (.putfield 92, 3) := by decide +kernel
theorem dX12_soon_5 : decode cX12_soon 5 = .ok (.aload_n 0, 1) := by decide +kernel
theorem dX12_soon_6 : decode cX12_soon 6 = .ok (.iload_n 1, 1) := by decide +kernel
theorem dX12_soon_7 : decode cX12_soon 7 = .ok (.invokevirtual 376, 3) := by decide +kernel
theorem dX12_soon_10 : decode cX12_soon 10 = .ok (.ifCond .ne 6, 3) := by decide +kernel
theorem dX12_soon_13 : decode cX12_soon 13 = .ok (.bipush (-2), 2) := by decide +kernel
theorem dX12_soon_15 : decode cX12_soon 15 = .ok (.ireturn, 1) := by decide +kernel
theorem dX12_soon_16 : decode cX12_soon 16 = .ok (.aload_n 0, 1) := by decide +kernel
theorem dX12_soon_17 : decode cX12_soon 17 = .ok (.iload_n 1, 1) := by decide +kernel
theorem dX12_soon_18 : decode cX12_soon 18 = .ok (.iconst 1, 1) := by decide +kernel
theorem dX12_soon_19 : decode cX12_soon 19 = .ok (.invokevirtual 379, 3) := by decide +kernel
theorem dX12_soon_22 : decode cX12_soon 22 = .ok (.pop, 1) := by decide +kernel
theorem dX12_soon_23 : decode cX12_soon 23 = .ok (.aload_n 0, 1) := by decide +kernel
theorem dX12_soon_24 : decode cX12_soon 24 = .ok (.getfield 373, 3) := by decide +kernel
theorem dX12_soon_27 : decode cX12_soon 27 = .ok (.ireturn, 1) := by decide +kernel
theorem dX12_packs_0 : decode cX12_packs 0 = .ok (.iload_n 1, 1) := by decide +kernel
theorem dX12_packs_1 : decode cX12_packs 1 = .ok (.aload_n 0, 1) := by decide +kernel
theorem dX12_packs_2 : decode cX12_packs 2 = .ok (.getfield 34, 3) := by decide +kernel
theorem dX12_packs_5 : decode cX12_packs 5 = .ok (.iconst 3, 1) := by decide +kernel
theorem dX12_packs_6 : decode cX12_packs 6 = .ok (.iaload, 1) := by decide +kernel
theorem dX12_packs_7 : decode cX12_packs 7 = .ok (.if_icmp .ne 5, 3) := by decide +kernel
theorem dX12_packs_10 : decode cX12_packs 10 = .ok (.iconst 1, 1) := by decide +kernel
theorem dX12_packs_11 : decode cX12_packs 11 = .ok (.ireturn, 1) := by decide +kernel
theorem dX12_packs_12 : decode cX12_packs 12 = .ok (.iconst 0, 1) := by decide +kernel
theorem dX12_packs_13 : decode cX12_packs 13 = .ok (.istore 4, 2) := by decide +kernel
theorem dX12_packs_15 : decode cX12_packs 15 = .ok (.iload 4, 2) := by decide +kernel
theorem dX12_packs_17 : decode cX12_packs 17 = .ok (.iload_n 2, 1) := by decide +kernel
theorem dX12_packs_18 : decode cX12_packs 18 = .ok (.if_icmp .gt 112, 3) := by decide +kernel
theorem dX12_packs_21 : decode cX12_packs 21 = .ok (.iload 4, 2) := by decide +kernel
theorem dX12_packs_23 : decode cX12_packs 23 = .ok (.iload_n 3, 1) := by decide +kernel
theorem dX12_packs_24 : decode cX12_packs 24 = .ok (.if_icmp .ge 106, 3) := by decide +kernel
theorem dX12_packs_27 : decode cX12_packs 27 = .ok (.aload_n 0, 1) := by decide +kernel
theorem dX12_packs_28 : decode cX12_packs 28 = .ok (.getfield 80, 3) := by decide +kernel
theorem dX12_packs_31 : decode cX12_packs 31 = .ok (.iload 4, 2) := by decide +kernel
theorem dX12_packs_33 : decode cX12_packs 33 = .ok (.iaload, 1) := by decide +kernel
theorem dX12_packs_34 : decode cX12_packs 34 = .ok (.aload_n 0, 1) := by decide +kernel
theorem dX12_packs_35 : decode cX12_packs 35 = .ok (.getfield 43, 3) := by decide +kernel
theorem dX12_packs_38 : decode cX12_packs 38 = .ok (.iconst 4, 1) := by decide +kernel
theorem dX12_packs_39 : decode cX12_packs 39 = .ok (.iload_n 1, 1) := by decide +kernel
theorem dX12_packs_40 : decode cX12_packs 40 = .ok (.imul, 1) := by decide +kernel
theorem dX12_packs_41 : decode cX12_packs 41 = .ok (.iconst 3, 1) := by decide +kernel
theorem dX12_packs_42 : decode cX12_packs 42 = .ok (.iadd, 1) := by decide +kernel
theorem dX12_packs_43 : decode cX12_packs 43 = .ok (.iaload, 1) := by decide +kernel
theorem dX12_packs_44 : decode cX12_packs 44 = .ok (.if_icmp .ge 6, 3) := by decide +kernel
theorem dX12_packs_47 : decode cX12_packs 47 = .ok (.goto 77, 3) := by decide +kernel
theorem dX12_packs_50 : decode cX12_packs 50 = .ok (.aload_n 0, 1) := by decide +kernel
theorem dX12_packs_51 : decode cX12_packs 51 = .ok (.getfield 80, 3) := by decide +kernel
theorem dX12_packs_54 : decode cX12_packs 54 = .ok (.iload 4, 2) := by decide +kernel
theorem dX12_packs_56 : decode cX12_packs 56 = .ok (.dup2, 1) := by decide +kernel
theorem dX12_packs_57 : decode cX12_packs 57 = .ok (.iaload, 1) := by decide +kernel
theorem dX12_packs_58 : decode cX12_packs 58 = .ok (.aload_n 0, 1) := by decide +kernel
theorem dX12_packs_59 : decode cX12_packs 59 = .ok (.getfield 43, 3) := by decide +kernel
theorem dX12_packs_62 : decode cX12_packs 62 = .ok (.iconst 4, 1) := by decide +kernel
theorem dX12_packs_63 : decode cX12_packs 63 = .ok (.iload_n 1, 1) := by decide +kernel
theorem dX12_packs_64 : decode cX12_packs 64 = .ok (.imul, 1) := by decide +kernel
theorem dX12_packs_65 : decode cX12_packs 65 = .ok (.iconst 3, 1) := by decide +kernel
theorem dX12_packs_66 : decode cX12_packs 66 = .ok (.iadd, 1) := by decide +kernel
theorem dX12_packs_67 : decode cX12_packs 67 = .ok (.iaload, 1) := by decide +kernel
theorem dX12_packs_68 : decode cX12_packs 68 = .ok (.isub, 1) := by decide +kernel
theorem dX12_packs_69 : decode cX12_packs 69 = .ok (.iastore, 1) := by decide +kernel
theorem dX12_packs_70 : decode cX12_packs 70 = .ok (.aload_n 0, 1) := by decide +kernel
theorem dX12_packs_71 : decode cX12_packs 71 = .ok (.getfield 83, 3) := by decide +kernel
theorem dX12_packs_74 : decode cX12_packs 74 = .ok (.iload_n 1, 1) := by decide +kernel
theorem dX12_packs_75 : decode cX12_packs 75 = .ok (.iload 4, 2) := by decide +kernel
theorem dX12_packs_77 : decode cX12_packs 77 = .ok (.iastore, 1) := by decide +kernel
theorem dX12_packs_78 : decode cX12_packs 78 = .ok (.aload_n 0, 1) := by decide +kernel
theorem dX12_packs_79 : decode cX12_packs 79 = .ok (.iload_n 1, 1) := by decide +kernel
theorem dX12_packs_80 : decode cX12_packs 80 = .ok (.iconst 1, 1) := by decide +kernel
theorem dX12_packs_81 : decode cX12_packs 81 = .ok (.iadd, 1) := by decide +kernel
theorem dX12_packs_82 : decode cX12_packs 82 = .ok (.iload 4, 2) := by decide +kernel
theorem dX12_packs_84 : decode cX12_packs 84 = .ok (.iload_n 2, 1) := by decide +kernel
theorem dX12_packs_85 : decode cX12_packs 85 = .ok (.if_icmp .ne 9, 3) := by decide +kernel
theorem dX12_packs_88 : decode cX12_packs 88 = .ok (.iload_n 2, 1) := by decide +kernel
theorem dX12_packs_89 : decode cX12_packs 89 = .ok (.iconst 1, 1) := by decide +kernel
theorem dX12_packs_90 : decode cX12_packs 90 = .ok (.iadd, 1) := by decide +kernel
theorem dX12_packs_91 : decode cX12_packs 91 = .ok (.goto 4, 3) := by decide +kernel
theorem dX12_packs_94 : decode cX12_packs 94 = .ok (.iload_n 2, 1) := by decide +kernel
theorem dX12_packs_95 : decode cX12_packs 95 = .ok (.iload_n 3, 1) := by decide +kernel
theorem dX12_packs_96 : decode cX12_packs 96 = .ok (.invokevirtual 383, 3) := by decide +kernel
theorem dX12_packs_99 : decode cX12_packs 99 = .ok (.ifCond .eq 5, 3) := by decide +kernel
theorem dX12_packs_102 : decode cX12_packs 102 = .ok (.iconst 1, 1) := by decide +kernel
theorem dX12_packs_103 : decode cX12_packs 103 = .ok (.ireturn, 1) := by decide +kernel
theorem dX12_packs_104 : decode cX12_packs 104 = .ok (.aload_n 0, 1) := by decide +kernel
theorem dX12_packs_105 : decode cX12_packs 105 = .ok (.getfield 80, 3) := by decide +kernel
theorem dX12_packs_108 : decode cX12_packs 108 = .ok (.iload 4, 2) := by decide +kernel
theorem dX12_packs_110 : decode cX12_packs 110 = .ok (.dup2, 1) := by decide +kernel
theorem dX12_packs_111 : decode cX12_packs 111 = .ok (.iaload, 1) := by decide +kernel
theorem dX12_packs_112 : decode cX12_packs 112 = .ok (.aload_n 0, 1) := by decide +kernel
theorem dX12_packs_113 : decode cX12_packs 113 = .ok (.getfield 43, 3) := by decide +kernel
theorem dX12_packs_116 : decode cX12_packs 116 = .ok (.iconst 4, 1) := by decide +kernel
theorem dX12_packs_117 : decode cX12_packs 117 = .ok (.iload_n 1, 1) := by decide +kernel
theorem dX12_packs_118 : decode cX12_packs 118 = .ok (.imul, 1) := by decide +kernel
theorem dX12_packs_119 : decode cX12_packs 119 = .ok (.iconst 3, 1) := by decide +kernel
theorem dX12_packs_120 : decode cX12_packs 120 = .ok (.iadd, 1) := by decide +kernel
theorem dX12_packs_121 : decode cX12_packs 121 = .ok (.iaload, 1) := by decide +kernel
theorem dX12_packs_122 : decode cX12_packs 122 = .ok (.iadd, 1) := by decide +kernel
theorem dX12_packs_123 : decode cX12_packs 123 = .ok (.iastore, 1) := by decide +kernel
theorem dX12_packs_124 : decode cX12_packs 124 = .ok (.iinc 4 1, 3) := by decide +kernel
theorem dX12_packs_127 : decode cX12_packs 127 = .ok (.goto (-112), 3) := by decide +kernel
theorem dX12_packs_130 : decode cX12_packs 130 = .ok (.iconst 0, 1) := by decide +kernel
theorem dX12_packs_131 : decode cX12_packs 131 = .ok (.ireturn, 1) := by decide +kernel
theorem dX12_cartsOf_0 : decode cX12_cartsOf 0 = .ok (.iconst 0, 1) := by decide +kernel
theorem dX12_cartsOf_1 : decode cX12_cartsOf 1 = .ok (.istore_n 2, 1) := by decide +kernel
theorem dX12_cartsOf_2 : decode cX12_cartsOf 2 = .ok (.iload_n 2, 1) := by decide +kernel
theorem dX12_cartsOf_3 : decode cX12_cartsOf 3 = .ok (.bipush 6, 2) := by decide +kernel
theorem dX12_cartsOf_5 : decode cX12_cartsOf 5 = .ok (.if_icmp .gt 42, 3) := by decide +kernel
theorem dX12_cartsOf_8 : decode cX12_cartsOf 8 = .ok (.iconst 0, 1) := by decide +kernel
theorem dX12_cartsOf_9 : decode cX12_cartsOf 9 = .ok (.istore_n 3, 1) := by decide +kernel
theorem dX12_cartsOf_10 : decode cX12_cartsOf 10 = .ok (.iload_n 3, 1) := by decide +kernel
theorem dX12_cartsOf_11 : decode cX12_cartsOf 11 = .ok (.bipush 6, 2) := by decide +kernel
theorem dX12_cartsOf_13 : decode cX12_cartsOf 13 = .ok (.if_icmp .ge 16, 3) := by decide +kernel
theorem dX12_cartsOf_16 : decode cX12_cartsOf 16 = .ok (.aload_n 0, 1) := by decide +kernel
theorem dX12_cartsOf_17 : decode cX12_cartsOf 17 = .ok (.getfield 80, 3) := by decide +kernel
theorem dX12_cartsOf_20 : decode cX12_cartsOf 20 = .ok (.iload_n 3, 1) := by decide +kernel
theorem dX12_cartsOf_21 : decode cX12_cartsOf 21 = .ok (.iload_n 1, 1) := by decide +kernel
theorem dX12_cartsOf_22 : decode cX12_cartsOf 22 = .ok (.iastore, 1) := by decide +kernel
theorem dX12_cartsOf_23 : decode cX12_cartsOf 23 = .ok (.iinc 3 1, 3) := by decide +kernel
theorem dX12_cartsOf_26 : decode cX12_cartsOf 26 = .ok (.goto (-16), 3) := by decide +kernel
theorem dX12_cartsOf_29 : decode cX12_cartsOf 29 = .ok (.aload_n 0, 1) := by decide +kernel
theorem dX12_cartsOf_30 : decode cX12_cartsOf 30 = .ok (.iconst 0, 1) := by decide +kernel
theorem dX12_cartsOf_31 : decode cX12_cartsOf 31 = .ok (.iconst 0, 1) := by decide +kernel
theorem dX12_cartsOf_32 : decode cX12_cartsOf 32 = .ok (.iload_n 2, 1) := by decide +kernel
theorem dX12_cartsOf_33 : decode cX12_cartsOf 33 = .ok (.invokevirtual 383, 3) := by decide +kernel
theorem dX12_cartsOf_36 : decode cX12_cartsOf 36 = .ok (.ifCond .eq 5, 3) := by decide +kernel
theorem dX12_cartsOf_39 : decode cX12_cartsOf 39 = .ok (.iload_n 2, 1) := by decide +kernel
theorem dX12_cartsOf_40 : decode cX12_cartsOf 40 = .ok (.ireturn, 1) := by decide +kernel
theorem dX12_cartsOf_41 : decode cX12_cartsOf 41 = .ok (.iinc 2 1, 3) := by decide +kernel
theorem dX12_cartsOf_44 : decode cX12_cartsOf 44 = .ok (.goto (-42), 3) := by decide +kernel
theorem dX12_cartsOf_47 : decode cX12_cartsOf 47 = .ok (.iconst (-1), 1) := by decide +kernel
theorem dX12_cartsOf_48 : decode cX12_cartsOf 48 = .ok (.ireturn, 1) := by decide +kernel
theorem dX12_isCart_0 : decode cX12_isCart 0 = .ok (.aload_n 0, 1) := by decide +kernel
theorem dX12_isCart_1 : decode cX12_isCart 1 = .ok (.invokevirtual 311, 3) := by decide +kernel
theorem dX12_isCart_4 : decode cX12_isCart 4 = .ok (.ifCond .eq 19, 3) := by decide +kernel
theorem dX12_isCart_7 : decode cX12_isCart 7 = .ok (.iload_n 1, 1) := by decide +kernel
theorem dX12_isCart_8 : decode cX12_isCart 8 = .ok (.i2l, 1) := by decide +kernel
theorem dX12_isCart_9 : decode cX12_isCart 9 = .ok (.lconst 1, 1) := by decide +kernel
theorem dX12_isCart_10 : decode cX12_isCart 10 = .ok (.ldc2_w 386, 3) := by decide +kernel
theorem dX12_isCart_13 : decode cX12_isCart 13 = .ok (.invokestatic 97, 3) := by decide +kernel
theorem dX12_isCart_16 : decode cX12_isCart 16 = .ok (.ifCond .eq 7, 3) := by decide +kernel
theorem dX12_isCart_19 : decode cX12_isCart 19 = .ok (.iconst 1, 1) := by decide +kernel
theorem dX12_isCart_20 : decode cX12_isCart 20 = .ok (.goto 4, 3) := by decide +kernel
theorem dX12_isCart_23 : decode cX12_isCart 23 = .ok (.iconst 0, 1) := by decide +kernel
theorem dX12_isCart_24 : decode cX12_isCart 24 = .ok (.ireturn, 1) := by decide +kernel
theorem dX12_carts_0 : decode cX12_carts 0 = .ok (.aload_n 0, 1) := by decide +kernel
theorem dX12_carts_1 : decode cX12_carts 1 = .ok (.iconst 0, 1) := by decide +kernel
theorem dX12_carts_2 : decode cX12_carts 2 = .ok (.putfield 92, 3) := by decide +kernel
theorem dX12_carts_5 : decode cX12_carts 5 = .ok (.aload_n 0, 1) := by decide +kernel
theorem dX12_carts_6 : decode cX12_carts 6 = .ok (.iload_n 1, 1) := by decide +kernel
theorem dX12_carts_7 : decode cX12_carts 7 = .ok (.invokevirtual 388, 3) := by decide +kernel
theorem dX12_carts_10 : decode cX12_carts 10 = .ok (.ifCond .eq 11, 3) := by decide +kernel
theorem dX12_carts_13 : decode cX12_carts 13 = .ok (.aload_n 0, 1) := by decide +kernel
theorem dX12_carts_14 : decode cX12_carts 14 = .ok (.iload_n 1, 1) := by decide +kernel
theorem dX12_carts_15 : decode cX12_carts 15 = .ok (.invokevirtual 391, 3) := by decide +kernel
theorem dX12_carts_18 : decode cX12_carts 18 = .ok (.goto 5, 3) := by decide +kernel
theorem dX12_carts_21 : decode cX12_carts 21 = .ok (.bipush (-2), 2) := by decide +kernel
theorem dX12_carts_23 : decode cX12_carts 23 = .ok (.ireturn, 1) := by decide +kernel
theorem dX12_cart_0 : decode cX12_cart 0 = .ok (.aload_n 0, 1) := by decide +kernel
theorem dX12_cart_1 : decode cX12_cart 1 = .ok (.iconst 0, 1) := by decide +kernel
theorem dX12_cart_2 : decode cX12_cart 2 = .ok (.putfield 92, 3) := by decide +kernel
theorem dX12_cart_5 : decode cX12_cart 5 = .ok (.aload_n 0, 1) := by decide +kernel
theorem dX12_cart_6 : decode cX12_cart 6 = .ok (.iload_n 1, 1) := by decide +kernel
theorem dX12_cart_7 : decode cX12_cart 7 = .ok (.invokevirtual 388, 3) := by decide +kernel
theorem dX12_cart_10 : decode cX12_cart 10 = .ok (.ifCond .ne 6, 3) := by decide +kernel
theorem dX12_cart_13 : decode cX12_cart 13 = .ok (.bipush (-2), 2) := by decide +kernel
theorem dX12_cart_15 : decode cX12_cart 15 = .ok (.ireturn, 1) := by decide +kernel
theorem dX12_cart_16 : decode cX12_cart 16 = .ok (.aload_n 0, 1) := by decide +kernel
theorem dX12_cart_17 : decode cX12_cart 17 = .ok (.iload_n 1, 1) := by decide +kernel
theorem dX12_cart_18 : decode cX12_cart 18 = .ok (.invokevirtual 391, 3) := by decide +kernel
theorem dX12_cart_21 : decode cX12_cart 21 = .ok (.istore_n 3, 1) := by decide +kernel
theorem dX12_cart_22 : decode cX12_cart 22 = .ok (.iload_n 2, 1) := by decide +kernel
theorem dX12_cart_23 : decode cX12_cart 23 = .ok (.i2l, 1) := by decide +kernel
theorem dX12_cart_24 : decode cX12_cart 24 = .ok (.lconst 0, 1) := by decide +kernel
theorem dX12_cart_25 : decode cX12_cart 25 = .ok (.iload_n 3, 1) := by decide +kernel
theorem dX12_cart_26 : decode cX12_cart 26 = .ok (.iconst 1, 1) := by decide +kernel
theorem dX12_cart_27 : decode cX12_cart 27 = .ok (.isub, 1) := by decide +kernel
theorem dX12_cart_28 : decode cX12_cart 28 = .ok (.i2l, 1) := by decide +kernel
theorem dX12_cart_29 : decode cX12_cart 29 = .ok (.invokestatic 97, 3) := by decide +kernel
theorem dX12_cart_32 : decode cX12_cart 32 = .ok (.ifCond .ne 5, 3) := by decide +kernel
theorem dX12_cart_35 : decode cX12_cart 35 = .ok (.iconst (-1), 1) := by decide +kernel
theorem dX12_cart_36 : decode cX12_cart 36 = .ok (.ireturn, 1) := by decide +kernel
theorem dX12_cart_37 : decode cX12_cart 37 = .ok (.iconst 0, 1) := by decide +kernel
theorem dX12_cart_38 : decode cX12_cart 38 = .ok (.istore 4, 2) := by decide +kernel
theorem dX12_cart_40 : decode cX12_cart 40 = .ok (.iconst 0, 1) := by decide +kernel
theorem dX12_cart_41 : decode cX12_cart 41 = .ok (.istore 5, 2) := by decide +kernel
theorem dX12_cart_43 : decode cX12_cart 43 = .ok (.iload 5, 2) := by decide +kernel
theorem dX12_cart_45 : decode cX12_cart 45 = .ok (.aload_n 0, 1) := by decide +kernel
theorem dX12_cart_46 : decode cX12_cart 46 = .ok (.getfield 34, 3) := by decide +kernel
theorem dX12_cart_49 : decode cX12_cart 49 = .ok (.iconst 3, 1) := by decide +kernel
theorem dX12_cart_50 : decode cX12_cart 50 = .ok (.iaload, 1) := by decide +kernel
theorem dX12_cart_51 : decode cX12_cart 51 = .ok (.if_icmp .ge 33, 3) := by decide +kernel
theorem dX12_cart_54 : decode cX12_cart 54 = .ok (.iload 4, 2) := by decide +kernel
theorem dX12_cart_56 : decode cX12_cart 56 = .ok (.aload_n 0, 1) := by decide +kernel
theorem dX12_cart_57 : decode cX12_cart 57 = .ok (.getfield 83, 3) := by decide +kernel
theorem dX12_cart_60 : decode cX12_cart 60 = .ok (.iload 5, 2) := by decide +kernel
theorem dX12_cart_62 : decode cX12_cart 62 = .ok (.iaload, 1) := by decide +kernel
theorem dX12_cart_63 : decode cX12_cart 63 = .ok (.iload_n 2, 1) := by decide +kernel
theorem dX12_cart_64 : decode cX12_cart 64 = .ok (.if_icmp .ne 10, 3) := by decide +kernel
theorem dX12_cart_67 : decode cX12_cart 67 = .ok (.iconst 1, 1) := by decide +kernel
theorem dX12_cart_68 : decode cX12_cart 68 = .ok (.iload 5, 2) := by decide +kernel
theorem dX12_cart_70 : decode cX12_cart 70 = .ok (.ishl, 1) := by decide +kernel
theorem dX12_cart_71 : decode cX12_cart 71 = .ok (.goto 4, 3) := by decide +kernel
theorem dX12_cart_74 : decode cX12_cart 74 = .ok (.iconst 0, 1) := by decide +kernel
theorem dX12_cart_75 : decode cX12_cart 75 = .ok (.ior, 1) := by decide +kernel
theorem dX12_cart_76 : decode cX12_cart 76 = .ok (.istore 4, 2) := by decide +kernel
theorem dX12_cart_78 : decode cX12_cart 78 = .ok (.iinc 5 1, 3) := by decide +kernel
theorem dX12_cart_81 : decode cX12_cart 81 = .ok (.goto (-38), 3) := by decide +kernel
theorem dX12_cart_84 : decode cX12_cart 84 = .ok (.iload 4, 2) := by decide +kernel
theorem dX12_cart_86 : decode cX12_cart 86 = .ok (.ireturn, 1) := by decide +kernel
theorem dX12_winner_0 : decode cX12_winner 0 = .ok (.iconst (-1), 1) := by decide +kernel
theorem dX12_winner_1 : decode cX12_winner 1 = .ok (.istore_n 1, 1) := by decide +kernel
theorem dX12_winner_2 : decode cX12_winner 2 = .ok (.iconst 0, 1) := by decide +kernel
theorem dX12_winner_3 : decode cX12_winner 3 = .ok (.istore_n 2, 1) := by decide +kernel
theorem dX12_winner_4 : decode cX12_winner 4 = .ok (.iload_n 2, 1) := by decide +kernel
theorem dX12_winner_5 : decode cX12_winner 5 = .ok (.aload_n 0, 1) := by decide +kernel
theorem dX12_winner_6 : decode cX12_winner 6 = .ok (.getfield 34, 3) := by decide +kernel
theorem dX12_winner_9 : decode cX12_winner 9 = .ok (.iconst 3, 1) := by decide +kernel
theorem dX12_winner_10 : decode cX12_winner 10 = .ok (.iaload, 1) := by decide +kernel
theorem dX12_winner_11 : decode cX12_winner 11 = .ok (.if_icmp .ge 39, 3) := by decide +kernel
theorem dX12_winner_14 : decode cX12_winner 14 = .ok (.iload_n 1, 1) := by decide +kernel
theorem dX12_winner_15 : decode cX12_winner 15 = .ok (.iconst (-1), 1) := by decide +kernel
theorem dX12_winner_16 : decode cX12_winner 16 = .ok (.if_icmp .eq 26, 3) := by decide +kernel
theorem dX12_winner_19 : decode cX12_winner 19 = .ok (.aload_n 0, 1) := by decide +kernel
theorem dX12_winner_20 : decode cX12_winner 20 = .ok (.getfield 43, 3) := by decide +kernel
theorem dX12_winner_23 : decode cX12_winner 23 = .ok (.iconst 4, 1) := by decide +kernel
theorem dX12_winner_24 : decode cX12_winner 24 = .ok (.iload_n 2, 1) := by decide +kernel
theorem dX12_winner_25 : decode cX12_winner 25 = .ok (.imul, 1) := by decide +kernel
theorem dX12_winner_26 : decode cX12_winner 26 = .ok (.iconst 2, 1) := by decide +kernel
theorem dX12_winner_27 : decode cX12_winner 27 = .ok (.iadd, 1) := by decide +kernel
theorem dX12_winner_28 : decode cX12_winner 28 = .ok (.iaload, 1) := by decide +kernel
theorem dX12_winner_29 : decode cX12_winner 29 = .ok (.aload_n 0, 1) := by decide +kernel
theorem dX12_winner_30 : decode cX12_winner 30 = .ok (.getfield 43, 3) := by decide +kernel
theorem dX12_winner_33 : decode cX12_winner 33 = .ok (.iconst 4, 1) := by decide +kernel
theorem dX12_winner_34 : decode cX12_winner 34 = .ok (.iload_n 1, 1) := by decide +kernel
theorem dX12_winner_35 : decode cX12_winner 35 = .ok (.imul, 1) := by decide +kernel
theorem dX12_winner_36 : decode cX12_winner 36 = .ok (.iconst 2, 1) := by decide +kernel
theorem dX12_winner_37 : decode cX12_winner 37 = .ok (.iadd, 1) := by decide +kernel
theorem dX12_winner_38 : decode cX12_winner 38 = .ok (.iaload, 1) := by decide +kernel
theorem dX12_winner_39 : decode cX12_winner 39 = .ok (.if_icmp .le 5, 3) := by decide +kernel
theorem dX12_winner_42 : decode cX12_winner 42 = .ok (.iload_n 2, 1) := by decide +kernel
theorem dX12_winner_43 : decode cX12_winner 43 = .ok (.istore_n 1, 1) := by decide +kernel
theorem dX12_winner_44 : decode cX12_winner 44 = .ok (.iinc 2 1, 3) := by decide +kernel
theorem dX12_winner_47 : decode cX12_winner 47 = .ok (.goto (-43), 3) := by decide +kernel
theorem dX12_winner_50 : decode cX12_winner 50 = .ok (.iload_n 1, 1) := by decide +kernel
theorem dX12_winner_51 : decode cX12_winner 51 = .ok (.ireturn, 1) := by decide +kernel
theorem dX12_wins_0 : decode cX12_wins 0 = .ok (.aload_n 0, 1) := by decide +kernel
theorem dX12_wins_1 : decode cX12_wins 1 = .ok (.iconst 0, 1) := by decide +kernel
theorem dX12_wins_2 : decode cX12_wins 2 = .ok (.putfield 92, 3) := by decide +kernel
theorem dX12_wins_5 : decode cX12_wins 5 = .ok (.aload_n 0, 1) := by decide +kernel
theorem dX12_wins_6 : decode cX12_wins 6 = .ok (.invokevirtual 311, 3) := by decide +kernel
theorem dX12_wins_9 : decode cX12_wins 9 = .ok (.ifCond .eq 10, 3) := by decide +kernel
theorem dX12_wins_12 : decode cX12_wins 12 = .ok (.aload_n 0, 1) := by decide +kernel
theorem dX12_wins_13 : decode cX12_wins 13 = .ok (.invokevirtual 394, 3) := by decide +kernel
theorem dX12_wins_16 : decode cX12_wins 16 = .ok (.goto 5, 3) := by decide +kernel
theorem dX12_wins_19 : decode cX12_wins 19 = .ok (.bipush (-2), 2) := by decide +kernel
theorem dX12_wins_21 : decode cX12_wins 21 = .ok (.ireturn, 1) := by decide +kernel
theorem dX12_price_0 : decode cX12_price 0 = .ok (.aload_n 0, 1) := by decide +kernel
theorem dX12_price_1 : decode cX12_price 1 = .ok (.iconst 0, 1) := by decide +kernel
theorem dX12_price_2 : decode cX12_price 2 = .ok (.putfield 92, 3) := by decide +kernel
theorem dX12_price_5 : decode cX12_price 5 = .ok (.aload_n 0, 1) := by decide +kernel
theorem dX12_price_6 : decode cX12_price 6 = .ok (.invokevirtual 311, 3) := by decide +kernel
theorem dX12_price_9 : decode cX12_price 9 = .ok (.ifCond .ne 6, 3) := by decide +kernel
theorem dX12_price_12 : decode cX12_price 12 = .ok (.bipush (-2), 2) := by decide +kernel
theorem dX12_price_14 : decode cX12_price 14 = .ok (.ireturn, 1) := by decide +kernel
theorem dX12_price_15 : decode cX12_price 15 = .ok (.aload_n 0, 1) := by decide +kernel
theorem dX12_price_16 : decode cX12_price 16 = .ok (.invokevirtual 394, 3) := by decide +kernel
theorem dX12_price_19 : decode cX12_price 19 = .ok (.istore_n 1, 1) := by decide +kernel
theorem dX12_price_20 : decode cX12_price 20 = .ok (.iload_n 1, 1) := by decide +kernel
theorem dX12_price_21 : decode cX12_price 21 = .ok (.iconst (-1), 1) := by decide +kernel
theorem dX12_price_22 : decode cX12_price 22 = .ok (.if_icmp .ne 5, 3) := by decide +kernel
theorem dX12_price_25 : decode cX12_price 25 = .ok (.iconst (-1), 1) := by decide +kernel
theorem dX12_price_26 : decode cX12_price 26 = .ok (.ireturn, 1) := by decide +kernel
theorem dX12_price_27 : decode cX12_price 27 = .ok (.iconst 0, 1) := by decide +kernel
theorem dX12_price_28 : decode cX12_price 28 = .ok (.istore_n 2, 1) := by decide +kernel
theorem dX12_price_29 : decode cX12_price 29 = .ok (.iconst 0, 1) := by decide +kernel
theorem dX12_price_30 : decode cX12_price 30 = .ok (.istore_n 3, 1) := by decide +kernel
theorem dX12_price_31 : decode cX12_price 31 = .ok (.iload_n 3, 1) := by decide +kernel
theorem dX12_price_32 : decode cX12_price 32 = .ok (.aload_n 0, 1) := by decide +kernel
theorem dX12_price_33 : decode cX12_price 33 = .ok (.getfield 34, 3) := by decide +kernel
theorem dX12_price_36 : decode cX12_price 36 = .ok (.iconst 3, 1) := by decide +kernel
theorem dX12_price_37 : decode cX12_price 37 = .ok (.iaload, 1) := by decide +kernel
theorem dX12_price_38 : decode cX12_price 38 = .ok (.if_icmp .ge 39, 3) := by decide +kernel
theorem dX12_price_41 : decode cX12_price 41 = .ok (.iload_n 3, 1) := by decide +kernel
theorem dX12_price_42 : decode cX12_price 42 = .ok (.iload_n 1, 1) := by decide +kernel
theorem dX12_price_43 : decode cX12_price 43 = .ok (.if_icmp .eq 28, 3) := by decide +kernel
theorem dX12_price_46 : decode cX12_price 46 = .ok (.aload_n 0, 1) := by decide +kernel
theorem dX12_price_47 : decode cX12_price 47 = .ok (.getfield 43, 3) := by decide +kernel
theorem dX12_price_50 : decode cX12_price 50 = .ok (.iconst 4, 1) := by decide +kernel
theorem dX12_price_51 : decode cX12_price 51 = .ok (.iload_n 3, 1) := by decide +kernel
theorem dX12_price_52 : decode cX12_price 52 = .ok (.imul, 1) := by decide +kernel
theorem dX12_price_53 : decode cX12_price 53 = .ok (.iconst 2, 1) := by decide +kernel
theorem dX12_price_54 : decode cX12_price 54 = .ok (.iadd, 1) := by decide +kernel
theorem dX12_price_55 : decode cX12_price 55 = .ok (.iaload, 1) := by decide +kernel
theorem dX12_price_56 : decode cX12_price 56 = .ok (.iload_n 2, 1) := by decide +kernel
theorem dX12_price_57 : decode cX12_price 57 = .ok (.if_icmp .le 14, 3) := by decide +kernel
theorem dX12_price_60 : decode cX12_price 60 = .ok (.aload_n 0, 1) := by decide +kernel
theorem dX12_price_61 : decode cX12_price 61 = .ok (.getfield 43, 3) := by decide +kernel
theorem dX12_price_64 : decode cX12_price 64 = .ok (.iconst 4, 1) := by decide +kernel
theorem dX12_price_65 : decode cX12_price 65 = .ok (.iload_n 3, 1) := by decide +kernel
theorem dX12_price_66 : decode cX12_price 66 = .ok (.imul, 1) := by decide +kernel
theorem dX12_price_67 : decode cX12_price 67 = .ok (.iconst 2, 1) := by decide +kernel
theorem dX12_price_68 : decode cX12_price 68 = .ok (.iadd, 1) := by decide +kernel
theorem dX12_price_69 : decode cX12_price 69 = .ok (.iaload, 1) := by decide +kernel
theorem dX12_price_70 : decode cX12_price 70 = .ok (.istore_n 2, 1) := by decide +kernel
theorem dX12_price_71 : decode cX12_price 71 = .ok (.iinc 3 1, 3) := by decide +kernel
theorem dX12_price_74 : decode cX12_price 74 = .ok (.goto (-43), 3) := by decide +kernel
theorem dX12_price_77 : decode cX12_price 77 = .ok (.iload_n 2, 1) := by decide +kernel
theorem dX12_price_78 : decode cX12_price 78 = .ok (.ireturn, 1) := by decide +kernel
theorem dX12_laysGame_0 : decode cX12_laysGame 0 = .ok (.aload_n 0, 1) := by decide +kernel
theorem dX12_laysGame_1 : decode cX12_laysGame 1 = .ok (.invokevirtual 279, 3) := by decide +kernel
theorem dX12_laysGame_4 : decode cX12_laysGame 4 = .ok (.iconst 0, 1) := by decide +kernel
theorem dX12_laysGame_5 : decode cX12_laysGame 5 = .ok (.istore_n 1, 1) := by decide +kernel
theorem dX12_laysGame_6 : decode cX12_laysGame 6 = .ok (.iload_n 1, 1) := by decide +kernel
theorem dX12_laysGame_7 : decode cX12_laysGame 7 = .ok (.aload_n 0, 1) := by decide +kernel
theorem dX12_laysGame_8 : decode cX12_laysGame 8 = .ok (.getfield 34, 3) := by decide +kernel
theorem dX12_laysGame_11 : decode cX12_laysGame 11 = .ok (.iconst 2, 1) := by decide +kernel
theorem dX12_laysGame_12 : decode cX12_laysGame 12 = .ok (.iaload, 1) := by decide +kernel
theorem dX12_laysGame_13 : decode cX12_laysGame 13 = .ok (.if_icmp .ge 109, 3) := by decide +kernel
theorem dX12_laysGame_16 : decode cX12_laysGame 16 = .ok (.aload_n 0, 1) := by decide +kernel
theorem dX12_laysGame_17 : decode cX12_laysGame 17 = .ok (.getfield 56, 3) := by decide +kernel
theorem dX12_laysGame_20 : decode cX12_laysGame 20 = .ok (.iload_n 1, 1) := by decide +kernel
theorem dX12_laysGame_21 : decode cX12_laysGame 21 = .ok (.dup2, 1) := by decide +kernel
theorem dX12_laysGame_22 : decode cX12_laysGame 22 = .ok (.iaload, 1) := by decide +kernel
theorem dX12_laysGame_23 : decode cX12_laysGame 23 = .ok (.bipush 30, 2) := by decide +kernel
theorem dX12_laysGame_25 : decode cX12_laysGame 25 = .ok (.iadd, 1) := by decide +kernel
theorem dX12_laysGame_26 : decode cX12_laysGame 26 = .ok (.iastore, 1) := by decide +kernel
theorem dX12_laysGame_27 : decode cX12_laysGame 27 = .ok (.iconst 0, 1) := by decide +kernel
theorem dX12_laysGame_28 : decode cX12_laysGame 28 = .ok (.istore_n 2, 1) := by decide +kernel
theorem dX12_laysGame_29 : decode cX12_laysGame 29 = .ok (.iload_n 2, 1) := by decide +kernel
theorem dX12_laysGame_30 : decode cX12_laysGame 30 = .ok (.aload_n 0, 1) := by decide +kernel
theorem dX12_laysGame_31 : decode cX12_laysGame 31 = .ok (.getfield 34, 3) := by decide +kernel
theorem dX12_laysGame_34 : decode cX12_laysGame 34 = .ok (.iconst 1, 1) := by decide +kernel
theorem dX12_laysGame_35 : decode cX12_laysGame 35 = .ok (.iaload, 1) := by decide +kernel
theorem dX12_laysGame_36 : decode cX12_laysGame 36 = .ok (.if_icmp .ge 49, 3) := by decide +kernel
theorem dX12_laysGame_39 : decode cX12_laysGame 39 = .ok (.aload_n 0, 1) := by decide +kernel
theorem dX12_laysGame_40 : decode cX12_laysGame 40 = .ok (.getfield 86, 3) := by decide +kernel
theorem dX12_laysGame_43 : decode cX12_laysGame 43 = .ok (.bipush 11, 2) := by decide +kernel
theorem dX12_laysGame_45 : decode cX12_laysGame 45 = .ok (.iload_n 1, 1) := by decide +kernel
theorem dX12_laysGame_46 : decode cX12_laysGame 46 = .ok (.imul, 1) := by decide +kernel
theorem dX12_laysGame_47 : decode cX12_laysGame 47 = .ok (.iload_n 2, 1) := by decide +kernel
theorem dX12_laysGame_48 : decode cX12_laysGame 48 = .ok (.iadd, 1) := by decide +kernel
theorem dX12_laysGame_49 : decode cX12_laysGame 49 = .ok (.aload_n 0, 1) := by decide +kernel
theorem dX12_laysGame_50 : decode cX12_laysGame 50 = .ok (.getfield 262, 3) := by decide +kernel
theorem dX12_laysGame_53 : decode cX12_laysGame 53 = .ok (.iload_n 2, 1) := by decide +kernel
theorem dX12_laysGame_54 : decode cX12_laysGame 54 = .ok (.invokestatic 265, 3) := by decide +kernel
theorem dX12_laysGame_57 : decode cX12_laysGame 57 = .ok (.ifCond .eq 20, 3) := by decide +kernel
theorem dX12_laysGame_60 : decode cX12_laysGame 60 = .ok (.aload_n 0, 1) := by decide +kernel
theorem dX12_laysGame_61 : decode cX12_laysGame 61 = .ok (.aload_n 0, 1) := by decide +kernel
theorem dX12_laysGame_62 : decode cX12_laysGame 62 = .ok (.getfield 262, 3) := by decide +kernel
theorem dX12_laysGame_65 : decode cX12_laysGame 65 = .ok (.iconst 1, 1) := by decide +kernel
theorem dX12_laysGame_66 : decode cX12_laysGame 66 = .ok (.iload_n 2, 1) := by decide +kernel
theorem dX12_laysGame_67 : decode cX12_laysGame 67 = .ok (.ishl, 1) := by decide +kernel
theorem dX12_laysGame_68 : decode cX12_laysGame 68 = .ok (.iconst (-1), 1) := by decide +kernel
theorem dX12_laysGame_69 : decode cX12_laysGame 69 = .ok (.ixor, 1) := by decide +kernel
theorem dX12_laysGame_70 : decode cX12_laysGame 70 = .ok (.iand, 1) := by decide +kernel
theorem dX12_laysGame_71 : decode cX12_laysGame 71 = .ok (.invokevirtual 335, 3) := by decide +kernel
theorem dX12_laysGame_74 : decode cX12_laysGame 74 = .ok (.goto 4, 3) := by decide +kernel
theorem dX12_laysGame_77 : decode cX12_laysGame 77 = .ok (.iconst (-1), 1) := by decide +kernel
theorem dX12_laysGame_78 : decode cX12_laysGame 78 = .ok (.iastore, 1) := by decide +kernel
theorem dX12_laysGame_79 : decode cX12_laysGame 79 = .ok (.iinc 2 1, 3) := by decide +kernel
theorem dX12_laysGame_82 : decode cX12_laysGame 82 = .ok (.goto (-53), 3) := by decide +kernel
theorem dX12_laysGame_85 : decode cX12_laysGame 85 = .ok (.aload_n 0, 1) := by decide +kernel
theorem dX12_laysGame_86 : decode cX12_laysGame 86 = .ok (.getfield 86, 3) := by decide +kernel
theorem dX12_laysGame_89 : decode cX12_laysGame 89 = .ok (.bipush 11, 2) := by decide +kernel
theorem dX12_laysGame_91 : decode cX12_laysGame 91 = .ok (.iload_n 1, 1) := by decide +kernel
theorem dX12_laysGame_92 : decode cX12_laysGame 92 = .ok (.imul, 1) := by decide +kernel
theorem dX12_laysGame_93 : decode cX12_laysGame 93 = .ok (.bipush 10, 2) := by decide +kernel
theorem dX12_laysGame_95 : decode cX12_laysGame 95 = .ok (.iadd, 1) := by decide +kernel
theorem dX12_laysGame_96 : decode cX12_laysGame 96 = .ok (.aload_n 0, 1) := by decide +kernel
theorem dX12_laysGame_97 : decode cX12_laysGame 97 = .ok (.aload_n 0, 1) := by decide +kernel
theorem dX12_laysGame_98 : decode cX12_laysGame 98 = .ok (.getfield 262, 3) := by decide +kernel
theorem dX12_laysGame_101 : decode cX12_laysGame 101 = .ok (.invokevirtual 335, 3) := by decide +kernel
theorem dX12_laysGame_104 : decode cX12_laysGame 104 = .ok (.iastore, 1) := by decide +kernel
theorem dX12_laysGame_105 : decode cX12_laysGame 105 = .ok (.aload_n 0, 1) := by decide +kernel
theorem dX12_laysGame_106 : decode cX12_laysGame 106 = .ok (.getfield 56, 3) := by decide +kernel
theorem dX12_laysGame_109 : decode cX12_laysGame 109 = .ok (.iload_n 1, 1) := by decide +kernel
theorem dX12_laysGame_110 : decode cX12_laysGame 110 = .ok (.dup2, 1) := by decide +kernel
theorem dX12_laysGame_111 : decode cX12_laysGame 111 = .ok (.iaload, 1) := by decide +kernel
theorem dX12_laysGame_112 : decode cX12_laysGame 112 = .ok (.bipush 30, 2) := by decide +kernel
theorem dX12_laysGame_114 : decode cX12_laysGame 114 = .ok (.isub, 1) := by decide +kernel
theorem dX12_laysGame_115 : decode cX12_laysGame 115 = .ok (.iastore, 1) := by decide +kernel
theorem dX12_laysGame_116 : decode cX12_laysGame 116 = .ok (.iinc 1 1, 3) := by decide +kernel
theorem dX12_laysGame_119 : decode cX12_laysGame 119 = .ok (.goto (-113), 3) := by decide +kernel
theorem dX12_laysGame_122 : decode cX12_laysGame 122 = .ok (.return_, 1) := by decide +kernel
theorem dX12_rests_0 : decode cX12_rests 0 = .ok (.aload_n 0, 1) := by decide +kernel
theorem dX12_rests_1 : decode cX12_rests 1 = .ok (.iconst 0, 1) := by decide +kernel
theorem dX12_rests_2 : decode cX12_rests 2 = .ok (.putfield 92, 3) := by decide +kernel
theorem dX12_rests_5 : decode cX12_rests 5 = .ok (.aload_n 0, 1) := by decide +kernel
theorem dX12_rests_6 : decode cX12_rests 6 = .ok (.invokevirtual 311, 3) := by decide +kernel
theorem dX12_rests_9 : decode cX12_rests 9 = .ok (.ifCond .ne 6, 3) := by decide +kernel
theorem dX12_rests_12 : decode cX12_rests 12 = .ok (.bipush (-2), 2) := by decide +kernel
theorem dX12_rests_14 : decode cX12_rests 14 = .ok (.ireturn, 1) := by decide +kernel
theorem dX12_rests_15 : decode cX12_rests 15 = .ok (.aload_n 0, 1) := by decide +kernel
theorem dX12_rests_16 : decode cX12_rests 16 = .ok (.invokevirtual 397, 3) := by decide +kernel
theorem dX12_rests_19 : decode cX12_rests 19 = .ok (.iconst 0, 1) := by decide +kernel
theorem dX12_rests_20 : decode cX12_rests 20 = .ok (.istore_n 1, 1) := by decide +kernel
theorem dX12_rests_21 : decode cX12_rests 21 = .ok (.iconst 0, 1) := by decide +kernel
theorem dX12_rests_22 : decode cX12_rests 22 = .ok (.istore_n 2, 1) := by decide +kernel
theorem dX12_rests_23 : decode cX12_rests 23 = .ok (.iload_n 2, 1) := by decide +kernel
theorem dX12_rests_24 : decode cX12_rests 24 = .ok (.aload_n 0, 1) := by decide +kernel
theorem dX12_rests_25 : decode cX12_rests 25 = .ok (.getfield 34, 3) := by decide +kernel
theorem dX12_rests_28 : decode cX12_rests 28 = .ok (.iconst 2, 1) := by decide +kernel
theorem dX12_rests_29 : decode cX12_rests 29 = .ok (.iaload, 1) := by decide +kernel
theorem dX12_rests_30 : decode cX12_rests 30 = .ok (.if_icmp .ge 166, 3) := by decide +kernel
theorem dX12_rests_33 : decode cX12_rests 33 = .ok (.iconst 0, 1) := by decide +kernel
theorem dX12_rests_34 : decode cX12_rests 34 = .ok (.istore_n 3, 1) := by decide +kernel
theorem dX12_rests_35 : decode cX12_rests 35 = .ok (.iload_n 3, 1) := by decide +kernel
theorem dX12_rests_36 : decode cX12_rests 36 = .ok (.aload_n 0, 1) := by decide +kernel
theorem dX12_rests_37 : decode cX12_rests 37 = .ok (.getfield 34, 3) := by decide +kernel
theorem dX12_rests_40 : decode cX12_rests 40 = .ok (.iconst 1, 1) := by decide +kernel
theorem dX12_rests_41 : decode cX12_rests 41 = .ok (.iaload, 1) := by decide +kernel
theorem dX12_rests_42 : decode cX12_rests 42 = .ok (.if_icmp .ge 148, 3) := by decide +kernel
theorem dX12_rests_45 : decode cX12_rests 45 = .ok (.aload_n 0, 1) := by decide +kernel
theorem dX12_rests_46 : decode cX12_rests 46 = .ok (.getfield 262, 3) := by decide +kernel
theorem dX12_rests_49 : decode cX12_rests 49 = .ok (.iload_n 3, 1) := by decide +kernel
theorem dX12_rests_50 : decode cX12_rests 50 = .ok (.invokestatic 265, 3) := by decide +kernel
theorem dX12_rests_53 : decode cX12_rests 53 = .ok (.istore 4, 2) := by decide +kernel
theorem dX12_rests_55 : decode cX12_rests 55 = .ok (.iconst 0, 1) := by decide +kernel
theorem dX12_rests_56 : decode cX12_rests 56 = .ok (.istore 5, 2) := by decide +kernel
theorem dX12_rests_58 : decode cX12_rests 58 = .ok (.iload 5, 2) := by decide +kernel
theorem dX12_rests_60 : decode cX12_rests 60 = .ok (.aload_n 0, 1) := by decide +kernel
theorem dX12_rests_61 : decode cX12_rests 61 = .ok (.getfield 34, 3) := by decide +kernel
theorem dX12_rests_64 : decode cX12_rests 64 = .ok (.iconst 2, 1) := by decide +kernel
theorem dX12_rests_65 : decode cX12_rests 65 = .ok (.iaload, 1) := by decide +kernel
theorem dX12_rests_66 : decode cX12_rests 66 = .ok (.if_icmp .ge 47, 3) := by decide +kernel
theorem dX12_rests_69 : decode cX12_rests 69 = .ok (.iload 4, 2) := by decide +kernel
theorem dX12_rests_71 : decode cX12_rests 71 = .ok (.ifCond .eq 42, 3) := by decide +kernel
theorem dX12_rests_74 : decode cX12_rests 74 = .ok (.aload_n 0, 1) := by decide +kernel
theorem dX12_rests_75 : decode cX12_rests 75 = .ok (.getfield 86, 3) := by decide +kernel
theorem dX12_rests_78 : decode cX12_rests 78 = .ok (.bipush 11, 2) := by decide +kernel
theorem dX12_rests_80 : decode cX12_rests 80 = .ok (.iload 5, 2) := by decide +kernel
theorem dX12_rests_82 : decode cX12_rests 82 = .ok (.imul, 1) := by decide +kernel
theorem dX12_rests_83 : decode cX12_rests 83 = .ok (.iload_n 3, 1) := by decide +kernel
theorem dX12_rests_84 : decode cX12_rests 84 = .ok (.iadd, 1) := by decide +kernel
theorem dX12_rests_85 : decode cX12_rests 85 = .ok (.iaload, 1) := by decide +kernel
theorem dX12_rests_86 : decode cX12_rests 86 = .ok (.aload_n 0, 1) := by decide +kernel
theorem dX12_rests_87 : decode cX12_rests 87 = .ok (.getfield 86, 3) := by decide +kernel
theorem dX12_rests_90 : decode cX12_rests 90 = .ok (.bipush 11, 2) := by decide +kernel
theorem dX12_rests_92 : decode cX12_rests 92 = .ok (.iload_n 2, 1) := by decide +kernel
theorem dX12_rests_93 : decode cX12_rests 93 = .ok (.imul, 1) := by decide +kernel
theorem dX12_rests_94 : decode cX12_rests 94 = .ok (.iload_n 3, 1) := by decide +kernel
theorem dX12_rests_95 : decode cX12_rests 95 = .ok (.iadd, 1) := by decide +kernel
theorem dX12_rests_96 : decode cX12_rests 96 = .ok (.iaload, 1) := by decide +kernel
theorem dX12_rests_97 : decode cX12_rests 97 = .ok (.if_icmp .lt 7, 3) := by decide +kernel
theorem dX12_rests_100 : decode cX12_rests 100 = .ok (.iconst 1, 1) := by decide +kernel
theorem dX12_rests_101 : decode cX12_rests 101 = .ok (.goto 4, 3) := by decide +kernel
theorem dX12_rests_104 : decode cX12_rests 104 = .ok (.iconst 0, 1) := by decide +kernel
theorem dX12_rests_105 : decode cX12_rests 105 = .ok (.istore 4, 2) := by decide +kernel
theorem dX12_rests_107 : decode cX12_rests 107 = .ok (.iinc 5 1, 3) := by decide +kernel
theorem dX12_rests_110 : decode cX12_rests 110 = .ok (.goto (-52), 3) := by decide +kernel
theorem dX12_rests_113 : decode cX12_rests 113 = .ok (.iconst 0, 1) := by decide +kernel
theorem dX12_rests_114 : decode cX12_rests 114 = .ok (.istore 5, 2) := by decide +kernel
theorem dX12_rests_116 : decode cX12_rests 116 = .ok (.iload 5, 2) := by decide +kernel
theorem dX12_rests_118 : decode cX12_rests 118 = .ok (.aload_n 0, 1) := by decide +kernel
theorem dX12_rests_119 : decode cX12_rests 119 = .ok (.getfield 34, 3) := by decide +kernel
theorem dX12_rests_122 : decode cX12_rests 122 = .ok (.iconst 1, 1) := by decide +kernel
theorem dX12_rests_123 : decode cX12_rests 123 = .ok (.iaload, 1) := by decide +kernel
theorem dX12_rests_124 : decode cX12_rests 124 = .ok (.if_icmp .ge 47, 3) := by decide +kernel
theorem dX12_rests_127 : decode cX12_rests 127 = .ok (.iload 4, 2) := by decide +kernel
theorem dX12_rests_129 : decode cX12_rests 129 = .ok (.ifCond .eq 42, 3) := by decide +kernel
theorem dX12_rests_132 : decode cX12_rests 132 = .ok (.aload_n 0, 1) := by decide +kernel
theorem dX12_rests_133 : decode cX12_rests 133 = .ok (.getfield 86, 3) := by decide +kernel
theorem dX12_rests_136 : decode cX12_rests 136 = .ok (.bipush 11, 2) := by decide +kernel
theorem dX12_rests_138 : decode cX12_rests 138 = .ok (.iload_n 2, 1) := by decide +kernel
theorem dX12_rests_139 : decode cX12_rests 139 = .ok (.imul, 1) := by decide +kernel
theorem dX12_rests_140 : decode cX12_rests 140 = .ok (.iload 5, 2) := by decide +kernel
theorem dX12_rests_142 : decode cX12_rests 142 = .ok (.iadd, 1) := by decide +kernel
theorem dX12_rests_143 : decode cX12_rests 143 = .ok (.iaload, 1) := by decide +kernel
theorem dX12_rests_144 : decode cX12_rests 144 = .ok (.aload_n 0, 1) := by decide +kernel
theorem dX12_rests_145 : decode cX12_rests 145 = .ok (.getfield 86, 3) := by decide +kernel
theorem dX12_rests_148 : decode cX12_rests 148 = .ok (.bipush 11, 2) := by decide +kernel
theorem dX12_rests_150 : decode cX12_rests 150 = .ok (.iload_n 2, 1) := by decide +kernel
theorem dX12_rests_151 : decode cX12_rests 151 = .ok (.imul, 1) := by decide +kernel
