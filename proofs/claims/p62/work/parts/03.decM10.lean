theorem dX12_front_84 : decode cX12_front 84 = .ok (.if_icmp .eq 15, 3) := by decide +kernel
theorem dX12_front_87 : decode cX12_front 87 = .ok (.iload_n 3, 1) := by decide +kernel
theorem dX12_front_88 : decode cX12_front 88 = .ok (.iload 4, 2) := by decide +kernel
theorem dX12_front_90 : decode cX12_front 90 = .ok (.if_icmp .eq 9, 3) := by decide +kernel
theorem dX12_front_93 : decode cX12_front 93 = .ok (.iconst 1, 1) := by decide +kernel
theorem dX12_front_94 : decode cX12_front 94 = .ok (.iload_n 2, 1) := by decide +kernel
theorem dX12_front_95 : decode cX12_front 95 = .ok (.ishl, 1) := by decide +kernel
theorem dX12_front_96 : decode cX12_front 96 = .ok (.goto 4, 3) := by decide +kernel
theorem dX12_front_99 : decode cX12_front 99 = .ok (.iconst 0, 1) := by decide +kernel
theorem dX12_front_100 : decode cX12_front 100 = .ok (.ior, 1) := by decide +kernel
theorem dX12_front_101 : decode cX12_front 101 = .ok (.istore_n 1, 1) := by decide +kernel
theorem dX12_front_102 : decode cX12_front 102 = .ok (.iinc 2 1, 3) := by decide +kernel
theorem dX12_front_105 : decode cX12_front 105 = .ok (.goto (-82), 3) := by decide +kernel
theorem dX12_front_108 : decode cX12_front 108 = .ok (.iload_n 1, 1) := by decide +kernel
theorem dX12_front_109 : decode cX12_front 109 = .ok (.ireturn, 1) := by decide +kernel
theorem dX12_late_0 : decode cX12_late 0 = .ok (.aload_n 0, 1) := by decide +kernel
theorem dX12_late_1 : decode cX12_late 1 = .ok (.iconst 0, 1) := by decide +kernel
theorem dX12_late_2 : decode cX12_late 2 = .ok (.putfield 92, 3) := by decide +kernel
theorem dX12_late_5 : decode cX12_late 5 = .ok (.aload_n 0, 1) := by decide +kernel
theorem dX12_late_6 : decode cX12_late 6 = .ok (.iload_n 1, 1) := by decide +kernel
theorem dX12_late_7 : decode cX12_late 7 = .ok (.i2l, 1) := by decide +kernel
theorem dX12_late_8 : decode cX12_late 8 = .ok (.invokevirtual 299, 3) := by decide +kernel
theorem dX12_late_11 : decode cX12_late 11 = .ok (.ifCond .ne 6, 3) := by decide +kernel
theorem dX12_late_14 : decode cX12_late 14 = .ok (.bipush (-2), 2) := by decide +kernel
theorem dX12_late_16 : decode cX12_late 16 = .ok (.ireturn, 1) := by decide +kernel
theorem dX12_late_17 : decode cX12_late 17 = .ok (.aload_n 0, 1) := by decide +kernel
theorem dX12_late_18 : decode cX12_late 18 = .ok (.invokevirtual 326, 3) := by decide +kernel
theorem dX12_late_21 : decode cX12_late 21 = .ok (.aload_n 0, 1) := by decide +kernel
theorem dX12_late_22 : decode cX12_late 22 = .ok (.getfield 65, 3) := by decide +kernel
theorem dX12_late_25 : decode cX12_late 25 = .ok (.iload_n 1, 1) := by decide +kernel
theorem dX12_late_26 : decode cX12_late 26 = .ok (.iaload, 1) := by decide +kernel
theorem dX12_late_27 : decode cX12_late 27 = .ok (.ifCond .eq 5, 3) := by decide +kernel
theorem dX12_late_30 : decode cX12_late 30 = .ok (.iconst (-1), 1) := by decide +kernel
theorem dX12_late_31 : decode cX12_late 31 = .ok (.ireturn, 1) := by decide +kernel
theorem dX12_late_32 : decode cX12_late 32 = .ok (.aload_n 0, 1) := by decide +kernel
theorem dX12_late_33 : decode cX12_late 33 = .ok (.getfield 68, 3) := by decide +kernel
theorem dX12_late_36 : decode cX12_late 36 = .ok (.iload_n 1, 1) := by decide +kernel
theorem dX12_late_37 : decode cX12_late 37 = .ok (.iaload, 1) := by decide +kernel
theorem dX12_late_38 : decode cX12_late 38 = .ok (.aload_n 0, 1) := by decide +kernel
theorem dX12_late_39 : decode cX12_late 39 = .ok (.getfield 62, 3) := by decide +kernel
theorem dX12_late_42 : decode cX12_late 42 = .ok (.iload_n 1, 1) := by decide +kernel
theorem dX12_late_43 : decode cX12_late 43 = .ok (.iaload, 1) := by decide +kernel
theorem dX12_late_44 : decode cX12_late 44 = .ok (.isub, 1) := by decide +kernel
theorem dX12_late_45 : decode cX12_late 45 = .ok (.sipush 999, 3) := by decide +kernel
theorem dX12_late_48 : decode cX12_late 48 = .ok (.if_icmp .le 9, 3) := by decide +kernel
theorem dX12_late_51 : decode cX12_late 51 = .ok (.sipush 999, 3) := by decide +kernel
theorem dX12_late_54 : decode cX12_late 54 = .ok (.goto 16, 3) := by decide +kernel
theorem dX12_late_57 : decode cX12_late 57 = .ok (.aload_n 0, 1) := by decide +kernel
theorem dX12_late_58 : decode cX12_late 58 = .ok (.getfield 68, 3) := by decide +kernel
theorem dX12_late_61 : decode cX12_late 61 = .ok (.iload_n 1, 1) := by decide +kernel
theorem dX12_late_62 : decode cX12_late 62 = .ok (.iaload, 1) := by decide +kernel
theorem dX12_late_63 : decode cX12_late 63 = .ok (.aload_n 0, 1) := by decide +kernel
theorem dX12_late_64 : decode cX12_late 64 = .ok (.getfield 62, 3) := by decide +kernel
theorem dX12_late_67 : decode cX12_late 67 = .ok (.iload_n 1, 1) := by decide +kernel
theorem dX12_late_68 : decode cX12_late 68 = .ok (.iaload, 1) := by decide +kernel
theorem dX12_late_69 : decode cX12_late 69 = .ok (.isub, 1) := by decide +kernel
theorem dX12_late_70 : decode cX12_late 70 = .ok (.ireturn, 1) := by decide +kernel
theorem dX12_gladOf_0 : decode cX12_gladOf 0 = .ok (.aload_n 0, 1) := by decide +kernel
theorem dX12_gladOf_1 : decode cX12_gladOf 1 = .ok (.getfield 59, 3) := by decide +kernel
theorem dX12_gladOf_4 : decode cX12_gladOf 4 = .ok (.aload_n 0, 1) := by decide +kernel
theorem dX12_gladOf_5 : decode cX12_gladOf 5 = .ok (.getfield 43, 3) := by decide +kernel
theorem dX12_gladOf_8 : decode cX12_gladOf 8 = .ok (.iconst 4, 1) := by decide +kernel
theorem dX12_gladOf_9 : decode cX12_gladOf 9 = .ok (.iload_n 1, 1) := by decide +kernel
theorem dX12_gladOf_10 : decode cX12_gladOf 10 = .ok (.imul, 1) := by decide +kernel
theorem dX12_gladOf_11 : decode cX12_gladOf 11 = .ok (.iaload, 1) := by decide +kernel
theorem dX12_gladOf_12 : decode cX12_gladOf 12 = .ok (.iaload, 1) := by decide +kernel
theorem dX12_gladOf_13 : decode cX12_gladOf 13 = .ok (.istore_n 2, 1) := by decide +kernel
theorem dX12_gladOf_14 : decode cX12_gladOf 14 = .ok (.iload_n 2, 1) := by decide +kernel
theorem dX12_gladOf_15 : decode cX12_gladOf 15 = .ok (.ldc 142, 2) := by decide +kernel
theorem dX12_gladOf_17 : decode cX12_gladOf 17 = .ok (.if_icmp .lt 5, 3) := by decide +kernel
theorem dX12_gladOf_20 : decode cX12_gladOf 20 = .ok (.iconst 0, 1) := by decide +kernel
theorem dX12_gladOf_21 : decode cX12_gladOf 21 = .ok (.ireturn, 1) := by decide +kernel
theorem dX12_gladOf_22 : decode cX12_gladOf 22 = .ok (.iload_n 2, 1) := by decide +kernel
theorem dX12_gladOf_23 : decode cX12_gladOf 23 = .ok (.aload_n 0, 1) := by decide +kernel
theorem dX12_gladOf_24 : decode cX12_gladOf 24 = .ok (.getfield 43, 3) := by decide +kernel
theorem dX12_gladOf_27 : decode cX12_gladOf 27 = .ok (.iconst 4, 1) := by decide +kernel
theorem dX12_gladOf_28 : decode cX12_gladOf 28 = .ok (.iload_n 1, 1) := by decide +kernel
theorem dX12_gladOf_29 : decode cX12_gladOf 29 = .ok (.imul, 1) := by decide +kernel
theorem dX12_gladOf_30 : decode cX12_gladOf 30 = .ok (.iconst 1, 1) := by decide +kernel
theorem dX12_gladOf_31 : decode cX12_gladOf 31 = .ok (.iadd, 1) := by decide +kernel
theorem dX12_gladOf_32 : decode cX12_gladOf 32 = .ok (.iaload, 1) := by decide +kernel
theorem dX12_gladOf_33 : decode cX12_gladOf 33 = .ok (.if_icmp .le 18, 3) := by decide +kernel
theorem dX12_gladOf_36 : decode cX12_gladOf 36 = .ok (.iload_n 2, 1) := by decide +kernel
theorem dX12_gladOf_37 : decode cX12_gladOf 37 = .ok (.aload_n 0, 1) := by decide +kernel
theorem dX12_gladOf_38 : decode cX12_gladOf 38 = .ok (.getfield 43, 3) := by decide +kernel
theorem dX12_gladOf_41 : decode cX12_gladOf 41 = .ok (.iconst 4, 1) := by decide +kernel
theorem dX12_gladOf_42 : decode cX12_gladOf 42 = .ok (.iload_n 1, 1) := by decide +kernel
theorem dX12_gladOf_43 : decode cX12_gladOf 43 = .ok (.imul, 1) := by decide +kernel
theorem dX12_gladOf_44 : decode cX12_gladOf 44 = .ok (.iconst 1, 1) := by decide +kernel
theorem dX12_gladOf_45 : decode cX12_gladOf 45 = .ok (.iadd, 1) := by decide +kernel
theorem dX12_gladOf_46 : decode cX12_gladOf 46 = .ok (.iaload, 1) := by decide +kernel
theorem dX12_gladOf_47 : decode cX12_gladOf 47 = .ok (.isub, 1) := by decide +kernel
theorem dX12_gladOf_48 : decode cX12_gladOf 48 = .ok (.goto 15, 3) := by decide +kernel
theorem dX12_gladOf_51 : decode cX12_gladOf 51 = .ok (.aload_n 0, 1) := by decide +kernel
theorem dX12_gladOf_52 : decode cX12_gladOf 52 = .ok (.getfield 43, 3) := by decide +kernel
theorem dX12_gladOf_55 : decode cX12_gladOf 55 = .ok (.iconst 4, 1) := by decide +kernel
theorem dX12_gladOf_56 : decode cX12_gladOf 56 = .ok (.iload_n 1, 1) := by decide +kernel
theorem dX12_gladOf_57 : decode cX12_gladOf 57 = .ok (.imul, 1) := by decide +kernel
theorem dX12_gladOf_58 : decode cX12_gladOf 58 = .ok (.iconst 1, 1) := by decide +kernel
theorem dX12_gladOf_59 : decode cX12_gladOf 59 = .ok (.iadd, 1) := by decide +kernel
theorem dX12_gladOf_60 : decode cX12_gladOf 60 = .ok (.iaload, 1) := by decide +kernel
theorem dX12_gladOf_61 : decode cX12_gladOf 61 = .ok (.iload_n 2, 1) := by decide +kernel
theorem dX12_gladOf_62 : decode cX12_gladOf 62 = .ok (.isub, 1) := by decide +kernel
theorem dX12_gladOf_63 : decode cX12_gladOf 63 = .ok (.istore_n 3, 1) := by decide +kernel
theorem dX12_gladOf_64 : decode cX12_gladOf 64 = .ok (.aload_n 0, 1) := by decide +kernel
theorem dX12_gladOf_65 : decode cX12_gladOf 65 = .ok (.getfield 43, 3) := by decide +kernel
theorem dX12_gladOf_68 : decode cX12_gladOf 68 = .ok (.iconst 4, 1) := by decide +kernel
theorem dX12_gladOf_69 : decode cX12_gladOf 69 = .ok (.iload_n 1, 1) := by decide +kernel
theorem dX12_gladOf_70 : decode cX12_gladOf 70 = .ok (.imul, 1) := by decide +kernel
theorem dX12_gladOf_71 : decode cX12_gladOf 71 = .ok (.iconst 2, 1) := by decide +kernel
theorem dX12_gladOf_72 : decode cX12_gladOf 72 = .ok (.iadd, 1) := by decide +kernel
theorem dX12_gladOf_73 : decode cX12_gladOf 73 = .ok (.iaload, 1) := by decide +kernel
theorem dX12_gladOf_74 : decode cX12_gladOf 74 = .ok (.iload_n 3, 1) := by decide +kernel
theorem dX12_gladOf_75 : decode cX12_gladOf 75 = .ok (.if_icmp .le 18, 3) := by decide +kernel
theorem dX12_gladOf_78 : decode cX12_gladOf 78 = .ok (.aload_n 0, 1) := by decide +kernel
theorem dX12_gladOf_79 : decode cX12_gladOf 79 = .ok (.getfield 43, 3) := by decide +kernel
theorem dX12_gladOf_82 : decode cX12_gladOf 82 = .ok (.iconst 4, 1) := by decide +kernel
theorem dX12_gladOf_83 : decode cX12_gladOf 83 = .ok (.iload_n 1, 1) := by decide +kernel
theorem dX12_gladOf_84 : decode cX12_gladOf 84 = .ok (.imul, 1) := by decide +kernel
theorem dX12_gladOf_85 : decode cX12_gladOf 85 = .ok (.iconst 2, 1) := by decide +kernel
theorem dX12_gladOf_86 : decode cX12_gladOf 86 = .ok (.iadd, 1) := by decide +kernel
theorem dX12_gladOf_87 : decode cX12_gladOf 87 = .ok (.iaload, 1) := by decide +kernel
theorem dX12_gladOf_88 : decode cX12_gladOf 88 = .ok (.iload_n 3, 1) := by decide +kernel
theorem dX12_gladOf_89 : decode cX12_gladOf 89 = .ok (.isub, 1) := by decide +kernel
theorem dX12_gladOf_90 : decode cX12_gladOf 90 = .ok (.goto 4, 3) := by decide +kernel
theorem dX12_gladOf_93 : decode cX12_gladOf 93 = .ok (.iconst 0, 1) := by decide +kernel
theorem dX12_gladOf_94 : decode cX12_gladOf 94 = .ok (.ireturn, 1) := by decide +kernel
theorem dX12_gladAll_0 : decode cX12_gladAll 0 = .ok (.iconst 0, 1) := by decide +kernel
theorem dX12_gladAll_1 : decode cX12_gladAll 1 = .ok (.istore_n 1, 1) := by decide +kernel
theorem dX12_gladAll_2 : decode cX12_gladAll 2 = .ok (.iconst 0, 1) := by decide +kernel
theorem dX12_gladAll_3 : decode cX12_gladAll 3 = .ok (.istore_n 2, 1) := by decide +kernel
theorem dX12_gladAll_4 : decode cX12_gladAll 4 = .ok (.iload_n 2, 1) := by decide +kernel
theorem dX12_gladAll_5 : decode cX12_gladAll 5 = .ok (.aload_n 0, 1) := by decide +kernel
theorem dX12_gladAll_6 : decode cX12_gladAll 6 = .ok (.getfield 34, 3) := by decide +kernel
theorem dX12_gladAll_9 : decode cX12_gladAll 9 = .ok (.iconst 3, 1) := by decide +kernel
theorem dX12_gladAll_10 : decode cX12_gladAll 10 = .ok (.iaload, 1) := by decide +kernel
theorem dX12_gladAll_11 : decode cX12_gladAll 11 = .ok (.if_icmp .ge 17, 3) := by decide +kernel
theorem dX12_gladAll_14 : decode cX12_gladAll 14 = .ok (.iload_n 1, 1) := by decide +kernel
theorem dX12_gladAll_15 : decode cX12_gladAll 15 = .ok (.aload_n 0, 1) := by decide +kernel
theorem dX12_gladAll_16 : decode cX12_gladAll 16 = .ok (.iload_n 2, 1) := by decide +kernel
theorem dX12_gladAll_17 : decode cX12_gladAll 17 = .ok (.invokevirtual 329, 3) := by decide +kernel
theorem dX12_gladAll_20 : decode cX12_gladAll 20 = .ok (.iadd, 1) := by decide +kernel
theorem dX12_gladAll_21 : decode cX12_gladAll 21 = .ok (.istore_n 1, 1) := by decide +kernel
theorem dX12_gladAll_22 : decode cX12_gladAll 22 = .ok (.iinc 2 1, 3) := by decide +kernel
theorem dX12_gladAll_25 : decode cX12_gladAll 25 = .ok (.goto (-21), 3) := by decide +kernel
theorem dX12_gladAll_28 : decode cX12_gladAll 28 = .ok (.iload_n 1, 1) := by decide +kernel
theorem dX12_gladAll_29 : decode cX12_gladAll 29 = .ok (.ireturn, 1) := by decide +kernel
theorem dX12_gladBy_0 : decode cX12_gladBy 0 = .ok (.aload_n 0, 1) := by decide +kernel
theorem dX12_gladBy_1 : decode cX12_gladBy 1 = .ok (.iload_n 1, 1) := by decide +kernel
theorem dX12_gladBy_2 : decode cX12_gladBy 2 = .ok (.iconst 0, 1) := by decide +kernel
theorem dX12_gladBy_3 : decode cX12_gladBy 3 = .ok (.invokevirtual 282, 3) := by decide +kernel
theorem dX12_gladBy_6 : decode cX12_gladBy 6 = .ok (.aload_n 0, 1) := by decide +kernel
theorem dX12_gladBy_7 : decode cX12_gladBy 7 = .ok (.invokevirtual 332, 3) := by decide +kernel
theorem dX12_gladBy_10 : decode cX12_gladBy 10 = .ok (.ireturn, 1) := by decide +kernel
theorem dX12_glad_0 : decode cX12_glad 0 = .ok (.aload_n 0, 1) := by decide +kernel
theorem dX12_glad_1 : decode cX12_glad 1 = .ok (.iconst 0, 1) := by decide +kernel
theorem dX12_glad_2 : decode cX12_glad 2 = .ok (.putfield 92, 3) := by decide +kernel
theorem dX12_glad_5 : decode cX12_glad 5 = .ok (.aload_n 0, 1) := by decide +kernel
theorem dX12_glad_6 : decode cX12_glad 6 = .ok (.iload_n 1, 1) := by decide +kernel
theorem dX12_glad_7 : decode cX12_glad 7 = .ok (.invokevirtual 296, 3) := by decide +kernel
theorem dX12_glad_10 : decode cX12_glad 10 = .ok (.ifCond .ne 6, 3) := by decide +kernel
theorem dX12_glad_13 : decode cX12_glad 13 = .ok (.bipush (-2), 2) := by decide +kernel
theorem dX12_glad_15 : decode cX12_glad 15 = .ok (.ireturn, 1) := by decide +kernel
theorem dX12_glad_16 : decode cX12_glad 16 = .ok (.aload_n 0, 1) := by decide +kernel
theorem dX12_glad_17 : decode cX12_glad 17 = .ok (.invokevirtual 302, 3) := by decide +kernel
theorem dX12_glad_20 : decode cX12_glad 20 = .ok (.aload_n 0, 1) := by decide +kernel
theorem dX12_glad_21 : decode cX12_glad 21 = .ok (.iload_n 1, 1) := by decide +kernel
theorem dX12_glad_22 : decode cX12_glad 22 = .ok (.invokevirtual 329, 3) := by decide +kernel
theorem dX12_glad_25 : decode cX12_glad 25 = .ok (.ireturn, 1) := by decide +kernel
theorem dX12_all_0 : decode cX12_all 0 = .ok (.aload_n 0, 1) := by decide +kernel
theorem dX12_all_1 : decode cX12_all 1 = .ok (.iconst 0, 1) := by decide +kernel
theorem dX12_all_2 : decode cX12_all 2 = .ok (.putfield 92, 3) := by decide +kernel
theorem dX12_all_5 : decode cX12_all 5 = .ok (.aload_n 0, 1) := by decide +kernel
theorem dX12_all_6 : decode cX12_all 6 = .ok (.invokevirtual 311, 3) := by decide +kernel
theorem dX12_all_9 : decode cX12_all 9 = .ok (.ifCond .ne 6, 3) := by decide +kernel
theorem dX12_all_12 : decode cX12_all 12 = .ok (.bipush (-2), 2) := by decide +kernel
theorem dX12_all_14 : decode cX12_all 14 = .ok (.ireturn, 1) := by decide +kernel
theorem dX12_all_15 : decode cX12_all 15 = .ok (.aload_n 0, 1) := by decide +kernel
theorem dX12_all_16 : decode cX12_all 16 = .ok (.invokevirtual 302, 3) := by decide +kernel
theorem dX12_all_19 : decode cX12_all 19 = .ok (.aload_n 0, 1) := by decide +kernel
theorem dX12_all_20 : decode cX12_all 20 = .ok (.invokevirtual 332, 3) := by decide +kernel
theorem dX12_all_23 : decode cX12_all 23 = .ok (.ireturn, 1) := by decide +kernel
theorem dX12_gladdest_0 : decode cX12_gladdest 0 = .ok (.aload_n 0, 1) := by decide +kernel
theorem dX12_gladdest_1 : decode cX12_gladdest 1 = .ok (.iconst 0, 1) := by decide +kernel
theorem dX12_gladdest_2 : decode cX12_gladdest 2 = .ok (.putfield 92, 3) := by decide +kernel
theorem dX12_gladdest_5 : decode cX12_gladdest 5 = .ok (.aload_n 0, 1) := by decide +kernel
theorem dX12_gladdest_6 : decode cX12_gladdest 6 = .ok (.invokevirtual 311, 3) := by decide +kernel
theorem dX12_gladdest_9 : decode cX12_gladdest 9 = .ok (.ifCond .ne 6, 3) := by decide +kernel
theorem dX12_gladdest_12 : decode cX12_gladdest 12 = .ok (.bipush (-2), 2) := by decide +kernel
theorem dX12_gladdest_14 : decode cX12_gladdest 14 = .ok (.ireturn, 1) := by decide +kernel
theorem dX12_gladdest_15 : decode cX12_gladdest 15 = .ok (.aload_n 0, 1) := by decide +kernel
theorem dX12_gladdest_16 : decode cX12_gladdest 16 = .ok (.invokevirtual 302, 3) := by decide +kernel
theorem dX12_gladdest_19 : decode cX12_gladdest 19 = .ok (.iconst (-1), 1) := by decide +kernel
theorem dX12_gladdest_20 : decode cX12_gladdest 20 = .ok (.istore_n 1, 1) := by decide +kernel
theorem dX12_gladdest_21 : decode cX12_gladdest 21 = .ok (.iconst 0, 1) := by decide +kernel
theorem dX12_gladdest_22 : decode cX12_gladdest 22 = .ok (.istore_n 2, 1) := by decide +kernel
theorem dX12_gladdest_23 : decode cX12_gladdest 23 = .ok (.iconst 0, 1) := by decide +kernel
theorem dX12_gladdest_24 : decode cX12_gladdest 24 = .ok (.istore_n 3, 1) := by decide +kernel
theorem dX12_gladdest_25 : decode cX12_gladdest 25 = .ok (.iload_n 3, 1) := by decide +kernel
theorem dX12_gladdest_26 : decode cX12_gladdest 26 = .ok (.aload_n 0, 1) := by decide +kernel
theorem dX12_gladdest_27 : decode cX12_gladdest 27 = .ok (.getfield 34, 3) := by decide +kernel
theorem dX12_gladdest_30 : decode cX12_gladdest 30 = .ok (.iconst 3, 1) := by decide +kernel
theorem dX12_gladdest_31 : decode cX12_gladdest 31 = .ok (.iaload, 1) := by decide +kernel
theorem dX12_gladdest_32 : decode cX12_gladdest 32 = .ok (.if_icmp .ge 30, 3) := by decide +kernel
theorem dX12_gladdest_35 : decode cX12_gladdest 35 = .ok (.aload_n 0, 1) := by decide +kernel
theorem dX12_gladdest_36 : decode cX12_gladdest 36 = .ok (.iload_n 3, 1) := by decide +kernel
theorem dX12_gladdest_37 : decode cX12_gladdest 37 = .ok (.invokevirtual 329, 3) := by decide +kernel
theorem dX12_gladdest_40 : decode cX12_gladdest 40 = .ok (.istore 4, 2) := by decide +kernel
theorem dX12_gladdest_42 : decode cX12_gladdest 42 = .ok (.iload 4, 2) := by decide +kernel
theorem dX12_gladdest_44 : decode cX12_gladdest 44 = .ok (.iload_n 2, 1) := by decide +kernel
theorem dX12_gladdest_45 : decode cX12_gladdest 45 = .ok (.if_icmp .gt 6, 3) := by decide +kernel
theorem dX12_gladdest_48 : decode cX12_gladdest 48 = .ok (.goto 8, 3) := by decide +kernel
theorem dX12_gladdest_51 : decode cX12_gladdest 51 = .ok (.iload_n 3, 1) := by decide +kernel
theorem dX12_gladdest_52 : decode cX12_gladdest 52 = .ok (.istore_n 1, 1) := by decide +kernel
theorem dX12_gladdest_53 : decode cX12_gladdest 53 = .ok (.iload 4, 2) := by decide +kernel
theorem dX12_gladdest_55 : decode cX12_gladdest 55 = .ok (.istore_n 2, 1) := by decide +kernel
theorem dX12_gladdest_56 : decode cX12_gladdest 56 = .ok (.iinc 3 1, 3) := by decide +kernel
theorem dX12_gladdest_59 : decode cX12_gladdest 59 = .ok (.goto (-34), 3) := by decide +kernel
theorem dX12_gladdest_62 : decode cX12_gladdest 62 = .ok (.iload_n 1, 1) := by decide +kernel
theorem dX12_gladdest_63 : decode cX12_gladdest 63 = .ok (.ireturn, 1) := by decide +kernel
theorem dX12_changesOf_0 : decode cX12_changesOf 0 = .ok (.iconst 0, 1) := by decide +kernel
theorem dX12_changesOf_1 : decode cX12_changesOf 1 = .ok (.istore_n 3, 1) := by decide +kernel
theorem dX12_changesOf_2 : decode cX12_changesOf 2 = .ok (.aload_n 0, 1) := by decide +kernel
theorem dX12_changesOf_3 : decode cX12_changesOf 3 = .ok (.aload_n 0, 1) := by decide +kernel
theorem dX12_changesOf_4 : decode cX12_changesOf 4 = .ok (.aload_n 0, 1) := by decide +kernel
theorem dX12_changesOf_5 : decode cX12_changesOf 5 = .ok (.getfield 262, 3) := by decide +kernel
theorem dX12_changesOf_8 : decode cX12_changesOf 8 = .ok (.invokevirtual 335, 3) := by decide +kernel
theorem dX12_changesOf_11 : decode cX12_changesOf 11 = .ok (.putfield 338, 3) := by decide +kernel
theorem dX12_changesOf_14 : decode cX12_changesOf 14 = .ok (.iconst 1, 1) := by decide +kernel
theorem dX12_changesOf_15 : decode cX12_changesOf 15 = .ok (.istore 4, 2) := by decide +kernel
theorem dX12_changesOf_17 : decode cX12_changesOf 17 = .ok (.iload 4, 2) := by decide +kernel
theorem dX12_changesOf_19 : decode cX12_changesOf 19 = .ok (.iload_n 1, 1) := by decide +kernel
theorem dX12_changesOf_20 : decode cX12_changesOf 20 = .ok (.if_icmp .gt 85, 3) := by decide +kernel
theorem dX12_changesOf_23 : decode cX12_changesOf 23 = .ok (.iload 4, 2) := by decide +kernel
theorem dX12_changesOf_25 : decode cX12_changesOf 25 = .ok (.iload_n 1, 1) := by decide +kernel
theorem dX12_changesOf_26 : decode cX12_changesOf 26 = .ok (.iconst (-1), 1) := by decide +kernel
theorem dX12_changesOf_27 : decode cX12_changesOf 27 = .ok (.ixor, 1) := by decide +kernel
theorem dX12_changesOf_28 : decode cX12_changesOf 28 = .ok (.iand, 1) := by decide +kernel
theorem dX12_changesOf_29 : decode cX12_changesOf 29 = .ok (.ifCond .ne 70, 3) := by decide +kernel
theorem dX12_changesOf_32 : decode cX12_changesOf 32 = .ok (.iload 4, 2) := by decide +kernel
theorem dX12_changesOf_34 : decode cX12_changesOf 34 = .ok (.invokestatic 341, 3) := by decide +kernel
theorem dX12_changesOf_37 : decode cX12_changesOf 37 = .ok (.iload_n 2, 1) := by decide +kernel
theorem dX12_changesOf_38 : decode cX12_changesOf 38 = .ok (.if_icmp .le 6, 3) := by decide +kernel
theorem dX12_changesOf_41 : decode cX12_changesOf 41 = .ok (.goto 58, 3) := by decide +kernel
theorem dX12_changesOf_44 : decode cX12_changesOf 44 = .ok (.aload_n 0, 1) := by decide +kernel
theorem dX12_changesOf_45 : decode cX12_changesOf 45 = .ok (.aload_n 0, 1) := by decide +kernel
theorem dX12_changesOf_46 : decode cX12_changesOf 46 = .ok (.getfield 262, 3) := by decide +kernel
theorem dX12_changesOf_49 : decode cX12_changesOf 49 = .ok (.iload 4, 2) := by decide +kernel
theorem dX12_changesOf_51 : decode cX12_changesOf 51 = .ok (.ixor, 1) := by decide +kernel
theorem dX12_changesOf_52 : decode cX12_changesOf 52 = .ok (.invokevirtual 335, 3) := by decide +kernel
theorem dX12_changesOf_55 : decode cX12_changesOf 55 = .ok (.istore 5, 2) := by decide +kernel
theorem dX12_changesOf_57 : decode cX12_changesOf 57 = .ok (.iload 5, 2) := by decide +kernel
theorem dX12_changesOf_59 : decode cX12_changesOf 59 = .ok (.aload_n 0, 1) := by decide +kernel
theorem dX12_changesOf_60 : decode cX12_changesOf 60 = .ok (.getfield 338, 3) := by decide +kernel
theorem dX12_changesOf_63 : decode cX12_changesOf 63 = .ok (.if_icmp .lt 36, 3) := by decide +kernel
theorem dX12_changesOf_66 : decode cX12_changesOf 66 = .ok (.iload 5, 2) := by decide +kernel
theorem dX12_changesOf_68 : decode cX12_changesOf 68 = .ok (.aload_n 0, 1) := by decide +kernel
theorem dX12_changesOf_69 : decode cX12_changesOf 69 = .ok (.getfield 338, 3) := by decide +kernel
theorem dX12_changesOf_72 : decode cX12_changesOf 72 = .ok (.if_icmp .ne 18, 3) := by decide +kernel
theorem dX12_changesOf_75 : decode cX12_changesOf 75 = .ok (.iload 4, 2) := by decide +kernel
theorem dX12_changesOf_77 : decode cX12_changesOf 77 = .ok (.invokestatic 341, 3) := by decide +kernel
theorem dX12_changesOf_80 : decode cX12_changesOf 80 = .ok (.iload_n 3, 1) := by decide +kernel
theorem dX12_changesOf_81 : decode cX12_changesOf 81 = .ok (.invokestatic 341, 3) := by decide +kernel
theorem dX12_changesOf_84 : decode cX12_changesOf 84 = .ok (.if_icmp .lt 6, 3) := by decide +kernel
theorem dX12_changesOf_87 : decode cX12_changesOf 87 = .ok (.goto 12, 3) := by decide +kernel
theorem dX12_changesOf_90 : decode cX12_changesOf 90 = .ok (.iload 4, 2) := by decide +kernel
theorem dX12_changesOf_92 : decode cX12_changesOf 92 = .ok (.istore_n 3, 1) := by decide +kernel
theorem dX12_changesOf_93 : decode cX12_changesOf 93 = .ok (.aload_n 0, 1) := by decide +kernel
theorem dX12_changesOf_94 : decode cX12_changesOf 94 = .ok (.iload 5, 2) := by decide +kernel
theorem dX12_changesOf_96 : decode cX12_changesOf 96 = .ok (.putfield 338, 3) := by decide +kernel
theorem dX12_changesOf_99 : decode cX12_changesOf 99 = .ok (.iinc 4 1, 3) := by decide +kernel
theorem dX12_changesOf_102 : decode cX12_changesOf 102 = .ok (.goto (-85), 3) := by decide +kernel
theorem dX12_changesOf_105 : decode cX12_changesOf 105 = .ok (.iload_n 3, 1) := by decide +kernel
theorem dX12_changesOf_106 : decode cX12_changesOf 106 = .ok (.ireturn, 1) := by decide +kernel
theorem dX12_isChange_0 : decode cX12_isChange 0 = .ok (.aload_n 0, 1) := by decide +kernel
theorem dX12_isChange_1 : decode cX12_isChange 1 = .ok (.invokevirtual 311, 3) := by decide +kernel
theorem dX12_isChange_4 : decode cX12_isChange 4 = .ok (.ifCond .eq 15, 3) := by decide +kernel
theorem dX12_isChange_7 : decode cX12_isChange 7 = .ok (.iload_n 1, 1) := by decide +kernel
theorem dX12_isChange_8 : decode cX12_isChange 8 = .ok (.i2l, 1) := by decide +kernel
theorem dX12_isChange_9 : decode cX12_isChange 9 = .ok (.lconst 0, 1) := by decide +kernel
theorem dX12_isChange_10 : decode cX12_isChange 10 = .ok (.ldc2_w 95, 3) := by decide +kernel
theorem dX12_isChange_13 : decode cX12_isChange 13 = .ok (.invokestatic 97, 3) := by decide +kernel
theorem dX12_isChange_16 : decode cX12_isChange 16 = .ok (.ifCond .ne 5, 3) := by decide +kernel
theorem dX12_isChange_19 : decode cX12_isChange 19 = .ok (.iconst 0, 1) := by decide +kernel
theorem dX12_isChange_20 : decode cX12_isChange 20 = .ok (.ireturn, 1) := by decide +kernel
theorem dX12_isChange_21 : decode cX12_isChange 21 = .ok (.aload_n 0, 1) := by decide +kernel
theorem dX12_isChange_22 : decode cX12_isChange 22 = .ok (.invokevirtual 279, 3) := by decide +kernel
theorem dX12_isChange_25 : decode cX12_isChange 25 = .ok (.iconst 1, 1) := by decide +kernel
theorem dX12_isChange_26 : decode cX12_isChange 26 = .ok (.ireturn, 1) := by decide +kernel
theorem dX12_best_0 : decode cX12_best 0 = .ok (.aload_n 0, 1) := by decide +kernel
theorem dX12_best_1 : decode cX12_best 1 = .ok (.iconst 0, 1) := by decide +kernel
theorem dX12_best_2 : decode cX12_best 2 = .ok (.putfield 92, 3) := by decide +kernel
theorem dX12_best_5 : decode cX12_best 5 = .ok (.aload_n 0, 1) := by decide +kernel
theorem dX12_best_6 : decode cX12_best 6 = .ok (.iload_n 1, 1) := by decide +kernel
theorem dX12_best_7 : decode cX12_best 7 = .ok (.invokevirtual 344, 3) := by decide +kernel
theorem dX12_best_10 : decode cX12_best 10 = .ok (.ifCond .ne 6, 3) := by decide +kernel
theorem dX12_best_13 : decode cX12_best 13 = .ok (.bipush (-2), 2) := by decide +kernel
theorem dX12_best_15 : decode cX12_best 15 = .ok (.ireturn, 1) := by decide +kernel
theorem dX12_best_16 : decode cX12_best 16 = .ok (.aload_n 0, 1) := by decide +kernel
theorem dX12_best_17 : decode cX12_best 17 = .ok (.aload_n 0, 1) := by decide +kernel
theorem dX12_best_18 : decode cX12_best 18 = .ok (.getfield 262, 3) := by decide +kernel
theorem dX12_best_21 : decode cX12_best 21 = .ok (.iload_n 1, 1) := by decide +kernel
theorem dX12_best_22 : decode cX12_best 22 = .ok (.invokevirtual 347, 3) := by decide +kernel
theorem dX12_best_25 : decode cX12_best 25 = .ok (.pop, 1) := by decide +kernel
theorem dX12_best_26 : decode cX12_best 26 = .ok (.aload_n 0, 1) := by decide +kernel
theorem dX12_best_27 : decode cX12_best 27 = .ok (.getfield 338, 3) := by decide +kernel
theorem dX12_best_30 : decode cX12_best 30 = .ok (.ireturn, 1) := by decide +kernel
theorem dX12_bars_0 : decode cX12_bars 0 = .ok (.aload_n 0, 1) := by decide +kernel
theorem dX12_bars_1 : decode cX12_bars 1 = .ok (.iconst 0, 1) := by decide +kernel
theorem dX12_bars_2 : decode cX12_bars 2 = .ok (.putfield 92, 3) := by decide +kernel
theorem dX12_bars_5 : decode cX12_bars 5 = .ok (.aload_n 0, 1) := by decide +kernel
theorem dX12_bars_6 : decode cX12_bars 6 = .ok (.iload_n 1, 1) := by decide +kernel
theorem dX12_bars_7 : decode cX12_bars 7 = .ok (.invokevirtual 344, 3) := by decide +kernel
theorem dX12_bars_10 : decode cX12_bars 10 = .ok (.ifCond .eq 15, 3) := by decide +kernel
theorem dX12_bars_13 : decode cX12_bars 13 = .ok (.aload_n 0, 1) := by decide +kernel
theorem dX12_bars_14 : decode cX12_bars 14 = .ok (.aload_n 0, 1) := by decide +kernel
theorem dX12_bars_15 : decode cX12_bars 15 = .ok (.getfield 262, 3) := by decide +kernel
theorem dX12_bars_18 : decode cX12_bars 18 = .ok (.iload_n 1, 1) := by decide +kernel
theorem dX12_bars_19 : decode cX12_bars 19 = .ok (.invokevirtual 347, 3) := by decide +kernel
theorem dX12_bars_22 : decode cX12_bars 22 = .ok (.goto 5, 3) := by decide +kernel
theorem dX12_bars_25 : decode cX12_bars 25 = .ok (.bipush (-2), 2) := by decide +kernel
theorem dX12_bars_27 : decode cX12_bars 27 = .ok (.ireturn, 1) := by decide +kernel
theorem dX12_opens_0 : decode cX12_opens 0 = .ok (.aload_n 0, 1) := by decide +kernel
theorem dX12_opens_1 : decode cX12_opens 1 = .ok (.iconst 0, 1) := by decide +kernel
theorem dX12_opens_2 : decode cX12_opens 2 = .ok (.putfield 92, 3) := by decide +kernel
theorem dX12_opens_5 : decode cX12_opens 5 = .ok (.aload_n 0, 1) := by decide +kernel
theorem dX12_opens_6 : decode cX12_opens 6 = .ok (.iload_n 1, 1) := by decide +kernel
theorem dX12_opens_7 : decode cX12_opens 7 = .ok (.invokevirtual 344, 3) := by decide +kernel
theorem dX12_opens_10 : decode cX12_opens 10 = .ok (.ifCond .ne 6, 3) := by decide +kernel
theorem dX12_opens_13 : decode cX12_opens 13 = .ok (.bipush (-2), 2) := by decide +kernel
theorem dX12_opens_15 : decode cX12_opens 15 = .ok (.ireturn, 1) := by decide +kernel
theorem dX12_opens_16 : decode cX12_opens 16 = .ok (.aload_n 0, 1) := by decide +kernel
theorem dX12_opens_17 : decode cX12_opens 17 = .ok (.iconst 1, 1) := by decide +kernel
theorem dX12_opens_18 : decode cX12_opens 18 = .ok (.aload_n 0, 1) := by decide +kernel
theorem dX12_opens_19 : decode cX12_opens 19 = .ok (.getfield 34, 3) := by decide +kernel
theorem dX12_opens_22 : decode cX12_opens 22 = .ok (.iconst 1, 1) := by decide +kernel
theorem dX12_opens_23 : decode cX12_opens 23 = .ok (.iaload, 1) := by decide +kernel
theorem dX12_opens_24 : decode cX12_opens 24 = .ok (.ishl, 1) := by decide +kernel
theorem dX12_opens_25 : decode cX12_opens 25 = .ok (.iconst 1, 1) := by decide +kernel
theorem dX12_opens_26 : decode cX12_opens 26 = .ok (.isub, 1) := by decide +kernel
theorem dX12_opens_27 : decode cX12_opens 27 = .ok (.aload_n 0, 1) := by decide +kernel
theorem dX12_opens_28 : decode cX12_opens 28 = .ok (.getfield 262, 3) := by decide +kernel
theorem dX12_opens_31 : decode cX12_opens 31 = .ok (.iconst (-1), 1) := by decide +kernel
theorem dX12_opens_32 : decode cX12_opens 32 = .ok (.ixor, 1) := by decide +kernel
theorem dX12_opens_33 : decode cX12_opens 33 = .ok (.iand, 1) := by decide +kernel
theorem dX12_opens_34 : decode cX12_opens 34 = .ok (.iload_n 1, 1) := by decide +kernel
theorem dX12_opens_35 : decode cX12_opens 35 = .ok (.invokevirtual 347, 3) := by decide +kernel
theorem dX12_opens_38 : decode cX12_opens 38 = .ok (.pop, 1) := by decide +kernel
theorem dX12_opens_39 : decode cX12_opens 39 = .ok (.aload_n 0, 1) := by decide +kernel
theorem dX12_opens_40 : decode cX12_opens 40 = .ok (.getfield 338, 3) := by decide +kernel
theorem dX12_opens_43 : decode cX12_opens 43 = .ok (.ireturn, 1) := by decide +kernel
theorem dX12_cutsOf_0 : decode cX12_cutsOf 0 = .ok (.aload_n 0, 1) := by decide +kernel
theorem dX12_cutsOf_1 : decode cX12_cutsOf 1 = .ok (.invokevirtual 279, 3) := by decide +kernel
theorem dX12_cutsOf_4 : decode cX12_cutsOf 4 = .ok (.iconst (-1), 1) := by decide +kernel
theorem dX12_cutsOf_5 : decode cX12_cutsOf 5 = .ok (.istore_n 3, 1) := by decide +kernel
theorem dX12_cutsOf_6 : decode cX12_cutsOf 6 = .ok (.iconst 0, 1) := by decide +kernel
theorem dX12_cutsOf_7 : decode cX12_cutsOf 7 = .ok (.istore 4, 2) := by decide +kernel
theorem dX12_cutsOf_9 : decode cX12_cutsOf 9 = .ok (.iload 4, 2) := by decide +kernel
theorem dX12_cutsOf_11 : decode cX12_cutsOf 11 = .ok (.aload_n 0, 1) := by decide +kernel
theorem dX12_cutsOf_12 : decode cX12_cutsOf 12 = .ok (.getfield 262, 3) := by decide +kernel
theorem dX12_cutsOf_15 : decode cX12_cutsOf 15 = .ok (.if_icmp .gt 68, 3) := by decide +kernel
theorem dX12_cutsOf_18 : decode cX12_cutsOf 18 = .ok (.iload 4, 2) := by decide +kernel
theorem dX12_cutsOf_20 : decode cX12_cutsOf 20 = .ok (.aload_n 0, 1) := by decide +kernel
theorem dX12_cutsOf_21 : decode cX12_cutsOf 21 = .ok (.getfield 262, 3) := by decide +kernel
theorem dX12_cutsOf_24 : decode cX12_cutsOf 24 = .ok (.iconst (-1), 1) := by decide +kernel
theorem dX12_cutsOf_25 : decode cX12_cutsOf 25 = .ok (.ixor, 1) := by decide +kernel
theorem dX12_cutsOf_26 : decode cX12_cutsOf 26 = .ok (.iand, 1) := by decide +kernel
theorem dX12_cutsOf_27 : decode cX12_cutsOf 27 = .ok (.ifCond .ne 50, 3) := by decide +kernel
theorem dX12_cutsOf_30 : decode cX12_cutsOf 30 = .ok (.iload_n 3, 1) := by decide +kernel
theorem dX12_cutsOf_31 : decode cX12_cutsOf 31 = .ok (.iconst (-1), 1) := by decide +kernel
theorem dX12_cutsOf_32 : decode cX12_cutsOf 32 = .ok (.if_icmp .eq 18, 3) := by decide +kernel
theorem dX12_cutsOf_35 : decode cX12_cutsOf 35 = .ok (.iload 4, 2) := by decide +kernel
theorem dX12_cutsOf_37 : decode cX12_cutsOf 37 = .ok (.invokestatic 341, 3) := by decide +kernel
theorem dX12_cutsOf_40 : decode cX12_cutsOf 40 = .ok (.iload_n 3, 1) := by decide +kernel
theorem dX12_cutsOf_41 : decode cX12_cutsOf 41 = .ok (.invokestatic 341, 3) := by decide +kernel
theorem dX12_cutsOf_44 : decode cX12_cutsOf 44 = .ok (.if_icmp .lt 6, 3) := by decide +kernel
theorem dX12_cutsOf_47 : decode cX12_cutsOf 47 = .ok (.goto 30, 3) := by decide +kernel
theorem dX12_cutsOf_50 : decode cX12_cutsOf 50 = .ok (.aload_n 0, 1) := by decide +kernel
theorem dX12_cutsOf_51 : decode cX12_cutsOf 51 = .ok (.aload_n 0, 1) := by decide +kernel
theorem dX12_cutsOf_52 : decode cX12_cutsOf 52 = .ok (.getfield 262, 3) := by decide +kernel
theorem dX12_cutsOf_55 : decode cX12_cutsOf 55 = .ok (.iload 4, 2) := by decide +kernel
theorem dX12_cutsOf_57 : decode cX12_cutsOf 57 = .ok (.iconst (-1), 1) := by decide +kernel
theorem dX12_cutsOf_58 : decode cX12_cutsOf 58 = .ok (.ixor, 1) := by decide +kernel
theorem dX12_cutsOf_59 : decode cX12_cutsOf 59 = .ok (.iand, 1) := by decide +kernel
theorem dX12_cutsOf_60 : decode cX12_cutsOf 60 = .ok (.iconst 0, 1) := by decide +kernel
theorem dX12_cutsOf_61 : decode cX12_cutsOf 61 = .ok (.invokevirtual 282, 3) := by decide +kernel
theorem dX12_cutsOf_64 : decode cX12_cutsOf 64 = .ok (.aload_n 0, 1) := by decide +kernel
theorem dX12_cutsOf_65 : decode cX12_cutsOf 65 = .ok (.getfield 59, 3) := by decide +kernel
theorem dX12_cutsOf_68 : decode cX12_cutsOf 68 = .ok (.iload_n 1, 1) := by decide +kernel
theorem dX12_cutsOf_69 : decode cX12_cutsOf 69 = .ok (.iaload, 1) := by decide +kernel
theorem dX12_cutsOf_70 : decode cX12_cutsOf 70 = .ok (.iload_n 2, 1) := by decide +kernel
theorem dX12_cutsOf_71 : decode cX12_cutsOf 71 = .ok (.if_icmp .lt 6, 3) := by decide +kernel
theorem dX12_cutsOf_74 : decode cX12_cutsOf 74 = .ok (.iload 4, 2) := by decide +kernel
theorem dX12_cutsOf_76 : decode cX12_cutsOf 76 = .ok (.istore_n 3, 1) := by decide +kernel
theorem dX12_cutsOf_77 : decode cX12_cutsOf 77 = .ok (.iinc 4 1, 3) := by decide +kernel
theorem dX12_cutsOf_80 : decode cX12_cutsOf 80 = .ok (.goto (-71), 3) := by decide +kernel
theorem dX12_cutsOf_83 : decode cX12_cutsOf 83 = .ok (.iload_n 3, 1) := by decide +kernel
theorem dX12_cutsOf_84 : decode cX12_cutsOf 84 = .ok (.ireturn, 1) := by decide +kernel
theorem dX12_cut__0 : decode cX12_cut_ 0 = .ok (.aload_n 0, 1) := by decide +kernel
theorem dX12_cut__1 : decode cX12_cut_ 1 = .ok (.iconst 0, 1) := by decide +kernel
theorem dX12_cut__2 : decode cX12_cut_ 2 = .ok (.putfield 92, 3) := by decide +kernel
theorem dX12_cut__5 : decode cX12_cut_ 5 = .ok (.aload_n 0, 1) := by decide +kernel
theorem dX12_cut__6 : decode cX12_cut_ 6 = .ok (.iload_n 1, 1) := by decide +kernel
theorem dX12_cut__7 : decode cX12_cut_ 7 = .ok (.i2l, 1) := by decide +kernel
theorem dX12_cut__8 : decode cX12_cut_ 8 = .ok (.invokevirtual 299, 3) := by decide +kernel
theorem dX12_cut__11 : decode cX12_cut_ 11 = .ok (.ifCond .eq 15, 3) := by decide +kernel
theorem dX12_cut__14 : decode cX12_cut_ 14 = .ok (.iload_n 2, 1) := by decide +kernel
theorem dX12_cut__15 : decode cX12_cut_ 15 = .ok (.i2l, 1) := by decide +kernel
theorem dX12_cut__16 : decode cX12_cut_ 16 = .ok (.lconst 0, 1) := by decide +kernel
theorem dX12_cut__17 : decode cX12_cut_ 17 = .ok (.ldc2_w 350, 3) := by decide +kernel
theorem dX12_cut__20 : decode cX12_cut_ 20 = .ok (.invokestatic 97, 3) := by decide +kernel
theorem dX12_cut__23 : decode cX12_cut_ 23 = .ok (.ifCond .ne 6, 3) := by decide +kernel
theorem dX12_cut__26 : decode cX12_cut_ 26 = .ok (.bipush (-2), 2) := by decide +kernel
theorem dX12_cut__28 : decode cX12_cut_ 28 = .ok (.ireturn, 1) := by decide +kernel
theorem dX12_cut__29 : decode cX12_cut_ 29 = .ok (.aload_n 0, 1) := by decide +kernel
theorem dX12_cut__30 : decode cX12_cut_ 30 = .ok (.iload_n 1, 1) := by decide +kernel
theorem dX12_cut__31 : decode cX12_cut_ 31 = .ok (.iload_n 2, 1) := by decide +kernel
theorem dX12_cut__32 : decode cX12_cut_ 32 = .ok (.invokevirtual 352, 3) := by decide +kernel
theorem dX12_cut__35 : decode cX12_cut_ 35 = .ok (.istore_n 3, 1) := by decide +kernel
theorem dX12_cut__36 : decode cX12_cut_ 36 = .ok (.iload_n 3, 1) := by decide +kernel
theorem dX12_cut__37 : decode cX12_cut_ 37 = .ok (.iconst (-1), 1) := by decide +kernel
theorem dX12_cut__38 : decode cX12_cut_ 38 = .ok (.if_icmp .ne 7, 3) := by decide +kernel
theorem dX12_cut__41 : decode cX12_cut_ 41 = .ok (.iconst (-1), 1) := by decide +kernel
theorem dX12_cut__42 : decode cX12_cut_ 42 = .ok (.goto 7, 3) := by decide +kernel
theorem dX12_cut__45 : decode cX12_cut_ 45 = .ok (.iload_n 3, 1) := by decide +kernel
theorem dX12_cut__46 : decode cX12_cut_ 46 = .ok (.invokestatic 341, 3) := by decide +kernel
theorem dX12_cut__49 : decode cX12_cut_ 49 = .ok (.ireturn, 1) := by decide +kernel
theorem dX12_cuts_0 : decode cX12_cuts 0 = .ok (.aload_n 0, 1) := by decide +kernel
theorem dX12_cuts_1 : decode cX12_cuts 1 = .ok (.iconst 0, 1) := by decide +kernel
theorem dX12_cuts_2 : decode cX12_cuts 2 = .ok (.putfield 92, 3) := by decide +kernel
theorem dX12_cuts_5 : decode cX12_cuts 5 = .ok (.aload_n 0, 1) := by decide +kernel
theorem dX12_cuts_6 : decode cX12_cuts 6 = .ok (.iload_n 1, 1) := by decide +kernel
theorem dX12_cuts_7 : decode cX12_cuts 7 = .ok (.i2l, 1) := by decide +kernel
theorem dX12_cuts_8 : decode cX12_cuts 8 = .ok (.invokevirtual 299, 3) := by decide +kernel
theorem dX12_cuts_11 : decode cX12_cuts 11 = .ok (.ifCond .eq 24, 3) := by decide +kernel
theorem dX12_cuts_14 : decode cX12_cuts 14 = .ok (.iload_n 2, 1) := by decide +kernel
theorem dX12_cuts_15 : decode cX12_cuts 15 = .ok (.i2l, 1) := by decide +kernel
theorem dX12_cuts_16 : decode cX12_cuts 16 = .ok (.lconst 0, 1) := by decide +kernel
theorem dX12_cuts_17 : decode cX12_cuts 17 = .ok (.ldc2_w 350, 3) := by decide +kernel
theorem dX12_cuts_20 : decode cX12_cuts 20 = .ok (.invokestatic 97, 3) := by decide +kernel
theorem dX12_cuts_23 : decode cX12_cuts 23 = .ok (.ifCond .eq 12, 3) := by decide +kernel
theorem dX12_cuts_26 : decode cX12_cuts 26 = .ok (.aload_n 0, 1) := by decide +kernel
theorem dX12_cuts_27 : decode cX12_cuts 27 = .ok (.iload_n 1, 1) := by decide +kernel
theorem dX12_cuts_28 : decode cX12_cuts 28 = .ok (.iload_n 2, 1) := by decide +kernel
theorem dX12_cuts_29 : decode cX12_cuts 29 = .ok (.invokevirtual 352, 3) := by decide +kernel
theorem dX12_cuts_32 : decode cX12_cuts 32 = .ok (.goto 5, 3) := by decide +kernel
theorem dX12_cuts_35 : decode cX12_cuts 35 = .ok (.bipush (-2), 2) := by decide +kernel
theorem dX12_cuts_37 : decode cX12_cuts 37 = .ok (.ireturn, 1) := by decide +kernel
theorem dX12_hold_0 : decode cX12_hold 0 = .ok (.aload_n 0, 1) := by decide +kernel
theorem dX12_hold_1 : decode cX12_hold 1 = .ok (.iconst 0, 1) := by decide +kernel
theorem dX12_hold_2 : decode cX12_hold 2 = .ok (.putfield 92, 3) := by decide +kernel
theorem dX12_hold_5 : decode cX12_hold 5 = .ok (.aload_n 0, 1) := by decide +kernel
theorem dX12_hold_6 : decode cX12_hold 6 = .ok (.iload_n 1, 1) := by decide +kernel
theorem dX12_hold_7 : decode cX12_hold 7 = .ok (.invokevirtual 290, 3) := by decide +kernel
theorem dX12_hold_10 : decode cX12_hold 10 = .ok (.ifCond .eq 19, 3) := by decide +kernel
theorem dX12_hold_13 : decode cX12_hold 13 = .ok (.aload_n 0, 1) := by decide +kernel
theorem dX12_hold_14 : decode cX12_hold 14 = .ok (.iload_n 2, 1) := by decide +kernel
theorem dX12_hold_15 : decode cX12_hold 15 = .ok (.i2l, 1) := by decide +kernel
theorem dX12_hold_16 : decode cX12_hold 16 = .ok (.invokevirtual 299, 3) := by decide +kernel
theorem dX12_hold_19 : decode cX12_hold 19 = .ok (.ifCond .eq 10, 3) := by decide +kernel
theorem dX12_hold_22 : decode cX12_hold 22 = .ok (.iload_n 3, 1) := by decide +kernel
theorem dX12_hold_23 : decode cX12_hold 23 = .ok (.invokestatic 314, 3) := by decide +kernel
theorem dX12_hold_26 : decode cX12_hold 26 = .ok (.ifCond .ne 6, 3) := by decide +kernel
theorem dX12_hold_29 : decode cX12_hold 29 = .ok (.bipush (-2), 2) := by decide +kernel
theorem dX12_hold_31 : decode cX12_hold 31 = .ok (.ireturn, 1) := by decide +kernel
theorem dX12_hold_32 : decode cX12_hold 32 = .ok (.aload_n 0, 1) := by decide +kernel
theorem dX12_hold_33 : decode cX12_hold 33 = .ok (.invokevirtual 279, 3) := by decide +kernel
theorem dX12_hold_36 : decode cX12_hold 36 = .ok (.iconst 0, 1) := by decide +kernel
theorem dX12_hold_37 : decode cX12_hold 37 = .ok (.istore 4, 2) := by decide +kernel
theorem dX12_hold_39 : decode cX12_hold 39 = .ok (.iload 4, 2) := by decide +kernel
theorem dX12_hold_41 : decode cX12_hold 41 = .ok (.bipush 99, 2) := by decide +kernel
theorem dX12_hold_43 : decode cX12_hold 43 = .ok (.if_icmp .gt 39, 3) := by decide +kernel
theorem dX12_hold_46 : decode cX12_hold 46 = .ok (.aload_n 0, 1) := by decide +kernel
theorem dX12_hold_47 : decode cX12_hold 47 = .ok (.getfield 56, 3) := by decide +kernel
theorem dX12_hold_50 : decode cX12_hold 50 = .ok (.iload_n 1, 1) := by decide +kernel
theorem dX12_hold_51 : decode cX12_hold 51 = .ok (.iload 4, 2) := by decide +kernel
theorem dX12_hold_53 : decode cX12_hold 53 = .ok (.iastore, 1) := by decide +kernel
theorem dX12_hold_54 : decode cX12_hold 54 = .ok (.aload_n 0, 1) := by decide +kernel
theorem dX12_hold_55 : decode cX12_hold 55 = .ok (.aload_n 0, 1) := by decide +kernel
theorem dX12_hold_56 : decode cX12_hold 56 = .ok (.getfield 262, 3) := by decide +kernel
theorem dX12_hold_59 : decode cX12_hold 59 = .ok (.iconst 0, 1) := by decide +kernel
theorem dX12_hold_60 : decode cX12_hold 60 = .ok (.invokevirtual 282, 3) := by decide +kernel
theorem dX12_hold_63 : decode cX12_hold 63 = .ok (.aload_n 0, 1) := by decide +kernel
theorem dX12_hold_64 : decode cX12_hold 64 = .ok (.getfield 59, 3) := by decide +kernel
theorem dX12_hold_67 : decode cX12_hold 67 = .ok (.iload_n 2, 1) := by decide +kernel
theorem dX12_hold_68 : decode cX12_hold 68 = .ok (.iaload, 1) := by decide +kernel
theorem dX12_hold_69 : decode cX12_hold 69 = .ok (.iload_n 3, 1) := by decide +kernel
theorem dX12_hold_70 : decode cX12_hold 70 = .ok (.if_icmp .lt 6, 3) := by decide +kernel
theorem dX12_hold_73 : decode cX12_hold 73 = .ok (.iload 4, 2) := by decide +kernel
theorem dX12_hold_75 : decode cX12_hold 75 = .ok (.ireturn, 1) := by decide +kernel
theorem dX12_hold_76 : decode cX12_hold 76 = .ok (.iinc 4 1, 3) := by decide +kernel
theorem dX12_hold_79 : decode cX12_hold 79 = .ok (.goto (-40), 3) := by decide +kernel
theorem dX12_hold_82 : decode cX12_hold 82 = .ok (.iconst (-1), 1) := by decide +kernel
theorem dX12_hold_83 : decode cX12_hold 83 = .ok (.ireturn, 1) := by decide +kernel
theorem dX12_asksOf_0 : decode cX12_asksOf 0 = .ok (.aload_n 0, 1) := by decide +kernel
theorem dX12_asksOf_1 : decode cX12_asksOf 1 = .ok (.invokevirtual 279, 3) := by decide +kernel
theorem dX12_asksOf_4 : decode cX12_asksOf 4 = .ok (.iconst (-1), 1) := by decide +kernel
theorem dX12_asksOf_5 : decode cX12_asksOf 5 = .ok (.istore_n 2, 1) := by decide +kernel
theorem dX12_asksOf_6 : decode cX12_asksOf 6 = .ok (.iconst 0, 1) := by decide +kernel
theorem dX12_asksOf_7 : decode cX12_asksOf 7 = .ok (.istore_n 3, 1) := by decide +kernel
theorem dX12_asksOf_8 : decode cX12_asksOf 8 = .ok (.iload_n 3, 1) := by decide +kernel
theorem dX12_asksOf_9 : decode cX12_asksOf 9 = .ok (.bipush 99, 2) := by decide +kernel
theorem dX12_asksOf_11 : decode cX12_asksOf 11 = .ok (.if_icmp .gt 51, 3) := by decide +kernel
theorem dX12_asksOf_14 : decode cX12_asksOf 14 = .ok (.aload_n 0, 1) := by decide +kernel
theorem dX12_asksOf_15 : decode cX12_asksOf 15 = .ok (.getfield 56, 3) := by decide +kernel
theorem dX12_asksOf_18 : decode cX12_asksOf 18 = .ok (.iload_n 1, 1) := by decide +kernel
theorem dX12_asksOf_19 : decode cX12_asksOf 19 = .ok (.iload_n 3, 1) := by decide +kernel
theorem dX12_asksOf_20 : decode cX12_asksOf 20 = .ok (.iastore, 1) := by decide +kernel
theorem dX12_asksOf_21 : decode cX12_asksOf 21 = .ok (.aload_n 0, 1) := by decide +kernel
theorem dX12_asksOf_22 : decode cX12_asksOf 22 = .ok (.aload_n 0, 1) := by decide +kernel
theorem dX12_asksOf_23 : decode cX12_asksOf 23 = .ok (.getfield 262, 3) := by decide +kernel
theorem dX12_asksOf_26 : decode cX12_asksOf 26 = .ok (.invokevirtual 335, 3) := by decide +kernel
theorem dX12_asksOf_29 : decode cX12_asksOf 29 = .ok (.istore 4, 2) := by decide +kernel
theorem dX12_asksOf_31 : decode cX12_asksOf 31 = .ok (.iload_n 2, 1) := by decide +kernel
theorem dX12_asksOf_32 : decode cX12_asksOf 32 = .ok (.iconst (-1), 1) := by decide +kernel
theorem dX12_asksOf_33 : decode cX12_asksOf 33 = .ok (.if_icmp .eq 15, 3) := by decide +kernel
theorem dX12_asksOf_36 : decode cX12_asksOf 36 = .ok (.iload 4, 2) := by decide +kernel
theorem dX12_asksOf_38 : decode cX12_asksOf 38 = .ok (.aload_n 0, 1) := by decide +kernel
theorem dX12_asksOf_39 : decode cX12_asksOf 39 = .ok (.getfield 338, 3) := by decide +kernel
theorem dX12_asksOf_42 : decode cX12_asksOf 42 = .ok (.if_icmp .gt 6, 3) := by decide +kernel
theorem dX12_asksOf_45 : decode cX12_asksOf 45 = .ok (.goto 11, 3) := by decide +kernel
theorem dX12_asksOf_48 : decode cX12_asksOf 48 = .ok (.iload_n 3, 1) := by decide +kernel
theorem dX12_asksOf_49 : decode cX12_asksOf 49 = .ok (.istore_n 2, 1) := by decide +kernel
theorem dX12_asksOf_50 : decode cX12_asksOf 50 = .ok (.aload_n 0, 1) := by decide +kernel
theorem dX12_asksOf_51 : decode cX12_asksOf 51 = .ok (.iload 4, 2) := by decide +kernel
theorem dX12_asksOf_53 : decode cX12_asksOf 53 = .ok (.putfield 338, 3) := by decide +kernel
theorem dX12_asksOf_56 : decode cX12_asksOf 56 = .ok (.iinc 3 1, 3) := by decide +kernel
theorem dX12_asksOf_59 : decode cX12_asksOf 59 = .ok (.goto (-51), 3) := by decide +kernel
theorem dX12_asksOf_62 : decode cX12_asksOf 62 = .ok (.iload_n 2, 1) := by decide +kernel
theorem dX12_asksOf_63 : decode cX12_asksOf 63 = .ok (.ireturn, 1) := by decide +kernel
theorem dX12_asks__0 : decode cX12_asks_ 0 = .ok (.aload_n 0, 1) := by decide +kernel
theorem dX12_asks__1 : decode cX12_asks_ 1 = .ok (.iconst 0, 1) := by decide +kernel
theorem dX12_asks__2 : decode cX12_asks_ 2 = .ok (.putfield 92, 3) := by decide +kernel
theorem dX12_asks__5 : decode cX12_asks_ 5 = .ok (.aload_n 0, 1) := by decide +kernel
theorem dX12_asks__6 : decode cX12_asks_ 6 = .ok (.iload_n 1, 1) := by decide +kernel
theorem dX12_asks__7 : decode cX12_asks_ 7 = .ok (.invokevirtual 290, 3) := by decide +kernel
theorem dX12_asks__10 : decode cX12_asks_ 10 = .ok (.ifCond .eq 11, 3) := by decide +kernel
theorem dX12_asks__13 : decode cX12_asks_ 13 = .ok (.aload_n 0, 1) := by decide +kernel
theorem dX12_asks__14 : decode cX12_asks_ 14 = .ok (.iload_n 1, 1) := by decide +kernel
theorem dX12_asks__15 : decode cX12_asks_ 15 = .ok (.invokevirtual 355, 3) := by decide +kernel
theorem dX12_asks__18 : decode cX12_asks_ 18 = .ok (.goto 5, 3) := by decide +kernel
theorem dX12_asks__21 : decode cX12_asks_ 21 = .ok (.bipush (-2), 2) := by decide +kernel
theorem dX12_asks__23 : decode cX12_asks_ 23 = .ok (.ireturn, 1) := by decide +kernel
theorem dX12_brings_0 : decode cX12_brings 0 = .ok (.aload_n 0, 1) := by decide +kernel
theorem dX12_brings_1 : decode cX12_brings 1 = .ok (.iconst 0, 1) := by decide +kernel
theorem dX12_brings_2 : decode cX12_brings 2 = .ok (.putfield 92, 3) := by decide +kernel
theorem dX12_brings_5 : decode cX12_brings 5 = .ok (.aload_n 0, 1) := by decide +kernel
theorem dX12_brings_6 : decode cX12_brings 6 = .ok (.iload_n 1, 1) := by decide +kernel
theorem dX12_brings_7 : decode cX12_brings 7 = .ok (.invokevirtual 290, 3) := by decide +kernel
theorem dX12_brings_10 : decode cX12_brings 10 = .ok (.ifCond .ne 6, 3) := by decide +kernel
theorem dX12_brings_13 : decode cX12_brings 13 = .ok (.bipush (-2), 2) := by decide +kernel
theorem dX12_brings_15 : decode cX12_brings 15 = .ok (.ireturn, 1) := by decide +kernel
theorem dX12_brings_16 : decode cX12_brings 16 = .ok (.aload_n 0, 1) := by decide +kernel
theorem dX12_brings_17 : decode cX12_brings 17 = .ok (.iload_n 1, 1) := by decide +kernel
theorem dX12_brings_18 : decode cX12_brings 18 = .ok (.invokevirtual 355, 3) := by decide +kernel
theorem dX12_brings_21 : decode cX12_brings 21 = .ok (.pop, 1) := by decide +kernel
theorem dX12_brings_22 : decode cX12_brings 22 = .ok (.aload_n 0, 1) := by decide +kernel
theorem dX12_brings_23 : decode cX12_brings 23 = .ok (.getfield 338, 3) := by decide +kernel
theorem dX12_brings_26 : decode cX12_brings 26 = .ok (.ireturn, 1) := by decide +kernel
theorem dX12_whyNot_0 : decode cX12_whyNot 0 = .ok (.iload_n 1, 1) := by decide +kernel
theorem dX12_whyNot_1 : decode cX12_whyNot 1 = .ok (.invokestatic 101, 3) := by decide +kernel
theorem dX12_whyNot_4 : decode cX12_whyNot 4 = .ok (.ifCond .eq 10, 3) := by decide +kernel
theorem dX12_whyNot_7 : decode cX12_whyNot 7 = .ok (.aload_n 0, 1) := by decide +kernel
theorem dX12_whyNot_8 : decode cX12_whyNot 8 = .ok (.invokevirtual 311, 3) := by decide +kernel
theorem dX12_whyNot_11 : decode cX12_whyNot 11 = .ok (.ifCond .ne 6, 3) := by decide +kernel
theorem dX12_whyNot_14 : decode cX12_whyNot 14 = .ok (.bipush (-2), 2) := by decide +kernel
theorem dX12_whyNot_16 : decode cX12_whyNot 16 = .ok (.ireturn, 1) := by decide +kernel
theorem dX12_whyNot_17 : decode cX12_whyNot 17 = .ok (.aload_n 0, 1) := by decide +kernel
theorem dX12_whyNot_18 : decode cX12_whyNot 18 = .ok (.getfield 7, 3) := by decide +kernel
theorem dX12_whyNot_21 : decode cX12_whyNot 21 = .ok (.iload_n 1, 1) := by decide +kernel
theorem dX12_whyNot_22 : decode cX12_whyNot 22 = .ok (.iaload, 1) := by decide +kernel
theorem dX12_whyNot_23 : decode cX12_whyNot 23 = .ok (.iconst (-1), 1) := by decide +kernel
theorem dX12_whyNot_24 : decode cX12_whyNot 24 = .ok (.if_icmp .ne 6, 3) := by decide +kernel
theorem dX12_whyNot_27 : decode cX12_whyNot 27 = .ok (.bipush (-6), 2) := by decide +kernel
theorem dX12_whyNot_29 : decode cX12_whyNot 29 = .ok (.ireturn, 1) := by decide +kernel
theorem dX12_whyNot_30 : decode cX12_whyNot 30 = .ok (.aload_n 0, 1) := by decide +kernel
theorem dX12_whyNot_31 : decode cX12_whyNot 31 = .ok (.getfield 13, 3) := by decide +kernel
theorem dX12_whyNot_34 : decode cX12_whyNot 34 = .ok (.iload_n 1, 1) := by decide +kernel
theorem dX12_whyNot_35 : decode cX12_whyNot 35 = .ok (.iaload, 1) := by decide +kernel
theorem dX12_whyNot_36 : decode cX12_whyNot 36 = .ok (.iconst 2, 1) := by decide +kernel
theorem dX12_whyNot_37 : decode cX12_whyNot 37 = .ok (.irem, 1) := by decide +kernel
theorem dX12_whyNot_38 : decode cX12_whyNot 38 = .ok (.ifCond .eq 6, 3) := by decide +kernel
theorem dX12_whyNot_41 : decode cX12_whyNot 41 = .ok (.bipush (-2), 2) := by decide +kernel
theorem dX12_whyNot_43 : decode cX12_whyNot 43 = .ok (.ireturn, 1) := by decide +kernel
theorem dX12_whyNot_44 : decode cX12_whyNot 44 = .ok (.iconst 0, 1) := by decide +kernel
theorem dX12_whyNot_45 : decode cX12_whyNot 45 = .ok (.istore_n 2, 1) := by decide +kernel
theorem dX12_whyNot_46 : decode cX12_whyNot 46 = .ok (.iload_n 2, 1) := by decide +kernel
theorem dX12_whyNot_47 : decode cX12_whyNot 47 = .ok (.aload_n 0, 1) := by decide +kernel
theorem dX12_whyNot_48 : decode cX12_whyNot 48 = .ok (.getfield 13, 3) := by decide +kernel
theorem dX12_whyNot_51 : decode cX12_whyNot 51 = .ok (.iload_n 1, 1) := by decide +kernel
theorem dX12_whyNot_52 : decode cX12_whyNot 52 = .ok (.iaload, 1) := by decide +kernel
theorem dX12_whyNot_53 : decode cX12_whyNot 53 = .ok (.if_icmp .ge 55, 3) := by decide +kernel
theorem dX12_whyNot_56 : decode cX12_whyNot 56 = .ok (.aload_n 0, 1) := by decide +kernel
theorem dX12_whyNot_57 : decode cX12_whyNot 57 = .ok (.aload_n 0, 1) := by decide +kernel
theorem dX12_whyNot_58 : decode cX12_whyNot 58 = .ok (.getfield 16, 3) := by decide +kernel
theorem dX12_whyNot_61 : decode cX12_whyNot 61 = .ok (.bipush 60, 2) := by decide +kernel
theorem dX12_whyNot_63 : decode cX12_whyNot 63 = .ok (.iload_n 1, 1) := by decide +kernel
theorem dX12_whyNot_64 : decode cX12_whyNot 64 = .ok (.imul, 1) := by decide +kernel
theorem dX12_whyNot_65 : decode cX12_whyNot 65 = .ok (.iload_n 2, 1) := by decide +kernel
theorem dX12_whyNot_66 : decode cX12_whyNot 66 = .ok (.iadd, 1) := by decide +kernel
theorem dX12_whyNot_67 : decode cX12_whyNot 67 = .ok (.laload, 1) := by decide +kernel
theorem dX12_whyNot_68 : decode cX12_whyNot 68 = .ok (.invokevirtual 299, 3) := by decide +kernel
theorem dX12_whyNot_71 : decode cX12_whyNot 71 = .ok (.ifCond .eq 28, 3) := by decide +kernel
theorem dX12_whyNot_74 : decode cX12_whyNot 74 = .ok (.aload_n 0, 1) := by decide +kernel
theorem dX12_whyNot_75 : decode cX12_whyNot 75 = .ok (.getfield 16, 3) := by decide +kernel
theorem dX12_whyNot_78 : decode cX12_whyNot 78 = .ok (.bipush 60, 2) := by decide +kernel
theorem dX12_whyNot_80 : decode cX12_whyNot 80 = .ok (.iload_n 1, 1) := by decide +kernel
theorem dX12_whyNot_81 : decode cX12_whyNot 81 = .ok (.imul, 1) := by decide +kernel
theorem dX12_whyNot_82 : decode cX12_whyNot 82 = .ok (.iload_n 2, 1) := by decide +kernel
theorem dX12_whyNot_83 : decode cX12_whyNot 83 = .ok (.iadd, 1) := by decide +kernel
theorem dX12_whyNot_84 : decode cX12_whyNot 84 = .ok (.iconst 1, 1) := by decide +kernel
theorem dX12_whyNot_85 : decode cX12_whyNot 85 = .ok (.iadd, 1) := by decide +kernel
theorem dX12_whyNot_86 : decode cX12_whyNot 86 = .ok (.laload, 1) := by decide +kernel
theorem dX12_whyNot_87 : decode cX12_whyNot 87 = .ok (.ldc2_w 136, 3) := by decide +kernel
theorem dX12_whyNot_90 : decode cX12_whyNot 90 = .ok (.ldc2_w 260, 3) := by decide +kernel
theorem dX12_whyNot_93 : decode cX12_whyNot 93 = .ok (.invokestatic 97, 3) := by decide +kernel
theorem dX12_whyNot_96 : decode cX12_whyNot 96 = .ok (.ifCond .ne 6, 3) := by decide +kernel
theorem dX12_whyNot_99 : decode cX12_whyNot 99 = .ok (.bipush (-2), 2) := by decide +kernel
theorem dX12_whyNot_101 : decode cX12_whyNot 101 = .ok (.ireturn, 1) := by decide +kernel
theorem dX12_whyNot_102 : decode cX12_whyNot 102 = .ok (.iinc 2 2, 3) := by decide +kernel
theorem dX12_whyNot_105 : decode cX12_whyNot 105 = .ok (.goto (-59), 3) := by decide +kernel
theorem dX12_whyNot_108 : decode cX12_whyNot 108 = .ok (.iconst 0, 1) := by decide +kernel
theorem dX12_whyNot_109 : decode cX12_whyNot 109 = .ok (.ireturn, 1) := by decide +kernel
theorem dX12_laysFits_0 : decode cX12_laysFits 0 = .ok (.aload_n 0, 1) := by decide +kernel
theorem dX12_laysFits_1 : decode cX12_laysFits 1 = .ok (.invokevirtual 279, 3) := by decide +kernel
theorem dX12_laysFits_4 : decode cX12_laysFits 4 = .ok (.iconst 0, 1) := by decide +kernel
theorem dX12_laysFits_5 : decode cX12_laysFits 5 = .ok (.istore_n 2, 1) := by decide +kernel
theorem dX12_laysFits_6 : decode cX12_laysFits 6 = .ok (.iconst 0, 1) := by decide +kernel
theorem dX12_laysFits_7 : decode cX12_laysFits 7 = .ok (.istore_n 3, 1) := by decide +kernel
theorem dX12_laysFits_8 : decode cX12_laysFits 8 = .ok (.iload_n 3, 1) := by decide +kernel
theorem dX12_laysFits_9 : decode cX12_laysFits 9 = .ok (.aload_n 0, 1) := by decide +kernel
theorem dX12_laysFits_10 : decode cX12_laysFits 10 = .ok (.getfield 34, 3) := by decide +kernel
theorem dX12_laysFits_13 : decode cX12_laysFits 13 = .ok (.iconst 2, 1) := by decide +kernel
theorem dX12_laysFits_14 : decode cX12_laysFits 14 = .ok (.iaload, 1) := by decide +kernel
theorem dX12_laysFits_15 : decode cX12_laysFits 15 = .ok (.if_icmp .ge 194, 3) := by decide +kernel
theorem dX12_laysFits_18 : decode cX12_laysFits 18 = .ok (.aload_n 0, 1) := by decide +kernel
theorem dX12_laysFits_19 : decode cX12_laysFits 19 = .ok (.getfield 56, 3) := by decide +kernel
theorem dX12_laysFits_22 : decode cX12_laysFits 22 = .ok (.iload_n 3, 1) := by decide +kernel
theorem dX12_laysFits_23 : decode cX12_laysFits 23 = .ok (.iaload, 1) := by decide +kernel
theorem dX12_laysFits_24 : decode cX12_laysFits 24 = .ok (.istore 4, 2) := by decide +kernel
theorem dX12_laysFits_26 : decode cX12_laysFits 26 = .ok (.iconst 0, 1) := by decide +kernel
theorem dX12_laysFits_27 : decode cX12_laysFits 27 = .ok (.istore 5, 2) := by decide +kernel
theorem dX12_laysFits_29 : decode cX12_laysFits 29 = .ok (.iload 5, 2) := by decide +kernel
theorem dX12_laysFits_31 : decode cX12_laysFits 31 = .ok (.bipush 99, 2) := by decide +kernel
theorem dX12_laysFits_33 : decode cX12_laysFits 33 = .ok (.if_icmp .gt 162, 3) := by decide +kernel
theorem dX12_laysFits_36 : decode cX12_laysFits 36 = .ok (.aload_n 0, 1) := by decide +kernel
theorem dX12_laysFits_37 : decode cX12_laysFits 37 = .ok (.getfield 56, 3) := by decide +kernel
theorem dX12_laysFits_40 : decode cX12_laysFits 40 = .ok (.iload_n 3, 1) := by decide +kernel
theorem dX12_laysFits_41 : decode cX12_laysFits 41 = .ok (.iload 5, 2) := by decide +kernel
theorem dX12_laysFits_43 : decode cX12_laysFits 43 = .ok (.iastore, 1) := by decide +kernel
theorem dX12_laysFits_44 : decode cX12_laysFits 44 = .ok (.aload_n 0, 1) := by decide +kernel
theorem dX12_laysFits_45 : decode cX12_laysFits 45 = .ok (.aload_n 0, 1) := by decide +kernel
theorem dX12_laysFits_46 : decode cX12_laysFits 46 = .ok (.getfield 262, 3) := by decide +kernel
theorem dX12_laysFits_49 : decode cX12_laysFits 49 = .ok (.iconst 0, 1) := by decide +kernel
theorem dX12_laysFits_50 : decode cX12_laysFits 50 = .ok (.invokevirtual 282, 3) := by decide +kernel
theorem dX12_laysFits_53 : decode cX12_laysFits 53 = .ok (.iconst 1, 1) := by decide +kernel
theorem dX12_laysFits_54 : decode cX12_laysFits 54 = .ok (.istore 6, 2) := by decide +kernel
theorem dX12_laysFits_56 : decode cX12_laysFits 56 = .ok (.iconst 0, 1) := by decide +kernel
theorem dX12_laysFits_57 : decode cX12_laysFits 57 = .ok (.istore 7, 2) := by decide +kernel
theorem dX12_laysFits_59 : decode cX12_laysFits 59 = .ok (.iload 7, 2) := by decide +kernel
theorem dX12_laysFits_61 : decode cX12_laysFits 61 = .ok (.aload_n 0, 1) := by decide +kernel
theorem dX12_laysFits_62 : decode cX12_laysFits 62 = .ok (.getfield 13, 3) := by decide +kernel
theorem dX12_laysFits_65 : decode cX12_laysFits 65 = .ok (.iload_n 1, 1) := by decide +kernel
theorem dX12_laysFits_66 : decode cX12_laysFits 66 = .ok (.iaload, 1) := by decide +kernel
theorem dX12_laysFits_67 : decode cX12_laysFits 67 = .ok (.if_icmp .ge 55, 3) := by decide +kernel
theorem dX12_laysFits_70 : decode cX12_laysFits 70 = .ok (.iload 6, 2) := by decide +kernel
theorem dX12_laysFits_72 : decode cX12_laysFits 72 = .ok (.aload_n 0, 1) := by decide +kernel
theorem dX12_laysFits_73 : decode cX12_laysFits 73 = .ok (.aload_n 0, 1) := by decide +kernel
theorem dX12_laysFits_74 : decode cX12_laysFits 74 = .ok (.getfield 16, 3) := by decide +kernel
theorem dX12_laysFits_77 : decode cX12_laysFits 77 = .ok (.bipush 60, 2) := by decide +kernel
theorem dX12_laysFits_79 : decode cX12_laysFits 79 = .ok (.iload_n 1, 1) := by decide +kernel
theorem dX12_laysFits_80 : decode cX12_laysFits 80 = .ok (.imul, 1) := by decide +kernel
theorem dX12_laysFits_81 : decode cX12_laysFits 81 = .ok (.iload 7, 2) := by decide +kernel
theorem dX12_laysFits_83 : decode cX12_laysFits 83 = .ok (.iadd, 1) := by decide +kernel
theorem dX12_laysFits_84 : decode cX12_laysFits 84 = .ok (.laload, 1) := by decide +kernel
theorem dX12_laysFits_85 : decode cX12_laysFits 85 = .ok (.l2i, 1) := by decide +kernel
theorem dX12_laysFits_86 : decode cX12_laysFits 86 = .ok (.invokevirtual 305, 3) := by decide +kernel
theorem dX12_laysFits_89 : decode cX12_laysFits 89 = .ok (.i2l, 1) := by decide +kernel
theorem dX12_laysFits_90 : decode cX12_laysFits 90 = .ok (.aload_n 0, 1) := by decide +kernel
theorem dX12_laysFits_91 : decode cX12_laysFits 91 = .ok (.getfield 16, 3) := by decide +kernel
theorem dX12_laysFits_94 : decode cX12_laysFits 94 = .ok (.bipush 60, 2) := by decide +kernel
theorem dX12_laysFits_96 : decode cX12_laysFits 96 = .ok (.iload_n 1, 1) := by decide +kernel
theorem dX12_laysFits_97 : decode cX12_laysFits 97 = .ok (.imul, 1) := by decide +kernel
theorem dX12_laysFits_98 : decode cX12_laysFits 98 = .ok (.iload 7, 2) := by decide +kernel
theorem dX12_laysFits_100 : decode cX12_laysFits 100 = .ok (.iadd, 1) := by decide +kernel
theorem dX12_laysFits_101 : decode cX12_laysFits 101 = .ok (.iconst 1, 1) := by decide +kernel
theorem dX12_laysFits_102 : decode cX12_laysFits 102 = .ok (.iadd, 1) := by decide +kernel
theorem dX12_laysFits_103 : decode cX12_laysFits 103 = .ok (.laload, 1) := by decide +kernel
theorem dX12_laysFits_104 : decode cX12_laysFits 104 = .ok (.lcmp, 1) := by decide +kernel
theorem dX12_laysFits_105 : decode cX12_laysFits 105 = .ok (.ifCond .ne 7, 3) := by decide +kernel
theorem dX12_laysFits_108 : decode cX12_laysFits 108 = .ok (.iconst 1, 1) := by decide +kernel
theorem dX12_laysFits_109 : decode cX12_laysFits 109 = .ok (.goto 4, 3) := by decide +kernel
theorem dX12_laysFits_112 : decode cX12_laysFits 112 = .ok (.iconst 0, 1) := by decide +kernel
theorem dX12_laysFits_113 : decode cX12_laysFits 113 = .ok (.iand, 1) := by decide +kernel
theorem dX12_laysFits_114 : decode cX12_laysFits 114 = .ok (.istore 6, 2) := by decide +kernel
theorem dX12_laysFits_116 : decode cX12_laysFits 116 = .ok (.iinc 7 2, 3) := by decide +kernel
theorem dX12_laysFits_119 : decode cX12_laysFits 119 = .ok (.goto (-60), 3) := by decide +kernel
theorem dX12_laysFits_122 : decode cX12_laysFits 122 = .ok (.aload_n 0, 1) := by decide +kernel
theorem dX12_laysFits_123 : decode cX12_laysFits 123 = .ok (.getfield 71, 3) := by decide +kernel
theorem dX12_laysFits_126 : decode cX12_laysFits 126 = .ok (.bipush 100, 2) := by decide +kernel
theorem dX12_laysFits_128 : decode cX12_laysFits 128 = .ok (.iload_n 3, 1) := by decide +kernel
theorem dX12_laysFits_129 : decode cX12_laysFits 129 = .ok (.imul, 1) := by decide +kernel
theorem dX12_laysFits_130 : decode cX12_laysFits 130 = .ok (.iload 5, 2) := by decide +kernel
theorem dX12_laysFits_132 : decode cX12_laysFits 132 = .ok (.iadd, 1) := by decide +kernel
theorem dX12_laysFits_133 : decode cX12_laysFits 133 = .ok (.iload 6, 2) := by decide +kernel
theorem dX12_laysFits_135 : decode cX12_laysFits 135 = .ok (.bastore, 1) := by decide +kernel
theorem dX12_laysFits_136 : decode cX12_laysFits 136 = .ok (.iload_n 2, 1) := by decide +kernel
theorem dX12_laysFits_137 : decode cX12_laysFits 137 = .ok (.iload 6, 2) := by decide +kernel
theorem dX12_laysFits_139 : decode cX12_laysFits 139 = .ok (.ifCond .eq 7, 3) := by decide +kernel
theorem dX12_laysFits_142 : decode cX12_laysFits 142 = .ok (.iconst 1, 1) := by decide +kernel
theorem dX12_laysFits_143 : decode cX12_laysFits 143 = .ok (.goto 4, 3) := by decide +kernel
theorem dX12_laysFits_146 : decode cX12_laysFits 146 = .ok (.iconst 0, 1) := by decide +kernel
theorem dX12_laysFits_147 : decode cX12_laysFits 147 = .ok (.iadd, 1) := by decide +kernel
theorem dX12_laysFits_148 : decode cX12_laysFits 148 = .ok (.istore_n 2, 1) := by decide +kernel
theorem dX12_laysFits_149 : decode cX12_laysFits 149 = .ok (.iconst 0, 1) := by decide +kernel
theorem dX12_laysFits_150 : decode cX12_laysFits 150 = .ok (.istore 7, 2) := by decide +kernel
theorem dX12_laysFits_152 : decode cX12_laysFits 152 = .ok (.iload 7, 2) := by decide +kernel
theorem dX12_laysFits_154 : decode cX12_laysFits 154 = .ok (.bipush 8, 2) := by decide +kernel
theorem dX12_laysFits_156 : decode cX12_laysFits 156 = .ok (.if_icmp .ge 33, 3) := by decide +kernel
theorem dX12_laysFits_159 : decode cX12_laysFits 159 = .ok (.aload_n 0, 1) := by decide +kernel
theorem dX12_laysFits_160 : decode cX12_laysFits 160 = .ok (.getfield 74, 3) := by decide +kernel
theorem dX12_laysFits_163 : decode cX12_laysFits 163 = .ok (.bipush 8, 2) := by decide +kernel
theorem dX12_laysFits_165 : decode cX12_laysFits 165 = .ok (.bipush 100, 2) := by decide +kernel
theorem dX12_laysFits_167 : decode cX12_laysFits 167 = .ok (.iload_n 3, 1) := by decide +kernel
theorem dX12_laysFits_168 : decode cX12_laysFits 168 = .ok (.imul, 1) := by decide +kernel
theorem dX12_laysFits_169 : decode cX12_laysFits 169 = .ok (.iload 5, 2) := by decide +kernel
theorem dX12_laysFits_171 : decode cX12_laysFits 171 = .ok (.iadd, 1) := by decide +kernel
theorem dX12_laysFits_172 : decode cX12_laysFits 172 = .ok (.imul, 1) := by decide +kernel
theorem dX12_laysFits_173 : decode cX12_laysFits 173 = .ok (.iload 7, 2) := by decide +kernel
theorem dX12_laysFits_175 : decode cX12_laysFits 175 = .ok (.iadd, 1) := by decide +kernel
theorem dX12_laysFits_176 : decode cX12_laysFits 176 = .ok (.aload_n 0, 1) := by decide +kernel
theorem dX12_laysFits_177 : decode cX12_laysFits 177 = .ok (.iload 7, 2) := by decide +kernel
theorem dX12_laysFits_179 : decode cX12_laysFits 179 = .ok (.invokevirtual 305, 3) := by decide +kernel
theorem dX12_laysFits_182 : decode cX12_laysFits 182 = .ok (.iastore, 1) := by decide +kernel
theorem dX12_laysFits_183 : decode cX12_laysFits 183 = .ok (.iinc 7 1, 3) := by decide +kernel
theorem dX12_laysFits_186 : decode cX12_laysFits 186 = .ok (.goto (-34), 3) := by decide +kernel
theorem dX12_laysFits_189 : decode cX12_laysFits 189 = .ok (.iinc 5 1, 3) := by decide +kernel
theorem dX12_laysFits_192 : decode cX12_laysFits 192 = .ok (.goto (-163), 3) := by decide +kernel
theorem dX12_laysFits_195 : decode cX12_laysFits 195 = .ok (.aload_n 0, 1) := by decide +kernel
theorem dX12_laysFits_196 : decode cX12_laysFits 196 = .ok (.getfield 56, 3) := by decide +kernel
theorem dX12_laysFits_199 : decode cX12_laysFits 199 = .ok (.iload_n 3, 1) := by decide +kernel
theorem dX12_laysFits_200 : decode cX12_laysFits 200 = .ok (.iload 4, 2) := by decide +kernel
theorem dX12_laysFits_202 : decode cX12_laysFits 202 = .ok (.iastore, 1) := by decide +kernel
theorem dX12_laysFits_203 : decode cX12_laysFits 203 = .ok (.iinc 3 1, 3) := by decide +kernel
theorem dX12_laysFits_206 : decode cX12_laysFits 206 = .ok (.goto (-198), 3) := by decide +kernel
theorem dX12_laysFits_209 : decode cX12_laysFits 209 = .ok (.iload_n 2, 1) := by decide +kernel
theorem dX12_laysFits_210 : decode cX12_laysFits 210 = .ok (.ireturn, 1) := by decide +kernel
theorem dX12_fits_0 : decode cX12_fits 0 = .ok (.aload_n 0, 1) := by decide +kernel
theorem dX12_fits_1 : decode cX12_fits 1 = .ok (.iconst 0, 1) := by decide +kernel
theorem dX12_fits_2 : decode cX12_fits 2 = .ok (.putfield 92, 3) := by decide +kernel
theorem dX12_fits_5 : decode cX12_fits 5 = .ok (.aload_n 0, 1) := by decide +kernel
theorem dX12_fits_6 : decode cX12_fits 6 = .ok (.iload_n 1, 1) := by decide +kernel
theorem dX12_fits_7 : decode cX12_fits 7 = .ok (.invokevirtual 358, 3) := by decide +kernel
theorem dX12_fits_10 : decode cX12_fits 10 = .ok (.istore_n 2, 1) := by decide +kernel
theorem dX12_fits_11 : decode cX12_fits 11 = .ok (.iload_n 2, 1) := by decide +kernel
theorem dX12_fits_12 : decode cX12_fits 12 = .ok (.ifCond .eq 7, 3) := by decide +kernel
theorem dX12_fits_15 : decode cX12_fits 15 = .ok (.iload_n 2, 1) := by decide +kernel
theorem dX12_fits_16 : decode cX12_fits 16 = .ok (.goto 8, 3) := by decide +kernel
theorem dX12_fits_19 : decode cX12_fits 19 = .ok (.aload_n 0, 1) := by decide +kernel
theorem dX12_fits_20 : decode cX12_fits 20 = .ok (.iload_n 1, 1) := by decide +kernel
theorem dX12_fits_21 : decode cX12_fits 21 = .ok (.invokevirtual 361, 3) := by decide +kernel
theorem dX12_fits_24 : decode cX12_fits 24 = .ok (.ireturn, 1) := by decide +kernel
theorem dX12_held_0 : decode cX12_held 0 = .ok (.aload_n 0, 1) := by decide +kernel
theorem dX12_held_1 : decode cX12_held 1 = .ok (.iconst 0, 1) := by decide +kernel
theorem dX12_held_2 : decode cX12_held 2 = .ok (.putfield 92, 3) := by decide +kernel
theorem dX12_held_5 : decode cX12_held 5 = .ok (.aload_n 0, 1) := by decide +kernel
theorem dX12_held_6 : decode cX12_held 6 = .ok (.iload_n 1, 1) := by decide +kernel
theorem dX12_held_7 : decode cX12_held 7 = .ok (.invokevirtual 358, 3) := by decide +kernel
theorem dX12_held_10 : decode cX12_held 10 = .ok (.istore_n 2, 1) := by decide +kernel
theorem dX12_held_11 : decode cX12_held 11 = .ok (.iload_n 2, 1) := by decide +kernel
theorem dX12_held_12 : decode cX12_held 12 = .ok (.ifCond .eq 5, 3) := by decide +kernel
theorem dX12_held_15 : decode cX12_held 15 = .ok (.iload_n 2, 1) := by decide +kernel
theorem dX12_held_16 : decode cX12_held 16 = .ok (.ireturn, 1) := by decide +kernel
theorem dX12_held_17 : decode cX12_held 17 = .ok (.aload_n 0, 1) := by decide +kernel
theorem dX12_held_18 : decode cX12_held 18 = .ok (.iload_n 1, 1) := by decide +kernel
theorem dX12_held_19 : decode cX12_held 19 = .ok (.invokevirtual 361, 3) := by decide +kernel
theorem dX12_held_22 : decode cX12_held 22 = .ok (.pop, 1) := by decide +kernel
theorem dX12_held_23 : decode cX12_held 23 = .ok (.iconst 0, 1) := by decide +kernel
theorem dX12_held_24 : decode cX12_held 24 = .ok (.istore_n 3, 1) := by decide +kernel
theorem dX12_held_25 : decode cX12_held 25 = .ok (.iconst 0, 1) := by decide +kernel
theorem dX12_held_26 : decode cX12_held 26 = .ok (.istore 4, 2) := by decide +kernel
theorem dX12_held_28 : decode cX12_held 28 = .ok (.iload 4, 2) := by decide +kernel
theorem dX12_held_30 : decode cX12_held 30 = .ok (.bipush 100, 2) := by decide +kernel
theorem dX12_held_32 : decode cX12_held 32 = .ok (.aload_n 0, 1) := by decide +kernel
theorem dX12_held_33 : decode cX12_held 33 = .ok (.getfield 34, 3) := by decide +kernel
theorem dX12_held_36 : decode cX12_held 36 = .ok (.iconst 2, 1) := by decide +kernel
theorem dX12_held_37 : decode cX12_held 37 = .ok (.iaload, 1) := by decide +kernel
theorem dX12_held_38 : decode cX12_held 38 = .ok (.imul, 1) := by decide +kernel
theorem dX12_held_39 : decode cX12_held 39 = .ok (.if_icmp .ge 33, 3) := by decide +kernel
theorem dX12_held_42 : decode cX12_held 42 = .ok (.iload_n 3, 1) := by decide +kernel
theorem dX12_held_43 : decode cX12_held 43 = .ok (.aload_n 0, 1) := by decide +kernel
theorem dX12_held_44 : decode cX12_held 44 = .ok (.getfield 71, 3) := by decide +kernel
theorem dX12_held_47 : decode cX12_held 47 = .ok (.iload 4, 2) := by decide +kernel
theorem dX12_held_49 : decode cX12_held 49 = .ok (.baload, 1) := by decide +kernel
theorem dX12_held_50 : decode cX12_held 50 = .ok (.ifCond .eq 13, 3) := by decide +kernel
theorem dX12_held_53 : decode cX12_held 53 = .ok (.iconst 1, 1) := by decide +kernel
theorem dX12_held_54 : decode cX12_held 54 = .ok (.iload 4, 2) := by decide +kernel
theorem dX12_held_56 : decode cX12_held 56 = .ok (.bipush 100, 2) := by decide +kernel
theorem dX12_held_58 : decode cX12_held 58 = .ok (.idiv, 1) := by decide +kernel
theorem dX12_held_59 : decode cX12_held 59 = .ok (.ishl, 1) := by decide +kernel
