theorem dX2_leastFitting_31 : decode cX2_leastFitting 31 = .ok (.ireturn, 1) := by decide +kernel
theorem dX2_tellingStreet_0 : decode cX2_tellingStreet 0 = .ok (.iconst (-1), 1) := by decide +kernel
theorem dX2_tellingStreet_1 : decode cX2_tellingStreet 1 = .ok (.istore_n 2, 1) := by decide +kernel
theorem dX2_tellingStreet_2 : decode cX2_tellingStreet 2 = .ok (.aload_n 0, 1) := by decide +kernel
theorem dX2_tellingStreet_3 : decode cX2_tellingStreet 3 = .ok (.getfield 9, 3) := by decide +kernel
theorem dX2_tellingStreet_6 : decode cX2_tellingStreet 6 = .ok (.istore_n 3, 1) := by decide +kernel
theorem dX2_tellingStreet_7 : decode cX2_tellingStreet 7 = .ok (.iconst 0, 1) := by decide +kernel
theorem dX2_tellingStreet_8 : decode cX2_tellingStreet 8 = .ok (.istore 4, 2) := by decide +kernel
theorem dX2_tellingStreet_10 : decode cX2_tellingStreet 10 = .ok (.iload 4, 2) := by decide +kernel
theorem dX2_tellingStreet_12 : decode cX2_tellingStreet 12 = .ok (.aload_n 1, 1) := by decide +kernel
theorem dX2_tellingStreet_13 : decode cX2_tellingStreet 13 = .ok (.getfield 110, 3) := by decide +kernel
theorem dX2_tellingStreet_16 : decode cX2_tellingStreet 16 = .ok (.if_icmp .ge 30, 3) := by decide +kernel
theorem dX2_tellingStreet_19 : decode cX2_tellingStreet 19 = .ok (.aload_n 0, 1) := by decide +kernel
theorem dX2_tellingStreet_20 : decode cX2_tellingStreet 20 = .ok (.aload_n 1, 1) := by decide +kernel
theorem dX2_tellingStreet_21 : decode cX2_tellingStreet 21 = .ok (.iload 4, 2) := by decide +kernel
theorem dX2_tellingStreet_23 : decode cX2_tellingStreet 23 = .ok (.invokevirtual 113, 3) := by decide +kernel
theorem dX2_tellingStreet_26 : decode cX2_tellingStreet 26 = .ok (.istore 5, 2) := by decide +kernel
theorem dX2_tellingStreet_28 : decode cX2_tellingStreet 28 = .ok (.iload 5, 2) := by decide +kernel
theorem dX2_tellingStreet_30 : decode cX2_tellingStreet 30 = .ok (.iload_n 3, 1) := by decide +kernel
theorem dX2_tellingStreet_31 : decode cX2_tellingStreet 31 = .ok (.if_icmp .ge 9, 3) := by decide +kernel
theorem dX2_tellingStreet_34 : decode cX2_tellingStreet 34 = .ok (.iload 5, 2) := by decide +kernel
theorem dX2_tellingStreet_36 : decode cX2_tellingStreet 36 = .ok (.istore_n 3, 1) := by decide +kernel
theorem dX2_tellingStreet_37 : decode cX2_tellingStreet 37 = .ok (.iload 4, 2) := by decide +kernel
theorem dX2_tellingStreet_39 : decode cX2_tellingStreet 39 = .ok (.istore_n 2, 1) := by decide +kernel
theorem dX2_tellingStreet_40 : decode cX2_tellingStreet 40 = .ok (.iinc 4 1, 3) := by decide +kernel
theorem dX2_tellingStreet_43 : decode cX2_tellingStreet 43 = .ok (.goto (-33), 3) := by decide +kernel
theorem dX2_tellingStreet_46 : decode cX2_tellingStreet 46 = .ok (.iload_n 2, 1) := by decide +kernel
theorem dX2_tellingStreet_47 : decode cX2_tellingStreet 47 = .ok (.ireturn, 1) := by decide +kernel
theorem dX2_leftAtWorst_0 : decode cX2_leftAtWorst 0 = .ok (.aload_n 0, 1) := by decide +kernel
theorem dX2_leftAtWorst_1 : decode cX2_leftAtWorst 1 = .ok (.getfield 33, 3) := by decide +kernel
theorem dX2_leftAtWorst_4 : decode cX2_leftAtWorst 4 = .ok (.iconst 0, 1) := by decide +kernel
theorem dX2_leftAtWorst_5 : decode cX2_leftAtWorst 5 = .ok (.invokestatic 117, 3) := by decide +kernel
theorem dX2_leftAtWorst_8 : decode cX2_leftAtWorst 8 = .ok (.iconst 0, 1) := by decide +kernel
theorem dX2_leftAtWorst_9 : decode cX2_leftAtWorst 9 = .ok (.istore_n 3, 1) := by decide +kernel
theorem dX2_leftAtWorst_10 : decode cX2_leftAtWorst 10 = .ok (.iconst 0, 1) := by decide +kernel
theorem dX2_leftAtWorst_11 : decode cX2_leftAtWorst 11 = .ok (.istore 4, 2) := by decide +kernel
theorem dX2_leftAtWorst_13 : decode cX2_leftAtWorst 13 = .ok (.iload 4, 2) := by decide +kernel
theorem dX2_leftAtWorst_15 : decode cX2_leftAtWorst 15 = .ok (.aload_n 1, 1) := by decide +kernel
theorem dX2_leftAtWorst_16 : decode cX2_leftAtWorst 16 = .ok (.getfield 90, 3) := by decide +kernel
theorem dX2_leftAtWorst_19 : decode cX2_leftAtWorst 19 = .ok (.bipush 100, 2) := by decide +kernel
theorem dX2_leftAtWorst_21 : decode cX2_leftAtWorst 21 = .ok (.imul, 1) := by decide +kernel
theorem dX2_leftAtWorst_22 : decode cX2_leftAtWorst 22 = .ok (.if_icmp .ge 65, 3) := by decide +kernel
theorem dX2_leftAtWorst_25 : decode cX2_leftAtWorst 25 = .ok (.aload_n 0, 1) := by decide +kernel
theorem dX2_leftAtWorst_26 : decode cX2_leftAtWorst 26 = .ok (.getfield 29, 3) := by decide +kernel
theorem dX2_leftAtWorst_29 : decode cX2_leftAtWorst 29 = .ok (.iload 4, 2) := by decide +kernel
theorem dX2_leftAtWorst_31 : decode cX2_leftAtWorst 31 = .ok (.baload, 1) := by decide +kernel
theorem dX2_leftAtWorst_32 : decode cX2_leftAtWorst 32 = .ok (.ifCond .eq 49, 3) := by decide +kernel
theorem dX2_leftAtWorst_35 : decode cX2_leftAtWorst 35 = .ok (.aload_n 0, 1) := by decide +kernel
theorem dX2_leftAtWorst_36 : decode cX2_leftAtWorst 36 = .ok (.iload 4, 2) := by decide +kernel
theorem dX2_leftAtWorst_38 : decode cX2_leftAtWorst 38 = .ok (.bipush 100, 2) := by decide +kernel
theorem dX2_leftAtWorst_40 : decode cX2_leftAtWorst 40 = .ok (.idiv, 1) := by decide +kernel
theorem dX2_leftAtWorst_41 : decode cX2_leftAtWorst 41 = .ok (.iload 4, 2) := by decide +kernel
theorem dX2_leftAtWorst_43 : decode cX2_leftAtWorst 43 = .ok (.bipush 100, 2) := by decide +kernel
theorem dX2_leftAtWorst_45 : decode cX2_leftAtWorst 45 = .ok (.irem, 1) := by decide +kernel
theorem dX2_leftAtWorst_46 : decode cX2_leftAtWorst 46 = .ok (.iload_n 2, 1) := by decide +kernel
theorem dX2_leftAtWorst_47 : decode cX2_leftAtWorst 47 = .ok (.invokevirtual 75, 3) := by decide +kernel
theorem dX2_leftAtWorst_50 : decode cX2_leftAtWorst 50 = .ok (.sipush 1000, 3) := by decide +kernel
theorem dX2_leftAtWorst_53 : decode cX2_leftAtWorst 53 = .ok (.invokestatic 63, 3) := by decide +kernel
theorem dX2_leftAtWorst_56 : decode cX2_leftAtWorst 56 = .ok (.istore 5, 2) := by decide +kernel
theorem dX2_leftAtWorst_58 : decode cX2_leftAtWorst 58 = .ok (.aload_n 0, 1) := by decide +kernel
theorem dX2_leftAtWorst_59 : decode cX2_leftAtWorst 59 = .ok (.getfield 33, 3) := by decide +kernel
theorem dX2_leftAtWorst_62 : decode cX2_leftAtWorst 62 = .ok (.iload 5, 2) := by decide +kernel
theorem dX2_leftAtWorst_64 : decode cX2_leftAtWorst 64 = .ok (.dup2, 1) := by decide +kernel
theorem dX2_leftAtWorst_65 : decode cX2_leftAtWorst 65 = .ok (.iaload, 1) := by decide +kernel
theorem dX2_leftAtWorst_66 : decode cX2_leftAtWorst 66 = .ok (.iconst 1, 1) := by decide +kernel
theorem dX2_leftAtWorst_67 : decode cX2_leftAtWorst 67 = .ok (.iadd, 1) := by decide +kernel
theorem dX2_leftAtWorst_68 : decode cX2_leftAtWorst 68 = .ok (.iastore, 1) := by decide +kernel
theorem dX2_leftAtWorst_69 : decode cX2_leftAtWorst 69 = .ok (.iload_n 3, 1) := by decide +kernel
theorem dX2_leftAtWorst_70 : decode cX2_leftAtWorst 70 = .ok (.aload_n 0, 1) := by decide +kernel
theorem dX2_leftAtWorst_71 : decode cX2_leftAtWorst 71 = .ok (.getfield 33, 3) := by decide +kernel
theorem dX2_leftAtWorst_74 : decode cX2_leftAtWorst 74 = .ok (.iload 5, 2) := by decide +kernel
theorem dX2_leftAtWorst_76 : decode cX2_leftAtWorst 76 = .ok (.iaload, 1) := by decide +kernel
theorem dX2_leftAtWorst_77 : decode cX2_leftAtWorst 77 = .ok (.invokestatic 123, 3) := by decide +kernel
theorem dX2_leftAtWorst_80 : decode cX2_leftAtWorst 80 = .ok (.istore_n 3, 1) := by decide +kernel
theorem dX2_leftAtWorst_81 : decode cX2_leftAtWorst 81 = .ok (.iinc 4 1, 3) := by decide +kernel
theorem dX2_leftAtWorst_84 : decode cX2_leftAtWorst 84 = .ok (.goto (-71), 3) := by decide +kernel
theorem dX2_leftAtWorst_87 : decode cX2_leftAtWorst 87 = .ok (.iload_n 3, 1) := by decide +kernel
theorem dX2_leftAtWorst_88 : decode cX2_leftAtWorst 88 = .ok (.ireturn, 1) := by decide +kernel
theorem dX3_init_0 : decode cX3_init 0 = .ok (.aload_n 0, 1) := by decide +kernel
theorem dX3_init_1 : decode cX3_init 1 = .ok (.invokespecial 3, 3) := by decide +kernel
theorem dX3_init_4 : decode cX3_init 4 = .ok (.aload_n 0, 1) := by decide +kernel
theorem dX3_init_5 : decode cX3_init 5 = .ok (.new 9, 3) := by decide +kernel
theorem dX3_init_8 : decode cX3_init 8 = .ok (.dup, 1) := by decide +kernel
theorem dX3_init_9 : decode cX3_init 9 = .ok (.invokespecial 11, 3) := by decide +kernel
theorem dX3_init_12 : decode cX3_init 12 = .ok (.putfield 12, 3) := by decide +kernel
theorem dX3_init_15 : decode cX3_init 15 = .ok (.aload_n 0, 1) := by decide +kernel
theorem dX3_init_16 : decode cX3_init 16 = .ok (.sipush 1000, 3) := by decide +kernel
theorem dX3_init_19 : decode cX3_init 19 = .ok (.newarray .long, 2) := by decide +kernel
theorem dX3_init_21 : decode cX3_init 21 = .ok (.putfield 18, 3) := by decide +kernel
theorem dX3_init_24 : decode cX3_init 24 = .ok (.return_, 1) := by decide +kernel
theorem dX3_evening_0 : decode cX3_evening 0 = .ok (.iconst 0, 1) := by decide +kernel
theorem dX3_evening_1 : decode cX3_evening 1 = .ok (.istore_n 3, 1) := by decide +kernel
theorem dX3_evening_2 : decode cX3_evening 2 = .ok (.lload_n 1, 1) := by decide +kernel
theorem dX3_evening_3 : decode cX3_evening 3 = .ok (.lstore 4, 2) := by decide +kernel
theorem dX3_evening_5 : decode cX3_evening 5 = .ok (.iconst 0, 1) := by decide +kernel
theorem dX3_evening_6 : decode cX3_evening 6 = .ok (.istore 6, 2) := by decide +kernel
theorem dX3_evening_8 : decode cX3_evening 8 = .ok (.iload 6, 2) := by decide +kernel
theorem dX3_evening_10 : decode cX3_evening 10 = .ok (.aload_n 0, 1) := by decide +kernel
theorem dX3_evening_11 : decode cX3_evening 11 = .ok (.getfield 22, 3) := by decide +kernel
theorem dX3_evening_14 : decode cX3_evening 14 = .ok (.if_icmp .ge 54, 3) := by decide +kernel
theorem dX3_evening_17 : decode cX3_evening 17 = .ok (.ldc2_w 28, 3) := by decide +kernel
theorem dX3_evening_20 : decode cX3_evening 20 = .ok (.lload 4, 2) := by decide +kernel
theorem dX3_evening_22 : decode cX3_evening 22 = .ok (.lmul, 1) := by decide +kernel
theorem dX3_evening_23 : decode cX3_evening 23 = .ok (.ldc2_w 30, 3) := by decide +kernel
theorem dX3_evening_26 : decode cX3_evening 26 = .ok (.ladd, 1) := by decide +kernel
theorem dX3_evening_27 : decode cX3_evening 27 = .ok (.ldc2_w 32, 3) := by decide +kernel
theorem dX3_evening_30 : decode cX3_evening 30 = .ok (.lrem, 1) := by decide +kernel
theorem dX3_evening_31 : decode cX3_evening 31 = .ok (.lstore 4, 2) := by decide +kernel
theorem dX3_evening_33 : decode cX3_evening 33 = .ok (.lload 4, 2) := by decide +kernel
theorem dX3_evening_35 : decode cX3_evening 35 = .ok (.ldc2_w 34, 3) := by decide +kernel
theorem dX3_evening_38 : decode cX3_evening 38 = .ok (.ldiv, 1) := by decide +kernel
theorem dX3_evening_39 : decode cX3_evening 39 = .ok (.ldc2_w 36, 3) := by decide +kernel
theorem dX3_evening_42 : decode cX3_evening 42 = .ok (.lrem, 1) := by decide +kernel
theorem dX3_evening_43 : decode cX3_evening 43 = .ok (.aload_n 0, 1) := by decide +kernel
theorem dX3_evening_44 : decode cX3_evening 44 = .ok (.getfield 38, 3) := by decide +kernel
theorem dX3_evening_47 : decode cX3_evening 47 = .ok (.iload 6, 2) := by decide +kernel
theorem dX3_evening_49 : decode cX3_evening 49 = .ok (.iaload, 1) := by decide +kernel
theorem dX3_evening_50 : decode cX3_evening 50 = .ok (.i2l, 1) := by decide +kernel
theorem dX3_evening_51 : decode cX3_evening 51 = .ok (.lcmp, 1) := by decide +kernel
theorem dX3_evening_52 : decode cX3_evening 52 = .ok (.ifCond .ge 10, 3) := by decide +kernel
theorem dX3_evening_55 : decode cX3_evening 55 = .ok (.iload_n 3, 1) := by decide +kernel
theorem dX3_evening_56 : decode cX3_evening 56 = .ok (.iconst 1, 1) := by decide +kernel
theorem dX3_evening_57 : decode cX3_evening 57 = .ok (.iload 6, 2) := by decide +kernel
theorem dX3_evening_59 : decode cX3_evening 59 = .ok (.ishl, 1) := by decide +kernel
theorem dX3_evening_60 : decode cX3_evening 60 = .ok (.ior, 1) := by decide +kernel
theorem dX3_evening_61 : decode cX3_evening 61 = .ok (.istore_n 3, 1) := by decide +kernel
theorem dX3_evening_62 : decode cX3_evening 62 = .ok (.iinc 6 1, 3) := by decide +kernel
theorem dX3_evening_65 : decode cX3_evening 65 = .ok (.goto (-57), 3) := by decide +kernel
theorem dX3_evening_68 : decode cX3_evening 68 = .ok (.iload_n 3, 1) := by decide +kernel
theorem dX3_evening_69 : decode cX3_evening 69 = .ok (.ireturn, 1) := by decide +kernel
theorem dX3_weighStreet_0 : decode cX3_weighStreet 0 = .ok (.aload_n 0, 1) := by decide +kernel
theorem dX3_weighStreet_1 : decode cX3_weighStreet 1 = .ok (.getfield 18, 3) := by decide +kernel
theorem dX3_weighStreet_4 : decode cX3_weighStreet 4 = .ok (.lconst 0, 1) := by decide +kernel
theorem dX3_weighStreet_5 : decode cX3_weighStreet 5 = .ok (.invokestatic 42, 3) := by decide +kernel
theorem dX3_weighStreet_8 : decode cX3_weighStreet 8 = .ok (.iconst 0, 1) := by decide +kernel
theorem dX3_weighStreet_9 : decode cX3_weighStreet 9 = .ok (.istore_n 3, 1) := by decide +kernel
theorem dX3_weighStreet_10 : decode cX3_weighStreet 10 = .ok (.iconst 0, 1) := by decide +kernel
theorem dX3_weighStreet_11 : decode cX3_weighStreet 11 = .ok (.istore 4, 2) := by decide +kernel
theorem dX3_weighStreet_13 : decode cX3_weighStreet 13 = .ok (.iconst 0, 1) := by decide +kernel
theorem dX3_weighStreet_14 : decode cX3_weighStreet 14 = .ok (.istore 5, 2) := by decide +kernel
theorem dX3_weighStreet_16 : decode cX3_weighStreet 16 = .ok (.iload 5, 2) := by decide +kernel
theorem dX3_weighStreet_18 : decode cX3_weighStreet 18 = .ok (.aload_n 1, 1) := by decide +kernel
theorem dX3_weighStreet_19 : decode cX3_weighStreet 19 = .ok (.getfield 22, 3) := by decide +kernel
theorem dX3_weighStreet_22 : decode cX3_weighStreet 22 = .ok (.if_icmp .ge 63, 3) := by decide +kernel
theorem dX3_weighStreet_25 : decode cX3_weighStreet 25 = .ok (.aload_n 1, 1) := by decide +kernel
theorem dX3_weighStreet_26 : decode cX3_weighStreet 26 = .ok (.getfield 38, 3) := by decide +kernel
theorem dX3_weighStreet_29 : decode cX3_weighStreet 29 = .ok (.iload 5, 2) := by decide +kernel
theorem dX3_weighStreet_31 : decode cX3_weighStreet 31 = .ok (.iaload, 1) := by decide +kernel
theorem dX3_weighStreet_32 : decode cX3_weighStreet 32 = .ok (.ifCond .eq 15, 3) := by decide +kernel
theorem dX3_weighStreet_35 : decode cX3_weighStreet 35 = .ok (.aload_n 1, 1) := by decide +kernel
theorem dX3_weighStreet_36 : decode cX3_weighStreet 36 = .ok (.getfield 38, 3) := by decide +kernel
theorem dX3_weighStreet_39 : decode cX3_weighStreet 39 = .ok (.iload 5, 2) := by decide +kernel
theorem dX3_weighStreet_41 : decode cX3_weighStreet 41 = .ok (.iaload, 1) := by decide +kernel
theorem dX3_weighStreet_42 : decode cX3_weighStreet 42 = .ok (.bipush 10, 2) := by decide +kernel
theorem dX3_weighStreet_44 : decode cX3_weighStreet 44 = .ok (.if_icmp .ne 35, 3) := by decide +kernel
theorem dX3_weighStreet_47 : decode cX3_weighStreet 47 = .ok (.iload_n 3, 1) := by decide +kernel
theorem dX3_weighStreet_48 : decode cX3_weighStreet 48 = .ok (.iconst 1, 1) := by decide +kernel
theorem dX3_weighStreet_49 : decode cX3_weighStreet 49 = .ok (.iload 5, 2) := by decide +kernel
theorem dX3_weighStreet_51 : decode cX3_weighStreet 51 = .ok (.ishl, 1) := by decide +kernel
theorem dX3_weighStreet_52 : decode cX3_weighStreet 52 = .ok (.ior, 1) := by decide +kernel
theorem dX3_weighStreet_53 : decode cX3_weighStreet 53 = .ok (.istore_n 3, 1) := by decide +kernel
theorem dX3_weighStreet_54 : decode cX3_weighStreet 54 = .ok (.iload 4, 2) := by decide +kernel
theorem dX3_weighStreet_56 : decode cX3_weighStreet 56 = .ok (.aload_n 1, 1) := by decide +kernel
theorem dX3_weighStreet_57 : decode cX3_weighStreet 57 = .ok (.getfield 38, 3) := by decide +kernel
theorem dX3_weighStreet_60 : decode cX3_weighStreet 60 = .ok (.iload 5, 2) := by decide +kernel
theorem dX3_weighStreet_62 : decode cX3_weighStreet 62 = .ok (.iaload, 1) := by decide +kernel
theorem dX3_weighStreet_63 : decode cX3_weighStreet 63 = .ok (.bipush 10, 2) := by decide +kernel
theorem dX3_weighStreet_65 : decode cX3_weighStreet 65 = .ok (.if_icmp .ne 10, 3) := by decide +kernel
theorem dX3_weighStreet_68 : decode cX3_weighStreet 68 = .ok (.iconst 1, 1) := by decide +kernel
theorem dX3_weighStreet_69 : decode cX3_weighStreet 69 = .ok (.iload 5, 2) := by decide +kernel
theorem dX3_weighStreet_71 : decode cX3_weighStreet 71 = .ok (.ishl, 1) := by decide +kernel
theorem dX3_weighStreet_72 : decode cX3_weighStreet 72 = .ok (.goto 4, 3) := by decide +kernel
theorem dX3_weighStreet_75 : decode cX3_weighStreet 75 = .ok (.iconst 0, 1) := by decide +kernel
theorem dX3_weighStreet_76 : decode cX3_weighStreet 76 = .ok (.ior, 1) := by decide +kernel
theorem dX3_weighStreet_77 : decode cX3_weighStreet 77 = .ok (.istore 4, 2) := by decide +kernel
theorem dX3_weighStreet_79 : decode cX3_weighStreet 79 = .ok (.iinc 5 1, 3) := by decide +kernel
theorem dX3_weighStreet_82 : decode cX3_weighStreet 82 = .ok (.goto (-66), 3) := by decide +kernel
theorem dX3_weighStreet_85 : decode cX3_weighStreet 85 = .ok (.aload_n 0, 1) := by decide +kernel
theorem dX3_weighStreet_86 : decode cX3_weighStreet 86 = .ok (.aload_n 1, 1) := by decide +kernel
theorem dX3_weighStreet_87 : decode cX3_weighStreet 87 = .ok (.iload_n 2, 1) := by decide +kernel
theorem dX3_weighStreet_88 : decode cX3_weighStreet 88 = .ok (.iload_n 3, 1) := by decide +kernel
theorem dX3_weighStreet_89 : decode cX3_weighStreet 89 = .ok (.iload 4, 2) := by decide +kernel
theorem dX3_weighStreet_91 : decode cX3_weighStreet 91 = .ok (.ldc2_w 48, 3) := by decide +kernel
theorem dX3_weighStreet_94 : decode cX3_weighStreet 94 = .ok (.iconst 0, 1) := by decide +kernel
theorem dX3_weighStreet_95 : decode cX3_weighStreet 95 = .ok (.invokevirtual 50, 3) := by decide +kernel
theorem dX3_weighStreet_98 : decode cX3_weighStreet 98 = .ok (.return_, 1) := by decide +kernel
theorem dX3_weighLanes_0 : decode cX3_weighLanes 0 = .ok (.aload_n 0, 1) := by decide +kernel
theorem dX3_weighLanes_1 : decode cX3_weighLanes 1 = .ok (.getfield 12, 3) := by decide +kernel
theorem dX3_weighLanes_4 : decode cX3_weighLanes 4 = .ok (.aload_n 1, 1) := by decide +kernel
theorem dX3_weighLanes_5 : decode cX3_weighLanes 5 = .ok (.aload_n 1, 1) := by decide +kernel
theorem dX3_weighLanes_6 : decode cX3_weighLanes 6 = .ok (.invokevirtual 54, 3) := by decide +kernel
theorem dX3_weighLanes_9 : decode cX3_weighLanes 9 = .ok (.iload 4, 2) := by decide +kernel
theorem dX3_weighLanes_11 : decode cX3_weighLanes 11 = .ok (.invokevirtual 58, 3) := by decide +kernel
theorem dX3_weighLanes_14 : decode cX3_weighLanes 14 = .ok (.aload_n 0, 1) := by decide +kernel
theorem dX3_weighLanes_15 : decode cX3_weighLanes 15 = .ok (.getfield 12, 3) := by decide +kernel
theorem dX3_weighLanes_18 : decode cX3_weighLanes 18 = .ok (.getfield 62, 3) := by decide +kernel
theorem dX3_weighLanes_21 : decode cX3_weighLanes 21 = .ok (.iload_n 2, 1) := by decide +kernel
theorem dX3_weighLanes_22 : decode cX3_weighLanes 22 = .ok (.iaload, 1) := by decide +kernel
theorem dX3_weighLanes_23 : decode cX3_weighLanes 23 = .ok (.istore 8, 2) := by decide +kernel
theorem dX3_weighLanes_25 : decode cX3_weighLanes 25 = .ok (.iload 8, 2) := by decide +kernel
theorem dX3_weighLanes_27 : decode cX3_weighLanes 27 = .ok (.sipush 1000, 3) := by decide +kernel
theorem dX3_weighLanes_30 : decode cX3_weighLanes 30 = .ok (.if_icmp .lt 4, 3) := by decide +kernel
theorem dX3_weighLanes_33 : decode cX3_weighLanes 33 = .ok (.return_, 1) := by decide +kernel
theorem dX3_weighLanes_34 : decode cX3_weighLanes 34 = .ok (.aload_n 0, 1) := by decide +kernel
theorem dX3_weighLanes_35 : decode cX3_weighLanes 35 = .ok (.getfield 12, 3) := by decide +kernel
theorem dX3_weighLanes_38 : decode cX3_weighLanes 38 = .ok (.aload_n 1, 1) := by decide +kernel
theorem dX3_weighLanes_39 : decode cX3_weighLanes 39 = .ok (.iload_n 2, 1) := by decide +kernel
theorem dX3_weighLanes_40 : decode cX3_weighLanes 40 = .ok (.invokevirtual 65, 3) := by decide +kernel
theorem dX3_weighLanes_43 : decode cX3_weighLanes 43 = .ok (.iload_n 3, 1) := by decide +kernel
theorem dX3_weighLanes_44 : decode cX3_weighLanes 44 = .ok (.iconst (-1), 1) := by decide +kernel
theorem dX3_weighLanes_45 : decode cX3_weighLanes 45 = .ok (.ixor, 1) := by decide +kernel
theorem dX3_weighLanes_46 : decode cX3_weighLanes 46 = .ok (.iand, 1) := by decide +kernel
theorem dX3_weighLanes_47 : decode cX3_weighLanes 47 = .ok (.istore 9, 2) := by decide +kernel
theorem dX3_weighLanes_49 : decode cX3_weighLanes 49 = .ok (.iload 9, 2) := by decide +kernel
theorem dX3_weighLanes_51 : decode cX3_weighLanes 51 = .ok (.iload 9, 2) := by decide +kernel
theorem dX3_weighLanes_53 : decode cX3_weighLanes 53 = .ok (.ineg, 1) := by decide +kernel
theorem dX3_weighLanes_54 : decode cX3_weighLanes 54 = .ok (.iand, 1) := by decide +kernel
theorem dX3_weighLanes_55 : decode cX3_weighLanes 55 = .ok (.iconst 1, 1) := by decide +kernel
theorem dX3_weighLanes_56 : decode cX3_weighLanes 56 = .ok (.isub, 1) := by decide +kernel
theorem dX3_weighLanes_57 : decode cX3_weighLanes 57 = .ok (.invokestatic 69, 3) := by decide +kernel
theorem dX3_weighLanes_60 : decode cX3_weighLanes 60 = .ok (.istore 10, 2) := by decide +kernel
theorem dX3_weighLanes_62 : decode cX3_weighLanes 62 = .ok (.iload 9, 2) := by decide +kernel
theorem dX3_weighLanes_64 : decode cX3_weighLanes 64 = .ok (.ifCond .eq 17, 3) := by decide +kernel
theorem dX3_weighLanes_67 : decode cX3_weighLanes 67 = .ok (.iload 10, 2) := by decide +kernel
theorem dX3_weighLanes_69 : decode cX3_weighLanes 69 = .ok (.bipush 10, 2) := by decide +kernel
theorem dX3_weighLanes_71 : decode cX3_weighLanes 71 = .ok (.if_icmp .ge 10, 3) := by decide +kernel
theorem dX3_weighLanes_74 : decode cX3_weighLanes 74 = .ok (.iload 7, 2) := by decide +kernel
theorem dX3_weighLanes_76 : decode cX3_weighLanes 76 = .ok (.bipush 10, 2) := by decide +kernel
theorem dX3_weighLanes_78 : decode cX3_weighLanes 78 = .ok (.if_icmp .lt 16, 3) := by decide +kernel
theorem dX3_weighLanes_81 : decode cX3_weighLanes 81 = .ok (.aload_n 0, 1) := by decide +kernel
theorem dX3_weighLanes_82 : decode cX3_weighLanes 82 = .ok (.getfield 18, 3) := by decide +kernel
theorem dX3_weighLanes_85 : decode cX3_weighLanes 85 = .ok (.iload 8, 2) := by decide +kernel
theorem dX3_weighLanes_87 : decode cX3_weighLanes 87 = .ok (.dup2, 1) := by decide +kernel
theorem dX3_weighLanes_88 : decode cX3_weighLanes 88 = .ok (.laload, 1) := by decide +kernel
theorem dX3_weighLanes_89 : decode cX3_weighLanes 89 = .ok (.lload 5, 2) := by decide +kernel
theorem dX3_weighLanes_91 : decode cX3_weighLanes 91 = .ok (.ladd, 1) := by decide +kernel
theorem dX3_weighLanes_92 : decode cX3_weighLanes 92 = .ok (.lastore, 1) := by decide +kernel
theorem dX3_weighLanes_93 : decode cX3_weighLanes 93 = .ok (.return_, 1) := by decide +kernel
theorem dX3_weighLanes_94 : decode cX3_weighLanes 94 = .ok (.iconst 1, 1) := by decide +kernel
theorem dX3_weighLanes_95 : decode cX3_weighLanes 95 = .ok (.iload 10, 2) := by decide +kernel
theorem dX3_weighLanes_97 : decode cX3_weighLanes 97 = .ok (.ishl, 1) := by decide +kernel
theorem dX3_weighLanes_98 : decode cX3_weighLanes 98 = .ok (.istore 11, 2) := by decide +kernel
theorem dX3_weighLanes_100 : decode cX3_weighLanes 100 = .ok (.lload 5, 2) := by decide +kernel
theorem dX3_weighLanes_102 : decode cX3_weighLanes 102 = .ok (.ldc2_w 36, 3) := by decide +kernel
theorem dX3_weighLanes_105 : decode cX3_weighLanes 105 = .ok (.ldiv, 1) := by decide +kernel
theorem dX3_weighLanes_106 : decode cX3_weighLanes 106 = .ok (.lstore 12, 2) := by decide +kernel
theorem dX3_weighLanes_108 : decode cX3_weighLanes 108 = .ok (.aload_n 0, 1) := by decide +kernel
theorem dX3_weighLanes_109 : decode cX3_weighLanes 109 = .ok (.aload_n 1, 1) := by decide +kernel
theorem dX3_weighLanes_110 : decode cX3_weighLanes 110 = .ok (.iload_n 2, 1) := by decide +kernel
theorem dX3_weighLanes_111 : decode cX3_weighLanes 111 = .ok (.iload_n 3, 1) := by decide +kernel
theorem dX3_weighLanes_112 : decode cX3_weighLanes 112 = .ok (.iload 11, 2) := by decide +kernel
theorem dX3_weighLanes_114 : decode cX3_weighLanes 114 = .ok (.ior, 1) := by decide +kernel
theorem dX3_weighLanes_115 : decode cX3_weighLanes 115 = .ok (.iload 4, 2) := by decide +kernel
theorem dX3_weighLanes_117 : decode cX3_weighLanes 117 = .ok (.lload 12, 2) := by decide +kernel
theorem dX3_weighLanes_119 : decode cX3_weighLanes 119 = .ok (.bipush 10, 2) := by decide +kernel
theorem dX3_weighLanes_121 : decode cX3_weighLanes 121 = .ok (.aload_n 1, 1) := by decide +kernel
theorem dX3_weighLanes_122 : decode cX3_weighLanes 122 = .ok (.getfield 38, 3) := by decide +kernel
theorem dX3_weighLanes_125 : decode cX3_weighLanes 125 = .ok (.iload 10, 2) := by decide +kernel
theorem dX3_weighLanes_127 : decode cX3_weighLanes 127 = .ok (.iaload, 1) := by decide +kernel
theorem dX3_weighLanes_128 : decode cX3_weighLanes 128 = .ok (.isub, 1) := by decide +kernel
theorem dX3_weighLanes_129 : decode cX3_weighLanes 129 = .ok (.i2l, 1) := by decide +kernel
theorem dX3_weighLanes_130 : decode cX3_weighLanes 130 = .ok (.lmul, 1) := by decide +kernel
theorem dX3_weighLanes_131 : decode cX3_weighLanes 131 = .ok (.iload 7, 2) := by decide +kernel
theorem dX3_weighLanes_133 : decode cX3_weighLanes 133 = .ok (.iconst 1, 1) := by decide +kernel
theorem dX3_weighLanes_134 : decode cX3_weighLanes 134 = .ok (.iadd, 1) := by decide +kernel
theorem dX3_weighLanes_135 : decode cX3_weighLanes 135 = .ok (.invokevirtual 50, 3) := by decide +kernel
theorem dX3_weighLanes_138 : decode cX3_weighLanes 138 = .ok (.aload_n 0, 1) := by decide +kernel
theorem dX3_weighLanes_139 : decode cX3_weighLanes 139 = .ok (.aload_n 1, 1) := by decide +kernel
theorem dX3_weighLanes_140 : decode cX3_weighLanes 140 = .ok (.iload_n 2, 1) := by decide +kernel
theorem dX3_weighLanes_141 : decode cX3_weighLanes 141 = .ok (.iload_n 3, 1) := by decide +kernel
theorem dX3_weighLanes_142 : decode cX3_weighLanes 142 = .ok (.iload 11, 2) := by decide +kernel
theorem dX3_weighLanes_144 : decode cX3_weighLanes 144 = .ok (.ior, 1) := by decide +kernel
theorem dX3_weighLanes_145 : decode cX3_weighLanes 145 = .ok (.iload 4, 2) := by decide +kernel
theorem dX3_weighLanes_147 : decode cX3_weighLanes 147 = .ok (.iload 11, 2) := by decide +kernel
theorem dX3_weighLanes_149 : decode cX3_weighLanes 149 = .ok (.ior, 1) := by decide +kernel
theorem dX3_weighLanes_150 : decode cX3_weighLanes 150 = .ok (.lload 12, 2) := by decide +kernel
theorem dX3_weighLanes_152 : decode cX3_weighLanes 152 = .ok (.aload_n 1, 1) := by decide +kernel
theorem dX3_weighLanes_153 : decode cX3_weighLanes 153 = .ok (.getfield 38, 3) := by decide +kernel
theorem dX3_weighLanes_156 : decode cX3_weighLanes 156 = .ok (.iload 10, 2) := by decide +kernel
theorem dX3_weighLanes_158 : decode cX3_weighLanes 158 = .ok (.iaload, 1) := by decide +kernel
theorem dX3_weighLanes_159 : decode cX3_weighLanes 159 = .ok (.i2l, 1) := by decide +kernel
theorem dX3_weighLanes_160 : decode cX3_weighLanes 160 = .ok (.lmul, 1) := by decide +kernel
theorem dX3_weighLanes_161 : decode cX3_weighLanes 161 = .ok (.iload 7, 2) := by decide +kernel
theorem dX3_weighLanes_163 : decode cX3_weighLanes 163 = .ok (.iconst 1, 1) := by decide +kernel
theorem dX3_weighLanes_164 : decode cX3_weighLanes 164 = .ok (.iadd, 1) := by decide +kernel
theorem dX3_weighLanes_165 : decode cX3_weighLanes 165 = .ok (.invokevirtual 50, 3) := by decide +kernel
theorem dX3_weighLanes_168 : decode cX3_weighLanes 168 = .ok (.return_, 1) := by decide +kernel
theorem dX3_chanceBy_0 : decode cX3_chanceBy 0 = .ok (.lconst 0, 1) := by decide +kernel
theorem dX3_chanceBy_1 : decode cX3_chanceBy 1 = .ok (.lstore_n 3, 1) := by decide +kernel
theorem dX3_chanceBy_2 : decode cX3_chanceBy 2 = .ok (.iconst 0, 1) := by decide +kernel
theorem dX3_chanceBy_3 : decode cX3_chanceBy 3 = .ok (.istore 5, 2) := by decide +kernel
theorem dX3_chanceBy_5 : decode cX3_chanceBy 5 = .ok (.iload 5, 2) := by decide +kernel
theorem dX3_chanceBy_7 : decode cX3_chanceBy 7 = .ok (.iload_n 1, 1) := by decide +kernel
theorem dX3_chanceBy_8 : decode cX3_chanceBy 8 = .ok (.if_icmp .gt 27, 3) := by decide +kernel
theorem dX3_chanceBy_11 : decode cX3_chanceBy 11 = .ok (.iload 5, 2) := by decide +kernel
theorem dX3_chanceBy_13 : decode cX3_chanceBy 13 = .ok (.sipush 1000, 3) := by decide +kernel
theorem dX3_chanceBy_16 : decode cX3_chanceBy 16 = .ok (.if_icmp .ge 19, 3) := by decide +kernel
theorem dX3_chanceBy_19 : decode cX3_chanceBy 19 = .ok (.lload_n 3, 1) := by decide +kernel
theorem dX3_chanceBy_20 : decode cX3_chanceBy 20 = .ok (.aload_n 0, 1) := by decide +kernel
theorem dX3_chanceBy_21 : decode cX3_chanceBy 21 = .ok (.getfield 18, 3) := by decide +kernel
theorem dX3_chanceBy_24 : decode cX3_chanceBy 24 = .ok (.iload 5, 2) := by decide +kernel
theorem dX3_chanceBy_26 : decode cX3_chanceBy 26 = .ok (.laload, 1) := by decide +kernel
theorem dX3_chanceBy_27 : decode cX3_chanceBy 27 = .ok (.ladd, 1) := by decide +kernel
theorem dX3_chanceBy_28 : decode cX3_chanceBy 28 = .ok (.lstore_n 3, 1) := by decide +kernel
theorem dX3_chanceBy_29 : decode cX3_chanceBy 29 = .ok (.iinc 5 1, 3) := by decide +kernel
theorem dX3_chanceBy_32 : decode cX3_chanceBy 32 = .ok (.goto (-27), 3) := by decide +kernel
theorem dX3_chanceBy_35 : decode cX3_chanceBy 35 = .ok (.ldc2_w 48, 3) := by decide +kernel
theorem dX3_chanceBy_38 : decode cX3_chanceBy 38 = .ok (.lload_n 3, 1) := by decide +kernel
theorem dX3_chanceBy_39 : decode cX3_chanceBy 39 = .ok (.invokestatic 75, 3) := by decide +kernel
theorem dX3_chanceBy_42 : decode cX3_chanceBy 42 = .ok (.lstore 5, 2) := by decide +kernel
theorem dX3_chanceBy_44 : decode cX3_chanceBy 44 = .ok (.lload 5, 2) := by decide +kernel
theorem dX3_chanceBy_46 : decode cX3_chanceBy 46 = .ok (.lconst 0, 1) := by decide +kernel
theorem dX3_chanceBy_47 : decode cX3_chanceBy 47 = .ok (.lcmp, 1) := by decide +kernel
theorem dX3_chanceBy_48 : decode cX3_chanceBy 48 = .ok (.ifCond .gt 7, 3) := by decide +kernel
theorem dX3_chanceBy_51 : decode cX3_chanceBy 51 = .ok (.lconst 0, 1) := by decide +kernel
theorem dX3_chanceBy_52 : decode cX3_chanceBy 52 = .ok (.goto 17, 3) := by decide +kernel
theorem dX3_chanceBy_55 : decode cX3_chanceBy 55 = .ok (.iload_n 2, 1) := by decide +kernel
theorem dX3_chanceBy_56 : decode cX3_chanceBy 56 = .ok (.ifCond .eq 9, 3) := by decide +kernel
theorem dX3_chanceBy_59 : decode cX3_chanceBy 59 = .ok (.ldc2_w 48, 3) := by decide +kernel
theorem dX3_chanceBy_62 : decode cX3_chanceBy 62 = .ok (.goto 4, 3) := by decide +kernel
theorem dX3_chanceBy_65 : decode cX3_chanceBy 65 = .ok (.lload_n 3, 1) := by decide +kernel
theorem dX3_chanceBy_66 : decode cX3_chanceBy 66 = .ok (.lload 5, 2) := by decide +kernel
theorem dX3_chanceBy_68 : decode cX3_chanceBy 68 = .ok (.ldiv, 1) := by decide +kernel
theorem dX3_chanceBy_69 : decode cX3_chanceBy 69 = .ok (.lreturn, 1) := by decide +kernel
theorem dX3_commonDivisor_0 : decode cX3_commonDivisor 0 = .ok (.lload_n 0, 1) := by decide +kernel
theorem dX3_commonDivisor_1 : decode cX3_commonDivisor 1 = .ok (.lstore 4, 2) := by decide +kernel
theorem dX3_commonDivisor_3 : decode cX3_commonDivisor 3 = .ok (.lload_n 2, 1) := by decide +kernel
theorem dX3_commonDivisor_4 : decode cX3_commonDivisor 4 = .ok (.lstore 6, 2) := by decide +kernel
theorem dX3_commonDivisor_6 : decode cX3_commonDivisor 6 = .ok (.iconst 0, 1) := by decide +kernel
theorem dX3_commonDivisor_7 : decode cX3_commonDivisor 7 = .ok (.istore 8, 2) := by decide +kernel
theorem dX3_commonDivisor_9 : decode cX3_commonDivisor 9 = .ok (.iload 8, 2) := by decide +kernel
theorem dX3_commonDivisor_11 : decode cX3_commonDivisor 11 = .ok (.bipush 100, 2) := by decide +kernel
theorem dX3_commonDivisor_13 : decode cX3_commonDivisor 13 = .ok (.if_icmp .ge 31, 3) := by decide +kernel
theorem dX3_commonDivisor_16 : decode cX3_commonDivisor 16 = .ok (.lload 6, 2) := by decide +kernel
theorem dX3_commonDivisor_18 : decode cX3_commonDivisor 18 = .ok (.lconst 0, 1) := by decide +kernel
theorem dX3_commonDivisor_19 : decode cX3_commonDivisor 19 = .ok (.lcmp, 1) := by decide +kernel
theorem dX3_commonDivisor_20 : decode cX3_commonDivisor 20 = .ok (.ifCond .eq 24, 3) := by decide +kernel
theorem dX3_commonDivisor_23 : decode cX3_commonDivisor 23 = .ok (.lload 4, 2) := by decide +kernel
theorem dX3_commonDivisor_25 : decode cX3_commonDivisor 25 = .ok (.lload 6, 2) := by decide +kernel
theorem dX3_commonDivisor_27 : decode cX3_commonDivisor 27 = .ok (.lrem, 1) := by decide +kernel
theorem dX3_commonDivisor_28 : decode cX3_commonDivisor 28 = .ok (.lstore 9, 2) := by decide +kernel
theorem dX3_commonDivisor_30 : decode cX3_commonDivisor 30 = .ok (.lload 6, 2) := by decide +kernel
theorem dX3_commonDivisor_32 : decode cX3_commonDivisor 32 = .ok (.lstore 4, 2) := by decide +kernel
theorem dX3_commonDivisor_34 : decode cX3_commonDivisor 34 = .ok (.lload 9, 2) := by decide +kernel
theorem dX3_commonDivisor_36 : decode cX3_commonDivisor 36 = .ok (.lstore 6, 2) := by decide +kernel
theorem dX3_commonDivisor_38 : decode cX3_commonDivisor 38 = .ok (.iinc 8 1, 3) := by decide +kernel
theorem dX3_commonDivisor_41 : decode cX3_commonDivisor 41 = .ok (.goto (-32), 3) := by decide +kernel
theorem dX3_commonDivisor_44 : decode cX3_commonDivisor 44 = .ok (.lload 4, 2) := by decide +kernel
theorem dX3_commonDivisor_46 : decode cX3_commonDivisor 46 = .ok (.lreturn, 1) := by decide +kernel
theorem dX3_leastMinute_0 : decode cX3_leastMinute 0 = .ok (.lconst 0, 1) := by decide +kernel
theorem dX3_leastMinute_1 : decode cX3_leastMinute 1 = .ok (.lstore_n 2, 1) := by decide +kernel
theorem dX3_leastMinute_2 : decode cX3_leastMinute 2 = .ok (.iconst 0, 1) := by decide +kernel
theorem dX3_leastMinute_3 : decode cX3_leastMinute 3 = .ok (.istore 4, 2) := by decide +kernel
theorem dX3_leastMinute_5 : decode cX3_leastMinute 5 = .ok (.iload 4, 2) := by decide +kernel
theorem dX3_leastMinute_7 : decode cX3_leastMinute 7 = .ok (.sipush 1000, 3) := by decide +kernel
theorem dX3_leastMinute_10 : decode cX3_leastMinute 10 = .ok (.if_icmp .ge 37, 3) := by decide +kernel
theorem dX3_leastMinute_13 : decode cX3_leastMinute 13 = .ok (.lload_n 2, 1) := by decide +kernel
theorem dX3_leastMinute_14 : decode cX3_leastMinute 14 = .ok (.aload_n 0, 1) := by decide +kernel
theorem dX3_leastMinute_15 : decode cX3_leastMinute 15 = .ok (.getfield 18, 3) := by decide +kernel
theorem dX3_leastMinute_18 : decode cX3_leastMinute 18 = .ok (.iload 4, 2) := by decide +kernel
theorem dX3_leastMinute_20 : decode cX3_leastMinute 20 = .ok (.laload, 1) := by decide +kernel
theorem dX3_leastMinute_21 : decode cX3_leastMinute 21 = .ok (.ladd, 1) := by decide +kernel
theorem dX3_leastMinute_22 : decode cX3_leastMinute 22 = .ok (.lstore_n 2, 1) := by decide +kernel
theorem dX3_leastMinute_23 : decode cX3_leastMinute 23 = .ok (.lload_n 2, 1) := by decide +kernel
theorem dX3_leastMinute_24 : decode cX3_leastMinute 24 = .ok (.ldc2_w 79, 3) := by decide +kernel
theorem dX3_leastMinute_27 : decode cX3_leastMinute 27 = .ok (.lmul, 1) := by decide +kernel
theorem dX3_leastMinute_28 : decode cX3_leastMinute 28 = .ok (.ldc2_w 48, 3) := by decide +kernel
theorem dX3_leastMinute_31 : decode cX3_leastMinute 31 = .ok (.iload_n 1, 1) := by decide +kernel
theorem dX3_leastMinute_32 : decode cX3_leastMinute 32 = .ok (.i2l, 1) := by decide +kernel
theorem dX3_leastMinute_33 : decode cX3_leastMinute 33 = .ok (.lmul, 1) := by decide +kernel
theorem dX3_leastMinute_34 : decode cX3_leastMinute 34 = .ok (.lcmp, 1) := by decide +kernel
theorem dX3_leastMinute_35 : decode cX3_leastMinute 35 = .ok (.ifCond .lt 6, 3) := by decide +kernel
theorem dX3_leastMinute_38 : decode cX3_leastMinute 38 = .ok (.iload 4, 2) := by decide +kernel
theorem dX3_leastMinute_40 : decode cX3_leastMinute 40 = .ok (.ireturn, 1) := by decide +kernel
theorem dX3_leastMinute_41 : decode cX3_leastMinute 41 = .ok (.iinc 4 1, 3) := by decide +kernel
theorem dX3_leastMinute_44 : decode cX3_leastMinute 44 = .ok (.goto (-39), 3) := by decide +kernel
theorem dX3_leastMinute_47 : decode cX3_leastMinute 47 = .ok (.iconst (-1), 1) := by decide +kernel
theorem dX3_leastMinute_48 : decode cX3_leastMinute 48 = .ok (.ireturn, 1) := by decide +kernel
theorem dX4_init_0 : decode cX4_init 0 = .ok (.aload_n 0, 1) := by decide +kernel
theorem dX4_init_1 : decode cX4_init 1 = .ok (.invokespecial 3, 3) := by decide +kernel
theorem dX4_init_4 : decode cX4_init 4 = .ok (.aload_n 0, 1) := by decide +kernel
theorem dX4_init_5 : decode cX4_init 5 = .ok (.bipush 8, 2) := by decide +kernel
theorem dX4_init_7 : decode cX4_init 7 = .ok (.newarray .int, 2) := by decide +kernel
theorem dX4_init_9 : decode cX4_init 9 = .ok (.putfield 9, 3) := by decide +kernel
theorem dX4_init_12 : decode cX4_init 12 = .ok (.aload_n 0, 1) := by decide +kernel
theorem dX4_init_13 : decode cX4_init 13 = .ok (.bipush 8, 2) := by decide +kernel
theorem dX4_init_15 : decode cX4_init 15 = .ok (.newarray .int, 2) := by decide +kernel
theorem dX4_init_17 : decode cX4_init 17 = .ok (.putfield 15, 3) := by decide +kernel
theorem dX4_init_20 : decode cX4_init 20 = .ok (.aload_n 0, 1) := by decide +kernel
theorem dX4_init_21 : decode cX4_init 21 = .ok (.new 18, 3) := by decide +kernel
theorem dX4_init_24 : decode cX4_init 24 = .ok (.dup, 1) := by decide +kernel
theorem dX4_init_25 : decode cX4_init 25 = .ok (.invokespecial 20, 3) := by decide +kernel
theorem dX4_init_28 : decode cX4_init 28 = .ok (.putfield 21, 3) := by decide +kernel
theorem dX4_init_31 : decode cX4_init 31 = .ok (.aload_n 0, 1) := by decide +kernel
theorem dX4_init_32 : decode cX4_init 32 = .ok (.new 18, 3) := by decide +kernel
theorem dX4_init_35 : decode cX4_init 35 = .ok (.dup, 1) := by decide +kernel
theorem dX4_init_36 : decode cX4_init 36 = .ok (.invokespecial 20, 3) := by decide +kernel
theorem dX4_init_39 : decode cX4_init 39 = .ok (.putfield 25, 3) := by decide +kernel
theorem dX4_init_42 : decode cX4_init 42 = .ok (.return_, 1) := by decide +kernel
theorem dX4_settle_0 : decode cX4_settle 0 = .ok (.aload_n 0, 1) := by decide +kernel
theorem dX4_settle_1 : decode cX4_settle 1 = .ok (.getfield 21, 3) := by decide +kernel
theorem dX4_settle_4 : decode cX4_settle 4 = .ok (.aload_n 1, 1) := by decide +kernel
theorem dX4_settle_5 : decode cX4_settle 5 = .ok (.invokevirtual 28, 3) := by decide +kernel
theorem dX4_settle_8 : decode cX4_settle 8 = .ok (.aload_n 0, 1) := by decide +kernel
theorem dX4_settle_9 : decode cX4_settle 9 = .ok (.getfield 15, 3) := by decide +kernel
theorem dX4_settle_12 : decode cX4_settle 12 = .ok (.ldc 32, 2) := by decide +kernel
theorem dX4_settle_14 : decode cX4_settle 14 = .ok (.invokestatic 33, 3) := by decide +kernel
theorem dX4_settle_17 : decode cX4_settle 17 = .ok (.aload_n 0, 1) := by decide +kernel
theorem dX4_settle_18 : decode cX4_settle 18 = .ok (.getfield 9, 3) := by decide +kernel
theorem dX4_settle_21 : decode cX4_settle 21 = .ok (.iconst (-1), 1) := by decide +kernel
theorem dX4_settle_22 : decode cX4_settle 22 = .ok (.invokestatic 33, 3) := by decide +kernel
theorem dX4_settle_25 : decode cX4_settle 25 = .ok (.iconst 0, 1) := by decide +kernel
theorem dX4_settle_26 : decode cX4_settle 26 = .ok (.istore_n 2, 1) := by decide +kernel
theorem dX4_settle_27 : decode cX4_settle 27 = .ok (.iload_n 2, 1) := by decide +kernel
theorem dX4_settle_28 : decode cX4_settle 28 = .ok (.aload_n 1, 1) := by decide +kernel
theorem dX4_settle_29 : decode cX4_settle 29 = .ok (.getfield 39, 3) := by decide +kernel
theorem dX4_settle_32 : decode cX4_settle 32 = .ok (.if_icmp .ge 87, 3) := by decide +kernel
theorem dX4_settle_35 : decode cX4_settle 35 = .ok (.aload_n 0, 1) := by decide +kernel
theorem dX4_settle_36 : decode cX4_settle 36 = .ok (.getfield 25, 3) := by decide +kernel
theorem dX4_settle_39 : decode cX4_settle 39 = .ok (.aload_n 1, 1) := by decide +kernel
theorem dX4_settle_40 : decode cX4_settle 40 = .ok (.aload_n 1, 1) := by decide +kernel
theorem dX4_settle_41 : decode cX4_settle 41 = .ok (.getfield 45, 3) := by decide +kernel
theorem dX4_settle_44 : decode cX4_settle 44 = .ok (.iload_n 2, 1) := by decide +kernel
theorem dX4_settle_45 : decode cX4_settle 45 = .ok (.iaload, 1) := by decide +kernel
theorem dX4_settle_46 : decode cX4_settle 46 = .ok (.aload_n 1, 1) := by decide +kernel
theorem dX4_settle_47 : decode cX4_settle 47 = .ok (.getfield 48, 3) := by decide +kernel
theorem dX4_settle_50 : decode cX4_settle 50 = .ok (.iload_n 2, 1) := by decide +kernel
theorem dX4_settle_51 : decode cX4_settle 51 = .ok (.iaload, 1) := by decide +kernel
theorem dX4_settle_52 : decode cX4_settle 52 = .ok (.invokevirtual 51, 3) := by decide +kernel
theorem dX4_settle_55 : decode cX4_settle 55 = .ok (.iconst 0, 1) := by decide +kernel
theorem dX4_settle_56 : decode cX4_settle 56 = .ok (.istore_n 3, 1) := by decide +kernel
theorem dX4_settle_57 : decode cX4_settle 57 = .ok (.iload_n 3, 1) := by decide +kernel
theorem dX4_settle_58 : decode cX4_settle 58 = .ok (.aload_n 1, 1) := by decide +kernel
theorem dX4_settle_59 : decode cX4_settle 59 = .ok (.getfield 55, 3) := by decide +kernel
theorem dX4_settle_62 : decode cX4_settle 62 = .ok (.if_icmp .ge 51, 3) := by decide +kernel
theorem dX4_settle_65 : decode cX4_settle 65 = .ok (.aload_n 0, 1) := by decide +kernel
theorem dX4_settle_66 : decode cX4_settle 66 = .ok (.getfield 25, 3) := by decide +kernel
theorem dX4_settle_69 : decode cX4_settle 69 = .ok (.getfield 58, 3) := by decide +kernel
theorem dX4_settle_72 : decode cX4_settle 72 = .ok (.iload_n 3, 1) := by decide +kernel
theorem dX4_settle_73 : decode cX4_settle 73 = .ok (.iaload, 1) := by decide +kernel
theorem dX4_settle_74 : decode cX4_settle 74 = .ok (.aload_n 0, 1) := by decide +kernel
theorem dX4_settle_75 : decode cX4_settle 75 = .ok (.getfield 15, 3) := by decide +kernel
theorem dX4_settle_78 : decode cX4_settle 78 = .ok (.iload_n 3, 1) := by decide +kernel
theorem dX4_settle_79 : decode cX4_settle 79 = .ok (.iaload, 1) := by decide +kernel
theorem dX4_settle_80 : decode cX4_settle 80 = .ok (.if_icmp .ge 27, 3) := by decide +kernel
theorem dX4_settle_83 : decode cX4_settle 83 = .ok (.aload_n 0, 1) := by decide +kernel
theorem dX4_settle_84 : decode cX4_settle 84 = .ok (.getfield 15, 3) := by decide +kernel
theorem dX4_settle_87 : decode cX4_settle 87 = .ok (.iload_n 3, 1) := by decide +kernel
theorem dX4_settle_88 : decode cX4_settle 88 = .ok (.aload_n 0, 1) := by decide +kernel
theorem dX4_settle_89 : decode cX4_settle 89 = .ok (.getfield 25, 3) := by decide +kernel
theorem dX4_settle_92 : decode cX4_settle 92 = .ok (.getfield 58, 3) := by decide +kernel
theorem dX4_settle_95 : decode cX4_settle 95 = .ok (.iload_n 3, 1) := by decide +kernel
theorem dX4_settle_96 : decode cX4_settle 96 = .ok (.iaload, 1) := by decide +kernel
theorem dX4_settle_97 : decode cX4_settle 97 = .ok (.iastore, 1) := by decide +kernel
theorem dX4_settle_98 : decode cX4_settle 98 = .ok (.aload_n 0, 1) := by decide +kernel
theorem dX4_settle_99 : decode cX4_settle 99 = .ok (.getfield 9, 3) := by decide +kernel
theorem dX4_settle_102 : decode cX4_settle 102 = .ok (.iload_n 3, 1) := by decide +kernel
theorem dX4_settle_103 : decode cX4_settle 103 = .ok (.iload_n 2, 1) := by decide +kernel
theorem dX4_settle_104 : decode cX4_settle 104 = .ok (.iconst 1, 1) := by decide +kernel
theorem dX4_settle_105 : decode cX4_settle 105 = .ok (.iadd, 1) := by decide +kernel
theorem dX4_settle_106 : decode cX4_settle 106 = .ok (.iastore, 1) := by decide +kernel
theorem dX4_settle_107 : decode cX4_settle 107 = .ok (.iinc 3 1, 3) := by decide +kernel
theorem dX4_settle_110 : decode cX4_settle 110 = .ok (.goto (-53), 3) := by decide +kernel
theorem dX4_settle_113 : decode cX4_settle 113 = .ok (.iinc 2 1, 3) := by decide +kernel
theorem dX4_settle_116 : decode cX4_settle 116 = .ok (.goto (-89), 3) := by decide +kernel
theorem dX4_settle_119 : decode cX4_settle 119 = .ok (.iconst 0, 1) := by decide +kernel
theorem dX4_settle_120 : decode cX4_settle 120 = .ok (.istore_n 2, 1) := by decide +kernel
theorem dX4_settle_121 : decode cX4_settle 121 = .ok (.iload_n 2, 1) := by decide +kernel
theorem dX4_settle_122 : decode cX4_settle 122 = .ok (.aload_n 1, 1) := by decide +kernel
theorem dX4_settle_123 : decode cX4_settle 123 = .ok (.getfield 55, 3) := by decide +kernel
theorem dX4_settle_126 : decode cX4_settle 126 = .ok (.if_icmp .ge 48, 3) := by decide +kernel
theorem dX4_settle_129 : decode cX4_settle 129 = .ok (.aload_n 0, 1) := by decide +kernel
theorem dX4_settle_130 : decode cX4_settle 130 = .ok (.getfield 21, 3) := by decide +kernel
theorem dX4_settle_133 : decode cX4_settle 133 = .ok (.getfield 58, 3) := by decide +kernel
theorem dX4_settle_136 : decode cX4_settle 136 = .ok (.iload_n 2, 1) := by decide +kernel
theorem dX4_settle_137 : decode cX4_settle 137 = .ok (.iaload, 1) := by decide +kernel
theorem dX4_settle_138 : decode cX4_settle 138 = .ok (.ldc 32, 2) := by decide +kernel
theorem dX4_settle_140 : decode cX4_settle 140 = .ok (.if_icmp .ge 28, 3) := by decide +kernel
theorem dX4_settle_143 : decode cX4_settle 143 = .ok (.aload_n 0, 1) := by decide +kernel
theorem dX4_settle_144 : decode cX4_settle 144 = .ok (.getfield 21, 3) := by decide +kernel
theorem dX4_settle_147 : decode cX4_settle 147 = .ok (.getfield 58, 3) := by decide +kernel
theorem dX4_settle_150 : decode cX4_settle 150 = .ok (.iload_n 2, 1) := by decide +kernel
theorem dX4_settle_151 : decode cX4_settle 151 = .ok (.iaload, 1) := by decide +kernel
theorem dX4_settle_152 : decode cX4_settle 152 = .ok (.aload_n 0, 1) := by decide +kernel
theorem dX4_settle_153 : decode cX4_settle 153 = .ok (.getfield 15, 3) := by decide +kernel
theorem dX4_settle_156 : decode cX4_settle 156 = .ok (.iload_n 2, 1) := by decide +kernel
theorem dX4_settle_157 : decode cX4_settle 157 = .ok (.iaload, 1) := by decide +kernel
theorem dX4_settle_158 : decode cX4_settle 158 = .ok (.if_icmp .gt 10, 3) := by decide +kernel
theorem dX4_settle_161 : decode cX4_settle 161 = .ok (.aload_n 0, 1) := by decide +kernel
theorem dX4_settle_162 : decode cX4_settle 162 = .ok (.getfield 9, 3) := by decide +kernel
theorem dX4_settle_165 : decode cX4_settle 165 = .ok (.iload_n 2, 1) := by decide +kernel
theorem dX4_settle_166 : decode cX4_settle 166 = .ok (.iconst 0, 1) := by decide +kernel
theorem dX4_settle_167 : decode cX4_settle 167 = .ok (.iastore, 1) := by decide +kernel
theorem dX4_settle_168 : decode cX4_settle 168 = .ok (.iinc 2 1, 3) := by decide +kernel
theorem dX4_settle_171 : decode cX4_settle 171 = .ok (.goto (-50), 3) := by decide +kernel
theorem dX4_settle_174 : decode cX4_settle 174 = .ok (.return_, 1) := by decide +kernel
theorem dX4_darkAt_0 : decode cX4_darkAt 0 = .ok (.iload_n 1, 1) := by decide +kernel
theorem dX4_darkAt_1 : decode cX4_darkAt 1 = .ok (.ifCond .lt 21, 3) := by decide +kernel
theorem dX4_darkAt_4 : decode cX4_darkAt 4 = .ok (.iload_n 1, 1) := by decide +kernel
theorem dX4_darkAt_5 : decode cX4_darkAt 5 = .ok (.bipush 8, 2) := by decide +kernel
theorem dX4_darkAt_7 : decode cX4_darkAt 7 = .ok (.if_icmp .ge 15, 3) := by decide +kernel
theorem dX4_darkAt_10 : decode cX4_darkAt 10 = .ok (.aload_n 0, 1) := by decide +kernel
theorem dX4_darkAt_11 : decode cX4_darkAt 11 = .ok (.getfield 21, 3) := by decide +kernel
theorem dX4_darkAt_14 : decode cX4_darkAt 14 = .ok (.getfield 58, 3) := by decide +kernel
theorem dX4_darkAt_17 : decode cX4_darkAt 17 = .ok (.iload_n 1, 1) := by decide +kernel
theorem dX4_darkAt_18 : decode cX4_darkAt 18 = .ok (.iaload, 1) := by decide +kernel
theorem dX4_darkAt_19 : decode cX4_darkAt 19 = .ok (.goto 5, 3) := by decide +kernel
theorem dX4_darkAt_22 : decode cX4_darkAt 22 = .ok (.ldc 32, 2) := by decide +kernel
theorem dX4_darkAt_24 : decode cX4_darkAt 24 = .ok (.ireturn, 1) := by decide +kernel
theorem dX4_partedBy_0 : decode cX4_partedBy 0 = .ok (.aload_n 0, 1) := by decide +kernel
theorem dX4_partedBy_1 : decode cX4_partedBy 1 = .ok (.getfield 9, 3) := by decide +kernel
theorem dX4_partedBy_4 : decode cX4_partedBy 4 = .ok (.aload_n 1, 1) := by decide +kernel
theorem dX4_partedBy_5 : decode cX4_partedBy 5 = .ok (.getfield 61, 3) := by decide +kernel
theorem dX4_partedBy_8 : decode cX4_partedBy 8 = .ok (.iload_n 2, 1) := by decide +kernel
theorem dX4_partedBy_9 : decode cX4_partedBy 9 = .ok (.iaload, 1) := by decide +kernel
theorem dX4_partedBy_10 : decode cX4_partedBy 10 = .ok (.iaload, 1) := by decide +kernel
theorem dX4_partedBy_11 : decode cX4_partedBy 11 = .ok (.istore_n 3, 1) := by decide +kernel
theorem dX4_partedBy_12 : decode cX4_partedBy 12 = .ok (.aload_n 0, 1) := by decide +kernel
theorem dX4_partedBy_13 : decode cX4_partedBy 13 = .ok (.getfield 9, 3) := by decide +kernel
theorem dX4_partedBy_16 : decode cX4_partedBy 16 = .ok (.aload_n 1, 1) := by decide +kernel
theorem dX4_partedBy_17 : decode cX4_partedBy 17 = .ok (.getfield 64, 3) := by decide +kernel
theorem dX4_partedBy_20 : decode cX4_partedBy 20 = .ok (.iload_n 2, 1) := by decide +kernel
theorem dX4_partedBy_21 : decode cX4_partedBy 21 = .ok (.iaload, 1) := by decide +kernel
theorem dX4_partedBy_22 : decode cX4_partedBy 22 = .ok (.iaload, 1) := by decide +kernel
theorem dX4_partedBy_23 : decode cX4_partedBy 23 = .ok (.istore 4, 2) := by decide +kernel
theorem dX4_partedBy_25 : decode cX4_partedBy 25 = .ok (.iload_n 3, 1) := by decide +kernel
theorem dX4_partedBy_26 : decode cX4_partedBy 26 = .ok (.iconst (-1), 1) := by decide +kernel
theorem dX4_partedBy_27 : decode cX4_partedBy 27 = .ok (.if_icmp .eq 19, 3) := by decide +kernel
theorem dX4_partedBy_30 : decode cX4_partedBy 30 = .ok (.iload 4, 2) := by decide +kernel
theorem dX4_partedBy_32 : decode cX4_partedBy 32 = .ok (.iconst (-1), 1) := by decide +kernel
theorem dX4_partedBy_33 : decode cX4_partedBy 33 = .ok (.if_icmp .eq 13, 3) := by decide +kernel
theorem dX4_partedBy_36 : decode cX4_partedBy 36 = .ok (.iload_n 3, 1) := by decide +kernel
theorem dX4_partedBy_37 : decode cX4_partedBy 37 = .ok (.iload 4, 2) := by decide +kernel
theorem dX4_partedBy_39 : decode cX4_partedBy 39 = .ok (.if_icmp .eq 7, 3) := by decide +kernel
theorem dX4_partedBy_42 : decode cX4_partedBy 42 = .ok (.iconst 1, 1) := by decide +kernel
theorem dX4_partedBy_43 : decode cX4_partedBy 43 = .ok (.goto 4, 3) := by decide +kernel
theorem dX4_partedBy_46 : decode cX4_partedBy 46 = .ok (.iconst 0, 1) := by decide +kernel
theorem dX4_partedBy_47 : decode cX4_partedBy 47 = .ok (.ireturn, 1) := by decide +kernel
theorem dX5_init_0 : decode cX5_init 0 = .ok (.aload_n 0, 1) := by decide +kernel
theorem dX5_init_1 : decode cX5_init 1 = .ok (.invokespecial 3, 3) := by decide +kernel
theorem dX5_init_4 : decode cX5_init 4 = .ok (.aload_n 0, 1) := by decide +kernel
theorem dX5_init_5 : decode cX5_init 5 = .ok (.bipush 6, 2) := by decide +kernel
theorem dX5_init_7 : decode cX5_init 7 = .ok (.newarray .int, 2) := by decide +kernel
theorem dX5_init_9 : decode cX5_init 9 = .ok (.putfield 9, 3) := by decide +kernel
theorem dX5_init_12 : decode cX5_init 12 = .ok (.aload_n 0, 1) := by decide +kernel
theorem dX5_init_13 : decode cX5_init 13 = .ok (.bipush 6, 2) := by decide +kernel
theorem dX5_init_15 : decode cX5_init 15 = .ok (.newarray .int, 2) := by decide +kernel
theorem dX5_init_17 : decode cX5_init 17 = .ok (.putfield 15, 3) := by decide +kernel
theorem dX5_init_20 : decode cX5_init 20 = .ok (.return_, 1) := by decide +kernel
theorem dX5_fewest_0 : decode cX5_fewest 0 = .ok (.iconst 0, 1) := by decide +kernel
theorem dX5_fewest_1 : decode cX5_fewest 1 = .ok (.istore_n 3, 1) := by decide +kernel
theorem dX5_fewest_2 : decode cX5_fewest 2 = .ok (.iload_n 3, 1) := by decide +kernel
theorem dX5_fewest_3 : decode cX5_fewest 3 = .ok (.aload_n 1, 1) := by decide +kernel
theorem dX5_fewest_4 : decode cX5_fewest 4 = .ok (.getfield 18, 3) := by decide +kernel
theorem dX5_fewest_7 : decode cX5_fewest 7 = .ok (.if_icmp .gt 30, 3) := by decide +kernel
theorem dX5_fewest_10 : decode cX5_fewest 10 = .ok (.aload_n 0, 1) := by decide +kernel
theorem dX5_fewest_11 : decode cX5_fewest 11 = .ok (.getfield 9, 3) := by decide +kernel
theorem dX5_fewest_14 : decode cX5_fewest 14 = .ok (.iload_n 2, 1) := by decide +kernel
theorem dX5_fewest_15 : decode cX5_fewest 15 = .ok (.invokestatic 24, 3) := by decide +kernel
theorem dX5_fewest_18 : decode cX5_fewest 18 = .ok (.aload_n 0, 1) := by decide +kernel
theorem dX5_fewest_19 : decode cX5_fewest 19 = .ok (.aload_n 1, 1) := by decide +kernel
theorem dX5_fewest_20 : decode cX5_fewest 20 = .ok (.iconst 0, 1) := by decide +kernel
theorem dX5_fewest_21 : decode cX5_fewest 21 = .ok (.iconst 0, 1) := by decide +kernel
theorem dX5_fewest_22 : decode cX5_fewest 22 = .ok (.iload_n 3, 1) := by decide +kernel
theorem dX5_fewest_23 : decode cX5_fewest 23 = .ok (.invokevirtual 30, 3) := by decide +kernel
theorem dX5_fewest_26 : decode cX5_fewest 26 = .ok (.ifCond .eq 5, 3) := by decide +kernel
theorem dX5_fewest_29 : decode cX5_fewest 29 = .ok (.iload_n 3, 1) := by decide +kernel
theorem dX5_fewest_30 : decode cX5_fewest 30 = .ok (.ireturn, 1) := by decide +kernel
theorem dX5_fewest_31 : decode cX5_fewest 31 = .ok (.iinc 3 1, 3) := by decide +kernel
theorem dX5_fewest_34 : decode cX5_fewest 34 = .ok (.goto (-32), 3) := by decide +kernel
theorem dX5_fewest_37 : decode cX5_fewest 37 = .ok (.iconst (-1), 1) := by decide +kernel
theorem dX5_fewest_38 : decode cX5_fewest 38 = .ok (.ireturn, 1) := by decide +kernel
theorem dX5_packs_0 : decode cX5_packs 0 = .ok (.iload_n 2, 1) := by decide +kernel
theorem dX5_packs_1 : decode cX5_packs 1 = .ok (.aload_n 1, 1) := by decide +kernel
theorem dX5_packs_2 : decode cX5_packs 2 = .ok (.getfield 18, 3) := by decide +kernel
theorem dX5_packs_5 : decode cX5_packs 5 = .ok (.if_icmp .ge 9, 3) := by decide +kernel
theorem dX5_packs_8 : decode cX5_packs 8 = .ok (.iload_n 2, 1) := by decide +kernel
theorem dX5_packs_9 : decode cX5_packs 9 = .ok (.bipush 6, 2) := by decide +kernel
theorem dX5_packs_11 : decode cX5_packs 11 = .ok (.if_icmp .lt 5, 3) := by decide +kernel
theorem dX5_packs_14 : decode cX5_packs 14 = .ok (.iconst 1, 1) := by decide +kernel
theorem dX5_packs_15 : decode cX5_packs 15 = .ok (.ireturn, 1) := by decide +kernel
theorem dX5_packs_16 : decode cX5_packs 16 = .ok (.aload_n 1, 1) := by decide +kernel
theorem dX5_packs_17 : decode cX5_packs 17 = .ok (.getfield 34, 3) := by decide +kernel
theorem dX5_packs_20 : decode cX5_packs 20 = .ok (.iload_n 2, 1) := by decide +kernel
theorem dX5_packs_21 : decode cX5_packs 21 = .ok (.iaload, 1) := by decide +kernel
theorem dX5_packs_22 : decode cX5_packs 22 = .ok (.istore 5, 2) := by decide +kernel
theorem dX5_packs_24 : decode cX5_packs 24 = .ok (.iconst 0, 1) := by decide +kernel
theorem dX5_packs_25 : decode cX5_packs 25 = .ok (.istore 6, 2) := by decide +kernel
theorem dX5_packs_27 : decode cX5_packs 27 = .ok (.iload 6, 2) := by decide +kernel
theorem dX5_packs_29 : decode cX5_packs 29 = .ok (.iload_n 3, 1) := by decide +kernel
theorem dX5_packs_30 : decode cX5_packs 30 = .ok (.if_icmp .gt 90, 3) := by decide +kernel
theorem dX5_packs_33 : decode cX5_packs 33 = .ok (.iload 6, 2) := by decide +kernel
theorem dX5_packs_35 : decode cX5_packs 35 = .ok (.iload 4, 2) := by decide +kernel
theorem dX5_packs_37 : decode cX5_packs 37 = .ok (.if_icmp .ge 83, 3) := by decide +kernel
theorem dX5_packs_40 : decode cX5_packs 40 = .ok (.iload 6, 2) := by decide +kernel
theorem dX5_packs_42 : decode cX5_packs 42 = .ok (.bipush 6, 2) := by decide +kernel
theorem dX5_packs_44 : decode cX5_packs 44 = .ok (.if_icmp .ge 76, 3) := by decide +kernel
theorem dX5_packs_47 : decode cX5_packs 47 = .ok (.aload_n 0, 1) := by decide +kernel
theorem dX5_packs_48 : decode cX5_packs 48 = .ok (.getfield 9, 3) := by decide +kernel
theorem dX5_packs_51 : decode cX5_packs 51 = .ok (.iload 6, 2) := by decide +kernel
theorem dX5_packs_53 : decode cX5_packs 53 = .ok (.iaload, 1) := by decide +kernel
theorem dX5_packs_54 : decode cX5_packs 54 = .ok (.iload 5, 2) := by decide +kernel
theorem dX5_packs_56 : decode cX5_packs 56 = .ok (.if_icmp .lt 58, 3) := by decide +kernel
theorem dX5_packs_59 : decode cX5_packs 59 = .ok (.aload_n 0, 1) := by decide +kernel
theorem dX5_packs_60 : decode cX5_packs 60 = .ok (.getfield 9, 3) := by decide +kernel
theorem dX5_packs_63 : decode cX5_packs 63 = .ok (.iload 6, 2) := by decide +kernel
theorem dX5_packs_65 : decode cX5_packs 65 = .ok (.dup2, 1) := by decide +kernel
theorem dX5_packs_66 : decode cX5_packs 66 = .ok (.iaload, 1) := by decide +kernel
theorem dX5_packs_67 : decode cX5_packs 67 = .ok (.iload 5, 2) := by decide +kernel
theorem dX5_packs_69 : decode cX5_packs 69 = .ok (.isub, 1) := by decide +kernel
theorem dX5_packs_70 : decode cX5_packs 70 = .ok (.iastore, 1) := by decide +kernel
theorem dX5_packs_71 : decode cX5_packs 71 = .ok (.aload_n 0, 1) := by decide +kernel
theorem dX5_packs_72 : decode cX5_packs 72 = .ok (.getfield 15, 3) := by decide +kernel
theorem dX5_packs_75 : decode cX5_packs 75 = .ok (.iload_n 2, 1) := by decide +kernel
theorem dX5_packs_76 : decode cX5_packs 76 = .ok (.iload 6, 2) := by decide +kernel
theorem dX5_packs_78 : decode cX5_packs 78 = .ok (.iastore, 1) := by decide +kernel
theorem dX5_packs_79 : decode cX5_packs 79 = .ok (.aload_n 0, 1) := by decide +kernel
theorem dX5_packs_80 : decode cX5_packs 80 = .ok (.aload_n 1, 1) := by decide +kernel
theorem dX5_packs_81 : decode cX5_packs 81 = .ok (.iload_n 2, 1) := by decide +kernel
theorem dX5_packs_82 : decode cX5_packs 82 = .ok (.iconst 1, 1) := by decide +kernel
theorem dX5_packs_83 : decode cX5_packs 83 = .ok (.iadd, 1) := by decide +kernel
theorem dX5_packs_84 : decode cX5_packs 84 = .ok (.iload_n 3, 1) := by decide +kernel
theorem dX5_packs_85 : decode cX5_packs 85 = .ok (.iload 6, 2) := by decide +kernel
theorem dX5_packs_87 : decode cX5_packs 87 = .ok (.iconst 1, 1) := by decide +kernel
theorem dX5_packs_88 : decode cX5_packs 88 = .ok (.iadd, 1) := by decide +kernel
theorem dX5_packs_89 : decode cX5_packs 89 = .ok (.invokestatic 37, 3) := by decide +kernel
theorem dX5_packs_92 : decode cX5_packs 92 = .ok (.iload 4, 2) := by decide +kernel
theorem dX5_packs_94 : decode cX5_packs 94 = .ok (.invokevirtual 30, 3) := by decide +kernel
theorem dX5_packs_97 : decode cX5_packs 97 = .ok (.ifCond .eq 5, 3) := by decide +kernel
theorem dX5_packs_100 : decode cX5_packs 100 = .ok (.iconst 1, 1) := by decide +kernel
theorem dX5_packs_101 : decode cX5_packs 101 = .ok (.ireturn, 1) := by decide +kernel
theorem dX5_packs_102 : decode cX5_packs 102 = .ok (.aload_n 0, 1) := by decide +kernel
theorem dX5_packs_103 : decode cX5_packs 103 = .ok (.getfield 9, 3) := by decide +kernel
theorem dX5_packs_106 : decode cX5_packs 106 = .ok (.iload 6, 2) := by decide +kernel
theorem dX5_packs_108 : decode cX5_packs 108 = .ok (.dup2, 1) := by decide +kernel
theorem dX5_packs_109 : decode cX5_packs 109 = .ok (.iaload, 1) := by decide +kernel
theorem dX5_packs_110 : decode cX5_packs 110 = .ok (.iload 5, 2) := by decide +kernel
theorem dX5_packs_112 : decode cX5_packs 112 = .ok (.iadd, 1) := by decide +kernel
theorem dX5_packs_113 : decode cX5_packs 113 = .ok (.iastore, 1) := by decide +kernel
theorem dX5_packs_114 : decode cX5_packs 114 = .ok (.iinc 6 1, 3) := by decide +kernel
theorem dX5_packs_117 : decode cX5_packs 117 = .ok (.goto (-90), 3) := by decide +kernel
theorem dX5_packs_120 : decode cX5_packs 120 = .ok (.iconst 0, 1) := by decide +kernel
theorem dX5_packs_121 : decode cX5_packs 121 = .ok (.ireturn, 1) := by decide +kernel
theorem dX5_housesIn_0 : decode cX5_housesIn 0 = .ok (.iconst 0, 1) := by decide +kernel
theorem dX5_housesIn_1 : decode cX5_housesIn 1 = .ok (.istore_n 3, 1) := by decide +kernel
theorem dX5_housesIn_2 : decode cX5_housesIn 2 = .ok (.iconst 0, 1) := by decide +kernel
theorem dX5_housesIn_3 : decode cX5_housesIn 3 = .ok (.istore 4, 2) := by decide +kernel
theorem dX5_housesIn_5 : decode cX5_housesIn 5 = .ok (.iload 4, 2) := by decide +kernel
theorem dX5_housesIn_7 : decode cX5_housesIn 7 = .ok (.aload_n 1, 1) := by decide +kernel
theorem dX5_housesIn_8 : decode cX5_housesIn 8 = .ok (.getfield 18, 3) := by decide +kernel
theorem dX5_housesIn_11 : decode cX5_housesIn 11 = .ok (.if_icmp .ge 27, 3) := by decide +kernel
theorem dX5_housesIn_14 : decode cX5_housesIn 14 = .ok (.aload_n 0, 1) := by decide +kernel
theorem dX5_housesIn_15 : decode cX5_housesIn 15 = .ok (.getfield 15, 3) := by decide +kernel
theorem dX5_housesIn_18 : decode cX5_housesIn 18 = .ok (.iload 4, 2) := by decide +kernel
theorem dX5_housesIn_20 : decode cX5_housesIn 20 = .ok (.iaload, 1) := by decide +kernel
theorem dX5_housesIn_21 : decode cX5_housesIn 21 = .ok (.iload_n 2, 1) := by decide +kernel
theorem dX5_housesIn_22 : decode cX5_housesIn 22 = .ok (.if_icmp .ne 10, 3) := by decide +kernel
theorem dX5_housesIn_25 : decode cX5_housesIn 25 = .ok (.iload_n 3, 1) := by decide +kernel
theorem dX5_housesIn_26 : decode cX5_housesIn 26 = .ok (.iconst 1, 1) := by decide +kernel
theorem dX5_housesIn_27 : decode cX5_housesIn 27 = .ok (.iload 4, 2) := by decide +kernel
theorem dX5_housesIn_29 : decode cX5_housesIn 29 = .ok (.ishl, 1) := by decide +kernel
theorem dX5_housesIn_30 : decode cX5_housesIn 30 = .ok (.ior, 1) := by decide +kernel
theorem dX5_housesIn_31 : decode cX5_housesIn 31 = .ok (.istore_n 3, 1) := by decide +kernel
theorem dX5_housesIn_32 : decode cX5_housesIn 32 = .ok (.iinc 4 1, 3) := by decide +kernel
theorem dX5_housesIn_35 : decode cX5_housesIn 35 = .ok (.goto (-30), 3) := by decide +kernel
theorem dX5_housesIn_38 : decode cX5_housesIn 38 = .ok (.iload_n 3, 1) := by decide +kernel
theorem dX5_housesIn_39 : decode cX5_housesIn 39 = .ok (.ireturn, 1) := by decide +kernel
theorem dX6_init_0 : decode cX6_init 0 = .ok (.aload_n 0, 1) := by decide +kernel
theorem dX6_init_1 : decode cX6_init 1 = .ok (.invokespecial 3, 3) := by decide +kernel
theorem dX6_init_4 : decode cX6_init 4 = .ok (.aload_n 0, 1) := by decide +kernel
theorem dX6_init_5 : decode cX6_init 5 = .ok (.ldc 9, 2) := by decide +kernel
theorem dX6_init_7 : decode cX6_init 7 = .ok (.putfield 10, 3) := by decide +kernel
theorem dX6_init_10 : decode cX6_init 10 = .ok (.aload_n 0, 1) := by decide +kernel
theorem dX6_init_11 : decode cX6_init 11 = .ok (.iconst (-1), 1) := by decide +kernel
theorem dX6_init_12 : decode cX6_init 12 = .ok (.putfield 16, 3) := by decide +kernel
theorem dX6_init_15 : decode cX6_init 15 = .ok (.aload_n 0, 1) := by decide +kernel
theorem dX6_init_16 : decode cX6_init 16 = .ok (.ldc 9, 2) := by decide +kernel
theorem dX6_init_18 : decode cX6_init 18 = .ok (.putfield 19, 3) := by decide +kernel
theorem dX6_init_21 : decode cX6_init 21 = .ok (.aload_n 0, 1) := by decide +kernel
theorem dX6_init_22 : decode cX6_init 22 = .ok (.new 22, 3) := by decide +kernel
theorem dX6_init_25 : decode cX6_init 25 = .ok (.dup, 1) := by decide +kernel
theorem dX6_init_26 : decode cX6_init 26 = .ok (.invokespecial 24, 3) := by decide +kernel
theorem dX6_init_29 : decode cX6_init 29 = .ok (.putfield 25, 3) := by decide +kernel
theorem dX6_init_32 : decode cX6_init 32 = .ok (.return_, 1) := by decide +kernel
theorem dX6_search_0 : decode cX6_search 0 = .ok (.aload_n 0, 1) := by decide +kernel
theorem dX6_search_1 : decode cX6_search 1 = .ok (.ldc 9, 2) := by decide +kernel
theorem dX6_search_3 : decode cX6_search 3 = .ok (.putfield 10, 3) := by decide +kernel
theorem dX6_search_6 : decode cX6_search 6 = .ok (.aload_n 0, 1) := by decide +kernel
theorem dX6_search_7 : decode cX6_search 7 = .ok (.iconst (-1), 1) := by decide +kernel
theorem dX6_search_8 : decode cX6_search 8 = .ok (.putfield 16, 3) := by decide +kernel
theorem dX6_search_11 : decode cX6_search 11 = .ok (.aload_n 0, 1) := by decide +kernel
theorem dX6_search_12 : decode cX6_search 12 = .ok (.ldc 9, 2) := by decide +kernel
theorem dX6_search_14 : decode cX6_search 14 = .ok (.putfield 19, 3) := by decide +kernel
theorem dX6_search_17 : decode cX6_search 17 = .ok (.iload_n 2, 1) := by decide +kernel
theorem dX6_search_18 : decode cX6_search 18 = .ok (.aload_n 1, 1) := by decide +kernel
theorem dX6_search_19 : decode cX6_search 19 = .ok (.getfield 29, 3) := by decide +kernel
theorem dX6_search_22 : decode cX6_search 22 = .ok (.invokestatic 34, 3) := by decide +kernel
theorem dX6_search_25 : decode cX6_search 25 = .ok (.istore_n 3, 1) := by decide +kernel
theorem dX6_search_26 : decode cX6_search 26 = .ok (.iconst 0, 1) := by decide +kernel
theorem dX6_search_27 : decode cX6_search 27 = .ok (.istore 4, 2) := by decide +kernel
theorem dX6_search_29 : decode cX6_search 29 = .ok (.iload 4, 2) := by decide +kernel
theorem dX6_search_31 : decode cX6_search 31 = .ok (.iconst 1, 1) := by decide +kernel
theorem dX6_search_32 : decode cX6_search 32 = .ok (.aload_n 1, 1) := by decide +kernel
theorem dX6_search_33 : decode cX6_search 33 = .ok (.getfield 29, 3) := by decide +kernel
theorem dX6_search_36 : decode cX6_search 36 = .ok (.ishl, 1) := by decide +kernel
theorem dX6_search_37 : decode cX6_search 37 = .ok (.if_icmp .ge 33, 3) := by decide +kernel
theorem dX6_search_40 : decode cX6_search 40 = .ok (.iload 4, 2) := by decide +kernel
theorem dX6_search_42 : decode cX6_search 42 = .ok (.sipush 256, 3) := by decide +kernel
theorem dX6_search_45 : decode cX6_search 45 = .ok (.if_icmp .ge 25, 3) := by decide +kernel
theorem dX6_search_48 : decode cX6_search 48 = .ok (.iload 4, 2) := by decide +kernel
theorem dX6_search_50 : decode cX6_search 50 = .ok (.invokestatic 40, 3) := by decide +kernel
theorem dX6_search_53 : decode cX6_search 53 = .ok (.iload_n 3, 1) := by decide +kernel
theorem dX6_search_54 : decode cX6_search 54 = .ok (.if_icmp .ne 10, 3) := by decide +kernel
theorem dX6_search_57 : decode cX6_search 57 = .ok (.aload_n 0, 1) := by decide +kernel
theorem dX6_search_58 : decode cX6_search 58 = .ok (.aload_n 1, 1) := by decide +kernel
theorem dX6_search_59 : decode cX6_search 59 = .ok (.iload 4, 2) := by decide +kernel
theorem dX6_search_61 : decode cX6_search 61 = .ok (.invokevirtual 46, 3) := by decide +kernel
theorem dX6_search_64 : decode cX6_search 64 = .ok (.iinc 4 1, 3) := by decide +kernel
theorem dX6_search_67 : decode cX6_search 67 = .ok (.goto (-38), 3) := by decide +kernel
theorem dX6_search_70 : decode cX6_search 70 = .ok (.return_, 1) := by decide +kernel
theorem dX6_weigh_0 : decode cX6_weigh 0 = .ok (.aload_n 0, 1) := by decide +kernel
theorem dX6_weigh_1 : decode cX6_weigh 1 = .ok (.getfield 25, 3) := by decide +kernel
theorem dX6_weigh_4 : decode cX6_weigh 4 = .ok (.aload_n 1, 1) := by decide +kernel
theorem dX6_weigh_5 : decode cX6_weigh 5 = .ok (.iload_n 2, 1) := by decide +kernel
theorem dX6_weigh_6 : decode cX6_weigh 6 = .ok (.invokevirtual 50, 3) := by decide +kernel
theorem dX6_weigh_9 : decode cX6_weigh 9 = .ok (.aload_n 0, 1) := by decide +kernel
theorem dX6_weigh_10 : decode cX6_weigh 10 = .ok (.getfield 25, 3) := by decide +kernel
theorem dX6_weigh_13 : decode cX6_weigh 13 = .ok (.aload_n 1, 1) := by decide +kernel
theorem dX6_weigh_14 : decode cX6_weigh 14 = .ok (.invokevirtual 53, 3) := by decide +kernel
theorem dX6_weigh_17 : decode cX6_weigh 17 = .ok (.istore_n 3, 1) := by decide +kernel
theorem dX6_weigh_18 : decode cX6_weigh 18 = .ok (.iload_n 3, 1) := by decide +kernel
theorem dX6_weigh_19 : decode cX6_weigh 19 = .ok (.ldc 9, 2) := by decide +kernel
theorem dX6_weigh_21 : decode cX6_weigh 21 = .ok (.if_icmp .lt 4, 3) := by decide +kernel
theorem dX6_weigh_24 : decode cX6_weigh 24 = .ok (.return_, 1) := by decide +kernel
theorem dX6_weigh_25 : decode cX6_weigh 25 = .ok (.iload_n 3, 1) := by decide +kernel
theorem dX6_weigh_26 : decode cX6_weigh 26 = .ok (.aload_n 0, 1) := by decide +kernel
theorem dX6_weigh_27 : decode cX6_weigh 27 = .ok (.getfield 10, 3) := by decide +kernel
theorem dX6_weigh_30 : decode cX6_weigh 30 = .ok (.if_icmp .ge 13, 3) := by decide +kernel
theorem dX6_weigh_33 : decode cX6_weigh 33 = .ok (.aload_n 0, 1) := by decide +kernel
theorem dX6_weigh_34 : decode cX6_weigh 34 = .ok (.iload_n 3, 1) := by decide +kernel
theorem dX6_weigh_35 : decode cX6_weigh 35 = .ok (.putfield 10, 3) := by decide +kernel
theorem dX6_weigh_38 : decode cX6_weigh 38 = .ok (.aload_n 0, 1) := by decide +kernel
theorem dX6_weigh_39 : decode cX6_weigh 39 = .ok (.iload_n 2, 1) := by decide +kernel
theorem dX6_weigh_40 : decode cX6_weigh 40 = .ok (.putfield 16, 3) := by decide +kernel
theorem dX6_weigh_43 : decode cX6_weigh 43 = .ok (.iconst 0, 1) := by decide +kernel
theorem dX6_weigh_44 : decode cX6_weigh 44 = .ok (.istore 4, 2) := by decide +kernel
theorem dX6_weigh_46 : decode cX6_weigh 46 = .ok (.iconst 0, 1) := by decide +kernel
theorem dX6_weigh_47 : decode cX6_weigh 47 = .ok (.istore 5, 2) := by decide +kernel
theorem dX6_weigh_49 : decode cX6_weigh 49 = .ok (.iload 5, 2) := by decide +kernel
theorem dX6_weigh_51 : decode cX6_weigh 51 = .ok (.aload_n 1, 1) := by decide +kernel
theorem dX6_weigh_52 : decode cX6_weigh 52 = .ok (.getfield 29, 3) := by decide +kernel
theorem dX6_weigh_55 : decode cX6_weigh 55 = .ok (.if_icmp .ge 24, 3) := by decide +kernel
theorem dX6_weigh_58 : decode cX6_weigh 58 = .ok (.iload 4, 2) := by decide +kernel
theorem dX6_weigh_60 : decode cX6_weigh 60 = .ok (.aload_n 0, 1) := by decide +kernel
theorem dX6_weigh_61 : decode cX6_weigh 61 = .ok (.getfield 25, 3) := by decide +kernel
theorem dX6_weigh_64 : decode cX6_weigh 64 = .ok (.getfield 57, 3) := by decide +kernel
theorem dX6_weigh_67 : decode cX6_weigh 67 = .ok (.iload 5, 2) := by decide +kernel
theorem dX6_weigh_69 : decode cX6_weigh 69 = .ok (.iaload, 1) := by decide +kernel
theorem dX6_weigh_70 : decode cX6_weigh 70 = .ok (.iadd, 1) := by decide +kernel
theorem dX6_weigh_71 : decode cX6_weigh 71 = .ok (.istore 4, 2) := by decide +kernel
theorem dX6_weigh_73 : decode cX6_weigh 73 = .ok (.iinc 5 1, 3) := by decide +kernel
theorem dX6_weigh_76 : decode cX6_weigh 76 = .ok (.goto (-27), 3) := by decide +kernel
theorem dX6_weigh_79 : decode cX6_weigh 79 = .ok (.aload_n 0, 1) := by decide +kernel
theorem dX6_weigh_80 : decode cX6_weigh 80 = .ok (.aload_n 0, 1) := by decide +kernel
theorem dX6_weigh_81 : decode cX6_weigh 81 = .ok (.getfield 19, 3) := by decide +kernel
theorem dX6_weigh_84 : decode cX6_weigh 84 = .ok (.iload 4, 2) := by decide +kernel
theorem dX6_weigh_86 : decode cX6_weigh 86 = .ok (.invokestatic 34, 3) := by decide +kernel
theorem dX6_weigh_89 : decode cX6_weigh 89 = .ok (.putfield 19, 3) := by decide +kernel
theorem dX6_weigh_92 : decode cX6_weigh 92 = .ok (.return_, 1) := by decide +kernel
theorem dX7_init_0 : decode cX7_init 0 = .ok (.aload_n 0, 1) := by decide +kernel
theorem dX7_init_1 : decode cX7_init 1 = .ok (.invokespecial 3, 3) := by decide +kernel
theorem dX7_init_4 : decode cX7_init 4 = .ok (.aload_n 0, 1) := by decide +kernel
theorem dX7_init_5 : decode cX7_init 5 = .ok (.iconst 0, 1) := by decide +kernel
theorem dX7_init_6 : decode cX7_init 6 = .ok (.putfield 9, 3) := by decide +kernel
theorem dX7_init_9 : decode cX7_init 9 = .ok (.aload_n 0, 1) := by decide +kernel
theorem dX7_init_10 : decode cX7_init 10 = .ok (.iconst 0, 1) := by decide +kernel
theorem dX7_init_11 : decode cX7_init 11 = .ok (.putfield 15, 3) := by decide +kernel
theorem dX7_init_14 : decode cX7_init 14 = .ok (.aload_n 0, 1) := by decide +kernel
theorem dX7_init_15 : decode cX7_init 15 = .ok (.new 18, 3) := by decide +kernel
theorem dX7_init_18 : decode cX7_init 18 = .ok (.dup, 1) := by decide +kernel
theorem dX7_init_19 : decode cX7_init 19 = .ok (.invokespecial 20, 3) := by decide +kernel
theorem dX7_init_22 : decode cX7_init 22 = .ok (.putfield 21, 3) := by decide +kernel
theorem dX7_init_25 : decode cX7_init 25 = .ok (.aload_n 0, 1) := by decide +kernel
theorem dX7_init_26 : decode cX7_init 26 = .ok (.sipush 1024, 3) := by decide +kernel
theorem dX7_init_29 : decode cX7_init 29 = .ok (.newarray .int, 2) := by decide +kernel
theorem dX7_init_31 : decode cX7_init 31 = .ok (.putfield 25, 3) := by decide +kernel
theorem dX7_init_34 : decode cX7_init 34 = .ok (.aload_n 0, 1) := by decide +kernel
theorem dX7_init_35 : decode cX7_init 35 = .ok (.iconst 0, 1) := by decide +kernel
theorem dX7_init_36 : decode cX7_init 36 = .ok (.putfield 29, 3) := by decide +kernel
theorem dX7_init_39 : decode cX7_init 39 = .ok (.aload_n 0, 1) := by decide +kernel
theorem dX7_init_40 : decode cX7_init 40 = .ok (.bipush 40, 2) := by decide +kernel
theorem dX7_init_42 : decode cX7_init 42 = .ok (.newarray .int, 2) := by decide +kernel
theorem dX7_init_44 : decode cX7_init 44 = .ok (.putfield 32, 3) := by decide +kernel
theorem dX7_init_47 : decode cX7_init 47 = .ok (.aload_n 0, 1) := by decide +kernel
theorem dX7_init_48 : decode cX7_init 48 = .ok (.iconst 4, 1) := by decide +kernel
theorem dX7_init_49 : decode cX7_init 49 = .ok (.newarray .int, 2) := by decide +kernel
theorem dX7_init_51 : decode cX7_init 51 = .ok (.putfield 35, 3) := by decide +kernel
theorem dX7_init_54 : decode cX7_init 54 = .ok (.return_, 1) := by decide +kernel
theorem dX7_turnLanes_0 : decode cX7_turnLanes 0 = .ok (.aload_n 0, 1) := by decide +kernel
theorem dX7_turnLanes_1 : decode cX7_turnLanes 1 = .ok (.iconst (-1), 1) := by decide +kernel
