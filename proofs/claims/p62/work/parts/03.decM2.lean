theorem dX7_turnLanes_2 : decode cX7_turnLanes 2 = .ok (.putfield 9, 3) := by decide +kernel
theorem dX7_turnLanes_5 : decode cX7_turnLanes 5 = .ok (.iconst 0, 1) := by decide +kernel
theorem dX7_turnLanes_6 : decode cX7_turnLanes 6 = .ok (.istore 4, 2) := by decide +kernel
theorem dX7_turnLanes_8 : decode cX7_turnLanes 8 = .ok (.iload 4, 2) := by decide +kernel
theorem dX7_turnLanes_10 : decode cX7_turnLanes 10 = .ok (.iload_n 3, 1) := by decide +kernel
theorem dX7_turnLanes_11 : decode cX7_turnLanes 11 = .ok (.if_icmp .gt 58, 3) := by decide +kernel
theorem dX7_turnLanes_14 : decode cX7_turnLanes 14 = .ok (.iconst 0, 1) := by decide +kernel
theorem dX7_turnLanes_15 : decode cX7_turnLanes 15 = .ok (.istore 5, 2) := by decide +kernel
theorem dX7_turnLanes_17 : decode cX7_turnLanes 17 = .ok (.iload 5, 2) := by decide +kernel
theorem dX7_turnLanes_19 : decode cX7_turnLanes 19 = .ok (.iload_n 2, 1) := by decide +kernel
theorem dX7_turnLanes_20 : decode cX7_turnLanes 20 = .ok (.if_icmp .gt 43, 3) := by decide +kernel
theorem dX7_turnLanes_23 : decode cX7_turnLanes 23 = .ok (.iload 5, 2) := by decide +kernel
theorem dX7_turnLanes_25 : decode cX7_turnLanes 25 = .ok (.sipush 1024, 3) := by decide +kernel
theorem dX7_turnLanes_28 : decode cX7_turnLanes 28 = .ok (.if_icmp .ge 35, 3) := by decide +kernel
theorem dX7_turnLanes_31 : decode cX7_turnLanes 31 = .ok (.iload 5, 2) := by decide +kernel
theorem dX7_turnLanes_33 : decode cX7_turnLanes 33 = .ok (.iload_n 2, 1) := by decide +kernel
theorem dX7_turnLanes_34 : decode cX7_turnLanes 34 = .ok (.iconst (-1), 1) := by decide +kernel
theorem dX7_turnLanes_35 : decode cX7_turnLanes 35 = .ok (.ixor, 1) := by decide +kernel
theorem dX7_turnLanes_36 : decode cX7_turnLanes 36 = .ok (.iand, 1) := by decide +kernel
theorem dX7_turnLanes_37 : decode cX7_turnLanes 37 = .ok (.ifCond .ne 20, 3) := by decide +kernel
theorem dX7_turnLanes_40 : decode cX7_turnLanes 40 = .ok (.iload 5, 2) := by decide +kernel
theorem dX7_turnLanes_42 : decode cX7_turnLanes 42 = .ok (.invokestatic 38, 3) := by decide +kernel
theorem dX7_turnLanes_45 : decode cX7_turnLanes 45 = .ok (.iload 4, 2) := by decide +kernel
theorem dX7_turnLanes_47 : decode cX7_turnLanes 47 = .ok (.if_icmp .ne 10, 3) := by decide +kernel
theorem dX7_turnLanes_50 : decode cX7_turnLanes 50 = .ok (.aload_n 0, 1) := by decide +kernel
theorem dX7_turnLanes_51 : decode cX7_turnLanes 51 = .ok (.aload_n 1, 1) := by decide +kernel
theorem dX7_turnLanes_52 : decode cX7_turnLanes 52 = .ok (.iload 5, 2) := by decide +kernel
theorem dX7_turnLanes_54 : decode cX7_turnLanes 54 = .ok (.invokevirtual 44, 3) := by decide +kernel
theorem dX7_turnLanes_57 : decode cX7_turnLanes 57 = .ok (.iinc 5 1, 3) := by decide +kernel
theorem dX7_turnLanes_60 : decode cX7_turnLanes 60 = .ok (.goto (-43), 3) := by decide +kernel
theorem dX7_turnLanes_63 : decode cX7_turnLanes 63 = .ok (.iinc 4 1, 3) := by decide +kernel
theorem dX7_turnLanes_66 : decode cX7_turnLanes 66 = .ok (.goto (-58), 3) := by decide +kernel
theorem dX7_turnLanes_69 : decode cX7_turnLanes 69 = .ok (.return_, 1) := by decide +kernel
theorem dX7_weighTurn_0 : decode cX7_weighTurn 0 = .ok (.aload_n 0, 1) := by decide +kernel
theorem dX7_weighTurn_1 : decode cX7_weighTurn 1 = .ok (.getfield 21, 3) := by decide +kernel
theorem dX7_weighTurn_4 : decode cX7_weighTurn 4 = .ok (.aload_n 1, 1) := by decide +kernel
theorem dX7_weighTurn_5 : decode cX7_weighTurn 5 = .ok (.aload_n 1, 1) := by decide +kernel
theorem dX7_weighTurn_6 : decode cX7_weighTurn 6 = .ok (.invokevirtual 48, 3) := by decide +kernel
theorem dX7_weighTurn_9 : decode cX7_weighTurn 9 = .ok (.iload_n 2, 1) := by decide +kernel
theorem dX7_weighTurn_10 : decode cX7_weighTurn 10 = .ok (.ixor, 1) := by decide +kernel
theorem dX7_weighTurn_11 : decode cX7_weighTurn 11 = .ok (.iconst 0, 1) := by decide +kernel
theorem dX7_weighTurn_12 : decode cX7_weighTurn 12 = .ok (.invokevirtual 54, 3) := by decide +kernel
theorem dX7_weighTurn_15 : decode cX7_weighTurn 15 = .ok (.aload_n 0, 1) := by decide +kernel
theorem dX7_weighTurn_16 : decode cX7_weighTurn 16 = .ok (.getfield 21, 3) := by decide +kernel
theorem dX7_weighTurn_19 : decode cX7_weighTurn 19 = .ok (.aload_n 1, 1) := by decide +kernel
theorem dX7_weighTurn_20 : decode cX7_weighTurn 20 = .ok (.invokevirtual 58, 3) := by decide +kernel
theorem dX7_weighTurn_23 : decode cX7_weighTurn 23 = .ok (.istore_n 3, 1) := by decide +kernel
theorem dX7_weighTurn_24 : decode cX7_weighTurn 24 = .ok (.iload_n 3, 1) := by decide +kernel
theorem dX7_weighTurn_25 : decode cX7_weighTurn 25 = .ok (.aload_n 0, 1) := by decide +kernel
theorem dX7_weighTurn_26 : decode cX7_weighTurn 26 = .ok (.getfield 9, 3) := by decide +kernel
theorem dX7_weighTurn_29 : decode cX7_weighTurn 29 = .ok (.if_icmp .le 13, 3) := by decide +kernel
theorem dX7_weighTurn_32 : decode cX7_weighTurn 32 = .ok (.aload_n 0, 1) := by decide +kernel
theorem dX7_weighTurn_33 : decode cX7_weighTurn 33 = .ok (.iload_n 3, 1) := by decide +kernel
theorem dX7_weighTurn_34 : decode cX7_weighTurn 34 = .ok (.putfield 9, 3) := by decide +kernel
theorem dX7_weighTurn_37 : decode cX7_weighTurn 37 = .ok (.aload_n 0, 1) := by decide +kernel
theorem dX7_weighTurn_38 : decode cX7_weighTurn 38 = .ok (.iload_n 2, 1) := by decide +kernel
theorem dX7_weighTurn_39 : decode cX7_weighTurn 39 = .ok (.putfield 15, 3) := by decide +kernel
theorem dX7_weighTurn_42 : decode cX7_weighTurn 42 = .ok (.return_, 1) := by decide +kernel
theorem dX7_leastCut_0 : decode cX7_leastCut 0 = .ok (.aload_n 1, 1) := by decide +kernel
theorem dX7_leastCut_1 : decode cX7_leastCut 1 = .ok (.invokevirtual 48, 3) := by decide +kernel
theorem dX7_leastCut_4 : decode cX7_leastCut 4 = .ok (.istore 4, 2) := by decide +kernel
theorem dX7_leastCut_6 : decode cX7_leastCut 6 = .ok (.aload_n 0, 1) := by decide +kernel
theorem dX7_leastCut_7 : decode cX7_leastCut 7 = .ok (.iconst 0, 1) := by decide +kernel
theorem dX7_leastCut_8 : decode cX7_leastCut 8 = .ok (.putfield 29, 3) := by decide +kernel
theorem dX7_leastCut_11 : decode cX7_leastCut 11 = .ok (.iconst 0, 1) := by decide +kernel
theorem dX7_leastCut_12 : decode cX7_leastCut 12 = .ok (.istore 5, 2) := by decide +kernel
theorem dX7_leastCut_14 : decode cX7_leastCut 14 = .ok (.iload 5, 2) := by decide +kernel
theorem dX7_leastCut_16 : decode cX7_leastCut 16 = .ok (.bipush 10, 2) := by decide +kernel
theorem dX7_leastCut_18 : decode cX7_leastCut 18 = .ok (.if_icmp .gt 77, 3) := by decide +kernel
theorem dX7_leastCut_21 : decode cX7_leastCut 21 = .ok (.iconst 0, 1) := by decide +kernel
theorem dX7_leastCut_22 : decode cX7_leastCut 22 = .ok (.istore 6, 2) := by decide +kernel
theorem dX7_leastCut_24 : decode cX7_leastCut 24 = .ok (.iload 6, 2) := by decide +kernel
theorem dX7_leastCut_26 : decode cX7_leastCut 26 = .ok (.iload 4, 2) := by decide +kernel
theorem dX7_leastCut_28 : decode cX7_leastCut 28 = .ok (.if_icmp .gt 61, 3) := by decide +kernel
theorem dX7_leastCut_31 : decode cX7_leastCut 31 = .ok (.iload 6, 2) := by decide +kernel
theorem dX7_leastCut_33 : decode cX7_leastCut 33 = .ok (.sipush 1024, 3) := by decide +kernel
theorem dX7_leastCut_36 : decode cX7_leastCut 36 = .ok (.if_icmp .ge 53, 3) := by decide +kernel
theorem dX7_leastCut_39 : decode cX7_leastCut 39 = .ok (.iload 6, 2) := by decide +kernel
theorem dX7_leastCut_41 : decode cX7_leastCut 41 = .ok (.iload 4, 2) := by decide +kernel
theorem dX7_leastCut_43 : decode cX7_leastCut 43 = .ok (.iconst (-1), 1) := by decide +kernel
theorem dX7_leastCut_44 : decode cX7_leastCut 44 = .ok (.ixor, 1) := by decide +kernel
theorem dX7_leastCut_45 : decode cX7_leastCut 45 = .ok (.iand, 1) := by decide +kernel
theorem dX7_leastCut_46 : decode cX7_leastCut 46 = .ok (.ifCond .ne 37, 3) := by decide +kernel
theorem dX7_leastCut_49 : decode cX7_leastCut 49 = .ok (.iload 6, 2) := by decide +kernel
theorem dX7_leastCut_51 : decode cX7_leastCut 51 = .ok (.invokestatic 38, 3) := by decide +kernel
theorem dX7_leastCut_54 : decode cX7_leastCut 54 = .ok (.iload 5, 2) := by decide +kernel
theorem dX7_leastCut_56 : decode cX7_leastCut 56 = .ok (.if_icmp .ne 27, 3) := by decide +kernel
theorem dX7_leastCut_59 : decode cX7_leastCut 59 = .ok (.aload_n 0, 1) := by decide +kernel
theorem dX7_leastCut_60 : decode cX7_leastCut 60 = .ok (.iload 6, 2) := by decide +kernel
theorem dX7_leastCut_62 : decode cX7_leastCut 62 = .ok (.invokevirtual 62, 3) := by decide +kernel
theorem dX7_leastCut_65 : decode cX7_leastCut 65 = .ok (.ifCond .eq 18, 3) := by decide +kernel
theorem dX7_leastCut_68 : decode cX7_leastCut 68 = .ok (.aload_n 0, 1) := by decide +kernel
theorem dX7_leastCut_69 : decode cX7_leastCut 69 = .ok (.aload_n 1, 1) := by decide +kernel
theorem dX7_leastCut_70 : decode cX7_leastCut 70 = .ok (.iload 6, 2) := by decide +kernel
theorem dX7_leastCut_72 : decode cX7_leastCut 72 = .ok (.iload_n 2, 1) := by decide +kernel
theorem dX7_leastCut_73 : decode cX7_leastCut 73 = .ok (.iload_n 3, 1) := by decide +kernel
theorem dX7_leastCut_74 : decode cX7_leastCut 74 = .ok (.invokevirtual 66, 3) := by decide +kernel
theorem dX7_leastCut_77 : decode cX7_leastCut 77 = .ok (.ifCond .eq 6, 3) := by decide +kernel
theorem dX7_leastCut_80 : decode cX7_leastCut 80 = .ok (.iload 6, 2) := by decide +kernel
theorem dX7_leastCut_82 : decode cX7_leastCut 82 = .ok (.ireturn, 1) := by decide +kernel
theorem dX7_leastCut_83 : decode cX7_leastCut 83 = .ok (.iinc 6 1, 3) := by decide +kernel
theorem dX7_leastCut_86 : decode cX7_leastCut 86 = .ok (.goto (-62), 3) := by decide +kernel
theorem dX7_leastCut_89 : decode cX7_leastCut 89 = .ok (.iinc 5 1, 3) := by decide +kernel
theorem dX7_leastCut_92 : decode cX7_leastCut 92 = .ok (.goto (-78), 3) := by decide +kernel
theorem dX7_leastCut_95 : decode cX7_leastCut 95 = .ok (.iconst (-1), 1) := by decide +kernel
theorem dX7_leastCut_96 : decode cX7_leastCut 96 = .ok (.ireturn, 1) := by decide +kernel
theorem dX7_cutsKnownWays_0 : decode cX7_cutsKnownWays 0 = .ok (.iconst 0, 1) := by decide +kernel
theorem dX7_cutsKnownWays_1 : decode cX7_cutsKnownWays 1 = .ok (.istore_n 2, 1) := by decide +kernel
theorem dX7_cutsKnownWays_2 : decode cX7_cutsKnownWays 2 = .ok (.iload_n 2, 1) := by decide +kernel
theorem dX7_cutsKnownWays_3 : decode cX7_cutsKnownWays 3 = .ok (.aload_n 0, 1) := by decide +kernel
theorem dX7_cutsKnownWays_4 : decode cX7_cutsKnownWays 4 = .ok (.getfield 29, 3) := by decide +kernel
theorem dX7_cutsKnownWays_7 : decode cX7_cutsKnownWays 7 = .ok (.if_icmp .ge 22, 3) := by decide +kernel
theorem dX7_cutsKnownWays_10 : decode cX7_cutsKnownWays 10 = .ok (.aload_n 0, 1) := by decide +kernel
theorem dX7_cutsKnownWays_11 : decode cX7_cutsKnownWays 11 = .ok (.getfield 25, 3) := by decide +kernel
theorem dX7_cutsKnownWays_14 : decode cX7_cutsKnownWays 14 = .ok (.iload_n 2, 1) := by decide +kernel
theorem dX7_cutsKnownWays_15 : decode cX7_cutsKnownWays 15 = .ok (.iaload, 1) := by decide +kernel
theorem dX7_cutsKnownWays_16 : decode cX7_cutsKnownWays 16 = .ok (.iload_n 1, 1) := by decide +kernel
theorem dX7_cutsKnownWays_17 : decode cX7_cutsKnownWays 17 = .ok (.iand, 1) := by decide +kernel
theorem dX7_cutsKnownWays_18 : decode cX7_cutsKnownWays 18 = .ok (.ifCond .ne 5, 3) := by decide +kernel
theorem dX7_cutsKnownWays_21 : decode cX7_cutsKnownWays 21 = .ok (.iconst 0, 1) := by decide +kernel
theorem dX7_cutsKnownWays_22 : decode cX7_cutsKnownWays 22 = .ok (.ireturn, 1) := by decide +kernel
theorem dX7_cutsKnownWays_23 : decode cX7_cutsKnownWays 23 = .ok (.iinc 2 1, 3) := by decide +kernel
theorem dX7_cutsKnownWays_26 : decode cX7_cutsKnownWays 26 = .ok (.goto (-24), 3) := by decide +kernel
theorem dX7_cutsKnownWays_29 : decode cX7_cutsKnownWays 29 = .ok (.iconst 1, 1) := by decide +kernel
theorem dX7_cutsKnownWays_30 : decode cX7_cutsKnownWays 30 = .ok (.ireturn, 1) := by decide +kernel
theorem dX7_cutsAll_0 : decode cX7_cutsAll 0 = .ok (.aload_n 0, 1) := by decide +kernel
theorem dX7_cutsAll_1 : decode cX7_cutsAll 1 = .ok (.getfield 21, 3) := by decide +kernel
theorem dX7_cutsAll_4 : decode cX7_cutsAll 4 = .ok (.aload_n 1, 1) := by decide +kernel
theorem dX7_cutsAll_5 : decode cX7_cutsAll 5 = .ok (.aload_n 1, 1) := by decide +kernel
theorem dX7_cutsAll_6 : decode cX7_cutsAll 6 = .ok (.invokevirtual 48, 3) := by decide +kernel
theorem dX7_cutsAll_9 : decode cX7_cutsAll 9 = .ok (.iload_n 2, 1) := by decide +kernel
theorem dX7_cutsAll_10 : decode cX7_cutsAll 10 = .ok (.iconst (-1), 1) := by decide +kernel
theorem dX7_cutsAll_11 : decode cX7_cutsAll 11 = .ok (.ixor, 1) := by decide +kernel
theorem dX7_cutsAll_12 : decode cX7_cutsAll 12 = .ok (.iand, 1) := by decide +kernel
theorem dX7_cutsAll_13 : decode cX7_cutsAll 13 = .ok (.iconst 0, 1) := by decide +kernel
theorem dX7_cutsAll_14 : decode cX7_cutsAll 14 = .ok (.invokevirtual 54, 3) := by decide +kernel
theorem dX7_cutsAll_17 : decode cX7_cutsAll 17 = .ok (.aload_n 0, 1) := by decide +kernel
theorem dX7_cutsAll_18 : decode cX7_cutsAll 18 = .ok (.getfield 21, 3) := by decide +kernel
theorem dX7_cutsAll_21 : decode cX7_cutsAll 21 = .ok (.getfield 70, 3) := by decide +kernel
theorem dX7_cutsAll_24 : decode cX7_cutsAll 24 = .ok (.iload_n 3, 1) := by decide +kernel
theorem dX7_cutsAll_25 : decode cX7_cutsAll 25 = .ok (.iaload, 1) := by decide +kernel
theorem dX7_cutsAll_26 : decode cX7_cutsAll 26 = .ok (.iload 4, 2) := by decide +kernel
theorem dX7_cutsAll_28 : decode cX7_cutsAll 28 = .ok (.if_icmp .lt 5, 3) := by decide +kernel
theorem dX7_cutsAll_31 : decode cX7_cutsAll 31 = .ok (.iconst 1, 1) := by decide +kernel
theorem dX7_cutsAll_32 : decode cX7_cutsAll 32 = .ok (.ireturn, 1) := by decide +kernel
theorem dX7_cutsAll_33 : decode cX7_cutsAll 33 = .ok (.aload_n 0, 1) := by decide +kernel
theorem dX7_cutsAll_34 : decode cX7_cutsAll 34 = .ok (.getfield 29, 3) := by decide +kernel
theorem dX7_cutsAll_37 : decode cX7_cutsAll 37 = .ok (.sipush 1024, 3) := by decide +kernel
theorem dX7_cutsAll_40 : decode cX7_cutsAll 40 = .ok (.if_icmp .ge 31, 3) := by decide +kernel
theorem dX7_cutsAll_43 : decode cX7_cutsAll 43 = .ok (.aload_n 0, 1) := by decide +kernel
theorem dX7_cutsAll_44 : decode cX7_cutsAll 44 = .ok (.getfield 25, 3) := by decide +kernel
theorem dX7_cutsAll_47 : decode cX7_cutsAll 47 = .ok (.aload_n 0, 1) := by decide +kernel
theorem dX7_cutsAll_48 : decode cX7_cutsAll 48 = .ok (.getfield 29, 3) := by decide +kernel
theorem dX7_cutsAll_51 : decode cX7_cutsAll 51 = .ok (.aload_n 0, 1) := by decide +kernel
theorem dX7_cutsAll_52 : decode cX7_cutsAll 52 = .ok (.getfield 21, 3) := by decide +kernel
theorem dX7_cutsAll_55 : decode cX7_cutsAll 55 = .ok (.aload_n 1, 1) := by decide +kernel
theorem dX7_cutsAll_56 : decode cX7_cutsAll 56 = .ok (.iload_n 3, 1) := by decide +kernel
theorem dX7_cutsAll_57 : decode cX7_cutsAll 57 = .ok (.invokevirtual 73, 3) := by decide +kernel
theorem dX7_cutsAll_60 : decode cX7_cutsAll 60 = .ok (.iastore, 1) := by decide +kernel
theorem dX7_cutsAll_61 : decode cX7_cutsAll 61 = .ok (.aload_n 0, 1) := by decide +kernel
theorem dX7_cutsAll_62 : decode cX7_cutsAll 62 = .ok (.dup, 1) := by decide +kernel
theorem dX7_cutsAll_63 : decode cX7_cutsAll 63 = .ok (.getfield 29, 3) := by decide +kernel
theorem dX7_cutsAll_66 : decode cX7_cutsAll 66 = .ok (.iconst 1, 1) := by decide +kernel
theorem dX7_cutsAll_67 : decode cX7_cutsAll 67 = .ok (.iadd, 1) := by decide +kernel
theorem dX7_cutsAll_68 : decode cX7_cutsAll 68 = .ok (.putfield 29, 3) := by decide +kernel
theorem dX7_cutsAll_71 : decode cX7_cutsAll 71 = .ok (.iconst 0, 1) := by decide +kernel
theorem dX7_cutsAll_72 : decode cX7_cutsAll 72 = .ok (.ireturn, 1) := by decide +kernel
theorem dX7_weighClerk_0 : decode cX7_weighClerk 0 = .ok (.iconst 0, 1) := by decide +kernel
theorem dX7_weighClerk_1 : decode cX7_weighClerk 1 = .ok (.istore_n 2, 1) := by decide +kernel
theorem dX7_weighClerk_2 : decode cX7_weighClerk 2 = .ok (.iload_n 2, 1) := by decide +kernel
theorem dX7_weighClerk_3 : decode cX7_weighClerk 3 = .ok (.aload_n 1, 1) := by decide +kernel
theorem dX7_weighClerk_4 : decode cX7_weighClerk 4 = .ok (.getfield 77, 3) := by decide +kernel
theorem dX7_weighClerk_7 : decode cX7_weighClerk 7 = .ok (.if_icmp .ge 98, 3) := by decide +kernel
theorem dX7_weighClerk_10 : decode cX7_weighClerk 10 = .ok (.aload_n 0, 1) := by decide +kernel
theorem dX7_weighClerk_11 : decode cX7_weighClerk 11 = .ok (.getfield 35, 3) := by decide +kernel
theorem dX7_weighClerk_14 : decode cX7_weighClerk 14 = .ok (.iload_n 2, 1) := by decide +kernel
theorem dX7_weighClerk_15 : decode cX7_weighClerk 15 = .ok (.aload_n 1, 1) := by decide +kernel
theorem dX7_weighClerk_16 : decode cX7_weighClerk 16 = .ok (.invokevirtual 48, 3) := by decide +kernel
theorem dX7_weighClerk_19 : decode cX7_weighClerk 19 = .ok (.ifCond .ne 13, 3) := by decide +kernel
theorem dX7_weighClerk_22 : decode cX7_weighClerk 22 = .ok (.aload_n 0, 1) := by decide +kernel
theorem dX7_weighClerk_23 : decode cX7_weighClerk 23 = .ok (.aload_n 1, 1) := by decide +kernel
theorem dX7_weighClerk_24 : decode cX7_weighClerk 24 = .ok (.iload_n 2, 1) := by decide +kernel
theorem dX7_weighClerk_25 : decode cX7_weighClerk 25 = .ok (.iconst 0, 1) := by decide +kernel
theorem dX7_weighClerk_26 : decode cX7_weighClerk 26 = .ok (.invokevirtual 80, 3) := by decide +kernel
theorem dX7_weighClerk_29 : decode cX7_weighClerk 29 = .ok (.goto 4, 3) := by decide +kernel
theorem dX7_weighClerk_32 : decode cX7_weighClerk 32 = .ok (.iconst 0, 1) := by decide +kernel
theorem dX7_weighClerk_33 : decode cX7_weighClerk 33 = .ok (.iastore, 1) := by decide +kernel
theorem dX7_weighClerk_34 : decode cX7_weighClerk 34 = .ok (.iconst 0, 1) := by decide +kernel
theorem dX7_weighClerk_35 : decode cX7_weighClerk 35 = .ok (.istore_n 3, 1) := by decide +kernel
theorem dX7_weighClerk_36 : decode cX7_weighClerk 36 = .ok (.iload_n 3, 1) := by decide +kernel
theorem dX7_weighClerk_37 : decode cX7_weighClerk 37 = .ok (.aload_n 1, 1) := by decide +kernel
theorem dX7_weighClerk_38 : decode cX7_weighClerk 38 = .ok (.getfield 84, 3) := by decide +kernel
theorem dX7_weighClerk_41 : decode cX7_weighClerk 41 = .ok (.if_icmp .ge 58, 3) := by decide +kernel
theorem dX7_weighClerk_44 : decode cX7_weighClerk 44 = .ok (.aload_n 1, 1) := by decide +kernel
theorem dX7_weighClerk_45 : decode cX7_weighClerk 45 = .ok (.iload_n 3, 1) := by decide +kernel
theorem dX7_weighClerk_46 : decode cX7_weighClerk 46 = .ok (.invokestatic 87, 3) := by decide +kernel
theorem dX7_weighClerk_49 : decode cX7_weighClerk 49 = .ok (.ifCond .eq 44, 3) := by decide +kernel
theorem dX7_weighClerk_52 : decode cX7_weighClerk 52 = .ok (.aload_n 0, 1) := by decide +kernel
theorem dX7_weighClerk_53 : decode cX7_weighClerk 53 = .ok (.aload_n 1, 1) := by decide +kernel
theorem dX7_weighClerk_54 : decode cX7_weighClerk 54 = .ok (.iload_n 2, 1) := by decide +kernel
theorem dX7_weighClerk_55 : decode cX7_weighClerk 55 = .ok (.iconst 1, 1) := by decide +kernel
theorem dX7_weighClerk_56 : decode cX7_weighClerk 56 = .ok (.iload_n 3, 1) := by decide +kernel
theorem dX7_weighClerk_57 : decode cX7_weighClerk 57 = .ok (.ishl, 1) := by decide +kernel
theorem dX7_weighClerk_58 : decode cX7_weighClerk 58 = .ok (.invokevirtual 80, 3) := by decide +kernel
theorem dX7_weighClerk_61 : decode cX7_weighClerk 61 = .ok (.istore 4, 2) := by decide +kernel
theorem dX7_weighClerk_63 : decode cX7_weighClerk 63 = .ok (.aload_n 0, 1) := by decide +kernel
theorem dX7_weighClerk_64 : decode cX7_weighClerk 64 = .ok (.getfield 32, 3) := by decide +kernel
theorem dX7_weighClerk_67 : decode cX7_weighClerk 67 = .ok (.iload_n 2, 1) := by decide +kernel
theorem dX7_weighClerk_68 : decode cX7_weighClerk 68 = .ok (.bipush 10, 2) := by decide +kernel
theorem dX7_weighClerk_70 : decode cX7_weighClerk 70 = .ok (.imul, 1) := by decide +kernel
theorem dX7_weighClerk_71 : decode cX7_weighClerk 71 = .ok (.iload_n 3, 1) := by decide +kernel
theorem dX7_weighClerk_72 : decode cX7_weighClerk 72 = .ok (.iadd, 1) := by decide +kernel
theorem dX7_weighClerk_73 : decode cX7_weighClerk 73 = .ok (.iload 4, 2) := by decide +kernel
theorem dX7_weighClerk_75 : decode cX7_weighClerk 75 = .ok (.iastore, 1) := by decide +kernel
theorem dX7_weighClerk_76 : decode cX7_weighClerk 76 = .ok (.aload_n 0, 1) := by decide +kernel
theorem dX7_weighClerk_77 : decode cX7_weighClerk 77 = .ok (.getfield 35, 3) := by decide +kernel
theorem dX7_weighClerk_80 : decode cX7_weighClerk 80 = .ok (.iload_n 2, 1) := by decide +kernel
theorem dX7_weighClerk_81 : decode cX7_weighClerk 81 = .ok (.aload_n 0, 1) := by decide +kernel
theorem dX7_weighClerk_82 : decode cX7_weighClerk 82 = .ok (.getfield 35, 3) := by decide +kernel
theorem dX7_weighClerk_85 : decode cX7_weighClerk 85 = .ok (.iload_n 2, 1) := by decide +kernel
theorem dX7_weighClerk_86 : decode cX7_weighClerk 86 = .ok (.iaload, 1) := by decide +kernel
theorem dX7_weighClerk_87 : decode cX7_weighClerk 87 = .ok (.iload 4, 2) := by decide +kernel
theorem dX7_weighClerk_89 : decode cX7_weighClerk 89 = .ok (.invokestatic 91, 3) := by decide +kernel
theorem dX7_weighClerk_92 : decode cX7_weighClerk 92 = .ok (.iastore, 1) := by decide +kernel
theorem dX7_weighClerk_93 : decode cX7_weighClerk 93 = .ok (.iinc 3 1, 3) := by decide +kernel
theorem dX7_weighClerk_96 : decode cX7_weighClerk 96 = .ok (.goto (-60), 3) := by decide +kernel
theorem dX7_weighClerk_99 : decode cX7_weighClerk 99 = .ok (.iinc 2 1, 3) := by decide +kernel
theorem dX7_weighClerk_102 : decode cX7_weighClerk 102 = .ok (.goto (-100), 3) := by decide +kernel
theorem dX7_weighClerk_105 : decode cX7_weighClerk 105 = .ok (.return_, 1) := by decide +kernel
theorem dX7_isOpenIn_0 : decode cX7_isOpenIn 0 = .ok (.aload_n 0, 1) := by decide +kernel
theorem dX7_isOpenIn_1 : decode cX7_isOpenIn 1 = .ok (.invokevirtual 48, 3) := by decide +kernel
theorem dX7_isOpenIn_4 : decode cX7_isOpenIn 4 = .ok (.iload_n 1, 1) := by decide +kernel
theorem dX7_isOpenIn_5 : decode cX7_isOpenIn 5 = .ok (.ishr, 1) := by decide +kernel
theorem dX7_isOpenIn_6 : decode cX7_isOpenIn 6 = .ok (.iconst 1, 1) := by decide +kernel
theorem dX7_isOpenIn_7 : decode cX7_isOpenIn 7 = .ok (.iand, 1) := by decide +kernel
theorem dX7_isOpenIn_8 : decode cX7_isOpenIn 8 = .ok (.iconst 1, 1) := by decide +kernel
theorem dX7_isOpenIn_9 : decode cX7_isOpenIn 9 = .ok (.if_icmp .ne 7, 3) := by decide +kernel
theorem dX7_isOpenIn_12 : decode cX7_isOpenIn 12 = .ok (.iconst 1, 1) := by decide +kernel
theorem dX7_isOpenIn_13 : decode cX7_isOpenIn 13 = .ok (.goto 4, 3) := by decide +kernel
theorem dX7_isOpenIn_16 : decode cX7_isOpenIn 16 = .ok (.iconst 0, 1) := by decide +kernel
theorem dX7_isOpenIn_17 : decode cX7_isOpenIn 17 = .ok (.ireturn, 1) := by decide +kernel
theorem dX7_gladClerked_0 : decode cX7_gladClerked 0 = .ok (.aload_n 1, 1) := by decide +kernel
theorem dX7_gladClerked_1 : decode cX7_gladClerked 1 = .ok (.getfield 97, 3) := by decide +kernel
theorem dX7_gladClerked_4 : decode cX7_gladClerked 4 = .ok (.iload_n 2, 1) := by decide +kernel
theorem dX7_gladClerked_5 : decode cX7_gladClerked 5 = .ok (.iaload, 1) := by decide +kernel
theorem dX7_gladClerked_6 : decode cX7_gladClerked 6 = .ok (.bipush 30, 2) := by decide +kernel
theorem dX7_gladClerked_8 : decode cX7_gladClerked 8 = .ok (.iadd, 1) := by decide +kernel
theorem dX7_gladClerked_9 : decode cX7_gladClerked 9 = .ok (.istore 4, 2) := by decide +kernel
theorem dX7_gladClerked_11 : decode cX7_gladClerked 11 = .ok (.aload_n 0, 1) := by decide +kernel
theorem dX7_gladClerked_12 : decode cX7_gladClerked 12 = .ok (.getfield 21, 3) := by decide +kernel
theorem dX7_gladClerked_15 : decode cX7_gladClerked 15 = .ok (.aload_n 1, 1) := by decide +kernel
theorem dX7_gladClerked_16 : decode cX7_gladClerked 16 = .ok (.iload_n 2, 1) := by decide +kernel
theorem dX7_gladClerked_17 : decode cX7_gladClerked 17 = .ok (.iload 4, 2) := by decide +kernel
theorem dX7_gladClerked_19 : decode cX7_gladClerked 19 = .ok (.aload_n 1, 1) := by decide +kernel
theorem dX7_gladClerked_20 : decode cX7_gladClerked 20 = .ok (.invokevirtual 48, 3) := by decide +kernel
theorem dX7_gladClerked_23 : decode cX7_gladClerked 23 = .ok (.iload_n 3, 1) := by decide +kernel
theorem dX7_gladClerked_24 : decode cX7_gladClerked 24 = .ok (.iconst (-1), 1) := by decide +kernel
theorem dX7_gladClerked_25 : decode cX7_gladClerked 25 = .ok (.ixor, 1) := by decide +kernel
theorem dX7_gladClerked_26 : decode cX7_gladClerked 26 = .ok (.iand, 1) := by decide +kernel
theorem dX7_gladClerked_27 : decode cX7_gladClerked 27 = .ok (.iconst 0, 1) := by decide +kernel
theorem dX7_gladClerked_28 : decode cX7_gladClerked 28 = .ok (.invokevirtual 100, 3) := by decide +kernel
theorem dX7_gladClerked_31 : decode cX7_gladClerked 31 = .ok (.aload_n 0, 1) := by decide +kernel
theorem dX7_gladClerked_32 : decode cX7_gladClerked 32 = .ok (.getfield 21, 3) := by decide +kernel
theorem dX7_gladClerked_35 : decode cX7_gladClerked 35 = .ok (.aload_n 1, 1) := by decide +kernel
theorem dX7_gladClerked_36 : decode cX7_gladClerked 36 = .ok (.invokevirtual 58, 3) := by decide +kernel
theorem dX7_gladClerked_39 : decode cX7_gladClerked 39 = .ok (.ireturn, 1) := by decide +kernel
theorem dX7_restingPairs_0 : decode cX7_restingPairs 0 = .ok (.iconst 0, 1) := by decide +kernel
theorem dX7_restingPairs_1 : decode cX7_restingPairs 1 = .ok (.istore_n 2, 1) := by decide +kernel
theorem dX7_restingPairs_2 : decode cX7_restingPairs 2 = .ok (.iconst 0, 1) := by decide +kernel
theorem dX7_restingPairs_3 : decode cX7_restingPairs 3 = .ok (.istore_n 3, 1) := by decide +kernel
theorem dX7_restingPairs_4 : decode cX7_restingPairs 4 = .ok (.iload_n 3, 1) := by decide +kernel
theorem dX7_restingPairs_5 : decode cX7_restingPairs 5 = .ok (.aload_n 1, 1) := by decide +kernel
theorem dX7_restingPairs_6 : decode cX7_restingPairs 6 = .ok (.getfield 77, 3) := by decide +kernel
theorem dX7_restingPairs_9 : decode cX7_restingPairs 9 = .ok (.if_icmp .ge 50, 3) := by decide +kernel
theorem dX7_restingPairs_12 : decode cX7_restingPairs 12 = .ok (.iconst 0, 1) := by decide +kernel
theorem dX7_restingPairs_13 : decode cX7_restingPairs 13 = .ok (.istore 4, 2) := by decide +kernel
theorem dX7_restingPairs_15 : decode cX7_restingPairs 15 = .ok (.iload 4, 2) := by decide +kernel
theorem dX7_restingPairs_17 : decode cX7_restingPairs 17 = .ok (.aload_n 1, 1) := by decide +kernel
theorem dX7_restingPairs_18 : decode cX7_restingPairs 18 = .ok (.getfield 84, 3) := by decide +kernel
theorem dX7_restingPairs_21 : decode cX7_restingPairs 21 = .ok (.if_icmp .ge 32, 3) := by decide +kernel
theorem dX7_restingPairs_24 : decode cX7_restingPairs 24 = .ok (.aload_n 1, 1) := by decide +kernel
theorem dX7_restingPairs_25 : decode cX7_restingPairs 25 = .ok (.iload 4, 2) := by decide +kernel
theorem dX7_restingPairs_27 : decode cX7_restingPairs 27 = .ok (.invokestatic 87, 3) := by decide +kernel
theorem dX7_restingPairs_30 : decode cX7_restingPairs 30 = .ok (.ifCond .eq 17, 3) := by decide +kernel
theorem dX7_restingPairs_33 : decode cX7_restingPairs 33 = .ok (.aload_n 0, 1) := by decide +kernel
theorem dX7_restingPairs_34 : decode cX7_restingPairs 34 = .ok (.aload_n 1, 1) := by decide +kernel
theorem dX7_restingPairs_35 : decode cX7_restingPairs 35 = .ok (.iload_n 3, 1) := by decide +kernel
theorem dX7_restingPairs_36 : decode cX7_restingPairs 36 = .ok (.iload 4, 2) := by decide +kernel
theorem dX7_restingPairs_38 : decode cX7_restingPairs 38 = .ok (.invokevirtual 104, 3) := by decide +kernel
theorem dX7_restingPairs_41 : decode cX7_restingPairs 41 = .ok (.ifCond .eq 6, 3) := by decide +kernel
theorem dX7_restingPairs_44 : decode cX7_restingPairs 44 = .ok (.iinc 2 1, 3) := by decide +kernel
theorem dX7_restingPairs_47 : decode cX7_restingPairs 47 = .ok (.iinc 4 1, 3) := by decide +kernel
theorem dX7_restingPairs_50 : decode cX7_restingPairs 50 = .ok (.goto (-35), 3) := by decide +kernel
theorem dX7_restingPairs_53 : decode cX7_restingPairs 53 = .ok (.iinc 3 1, 3) := by decide +kernel
theorem dX7_restingPairs_56 : decode cX7_restingPairs 56 = .ok (.goto (-52), 3) := by decide +kernel
theorem dX7_restingPairs_59 : decode cX7_restingPairs 59 = .ok (.iload_n 2, 1) := by decide +kernel
theorem dX7_restingPairs_60 : decode cX7_restingPairs 60 = .ok (.ireturn, 1) := by decide +kernel
theorem dX7_pairRests_0 : decode cX7_pairRests 0 = .ok (.aload_n 0, 1) := by decide +kernel
theorem dX7_pairRests_1 : decode cX7_pairRests 1 = .ok (.getfield 32, 3) := by decide +kernel
theorem dX7_pairRests_4 : decode cX7_pairRests 4 = .ok (.iload_n 2, 1) := by decide +kernel
theorem dX7_pairRests_5 : decode cX7_pairRests 5 = .ok (.bipush 10, 2) := by decide +kernel
theorem dX7_pairRests_7 : decode cX7_pairRests 7 = .ok (.imul, 1) := by decide +kernel
theorem dX7_pairRests_8 : decode cX7_pairRests 8 = .ok (.iload_n 3, 1) := by decide +kernel
theorem dX7_pairRests_9 : decode cX7_pairRests 9 = .ok (.iadd, 1) := by decide +kernel
theorem dX7_pairRests_10 : decode cX7_pairRests 10 = .ok (.iaload, 1) := by decide +kernel
theorem dX7_pairRests_11 : decode cX7_pairRests 11 = .ok (.istore 4, 2) := by decide +kernel
theorem dX7_pairRests_13 : decode cX7_pairRests 13 = .ok (.iconst 0, 1) := by decide +kernel
theorem dX7_pairRests_14 : decode cX7_pairRests 14 = .ok (.istore 5, 2) := by decide +kernel
theorem dX7_pairRests_16 : decode cX7_pairRests 16 = .ok (.iload 5, 2) := by decide +kernel
theorem dX7_pairRests_18 : decode cX7_pairRests 18 = .ok (.aload_n 1, 1) := by decide +kernel
theorem dX7_pairRests_19 : decode cX7_pairRests 19 = .ok (.getfield 77, 3) := by decide +kernel
theorem dX7_pairRests_22 : decode cX7_pairRests 22 = .ok (.if_icmp .ge 28, 3) := by decide +kernel
theorem dX7_pairRests_25 : decode cX7_pairRests 25 = .ok (.aload_n 0, 1) := by decide +kernel
theorem dX7_pairRests_26 : decode cX7_pairRests 26 = .ok (.getfield 32, 3) := by decide +kernel
theorem dX7_pairRests_29 : decode cX7_pairRests 29 = .ok (.iload 5, 2) := by decide +kernel
theorem dX7_pairRests_31 : decode cX7_pairRests 31 = .ok (.bipush 10, 2) := by decide +kernel
theorem dX7_pairRests_33 : decode cX7_pairRests 33 = .ok (.imul, 1) := by decide +kernel
theorem dX7_pairRests_34 : decode cX7_pairRests 34 = .ok (.iload_n 3, 1) := by decide +kernel
theorem dX7_pairRests_35 : decode cX7_pairRests 35 = .ok (.iadd, 1) := by decide +kernel
theorem dX7_pairRests_36 : decode cX7_pairRests 36 = .ok (.iaload, 1) := by decide +kernel
theorem dX7_pairRests_37 : decode cX7_pairRests 37 = .ok (.iload 4, 2) := by decide +kernel
theorem dX7_pairRests_39 : decode cX7_pairRests 39 = .ok (.if_icmp .ge 5, 3) := by decide +kernel
theorem dX7_pairRests_42 : decode cX7_pairRests 42 = .ok (.iconst 0, 1) := by decide +kernel
theorem dX7_pairRests_43 : decode cX7_pairRests 43 = .ok (.ireturn, 1) := by decide +kernel
theorem dX7_pairRests_44 : decode cX7_pairRests 44 = .ok (.iinc 5 1, 3) := by decide +kernel
theorem dX7_pairRests_47 : decode cX7_pairRests 47 = .ok (.goto (-31), 3) := by decide +kernel
theorem dX7_pairRests_50 : decode cX7_pairRests 50 = .ok (.iload 4, 2) := by decide +kernel
theorem dX7_pairRests_52 : decode cX7_pairRests 52 = .ok (.aload_n 0, 1) := by decide +kernel
theorem dX7_pairRests_53 : decode cX7_pairRests 53 = .ok (.getfield 35, 3) := by decide +kernel
theorem dX7_pairRests_56 : decode cX7_pairRests 56 = .ok (.iload_n 2, 1) := by decide +kernel
theorem dX7_pairRests_57 : decode cX7_pairRests 57 = .ok (.iaload, 1) := by decide +kernel
theorem dX7_pairRests_58 : decode cX7_pairRests 58 = .ok (.if_icmp .lt 7, 3) := by decide +kernel
theorem dX7_pairRests_61 : decode cX7_pairRests 61 = .ok (.iconst 1, 1) := by decide +kernel
theorem dX7_pairRests_62 : decode cX7_pairRests 62 = .ok (.goto 4, 3) := by decide +kernel
theorem dX7_pairRests_65 : decode cX7_pairRests 65 = .ok (.iconst 0, 1) := by decide +kernel
theorem dX7_pairRests_66 : decode cX7_pairRests 66 = .ok (.ireturn, 1) := by decide +kernel
theorem dX7_clerksGate_0 : decode cX7_clerksGate 0 = .ok (.iconst (-1), 1) := by decide +kernel
theorem dX7_clerksGate_1 : decode cX7_clerksGate 1 = .ok (.istore_n 2, 1) := by decide +kernel
theorem dX7_clerksGate_2 : decode cX7_clerksGate 2 = .ok (.iconst 0, 1) := by decide +kernel
theorem dX7_clerksGate_3 : decode cX7_clerksGate 3 = .ok (.istore_n 3, 1) := by decide +kernel
theorem dX7_clerksGate_4 : decode cX7_clerksGate 4 = .ok (.iload_n 3, 1) := by decide +kernel
theorem dX7_clerksGate_5 : decode cX7_clerksGate 5 = .ok (.aload_n 1, 1) := by decide +kernel
theorem dX7_clerksGate_6 : decode cX7_clerksGate 6 = .ok (.getfield 77, 3) := by decide +kernel
theorem dX7_clerksGate_9 : decode cX7_clerksGate 9 = .ok (.if_icmp .ge 31, 3) := by decide +kernel
theorem dX7_clerksGate_12 : decode cX7_clerksGate 12 = .ok (.iload_n 2, 1) := by decide +kernel
theorem dX7_clerksGate_13 : decode cX7_clerksGate 13 = .ok (.iconst (-1), 1) := by decide +kernel
theorem dX7_clerksGate_14 : decode cX7_clerksGate 14 = .ok (.if_icmp .eq 18, 3) := by decide +kernel
theorem dX7_clerksGate_17 : decode cX7_clerksGate 17 = .ok (.aload_n 0, 1) := by decide +kernel
theorem dX7_clerksGate_18 : decode cX7_clerksGate 18 = .ok (.getfield 35, 3) := by decide +kernel
theorem dX7_clerksGate_21 : decode cX7_clerksGate 21 = .ok (.iload_n 3, 1) := by decide +kernel
theorem dX7_clerksGate_22 : decode cX7_clerksGate 22 = .ok (.iaload, 1) := by decide +kernel
theorem dX7_clerksGate_23 : decode cX7_clerksGate 23 = .ok (.aload_n 0, 1) := by decide +kernel
theorem dX7_clerksGate_24 : decode cX7_clerksGate 24 = .ok (.getfield 35, 3) := by decide +kernel
theorem dX7_clerksGate_27 : decode cX7_clerksGate 27 = .ok (.iload_n 2, 1) := by decide +kernel
theorem dX7_clerksGate_28 : decode cX7_clerksGate 28 = .ok (.iaload, 1) := by decide +kernel
theorem dX7_clerksGate_29 : decode cX7_clerksGate 29 = .ok (.if_icmp .ge 5, 3) := by decide +kernel
theorem dX7_clerksGate_32 : decode cX7_clerksGate 32 = .ok (.iload_n 3, 1) := by decide +kernel
theorem dX7_clerksGate_33 : decode cX7_clerksGate 33 = .ok (.istore_n 2, 1) := by decide +kernel
theorem dX7_clerksGate_34 : decode cX7_clerksGate 34 = .ok (.iinc 3 1, 3) := by decide +kernel
theorem dX7_clerksGate_37 : decode cX7_clerksGate 37 = .ok (.goto (-33), 3) := by decide +kernel
theorem dX7_clerksGate_40 : decode cX7_clerksGate 40 = .ok (.iload_n 2, 1) := by decide +kernel
theorem dX7_clerksGate_41 : decode cX7_clerksGate 41 = .ok (.ireturn, 1) := by decide +kernel
theorem dX8_init_0 : decode cX8_init 0 = .ok (.aload_n 0, 1) := by decide +kernel
theorem dX8_init_1 : decode cX8_init 1 = .ok (.invokespecial 3, 3) := by decide +kernel
theorem dX8_init_4 : decode cX8_init 4 = .ok (.aload_n 0, 1) := by decide +kernel
theorem dX8_init_5 : decode cX8_init 5 = .ok (.sipush 240, 3) := by decide +kernel
theorem dX8_init_8 : decode cX8_init 8 = .ok (.newarray .long, 2) := by decide +kernel
theorem dX8_init_10 : decode cX8_init 10 = .ok (.putfield 11, 3) := by decide +kernel
theorem dX8_init_13 : decode cX8_init 13 = .ok (.aload_n 0, 1) := by decide +kernel
theorem dX8_init_14 : decode cX8_init 14 = .ok (.iconst 4, 1) := by decide +kernel
theorem dX8_init_15 : decode cX8_init 15 = .ok (.newarray .int, 2) := by decide +kernel
theorem dX8_init_17 : decode cX8_init 17 = .ok (.putfield 15, 3) := by decide +kernel
theorem dX8_init_20 : decode cX8_init 20 = .ok (.aload_n 0, 1) := by decide +kernel
theorem dX8_init_21 : decode cX8_init 21 = .ok (.iconst 4, 1) := by decide +kernel
theorem dX8_init_22 : decode cX8_init 22 = .ok (.newarray .int, 2) := by decide +kernel
theorem dX8_init_24 : decode cX8_init 24 = .ok (.putfield 19, 3) := by decide +kernel
theorem dX8_init_27 : decode cX8_init 27 = .ok (.aload_n 0, 1) := by decide +kernel
theorem dX8_init_28 : decode cX8_init 28 = .ok (.iconst 0, 1) := by decide +kernel
theorem dX8_init_29 : decode cX8_init 29 = .ok (.putfield 22, 3) := by decide +kernel
theorem dX8_init_32 : decode cX8_init 32 = .ok (.return_, 1) := by decide +kernel
theorem dX8_isSlot_0 : decode cX8_isSlot 0 = .ok (.iload_n 0, 1) := by decide +kernel
theorem dX8_isSlot_1 : decode cX8_isSlot 1 = .ok (.ifCond .lt 12, 3) := by decide +kernel
theorem dX8_isSlot_4 : decode cX8_isSlot 4 = .ok (.iload_n 0, 1) := by decide +kernel
theorem dX8_isSlot_5 : decode cX8_isSlot 5 = .ok (.iconst 4, 1) := by decide +kernel
theorem dX8_isSlot_6 : decode cX8_isSlot 6 = .ok (.if_icmp .ge 7, 3) := by decide +kernel
theorem dX8_isSlot_9 : decode cX8_isSlot 9 = .ok (.iconst 1, 1) := by decide +kernel
theorem dX8_isSlot_10 : decode cX8_isSlot 10 = .ok (.goto 4, 3) := by decide +kernel
theorem dX8_isSlot_13 : decode cX8_isSlot 13 = .ok (.iconst 0, 1) := by decide +kernel
theorem dX8_isSlot_14 : decode cX8_isSlot 14 = .ok (.ireturn, 1) := by decide +kernel
theorem dX8_stands_0 : decode cX8_stands 0 = .ok (.aload_n 0, 1) := by decide +kernel
theorem dX8_stands_1 : decode cX8_stands 1 = .ok (.getfield 22, 3) := by decide +kernel
theorem dX8_stands_4 : decode cX8_stands 4 = .ok (.iload_n 1, 1) := by decide +kernel
theorem dX8_stands_5 : decode cX8_stands 5 = .ok (.ishr, 1) := by decide +kernel
theorem dX8_stands_6 : decode cX8_stands 6 = .ok (.iconst 1, 1) := by decide +kernel
theorem dX8_stands_7 : decode cX8_stands 7 = .ok (.iand, 1) := by decide +kernel
theorem dX8_stands_8 : decode cX8_stands 8 = .ok (.iconst 1, 1) := by decide +kernel
theorem dX8_stands_9 : decode cX8_stands 9 = .ok (.if_icmp .ne 7, 3) := by decide +kernel
theorem dX8_stands_12 : decode cX8_stands 12 = .ok (.iconst 1, 1) := by decide +kernel
theorem dX8_stands_13 : decode cX8_stands 13 = .ok (.goto 4, 3) := by decide +kernel
theorem dX8_stands_16 : decode cX8_stands 16 = .ok (.iconst 0, 1) := by decide +kernel
theorem dX8_stands_17 : decode cX8_stands 17 = .ok (.ireturn, 1) := by decide +kernel
theorem dX8_standing_0 : decode cX8_standing 0 = .ok (.aload_n 0, 1) := by decide +kernel
theorem dX8_standing_1 : decode cX8_standing 1 = .ok (.getfield 22, 3) := by decide +kernel
theorem dX8_standing_4 : decode cX8_standing 4 = .ok (.invokestatic 26, 3) := by decide +kernel
theorem dX8_standing_7 : decode cX8_standing 7 = .ok (.ireturn, 1) := by decide +kernel
theorem dX8_length_0 : decode cX8_length 0 = .ok (.iload_n 1, 1) := by decide +kernel
theorem dX8_length_1 : decode cX8_length 1 = .ok (.invokestatic 32, 3) := by decide +kernel
theorem dX8_length_4 : decode cX8_length 4 = .ok (.ifCond .eq 12, 3) := by decide +kernel
theorem dX8_length_7 : decode cX8_length 7 = .ok (.aload_n 0, 1) := by decide +kernel
theorem dX8_length_8 : decode cX8_length 8 = .ok (.getfield 15, 3) := by decide +kernel
theorem dX8_length_11 : decode cX8_length 11 = .ok (.iload_n 1, 1) := by decide +kernel
theorem dX8_length_12 : decode cX8_length 12 = .ok (.iaload, 1) := by decide +kernel
theorem dX8_length_13 : decode cX8_length 13 = .ok (.goto 4, 3) := by decide +kernel
theorem dX8_length_16 : decode cX8_length 16 = .ok (.iconst 0, 1) := by decide +kernel
theorem dX8_length_17 : decode cX8_length 17 = .ok (.ireturn, 1) := by decide +kernel
theorem dX8_number_0 : decode cX8_number 0 = .ok (.iload_n 2, 1) := by decide +kernel
theorem dX8_number_1 : decode cX8_number 1 = .ok (.ifCond .lt 26, 3) := by decide +kernel
theorem dX8_number_4 : decode cX8_number 4 = .ok (.iload_n 2, 1) := by decide +kernel
theorem dX8_number_5 : decode cX8_number 5 = .ok (.aload_n 0, 1) := by decide +kernel
theorem dX8_number_6 : decode cX8_number 6 = .ok (.iload_n 1, 1) := by decide +kernel
theorem dX8_number_7 : decode cX8_number 7 = .ok (.invokevirtual 36, 3) := by decide +kernel
theorem dX8_number_10 : decode cX8_number 10 = .ok (.if_icmp .ge 17, 3) := by decide +kernel
theorem dX8_number_13 : decode cX8_number 13 = .ok (.aload_n 0, 1) := by decide +kernel
theorem dX8_number_14 : decode cX8_number 14 = .ok (.getfield 11, 3) := by decide +kernel
theorem dX8_number_17 : decode cX8_number 17 = .ok (.iload_n 1, 1) := by decide +kernel
theorem dX8_number_18 : decode cX8_number 18 = .ok (.bipush 60, 2) := by decide +kernel
theorem dX8_number_20 : decode cX8_number 20 = .ok (.imul, 1) := by decide +kernel
theorem dX8_number_21 : decode cX8_number 21 = .ok (.iload_n 2, 1) := by decide +kernel
theorem dX8_number_22 : decode cX8_number 22 = .ok (.iadd, 1) := by decide +kernel
theorem dX8_number_23 : decode cX8_number 23 = .ok (.laload, 1) := by decide +kernel
theorem dX8_number_24 : decode cX8_number 24 = .ok (.goto 4, 3) := by decide +kernel
theorem dX8_number_27 : decode cX8_number 27 = .ok (.lconst 0, 1) := by decide +kernel
theorem dX8_number_28 : decode cX8_number 28 = .ok (.lreturn, 1) := by decide +kernel
theorem dX8_make_0 : decode cX8_make 0 = .ok (.iload_n 1, 1) := by decide +kernel
theorem dX8_make_1 : decode cX8_make 1 = .ok (.invokestatic 32, 3) := by decide +kernel
theorem dX8_make_4 : decode cX8_make 4 = .ok (.ifCond .eq 58, 3) := by decide +kernel
theorem dX8_make_7 : decode cX8_make 7 = .ok (.aload_n 0, 1) := by decide +kernel
theorem dX8_make_8 : decode cX8_make 8 = .ok (.dup, 1) := by decide +kernel
theorem dX8_make_9 : decode cX8_make 9 = .ok (.getfield 22, 3) := by decide +kernel
theorem dX8_make_12 : decode cX8_make 12 = .ok (.iconst 1, 1) := by decide +kernel
theorem dX8_make_13 : decode cX8_make 13 = .ok (.iload_n 1, 1) := by decide +kernel
theorem dX8_make_14 : decode cX8_make 14 = .ok (.ishl, 1) := by decide +kernel
theorem dX8_make_15 : decode cX8_make 15 = .ok (.ior, 1) := by decide +kernel
theorem dX8_make_16 : decode cX8_make 16 = .ok (.putfield 22, 3) := by decide +kernel
theorem dX8_make_19 : decode cX8_make 19 = .ok (.aload_n 0, 1) := by decide +kernel
theorem dX8_make_20 : decode cX8_make 20 = .ok (.getfield 19, 3) := by decide +kernel
theorem dX8_make_23 : decode cX8_make 23 = .ok (.iload_n 1, 1) := by decide +kernel
theorem dX8_make_24 : decode cX8_make 24 = .ok (.iload_n 2, 1) := by decide +kernel
theorem dX8_make_25 : decode cX8_make 25 = .ok (.iastore, 1) := by decide +kernel
theorem dX8_make_26 : decode cX8_make 26 = .ok (.aload_n 0, 1) := by decide +kernel
theorem dX8_make_27 : decode cX8_make 27 = .ok (.getfield 15, 3) := by decide +kernel
theorem dX8_make_30 : decode cX8_make 30 = .ok (.iload_n 1, 1) := by decide +kernel
theorem dX8_make_31 : decode cX8_make 31 = .ok (.iload_n 3, 1) := by decide +kernel
theorem dX8_make_32 : decode cX8_make 32 = .ok (.iastore, 1) := by decide +kernel
theorem dX8_make_33 : decode cX8_make 33 = .ok (.iconst 0, 1) := by decide +kernel
theorem dX8_make_34 : decode cX8_make 34 = .ok (.istore 4, 2) := by decide +kernel
theorem dX8_make_36 : decode cX8_make 36 = .ok (.iload 4, 2) := by decide +kernel
theorem dX8_make_38 : decode cX8_make 38 = .ok (.bipush 60, 2) := by decide +kernel
theorem dX8_make_40 : decode cX8_make 40 = .ok (.if_icmp .ge 22, 3) := by decide +kernel
theorem dX8_make_43 : decode cX8_make 43 = .ok (.aload_n 0, 1) := by decide +kernel
theorem dX8_make_44 : decode cX8_make 44 = .ok (.getfield 11, 3) := by decide +kernel
theorem dX8_make_47 : decode cX8_make 47 = .ok (.iload_n 1, 1) := by decide +kernel
theorem dX8_make_48 : decode cX8_make 48 = .ok (.bipush 60, 2) := by decide +kernel
theorem dX8_make_50 : decode cX8_make 50 = .ok (.imul, 1) := by decide +kernel
theorem dX8_make_51 : decode cX8_make 51 = .ok (.iload 4, 2) := by decide +kernel
theorem dX8_make_53 : decode cX8_make 53 = .ok (.iadd, 1) := by decide +kernel
theorem dX8_make_54 : decode cX8_make 54 = .ok (.lconst 0, 1) := by decide +kernel
theorem dX8_make_55 : decode cX8_make 55 = .ok (.lastore, 1) := by decide +kernel
theorem dX8_make_56 : decode cX8_make 56 = .ok (.iinc 4 1, 3) := by decide +kernel
theorem dX8_make_59 : decode cX8_make 59 = .ok (.goto (-23), 3) := by decide +kernel
theorem dX8_make_62 : decode cX8_make 62 = .ok (.return_, 1) := by decide +kernel
theorem dX8_put_0 : decode cX8_put 0 = .ok (.iload_n 2, 1) := by decide +kernel
theorem dX8_put_1 : decode cX8_put 1 = .ok (.ifCond .lt 73, 3) := by decide +kernel
theorem dX8_put_4 : decode cX8_put 4 = .ok (.iload_n 2, 1) := by decide +kernel
theorem dX8_put_5 : decode cX8_put 5 = .ok (.aload_n 0, 1) := by decide +kernel
theorem dX8_put_6 : decode cX8_put 6 = .ok (.iload_n 1, 1) := by decide +kernel
theorem dX8_put_7 : decode cX8_put 7 = .ok (.invokevirtual 36, 3) := by decide +kernel
theorem dX8_put_10 : decode cX8_put 10 = .ok (.if_icmp .ge 64, 3) := by decide +kernel
theorem dX8_put_13 : decode cX8_put 13 = .ok (.aload_n 0, 1) := by decide +kernel
theorem dX8_put_14 : decode cX8_put 14 = .ok (.getfield 19, 3) := by decide +kernel
theorem dX8_put_17 : decode cX8_put 17 = .ok (.iload_n 1, 1) := by decide +kernel
theorem dX8_put_18 : decode cX8_put 18 = .ok (.iaload, 1) := by decide +kernel
theorem dX8_put_19 : decode cX8_put 19 = .ok (.istore 5, 2) := by decide +kernel
theorem dX8_put_21 : decode cX8_put 21 = .ok (.iload 5, 2) := by decide +kernel
theorem dX8_put_23 : decode cX8_put 23 = .ok (.ifCond .ne 10, 3) := by decide +kernel
theorem dX8_put_26 : decode cX8_put 26 = .ok (.lload_n 3, 1) := by decide +kernel
theorem dX8_put_27 : decode cX8_put 27 = .ok (.l2i, 1) := by decide +kernel
theorem dX8_put_28 : decode cX8_put 28 = .ok (.i2b, 1) := by decide +kernel
theorem dX8_put_29 : decode cX8_put 29 = .ok (.i2l, 1) := by decide +kernel
theorem dX8_put_30 : decode cX8_put 30 = .ok (.goto 29, 3) := by decide +kernel
theorem dX8_put_33 : decode cX8_put 33 = .ok (.iload 5, 2) := by decide +kernel
theorem dX8_put_35 : decode cX8_put 35 = .ok (.iconst 1, 1) := by decide +kernel
theorem dX8_put_36 : decode cX8_put 36 = .ok (.if_icmp .ne 10, 3) := by decide +kernel
theorem dX8_put_39 : decode cX8_put 39 = .ok (.lload_n 3, 1) := by decide +kernel
theorem dX8_put_40 : decode cX8_put 40 = .ok (.l2i, 1) := by decide +kernel
theorem dX8_put_41 : decode cX8_put 41 = .ok (.i2s, 1) := by decide +kernel
theorem dX8_put_42 : decode cX8_put 42 = .ok (.i2l, 1) := by decide +kernel
theorem dX8_put_43 : decode cX8_put 43 = .ok (.goto 16, 3) := by decide +kernel
theorem dX8_put_46 : decode cX8_put 46 = .ok (.iload 5, 2) := by decide +kernel
theorem dX8_put_48 : decode cX8_put 48 = .ok (.iconst 2, 1) := by decide +kernel
theorem dX8_put_49 : decode cX8_put 49 = .ok (.if_icmp .ne 9, 3) := by decide +kernel
theorem dX8_put_52 : decode cX8_put 52 = .ok (.lload_n 3, 1) := by decide +kernel
theorem dX8_put_53 : decode cX8_put 53 = .ok (.l2i, 1) := by decide +kernel
theorem dX8_put_54 : decode cX8_put 54 = .ok (.i2l, 1) := by decide +kernel
theorem dX8_put_55 : decode cX8_put 55 = .ok (.goto 4, 3) := by decide +kernel
theorem dX8_put_58 : decode cX8_put 58 = .ok (.lload_n 3, 1) := by decide +kernel
theorem dX8_put_59 : decode cX8_put 59 = .ok (.lstore 6, 2) := by decide +kernel
theorem dX8_put_61 : decode cX8_put 61 = .ok (.aload_n 0, 1) := by decide +kernel
theorem dX8_put_62 : decode cX8_put 62 = .ok (.getfield 11, 3) := by decide +kernel
theorem dX8_put_65 : decode cX8_put 65 = .ok (.iload_n 1, 1) := by decide +kernel
theorem dX8_put_66 : decode cX8_put 66 = .ok (.bipush 60, 2) := by decide +kernel
theorem dX8_put_68 : decode cX8_put 68 = .ok (.imul, 1) := by decide +kernel
theorem dX8_put_69 : decode cX8_put 69 = .ok (.iload_n 2, 1) := by decide +kernel
theorem dX8_put_70 : decode cX8_put 70 = .ok (.iadd, 1) := by decide +kernel
theorem dX8_put_71 : decode cX8_put 71 = .ok (.lload 6, 2) := by decide +kernel
theorem dX8_put_73 : decode cX8_put 73 = .ok (.lastore, 1) := by decide +kernel
theorem dX8_put_74 : decode cX8_put 74 = .ok (.return_, 1) := by decide +kernel
theorem dX8_areAlike_0 : decode cX8_areAlike 0 = .ok (.iload_n 1, 1) := by decide +kernel
theorem dX8_areAlike_1 : decode cX8_areAlike 1 = .ok (.invokestatic 32, 3) := by decide +kernel
theorem dX8_areAlike_4 : decode cX8_areAlike 4 = .ok (.ifCond .eq 29, 3) := by decide +kernel
theorem dX8_areAlike_7 : decode cX8_areAlike 7 = .ok (.iload_n 2, 1) := by decide +kernel
theorem dX8_areAlike_8 : decode cX8_areAlike 8 = .ok (.invokestatic 32, 3) := by decide +kernel
theorem dX8_areAlike_11 : decode cX8_areAlike 11 = .ok (.ifCond .eq 22, 3) := by decide +kernel
theorem dX8_areAlike_14 : decode cX8_areAlike 14 = .ok (.aload_n 0, 1) := by decide +kernel
theorem dX8_areAlike_15 : decode cX8_areAlike 15 = .ok (.getfield 19, 3) := by decide +kernel
theorem dX8_areAlike_18 : decode cX8_areAlike 18 = .ok (.iload_n 1, 1) := by decide +kernel
theorem dX8_areAlike_19 : decode cX8_areAlike 19 = .ok (.iaload, 1) := by decide +kernel
theorem dX8_areAlike_20 : decode cX8_areAlike 20 = .ok (.aload_n 0, 1) := by decide +kernel
theorem dX8_areAlike_21 : decode cX8_areAlike 21 = .ok (.getfield 19, 3) := by decide +kernel
theorem dX8_areAlike_24 : decode cX8_areAlike 24 = .ok (.iload_n 2, 1) := by decide +kernel
theorem dX8_areAlike_25 : decode cX8_areAlike 25 = .ok (.iaload, 1) := by decide +kernel
theorem dX8_areAlike_26 : decode cX8_areAlike 26 = .ok (.if_icmp .ne 7, 3) := by decide +kernel
theorem dX8_areAlike_29 : decode cX8_areAlike 29 = .ok (.iconst 1, 1) := by decide +kernel
theorem dX8_areAlike_30 : decode cX8_areAlike 30 = .ok (.goto 4, 3) := by decide +kernel
theorem dX8_areAlike_33 : decode cX8_areAlike 33 = .ok (.iconst 0, 1) := by decide +kernel
theorem dX8_areAlike_34 : decode cX8_areAlike 34 = .ok (.ireturn, 1) := by decide +kernel
theorem dX8_reaches_0 : decode cX8_reaches 0 = .ok (.iload_n 2, 1) := by decide +kernel
theorem dX8_reaches_1 : decode cX8_reaches 1 = .ok (.ifCond .lt 26, 3) := by decide +kernel
theorem dX8_reaches_4 : decode cX8_reaches 4 = .ok (.iload_n 3, 1) := by decide +kernel
theorem dX8_reaches_5 : decode cX8_reaches 5 = .ok (.ifCond .lt 22, 3) := by decide +kernel
theorem dX8_reaches_8 : decode cX8_reaches 8 = .ok (.iload_n 2, 1) := by decide +kernel
theorem dX8_reaches_9 : decode cX8_reaches 9 = .ok (.i2l, 1) := by decide +kernel
theorem dX8_reaches_10 : decode cX8_reaches 10 = .ok (.iload_n 3, 1) := by decide +kernel
theorem dX8_reaches_11 : decode cX8_reaches 11 = .ok (.i2l, 1) := by decide +kernel
theorem dX8_reaches_12 : decode cX8_reaches 12 = .ok (.ladd, 1) := by decide +kernel
theorem dX8_reaches_13 : decode cX8_reaches 13 = .ok (.aload_n 0, 1) := by decide +kernel
theorem dX8_reaches_14 : decode cX8_reaches 14 = .ok (.iload_n 1, 1) := by decide +kernel
theorem dX8_reaches_15 : decode cX8_reaches 15 = .ok (.invokevirtual 36, 3) := by decide +kernel
theorem dX8_reaches_18 : decode cX8_reaches 18 = .ok (.i2l, 1) := by decide +kernel
theorem dX8_reaches_19 : decode cX8_reaches 19 = .ok (.lcmp, 1) := by decide +kernel
theorem dX8_reaches_20 : decode cX8_reaches 20 = .ok (.ifCond .gt 7, 3) := by decide +kernel
theorem dX8_reaches_23 : decode cX8_reaches 23 = .ok (.iconst 1, 1) := by decide +kernel
theorem dX8_reaches_24 : decode cX8_reaches 24 = .ok (.goto 4, 3) := by decide +kernel
theorem dX8_reaches_27 : decode cX8_reaches 27 = .ok (.iconst 0, 1) := by decide +kernel
theorem dX8_reaches_28 : decode cX8_reaches 28 = .ok (.ireturn, 1) := by decide +kernel
theorem dX8_copyPart_0 : decode cX8_copyPart 0 = .ok (.aload_n 0, 1) := by decide +kernel
theorem dX8_copyPart_1 : decode cX8_copyPart 1 = .ok (.iload_n 1, 1) := by decide +kernel
theorem dX8_copyPart_2 : decode cX8_copyPart 2 = .ok (.iload_n 2, 1) := by decide +kernel
theorem dX8_copyPart_3 : decode cX8_copyPart 3 = .ok (.iload 5, 2) := by decide +kernel
theorem dX8_copyPart_5 : decode cX8_copyPart 5 = .ok (.invokevirtual 39, 3) := by decide +kernel
theorem dX8_copyPart_8 : decode cX8_copyPart 8 = .ok (.ifCond .eq 41, 3) := by decide +kernel
theorem dX8_copyPart_11 : decode cX8_copyPart 11 = .ok (.aload_n 0, 1) := by decide +kernel
theorem dX8_copyPart_12 : decode cX8_copyPart 12 = .ok (.iload_n 3, 1) := by decide +kernel
theorem dX8_copyPart_13 : decode cX8_copyPart 13 = .ok (.iload 4, 2) := by decide +kernel
theorem dX8_copyPart_15 : decode cX8_copyPart 15 = .ok (.iload 5, 2) := by decide +kernel
theorem dX8_copyPart_17 : decode cX8_copyPart 17 = .ok (.invokevirtual 39, 3) := by decide +kernel
theorem dX8_copyPart_20 : decode cX8_copyPart 20 = .ok (.ifCond .eq 29, 3) := by decide +kernel
theorem dX8_copyPart_23 : decode cX8_copyPart 23 = .ok (.aload_n 0, 1) := by decide +kernel
theorem dX8_copyPart_24 : decode cX8_copyPart 24 = .ok (.getfield 11, 3) := by decide +kernel
theorem dX8_copyPart_27 : decode cX8_copyPart 27 = .ok (.iload_n 1, 1) := by decide +kernel
theorem dX8_copyPart_28 : decode cX8_copyPart 28 = .ok (.bipush 60, 2) := by decide +kernel
theorem dX8_copyPart_30 : decode cX8_copyPart 30 = .ok (.imul, 1) := by decide +kernel
theorem dX8_copyPart_31 : decode cX8_copyPart 31 = .ok (.iload_n 2, 1) := by decide +kernel
theorem dX8_copyPart_32 : decode cX8_copyPart 32 = .ok (.iadd, 1) := by decide +kernel
theorem dX8_copyPart_33 : decode cX8_copyPart 33 = .ok (.aload_n 0, 1) := by decide +kernel
theorem dX8_copyPart_34 : decode cX8_copyPart 34 = .ok (.getfield 11, 3) := by decide +kernel
theorem dX8_copyPart_37 : decode cX8_copyPart 37 = .ok (.iload_n 3, 1) := by decide +kernel
theorem dX8_copyPart_38 : decode cX8_copyPart 38 = .ok (.bipush 60, 2) := by decide +kernel
theorem dX8_copyPart_40 : decode cX8_copyPart 40 = .ok (.imul, 1) := by decide +kernel
theorem dX8_copyPart_41 : decode cX8_copyPart 41 = .ok (.iload 4, 2) := by decide +kernel
theorem dX8_copyPart_43 : decode cX8_copyPart 43 = .ok (.iadd, 1) := by decide +kernel
theorem dX8_copyPart_44 : decode cX8_copyPart 44 = .ok (.iload 5, 2) := by decide +kernel
theorem dX8_copyPart_46 : decode cX8_copyPart 46 = .ok (.invokestatic 43, 3) := by decide +kernel
theorem dX8_copyPart_49 : decode cX8_copyPart 49 = .ok (.return_, 1) := by decide +kernel
theorem dX8_tellsSights_0 : decode cX8_tellsSights 0 = .ok (.aload_n 0, 1) := by decide +kernel
theorem dX8_tellsSights_1 : decode cX8_tellsSights 1 = .ok (.iload_n 1, 1) := by decide +kernel
theorem dX8_tellsSights_2 : decode cX8_tellsSights 2 = .ok (.invokevirtual 36, 3) := by decide +kernel
theorem dX8_tellsSights_5 : decode cX8_tellsSights 5 = .ok (.iconst 2, 1) := by decide +kernel
theorem dX8_tellsSights_6 : decode cX8_tellsSights 6 = .ok (.irem, 1) := by decide +kernel
theorem dX8_tellsSights_7 : decode cX8_tellsSights 7 = .ok (.ifCond .eq 5, 3) := by decide +kernel
theorem dX8_tellsSights_10 : decode cX8_tellsSights 10 = .ok (.iconst 0, 1) := by decide +kernel
theorem dX8_tellsSights_11 : decode cX8_tellsSights 11 = .ok (.ireturn, 1) := by decide +kernel
theorem dX8_tellsSights_12 : decode cX8_tellsSights 12 = .ok (.iconst 0, 1) := by decide +kernel
theorem dX8_tellsSights_13 : decode cX8_tellsSights 13 = .ok (.istore_n 3, 1) := by decide +kernel
theorem dX8_tellsSights_14 : decode cX8_tellsSights 14 = .ok (.iload_n 3, 1) := by decide +kernel
theorem dX8_tellsSights_15 : decode cX8_tellsSights 15 = .ok (.aload_n 0, 1) := by decide +kernel
theorem dX8_tellsSights_16 : decode cX8_tellsSights 16 = .ok (.iload_n 1, 1) := by decide +kernel
theorem dX8_tellsSights_17 : decode cX8_tellsSights 17 = .ok (.invokevirtual 36, 3) := by decide +kernel
theorem dX8_tellsSights_20 : decode cX8_tellsSights 20 = .ok (.if_icmp .ge 62, 3) := by decide +kernel
theorem dX8_tellsSights_23 : decode cX8_tellsSights 23 = .ok (.aload_n 0, 1) := by decide +kernel
theorem dX8_tellsSights_24 : decode cX8_tellsSights 24 = .ok (.iload_n 1, 1) := by decide +kernel
theorem dX8_tellsSights_25 : decode cX8_tellsSights 25 = .ok (.iload_n 3, 1) := by decide +kernel
theorem dX8_tellsSights_26 : decode cX8_tellsSights 26 = .ok (.invokevirtual 49, 3) := by decide +kernel
theorem dX8_tellsSights_29 : decode cX8_tellsSights 29 = .ok (.lstore 4, 2) := by decide +kernel
theorem dX8_tellsSights_31 : decode cX8_tellsSights 31 = .ok (.aload_n 0, 1) := by decide +kernel
theorem dX8_tellsSights_32 : decode cX8_tellsSights 32 = .ok (.iload_n 1, 1) := by decide +kernel
theorem dX8_tellsSights_33 : decode cX8_tellsSights 33 = .ok (.iload_n 3, 1) := by decide +kernel
theorem dX8_tellsSights_34 : decode cX8_tellsSights 34 = .ok (.iconst 1, 1) := by decide +kernel
theorem dX8_tellsSights_35 : decode cX8_tellsSights 35 = .ok (.iadd, 1) := by decide +kernel
theorem dX8_tellsSights_36 : decode cX8_tellsSights 36 = .ok (.invokevirtual 49, 3) := by decide +kernel
theorem dX8_tellsSights_39 : decode cX8_tellsSights 39 = .ok (.lstore 6, 2) := by decide +kernel
theorem dX8_tellsSights_41 : decode cX8_tellsSights 41 = .ok (.lload 4, 2) := by decide +kernel
theorem dX8_tellsSights_43 : decode cX8_tellsSights 43 = .ok (.lconst 0, 1) := by decide +kernel
theorem dX8_tellsSights_44 : decode cX8_tellsSights 44 = .ok (.lcmp, 1) := by decide +kernel
theorem dX8_tellsSights_45 : decode cX8_tellsSights 45 = .ok (.ifCond .lt 29, 3) := by decide +kernel
theorem dX8_tellsSights_48 : decode cX8_tellsSights 48 = .ok (.lload 4, 2) := by decide +kernel
theorem dX8_tellsSights_50 : decode cX8_tellsSights 50 = .ok (.iload_n 2, 1) := by decide +kernel
theorem dX8_tellsSights_51 : decode cX8_tellsSights 51 = .ok (.i2l, 1) := by decide +kernel
theorem dX8_tellsSights_52 : decode cX8_tellsSights 52 = .ok (.lcmp, 1) := by decide +kernel
theorem dX8_tellsSights_53 : decode cX8_tellsSights 53 = .ok (.ifCond .ge 21, 3) := by decide +kernel
theorem dX8_tellsSights_56 : decode cX8_tellsSights 56 = .ok (.lload 6, 2) := by decide +kernel
theorem dX8_tellsSights_58 : decode cX8_tellsSights 58 = .ok (.ldc2_w 53, 3) := by decide +kernel
theorem dX8_tellsSights_61 : decode cX8_tellsSights 61 = .ok (.lcmp, 1) := by decide +kernel
theorem dX8_tellsSights_62 : decode cX8_tellsSights 62 = .ok (.ifCond .lt 12, 3) := by decide +kernel
theorem dX8_tellsSights_65 : decode cX8_tellsSights 65 = .ok (.lload 6, 2) := by decide +kernel
theorem dX8_tellsSights_67 : decode cX8_tellsSights 67 = .ok (.ldc2_w 55, 3) := by decide +kernel
theorem dX8_tellsSights_70 : decode cX8_tellsSights 70 = .ok (.lcmp, 1) := by decide +kernel
theorem dX8_tellsSights_71 : decode cX8_tellsSights 71 = .ok (.ifCond .le 5, 3) := by decide +kernel
theorem dX8_tellsSights_74 : decode cX8_tellsSights 74 = .ok (.iconst 0, 1) := by decide +kernel
theorem dX8_tellsSights_75 : decode cX8_tellsSights 75 = .ok (.ireturn, 1) := by decide +kernel
theorem dX8_tellsSights_76 : decode cX8_tellsSights 76 = .ok (.iinc 3 2, 3) := by decide +kernel
theorem dX8_tellsSights_79 : decode cX8_tellsSights 79 = .ok (.goto (-65), 3) := by decide +kernel
theorem dX8_tellsSights_82 : decode cX8_tellsSights 82 = .ok (.iconst 1, 1) := by decide +kernel
theorem dX8_tellsSights_83 : decode cX8_tellsSights 83 = .ok (.ireturn, 1) := by decide +kernel
theorem dX9_init_0 : decode cX9_init 0 = .ok (.aload_n 0, 1) := by decide +kernel
theorem dX9_init_1 : decode cX9_init 1 = .ok (.invokespecial 3, 3) := by decide +kernel
theorem dX9_init_4 : decode cX9_init 4 = .ok (.aload_n 0, 1) := by decide +kernel
theorem dX9_init_5 : decode cX9_init 5 = .ok (.iconst 0, 1) := by decide +kernel
theorem dX9_init_6 : decode cX9_init 6 = .ok (.putfield 9, 3) := by decide +kernel
theorem dX9_init_9 : decode cX9_init 9 = .ok (.aload_n 0, 1) := by decide +kernel
theorem dX9_init_10 : decode cX9_init 10 = .ok (.iconst 0, 1) := by decide +kernel
theorem dX9_init_11 : decode cX9_init 11 = .ok (.putfield 15, 3) := by decide +kernel
theorem dX9_init_14 : decode cX9_init 14 = .ok (.aload_n 0, 1) := by decide +kernel
theorem dX9_init_15 : decode cX9_init 15 = .ok (.iconst (-1), 1) := by decide +kernel
theorem dX9_init_16 : decode cX9_init 16 = .ok (.putfield 18, 3) := by decide +kernel
theorem dX9_init_19 : decode cX9_init 19 = .ok (.aload_n 0, 1) := by decide +kernel
theorem dX9_init_20 : decode cX9_init 20 = .ok (.new 21, 3) := by decide +kernel
theorem dX9_init_23 : decode cX9_init 23 = .ok (.dup, 1) := by decide +kernel
theorem dX9_init_24 : decode cX9_init 24 = .ok (.invokespecial 23, 3) := by decide +kernel
theorem dX9_init_27 : decode cX9_init 27 = .ok (.putfield 24, 3) := by decide +kernel
theorem dX9_init_30 : decode cX9_init 30 = .ok (.aload_n 0, 1) := by decide +kernel
theorem dX9_init_31 : decode cX9_init 31 = .ok (.sipush 1000, 3) := by decide +kernel
theorem dX9_init_34 : decode cX9_init 34 = .ok (.newarray .byte, 2) := by decide +kernel
theorem dX9_init_36 : decode cX9_init 36 = .ok (.putfield 28, 3) := by decide +kernel
theorem dX9_init_39 : decode cX9_init 39 = .ok (.aload_n 0, 1) := by decide +kernel
theorem dX9_init_40 : decode cX9_init 40 = .ok (.iconst 0, 1) := by decide +kernel
theorem dX9_init_41 : decode cX9_init 41 = .ok (.putfield 32, 3) := by decide +kernel
theorem dX9_init_44 : decode cX9_init 44 = .ok (.aload_n 0, 1) := by decide +kernel
theorem dX9_init_45 : decode cX9_init 45 = .ok (.iconst 0, 1) := by decide +kernel
theorem dX9_init_46 : decode cX9_init 46 = .ok (.putfield 35, 3) := by decide +kernel
theorem dX9_init_49 : decode cX9_init 49 = .ok (.aload_n 0, 1) := by decide +kernel
theorem dX9_init_50 : decode cX9_init 50 = .ok (.iconst 0, 1) := by decide +kernel
theorem dX9_init_51 : decode cX9_init 51 = .ok (.putfield 38, 3) := by decide +kernel
theorem dX9_init_54 : decode cX9_init 54 = .ok (.aload_n 0, 1) := by decide +kernel
theorem dX9_init_55 : decode cX9_init 55 = .ok (.iconst 0, 1) := by decide +kernel
theorem dX9_init_56 : decode cX9_init 56 = .ok (.putfield 41, 3) := by decide +kernel
theorem dX9_init_59 : decode cX9_init 59 = .ok (.return_, 1) := by decide +kernel
theorem dX9_hasRoom_0 : decode cX9_hasRoom 0 = .ok (.aload_n 0, 1) := by decide +kernel
theorem dX9_hasRoom_1 : decode cX9_hasRoom 1 = .ok (.getfield 9, 3) := by decide +kernel
theorem dX9_hasRoom_4 : decode cX9_hasRoom 4 = .ok (.bipush 20, 2) := by decide +kernel
theorem dX9_hasRoom_6 : decode cX9_hasRoom 6 = .ok (.iadd, 1) := by decide +kernel
theorem dX9_hasRoom_7 : decode cX9_hasRoom 7 = .ok (.sipush 1000, 3) := by decide +kernel
theorem dX9_hasRoom_10 : decode cX9_hasRoom 10 = .ok (.if_icmp .gt 7, 3) := by decide +kernel
theorem dX9_hasRoom_13 : decode cX9_hasRoom 13 = .ok (.iconst 1, 1) := by decide +kernel
theorem dX9_hasRoom_14 : decode cX9_hasRoom 14 = .ok (.goto 4, 3) := by decide +kernel
theorem dX9_hasRoom_17 : decode cX9_hasRoom 17 = .ok (.iconst 0, 1) := by decide +kernel
theorem dX9_hasRoom_18 : decode cX9_hasRoom 18 = .ok (.ireturn, 1) := by decide +kernel
theorem dX9_append_0 : decode cX9_append 0 = .ok (.bipush 24, 2) := by decide +kernel
theorem dX9_append_2 : decode cX9_append 2 = .ok (.istore_n 2, 1) := by decide +kernel
theorem dX9_append_3 : decode cX9_append 3 = .ok (.iload_n 2, 1) := by decide +kernel
theorem dX9_append_4 : decode cX9_append 4 = .ok (.ifCond .lt 42, 3) := by decide +kernel
theorem dX9_append_7 : decode cX9_append 7 = .ok (.aload_n 0, 1) := by decide +kernel
theorem dX9_append_8 : decode cX9_append 8 = .ok (.getfield 9, 3) := by decide +kernel
theorem dX9_append_11 : decode cX9_append 11 = .ok (.sipush 1000, 3) := by decide +kernel
theorem dX9_append_14 : decode cX9_append 14 = .ok (.if_icmp .ge 26, 3) := by decide +kernel
theorem dX9_append_17 : decode cX9_append 17 = .ok (.aload_n 0, 1) := by decide +kernel
theorem dX9_append_18 : decode cX9_append 18 = .ok (.getfield 28, 3) := by decide +kernel
theorem dX9_append_21 : decode cX9_append 21 = .ok (.aload_n 0, 1) := by decide +kernel
theorem dX9_append_22 : decode cX9_append 22 = .ok (.getfield 9, 3) := by decide +kernel
theorem dX9_append_25 : decode cX9_append 25 = .ok (.iload_n 1, 1) := by decide +kernel
theorem dX9_append_26 : decode cX9_append 26 = .ok (.iload_n 2, 1) := by decide +kernel
theorem dX9_append_27 : decode cX9_append 27 = .ok (.ishr, 1) := by decide +kernel
theorem dX9_append_28 : decode cX9_append 28 = .ok (.i2b, 1) := by decide +kernel
theorem dX9_append_29 : decode cX9_append 29 = .ok (.bastore, 1) := by decide +kernel
theorem dX9_append_30 : decode cX9_append 30 = .ok (.aload_n 0, 1) := by decide +kernel
theorem dX9_append_31 : decode cX9_append 31 = .ok (.dup, 1) := by decide +kernel
theorem dX9_append_32 : decode cX9_append 32 = .ok (.getfield 9, 3) := by decide +kernel
theorem dX9_append_35 : decode cX9_append 35 = .ok (.iconst 1, 1) := by decide +kernel
theorem dX9_append_36 : decode cX9_append 36 = .ok (.iadd, 1) := by decide +kernel
theorem dX9_append_37 : decode cX9_append 37 = .ok (.putfield 9, 3) := by decide +kernel
theorem dX9_append_40 : decode cX9_append 40 = .ok (.iinc 2 (-8), 3) := by decide +kernel
theorem dX9_append_43 : decode cX9_append 43 = .ok (.goto (-40), 3) := by decide +kernel
theorem dX9_append_46 : decode cX9_append 46 = .ok (.return_, 1) := by decide +kernel
theorem dX9_reads_0 : decode cX9_reads 0 = .ok (.aload_n 0, 1) := by decide +kernel
theorem dX9_reads_1 : decode cX9_reads 1 = .ok (.getfield 24, 3) := by decide +kernel
theorem dX9_reads_4 : decode cX9_reads 4 = .ok (.invokevirtual 44, 3) := by decide +kernel
theorem dX9_reads_7 : decode cX9_reads 7 = .ok (.aload_n 0, 1) := by decide +kernel
theorem dX9_reads_8 : decode cX9_reads 8 = .ok (.iconst 0, 1) := by decide +kernel
theorem dX9_reads_9 : decode cX9_reads 9 = .ok (.putfield 15, 3) := by decide +kernel
theorem dX9_reads_12 : decode cX9_reads 12 = .ok (.aload_n 0, 1) := by decide +kernel
theorem dX9_reads_13 : decode cX9_reads 13 = .ok (.iconst (-1), 1) := by decide +kernel
theorem dX9_reads_14 : decode cX9_reads 14 = .ok (.putfield 18, 3) := by decide +kernel
theorem dX9_reads_17 : decode cX9_reads 17 = .ok (.aload_n 0, 1) := by decide +kernel
theorem dX9_reads_18 : decode cX9_reads 18 = .ok (.iconst 0, 1) := by decide +kernel
theorem dX9_reads_19 : decode cX9_reads 19 = .ok (.putfield 38, 3) := by decide +kernel
theorem dX9_reads_22 : decode cX9_reads 22 = .ok (.iconst 0, 1) := by decide +kernel
theorem dX9_reads_23 : decode cX9_reads 23 = .ok (.istore_n 1, 1) := by decide +kernel
theorem dX9_reads_24 : decode cX9_reads 24 = .ok (.iload_n 1, 1) := by decide +kernel
theorem dX9_reads_25 : decode cX9_reads 25 = .ok (.sipush 1000, 3) := by decide +kernel
theorem dX9_reads_28 : decode cX9_reads 28 = .ok (.if_icmp .gt 44, 3) := by decide +kernel
theorem dX9_reads_31 : decode cX9_reads 31 = .ok (.aload_n 0, 1) := by decide +kernel
theorem dX9_reads_32 : decode cX9_reads 32 = .ok (.invokevirtual 47, 3) := by decide +kernel
theorem dX9_reads_35 : decode cX9_reads 35 = .ok (.aload_n 0, 1) := by decide +kernel
theorem dX9_reads_36 : decode cX9_reads 36 = .ok (.getfield 32, 3) := by decide +kernel
theorem dX9_reads_39 : decode cX9_reads 39 = .ok (.ifCond .ne 5, 3) := by decide +kernel
theorem dX9_reads_42 : decode cX9_reads 42 = .ok (.iconst 1, 1) := by decide +kernel
theorem dX9_reads_43 : decode cX9_reads 43 = .ok (.ireturn, 1) := by decide +kernel
theorem dX9_reads_44 : decode cX9_reads 44 = .ok (.aload_n 0, 1) := by decide +kernel
theorem dX9_reads_45 : decode cX9_reads 45 = .ok (.invokevirtual 50, 3) := by decide +kernel
theorem dX9_reads_48 : decode cX9_reads 48 = .ok (.ifCond .ne 5, 3) := by decide +kernel
theorem dX9_reads_51 : decode cX9_reads 51 = .ok (.iconst 0, 1) := by decide +kernel
theorem dX9_reads_52 : decode cX9_reads 52 = .ok (.ireturn, 1) := by decide +kernel
theorem dX9_reads_53 : decode cX9_reads 53 = .ok (.aload_n 0, 1) := by decide +kernel
theorem dX9_reads_54 : decode cX9_reads 54 = .ok (.getfield 24, 3) := by decide +kernel
theorem dX9_reads_57 : decode cX9_reads 57 = .ok (.dup, 1) := by decide +kernel
theorem dX9_reads_58 : decode cX9_reads 58 = .ok (.getfield 54, 3) := by decide +kernel
theorem dX9_reads_61 : decode cX9_reads 61 = .ok (.iconst 1, 1) := by decide +kernel
theorem dX9_reads_62 : decode cX9_reads 62 = .ok (.iadd, 1) := by decide +kernel
theorem dX9_reads_63 : decode cX9_reads 63 = .ok (.putfield 54, 3) := by decide +kernel
theorem dX9_reads_66 : decode cX9_reads 66 = .ok (.iinc 1 1, 3) := by decide +kernel
theorem dX9_reads_69 : decode cX9_reads 69 = .ok (.goto (-45), 3) := by decide +kernel
theorem dX9_reads_72 : decode cX9_reads 72 = .ok (.aload_n 0, 1) := by decide +kernel
theorem dX9_reads_73 : decode cX9_reads 73 = .ok (.iconst 1, 1) := by decide +kernel
theorem dX9_reads_74 : decode cX9_reads 74 = .ok (.invokevirtual 57, 3) := by decide +kernel
theorem dX9_reads_77 : decode cX9_reads 77 = .ok (.ireturn, 1) := by decide +kernel
theorem dX9_refuse_0 : decode cX9_refuse 0 = .ok (.aload_n 0, 1) := by decide +kernel
theorem dX9_refuse_1 : decode cX9_refuse 1 = .ok (.iload_n 1, 1) := by decide +kernel
theorem dX9_refuse_2 : decode cX9_refuse 2 = .ok (.putfield 15, 3) := by decide +kernel
theorem dX9_refuse_5 : decode cX9_refuse 5 = .ok (.aload_n 0, 1) := by decide +kernel
theorem dX9_refuse_6 : decode cX9_refuse 6 = .ok (.aload_n 0, 1) := by decide +kernel
theorem dX9_refuse_7 : decode cX9_refuse 7 = .ok (.getfield 35, 3) := by decide +kernel
theorem dX9_refuse_10 : decode cX9_refuse 10 = .ok (.putfield 18, 3) := by decide +kernel
theorem dX9_refuse_13 : decode cX9_refuse 13 = .ok (.iconst 0, 1) := by decide +kernel
theorem dX9_refuse_14 : decode cX9_refuse 14 = .ok (.ireturn, 1) := by decide +kernel
theorem dX9_readsLine_0 : decode cX9_readsLine 0 = .ok (.aload_n 0, 1) := by decide +kernel
theorem dX9_readsLine_1 : decode cX9_readsLine 1 = .ok (.getfield 24, 3) := by decide +kernel
theorem dX9_readsLine_4 : decode cX9_readsLine 4 = .ok (.getfield 54, 3) := by decide +kernel
theorem dX9_readsLine_7 : decode cX9_readsLine 7 = .ok (.ifCond .ne 25, 3) := by decide +kernel
theorem dX9_readsLine_10 : decode cX9_readsLine 10 = .ok (.aload_n 0, 1) := by decide +kernel
theorem dX9_readsLine_11 : decode cX9_readsLine 11 = .ok (.ldc 61, 2) := by decide +kernel
theorem dX9_readsLine_13 : decode cX9_readsLine 13 = .ok (.invokevirtual 63, 3) := by decide +kernel
theorem dX9_readsLine_16 : decode cX9_readsLine 16 = .ok (.ifCond .eq 10, 3) := by decide +kernel
theorem dX9_readsLine_19 : decode cX9_readsLine 19 = .ok (.aload_n 0, 1) := by decide +kernel
theorem dX9_readsLine_20 : decode cX9_readsLine 20 = .ok (.invokevirtual 67, 3) := by decide +kernel
theorem dX9_readsLine_23 : decode cX9_readsLine 23 = .ok (.goto 8, 3) := by decide +kernel
theorem dX9_readsLine_26 : decode cX9_readsLine 26 = .ok (.aload_n 0, 1) := by decide +kernel
theorem dX9_readsLine_27 : decode cX9_readsLine 27 = .ok (.iconst 1, 1) := by decide +kernel
theorem dX9_readsLine_28 : decode cX9_readsLine 28 = .ok (.invokevirtual 57, 3) := by decide +kernel
theorem dX9_readsLine_31 : decode cX9_readsLine 31 = .ok (.ireturn, 1) := by decide +kernel
theorem dX9_readsLine_32 : decode cX9_readsLine 32 = .ok (.aload_n 0, 1) := by decide +kernel
theorem dX9_readsLine_33 : decode cX9_readsLine 33 = .ok (.ldc 70, 2) := by decide +kernel
theorem dX9_readsLine_35 : decode cX9_readsLine 35 = .ok (.invokevirtual 63, 3) := by decide +kernel
theorem dX9_readsLine_38 : decode cX9_readsLine 38 = .ok (.ifCond .eq 47, 3) := by decide +kernel
theorem dX9_readsLine_41 : decode cX9_readsLine 41 = .ok (.aload_n 0, 1) := by decide +kernel
theorem dX9_readsLine_42 : decode cX9_readsLine 42 = .ok (.getfield 24, 3) := by decide +kernel
theorem dX9_readsLine_45 : decode cX9_readsLine 45 = .ok (.getfield 72, 3) := by decide +kernel
theorem dX9_readsLine_48 : decode cX9_readsLine 48 = .ok (.istore_n 1, 1) := by decide +kernel
theorem dX9_readsLine_49 : decode cX9_readsLine 49 = .ok (.iload_n 1, 1) := by decide +kernel
theorem dX9_readsLine_50 : decode cX9_readsLine 50 = .ok (.bipush 10, 2) := by decide +kernel
theorem dX9_readsLine_52 : decode cX9_readsLine 52 = .ok (.if_icmp .ge 27, 3) := by decide +kernel
theorem dX9_readsLine_55 : decode cX9_readsLine 55 = .ok (.aload_n 0, 1) := by decide +kernel
theorem dX9_readsLine_56 : decode cX9_readsLine 56 = .ok (.iload_n 1, 1) := by decide +kernel
theorem dX9_readsLine_57 : decode cX9_readsLine 57 = .ok (.invokevirtual 75, 3) := by decide +kernel
theorem dX9_readsLine_60 : decode cX9_readsLine 60 = .ok (.ifCond .eq 15, 3) := by decide +kernel
theorem dX9_readsLine_63 : decode cX9_readsLine 63 = .ok (.aload_n 0, 1) := by decide +kernel
theorem dX9_readsLine_64 : decode cX9_readsLine 64 = .ok (.iload_n 1, 1) := by decide +kernel
theorem dX9_readsLine_65 : decode cX9_readsLine 65 = .ok (.invokevirtual 78, 3) := by decide +kernel
theorem dX9_readsLine_68 : decode cX9_readsLine 68 = .ok (.ifCond .eq 7, 3) := by decide +kernel
theorem dX9_readsLine_71 : decode cX9_readsLine 71 = .ok (.iconst 1, 1) := by decide +kernel
theorem dX9_readsLine_72 : decode cX9_readsLine 72 = .ok (.goto 12, 3) := by decide +kernel
theorem dX9_readsLine_75 : decode cX9_readsLine 75 = .ok (.iconst 0, 1) := by decide +kernel
theorem dX9_readsLine_76 : decode cX9_readsLine 76 = .ok (.goto 8, 3) := by decide +kernel
theorem dX9_readsLine_79 : decode cX9_readsLine 79 = .ok (.aload_n 0, 1) := by decide +kernel
theorem dX9_readsLine_80 : decode cX9_readsLine 80 = .ok (.iconst 3, 1) := by decide +kernel
theorem dX9_readsLine_81 : decode cX9_readsLine 81 = .ok (.invokevirtual 57, 3) := by decide +kernel
theorem dX9_readsLine_84 : decode cX9_readsLine 84 = .ok (.ireturn, 1) := by decide +kernel
theorem dX9_readsLine_85 : decode cX9_readsLine 85 = .ok (.aload_n 0, 1) := by decide +kernel
theorem dX9_readsLine_86 : decode cX9_readsLine 86 = .ok (.ldc 81, 2) := by decide +kernel
theorem dX9_readsLine_88 : decode cX9_readsLine 88 = .ok (.invokevirtual 63, 3) := by decide +kernel
theorem dX9_readsLine_91 : decode cX9_readsLine 91 = .ok (.ifCond .eq 34, 3) := by decide +kernel
