theorem dX11_bar_14 : decode cX11_bar 14 = .ok (.if_icmp .le 6, 3) := by decide +kernel
theorem dX11_bar_17 : decode cX11_bar 17 = .ok (.bipush (-2), 2) := by decide +kernel
theorem dX11_bar_19 : decode cX11_bar 19 = .ok (.ireturn, 1) := by decide +kernel
theorem dX11_bar_20 : decode cX11_bar 20 = .ok (.aload_n 0, 1) := by decide +kernel
theorem dX11_bar_21 : decode cX11_bar 21 = .ok (.getfield 19, 3) := by decide +kernel
theorem dX11_bar_24 : decode cX11_bar 24 = .ok (.getfield 361, 3) := by decide +kernel
theorem dX11_bar_27 : decode cX11_bar 27 = .ok (.getfield 365, 3) := by decide +kernel
theorem dX11_bar_30 : decode cX11_bar 30 = .ok (.bipush 40, 2) := by decide +kernel
theorem dX11_bar_32 : decode cX11_bar 32 = .ok (.if_icmp .lt 6, 3) := by decide +kernel
theorem dX11_bar_35 : decode cX11_bar 35 = .ok (.bipush (-5), 2) := by decide +kernel
theorem dX11_bar_37 : decode cX11_bar 37 = .ok (.ireturn, 1) := by decide +kernel
theorem dX11_bar_38 : decode cX11_bar 38 = .ok (.aload_n 0, 1) := by decide +kernel
theorem dX11_bar_39 : decode cX11_bar 39 = .ok (.getfield 19, 3) := by decide +kernel
theorem dX11_bar_42 : decode cX11_bar 42 = .ok (.getfield 133, 3) := by decide +kernel
theorem dX11_bar_45 : decode cX11_bar 45 = .ok (.iload_n 1, 1) := by decide +kernel
theorem dX11_bar_46 : decode cX11_bar 46 = .ok (.ishr, 1) := by decide +kernel
theorem dX11_bar_47 : decode cX11_bar 47 = .ok (.iconst 1, 1) := by decide +kernel
theorem dX11_bar_48 : decode cX11_bar 48 = .ok (.iand, 1) := by decide +kernel
theorem dX11_bar_49 : decode cX11_bar 49 = .ok (.istore_n 3, 1) := by decide +kernel
theorem dX11_bar_50 : decode cX11_bar 50 = .ok (.aload_n 0, 1) := by decide +kernel
theorem dX11_bar_51 : decode cX11_bar 51 = .ok (.getfield 19, 3) := by decide +kernel
theorem dX11_bar_54 : decode cX11_bar 54 = .ok (.getfield 361, 3) := by decide +kernel
theorem dX11_bar_57 : decode cX11_bar 57 = .ok (.iconst 0, 1) := by decide +kernel
theorem dX11_bar_58 : decode cX11_bar 58 = .ok (.iload_n 1, 1) := by decide +kernel
theorem dX11_bar_59 : decode cX11_bar 59 = .ok (.iload_n 3, 1) := by decide +kernel
theorem dX11_bar_60 : decode cX11_bar 60 = .ok (.invokevirtual 370, 3) := by decide +kernel
theorem dX11_bar_63 : decode cX11_bar 63 = .ok (.aload_n 0, 1) := by decide +kernel
theorem dX11_bar_64 : decode cX11_bar 64 = .ok (.getfield 19, 3) := by decide +kernel
theorem dX11_bar_67 : decode cX11_bar 67 = .ok (.iload_n 1, 1) := by decide +kernel
theorem dX11_bar_68 : decode cX11_bar 68 = .ok (.iload_n 2, 1) := by decide +kernel
theorem dX11_bar_69 : decode cX11_bar 69 = .ok (.invokevirtual 374, 3) := by decide +kernel
theorem dX11_bar_72 : decode cX11_bar 72 = .ok (.iload_n 3, 1) := by decide +kernel
theorem dX11_bar_73 : decode cX11_bar 73 = .ok (.ireturn, 1) := by decide +kernel
theorem dX11_holds_0 : decode cX11_holds 0 = .ok (.aload_n 0, 1) := by decide +kernel
theorem dX11_holds_1 : decode cX11_holds 1 = .ok (.iload_n 1, 1) := by decide +kernel
theorem dX11_holds_2 : decode cX11_holds 2 = .ok (.invokevirtual 136, 3) := by decide +kernel
theorem dX11_holds_5 : decode cX11_holds 5 = .ok (.ifCond .eq 13, 3) := by decide +kernel
theorem dX11_holds_8 : decode cX11_holds 8 = .ok (.iload_n 2, 1) := by decide +kernel
theorem dX11_holds_9 : decode cX11_holds 9 = .ok (.ifCond .lt 9, 3) := by decide +kernel
theorem dX11_holds_12 : decode cX11_holds 12 = .ok (.iload_n 2, 1) := by decide +kernel
theorem dX11_holds_13 : decode cX11_holds 13 = .ok (.bipush 99, 2) := by decide +kernel
theorem dX11_holds_15 : decode cX11_holds 15 = .ok (.if_icmp .le 6, 3) := by decide +kernel
theorem dX11_holds_18 : decode cX11_holds 18 = .ok (.bipush (-2), 2) := by decide +kernel
theorem dX11_holds_20 : decode cX11_holds 20 = .ok (.ireturn, 1) := by decide +kernel
theorem dX11_holds_21 : decode cX11_holds 21 = .ok (.aload_n 0, 1) := by decide +kernel
theorem dX11_holds_22 : decode cX11_holds 22 = .ok (.getfield 19, 3) := by decide +kernel
theorem dX11_holds_25 : decode cX11_holds 25 = .ok (.getfield 361, 3) := by decide +kernel
theorem dX11_holds_28 : decode cX11_holds 28 = .ok (.getfield 365, 3) := by decide +kernel
theorem dX11_holds_31 : decode cX11_holds 31 = .ok (.bipush 40, 2) := by decide +kernel
theorem dX11_holds_33 : decode cX11_holds 33 = .ok (.if_icmp .lt 6, 3) := by decide +kernel
theorem dX11_holds_36 : decode cX11_holds 36 = .ok (.bipush (-5), 2) := by decide +kernel
theorem dX11_holds_38 : decode cX11_holds 38 = .ok (.ireturn, 1) := by decide +kernel
theorem dX11_holds_39 : decode cX11_holds 39 = .ok (.aload_n 0, 1) := by decide +kernel
theorem dX11_holds_40 : decode cX11_holds 40 = .ok (.getfield 19, 3) := by decide +kernel
theorem dX11_holds_43 : decode cX11_holds 43 = .ok (.getfield 142, 3) := by decide +kernel
theorem dX11_holds_46 : decode cX11_holds 46 = .ok (.iload_n 1, 1) := by decide +kernel
theorem dX11_holds_47 : decode cX11_holds 47 = .ok (.iaload, 1) := by decide +kernel
theorem dX11_holds_48 : decode cX11_holds 48 = .ok (.istore_n 3, 1) := by decide +kernel
theorem dX11_holds_49 : decode cX11_holds 49 = .ok (.aload_n 0, 1) := by decide +kernel
theorem dX11_holds_50 : decode cX11_holds 50 = .ok (.getfield 19, 3) := by decide +kernel
theorem dX11_holds_53 : decode cX11_holds 53 = .ok (.getfield 361, 3) := by decide +kernel
theorem dX11_holds_56 : decode cX11_holds 56 = .ok (.iconst 1, 1) := by decide +kernel
theorem dX11_holds_57 : decode cX11_holds 57 = .ok (.iload_n 1, 1) := by decide +kernel
theorem dX11_holds_58 : decode cX11_holds 58 = .ok (.iload_n 3, 1) := by decide +kernel
theorem dX11_holds_59 : decode cX11_holds 59 = .ok (.invokevirtual 370, 3) := by decide +kernel
theorem dX11_holds_62 : decode cX11_holds 62 = .ok (.aload_n 0, 1) := by decide +kernel
theorem dX11_holds_63 : decode cX11_holds 63 = .ok (.getfield 19, 3) := by decide +kernel
theorem dX11_holds_66 : decode cX11_holds 66 = .ok (.getfield 142, 3) := by decide +kernel
theorem dX11_holds_69 : decode cX11_holds 69 = .ok (.iload_n 1, 1) := by decide +kernel
theorem dX11_holds_70 : decode cX11_holds 70 = .ok (.iload_n 2, 1) := by decide +kernel
theorem dX11_holds_71 : decode cX11_holds 71 = .ok (.iastore, 1) := by decide +kernel
theorem dX11_holds_72 : decode cX11_holds 72 = .ok (.iload_n 3, 1) := by decide +kernel
theorem dX11_holds_73 : decode cX11_holds 73 = .ok (.ireturn, 1) := by decide +kernel
theorem dX11_undo_0 : decode cX11_undo 0 = .ok (.aload_n 0, 1) := by decide +kernel
theorem dX11_undo_1 : decode cX11_undo 1 = .ok (.invokevirtual 186, 3) := by decide +kernel
theorem dX11_undo_4 : decode cX11_undo 4 = .ok (.ifCond .eq 6, 3) := by decide +kernel
theorem dX11_undo_7 : decode cX11_undo 7 = .ok (.bipush (-2), 2) := by decide +kernel
theorem dX11_undo_9 : decode cX11_undo 9 = .ok (.ireturn, 1) := by decide +kernel
theorem dX11_undo_10 : decode cX11_undo 10 = .ok (.aload_n 0, 1) := by decide +kernel
theorem dX11_undo_11 : decode cX11_undo 11 = .ok (.getfield 19, 3) := by decide +kernel
theorem dX11_undo_14 : decode cX11_undo 14 = .ok (.getfield 361, 3) := by decide +kernel
theorem dX11_undo_17 : decode cX11_undo 17 = .ok (.getfield 365, 3) := by decide +kernel
theorem dX11_undo_20 : decode cX11_undo 20 = .ok (.ifCond .ne 6, 3) := by decide +kernel
theorem dX11_undo_23 : decode cX11_undo 23 = .ok (.bipush (-5), 2) := by decide +kernel
theorem dX11_undo_25 : decode cX11_undo 25 = .ok (.ireturn, 1) := by decide +kernel
theorem dX11_undo_26 : decode cX11_undo 26 = .ok (.aload_n 0, 1) := by decide +kernel
theorem dX11_undo_27 : decode cX11_undo 27 = .ok (.getfield 19, 3) := by decide +kernel
theorem dX11_undo_30 : decode cX11_undo 30 = .ok (.invokevirtual 378, 3) := by decide +kernel
theorem dX11_undo_33 : decode cX11_undo 33 = .ok (.aload_n 0, 1) := by decide +kernel
theorem dX11_undo_34 : decode cX11_undo 34 = .ok (.getfield 19, 3) := by decide +kernel
theorem dX11_undo_37 : decode cX11_undo 37 = .ok (.getfield 361, 3) := by decide +kernel
theorem dX11_undo_40 : decode cX11_undo 40 = .ok (.getfield 365, 3) := by decide +kernel
theorem dX11_undo_43 : decode cX11_undo 43 = .ok (.ireturn, 1) := by decide +kernel
theorem dX11_anew_0 : decode cX11_anew 0 = .ok (.aload_n 0, 1) := by decide +kernel
theorem dX11_anew_1 : decode cX11_anew 1 = .ok (.invokevirtual 186, 3) := by decide +kernel
theorem dX11_anew_4 : decode cX11_anew 4 = .ok (.ifCond .eq 6, 3) := by decide +kernel
theorem dX11_anew_7 : decode cX11_anew 7 = .ok (.bipush (-2), 2) := by decide +kernel
theorem dX11_anew_9 : decode cX11_anew 9 = .ok (.ireturn, 1) := by decide +kernel
theorem dX11_anew_10 : decode cX11_anew 10 = .ok (.aload_n 0, 1) := by decide +kernel
theorem dX11_anew_11 : decode cX11_anew 11 = .ok (.getfield 19, 3) := by decide +kernel
theorem dX11_anew_14 : decode cX11_anew 14 = .ok (.getfield 361, 3) := by decide +kernel
theorem dX11_anew_17 : decode cX11_anew 17 = .ok (.getfield 365, 3) := by decide +kernel
theorem dX11_anew_20 : decode cX11_anew 20 = .ok (.istore_n 1, 1) := by decide +kernel
theorem dX11_anew_21 : decode cX11_anew 21 = .ok (.iconst 0, 1) := by decide +kernel
theorem dX11_anew_22 : decode cX11_anew 22 = .ok (.istore_n 2, 1) := by decide +kernel
theorem dX11_anew_23 : decode cX11_anew 23 = .ok (.iload_n 2, 1) := by decide +kernel
theorem dX11_anew_24 : decode cX11_anew 24 = .ok (.iload_n 1, 1) := by decide +kernel
theorem dX11_anew_25 : decode cX11_anew 25 = .ok (.if_icmp .ge 16, 3) := by decide +kernel
theorem dX11_anew_28 : decode cX11_anew 28 = .ok (.aload_n 0, 1) := by decide +kernel
theorem dX11_anew_29 : decode cX11_anew 29 = .ok (.getfield 19, 3) := by decide +kernel
theorem dX11_anew_32 : decode cX11_anew 32 = .ok (.invokevirtual 378, 3) := by decide +kernel
theorem dX11_anew_35 : decode cX11_anew 35 = .ok (.iinc 2 1, 3) := by decide +kernel
theorem dX11_anew_38 : decode cX11_anew 38 = .ok (.goto (-15), 3) := by decide +kernel
theorem dX11_anew_41 : decode cX11_anew 41 = .ok (.iload_n 1, 1) := by decide +kernel
theorem dX11_anew_42 : decode cX11_anew 42 = .ok (.ireturn, 1) := by decide +kernel
theorem dX11_drawn_0 : decode cX11_drawn 0 = .ok (.aload_n 0, 1) := by decide +kernel
theorem dX11_drawn_1 : decode cX11_drawn 1 = .ok (.invokevirtual 186, 3) := by decide +kernel
theorem dX11_drawn_4 : decode cX11_drawn 4 = .ok (.ifCond .ne 19, 3) := by decide +kernel
theorem dX11_drawn_7 : decode cX11_drawn 7 = .ok (.iload_n 1, 1) := by decide +kernel
theorem dX11_drawn_8 : decode cX11_drawn 8 = .ok (.invokestatic 381, 3) := by decide +kernel
theorem dX11_drawn_11 : decode cX11_drawn 11 = .ok (.ifCond .eq 12, 3) := by decide +kernel
theorem dX11_drawn_14 : decode cX11_drawn 14 = .ok (.iload_n 2, 1) := by decide +kernel
theorem dX11_drawn_15 : decode cX11_drawn 15 = .ok (.ifCond .lt 8, 3) := by decide +kernel
theorem dX11_drawn_18 : decode cX11_drawn 18 = .ok (.iload_n 2, 1) := by decide +kernel
theorem dX11_drawn_19 : decode cX11_drawn 19 = .ok (.iconst 1, 1) := by decide +kernel
theorem dX11_drawn_20 : decode cX11_drawn 20 = .ok (.if_icmp .le 6, 3) := by decide +kernel
theorem dX11_drawn_23 : decode cX11_drawn 23 = .ok (.bipush (-2), 2) := by decide +kernel
theorem dX11_drawn_25 : decode cX11_drawn 25 = .ok (.ireturn, 1) := by decide +kernel
theorem dX11_drawn_26 : decode cX11_drawn 26 = .ok (.aload_n 0, 1) := by decide +kernel
theorem dX11_drawn_27 : decode cX11_drawn 27 = .ok (.getfield 19, 3) := by decide +kernel
theorem dX11_drawn_30 : decode cX11_drawn 30 = .ok (.iload_n 1, 1) := by decide +kernel
theorem dX11_drawn_31 : decode cX11_drawn 31 = .ok (.i2l, 1) := by decide +kernel
theorem dX11_drawn_32 : decode cX11_drawn 32 = .ok (.invokestatic 384, 3) := by decide +kernel
theorem dX11_drawn_35 : decode cX11_drawn 35 = .ok (.istore_n 3, 1) := by decide +kernel
theorem dX11_drawn_36 : decode cX11_drawn 36 = .ok (.iload_n 2, 1) := by decide +kernel
theorem dX11_drawn_37 : decode cX11_drawn 37 = .ok (.ifCond .ne 5, 3) := by decide +kernel
theorem dX11_drawn_40 : decode cX11_drawn 40 = .ok (.iload_n 3, 1) := by decide +kernel
theorem dX11_drawn_41 : decode cX11_drawn 41 = .ok (.ireturn, 1) := by decide +kernel
theorem dX11_drawn_42 : decode cX11_drawn 42 = .ok (.aload_n 0, 1) := by decide +kernel
theorem dX11_drawn_43 : decode cX11_drawn 43 = .ok (.getfield 41, 3) := by decide +kernel
theorem dX11_drawn_46 : decode cX11_drawn 46 = .ok (.aload_n 0, 1) := by decide +kernel
theorem dX11_drawn_47 : decode cX11_drawn 47 = .ok (.getfield 19, 3) := by decide +kernel
theorem dX11_drawn_50 : decode cX11_drawn 50 = .ok (.aload_n 0, 1) := by decide +kernel
theorem dX11_drawn_51 : decode cX11_drawn 51 = .ok (.getfield 19, 3) := by decide +kernel
theorem dX11_drawn_54 : decode cX11_drawn 54 = .ok (.invokevirtual 205, 3) := by decide +kernel
theorem dX11_drawn_57 : decode cX11_drawn 57 = .ok (.iload_n 3, 1) := by decide +kernel
theorem dX11_drawn_58 : decode cX11_drawn 58 = .ok (.invokevirtual 209, 3) := by decide +kernel
theorem dX11_drawn_61 : decode cX11_drawn 61 = .ok (.aload_n 0, 1) := by decide +kernel
theorem dX11_drawn_62 : decode cX11_drawn 62 = .ok (.getfield 41, 3) := by decide +kernel
theorem dX11_drawn_65 : decode cX11_drawn 65 = .ok (.aload_n 0, 1) := by decide +kernel
theorem dX11_drawn_66 : decode cX11_drawn 66 = .ok (.getfield 19, 3) := by decide +kernel
theorem dX11_drawn_69 : decode cX11_drawn 69 = .ok (.invokevirtual 195, 3) := by decide +kernel
theorem dX11_drawn_72 : decode cX11_drawn 72 = .ok (.invokestatic 170, 3) := by decide +kernel
theorem dX11_drawn_75 : decode cX11_drawn 75 = .ok (.ireturn, 1) := by decide +kernel
theorem dX11_luck_0 : decode cX11_luck 0 = .ok (.iload_n 1, 1) := by decide +kernel
theorem dX11_luck_1 : decode cX11_luck 1 = .ok (.invokestatic 381, 3) := by decide +kernel
theorem dX11_luck_4 : decode cX11_luck 4 = .ok (.ifCond .eq 30, 3) := by decide +kernel
theorem dX11_luck_7 : decode cX11_luck 7 = .ok (.iload_n 2, 1) := by decide +kernel
theorem dX11_luck_8 : decode cX11_luck 8 = .ok (.iconst 1, 1) := by decide +kernel
theorem dX11_luck_9 : decode cX11_luck 9 = .ok (.if_icmp .lt 25, 3) := by decide +kernel
theorem dX11_luck_12 : decode cX11_luck 12 = .ok (.iload_n 2, 1) := by decide +kernel
theorem dX11_luck_13 : decode cX11_luck 13 = .ok (.bipush 20, 2) := by decide +kernel
theorem dX11_luck_15 : decode cX11_luck 15 = .ok (.if_icmp .gt 19, 3) := by decide +kernel
theorem dX11_luck_18 : decode cX11_luck 18 = .ok (.aload_n 0, 1) := by decide +kernel
theorem dX11_luck_19 : decode cX11_luck 19 = .ok (.iload_n 3, 1) := by decide +kernel
theorem dX11_luck_20 : decode cX11_luck 20 = .ok (.invokevirtual 160, 3) := by decide +kernel
theorem dX11_luck_23 : decode cX11_luck 23 = .ok (.ifCond .eq 11, 3) := by decide +kernel
theorem dX11_luck_26 : decode cX11_luck 26 = .ok (.iload 4, 2) := by decide +kernel
theorem dX11_luck_28 : decode cX11_luck 28 = .ok (.invokestatic 189, 3) := by decide +kernel
theorem dX11_luck_31 : decode cX11_luck 31 = .ok (.ifCond .ne 6, 3) := by decide +kernel
theorem dX11_luck_34 : decode cX11_luck 34 = .ok (.bipush (-2), 2) := by decide +kernel
theorem dX11_luck_36 : decode cX11_luck 36 = .ok (.ireturn, 1) := by decide +kernel
theorem dX11_luck_37 : decode cX11_luck 37 = .ok (.iconst 0, 1) := by decide +kernel
theorem dX11_luck_38 : decode cX11_luck 38 = .ok (.istore 5, 2) := by decide +kernel
theorem dX11_luck_40 : decode cX11_luck 40 = .ok (.iconst 0, 1) := by decide +kernel
theorem dX11_luck_41 : decode cX11_luck 41 = .ok (.istore 6, 2) := by decide +kernel
theorem dX11_luck_43 : decode cX11_luck 43 = .ok (.iload 6, 2) := by decide +kernel
theorem dX11_luck_45 : decode cX11_luck 45 = .ok (.iload_n 2, 1) := by decide +kernel
theorem dX11_luck_46 : decode cX11_luck 46 = .ok (.if_icmp .ge 64, 3) := by decide +kernel
theorem dX11_luck_49 : decode cX11_luck 49 = .ok (.aload_n 0, 1) := by decide +kernel
theorem dX11_luck_50 : decode cX11_luck 50 = .ok (.getfield 41, 3) := by decide +kernel
theorem dX11_luck_53 : decode cX11_luck 53 = .ok (.aload_n 0, 1) := by decide +kernel
theorem dX11_luck_54 : decode cX11_luck 54 = .ok (.getfield 19, 3) := by decide +kernel
theorem dX11_luck_57 : decode cX11_luck 57 = .ok (.aload_n 0, 1) := by decide +kernel
theorem dX11_luck_58 : decode cX11_luck 58 = .ok (.getfield 19, 3) := by decide +kernel
theorem dX11_luck_61 : decode cX11_luck 61 = .ok (.invokevirtual 205, 3) := by decide +kernel
theorem dX11_luck_64 : decode cX11_luck 64 = .ok (.aload_n 0, 1) := by decide +kernel
theorem dX11_luck_65 : decode cX11_luck 65 = .ok (.getfield 19, 3) := by decide +kernel
theorem dX11_luck_68 : decode cX11_luck 68 = .ok (.iload_n 1, 1) := by decide +kernel
theorem dX11_luck_69 : decode cX11_luck 69 = .ok (.i2l, 1) := by decide +kernel
theorem dX11_luck_70 : decode cX11_luck 70 = .ok (.iload 6, 2) := by decide +kernel
theorem dX11_luck_72 : decode cX11_luck 72 = .ok (.i2l, 1) := by decide +kernel
theorem dX11_luck_73 : decode cX11_luck 73 = .ok (.ladd, 1) := by decide +kernel
theorem dX11_luck_74 : decode cX11_luck 74 = .ok (.invokestatic 384, 3) := by decide +kernel
theorem dX11_luck_77 : decode cX11_luck 77 = .ok (.invokevirtual 209, 3) := by decide +kernel
theorem dX11_luck_80 : decode cX11_luck 80 = .ok (.iload 5, 2) := by decide +kernel
theorem dX11_luck_82 : decode cX11_luck 82 = .ok (.aload_n 0, 1) := by decide +kernel
theorem dX11_luck_83 : decode cX11_luck 83 = .ok (.getfield 41, 3) := by decide +kernel
theorem dX11_luck_86 : decode cX11_luck 86 = .ok (.getfield 167, 3) := by decide +kernel
theorem dX11_luck_89 : decode cX11_luck 89 = .ok (.iload_n 3, 1) := by decide +kernel
theorem dX11_luck_90 : decode cX11_luck 90 = .ok (.iaload, 1) := by decide +kernel
theorem dX11_luck_91 : decode cX11_luck 91 = .ok (.iload 4, 2) := by decide +kernel
theorem dX11_luck_93 : decode cX11_luck 93 = .ok (.if_icmp .gt 7, 3) := by decide +kernel
theorem dX11_luck_96 : decode cX11_luck 96 = .ok (.iconst 1, 1) := by decide +kernel
theorem dX11_luck_97 : decode cX11_luck 97 = .ok (.goto 4, 3) := by decide +kernel
theorem dX11_luck_100 : decode cX11_luck 100 = .ok (.iconst 0, 1) := by decide +kernel
theorem dX11_luck_101 : decode cX11_luck 101 = .ok (.iadd, 1) := by decide +kernel
theorem dX11_luck_102 : decode cX11_luck 102 = .ok (.istore 5, 2) := by decide +kernel
theorem dX11_luck_104 : decode cX11_luck 104 = .ok (.iinc 6 1, 3) := by decide +kernel
theorem dX11_luck_107 : decode cX11_luck 107 = .ok (.goto (-64), 3) := by decide +kernel
theorem dX11_luck_110 : decode cX11_luck 110 = .ok (.iload 5, 2) := by decide +kernel
theorem dX11_luck_112 : decode cX11_luck 112 = .ok (.ireturn, 1) := by decide +kernel
theorem dX11_tell_0 : decode cX11_tell 0 = .ok (.aload_n 0, 1) := by decide +kernel
theorem dX11_tell_1 : decode cX11_tell 1 = .ok (.iload_n 1, 1) := by decide +kernel
theorem dX11_tell_2 : decode cX11_tell 2 = .ok (.invokevirtual 145, 3) := by decide +kernel
theorem dX11_tell_5 : decode cX11_tell 5 = .ok (.ifCond .eq 20, 3) := by decide +kernel
theorem dX11_tell_8 : decode cX11_tell 8 = .ok (.iload_n 2, 1) := by decide +kernel
theorem dX11_tell_9 : decode cX11_tell 9 = .ok (.iconst 1, 1) := by decide +kernel
theorem dX11_tell_10 : decode cX11_tell 10 = .ok (.if_icmp .lt 15, 3) := by decide +kernel
theorem dX11_tell_13 : decode cX11_tell 13 = .ok (.iload_n 2, 1) := by decide +kernel
theorem dX11_tell_14 : decode cX11_tell 14 = .ok (.iconst 2, 1) := by decide +kernel
theorem dX11_tell_15 : decode cX11_tell 15 = .ok (.if_icmp .gt 10, 3) := by decide +kernel
theorem dX11_tell_18 : decode cX11_tell 18 = .ok (.iload_n 3, 1) := by decide +kernel
theorem dX11_tell_19 : decode cX11_tell 19 = .ok (.invokestatic 189, 3) := by decide +kernel
theorem dX11_tell_22 : decode cX11_tell 22 = .ok (.ifCond .ne 6, 3) := by decide +kernel
theorem dX11_tell_25 : decode cX11_tell 25 = .ok (.bipush (-2), 2) := by decide +kernel
theorem dX11_tell_27 : decode cX11_tell 27 = .ok (.ireturn, 1) := by decide +kernel
theorem dX11_tell_28 : decode cX11_tell 28 = .ok (.aload_n 0, 1) := by decide +kernel
theorem dX11_tell_29 : decode cX11_tell 29 = .ok (.getfield 19, 3) := by decide +kernel
theorem dX11_tell_32 : decode cX11_tell 32 = .ok (.getfield 361, 3) := by decide +kernel
theorem dX11_tell_35 : decode cX11_tell 35 = .ok (.getfield 365, 3) := by decide +kernel
theorem dX11_tell_38 : decode cX11_tell 38 = .ok (.ifCond .le 6, 3) := by decide +kernel
theorem dX11_tell_41 : decode cX11_tell 41 = .ok (.bipush (-5), 2) := by decide +kernel
theorem dX11_tell_43 : decode cX11_tell 43 = .ok (.ireturn, 1) := by decide +kernel
theorem dX11_tell_44 : decode cX11_tell 44 = .ok (.iload_n 2, 1) := by decide +kernel
theorem dX11_tell_45 : decode cX11_tell 45 = .ok (.iconst 1, 1) := by decide +kernel
theorem dX11_tell_46 : decode cX11_tell 46 = .ok (.if_icmp .ne 13, 3) := by decide +kernel
theorem dX11_tell_49 : decode cX11_tell 49 = .ok (.aload_n 0, 1) := by decide +kernel
theorem dX11_tell_50 : decode cX11_tell 50 = .ok (.getfield 19, 3) := by decide +kernel
theorem dX11_tell_53 : decode cX11_tell 53 = .ok (.getfield 151, 3) := by decide +kernel
theorem dX11_tell_56 : decode cX11_tell 56 = .ok (.goto 10, 3) := by decide +kernel
theorem dX11_tell_59 : decode cX11_tell 59 = .ok (.aload_n 0, 1) := by decide +kernel
theorem dX11_tell_60 : decode cX11_tell 60 = .ok (.getfield 19, 3) := by decide +kernel
theorem dX11_tell_63 : decode cX11_tell 63 = .ok (.getfield 154, 3) := by decide +kernel
theorem dX11_tell_66 : decode cX11_tell 66 = .ok (.astore 4, 2) := by decide +kernel
theorem dX11_tell_68 : decode cX11_tell 68 = .ok (.aload 4, 2) := by decide +kernel
theorem dX11_tell_70 : decode cX11_tell 70 = .ok (.iload_n 1, 1) := by decide +kernel
theorem dX11_tell_71 : decode cX11_tell 71 = .ok (.iaload, 1) := by decide +kernel
theorem dX11_tell_72 : decode cX11_tell 72 = .ok (.istore 5, 2) := by decide +kernel
theorem dX11_tell_74 : decode cX11_tell 74 = .ok (.aload 4, 2) := by decide +kernel
theorem dX11_tell_76 : decode cX11_tell 76 = .ok (.iload_n 1, 1) := by decide +kernel
theorem dX11_tell_77 : decode cX11_tell 77 = .ok (.iload_n 3, 1) := by decide +kernel
theorem dX11_tell_78 : decode cX11_tell 78 = .ok (.iastore, 1) := by decide +kernel
theorem dX11_tell_79 : decode cX11_tell 79 = .ok (.iload 5, 2) := by decide +kernel
theorem dX11_tell_81 : decode cX11_tell 81 = .ok (.ireturn, 1) := by decide +kernel
theorem dX11_count_0 : decode cX11_count 0 = .ok (.iload_n 1, 1) := by decide +kernel
theorem dX11_count_1 : decode cX11_count 1 = .ok (.tableswitch 126 0 8 #[51, 59, 67, 75, 83, 91, 102, 110, 118], 51) := by decide +kernel
theorem dX11_count_52 : decode cX11_count 52 = .ok (.aload_n 0, 1) := by decide +kernel
theorem dX11_count_53 : decode cX11_count 53 = .ok (.getfield 19, 3) := by decide +kernel
theorem dX11_count_56 : decode cX11_count 56 = .ok (.getfield 192, 3) := by decide +kernel
theorem dX11_count_59 : decode cX11_count 59 = .ok (.ireturn, 1) := by decide +kernel
theorem dX11_count_60 : decode cX11_count 60 = .ok (.aload_n 0, 1) := by decide +kernel
theorem dX11_count_61 : decode cX11_count 61 = .ok (.getfield 19, 3) := by decide +kernel
theorem dX11_count_64 : decode cX11_count 64 = .ok (.getfield 199, 3) := by decide +kernel
theorem dX11_count_67 : decode cX11_count 67 = .ok (.ireturn, 1) := by decide +kernel
theorem dX11_count_68 : decode cX11_count 68 = .ok (.aload_n 0, 1) := by decide +kernel
theorem dX11_count_69 : decode cX11_count 69 = .ok (.getfield 19, 3) := by decide +kernel
theorem dX11_count_72 : decode cX11_count 72 = .ok (.getfield 175, 3) := by decide +kernel
theorem dX11_count_75 : decode cX11_count 75 = .ok (.ireturn, 1) := by decide +kernel
theorem dX11_count_76 : decode cX11_count 76 = .ok (.aload_n 0, 1) := by decide +kernel
theorem dX11_count_77 : decode cX11_count 77 = .ok (.getfield 19, 3) := by decide +kernel
theorem dX11_count_80 : decode cX11_count 80 = .ok (.getfield 255, 3) := by decide +kernel
theorem dX11_count_83 : decode cX11_count 83 = .ok (.ireturn, 1) := by decide +kernel
theorem dX11_count_84 : decode cX11_count 84 = .ok (.aload_n 0, 1) := by decide +kernel
theorem dX11_count_85 : decode cX11_count 85 = .ok (.getfield 19, 3) := by decide +kernel
theorem dX11_count_88 : decode cX11_count 88 = .ok (.getfield 228, 3) := by decide +kernel
theorem dX11_count_91 : decode cX11_count 91 = .ok (.ireturn, 1) := by decide +kernel
theorem dX11_count_92 : decode cX11_count 92 = .ok (.aload_n 0, 1) := by decide +kernel
theorem dX11_count_93 : decode cX11_count 93 = .ok (.getfield 19, 3) := by decide +kernel
theorem dX11_count_96 : decode cX11_count 96 = .ok (.getfield 361, 3) := by decide +kernel
theorem dX11_count_99 : decode cX11_count 99 = .ok (.getfield 365, 3) := by decide +kernel
theorem dX11_count_102 : decode cX11_count 102 = .ok (.ireturn, 1) := by decide +kernel
theorem dX11_count_103 : decode cX11_count 103 = .ok (.aload_n 0, 1) := by decide +kernel
theorem dX11_count_104 : decode cX11_count 104 = .ok (.getfield 19, 3) := by decide +kernel
theorem dX11_count_107 : decode cX11_count 107 = .ok (.getfield 107, 3) := by decide +kernel
theorem dX11_count_110 : decode cX11_count 110 = .ok (.ireturn, 1) := by decide +kernel
theorem dX11_count_111 : decode cX11_count 111 = .ok (.aload_n 0, 1) := by decide +kernel
theorem dX11_count_112 : decode cX11_count 112 = .ok (.getfield 12, 3) := by decide +kernel
theorem dX11_count_115 : decode cX11_count 115 = .ok (.getfield 98, 3) := by decide +kernel
theorem dX11_count_118 : decode cX11_count 118 = .ok (.ireturn, 1) := by decide +kernel
theorem dX11_count_119 : decode cX11_count 119 = .ok (.aload_n 0, 1) := by decide +kernel
theorem dX11_count_120 : decode cX11_count 120 = .ok (.getfield 34, 3) := by decide +kernel
theorem dX11_count_123 : decode cX11_count 123 = .ok (.invokevirtual 388, 3) := by decide +kernel
theorem dX11_count_126 : decode cX11_count 126 = .ok (.ireturn, 1) := by decide +kernel
theorem dX11_count_127 : decode cX11_count 127 = .ok (.iconst (-1), 1) := by decide +kernel
theorem dX11_count_128 : decode cX11_count 128 = .ok (.ireturn, 1) := by decide +kernel
theorem dX11_image_0 : decode cX11_image 0 = .ok (.iload_n 1, 1) := by decide +kernel
theorem dX11_image_1 : decode cX11_image 1 = .ok (.ifCond .lt 8, 3) := by decide +kernel
theorem dX11_image_4 : decode cX11_image 4 = .ok (.iload_n 1, 1) := by decide +kernel
theorem dX11_image_5 : decode cX11_image 5 = .ok (.iconst 3, 1) := by decide +kernel
theorem dX11_image_6 : decode cX11_image 6 = .ok (.if_icmp .lt 6, 3) := by decide +kernel
theorem dX11_image_9 : decode cX11_image 9 = .ok (.bipush (-2), 2) := by decide +kernel
theorem dX11_image_11 : decode cX11_image 11 = .ok (.ireturn, 1) := by decide +kernel
theorem dX11_image_12 : decode cX11_image 12 = .ok (.aload_n 0, 1) := by decide +kernel
theorem dX11_image_13 : decode cX11_image 13 = .ok (.getfield 23, 3) := by decide +kernel
theorem dX11_image_16 : decode cX11_image 16 = .ok (.iload_n 1, 1) := by decide +kernel
theorem dX11_image_17 : decode cX11_image 17 = .ok (.aaload, 1) := by decide +kernel
theorem dX11_image_18 : decode cX11_image 18 = .ok (.aload_n 0, 1) := by decide +kernel
theorem dX11_image_19 : decode cX11_image 19 = .ok (.getfield 19, 3) := by decide +kernel
theorem dX11_image_22 : decode cX11_image 22 = .ok (.invokevirtual 391, 3) := by decide +kernel
theorem dX11_image_25 : decode cX11_image 25 = .ok (.aload_n 0, 1) := by decide +kernel
theorem dX11_image_26 : decode cX11_image 26 = .ok (.dup, 1) := by decide +kernel
theorem dX11_image_27 : decode cX11_image 27 = .ok (.getfield 27, 3) := by decide +kernel
theorem dX11_image_30 : decode cX11_image 30 = .ok (.iconst 1, 1) := by decide +kernel
theorem dX11_image_31 : decode cX11_image 31 = .ok (.iload_n 1, 1) := by decide +kernel
theorem dX11_image_32 : decode cX11_image 32 = .ok (.ishl, 1) := by decide +kernel
theorem dX11_image_33 : decode cX11_image 33 = .ok (.ior, 1) := by decide +kernel
theorem dX11_image_34 : decode cX11_image 34 = .ok (.putfield 27, 3) := by decide +kernel
theorem dX11_image_37 : decode cX11_image 37 = .ok (.iconst 0, 1) := by decide +kernel
theorem dX11_image_38 : decode cX11_image 38 = .ok (.ireturn, 1) := by decide +kernel
theorem dX11_back_0 : decode cX11_back 0 = .ok (.iload_n 1, 1) := by decide +kernel
theorem dX11_back_1 : decode cX11_back 1 = .ok (.ifCond .lt 8, 3) := by decide +kernel
theorem dX11_back_4 : decode cX11_back 4 = .ok (.iload_n 1, 1) := by decide +kernel
theorem dX11_back_5 : decode cX11_back 5 = .ok (.iconst 3, 1) := by decide +kernel
theorem dX11_back_6 : decode cX11_back 6 = .ok (.if_icmp .lt 6, 3) := by decide +kernel
theorem dX11_back_9 : decode cX11_back 9 = .ok (.bipush (-2), 2) := by decide +kernel
theorem dX11_back_11 : decode cX11_back 11 = .ok (.ireturn, 1) := by decide +kernel
theorem dX11_back_12 : decode cX11_back 12 = .ok (.aload_n 0, 1) := by decide +kernel
theorem dX11_back_13 : decode cX11_back 13 = .ok (.getfield 27, 3) := by decide +kernel
theorem dX11_back_16 : decode cX11_back 16 = .ok (.iload_n 1, 1) := by decide +kernel
theorem dX11_back_17 : decode cX11_back 17 = .ok (.ishr, 1) := by decide +kernel
theorem dX11_back_18 : decode cX11_back 18 = .ok (.iconst 1, 1) := by decide +kernel
theorem dX11_back_19 : decode cX11_back 19 = .ok (.iand, 1) := by decide +kernel
theorem dX11_back_20 : decode cX11_back 20 = .ok (.ifCond .ne 6, 3) := by decide +kernel
theorem dX11_back_23 : decode cX11_back 23 = .ok (.bipush (-6), 2) := by decide +kernel
theorem dX11_back_25 : decode cX11_back 25 = .ok (.ireturn, 1) := by decide +kernel
theorem dX11_back_26 : decode cX11_back 26 = .ok (.aload_n 0, 1) := by decide +kernel
theorem dX11_back_27 : decode cX11_back 27 = .ok (.getfield 19, 3) := by decide +kernel
theorem dX11_back_30 : decode cX11_back 30 = .ok (.aload_n 0, 1) := by decide +kernel
theorem dX11_back_31 : decode cX11_back 31 = .ok (.getfield 23, 3) := by decide +kernel
theorem dX11_back_34 : decode cX11_back 34 = .ok (.iload_n 1, 1) := by decide +kernel
theorem dX11_back_35 : decode cX11_back 35 = .ok (.aaload, 1) := by decide +kernel
theorem dX11_back_36 : decode cX11_back 36 = .ok (.invokevirtual 391, 3) := by decide +kernel
theorem dX11_back_39 : decode cX11_back 39 = .ok (.iconst 0, 1) := by decide +kernel
theorem dX11_back_40 : decode cX11_back 40 = .ok (.ireturn, 1) := by decide +kernel
theorem dX11_row_0 : decode cX11_row 0 = .ok (.iload_n 1, 1) := by decide +kernel
theorem dX11_row_1 : decode cX11_row 1 = .ok (.invokestatic 394, 3) := by decide +kernel
theorem dX11_row_4 : decode cX11_row 4 = .ok (.ifCond .eq 18, 3) := by decide +kernel
theorem dX11_row_7 : decode cX11_row 7 = .ok (.iload_n 2, 1) := by decide +kernel
theorem dX11_row_8 : decode cX11_row 8 = .ok (.ifCond .lt 14, 3) := by decide +kernel
theorem dX11_row_11 : decode cX11_row 11 = .ok (.iload_n 2, 1) := by decide +kernel
theorem dX11_row_12 : decode cX11_row 12 = .ok (.iconst 3, 1) := by decide +kernel
theorem dX11_row_13 : decode cX11_row 13 = .ok (.if_icmp .gt 9, 3) := by decide +kernel
theorem dX11_row_16 : decode cX11_row 16 = .ok (.iload_n 3, 1) := by decide +kernel
theorem dX11_row_17 : decode cX11_row 17 = .ok (.bipush 60, 2) := by decide +kernel
theorem dX11_row_19 : decode cX11_row 19 = .ok (.if_icmp .le 6, 3) := by decide +kernel
theorem dX11_row_22 : decode cX11_row 22 = .ok (.bipush (-2), 2) := by decide +kernel
theorem dX11_row_24 : decode cX11_row 24 = .ok (.ireturn, 1) := by decide +kernel
theorem dX11_row_25 : decode cX11_row 25 = .ok (.iload_n 3, 1) := by decide +kernel
theorem dX11_row_26 : decode cX11_row 26 = .ok (.ifCond .ge 6, 3) := by decide +kernel
theorem dX11_row_29 : decode cX11_row 29 = .ok (.bipush (-3), 2) := by decide +kernel
theorem dX11_row_31 : decode cX11_row 31 = .ok (.ireturn, 1) := by decide +kernel
theorem dX11_row_32 : decode cX11_row 32 = .ok (.aload_n 0, 1) := by decide +kernel
theorem dX11_row_33 : decode cX11_row 33 = .ok (.getfield 34, 3) := by decide +kernel
theorem dX11_row_36 : decode cX11_row 36 = .ok (.iload_n 1, 1) := by decide +kernel
theorem dX11_row_37 : decode cX11_row 37 = .ok (.iload_n 2, 1) := by decide +kernel
theorem dX11_row_38 : decode cX11_row 38 = .ok (.iload_n 3, 1) := by decide +kernel
theorem dX11_row_39 : decode cX11_row 39 = .ok (.invokevirtual 397, 3) := by decide +kernel
theorem dX11_row_42 : decode cX11_row 42 = .ok (.iconst 0, 1) := by decide +kernel
theorem dX11_row_43 : decode cX11_row 43 = .ok (.ireturn, 1) := by decide +kernel
theorem dX11_write_0 : decode cX11_write 0 = .ok (.iload_n 1, 1) := by decide +kernel
theorem dX11_write_1 : decode cX11_write 1 = .ok (.invokestatic 394, 3) := by decide +kernel
theorem dX11_write_4 : decode cX11_write 4 = .ok (.ifCond .ne 6, 3) := by decide +kernel
theorem dX11_write_7 : decode cX11_write 7 = .ok (.bipush (-2), 2) := by decide +kernel
theorem dX11_write_9 : decode cX11_write 9 = .ok (.ireturn, 1) := by decide +kernel
theorem dX11_write_10 : decode cX11_write 10 = .ok (.aload_n 0, 1) := by decide +kernel
theorem dX11_write_11 : decode cX11_write 11 = .ok (.getfield 34, 3) := by decide +kernel
theorem dX11_write_14 : decode cX11_write 14 = .ok (.iload_n 1, 1) := by decide +kernel
theorem dX11_write_15 : decode cX11_write 15 = .ok (.invokevirtual 400, 3) := by decide +kernel
theorem dX11_write_18 : decode cX11_write 18 = .ok (.ifCond .ne 6, 3) := by decide +kernel
theorem dX11_write_21 : decode cX11_write 21 = .ok (.bipush (-6), 2) := by decide +kernel
theorem dX11_write_23 : decode cX11_write 23 = .ok (.ireturn, 1) := by decide +kernel
theorem dX11_write_24 : decode cX11_write 24 = .ok (.iload_n 2, 1) := by decide +kernel
theorem dX11_write_25 : decode cX11_write 25 = .ok (.ifCond .lt 15, 3) := by decide +kernel
theorem dX11_write_28 : decode cX11_write 28 = .ok (.iload_n 2, 1) := by decide +kernel
theorem dX11_write_29 : decode cX11_write 29 = .ok (.aload_n 0, 1) := by decide +kernel
theorem dX11_write_30 : decode cX11_write 30 = .ok (.getfield 34, 3) := by decide +kernel
theorem dX11_write_33 : decode cX11_write 33 = .ok (.iload_n 1, 1) := by decide +kernel
theorem dX11_write_34 : decode cX11_write 34 = .ok (.invokevirtual 403, 3) := by decide +kernel
theorem dX11_write_37 : decode cX11_write 37 = .ok (.if_icmp .lt 6, 3) := by decide +kernel
theorem dX11_write_40 : decode cX11_write 40 = .ok (.bipush (-7), 2) := by decide +kernel
theorem dX11_write_42 : decode cX11_write 42 = .ok (.ireturn, 1) := by decide +kernel
theorem dX11_write_43 : decode cX11_write 43 = .ok (.aload_n 0, 1) := by decide +kernel
theorem dX11_write_44 : decode cX11_write 44 = .ok (.getfield 34, 3) := by decide +kernel
theorem dX11_write_47 : decode cX11_write 47 = .ok (.iload_n 1, 1) := by decide +kernel
theorem dX11_write_48 : decode cX11_write 48 = .ok (.iload_n 2, 1) := by decide +kernel
theorem dX11_write_49 : decode cX11_write 49 = .ok (.lload_n 3, 1) := by decide +kernel
theorem dX11_write_50 : decode cX11_write 50 = .ok (.invokevirtual 406, 3) := by decide +kernel
theorem dX11_write_53 : decode cX11_write 53 = .ok (.iconst 0, 1) := by decide +kernel
theorem dX11_write_54 : decode cX11_write 54 = .ok (.ireturn, 1) := by decide +kernel
theorem dX11_paste_0 : decode cX11_paste 0 = .ok (.iload_n 1, 1) := by decide +kernel
theorem dX11_paste_1 : decode cX11_paste 1 = .ok (.invokestatic 394, 3) := by decide +kernel
theorem dX11_paste_4 : decode cX11_paste 4 = .ok (.ifCond .eq 10, 3) := by decide +kernel
theorem dX11_paste_7 : decode cX11_paste 7 = .ok (.iload_n 3, 1) := by decide +kernel
theorem dX11_paste_8 : decode cX11_paste 8 = .ok (.invokestatic 394, 3) := by decide +kernel
theorem dX11_paste_11 : decode cX11_paste 11 = .ok (.ifCond .ne 6, 3) := by decide +kernel
theorem dX11_paste_14 : decode cX11_paste 14 = .ok (.bipush (-2), 2) := by decide +kernel
theorem dX11_paste_16 : decode cX11_paste 16 = .ok (.ireturn, 1) := by decide +kernel
theorem dX11_paste_17 : decode cX11_paste 17 = .ok (.aload_n 0, 1) := by decide +kernel
theorem dX11_paste_18 : decode cX11_paste 18 = .ok (.getfield 34, 3) := by decide +kernel
theorem dX11_paste_21 : decode cX11_paste 21 = .ok (.iload_n 1, 1) := by decide +kernel
theorem dX11_paste_22 : decode cX11_paste 22 = .ok (.invokevirtual 400, 3) := by decide +kernel
theorem dX11_paste_25 : decode cX11_paste 25 = .ok (.ifCond .eq 14, 3) := by decide +kernel
theorem dX11_paste_28 : decode cX11_paste 28 = .ok (.aload_n 0, 1) := by decide +kernel
theorem dX11_paste_29 : decode cX11_paste 29 = .ok (.getfield 34, 3) := by decide +kernel
theorem dX11_paste_32 : decode cX11_paste 32 = .ok (.iload_n 3, 1) := by decide +kernel
theorem dX11_paste_33 : decode cX11_paste 33 = .ok (.invokevirtual 400, 3) := by decide +kernel
theorem dX11_paste_36 : decode cX11_paste 36 = .ok (.ifCond .ne 6, 3) := by decide +kernel
theorem dX11_paste_39 : decode cX11_paste 39 = .ok (.bipush (-6), 2) := by decide +kernel
theorem dX11_paste_41 : decode cX11_paste 41 = .ok (.ireturn, 1) := by decide +kernel
theorem dX11_paste_42 : decode cX11_paste 42 = .ok (.aload_n 0, 1) := by decide +kernel
theorem dX11_paste_43 : decode cX11_paste 43 = .ok (.getfield 34, 3) := by decide +kernel
theorem dX11_paste_46 : decode cX11_paste 46 = .ok (.iload_n 1, 1) := by decide +kernel
theorem dX11_paste_47 : decode cX11_paste 47 = .ok (.iload_n 3, 1) := by decide +kernel
theorem dX11_paste_48 : decode cX11_paste 48 = .ok (.invokevirtual 410, 3) := by decide +kernel
theorem dX11_paste_51 : decode cX11_paste 51 = .ok (.ifCond .ne 6, 3) := by decide +kernel
theorem dX11_paste_54 : decode cX11_paste 54 = .ok (.bipush (-8), 2) := by decide +kernel
theorem dX11_paste_56 : decode cX11_paste 56 = .ok (.ireturn, 1) := by decide +kernel
theorem dX11_paste_57 : decode cX11_paste 57 = .ok (.aload_n 0, 1) := by decide +kernel
theorem dX11_paste_58 : decode cX11_paste 58 = .ok (.getfield 34, 3) := by decide +kernel
theorem dX11_paste_61 : decode cX11_paste 61 = .ok (.iload_n 1, 1) := by decide +kernel
theorem dX11_paste_62 : decode cX11_paste 62 = .ok (.iload_n 2, 1) := by decide +kernel
theorem dX11_paste_63 : decode cX11_paste 63 = .ok (.iload 5, 2) := by decide +kernel
theorem dX11_paste_65 : decode cX11_paste 65 = .ok (.invokevirtual 414, 3) := by decide +kernel
theorem dX11_paste_68 : decode cX11_paste 68 = .ok (.ifCond .eq 18, 3) := by decide +kernel
theorem dX11_paste_71 : decode cX11_paste 71 = .ok (.aload_n 0, 1) := by decide +kernel
theorem dX11_paste_72 : decode cX11_paste 72 = .ok (.getfield 34, 3) := by decide +kernel
theorem dX11_paste_75 : decode cX11_paste 75 = .ok (.iload_n 3, 1) := by decide +kernel
theorem dX11_paste_76 : decode cX11_paste 76 = .ok (.iload 4, 2) := by decide +kernel
theorem dX11_paste_78 : decode cX11_paste 78 = .ok (.iload 5, 2) := by decide +kernel
theorem dX11_paste_80 : decode cX11_paste 80 = .ok (.invokevirtual 414, 3) := by decide +kernel
theorem dX11_paste_83 : decode cX11_paste 83 = .ok (.ifCond .ne 6, 3) := by decide +kernel
theorem dX11_paste_86 : decode cX11_paste 86 = .ok (.bipush (-7), 2) := by decide +kernel
theorem dX11_paste_88 : decode cX11_paste 88 = .ok (.ireturn, 1) := by decide +kernel
theorem dX11_paste_89 : decode cX11_paste 89 = .ok (.aload_n 0, 1) := by decide +kernel
theorem dX11_paste_90 : decode cX11_paste 90 = .ok (.getfield 34, 3) := by decide +kernel
theorem dX11_paste_93 : decode cX11_paste 93 = .ok (.iload_n 1, 1) := by decide +kernel
theorem dX11_paste_94 : decode cX11_paste 94 = .ok (.iload_n 2, 1) := by decide +kernel
theorem dX11_paste_95 : decode cX11_paste 95 = .ok (.iload_n 3, 1) := by decide +kernel
theorem dX11_paste_96 : decode cX11_paste 96 = .ok (.iload 4, 2) := by decide +kernel
theorem dX11_paste_98 : decode cX11_paste 98 = .ok (.iload 5, 2) := by decide +kernel
theorem dX11_paste_100 : decode cX11_paste 100 = .ok (.invokevirtual 418, 3) := by decide +kernel
theorem dX11_paste_103 : decode cX11_paste 103 = .ok (.iconst 0, 1) := by decide +kernel
theorem dX11_paste_104 : decode cX11_paste 104 = .ok (.ireturn, 1) := by decide +kernel
theorem dX11_hasNoTown_0 : decode cX11_hasNoTown 0 = .ok (.aload_n 0, 1) := by decide +kernel
theorem dX11_hasNoTown_1 : decode cX11_hasNoTown 1 = .ok (.getfield 19, 3) := by decide +kernel
theorem dX11_hasNoTown_4 : decode cX11_hasNoTown 4 = .ok (.getfield 192, 3) := by decide +kernel
theorem dX11_hasNoTown_7 : decode cX11_hasNoTown 7 = .ok (.ifCond .ne 7, 3) := by decide +kernel
theorem dX11_hasNoTown_10 : decode cX11_hasNoTown 10 = .ok (.iconst 1, 1) := by decide +kernel
theorem dX11_hasNoTown_11 : decode cX11_hasNoTown 11 = .ok (.goto 4, 3) := by decide +kernel
theorem dX11_hasNoTown_14 : decode cX11_hasNoTown 14 = .ok (.iconst 0, 1) := by decide +kernel
theorem dX11_hasNoTown_15 : decode cX11_hasNoTown 15 = .ok (.ireturn, 1) := by decide +kernel
theorem dX11_isStreet_0 : decode cX11_isStreet 0 = .ok (.iload_n 1, 1) := by decide +kernel
theorem dX11_isStreet_1 : decode cX11_isStreet 1 = .ok (.ifCond .lt 18, 3) := by decide +kernel
theorem dX11_isStreet_4 : decode cX11_isStreet 4 = .ok (.iload_n 1, 1) := by decide +kernel
theorem dX11_isStreet_5 : decode cX11_isStreet 5 = .ok (.aload_n 0, 1) := by decide +kernel
theorem dX11_isStreet_6 : decode cX11_isStreet 6 = .ok (.getfield 19, 3) := by decide +kernel
theorem dX11_isStreet_9 : decode cX11_isStreet 9 = .ok (.getfield 192, 3) := by decide +kernel
theorem dX11_isStreet_12 : decode cX11_isStreet 12 = .ok (.if_icmp .ge 7, 3) := by decide +kernel
theorem dX11_isStreet_15 : decode cX11_isStreet 15 = .ok (.iconst 1, 1) := by decide +kernel
theorem dX11_isStreet_16 : decode cX11_isStreet 16 = .ok (.goto 4, 3) := by decide +kernel
theorem dX11_isStreet_19 : decode cX11_isStreet 19 = .ok (.iconst 0, 1) := by decide +kernel
theorem dX11_isStreet_20 : decode cX11_isStreet 20 = .ok (.ireturn, 1) := by decide +kernel
theorem dX11_isLane_0 : decode cX11_isLane 0 = .ok (.iload_n 1, 1) := by decide +kernel
theorem dX11_isLane_1 : decode cX11_isLane 1 = .ok (.ifCond .lt 18, 3) := by decide +kernel
theorem dX11_isLane_4 : decode cX11_isLane 4 = .ok (.iload_n 1, 1) := by decide +kernel
theorem dX11_isLane_5 : decode cX11_isLane 5 = .ok (.aload_n 0, 1) := by decide +kernel
theorem dX11_isLane_6 : decode cX11_isLane 6 = .ok (.getfield 19, 3) := by decide +kernel
theorem dX11_isLane_9 : decode cX11_isLane 9 = .ok (.getfield 199, 3) := by decide +kernel
theorem dX11_isLane_12 : decode cX11_isLane 12 = .ok (.if_icmp .ge 7, 3) := by decide +kernel
theorem dX11_isLane_15 : decode cX11_isLane 15 = .ok (.iconst 1, 1) := by decide +kernel
theorem dX11_isLane_16 : decode cX11_isLane 16 = .ok (.goto 4, 3) := by decide +kernel
theorem dX11_isLane_19 : decode cX11_isLane 19 = .ok (.iconst 0, 1) := by decide +kernel
theorem dX11_isLane_20 : decode cX11_isLane 20 = .ok (.ireturn, 1) := by decide +kernel
theorem dX11_isOpen_0 : decode cX11_isOpen 0 = .ok (.aload_n 0, 1) := by decide +kernel
theorem dX11_isOpen_1 : decode cX11_isOpen 1 = .ok (.getfield 19, 3) := by decide +kernel
theorem dX11_isOpen_4 : decode cX11_isOpen 4 = .ok (.getfield 133, 3) := by decide +kernel
theorem dX11_isOpen_7 : decode cX11_isOpen 7 = .ok (.iload_n 1, 1) := by decide +kernel
theorem dX11_isOpen_8 : decode cX11_isOpen 8 = .ok (.ishr, 1) := by decide +kernel
theorem dX11_isOpen_9 : decode cX11_isOpen 9 = .ok (.iconst 1, 1) := by decide +kernel
theorem dX11_isOpen_10 : decode cX11_isOpen 10 = .ok (.iand, 1) := by decide +kernel
theorem dX11_isOpen_11 : decode cX11_isOpen 11 = .ok (.ifCond .ne 7, 3) := by decide +kernel
theorem dX11_isOpen_14 : decode cX11_isOpen 14 = .ok (.iconst 1, 1) := by decide +kernel
theorem dX11_isOpen_15 : decode cX11_isOpen 15 = .ok (.goto 4, 3) := by decide +kernel
theorem dX11_isOpen_18 : decode cX11_isOpen 18 = .ok (.iconst 0, 1) := by decide +kernel
theorem dX11_isOpen_19 : decode cX11_isOpen 19 = .ok (.ireturn, 1) := by decide +kernel
theorem dX11_isGate_0 : decode cX11_isGate 0 = .ok (.iload_n 1, 1) := by decide +kernel
theorem dX11_isGate_1 : decode cX11_isGate 1 = .ok (.ifCond .lt 18, 3) := by decide +kernel
theorem dX11_isGate_4 : decode cX11_isGate 4 = .ok (.iload_n 1, 1) := by decide +kernel
theorem dX11_isGate_5 : decode cX11_isGate 5 = .ok (.aload_n 0, 1) := by decide +kernel
theorem dX11_isGate_6 : decode cX11_isGate 6 = .ok (.getfield 19, 3) := by decide +kernel
theorem dX11_isGate_9 : decode cX11_isGate 9 = .ok (.getfield 175, 3) := by decide +kernel
theorem dX11_isGate_12 : decode cX11_isGate 12 = .ok (.if_icmp .ge 7, 3) := by decide +kernel
theorem dX11_isGate_15 : decode cX11_isGate 15 = .ok (.iconst 1, 1) := by decide +kernel
theorem dX11_isGate_16 : decode cX11_isGate 16 = .ok (.goto 4, 3) := by decide +kernel
theorem dX11_isGate_19 : decode cX11_isGate 19 = .ok (.iconst 0, 1) := by decide +kernel
theorem dX11_isGate_20 : decode cX11_isGate 20 = .ok (.ireturn, 1) := by decide +kernel
theorem dX11_isHouse_0 : decode cX11_isHouse 0 = .ok (.iload_n 1, 1) := by decide +kernel
theorem dX11_isHouse_1 : decode cX11_isHouse 1 = .ok (.ifCond .lt 18, 3) := by decide +kernel
theorem dX11_isHouse_4 : decode cX11_isHouse 4 = .ok (.iload_n 1, 1) := by decide +kernel
theorem dX11_isHouse_5 : decode cX11_isHouse 5 = .ok (.aload_n 0, 1) := by decide +kernel
theorem dX11_isHouse_6 : decode cX11_isHouse 6 = .ok (.getfield 19, 3) := by decide +kernel
theorem dX11_isHouse_9 : decode cX11_isHouse 9 = .ok (.getfield 255, 3) := by decide +kernel
theorem dX11_isHouse_12 : decode cX11_isHouse 12 = .ok (.if_icmp .ge 7, 3) := by decide +kernel
theorem dX11_isHouse_15 : decode cX11_isHouse 15 = .ok (.iconst 1, 1) := by decide +kernel
theorem dX11_isHouse_16 : decode cX11_isHouse 16 = .ok (.goto 4, 3) := by decide +kernel
theorem dX11_isHouse_19 : decode cX11_isHouse 19 = .ok (.iconst 0, 1) := by decide +kernel
theorem dX11_isHouse_20 : decode cX11_isHouse 20 = .ok (.ireturn, 1) := by decide +kernel
theorem dX11_isMinute_0 : decode cX11_isMinute 0 = .ok (.iload_n 0, 1) := by decide +kernel
theorem dX11_isMinute_1 : decode cX11_isMinute 1 = .ok (.ifCond .lt 14, 3) := by decide +kernel
theorem dX11_isMinute_4 : decode cX11_isMinute 4 = .ok (.iload_n 0, 1) := by decide +kernel
theorem dX11_isMinute_5 : decode cX11_isMinute 5 = .ok (.sipush 999, 3) := by decide +kernel
theorem dX11_isMinute_8 : decode cX11_isMinute 8 = .ok (.if_icmp .gt 7, 3) := by decide +kernel
theorem dX11_isMinute_11 : decode cX11_isMinute 11 = .ok (.iconst 1, 1) := by decide +kernel
theorem dX11_isMinute_12 : decode cX11_isMinute 12 = .ok (.goto 4, 3) := by decide +kernel
theorem dX11_isMinute_15 : decode cX11_isMinute 15 = .ok (.iconst 0, 1) := by decide +kernel
theorem dX11_isMinute_16 : decode cX11_isMinute 16 = .ok (.ireturn, 1) := by decide +kernel
theorem dX11_isCutMinute_0 : decode cX11_isCutMinute 0 = .ok (.iload_n 0, 1) := by decide +kernel
theorem dX11_isCutMinute_1 : decode cX11_isCutMinute 1 = .ok (.ifCond .lt 14, 3) := by decide +kernel
theorem dX11_isCutMinute_4 : decode cX11_isCutMinute 4 = .ok (.iload_n 0, 1) := by decide +kernel
theorem dX11_isCutMinute_5 : decode cX11_isCutMinute 5 = .ok (.sipush 1000, 3) := by decide +kernel
theorem dX11_isCutMinute_8 : decode cX11_isCutMinute 8 = .ok (.if_icmp .gt 7, 3) := by decide +kernel
theorem dX11_isCutMinute_11 : decode cX11_isCutMinute 11 = .ok (.iconst 1, 1) := by decide +kernel
theorem dX11_isCutMinute_12 : decode cX11_isCutMinute 12 = .ok (.goto 4, 3) := by decide +kernel
theorem dX11_isCutMinute_15 : decode cX11_isCutMinute 15 = .ok (.iconst 0, 1) := by decide +kernel
theorem dX11_isCutMinute_16 : decode cX11_isCutMinute 16 = .ok (.ireturn, 1) := by decide +kernel
theorem dX11_isFewLanes_0 : decode cX11_isFewLanes 0 = .ok (.iload_n 0, 1) := by decide +kernel
theorem dX11_isFewLanes_1 : decode cX11_isFewLanes 1 = .ok (.ifCond .lt 12, 3) := by decide +kernel
theorem dX11_isFewLanes_4 : decode cX11_isFewLanes 4 = .ok (.iload_n 0, 1) := by decide +kernel
theorem dX11_isFewLanes_5 : decode cX11_isFewLanes 5 = .ok (.iconst 3, 1) := by decide +kernel
theorem dX11_isFewLanes_6 : decode cX11_isFewLanes 6 = .ok (.if_icmp .gt 7, 3) := by decide +kernel
theorem dX11_isFewLanes_9 : decode cX11_isFewLanes 9 = .ok (.iconst 1, 1) := by decide +kernel
theorem dX11_isFewLanes_10 : decode cX11_isFewLanes 10 = .ok (.goto 4, 3) := by decide +kernel
theorem dX11_isFewLanes_13 : decode cX11_isFewLanes 13 = .ok (.iconst 0, 1) := by decide +kernel
theorem dX11_isFewLanes_14 : decode cX11_isFewLanes 14 = .ok (.ireturn, 1) := by decide +kernel
theorem dX11_isGates_0 : decode cX11_isGates 0 = .ok (.iload_n 0, 1) := by decide +kernel
theorem dX11_isGates_1 : decode cX11_isGates 1 = .ok (.iconst 1, 1) := by decide +kernel
theorem dX11_isGates_2 : decode cX11_isGates 2 = .ok (.if_icmp .lt 12, 3) := by decide +kernel
theorem dX11_isGates_5 : decode cX11_isGates 5 = .ok (.iload_n 0, 1) := by decide +kernel
theorem dX11_isGates_6 : decode cX11_isGates 6 = .ok (.iconst 4, 1) := by decide +kernel
theorem dX11_isGates_7 : decode cX11_isGates 7 = .ok (.if_icmp .gt 7, 3) := by decide +kernel
theorem dX11_isGates_10 : decode cX11_isGates 10 = .ok (.iconst 1, 1) := by decide +kernel
theorem dX11_isGates_11 : decode cX11_isGates 11 = .ok (.goto 4, 3) := by decide +kernel
theorem dX11_isGates_14 : decode cX11_isGates 14 = .ok (.iconst 0, 1) := by decide +kernel
theorem dX11_isGates_15 : decode cX11_isGates 15 = .ok (.ireturn, 1) := by decide +kernel
theorem dX11_isCartSize_0 : decode cX11_isCartSize 0 = .ok (.iload_n 0, 1) := by decide +kernel
theorem dX11_isCartSize_1 : decode cX11_isCartSize 1 = .ok (.iconst 1, 1) := by decide +kernel
theorem dX11_isCartSize_2 : decode cX11_isCartSize 2 = .ok (.if_icmp .lt 13, 3) := by decide +kernel
theorem dX11_isCartSize_5 : decode cX11_isCartSize 5 = .ok (.iload_n 0, 1) := by decide +kernel
theorem dX11_isCartSize_6 : decode cX11_isCartSize 6 = .ok (.bipush 99, 2) := by decide +kernel
theorem dX11_isCartSize_8 : decode cX11_isCartSize 8 = .ok (.if_icmp .gt 7, 3) := by decide +kernel
theorem dX11_isCartSize_11 : decode cX11_isCartSize 11 = .ok (.iconst 1, 1) := by decide +kernel
theorem dX11_isCartSize_12 : decode cX11_isCartSize 12 = .ok (.goto 4, 3) := by decide +kernel
theorem dX11_isCartSize_15 : decode cX11_isCartSize 15 = .ok (.iconst 0, 1) := by decide +kernel
theorem dX11_isCartSize_16 : decode cX11_isCartSize 16 = .ok (.ireturn, 1) := by decide +kernel
theorem dX11_isSeed_0 : decode cX11_isSeed 0 = .ok (.iload_n 0, 1) := by decide +kernel
theorem dX11_isSeed_1 : decode cX11_isSeed 1 = .ok (.ifCond .lt 14, 3) := by decide +kernel
theorem dX11_isSeed_4 : decode cX11_isSeed 4 = .ok (.iload_n 0, 1) := by decide +kernel
theorem dX11_isSeed_5 : decode cX11_isSeed 5 = .ok (.ldc_w 422, 3) := by decide +kernel
theorem dX11_isSeed_8 : decode cX11_isSeed 8 = .ok (.if_icmp .gt 7, 3) := by decide +kernel
theorem dX11_isSeed_11 : decode cX11_isSeed 11 = .ok (.iconst 1, 1) := by decide +kernel
theorem dX11_isSeed_12 : decode cX11_isSeed 12 = .ok (.goto 4, 3) := by decide +kernel
theorem dX11_isSeed_15 : decode cX11_isSeed 15 = .ok (.iconst 0, 1) := by decide +kernel
theorem dX11_isSeed_16 : decode cX11_isSeed 16 = .ok (.ireturn, 1) := by decide +kernel
theorem dX11_minuteOrNone_0 : decode cX11_minuteOrNone 0 = .ok (.iload_n 0, 1) := by decide +kernel
theorem dX11_minuteOrNone_1 : decode cX11_minuteOrNone 1 = .ok (.ldc 174, 2) := by decide +kernel
theorem dX11_minuteOrNone_3 : decode cX11_minuteOrNone 3 = .ok (.if_icmp .lt 7, 3) := by decide +kernel
theorem dX11_minuteOrNone_6 : decode cX11_minuteOrNone 6 = .ok (.iconst (-1), 1) := by decide +kernel
theorem dX11_minuteOrNone_7 : decode cX11_minuteOrNone 7 = .ok (.goto 4, 3) := by decide +kernel
theorem dX11_minuteOrNone_10 : decode cX11_minuteOrNone 10 = .ok (.iload_n 0, 1) := by decide +kernel
theorem dX11_minuteOrNone_11 : decode cX11_minuteOrNone 11 = .ok (.ireturn, 1) := by decide +kernel
theorem dX11_refusedSlot_0 : decode cX11_refusedSlot 0 = .ok (.iload_n 1, 1) := by decide +kernel
theorem dX11_refusedSlot_1 : decode cX11_refusedSlot 1 = .ok (.invokestatic 394, 3) := by decide +kernel
theorem dX11_refusedSlot_4 : decode cX11_refusedSlot 4 = .ok (.ifCond .eq 10, 3) := by decide +kernel
theorem dX11_refusedSlot_7 : decode cX11_refusedSlot 7 = .ok (.aload_n 0, 1) := by decide +kernel
theorem dX11_refusedSlot_8 : decode cX11_refusedSlot 8 = .ok (.invokevirtual 186, 3) := by decide +kernel
theorem dX11_refusedSlot_11 : decode cX11_refusedSlot 11 = .ok (.ifCond .eq 6, 3) := by decide +kernel
theorem dX11_refusedSlot_14 : decode cX11_refusedSlot 14 = .ok (.bipush (-2), 2) := by decide +kernel
theorem dX11_refusedSlot_16 : decode cX11_refusedSlot 16 = .ok (.ireturn, 1) := by decide +kernel
theorem dX11_refusedSlot_17 : decode cX11_refusedSlot 17 = .ok (.aload_n 0, 1) := by decide +kernel
theorem dX11_refusedSlot_18 : decode cX11_refusedSlot 18 = .ok (.getfield 34, 3) := by decide +kernel
theorem dX11_refusedSlot_21 : decode cX11_refusedSlot 21 = .ok (.iload_n 1, 1) := by decide +kernel
theorem dX11_refusedSlot_22 : decode cX11_refusedSlot 22 = .ok (.invokevirtual 400, 3) := by decide +kernel
theorem dX11_refusedSlot_25 : decode cX11_refusedSlot 25 = .ok (.ifCond .ne 6, 3) := by decide +kernel
theorem dX11_refusedSlot_28 : decode cX11_refusedSlot 28 = .ok (.bipush (-6), 2) := by decide +kernel
theorem dX11_refusedSlot_30 : decode cX11_refusedSlot 30 = .ok (.ireturn, 1) := by decide +kernel
theorem dX11_refusedSlot_31 : decode cX11_refusedSlot 31 = .ok (.aload_n 0, 1) := by decide +kernel
theorem dX11_refusedSlot_32 : decode cX11_refusedSlot 32 = .ok (.getfield 34, 3) := by decide +kernel
theorem dX11_refusedSlot_35 : decode cX11_refusedSlot 35 = .ok (.iload_n 1, 1) := by decide +kernel
theorem dX11_refusedSlot_36 : decode cX11_refusedSlot 36 = .ok (.aload_n 0, 1) := by decide +kernel
theorem dX11_refusedSlot_37 : decode cX11_refusedSlot 37 = .ok (.getfield 19, 3) := by decide +kernel
theorem dX11_refusedSlot_40 : decode cX11_refusedSlot 40 = .ok (.getfield 192, 3) := by decide +kernel
theorem dX11_refusedSlot_43 : decode cX11_refusedSlot 43 = .ok (.invokevirtual 423, 3) := by decide +kernel
theorem dX11_refusedSlot_46 : decode cX11_refusedSlot 46 = .ok (.ifCond .eq 7, 3) := by decide +kernel
theorem dX11_refusedSlot_49 : decode cX11_refusedSlot 49 = .ok (.iconst 0, 1) := by decide +kernel
theorem dX11_refusedSlot_50 : decode cX11_refusedSlot 50 = .ok (.goto 5, 3) := by decide +kernel
theorem dX11_refusedSlot_53 : decode cX11_refusedSlot 53 = .ok (.bipush (-2), 2) := by decide +kernel
theorem dX11_refusedSlot_55 : decode cX11_refusedSlot 55 = .ok (.ireturn, 1) := by decide +kernel
theorem dX12_init_0 : decode cX12_init 0 = .ok (.aload_n 0, 1) := by decide +kernel
theorem dX12_init_1 : decode cX12_init 1 = .ok (.invokespecial 1, 3) := by decide +kernel
theorem dX12_init_4 : decode cX12_init 4 = .ok (.aload_n 0, 1) := by decide +kernel
theorem dX12_init_5 : decode cX12_init 5 = .ok (.iconst 4, 1) := by decide +kernel
theorem dX12_init_6 : decode cX12_init 6 = .ok (.newarray .int, 2) := by decide +kernel
theorem dX12_init_8 : decode cX12_init 8 = .ok (.putfield 7, 3) := by decide +kernel
theorem dX12_init_11 : decode cX12_init 11 = .ok (.aload_n 0, 1) := by decide +kernel
theorem dX12_init_12 : decode cX12_init 12 = .ok (.iconst 4, 1) := by decide +kernel
theorem dX12_init_13 : decode cX12_init 13 = .ok (.newarray .int, 2) := by decide +kernel
theorem dX12_init_15 : decode cX12_init 15 = .ok (.putfield 13, 3) := by decide +kernel
theorem dX12_init_18 : decode cX12_init 18 = .ok (.aload_n 0, 1) := by decide +kernel
theorem dX12_init_19 : decode cX12_init 19 = .ok (.sipush 240, 3) := by decide +kernel
theorem dX12_init_22 : decode cX12_init 22 = .ok (.newarray .long, 2) := by decide +kernel
theorem dX12_init_24 : decode cX12_init 24 = .ok (.putfield 16, 3) := by decide +kernel
theorem dX12_init_27 : decode cX12_init 27 = .ok (.aload_n 0, 1) := by decide +kernel
theorem dX12_init_28 : decode cX12_init 28 = .ok (.bipush 60, 2) := by decide +kernel
theorem dX12_init_30 : decode cX12_init 30 = .ok (.newarray .long, 2) := by decide +kernel
theorem dX12_init_32 : decode cX12_init 32 = .ok (.putfield 20, 3) := by decide +kernel
theorem dX12_init_35 : decode cX12_init 35 = .ok (.aload_n 0, 1) := by decide +kernel
theorem dX12_init_36 : decode cX12_init 36 = .ok (.sipush 1000, 3) := by decide +kernel
theorem dX12_init_39 : decode cX12_init 39 = .ok (.newarray .byte, 2) := by decide +kernel
theorem dX12_init_41 : decode cX12_init 41 = .ok (.putfield 23, 3) := by decide +kernel
theorem dX12_init_44 : decode cX12_init 44 = .ok (.aload_n 0, 1) := by decide +kernel
theorem dX12_init_45 : decode cX12_init 45 = .ok (.iconst (-1), 1) := by decide +kernel
theorem dX12_init_46 : decode cX12_init 46 = .ok (.putfield 27, 3) := by decide +kernel
theorem dX12_init_49 : decode cX12_init 49 = .ok (.aload_n 0, 1) := by decide +kernel
theorem dX12_init_50 : decode cX12_init 50 = .ok (.iconst 5, 1) := by decide +kernel
theorem dX12_init_51 : decode cX12_init 51 = .ok (.newarray .int, 2) := by decide +kernel
theorem dX12_init_53 : decode cX12_init 53 = .ok (.putfield 31, 3) := by decide +kernel
theorem dX12_init_56 : decode cX12_init 56 = .ok (.aload_n 0, 1) := by decide +kernel
theorem dX12_init_57 : decode cX12_init 57 = .ok (.bipush 30, 2) := by decide +kernel
theorem dX12_init_59 : decode cX12_init 59 = .ok (.newarray .int, 2) := by decide +kernel
theorem dX12_init_61 : decode cX12_init 61 = .ok (.putfield 34, 3) := by decide +kernel
theorem dX12_init_64 : decode cX12_init 64 = .ok (.aload_n 0, 1) := by decide +kernel
theorem dX12_init_65 : decode cX12_init 65 = .ok (.sipush 250, 3) := by decide +kernel
theorem dX12_init_68 : decode cX12_init 68 = .ok (.newarray .int, 2) := by decide +kernel
theorem dX12_init_70 : decode cX12_init 70 = .ok (.putfield 37, 3) := by decide +kernel
theorem dX12_init_73 : decode cX12_init 73 = .ok (.aload_n 0, 1) := by decide +kernel
theorem dX12_init_74 : decode cX12_init 74 = .ok (.bipush 40, 2) := by decide +kernel
theorem dX12_init_76 : decode cX12_init 76 = .ok (.newarray .int, 2) := by decide +kernel
theorem dX12_init_78 : decode cX12_init 78 = .ok (.putfield 40, 3) := by decide +kernel
theorem dX12_init_81 : decode cX12_init 81 = .ok (.aload_n 0, 1) := by decide +kernel
theorem dX12_init_82 : decode cX12_init 82 = .ok (.bipush 120, 2) := by decide +kernel
theorem dX12_init_84 : decode cX12_init 84 = .ok (.newarray .int, 2) := by decide +kernel
theorem dX12_init_86 : decode cX12_init 86 = .ok (.putfield 43, 3) := by decide +kernel
theorem dX12_init_89 : decode cX12_init 89 = .ok (.aload_n 0, 1) := by decide +kernel
theorem dX12_init_90 : decode cX12_init 90 = .ok (.bipush 20, 2) := by decide +kernel
theorem dX12_init_92 : decode cX12_init 92 = .ok (.newarray .int, 2) := by decide +kernel
theorem dX12_init_94 : decode cX12_init 94 = .ok (.putfield 46, 3) := by decide +kernel
theorem dX12_init_97 : decode cX12_init 97 = .ok (.aload_n 0, 1) := by decide +kernel
theorem dX12_init_98 : decode cX12_init 98 = .ok (.sipush 600, 3) := by decide +kernel
theorem dX12_init_101 : decode cX12_init 101 = .ok (.newarray .int, 2) := by decide +kernel
theorem dX12_init_103 : decode cX12_init 103 = .ok (.putfield 49, 3) := by decide +kernel
theorem dX12_init_106 : decode cX12_init 106 = .ok (.aload_n 0, 1) := by decide +kernel
theorem dX12_init_107 : decode cX12_init 107 = .ok (.iconst 3, 1) := by decide +kernel
theorem dX12_init_108 : decode cX12_init 108 = .ok (.newarray .boolean, 2) := by decide +kernel
theorem dX12_init_110 : decode cX12_init 110 = .ok (.putfield 52, 3) := by decide +kernel
theorem dX12_init_113 : decode cX12_init 113 = .ok (.aload_n 0, 1) := by decide +kernel
theorem dX12_init_114 : decode cX12_init 114 = .ok (.iconst 4, 1) := by decide +kernel
theorem dX12_init_115 : decode cX12_init 115 = .ok (.newarray .int, 2) := by decide +kernel
theorem dX12_init_117 : decode cX12_init 117 = .ok (.putfield 56, 3) := by decide +kernel
theorem dX12_init_120 : decode cX12_init 120 = .ok (.aload_n 0, 1) := by decide +kernel
theorem dX12_init_121 : decode cX12_init 121 = .ok (.bipush 8, 2) := by decide +kernel
theorem dX12_init_123 : decode cX12_init 123 = .ok (.newarray .int, 2) := by decide +kernel
theorem dX12_init_125 : decode cX12_init 125 = .ok (.putfield 59, 3) := by decide +kernel
theorem dX12_init_128 : decode cX12_init 128 = .ok (.aload_n 0, 1) := by decide +kernel
theorem dX12_init_129 : decode cX12_init 129 = .ok (.bipush 8, 2) := by decide +kernel
theorem dX12_init_131 : decode cX12_init 131 = .ok (.newarray .int, 2) := by decide +kernel
theorem dX12_init_133 : decode cX12_init 133 = .ok (.putfield 62, 3) := by decide +kernel
theorem dX12_init_136 : decode cX12_init 136 = .ok (.aload_n 0, 1) := by decide +kernel
theorem dX12_init_137 : decode cX12_init 137 = .ok (.bipush 8, 2) := by decide +kernel
theorem dX12_init_139 : decode cX12_init 139 = .ok (.newarray .int, 2) := by decide +kernel
theorem dX12_init_141 : decode cX12_init 141 = .ok (.putfield 65, 3) := by decide +kernel
theorem dX12_init_144 : decode cX12_init 144 = .ok (.aload_n 0, 1) := by decide +kernel
theorem dX12_init_145 : decode cX12_init 145 = .ok (.bipush 8, 2) := by decide +kernel
theorem dX12_init_147 : decode cX12_init 147 = .ok (.newarray .int, 2) := by decide +kernel
theorem dX12_init_149 : decode cX12_init 149 = .ok (.putfield 68, 3) := by decide +kernel
theorem dX12_init_152 : decode cX12_init 152 = .ok (.aload_n 0, 1) := by decide +kernel
theorem dX12_init_153 : decode cX12_init 153 = .ok (.sipush 400, 3) := by decide +kernel
theorem dX12_init_156 : decode cX12_init 156 = .ok (.newarray .boolean, 2) := by decide +kernel
theorem dX12_init_158 : decode cX12_init 158 = .ok (.putfield 71, 3) := by decide +kernel
theorem dX12_init_161 : decode cX12_init 161 = .ok (.aload_n 0, 1) := by decide +kernel
theorem dX12_init_162 : decode cX12_init 162 = .ok (.sipush 3200, 3) := by decide +kernel
theorem dX12_init_165 : decode cX12_init 165 = .ok (.newarray .int, 2) := by decide +kernel
theorem dX12_init_167 : decode cX12_init 167 = .ok (.putfield 74, 3) := by decide +kernel
theorem dX12_init_170 : decode cX12_init 170 = .ok (.aload_n 0, 1) := by decide +kernel
theorem dX12_init_171 : decode cX12_init 171 = .ok (.sipush 1001, 3) := by decide +kernel
theorem dX12_init_174 : decode cX12_init 174 = .ok (.newarray .int, 2) := by decide +kernel
theorem dX12_init_176 : decode cX12_init 176 = .ok (.putfield 77, 3) := by decide +kernel
theorem dX12_init_179 : decode cX12_init 179 = .ok (.aload_n 0, 1) := by decide +kernel
theorem dX12_init_180 : decode cX12_init 180 = .ok (.bipush 6, 2) := by decide +kernel
theorem dX12_init_182 : decode cX12_init 182 = .ok (.newarray .int, 2) := by decide +kernel
theorem dX12_init_184 : decode cX12_init 184 = .ok (.putfield 80, 3) := by decide +kernel
theorem dX12_init_187 : decode cX12_init 187 = .ok (.aload_n 0, 1) := by decide +kernel
theorem dX12_init_188 : decode cX12_init 188 = .ok (.bipush 6, 2) := by decide +kernel
theorem dX12_init_190 : decode cX12_init 190 = .ok (.newarray .int, 2) := by decide +kernel
theorem dX12_init_192 : decode cX12_init 192 = .ok (.putfield 83, 3) := by decide +kernel
theorem dX12_init_195 : decode cX12_init 195 = .ok (.aload_n 0, 1) := by decide +kernel
theorem dX12_init_196 : decode cX12_init 196 = .ok (.bipush 44, 2) := by decide +kernel
theorem dX12_init_198 : decode cX12_init 198 = .ok (.newarray .int, 2) := by decide +kernel
theorem dX12_init_200 : decode cX12_init 200 = .ok (.putfield 86, 3) := by decide +kernel
theorem dX12_init_203 : decode cX12_init 203 = .ok (.aload_n 0, 1) := by decide +kernel
theorem dX12_init_204 : decode cX12_init 204 = .ok (.sipush 1000, 3) := by decide +kernel
theorem dX12_init_207 : decode cX12_init 207 = .ok (.newarray .long, 2) := by decide +kernel
theorem dX12_init_209 : decode cX12_init 209 = .ok (.putfield 89, 3) := by decide +kernel
theorem dX12_init_212 : decode cX12_init 212 = .ok (.iconst 0, 1) := by decide +kernel
theorem dX12_init_213 : decode cX12_init 213 = .ok (.istore_n 1, 1) := by decide +kernel
theorem dX12_init_214 : decode cX12_init 214 = .ok (.iload_n 1, 1) := by decide +kernel
theorem dX12_init_215 : decode cX12_init 215 = .ok (.iconst 4, 1) := by decide +kernel
theorem dX12_init_216 : decode cX12_init 216 = .ok (.if_icmp .ge 16, 3) := by decide +kernel
theorem dX12_init_219 : decode cX12_init 219 = .ok (.aload_n 0, 1) := by decide +kernel
theorem dX12_init_220 : decode cX12_init 220 = .ok (.getfield 7, 3) := by decide +kernel
theorem dX12_init_223 : decode cX12_init 223 = .ok (.iload_n 1, 1) := by decide +kernel
theorem dX12_init_224 : decode cX12_init 224 = .ok (.iconst (-1), 1) := by decide +kernel
theorem dX12_init_225 : decode cX12_init 225 = .ok (.iastore, 1) := by decide +kernel
theorem dX12_init_226 : decode cX12_init 226 = .ok (.iinc 1 1, 3) := by decide +kernel
theorem dX12_init_229 : decode cX12_init 229 = .ok (.goto (-15), 3) := by decide +kernel
theorem dX12_init_232 : decode cX12_init 232 = .ok (.return_, 1) := by decide +kernel
theorem dX12_in_0 : decode cX12_in 0 = .ok (.lload_n 0, 1) := by decide +kernel
theorem dX12_in_1 : decode cX12_in 1 = .ok (.lload_n 2, 1) := by decide +kernel
theorem dX12_in_2 : decode cX12_in 2 = .ok (.lcmp, 1) := by decide +kernel
theorem dX12_in_3 : decode cX12_in 3 = .ok (.ifCond .lt 14, 3) := by decide +kernel
theorem dX12_in_6 : decode cX12_in 6 = .ok (.lload_n 0, 1) := by decide +kernel
theorem dX12_in_7 : decode cX12_in 7 = .ok (.lload 4, 2) := by decide +kernel
theorem dX12_in_9 : decode cX12_in 9 = .ok (.lcmp, 1) := by decide +kernel
theorem dX12_in_10 : decode cX12_in 10 = .ok (.ifCond .gt 7, 3) := by decide +kernel
theorem dX12_in_13 : decode cX12_in 13 = .ok (.iconst 1, 1) := by decide +kernel
theorem dX12_in_14 : decode cX12_in 14 = .ok (.goto 4, 3) := by decide +kernel
theorem dX12_in_17 : decode cX12_in 17 = .ok (.iconst 0, 1) := by decide +kernel
theorem dX12_in_18 : decode cX12_in 18 = .ok (.ireturn, 1) := by decide +kernel
theorem dX12_isSlot_0 : decode cX12_isSlot 0 = .ok (.iload_n 0, 1) := by decide +kernel
theorem dX12_isSlot_1 : decode cX12_isSlot 1 = .ok (.i2l, 1) := by decide +kernel
theorem dX12_isSlot_2 : decode cX12_isSlot 2 = .ok (.lconst 0, 1) := by decide +kernel
theorem dX12_isSlot_3 : decode cX12_isSlot 3 = .ok (.ldc2_w 95, 3) := by decide +kernel
theorem dX12_isSlot_6 : decode cX12_isSlot 6 = .ok (.invokestatic 97, 3) := by decide +kernel
theorem dX12_isSlot_9 : decode cX12_isSlot 9 = .ok (.ireturn, 1) := by decide +kernel
theorem dX12_row_0 : decode cX12_row 0 = .ok (.aload_n 0, 1) := by decide +kernel
theorem dX12_row_1 : decode cX12_row 1 = .ok (.iconst 0, 1) := by decide +kernel
theorem dX12_row_2 : decode cX12_row 2 = .ok (.putfield 92, 3) := by decide +kernel
theorem dX12_row_5 : decode cX12_row 5 = .ok (.iload_n 1, 1) := by decide +kernel
theorem dX12_row_6 : decode cX12_row 6 = .ok (.invokestatic 101, 3) := by decide +kernel
theorem dX12_row_9 : decode cX12_row 9 = .ok (.ifCond .eq 21, 3) := by decide +kernel
theorem dX12_row_12 : decode cX12_row 12 = .ok (.iload_n 2, 1) := by decide +kernel
theorem dX12_row_13 : decode cX12_row 13 = .ok (.i2l, 1) := by decide +kernel
theorem dX12_row_14 : decode cX12_row 14 = .ok (.lconst 0, 1) := by decide +kernel
theorem dX12_row_15 : decode cX12_row 15 = .ok (.ldc2_w 95, 3) := by decide +kernel
theorem dX12_row_18 : decode cX12_row 18 = .ok (.invokestatic 97, 3) := by decide +kernel
theorem dX12_row_21 : decode cX12_row 21 = .ok (.ifCond .eq 9, 3) := by decide +kernel
theorem dX12_row_24 : decode cX12_row 24 = .ok (.iload_n 3, 1) := by decide +kernel
theorem dX12_row_25 : decode cX12_row 25 = .ok (.bipush 60, 2) := by decide +kernel
theorem dX12_row_27 : decode cX12_row 27 = .ok (.if_icmp .le 6, 3) := by decide +kernel
theorem dX12_row_30 : decode cX12_row 30 = .ok (.bipush (-2), 2) := by decide +kernel
theorem dX12_row_32 : decode cX12_row 32 = .ok (.ireturn, 1) := by decide +kernel
theorem dX12_row_33 : decode cX12_row 33 = .ok (.iload_n 3, 1) := by decide +kernel
theorem dX12_row_34 : decode cX12_row 34 = .ok (.ifCond .ge 6, 3) := by decide +kernel
theorem dX12_row_37 : decode cX12_row 37 = .ok (.bipush (-3), 2) := by decide +kernel
theorem dX12_row_39 : decode cX12_row 39 = .ok (.ireturn, 1) := by decide +kernel
theorem dX12_row_40 : decode cX12_row 40 = .ok (.aload_n 0, 1) := by decide +kernel
theorem dX12_row_41 : decode cX12_row 41 = .ok (.getfield 7, 3) := by decide +kernel
theorem dX12_row_44 : decode cX12_row 44 = .ok (.iload_n 1, 1) := by decide +kernel
theorem dX12_row_45 : decode cX12_row 45 = .ok (.iload_n 2, 1) := by decide +kernel
theorem dX12_row_46 : decode cX12_row 46 = .ok (.iastore, 1) := by decide +kernel
theorem dX12_row_47 : decode cX12_row 47 = .ok (.aload_n 0, 1) := by decide +kernel
theorem dX12_row_48 : decode cX12_row 48 = .ok (.getfield 13, 3) := by decide +kernel
theorem dX12_row_51 : decode cX12_row 51 = .ok (.iload_n 1, 1) := by decide +kernel
theorem dX12_row_52 : decode cX12_row 52 = .ok (.iload_n 3, 1) := by decide +kernel
theorem dX12_row_53 : decode cX12_row 53 = .ok (.iastore, 1) := by decide +kernel
theorem dX12_row_54 : decode cX12_row 54 = .ok (.iconst 0, 1) := by decide +kernel
theorem dX12_row_55 : decode cX12_row 55 = .ok (.istore 4, 2) := by decide +kernel
theorem dX12_row_57 : decode cX12_row 57 = .ok (.iload 4, 2) := by decide +kernel
theorem dX12_row_59 : decode cX12_row 59 = .ok (.iload_n 3, 1) := by decide +kernel
theorem dX12_row_60 : decode cX12_row 60 = .ok (.if_icmp .ge 22, 3) := by decide +kernel
theorem dX12_row_63 : decode cX12_row 63 = .ok (.aload_n 0, 1) := by decide +kernel
theorem dX12_row_64 : decode cX12_row 64 = .ok (.getfield 16, 3) := by decide +kernel
theorem dX12_row_67 : decode cX12_row 67 = .ok (.bipush 60, 2) := by decide +kernel
theorem dX12_row_69 : decode cX12_row 69 = .ok (.iload_n 1, 1) := by decide +kernel
theorem dX12_row_70 : decode cX12_row 70 = .ok (.imul, 1) := by decide +kernel
theorem dX12_row_71 : decode cX12_row 71 = .ok (.iload 4, 2) := by decide +kernel
theorem dX12_row_73 : decode cX12_row 73 = .ok (.iadd, 1) := by decide +kernel
theorem dX12_row_74 : decode cX12_row 74 = .ok (.lconst 0, 1) := by decide +kernel
theorem dX12_row_75 : decode cX12_row 75 = .ok (.lastore, 1) := by decide +kernel
theorem dX12_row_76 : decode cX12_row 76 = .ok (.iinc 4 1, 3) := by decide +kernel
theorem dX12_row_79 : decode cX12_row 79 = .ok (.goto (-22), 3) := by decide +kernel
theorem dX12_row_82 : decode cX12_row 82 = .ok (.iconst 0, 1) := by decide +kernel
theorem dX12_row_83 : decode cX12_row 83 = .ok (.ireturn, 1) := by decide +kernel
theorem dX12_cut_0 : decode cX12_cut 0 = .ok (.iload_n 2, 1) := by decide +kernel
theorem dX12_cut_1 : decode cX12_cut 1 = .ok (.ifCond .ne 10, 3) := by decide +kernel
theorem dX12_cut_4 : decode cX12_cut 4 = .ok (.lload_n 0, 1) := by decide +kernel
theorem dX12_cut_5 : decode cX12_cut 5 = .ok (.l2i, 1) := by decide +kernel
theorem dX12_cut_6 : decode cX12_cut 6 = .ok (.i2b, 1) := by decide +kernel
theorem dX12_cut_7 : decode cX12_cut 7 = .ok (.i2l, 1) := by decide +kernel
theorem dX12_cut_8 : decode cX12_cut 8 = .ok (.goto 27, 3) := by decide +kernel
